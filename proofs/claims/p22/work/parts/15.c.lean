theorem dX11_commonDivisor_0 : decode cX11_commonDivisor 0 = .ok (.lload_n 0, 1) := by decide +kernel
theorem dX11_commonDivisor_1 : decode cX11_commonDivisor 1 = .ok (.lstore 4, 2) := by decide +kernel
theorem dX11_commonDivisor_3 : decode cX11_commonDivisor 3 = .ok (.lload_n 2, 1) := by decide +kernel
theorem dX11_commonDivisor_4 : decode cX11_commonDivisor 4 = .ok (.lstore 6, 2) := by decide +kernel
theorem dX11_commonDivisor_6 : decode cX11_commonDivisor 6 = .ok (.iconst 0, 1) := by decide +kernel
theorem dX11_commonDivisor_7 : decode cX11_commonDivisor 7 = .ok (.istore 8, 2) := by decide +kernel
theorem dX11_commonDivisor_9 : decode cX11_commonDivisor 9 = .ok (.iload 8, 2) := by decide +kernel
theorem dX11_commonDivisor_11 : decode cX11_commonDivisor 11 = .ok (.bipush 100, 2) := by decide +kernel
theorem dX11_commonDivisor_13 : decode cX11_commonDivisor 13 = .ok (.if_icmp .ge 31, 3) := by decide +kernel
theorem dX11_commonDivisor_16 : decode cX11_commonDivisor 16 = .ok (.lload 6, 2) := by decide +kernel
theorem dX11_commonDivisor_18 : decode cX11_commonDivisor 18 = .ok (.lconst 0, 1) := by decide +kernel
theorem dX11_commonDivisor_19 : decode cX11_commonDivisor 19 = .ok (.lcmp, 1) := by decide +kernel
theorem dX11_commonDivisor_20 : decode cX11_commonDivisor 20 = .ok (.ifCond .eq 24, 3) := by decide +kernel
theorem dX11_commonDivisor_23 : decode cX11_commonDivisor 23 = .ok (.lload 4, 2) := by decide +kernel
theorem dX11_commonDivisor_25 : decode cX11_commonDivisor 25 = .ok (.lload 6, 2) := by decide +kernel
theorem dX11_commonDivisor_27 : decode cX11_commonDivisor 27 = .ok (.lrem, 1) := by decide +kernel
theorem dX11_commonDivisor_28 : decode cX11_commonDivisor 28 = .ok (.lstore 9, 2) := by decide +kernel
theorem dX11_commonDivisor_30 : decode cX11_commonDivisor 30 = .ok (.lload 6, 2) := by decide +kernel
theorem dX11_commonDivisor_32 : decode cX11_commonDivisor 32 = .ok (.lstore 4, 2) := by decide +kernel
theorem dX11_commonDivisor_34 : decode cX11_commonDivisor 34 = .ok (.lload 9, 2) := by decide +kernel
theorem dX11_commonDivisor_36 : decode cX11_commonDivisor 36 = .ok (.lstore 6, 2) := by decide +kernel
theorem dX11_commonDivisor_38 : decode cX11_commonDivisor 38 = .ok (.iinc 8 1, 3) := by decide +kernel
theorem dX11_commonDivisor_41 : decode cX11_commonDivisor 41 = .ok (.goto (-32), 3) := by decide +kernel
theorem dX11_commonDivisor_44 : decode cX11_commonDivisor 44 = .ok (.lload 4, 2) := by decide +kernel
theorem dX11_commonDivisor_46 : decode cX11_commonDivisor 46 = .ok (.lreturn, 1) := by decide +kernel
set_option maxHeartbeats 4000000 in
set_option maxRecDepth 100000 in
theorem c_X11_commonDivisor (G : KG) (l : Launch) (M : Mem) (a0 : Int) (a1 : Int) (hI_M : Inv false M) (hpre : -9223372036854775808 ≤ a0 ∧ a0 ≤ 9223372036854775807 ∧ -9223372036854775808 ≤ a1 ∧ a1 ≤ 9223372036854775807) : KC false G l yX11_commonDivisor cX11_commonDivisor 11 (some .long) (0, 0) [vL a0, vL a1] M (fun A => kQl false G A (fun (r : Int) (N : Mem) => M = N ∧ (r ≥ -9223372036854775808 ∧ r ≤ 9223372036854775807))) := by
  refine kx_met (lo := [some (vL a0), none, some (vL a1), none, none, none, none, none, none, none, none]) (by decide) (Nat.le_of_ble_eq_true rfl) rfl ?_
  intro X F hQ
  refine kx_lload_n 1 F 0 dX11_commonDivisor_0 rfl rfl rfl ?_
  refine kx_lstore 3 F 4 (lo' := [some (vL a0), none, some (vL a1), none, some (vL a0), none, none, none, none, none, none]) dX11_commonDivisor_1 (by decide) rfl rfl rfl ?_
  refine kx_lload_n 4 F 2 dX11_commonDivisor_3 rfl rfl rfl ?_
  refine kx_lstore 6 F 6 (lo' := [some (vL a0), none, some (vL a1), none, some (vL a0), none, some (vL a1), none, none, none, none]) dX11_commonDivisor_4 (by decide) rfl rfl rfl ?_
  refine kx_iconst 7 F dX11_commonDivisor_6 rfl ?_
  refine kx_istore 9 F 8 (lo' := [some (vL a0), none, some (vL a1), none, some (vL a0), none, some (vL a1), none, some (vI 0), none, none]) dX11_commonDivisor_7 (by decide) rfl rfl rfl ?_
  have L_74 : ∀ (n_75 : Nat) (x4_71 : Int) (x6_72 : Int) (x8_73 : Int), (-9223372036854775808) ≤ x4_71 ∧ x4_71 ≤ 9223372036854775807 ∧ (-9223372036854775808) ≤ x6_72 ∧ x6_72 ≤ 9223372036854775807 ∧ 0 ≤ x8_73 ∧ x8_73 ≤ 100 → (100 - (x8_73)).toNat = n_75 → KJ false G X M 9 [none, none, none, none, some (vL x4_71), none, some (vL x6_72), none, some (vI x8_73), none, none] [] := by
    intro n_75
    refine Nat.strongRecOn n_75 ?_
    intro n_75 ih_76 x4_71 x6_72 x8_73 h_77 hm_78
    refine kx_iload 11 F 8 dX11_commonDivisor_9 rfl rfl ?_
    refine kx_bipush 13 F dX11_commonDivisor_11 (by decide) rfl ?_
    refine kx_icmp_ge 16 F 44 dX11_commonDivisor_13 (by decide) rfl (by omega) (by decide) (fun h_79 => ?_) (fun h_79 => ?_)
    · refine kx_lload 46 F 4 dX11_commonDivisor_44 rfl rfl ?_
      exact kx_lret F hQ ⟨rfl, (by omega)⟩ dX11_commonDivisor_46
    · refine kx_lload 18 F 6 dX11_commonDivisor_16 rfl rfl ?_
      refine kx_lconst 19 (z := 0) F dX11_commonDivisor_18 (by decide) rfl ?_
      refine kx_lcmp 20 F dX11_commonDivisor_19 (by omega) (by omega) rfl (fun w_80 h_81 => ?_)
      refine kx_if_eq 23 F 44 dX11_commonDivisor_20 (by decide) rfl (by omega) (fun h_82 => ?_) (fun h_82 => ?_)
      · refine kx_lload 46 F 4 dX11_commonDivisor_44 rfl rfl ?_
        exact kx_lret F hQ ⟨rfl, (by omega)⟩ dX11_commonDivisor_46
      · refine kx_lload 25 F 4 dX11_commonDivisor_23 rfl rfl ?_
        refine kx_lload 27 F 6 dX11_commonDivisor_25 rfl rfl ?_
        refine kx_lrem 28 F dX11_commonDivisor_27 (by omega) (by omega) (by omega) rfl (fun w_83 h_84 => ?_)
        have h_85 := Int.natAbs_tmod_le_z x4_71 x6_72 (by omega)
        rw [← h_84] at h_85
        refine kx_lstore 30 F 9 (lo' := [none, none, none, none, some (vL x4_71), none, some (vL x6_72), none, some (vI x8_73), some (vL w_83), none]) dX11_commonDivisor_28 (by decide) rfl rfl rfl ?_
        refine kx_lload 32 F 6 dX11_commonDivisor_30 rfl rfl ?_
        refine kx_lstore 34 F 4 (lo' := [none, none, none, none, some (vL x6_72), none, some (vL x6_72), none, some (vI x8_73), some (vL w_83), none]) dX11_commonDivisor_32 (by decide) rfl rfl rfl ?_
        refine kx_lload 36 F 9 dX11_commonDivisor_34 rfl rfl ?_
        refine kx_lstore 38 F 6 (lo' := [none, none, none, none, some (vL x6_72), none, some (vL w_83), none, some (vI x8_73), some (vL w_83), none]) dX11_commonDivisor_36 (by decide) rfl rfl rfl ?_
        refine kx_iinc 41 F 8 (v := x8_73 + 1) (lo' := [none, none, none, none, some (vL x6_72), none, some (vL w_83), none, some (vI (x8_73 + 1)), some (vL w_83), none]) dX11_commonDivisor_38 rfl (by omega) (by decide) rfl rfl rfl ?_
        refine kx_goto 9 F dX11_commonDivisor_41 (by decide) ?_
        refine kx_drop 9 (lo' := [none, none, none, none, some (vL x6_72), none, some (vL w_83), none, some (vI (x8_73 + 1)), none, none]) rfl ?_
        exact ih_76 _ (by omega) x6_72 w_83 (x8_73 + 1) (by omega) rfl
  refine kx_drop 0 (lo' := [none, none, some (vL a1), none, some (vL a0), none, some (vL a1), none, some (vI 0), none, none]) rfl ?_
  refine kx_drop 2 (lo' := [none, none, none, none, some (vL a0), none, some (vL a1), none, some (vI 0), none, none]) rfl ?_
  exact L_74 _ a0 a1 0 (by omega) rfl
theorem dX11_tellFraction_0 : decode cX11_tellFraction 0 = .ok (.lload_n 1, 1) := by decide +kernel
theorem dX11_tellFraction_1 : decode cX11_tellFraction 1 = .ok (.lload_n 3, 1) := by decide +kernel
theorem dX11_tellFraction_2 : decode cX11_tellFraction 2 = .ok (.invokestatic 408, 3) := by decide +kernel
theorem dX11_tellFraction_5 : decode cX11_tellFraction 5 = .ok (.lstore 5, 2) := by decide +kernel
theorem dX11_tellFraction_7 : decode cX11_tellFraction 7 = .ok (.lload 5, 2) := by decide +kernel
theorem dX11_tellFraction_9 : decode cX11_tellFraction 9 = .ok (.lconst 0, 1) := by decide +kernel
theorem dX11_tellFraction_10 : decode cX11_tellFraction 10 = .ok (.lcmp, 1) := by decide +kernel
theorem dX11_tellFraction_11 : decode cX11_tellFraction 11 = .ok (.ifCond .gt 4, 3) := by decide +kernel
theorem dX11_tellFraction_14 : decode cX11_tellFraction 14 = .ok (.return_, 1) := by decide +kernel
theorem dX11_tellFraction_15 : decode cX11_tellFraction 15 = .ok (.aload_n 0, 1) := by decide +kernel
theorem dX11_tellFraction_16 : decode cX11_tellFraction 16 = .ok (.lload_n 1, 1) := by decide +kernel
theorem dX11_tellFraction_17 : decode cX11_tellFraction 17 = .ok (.lload 5, 2) := by decide +kernel
theorem dX11_tellFraction_19 : decode cX11_tellFraction 19 = .ok (.ldiv, 1) := by decide +kernel
theorem dX11_tellFraction_20 : decode cX11_tellFraction 20 = .ok (.putfield 76, 3) := by decide +kernel
theorem dX11_tellFraction_23 : decode cX11_tellFraction 23 = .ok (.aload_n 0, 1) := by decide +kernel
theorem dX11_tellFraction_24 : decode cX11_tellFraction 24 = .ok (.lload_n 3, 1) := by decide +kernel
theorem dX11_tellFraction_25 : decode cX11_tellFraction 25 = .ok (.lload 5, 2) := by decide +kernel
theorem dX11_tellFraction_27 : decode cX11_tellFraction 27 = .ok (.ldiv, 1) := by decide +kernel
theorem dX11_tellFraction_28 : decode cX11_tellFraction 28 = .ok (.putfield 80, 3) := by decide +kernel
theorem dX11_tellFraction_31 : decode cX11_tellFraction 31 = .ok (.return_, 1) := by decide +kernel
abbrev f_c_X11_tellFraction : List (Nat × Int) := [(62, 1), (62, 2)]
set_option maxHeartbeats 4000000 in
set_option maxRecDepth 100000 in
theorem c_X11_tellFraction (G : KG) (l : Launch) (M : Mem) (c0 : Int) (a1 : Int) (a2 : Int) (hI_M : Inv false M) (hk_c0 : kd c0 = 62) (hpre : -9223372036854775808 ≤ a1 ∧ a1 ≤ 9223372036854775807 ∧ -9223372036854775808 ≤ a2 ∧ a2 ≤ 9223372036854775807) : KC false G l yX11_tellFraction cX11_tellFraction 7 none (1, 30) [vR G c0, vL a1, vL a2] M (fun A => kQv false G A (fun (N : Mem) => Inv false N ∧ Fr f_c_X11_tellFraction M N)) := by
  refine kx_met (lo := [some (vR G c0), some (vL a1), none, some (vL a2), none, none, none]) (by decide) (Nat.le_of_ble_eq_true rfl) rfl ?_
  intro X F hQ
  have hF_M : Fr f_c_X11_tellFraction M M := Fr.rf _ _
  refine kx_lload_n 1 F 1 dX11_tellFraction_0 rfl rfl rfl ?_
  refine kx_lload_n 2 F 3 dX11_tellFraction_1 rfl rfl rfl ?_
  refine kx_Sl 5 F (As := [vL a1, vL a2]) (st := []) sd_X11_408 (c_X11_commonDivisor G l M a1 a2 hI_M (by omega)) ⟨by decide, by decide⟩ rfl rfl (Nat.le_of_ble_eq_true rfl) dX11_tellFraction_2 rfl ?_
  intro r_1 N_2 q_3
  obtain ⟨rfl, q_3c⟩ := q_3
  refine kx_lstore 7 F 5 (lo' := [some (vR G c0), some (vL a1), none, some (vL a2), none, some (vL r_1), none]) dX11_tellFraction_5 (by decide) rfl rfl rfl ?_
  refine kx_lload 9 F 5 dX11_tellFraction_7 rfl rfl ?_
  refine kx_lconst 10 (z := 0) F dX11_tellFraction_9 (by decide) rfl ?_
  refine kx_lcmp 11 F dX11_tellFraction_10 (by omega) (by omega) rfl (fun w_4 h_5 => ?_)
  refine kx_if_gt 14 F 15 dX11_tellFraction_11 (by decide) rfl (by omega) (fun h_6 => ?_) (fun h_6 => ?_)
  · refine kx_aload_n 16 F 0 dX11_tellFraction_15 rfl rfl rfl ?_
    refine kx_lload_n 17 F 1 dX11_tellFraction_16 rfl rfl rfl ?_
    refine kx_lload 19 F 5 dX11_tellFraction_17 rfl rfl ?_
    refine kx_ldiv 20 F dX11_tellFraction_19 (by omega) (by omega) rfl (fun w_7 h_8 => ?_)
    refine kx_putl 23 F fw_X11_76 rfl hk_c0 rfl rfl (j := 1) rfl dX11_tellFraction_20 rfl ?_
    intro N_9 hM_N_9
    have hI_N_9 : Inv false N_9 := Inv.u hI_M hM_N_9 hk_c0 (a := (-9223372036854775808)) (b := 9223372036854775807) rfl rfl rfl (by omega)
    have hF_N_9 : Fr f_c_X11_tellFraction M N_9 := Fr.u hF_M hM_N_9 hk_c0 rfl
    refine kx_aload_n 24 F 0 dX11_tellFraction_23 rfl rfl rfl ?_
    refine kx_lload_n 25 F 3 dX11_tellFraction_24 rfl rfl rfl ?_
    refine kx_lload 27 F 5 dX11_tellFraction_25 rfl rfl ?_
    refine kx_ldiv 28 F dX11_tellFraction_27 (by omega) (by omega) rfl (fun w_10 h_11 => ?_)
    refine kx_putl 31 F fw_X11_80 rfl hk_c0 rfl rfl (j := 2) rfl dX11_tellFraction_28 rfl ?_
    intro N_12 hM_N_12
    have hI_N_12 : Inv false N_12 := Inv.u hI_N_9 hM_N_12 hk_c0 (a := (-9223372036854775808)) (b := 9223372036854775807) rfl rfl rfl (by omega)
    have hF_N_12 : Fr f_c_X11_tellFraction M N_12 := Fr.u hF_N_9 hM_N_12 hk_c0 rfl
    exact kx_vret F hQ ⟨hI_N_12, hF_N_12⟩ dX11_tellFraction_31
  · exact kx_vret F hQ ⟨hI_M, hF_M⟩ dX11_tellFraction_14
theorem dX11_sortAt_0 : decode cX11_sortAt 0 = .ok (.aload_n 0, 1) := by decide +kernel
theorem dX11_sortAt_1 : decode cX11_sortAt 1 = .ok (.getfield 26, 3) := by decide +kernel
theorem dX11_sortAt_4 : decode cX11_sortAt 4 = .ok (.aload_n 0, 1) := by decide +kernel
theorem dX11_sortAt_5 : decode cX11_sortAt 5 = .ok (.getfield 10, 3) := by decide +kernel
theorem dX11_sortAt_8 : decode cX11_sortAt 8 = .ok (.iload_n 1, 1) := by decide +kernel
theorem dX11_sortAt_9 : decode cX11_sortAt 9 = .ok (.iload_n 2, 1) := by decide +kernel
theorem dX11_sortAt_10 : decode cX11_sortAt 10 = .ok (.invokevirtual 114, 3) := by decide +kernel
theorem dX11_sortAt_13 : decode cX11_sortAt 13 = .ok (.l2i, 1) := by decide +kernel
theorem dX11_sortAt_14 : decode cX11_sortAt 14 = .ok (.invokevirtual 242, 3) := by decide +kernel
theorem dX11_sortAt_17 : decode cX11_sortAt 17 = .ok (.ireturn, 1) := by decide +kernel
set_option maxHeartbeats 4000000 in
set_option maxRecDepth 100000 in
theorem c_X11_sortAt (G : KG) (l : Launch) (M : Mem) (c0 : Int) (a1 : Int) (a2 : Int) (hI_M : Inv false M) (hk_c0 : kd c0 = 62) (hpre : -2147483648 ≤ a1 ∧ a1 ≤ 2147483647 ∧ -2147483648 ≤ a2 ∧ a2 ≤ 2147483647 ∧ 0 ≤ a1 ∧ a1 ≤ 3 ∧ 0 ≤ a2 ∧ a2 ≤ 59) : KC false G l yX11_sortAt cX11_sortAt 3 (some .int) (2, 42) [vR G c0, vI a1, vI a2] M (fun A => kQi false G A (fun (r : Int) (N : Mem) => M = N ∧ (r ≥ -1 ∧ r ≤ 2))) := by
  refine kx_met (lo := [some (vR G c0), some (vI a1), some (vI a2)]) (by decide) (Nat.le_of_ble_eq_true rfl) rfl ?_
  intro X F hQ
  refine kx_aload_n 1 F 0 dX11_sortAt_0 rfl rfl rfl ?_
  refine kx_getr 4 F fl_X11_26 hk_c0 rfl rfl (j := 5) rfl dX11_sortAt_1 (v := (M c0 5)) rfl rfl ?_
  have hk_1 : kd (M c0 5) = 12 := Inv.r hI_M hk_c0 rfl 5 rfl rfl
  refine kx_aload_n 5 F 0 dX11_sortAt_4 rfl rfl rfl ?_
  refine kx_getr 8 F fl_X11_10 hk_c0 rfl rfl (j := 3) rfl dX11_sortAt_5 (v := (M c0 3)) rfl rfl ?_
  have hk_2 : kd (M c0 3) = 13 := Inv.r hI_M hk_c0 rfl 3 rfl rfl
  refine kx_iload_n 9 F 1 dX11_sortAt_8 rfl rfl rfl ?_
  refine kx_iload_n 10 F 2 dX11_sortAt_9 rfl rfl rfl ?_
  refine kx_Vl 13 (ci := 0) F (As := [vI a1, vI a2]) (st := [vR G (M c0 5)]) vd_X11_114 (c_X9_get G l M (M c0 3) a1 a2 hI_M hk_2 (by omega)) hk_2 rfl rfl rfl ⟨by decide, by decide⟩ rfl rfl (Nat.le_of_ble_eq_true rfl) dX11_sortAt_10 rfl ?_
  intro r_3 N_4 q_5
  obtain ⟨rfl, q_5c⟩ := q_5
  have hk_6 : kd (M (M c0 3) 0) = 14 := Inv.r hI_M hk_2 rfl 0 rfl rfl
  refine kx_l2i 14 F dX11_sortAt_13 rfl ?_
  refine kx_wrapi (fun w_7 h_8 _ => ?_)
  refine kx_Vi 17 (ci := 0) F (As := [vI w_7]) (st := []) vd_X11_242 (c_X5_sortOf G l M (M c0 5) w_7 hI_M hk_1 (by omega)) hk_1 rfl rfl rfl ⟨by decide, by decide⟩ rfl rfl (Nat.le_of_ble_eq_true rfl) dX11_sortAt_14 rfl ?_
  intro r_9 N_10 q_11
  obtain ⟨rfl, q_11c⟩ := q_11
  have h_12 := Inv.g hI_M hk_1 rfl 2 (a := 0) (b := 6) rfl rfl
  rcases q_11c with q_11c | q_11c
  · exact kx_iret F hQ ⟨rfl, (by omega)⟩ dX11_sortAt_17
  · exact kx_iret F hQ ⟨rfl, (by omega)⟩ dX11_sortAt_17
theorem dX11_partnerPlace_0 : decode cX11_partnerPlace 0 = .ok (.aload_n 0, 1) := by decide +kernel
theorem dX11_partnerPlace_1 : decode cX11_partnerPlace 1 = .ok (.iload_n 1, 1) := by decide +kernel
theorem dX11_partnerPlace_2 : decode cX11_partnerPlace 2 = .ok (.iload_n 3, 1) := by decide +kernel
theorem dX11_partnerPlace_3 : decode cX11_partnerPlace 3 = .ok (.invokevirtual 256, 3) := by decide +kernel
theorem dX11_partnerPlace_6 : decode cX11_partnerPlace 6 = .ok (.istore 4, 2) := by decide +kernel
theorem dX11_partnerPlace_8 : decode cX11_partnerPlace 8 = .ok (.iload 4, 2) := by decide +kernel
theorem dX11_partnerPlace_10 : decode cX11_partnerPlace 10 = .ok (.iconst 2, 1) := by decide +kernel
theorem dX11_partnerPlace_11 : decode cX11_partnerPlace 11 = .ok (.if_icmp .ne 5, 3) := by decide +kernel
theorem dX11_partnerPlace_14 : decode cX11_partnerPlace 14 = .ok (.iconst (-1), 1) := by decide +kernel
theorem dX11_partnerPlace_15 : decode cX11_partnerPlace 15 = .ok (.ireturn, 1) := by decide +kernel
theorem dX11_partnerPlace_16 : decode cX11_partnerPlace 16 = .ok (.iload 4, 2) := by decide +kernel
theorem dX11_partnerPlace_18 : decode cX11_partnerPlace 18 = .ok (.ifCond .ne 7, 3) := by decide +kernel
theorem dX11_partnerPlace_21 : decode cX11_partnerPlace 21 = .ok (.iconst 1, 1) := by decide +kernel
theorem dX11_partnerPlace_22 : decode cX11_partnerPlace 22 = .ok (.goto 4, 3) := by decide +kernel
theorem dX11_partnerPlace_25 : decode cX11_partnerPlace 25 = .ok (.iconst (-1), 1) := by decide +kernel
theorem dX11_partnerPlace_26 : decode cX11_partnerPlace 26 = .ok (.istore 5, 2) := by decide +kernel
theorem dX11_partnerPlace_28 : decode cX11_partnerPlace 28 = .ok (.iconst 0, 1) := by decide +kernel
theorem dX11_partnerPlace_29 : decode cX11_partnerPlace 29 = .ok (.istore 6, 2) := by decide +kernel
theorem dX11_partnerPlace_31 : decode cX11_partnerPlace 31 = .ok (.iload_n 3, 1) := by decide +kernel
theorem dX11_partnerPlace_32 : decode cX11_partnerPlace 32 = .ok (.iload 5, 2) := by decide +kernel
theorem dX11_partnerPlace_34 : decode cX11_partnerPlace 34 = .ok (.iadd, 1) := by decide +kernel
theorem dX11_partnerPlace_35 : decode cX11_partnerPlace 35 = .ok (.istore 7, 2) := by decide +kernel
theorem dX11_partnerPlace_37 : decode cX11_partnerPlace 37 = .ok (.iload 7, 2) := by decide +kernel
theorem dX11_partnerPlace_39 : decode cX11_partnerPlace 39 = .ok (.ifCond .lt 67, 3) := by decide +kernel
theorem dX11_partnerPlace_42 : decode cX11_partnerPlace 42 = .ok (.iload 7, 2) := by decide +kernel
theorem dX11_partnerPlace_44 : decode cX11_partnerPlace 44 = .ok (.iload_n 2, 1) := by decide +kernel
theorem dX11_partnerPlace_45 : decode cX11_partnerPlace 45 = .ok (.if_icmp .ge 61, 3) := by decide +kernel
theorem dX11_partnerPlace_48 : decode cX11_partnerPlace 48 = .ok (.aload_n 0, 1) := by decide +kernel
theorem dX11_partnerPlace_49 : decode cX11_partnerPlace 49 = .ok (.iload_n 1, 1) := by decide +kernel
theorem dX11_partnerPlace_50 : decode cX11_partnerPlace 50 = .ok (.iload 7, 2) := by decide +kernel
theorem dX11_partnerPlace_52 : decode cX11_partnerPlace 52 = .ok (.invokevirtual 256, 3) := by decide +kernel
theorem dX11_partnerPlace_55 : decode cX11_partnerPlace 55 = .ok (.istore 8, 2) := by decide +kernel
theorem dX11_partnerPlace_57 : decode cX11_partnerPlace 57 = .ok (.iload 8, 2) := by decide +kernel
theorem dX11_partnerPlace_59 : decode cX11_partnerPlace 59 = .ok (.iload 4, 2) := by decide +kernel
theorem dX11_partnerPlace_61 : decode cX11_partnerPlace 61 = .ok (.if_icmp .ne 9, 3) := by decide +kernel
theorem dX11_partnerPlace_64 : decode cX11_partnerPlace 64 = .ok (.iinc 6 1, 3) := by decide +kernel
theorem dX11_partnerPlace_67 : decode cX11_partnerPlace 67 = .ok (.goto 29, 3) := by decide +kernel
theorem dX11_partnerPlace_70 : decode cX11_partnerPlace 70 = .ok (.iload 8, 2) := by decide +kernel
theorem dX11_partnerPlace_72 : decode cX11_partnerPlace 72 = .ok (.iconst 2, 1) := by decide +kernel
theorem dX11_partnerPlace_73 : decode cX11_partnerPlace 73 = .ok (.if_icmp .eq 14, 3) := by decide +kernel
theorem dX11_partnerPlace_76 : decode cX11_partnerPlace 76 = .ok (.iload 6, 2) := by decide +kernel
theorem dX11_partnerPlace_78 : decode cX11_partnerPlace 78 = .ok (.ifCond .le 9, 3) := by decide +kernel
theorem dX11_partnerPlace_81 : decode cX11_partnerPlace 81 = .ok (.iinc 6 (-1), 3) := by decide +kernel
theorem dX11_partnerPlace_84 : decode cX11_partnerPlace 84 = .ok (.goto 12, 3) := by decide +kernel
theorem dX11_partnerPlace_87 : decode cX11_partnerPlace 87 = .ok (.iload 8, 2) := by decide +kernel
theorem dX11_partnerPlace_89 : decode cX11_partnerPlace 89 = .ok (.iconst 2, 1) := by decide +kernel
theorem dX11_partnerPlace_90 : decode cX11_partnerPlace 90 = .ok (.if_icmp .eq 6, 3) := by decide +kernel
theorem dX11_partnerPlace_93 : decode cX11_partnerPlace 93 = .ok (.iload 7, 2) := by decide +kernel
theorem dX11_partnerPlace_95 : decode cX11_partnerPlace 95 = .ok (.ireturn, 1) := by decide +kernel
theorem dX11_partnerPlace_96 : decode cX11_partnerPlace 96 = .ok (.iload 7, 2) := by decide +kernel
theorem dX11_partnerPlace_98 : decode cX11_partnerPlace 98 = .ok (.iload 5, 2) := by decide +kernel
theorem dX11_partnerPlace_100 : decode cX11_partnerPlace 100 = .ok (.iadd, 1) := by decide +kernel
theorem dX11_partnerPlace_101 : decode cX11_partnerPlace 101 = .ok (.istore 7, 2) := by decide +kernel
theorem dX11_partnerPlace_103 : decode cX11_partnerPlace 103 = .ok (.goto (-66), 3) := by decide +kernel
theorem dX11_partnerPlace_106 : decode cX11_partnerPlace 106 = .ok (.iconst (-1), 1) := by decide +kernel
theorem dX11_partnerPlace_107 : decode cX11_partnerPlace 107 = .ok (.ireturn, 1) := by decide +kernel
set_option maxHeartbeats 4000000 in
set_option maxRecDepth 100000 in
theorem c_X11_partnerPlace (G : KG) (l : Launch) (M : Mem) (c0 : Int) (a1 : Int) (a2 : Int) (a3 : Int) (hI_M : Inv false M) (hk_c0 : kd c0 = 62) (hpre : -2147483648 ≤ a1 ∧ a1 ≤ 2147483647 ∧ -2147483648 ≤ a2 ∧ a2 ≤ 2147483647 ∧ -2147483648 ≤ a3 ∧ a3 ≤ 2147483647 ∧ 0 ≤ a1 ∧ a1 ≤ 3 ∧ 0 ≤ a2 ∧ a2 ≤ 20 ∧ 0 ≤ a3 ∧ a3 < a2) : KC false G l yX11_partnerPlace cX11_partnerPlace 9 (some .int) (3, 64) [vR G c0, vI a1, vI a2, vI a3] M (fun A => kQi false G A (fun (r : Int) (N : Mem) => M = N ∧ (r ≥ -1 ∧ r ≤ 19))) := by
  refine kx_met (lo := [some (vR G c0), some (vI a1), some (vI a2), some (vI a3), none, none, none, none, none]) (by decide) (Nat.le_of_ble_eq_true rfl) rfl ?_
  intro X F hQ
  refine kx_aload_n 1 F 0 dX11_partnerPlace_0 rfl rfl rfl ?_
  refine kx_iload_n 2 F 1 dX11_partnerPlace_1 rfl rfl rfl ?_
  refine kx_iload_n 3 F 3 dX11_partnerPlace_2 rfl rfl rfl ?_
  refine kx_Vi 6 (ci := 0) F (As := [vI a1, vI a3]) (st := []) vd_X11_256 (c_X11_sortAt G l M c0 a1 a3 hI_M hk_c0 (by omega)) hk_c0 rfl rfl rfl ⟨by decide, by decide⟩ rfl rfl (Nat.le_of_ble_eq_true rfl) dX11_partnerPlace_3 rfl ?_
  intro r_1 N_2 q_3
  obtain ⟨rfl, q_3c⟩ := q_3
  refine kx_istore 8 F 4 (lo' := [some (vR G c0), some (vI a1), some (vI a2), some (vI a3), some (vI r_1), none, none, none, none]) dX11_partnerPlace_6 (by decide) rfl rfl rfl ?_
  refine kx_iload 10 F 4 dX11_partnerPlace_8 rfl rfl ?_
  refine kx_iconst 11 F dX11_partnerPlace_10 rfl ?_
  refine kx_icmp_ne 14 F 16 dX11_partnerPlace_11 (by decide) rfl (by omega) (by decide) (fun h_4 => ?_) (fun h_4 => ?_)
  · refine kx_iload 18 F 4 dX11_partnerPlace_16 rfl rfl ?_
    refine kx_if_ne 21 F 25 dX11_partnerPlace_18 (by decide) rfl (by omega) (fun h_5 => ?_) (fun h_5 => ?_)
    · refine kx_iconst 26 F dX11_partnerPlace_25 rfl ?_
      refine kx_istore 28 F 5 (lo' := [some (vR G c0), some (vI a1), some (vI a2), some (vI a3), some (vI r_1), some (vI (-1)), none, none, none]) dX11_partnerPlace_26 (by decide) rfl rfl rfl ?_
      refine kx_iconst 29 F dX11_partnerPlace_28 rfl ?_
      refine kx_istore 31 F 6 (lo' := [some (vR G c0), some (vI a1), some (vI a2), some (vI a3), some (vI r_1), some (vI (-1)), some (vI 0), none, none]) dX11_partnerPlace_29 (by decide) rfl rfl rfl ?_
      refine kx_iload_n 32 F 3 dX11_partnerPlace_31 rfl rfl rfl ?_
      refine kx_iload 34 F 5 dX11_partnerPlace_32 rfl rfl ?_
      refine kx_iadd 35 F (v := a3 - 1) dX11_partnerPlace_34 (by omega) rfl ?_
      refine kx_istore 37 F 7 (lo' := [some (vR G c0), some (vI a1), some (vI a2), some (vI a3), some (vI r_1), some (vI (-1)), some (vI 0), some (vI (a3 - 1)), none]) dX11_partnerPlace_35 (by decide) rfl rfl rfl ?_
      have L_20 : ∀ (n_21 : Nat) (x6_18 : Int) (x7_19 : Int), 0 ≤ x6_18 ∧ x6_18 ≤ 20 ∧ (-1) ≤ x7_19 ∧ x7_19 ≤ 18 ∧ x6_18 + x7_19 ≤ 19 ∧ x7_19 ≤ a3 - 1 → ((x7_19) - (-1)).toNat = n_21 → KJ false G X M 37 [some (vR G c0), some (vI a1), some (vI a2), none, some (vI r_1), some (vI (-1)), some (vI x6_18), some (vI x7_19), none] [] := by
        intro n_21
        refine Nat.strongRecOn n_21 ?_
        intro n_21 ih_22 x6_18 x7_19 h_23 hm_24
        refine kx_iload 39 F 7 dX11_partnerPlace_37 rfl rfl ?_
        refine kx_if_lt 42 F 106 dX11_partnerPlace_39 (by decide) rfl (by omega) (fun h_25 => ?_) (fun h_25 => ?_)
        · refine kx_iconst 107 F dX11_partnerPlace_106 rfl ?_
          exact kx_iret F hQ ⟨rfl, (by omega)⟩ dX11_partnerPlace_107
        · refine kx_iload 44 F 7 dX11_partnerPlace_42 rfl rfl ?_
          refine kx_iload_n 45 F 2 dX11_partnerPlace_44 rfl rfl rfl ?_
          refine kx_icmp_ge 48 F 106 dX11_partnerPlace_45 (by decide) rfl (by omega) (by omega) (fun h_26 => ?_) (fun h_26 => ?_)
          · refine kx_iconst 107 F dX11_partnerPlace_106 rfl ?_
            exact kx_iret F hQ ⟨rfl, (by omega)⟩ dX11_partnerPlace_107
          · refine kx_aload_n 49 F 0 dX11_partnerPlace_48 rfl rfl rfl ?_
            refine kx_iload_n 50 F 1 dX11_partnerPlace_49 rfl rfl rfl ?_
            refine kx_iload 52 F 7 dX11_partnerPlace_50 rfl rfl ?_
            refine kx_Vi 55 (ci := 0) F (As := [vI a1, vI x7_19]) (st := []) vd_X11_256 (c_X11_sortAt G l M c0 a1 x7_19 hI_M hk_c0 (by omega)) hk_c0 rfl rfl rfl ⟨by decide, by decide⟩ rfl rfl (Nat.le_of_ble_eq_true rfl) dX11_partnerPlace_52 rfl ?_
            intro r_27 N_28 q_29
            obtain ⟨rfl, q_29c⟩ := q_29
            refine kx_istore 57 F 8 (lo' := [some (vR G c0), some (vI a1), some (vI a2), none, some (vI r_1), some (vI (-1)), some (vI x6_18), some (vI x7_19), some (vI r_27)]) dX11_partnerPlace_55 (by decide) rfl rfl rfl ?_
            refine kx_iload 59 F 8 dX11_partnerPlace_57 rfl rfl ?_
            refine kx_iload 61 F 4 dX11_partnerPlace_59 rfl rfl ?_
            refine kx_icmp_ne 64 F 70 dX11_partnerPlace_61 (by decide) rfl (by omega) (by omega) (fun h_30 => ?_) (fun h_30 => ?_)
            · refine kx_iload 72 F 8 dX11_partnerPlace_70 rfl rfl ?_
              refine kx_iconst 73 F dX11_partnerPlace_72 rfl ?_
              refine kx_icmp_eq 76 F 87 dX11_partnerPlace_73 (by decide) rfl (by omega) (by decide) (fun h_31 => ?_) (fun h_31 => ?_)
              · refine kx_iload 89 F 8 dX11_partnerPlace_87 rfl rfl ?_
                refine kx_iconst 90 F dX11_partnerPlace_89 rfl ?_
                refine kx_icmp_eq 93 F 96 dX11_partnerPlace_90 (by decide) rfl (by omega) (by decide) (fun h_32 => ?_) (fun h_32 => (by exfalso; omega))
                refine kx_iload 98 F 7 dX11_partnerPlace_96 rfl rfl ?_
                refine kx_iload 100 F 5 dX11_partnerPlace_98 rfl rfl ?_
                refine kx_iadd 101 F (v := x7_19 - 1) dX11_partnerPlace_100 (by omega) rfl ?_
                refine kx_istore 103 F 7 (lo' := [some (vR G c0), some (vI a1), some (vI a2), none, some (vI r_1), some (vI (-1)), some (vI x6_18), some (vI (x7_19 - 1)), some (vI r_27)]) dX11_partnerPlace_101 (by decide) rfl rfl rfl ?_
                refine kx_goto 37 F dX11_partnerPlace_103 (by decide) ?_
                refine kx_drop 8 (lo' := [some (vR G c0), some (vI a1), some (vI a2), none, some (vI r_1), some (vI (-1)), some (vI x6_18), some (vI (x7_19 - 1)), none]) rfl ?_
                exact ih_22 _ (by omega) x6_18 (x7_19 - 1) (by omega) rfl
              · refine kx_iload 78 F 6 dX11_partnerPlace_76 rfl rfl ?_
                refine kx_if_le 81 F 87 dX11_partnerPlace_78 (by decide) rfl (by omega) (fun h_33 => ?_) (fun h_33 => ?_)
                · refine kx_iload 89 F 8 dX11_partnerPlace_87 rfl rfl ?_
                  refine kx_iconst 90 F dX11_partnerPlace_89 rfl ?_
                  refine kx_icmp_eq 93 F 96 dX11_partnerPlace_90 (by decide) rfl (by omega) (by decide) (fun h_34 => (by exfalso; omega)) (fun h_34 => ?_)
                  refine kx_iload 95 F 7 dX11_partnerPlace_93 rfl rfl ?_
                  exact kx_iret F hQ ⟨rfl, (by omega)⟩ dX11_partnerPlace_95
                · refine kx_iinc 84 F 6 (v := x6_18 - 1) (lo' := [some (vR G c0), some (vI a1), some (vI a2), none, some (vI r_1), some (vI (-1)), some (vI (x6_18 - 1)), some (vI x7_19), some (vI r_27)]) dX11_partnerPlace_81 rfl (by omega) (by decide) rfl rfl rfl ?_
                  refine kx_goto 96 F dX11_partnerPlace_84 (by decide) ?_
                  refine kx_iload 98 F 7 dX11_partnerPlace_96 rfl rfl ?_
                  refine kx_iload 100 F 5 dX11_partnerPlace_98 rfl rfl ?_
                  refine kx_iadd 101 F (v := x7_19 - 1) dX11_partnerPlace_100 (by omega) rfl ?_
                  refine kx_istore 103 F 7 (lo' := [some (vR G c0), some (vI a1), some (vI a2), none, some (vI r_1), some (vI (-1)), some (vI (x6_18 - 1)), some (vI (x7_19 - 1)), some (vI r_27)]) dX11_partnerPlace_101 (by decide) rfl rfl rfl ?_
                  refine kx_goto 37 F dX11_partnerPlace_103 (by decide) ?_
                  refine kx_drop 8 (lo' := [some (vR G c0), some (vI a1), some (vI a2), none, some (vI r_1), some (vI (-1)), some (vI (x6_18 - 1)), some (vI (x7_19 - 1)), none]) rfl ?_
                  exact ih_22 _ (by omega) (x6_18 - 1) (x7_19 - 1) (by omega) rfl
            · refine kx_iinc 67 F 6 (v := x6_18 + 1) (lo' := [some (vR G c0), some (vI a1), some (vI a2), none, some (vI r_1), some (vI (-1)), some (vI (x6_18 + 1)), some (vI x7_19), some (vI r_27)]) dX11_partnerPlace_64 rfl (by omega) (by decide) rfl rfl rfl ?_
              refine kx_goto 96 F dX11_partnerPlace_67 (by decide) ?_
              refine kx_iload 98 F 7 dX11_partnerPlace_96 rfl rfl ?_
              refine kx_iload 100 F 5 dX11_partnerPlace_98 rfl rfl ?_
              refine kx_iadd 101 F (v := x7_19 - 1) dX11_partnerPlace_100 (by omega) rfl ?_
              refine kx_istore 103 F 7 (lo' := [some (vR G c0), some (vI a1), some (vI a2), none, some (vI r_1), some (vI (-1)), some (vI (x6_18 + 1)), some (vI (x7_19 - 1)), some (vI r_27)]) dX11_partnerPlace_101 (by decide) rfl rfl rfl ?_
              refine kx_goto 37 F dX11_partnerPlace_103 (by decide) ?_
              refine kx_drop 8 (lo' := [some (vR G c0), some (vI a1), some (vI a2), none, some (vI r_1), some (vI (-1)), some (vI (x6_18 + 1)), some (vI (x7_19 - 1)), none]) rfl ?_
              exact ih_22 _ (by omega) (x6_18 + 1) (x7_19 - 1) (by omega) rfl
      refine kx_drop 3 (lo' := [some (vR G c0), some (vI a1), some (vI a2), none, some (vI r_1), some (vI (-1)), some (vI 0), some (vI (a3 - 1)), none]) rfl ?_
      exact L_20 _ 0 (a3 - 1) (by omega) rfl
    · refine kx_iconst 22 F dX11_partnerPlace_21 rfl ?_
      refine kx_goto 26 F dX11_partnerPlace_22 (by decide) ?_
      refine kx_istore 28 F 5 (lo' := [some (vR G c0), some (vI a1), some (vI a2), some (vI a3), some (vI r_1), some (vI 1), none, none, none]) dX11_partnerPlace_26 (by decide) rfl rfl rfl ?_
      refine kx_iconst 29 F dX11_partnerPlace_28 rfl ?_
      refine kx_istore 31 F 6 (lo' := [some (vR G c0), some (vI a1), some (vI a2), some (vI a3), some (vI r_1), some (vI 1), some (vI 0), none, none]) dX11_partnerPlace_29 (by decide) rfl rfl rfl ?_
      refine kx_iload_n 32 F 3 dX11_partnerPlace_31 rfl rfl rfl ?_
      refine kx_iload 34 F 5 dX11_partnerPlace_32 rfl rfl ?_
      refine kx_iadd 35 F (v := a3 + 1) dX11_partnerPlace_34 rfl rfl ?_
      refine kx_istore 37 F 7 (lo' := [some (vR G c0), some (vI a1), some (vI a2), some (vI a3), some (vI r_1), some (vI 1), some (vI 0), some (vI (a3 + 1)), none]) dX11_partnerPlace_35 (by decide) rfl rfl rfl ?_
      have L_49 : ∀ (n_50 : Nat) (x6_47 : Int) (x7_48 : Int), 0 ≤ x6_47 ∧ x6_47 ≤ 20 ∧ 1 ≤ x7_48 ∧ x7_48 ≤ 20 ∧ x6_47 ≤ x7_48 ∧ a3 + 1 ≤ x7_48 → (20 - (x7_48)).toNat = n_50 → KJ false G X M 37 [some (vR G c0), some (vI a1), some (vI a2), none, some (vI r_1), some (vI 1), some (vI x6_47), some (vI x7_48), none] [] := by
        intro n_50
        refine Nat.strongRecOn n_50 ?_
        intro n_50 ih_51 x6_47 x7_48 h_52 hm_53
        refine kx_iload 39 F 7 dX11_partnerPlace_37 rfl rfl ?_
        refine kx_if_lt 42 F 106 dX11_partnerPlace_39 (by decide) rfl (by omega) (fun h_54 => (by exfalso; omega)) (fun h_54 => ?_)
        refine kx_iload 44 F 7 dX11_partnerPlace_42 rfl rfl ?_
        refine kx_iload_n 45 F 2 dX11_partnerPlace_44 rfl rfl rfl ?_
        refine kx_icmp_ge 48 F 106 dX11_partnerPlace_45 (by decide) rfl (by omega) (by omega) (fun h_55 => ?_) (fun h_55 => ?_)
        · refine kx_iconst 107 F dX11_partnerPlace_106 rfl ?_
          exact kx_iret F hQ ⟨rfl, (by omega)⟩ dX11_partnerPlace_107
        · refine kx_aload_n 49 F 0 dX11_partnerPlace_48 rfl rfl rfl ?_
          refine kx_iload_n 50 F 1 dX11_partnerPlace_49 rfl rfl rfl ?_
          refine kx_iload 52 F 7 dX11_partnerPlace_50 rfl rfl ?_
          refine kx_Vi 55 (ci := 0) F (As := [vI a1, vI x7_48]) (st := []) vd_X11_256 (c_X11_sortAt G l M c0 a1 x7_48 hI_M hk_c0 (by omega)) hk_c0 rfl rfl rfl ⟨by decide, by decide⟩ rfl rfl (Nat.le_of_ble_eq_true rfl) dX11_partnerPlace_52 rfl ?_
          intro r_56 N_57 q_58
          obtain ⟨rfl, q_58c⟩ := q_58
          refine kx_istore 57 F 8 (lo' := [some (vR G c0), some (vI a1), some (vI a2), none, some (vI r_1), some (vI 1), some (vI x6_47), some (vI x7_48), some (vI r_56)]) dX11_partnerPlace_55 (by decide) rfl rfl rfl ?_
          refine kx_iload 59 F 8 dX11_partnerPlace_57 rfl rfl ?_
          refine kx_iload 61 F 4 dX11_partnerPlace_59 rfl rfl ?_
          refine kx_icmp_ne 64 F 70 dX11_partnerPlace_61 (by decide) rfl (by omega) (by omega) (fun h_59 => ?_) (fun h_59 => ?_)
          · refine kx_iload 72 F 8 dX11_partnerPlace_70 rfl rfl ?_
            refine kx_iconst 73 F dX11_partnerPlace_72 rfl ?_
            refine kx_icmp_eq 76 F 87 dX11_partnerPlace_73 (by decide) rfl (by omega) (by decide) (fun h_60 => ?_) (fun h_60 => ?_)
            · refine kx_iload 89 F 8 dX11_partnerPlace_87 rfl rfl ?_
              refine kx_iconst 90 F dX11_partnerPlace_89 rfl ?_
              refine kx_icmp_eq 93 F 96 dX11_partnerPlace_90 (by decide) rfl (by omega) (by decide) (fun h_61 => ?_) (fun h_61 => (by exfalso; omega))
              refine kx_iload 98 F 7 dX11_partnerPlace_96 rfl rfl ?_
              refine kx_iload 100 F 5 dX11_partnerPlace_98 rfl rfl ?_
              refine kx_iadd 101 F (v := x7_48 + 1) dX11_partnerPlace_100 rfl rfl ?_
              refine kx_istore 103 F 7 (lo' := [some (vR G c0), some (vI a1), some (vI a2), none, some (vI r_1), some (vI 1), some (vI x6_47), some (vI (x7_48 + 1)), some (vI r_56)]) dX11_partnerPlace_101 (by decide) rfl rfl rfl ?_
              refine kx_goto 37 F dX11_partnerPlace_103 (by decide) ?_
              refine kx_drop 8 (lo' := [some (vR G c0), some (vI a1), some (vI a2), none, some (vI r_1), some (vI 1), some (vI x6_47), some (vI (x7_48 + 1)), none]) rfl ?_
              exact ih_51 _ (by omega) x6_47 (x7_48 + 1) (by omega) rfl
            · refine kx_iload 78 F 6 dX11_partnerPlace_76 rfl rfl ?_
              refine kx_if_le 81 F 87 dX11_partnerPlace_78 (by decide) rfl (by omega) (fun h_62 => ?_) (fun h_62 => ?_)
              · refine kx_iload 89 F 8 dX11_partnerPlace_87 rfl rfl ?_
                refine kx_iconst 90 F dX11_partnerPlace_89 rfl ?_
                refine kx_icmp_eq 93 F 96 dX11_partnerPlace_90 (by decide) rfl (by omega) (by decide) (fun h_63 => (by exfalso; omega)) (fun h_63 => ?_)
                refine kx_iload 95 F 7 dX11_partnerPlace_93 rfl rfl ?_
                exact kx_iret F hQ ⟨rfl, (by omega)⟩ dX11_partnerPlace_95
              · refine kx_iinc 84 F 6 (v := x6_47 - 1) (lo' := [some (vR G c0), some (vI a1), some (vI a2), none, some (vI r_1), some (vI 1), some (vI (x6_47 - 1)), some (vI x7_48), some (vI r_56)]) dX11_partnerPlace_81 rfl (by omega) (by decide) rfl rfl rfl ?_
                refine kx_goto 96 F dX11_partnerPlace_84 (by decide) ?_
                refine kx_iload 98 F 7 dX11_partnerPlace_96 rfl rfl ?_
                refine kx_iload 100 F 5 dX11_partnerPlace_98 rfl rfl ?_
                refine kx_iadd 101 F (v := x7_48 + 1) dX11_partnerPlace_100 rfl rfl ?_
                refine kx_istore 103 F 7 (lo' := [some (vR G c0), some (vI a1), some (vI a2), none, some (vI r_1), some (vI 1), some (vI (x6_47 - 1)), some (vI (x7_48 + 1)), some (vI r_56)]) dX11_partnerPlace_101 (by decide) rfl rfl rfl ?_
                refine kx_goto 37 F dX11_partnerPlace_103 (by decide) ?_
                refine kx_drop 8 (lo' := [some (vR G c0), some (vI a1), some (vI a2), none, some (vI r_1), some (vI 1), some (vI (x6_47 - 1)), some (vI (x7_48 + 1)), none]) rfl ?_
                exact ih_51 _ (by omega) (x6_47 - 1) (x7_48 + 1) (by omega) rfl
          · refine kx_iinc 67 F 6 (v := x6_47 + 1) (lo' := [some (vR G c0), some (vI a1), some (vI a2), none, some (vI r_1), some (vI 1), some (vI (x6_47 + 1)), some (vI x7_48), some (vI r_56)]) dX11_partnerPlace_64 rfl (by omega) (by decide) rfl rfl rfl ?_
            refine kx_goto 96 F dX11_partnerPlace_67 (by decide) ?_
            refine kx_iload 98 F 7 dX11_partnerPlace_96 rfl rfl ?_
            refine kx_iload 100 F 5 dX11_partnerPlace_98 rfl rfl ?_
            refine kx_iadd 101 F (v := x7_48 + 1) dX11_partnerPlace_100 rfl rfl ?_
            refine kx_istore 103 F 7 (lo' := [some (vR G c0), some (vI a1), some (vI a2), none, some (vI r_1), some (vI 1), some (vI (x6_47 + 1)), some (vI (x7_48 + 1)), some (vI r_56)]) dX11_partnerPlace_101 (by decide) rfl rfl rfl ?_
            refine kx_goto 37 F dX11_partnerPlace_103 (by decide) ?_
            refine kx_drop 8 (lo' := [some (vR G c0), some (vI a1), some (vI a2), none, some (vI r_1), some (vI 1), some (vI (x6_47 + 1)), some (vI (x7_48 + 1)), none]) rfl ?_
            exact ih_51 _ (by omega) (x6_47 + 1) (x7_48 + 1) (by omega) rfl
      refine kx_drop 3 (lo' := [some (vR G c0), some (vI a1), some (vI a2), none, some (vI r_1), some (vI 1), some (vI 0), some (vI (a3 + 1)), none]) rfl ?_
      exact L_49 _ 0 (a3 + 1) (by omega) rfl
  · refine kx_iconst 15 F dX11_partnerPlace_14 rfl ?_
    exact kx_iret F hQ ⟨rfl, (by omega)⟩ dX11_partnerPlace_15
theorem dX11_tableOf_0 : decode cX11_tableOf 0 = .ok (.iload_n 1, 1) := by decide +kernel
theorem dX11_tableOf_1 : decode cX11_tableOf 1 = .ok (.ifCond .ne 10, 3) := by decide +kernel
theorem dX11_tableOf_4 : decode cX11_tableOf 4 = .ok (.aload_n 0, 1) := by decide +kernel
theorem dX11_tableOf_5 : decode cX11_tableOf 5 = .ok (.getfield 37, 3) := by decide +kernel
theorem dX11_tableOf_8 : decode cX11_tableOf 8 = .ok (.goto 7, 3) := by decide +kernel
theorem dX11_tableOf_11 : decode cX11_tableOf 11 = .ok (.aload_n 0, 1) := by decide +kernel
theorem dX11_tableOf_12 : decode cX11_tableOf 12 = .ok (.getfield 41, 3) := by decide +kernel
theorem dX11_tableOf_15 : decode cX11_tableOf 15 = .ok (.astore_n 2, 1) := by decide +kernel
theorem dX11_tableOf_16 : decode cX11_tableOf 16 = .ok (.aload_n 2, 1) := by decide +kernel
theorem dX11_tableOf_17 : decode cX11_tableOf 17 = .ok (.getfield 393, 3) := by decide +kernel
theorem dX11_tableOf_20 : decode cX11_tableOf 20 = .ok (.ifCond .ne 19, 3) := by decide +kernel
theorem dX11_tableOf_23 : decode cX11_tableOf 23 = .ok (.aload_n 2, 1) := by decide +kernel
theorem dX11_tableOf_24 : decode cX11_tableOf 24 = .ok (.aload_n 0, 1) := by decide +kernel
theorem dX11_tableOf_25 : decode cX11_tableOf 25 = .ok (.getfield 26, 3) := by decide +kernel
theorem dX11_tableOf_28 : decode cX11_tableOf 28 = .ok (.aload_n 0, 1) := by decide +kernel
theorem dX11_tableOf_29 : decode cX11_tableOf 29 = .ok (.getfield 26, 3) := by decide +kernel
theorem dX11_tableOf_32 : decode cX11_tableOf 32 = .ok (.iload_n 1, 1) := by decide +kernel
theorem dX11_tableOf_33 : decode cX11_tableOf 33 = .ok (.invokevirtual 164, 3) := by decide +kernel
theorem dX11_tableOf_36 : decode cX11_tableOf 36 = .ok (.invokevirtual 400, 3) := by decide +kernel
theorem dX11_tableOf_39 : decode cX11_tableOf 39 = .ok (.aload_n 2, 1) := by decide +kernel
theorem dX11_tableOf_40 : decode cX11_tableOf 40 = .ok (.areturn, 1) := by decide +kernel
abbrev f_c_X11_tableOf : List (Nat × Int) := [(21, 0), (21, 1), (22, -1), (23, -1), (24, -1), (25, -1)]
set_option maxHeartbeats 4000000 in
set_option maxRecDepth 100000 in
theorem c_X11_tableOf (G : KG) (l : Launch) (M : Mem) (c0 : Int) (a1 : Int) (hI_M : Inv false M) (hk_c0 : kd c0 = 62) (hpre : -2147483648 ≤ a1 ∧ a1 ≤ 2147483647) (hX_M : XX M) : KC false G l yX11_tableOf cX11_tableOf 3 (some (.object "NestedChecker$SummaryTable")) (4, 97) [vR G c0, vI a1] M (fun A => kQr false G A (fun (r : Int) (N : Mem) => Inv false N ∧ Fr f_c_X11_tableOf M N ∧ kd r = 21 ∧ XX N)) := by
  refine kx_met (lo := [some (vR G c0), some (vI a1), none]) (by decide) (Nat.le_of_ble_eq_true rfl) rfl ?_
  intro X F hQ
  have hF_M : Fr f_c_X11_tableOf M M := Fr.rf _ _
  refine kx_iload_n 1 F 1 dX11_tableOf_0 rfl rfl rfl ?_
  have J_9 : ∀ (y0_7 : Int), kd y0_7 = 21 → KJ false G X M 15 [some (vR G c0), some (vI a1), none] [vR G y0_7] := by
    intro y0_7 hk_8
    refine kx_astore_n 16 F 2 (lo' := [some (vR G c0), some (vI a1), some (vR G y0_7)]) dX11_tableOf_15 rfl (by decide) rfl rfl rfl ?_
    refine kx_aload_n 17 F 2 dX11_tableOf_16 rfl rfl rfl ?_
    refine kx_geti 20 F fl_X11_393 hk_8 rfl rfl (j := 0) rfl dX11_tableOf_17 (v := (M y0_7 0)) rfl rfl ?_
    have h_11 := Inv.g hI_M hk_8 rfl 0 (a := 0) (b := 1) rfl rfl
    refine kx_if_ne 23 F 39 dX11_tableOf_20 (by decide) rfl (by omega) (fun h_12 => ?_) (fun h_12 => ?_)
    · refine kx_aload_n 40 F 2 dX11_tableOf_39 rfl rfl rfl ?_
      exact kx_aret F hQ ⟨hI_M, hF_M, hk_8, hX_M⟩ dX11_tableOf_40
    · refine kx_aload_n 24 F 2 dX11_tableOf_23 rfl rfl rfl ?_
      refine kx_aload_n 25 F 0 dX11_tableOf_24 rfl rfl rfl ?_
      refine kx_getr 28 F fl_X11_26 hk_c0 rfl rfl (j := 5) rfl dX11_tableOf_25 (v := (M c0 5)) rfl rfl ?_
      have hk_13 : kd (M c0 5) = 12 := Inv.r hI_M hk_c0 rfl 5 rfl rfl
      refine kx_aload_n 29 F 0 dX11_tableOf_28 rfl rfl rfl ?_
      refine kx_getr 32 F fl_X11_26 hk_c0 rfl rfl (j := 5) rfl dX11_tableOf_29 (v := (M c0 5)) rfl rfl ?_
      refine kx_iload_n 33 F 1 dX11_tableOf_32 rfl rfl rfl ?_
      refine kx_Vr 36 (ci := 0) F (As := [vI a1]) (st := [vR G (M c0 5), vR G y0_7]) vd_X11_164 (c_X5_pick G l M (M c0 5) a1 hI_M hk_13 (by omega)) hk_13 rfl rfl rfl ⟨by decide, by decide⟩ rfl rfl (Nat.le_of_ble_eq_true rfl) dX11_tableOf_33 rfl ?_
      intro r_14 N_15 q_16
      obtain ⟨rfl, hk_17⟩ := q_16
      have h_18 := hX_M.1 (M c0 5) hk_13
      have h_19 := Inv.g hI_M hk_13 rfl 0 (a := 0) (b := 2) rfl rfl
      have h_20 := Inv.g hI_M hk_13 rfl 1 (a := 0) (b := 4) rfl rfl
      have h_21 := Inv.g hI_M hk_13 rfl 2 (a := 0) (b := 6) rfl rfl
      refine kx_Vv 39 (ci := 0) F (As := [vR G (M c0 5), vR G r_14]) (st := []) vd_X11_400 (c_X7_build G l M y0_7 (M c0 5) r_14 hI_M hk_8 hk_13 hk_17 (by omega)) hk_8 rfl rfl rfl ⟨by decide, by decide⟩ rfl rfl (Nat.le_of_ble_eq_true rfl) dX11_tableOf_36 rfl ?_
      intro N_22 q_23
      obtain ⟨hI_N_22, hG_N_22⟩ := q_23
      have hF_N_22 : Fr f_c_X11_tableOf M N_22 := Fr.c hF_M hG_N_22 rfl
      have hX_N_22 : XX N_22 := XX.fr hX_M hI_M hG_N_22 rfl
      refine kx_aload_n 40 F 2 dX11_tableOf_39 rfl rfl rfl ?_
      exact kx_aret F hQ ⟨hI_N_22, hF_N_22, hk_8, hX_N_22⟩ dX11_tableOf_40
  refine kx_if_ne 4 F 11 dX11_tableOf_1 (by decide) rfl (by omega) (fun h_24 => ?_) (fun h_24 => ?_)
  · refine kx_aload_n 12 F 0 dX11_tableOf_11 rfl rfl rfl ?_
    refine kx_getr 15 F fl_X11_41 hk_c0 rfl rfl (j := 9) rfl dX11_tableOf_12 (v := (M c0 9)) rfl rfl ?_
    have hk_25 : kd (M c0 9) = 21 := Inv.r hI_M hk_c0 rfl 9 rfl rfl
    exact J_9 (M c0 9) hk_25
  · refine kx_aload_n 5 F 0 dX11_tableOf_4 rfl rfl rfl ?_
    refine kx_getr 8 F fl_X11_37 hk_c0 rfl rfl (j := 8) rfl dX11_tableOf_5 (v := (M c0 8)) rfl rfl ?_
    have hk_26 : kd (M c0 8) = 21 := Inv.r hI_M hk_c0 rfl 8 rfl rfl
    refine kx_goto 15 F dX11_tableOf_8 (by decide) ?_
    exact J_9 (M c0 8) hk_26
theorem dX11_tableRefusal_0 : decode cX11_tableRefusal 0 = .ok (.iload_n 1, 1) := by decide +kernel
theorem dX11_tableRefusal_1 : decode cX11_tableRefusal 1 = .ok (.ifCond .ne 5, 3) := by decide +kernel
theorem dX11_tableRefusal_4 : decode cX11_tableRefusal 4 = .ok (.iconst 1, 1) := by decide +kernel
theorem dX11_tableRefusal_5 : decode cX11_tableRefusal 5 = .ok (.ireturn, 1) := by decide +kernel
theorem dX11_tableRefusal_6 : decode cX11_tableRefusal 6 = .ok (.aload_n 0, 1) := by decide +kernel
theorem dX11_tableRefusal_7 : decode cX11_tableRefusal 7 = .ok (.iload_n 2, 1) := by decide +kernel
theorem dX11_tableRefusal_8 : decode cX11_tableRefusal 8 = .ok (.invokevirtual 268, 3) := by decide +kernel
theorem dX11_tableRefusal_11 : decode cX11_tableRefusal 11 = .ok (.invokevirtual 272, 3) := by decide +kernel
theorem dX11_tableRefusal_14 : decode cX11_tableRefusal 14 = .ok (.ifCond .eq 7, 3) := by decide +kernel
theorem dX11_tableRefusal_17 : decode cX11_tableRefusal 17 = .ok (.iconst 0, 1) := by decide +kernel
theorem dX11_tableRefusal_18 : decode cX11_tableRefusal 18 = .ok (.goto 5, 3) := by decide +kernel
theorem dX11_tableRefusal_21 : decode cX11_tableRefusal 21 = .ok (.bipush 7, 2) := by decide +kernel
theorem dX11_tableRefusal_23 : decode cX11_tableRefusal 23 = .ok (.ireturn, 1) := by decide +kernel
abbrev f_c_X11_tableRefusal : List (Nat × Int) := [(21, 0), (21, 1), (22, -1), (23, -1), (24, -1), (25, -1)]
set_option maxHeartbeats 4000000 in
set_option maxRecDepth 100000 in
theorem c_X11_tableRefusal (G : KG) (l : Launch) (M : Mem) (c0 : Int) (a1 : Int) (a2 : Int) (hI_M : Inv false M) (hk_c0 : kd c0 = 62) (hpre : 0 ≤ a1 ∧ a1 ≤ 1 ∧ -2147483648 ≤ a2 ∧ a2 ≤ 2147483647) (hX_M : XX M) : KC false G l yX11_tableRefusal cX11_tableRefusal 3 (some .int) (5, 119) [vR G c0, vI a1, vI a2] M (fun A => kQi false G A (fun (r : Int) (N : Mem) => Inv false N ∧ Fr f_c_X11_tableRefusal M N ∧ ((r = 0) ∨ (r ≥ 1 ∧ r ≤ 7)) ∧ XX N)) := by
  refine kx_met (lo := [some (vR G c0), some (vI a1), some (vI a2)]) (by decide) (Nat.le_of_ble_eq_true rfl) rfl ?_
  intro X F hQ
  have hF_M : Fr f_c_X11_tableRefusal M M := Fr.rf _ _
  refine kx_iload_n 1 F 1 dX11_tableRefusal_0 rfl rfl rfl ?_
  refine kx_if_ne 4 F 6 dX11_tableRefusal_1 (by decide) rfl (by omega) (fun h_1 => ?_) (fun h_1 => ?_)
  · refine kx_aload_n 7 F 0 dX11_tableRefusal_6 rfl rfl rfl ?_
    refine kx_iload_n 8 F 2 dX11_tableRefusal_7 rfl rfl rfl ?_
    refine kx_Vr 11 (ci := 0) F (As := [vI a2]) (st := []) vd_X11_268 (c_X11_tableOf G l M c0 a2 hI_M hk_c0 (by omega) hX_M) hk_c0 rfl rfl rfl ⟨by decide, by decide⟩ rfl rfl (Nat.le_of_ble_eq_true rfl) dX11_tableRefusal_8 rfl ?_
    intro r_2 N_3 q_4
    obtain ⟨hI_N_3, hG_N_3, hk_5, hX_N_3⟩ := q_4
    have hF_N_3 : Fr f_c_X11_tableRefusal M N_3 := Fr.c hF_M hG_N_3 rfl
    refine kx_Vi 14 (ci := 0) F (As := []) (st := []) vd_X11_272 (c_X7_stands G l N_3 r_2 hI_N_3 hk_5) hk_5 rfl rfl rfl ⟨by decide, by decide⟩ rfl rfl (Nat.le_of_ble_eq_true rfl) dX11_tableRefusal_11 rfl ?_
    intro r_6 N_7 q_8
    obtain ⟨rfl, q_8c⟩ := q_8
    have h_9 := Inv.g hI_N_3 hk_5 rfl 1 (a := 0) (b := 41) rfl rfl
    rcases q_8c with q_8c | q_8c
    · refine kx_if_eq 17 F 21 dX11_tableRefusal_14 (by decide) rfl (by omega) (fun h_10 => (by exfalso; omega)) (fun h_10 => ?_)
      refine kx_iconst 18 F dX11_tableRefusal_17 rfl ?_
      refine kx_goto 23 F dX11_tableRefusal_18 (by decide) ?_
      exact kx_iret F hQ ⟨hI_N_3, hF_N_3, (by omega), hX_N_3⟩ dX11_tableRefusal_23
    · refine kx_if_eq 17 F 21 dX11_tableRefusal_14 (by decide) rfl (by omega) (fun h_11 => ?_) (fun h_11 => (by exfalso; omega))
      refine kx_bipush 23 F dX11_tableRefusal_21 (by decide) rfl ?_
      exact kx_iret F hQ ⟨hI_N_3, hF_N_3, (by omega), hX_N_3⟩ dX11_tableRefusal_23
  · refine kx_iconst 5 F dX11_tableRefusal_4 rfl ?_
    exact kx_iret F hQ ⟨hI_M, hF_M, (by omega), hX_M⟩ dX11_tableRefusal_5
theorem dX11_summaryRefusal_0 : decode cX11_summaryRefusal 0 = .ok (.iload_n 1, 1) := by decide +kernel
theorem dX11_summaryRefusal_1 : decode cX11_summaryRefusal 1 = .ok (.ifCond .ne 5, 3) := by decide +kernel
theorem dX11_summaryRefusal_4 : decode cX11_summaryRefusal 4 = .ok (.iconst 1, 1) := by decide +kernel
theorem dX11_summaryRefusal_5 : decode cX11_summaryRefusal 5 = .ok (.ireturn, 1) := by decide +kernel
theorem dX11_summaryRefusal_6 : decode cX11_summaryRefusal 6 = .ok (.aload_n 0, 1) := by decide +kernel
theorem dX11_summaryRefusal_7 : decode cX11_summaryRefusal 7 = .ok (.iload_n 2, 1) := by decide +kernel
theorem dX11_summaryRefusal_8 : decode cX11_summaryRefusal 8 = .ok (.invokevirtual 268, 3) := by decide +kernel
theorem dX11_summaryRefusal_11 : decode cX11_summaryRefusal 11 = .ok (.astore 4, 2) := by decide +kernel
theorem dX11_summaryRefusal_13 : decode cX11_summaryRefusal 13 = .ok (.aload 4, 2) := by decide +kernel
theorem dX11_summaryRefusal_15 : decode cX11_summaryRefusal 15 = .ok (.invokevirtual 272, 3) := by decide +kernel
theorem dX11_summaryRefusal_18 : decode cX11_summaryRefusal 18 = .ok (.ifCond .ne 6, 3) := by decide +kernel
theorem dX11_summaryRefusal_21 : decode cX11_summaryRefusal 21 = .ok (.bipush 7, 2) := by decide +kernel
theorem dX11_summaryRefusal_23 : decode cX11_summaryRefusal 23 = .ok (.ireturn, 1) := by decide +kernel
theorem dX11_summaryRefusal_24 : decode cX11_summaryRefusal 24 = .ok (.iload_n 3, 1) := by decide +kernel
theorem dX11_summaryRefusal_25 : decode cX11_summaryRefusal 25 = .ok (.ifCond .lt 16, 3) := by decide +kernel
theorem dX11_summaryRefusal_28 : decode cX11_summaryRefusal 28 = .ok (.iload_n 3, 1) := by decide +kernel
theorem dX11_summaryRefusal_29 : decode cX11_summaryRefusal 29 = .ok (.aload 4, 2) := by decide +kernel
theorem dX11_summaryRefusal_31 : decode cX11_summaryRefusal 31 = .ok (.getfield 275, 3) := by decide +kernel
theorem dX11_summaryRefusal_34 : decode cX11_summaryRefusal 34 = .ok (.if_icmp .ge 7, 3) := by decide +kernel
theorem dX11_summaryRefusal_37 : decode cX11_summaryRefusal 37 = .ok (.iconst 0, 1) := by decide +kernel
theorem dX11_summaryRefusal_38 : decode cX11_summaryRefusal 38 = .ok (.goto 5, 3) := by decide +kernel
theorem dX11_summaryRefusal_41 : decode cX11_summaryRefusal 41 = .ok (.bipush 6, 2) := by decide +kernel
theorem dX11_summaryRefusal_43 : decode cX11_summaryRefusal 43 = .ok (.ireturn, 1) := by decide +kernel
abbrev f_c_X11_summaryRefusal : List (Nat × Int) := [(21, 0), (21, 1), (22, -1), (23, -1), (24, -1), (25, -1)]
set_option maxHeartbeats 4000000 in
set_option maxRecDepth 100000 in
theorem c_X11_summaryRefusal (G : KG) (l : Launch) (M : Mem) (c0 : Int) (a1 : Int) (a2 : Int) (a3 : Int) (hI_M : Inv false M) (hk_c0 : kd c0 = 62) (hpre : 0 ≤ a1 ∧ a1 ≤ 1 ∧ -2147483648 ≤ a2 ∧ a2 ≤ 2147483647 ∧ -2147483648 ≤ a3 ∧ a3 ≤ 2147483647) (hX_M : XX M) : KC false G l yX11_summaryRefusal cX11_summaryRefusal 5 (some .int) (5, 119) [vR G c0, vI a1, vI a2, vI a3] M (fun A => kQi false G A (fun (r : Int) (N : Mem) => Inv false N ∧ Fr f_c_X11_summaryRefusal M N ∧ ((r = 0 ∧ a1 = 1 ∧ 0 ≤ a3 ∧ a3 ≤ 39) ∨ (r ≥ 1 ∧ r ≤ 7)) ∧ XX N)) := by
  refine kx_met (lo := [some (vR G c0), some (vI a1), some (vI a2), some (vI a3), none]) (by decide) (Nat.le_of_ble_eq_true rfl) rfl ?_
  intro X F hQ
  have hF_M : Fr f_c_X11_summaryRefusal M M := Fr.rf _ _
  refine kx_iload_n 1 F 1 dX11_summaryRefusal_0 rfl rfl rfl ?_
  refine kx_if_ne 4 F 6 dX11_summaryRefusal_1 (by decide) rfl (by omega) (fun h_1 => ?_) (fun h_1 => ?_)
  · refine kx_aload_n 7 F 0 dX11_summaryRefusal_6 rfl rfl rfl ?_
    refine kx_iload_n 8 F 2 dX11_summaryRefusal_7 rfl rfl rfl ?_
    refine kx_Vr 11 (ci := 0) F (As := [vI a2]) (st := []) vd_X11_268 (c_X11_tableOf G l M c0 a2 hI_M hk_c0 (by omega) hX_M) hk_c0 rfl rfl rfl ⟨by decide, by decide⟩ rfl rfl (Nat.le_of_ble_eq_true rfl) dX11_summaryRefusal_8 rfl ?_
    intro r_2 N_3 q_4
    obtain ⟨hI_N_3, hG_N_3, hk_5, hX_N_3⟩ := q_4
    have hF_N_3 : Fr f_c_X11_summaryRefusal M N_3 := Fr.c hF_M hG_N_3 rfl
    refine kx_astore 13 F 4 (lo' := [some (vR G c0), some (vI a1), some (vI a2), some (vI a3), some (vR G r_2)]) dX11_summaryRefusal_11 (by decide) rfl rfl rfl ?_
    refine kx_aload 15 F 4 dX11_summaryRefusal_13 rfl rfl ?_
    refine kx_Vi 18 (ci := 0) F (As := []) (st := []) vd_X11_272 (c_X7_stands G l N_3 r_2 hI_N_3 hk_5) hk_5 rfl rfl rfl ⟨by decide, by decide⟩ rfl rfl (Nat.le_of_ble_eq_true rfl) dX11_summaryRefusal_15 rfl ?_
    intro r_6 N_7 q_8
    obtain ⟨rfl, q_8c⟩ := q_8
    have h_9 := Inv.g hI_N_3 hk_5 rfl 1 (a := 0) (b := 41) rfl rfl
    rcases q_8c with q_8c | q_8c
    · refine kx_if_ne 21 F 24 dX11_summaryRefusal_18 (by decide) rfl (by omega) (fun h_10 => ?_) (fun h_10 => (by exfalso; omega))
      refine kx_iload_n 25 F 3 dX11_summaryRefusal_24 rfl rfl rfl ?_
      refine kx_if_lt 28 F 41 dX11_summaryRefusal_25 (by decide) rfl (by omega) (fun h_11 => ?_) (fun h_11 => ?_)
      · refine kx_bipush 43 F dX11_summaryRefusal_41 (by decide) rfl ?_
        exact kx_iret F hQ ⟨hI_N_3, hF_N_3, (by omega), hX_N_3⟩ dX11_summaryRefusal_43
      · refine kx_iload_n 29 F 3 dX11_summaryRefusal_28 rfl rfl rfl ?_
        refine kx_aload 31 F 4 dX11_summaryRefusal_29 rfl rfl ?_
        refine kx_geti 34 F fl_X11_275 hk_5 rfl rfl (j := 1) rfl dX11_summaryRefusal_31 (v := (N_3 r_2 1)) rfl rfl ?_
        refine kx_icmp_ge 37 F 41 dX11_summaryRefusal_34 (by decide) rfl (by omega) (by omega) (fun h_12 => ?_) (fun h_12 => ?_)
        · refine kx_bipush 43 F dX11_summaryRefusal_41 (by decide) rfl ?_
          exact kx_iret F hQ ⟨hI_N_3, hF_N_3, (by omega), hX_N_3⟩ dX11_summaryRefusal_43
        · refine kx_iconst 38 F dX11_summaryRefusal_37 rfl ?_
          refine kx_goto 43 F dX11_summaryRefusal_38 (by decide) ?_
          exact kx_iret F hQ ⟨hI_N_3, hF_N_3, (by omega), hX_N_3⟩ dX11_summaryRefusal_43
    · refine kx_if_ne 21 F 24 dX11_summaryRefusal_18 (by decide) rfl (by omega) (fun h_13 => (by exfalso; omega)) (fun h_13 => ?_)
      refine kx_bipush 23 F dX11_summaryRefusal_21 (by decide) rfl ?_
      exact kx_iret F hQ ⟨hI_N_3, hF_N_3, (by omega), hX_N_3⟩ dX11_summaryRefusal_23
  · refine kx_iconst 5 F dX11_summaryRefusal_4 rfl ?_
    exact kx_iret F hQ ⟨hI_M, hF_M, (by omega), hX_M⟩ dX11_summaryRefusal_5
theorem dX11_tellLength_0 : decode cX11_tellLength 0 = .ok (.aload_n 0, 1) := by decide +kernel
theorem dX11_tellLength_1 : decode cX11_tellLength 1 = .ok (.getfield 47, 3) := by decide +kernel
theorem dX11_tellLength_4 : decode cX11_tellLength 4 = .ok (.getfield 331, 3) := by decide +kernel
theorem dX11_tellLength_7 : decode cX11_tellLength 7 = .ok (.iload_n 1, 1) := by decide +kernel
theorem dX11_tellLength_8 : decode cX11_tellLength 8 = .ok (.iaload, 1) := by decide +kernel
theorem dX11_tellLength_9 : decode cX11_tellLength 9 = .ok (.istore_n 2, 1) := by decide +kernel
theorem dX11_tellLength_10 : decode cX11_tellLength 10 = .ok (.iload_n 2, 1) := by decide +kernel
theorem dX11_tellLength_11 : decode cX11_tellLength 11 = .ok (.iconst (-1), 1) := by decide +kernel
theorem dX11_tellLength_12 : decode cX11_tellLength 12 = .ok (.if_icmp .ne 12, 3) := by decide +kernel
theorem dX11_tellLength_15 : decode cX11_tellLength 15 = .ok (.aload_n 0, 1) := by decide +kernel
theorem dX11_tellLength_16 : decode cX11_tellLength 16 = .ok (.bipush 6, 2) := by decide +kernel
theorem dX11_tellLength_18 : decode cX11_tellLength 18 = .ok (.invokevirtual 110, 3) := by decide +kernel
theorem dX11_tellLength_21 : decode cX11_tellLength 21 = .ok (.goto 8, 3) := by decide +kernel
theorem dX11_tellLength_24 : decode cX11_tellLength 24 = .ok (.aload_n 0, 1) := by decide +kernel
theorem dX11_tellLength_25 : decode cX11_tellLength 25 = .ok (.iload_n 2, 1) := by decide +kernel
theorem dX11_tellLength_26 : decode cX11_tellLength 26 = .ok (.invokevirtual 145, 3) := by decide +kernel
theorem dX11_tellLength_29 : decode cX11_tellLength 29 = .ok (.ireturn, 1) := by decide +kernel
abbrev f_c_X11_tellLength : List (Nat × Int) := [(62, 0)]
set_option maxHeartbeats 4000000 in
set_option maxRecDepth 100000 in
theorem c_X11_tellLength (G : KG) (l : Launch) (M : Mem) (c0 : Int) (a1 : Int) (hI_M : Inv false M) (hk_c0 : kd c0 = 62) (hpre : -2147483648 ≤ a1 ∧ a1 ≤ 2147483647 ∧ 0 ≤ a1 ∧ a1 ≤ 15) : KC false G l yX11_tellLength cX11_tellLength 3 (some .int) (1, 21) [vR G c0, vI a1] M (fun A => kQi false G A (fun (r : Int) (N : Mem) => Inv false N ∧ Fr f_c_X11_tellLength M N ∧ (r ≥ -1 ∧ r ≤ 1000000000))) := by
  refine kx_met (lo := [some (vR G c0), some (vI a1), none]) (by decide) (Nat.le_of_ble_eq_true rfl) rfl ?_
  intro X F hQ
  have hF_M : Fr f_c_X11_tellLength M M := Fr.rf _ _
  refine kx_aload_n 1 F 0 dX11_tellLength_0 rfl rfl rfl ?_
  refine kx_getr 4 F fl_X11_47 hk_c0 rfl rfl (j := 10) rfl dX11_tellLength_1 (v := (M c0 10)) rfl rfl ?_
  have hk_1 : kd (M c0 10) = 41 := Inv.r hI_M hk_c0 rfl 10 rfl rfl
  refine kx_getr 7 F fl_X11_331 hk_1 rfl rfl (j := 0) rfl dX11_tellLength_4 (v := (M (M c0 10) 0)) rfl rfl ?_
  have hk_2 : kd (M (M c0 10) 0) = 42 := Inv.r hI_M hk_1 rfl 0 rfl rfl
  refine kx_iload_n 8 F 1 dX11_tellLength_7 rfl rfl rfl ?_
  refine kx_iald 9 F hk_2 rfl rfl (by omega) (by decide) dX11_tellLength_8 (v := (M (M (M c0 10) 0) a1)) rfl rfl ?_
  have h_3 := Inv.g hI_M hk_2 rfl a1 (a := (-1)) (b := 1000000000) rfl rfl
  refine kx_istore_n 10 F 2 (lo' := [some (vR G c0), some (vI a1), some (vI (M (M (M c0 10) 0) a1))]) dX11_tellLength_9 rfl (by decide) rfl rfl rfl ?_
  refine kx_iload_n 11 F 2 dX11_tellLength_10 rfl rfl rfl ?_
  refine kx_iconst 12 F dX11_tellLength_11 rfl ?_
  refine kx_icmp_ne 15 F 24 dX11_tellLength_12 (by decide) rfl (by omega) (by decide) (fun h_4 => ?_) (fun h_4 => ?_)
  · refine kx_aload_n 25 F 0 dX11_tellLength_24 rfl rfl rfl ?_
    refine kx_iload_n 26 F 2 dX11_tellLength_25 rfl rfl rfl ?_
    refine kx_Vi 29 (ci := 0) F (As := [vI (M (M (M c0 10) 0) a1)]) (st := []) vd_X11_145 (c_X11_answer G l M c0 (M (M (M c0 10) 0) a1) hI_M hk_c0 (by omega)) hk_c0 rfl rfl rfl ⟨by decide, by decide⟩ rfl rfl (Nat.le_of_ble_eq_true rfl) dX11_tellLength_26 rfl ?_
    intro r_5 N_6 q_7
    obtain ⟨hI_N_6, hG_N_6, q_7c⟩ := q_7
    have hF_N_6 : Fr f_c_X11_tellLength M N_6 := Fr.c hF_M hG_N_6 rfl
    exact kx_iret F hQ ⟨hI_N_6, hF_N_6, (by omega)⟩ dX11_tellLength_29
  · refine kx_aload_n 16 F 0 dX11_tellLength_15 rfl rfl rfl ?_
    refine kx_bipush 18 F dX11_tellLength_16 (by decide) rfl ?_
    refine kx_Vi 21 (ci := 0) F (As := [vI 6]) (st := []) vd_X11_110 (c_X11_refuse G l M c0 6 hI_M hk_c0 (by omega)) hk_c0 rfl rfl rfl ⟨by decide, by decide⟩ rfl rfl (Nat.le_of_ble_eq_true rfl) dX11_tellLength_18 rfl ?_
    intro r_8 N_9 q_10
    obtain ⟨hI_N_9, hG_N_9, q_10c⟩ := q_10
    have hF_N_9 : Fr f_c_X11_tellLength M N_9 := Fr.c hF_M hG_N_9 rfl
    subst q_10c
    refine kx_goto 29 F dX11_tellLength_21 (by decide) ?_
    exact kx_iret F hQ ⟨hI_N_9, hF_N_9, (by omega)⟩ dX11_tellLength_29
theorem dX11_tellLetter_0 : decode cX11_tellLetter 0 = .ok (.aload_n 0, 1) := by decide +kernel
theorem dX11_tellLetter_1 : decode cX11_tellLetter 1 = .ok (.getfield 47, 3) := by decide +kernel
theorem dX11_tellLetter_4 : decode cX11_tellLetter 4 = .ok (.getfield 331, 3) := by decide +kernel
theorem dX11_tellLetter_7 : decode cX11_tellLetter 7 = .ok (.iload_n 1, 1) := by decide +kernel
theorem dX11_tellLetter_8 : decode cX11_tellLetter 8 = .ok (.iaload, 1) := by decide +kernel
theorem dX11_tellLetter_9 : decode cX11_tellLetter 9 = .ok (.istore_n 3, 1) := by decide +kernel
theorem dX11_tellLetter_10 : decode cX11_tellLetter 10 = .ok (.iload_n 3, 1) := by decide +kernel
theorem dX11_tellLetter_11 : decode cX11_tellLetter 11 = .ok (.iconst (-1), 1) := by decide +kernel
theorem dX11_tellLetter_12 : decode cX11_tellLetter 12 = .ok (.if_icmp .eq 8, 3) := by decide +kernel
theorem dX11_tellLetter_15 : decode cX11_tellLetter 15 = .ok (.iload_n 2, 1) := by decide +kernel
theorem dX11_tellLetter_16 : decode cX11_tellLetter 16 = .ok (.iload_n 3, 1) := by decide +kernel
theorem dX11_tellLetter_17 : decode cX11_tellLetter 17 = .ok (.if_icmp .lt 10, 3) := by decide +kernel
theorem dX11_tellLetter_20 : decode cX11_tellLetter 20 = .ok (.aload_n 0, 1) := by decide +kernel
theorem dX11_tellLetter_21 : decode cX11_tellLetter 21 = .ok (.bipush 6, 2) := by decide +kernel
theorem dX11_tellLetter_23 : decode cX11_tellLetter 23 = .ok (.invokevirtual 110, 3) := by decide +kernel
theorem dX11_tellLetter_26 : decode cX11_tellLetter 26 = .ok (.ireturn, 1) := by decide +kernel
theorem dX11_tellLetter_27 : decode cX11_tellLetter 27 = .ok (.iload_n 3, 1) := by decide +kernel
theorem dX11_tellLetter_28 : decode cX11_tellLetter 28 = .ok (.bipush 6, 2) := by decide +kernel
theorem dX11_tellLetter_30 : decode cX11_tellLetter 30 = .ok (.if_icmp .le 10, 3) := by decide +kernel
theorem dX11_tellLetter_33 : decode cX11_tellLetter 33 = .ok (.aload_n 0, 1) := by decide +kernel
theorem dX11_tellLetter_34 : decode cX11_tellLetter 34 = .ok (.bipush 7, 2) := by decide +kernel
theorem dX11_tellLetter_36 : decode cX11_tellLetter 36 = .ok (.invokevirtual 110, 3) := by decide +kernel
theorem dX11_tellLetter_39 : decode cX11_tellLetter 39 = .ok (.ireturn, 1) := by decide +kernel
theorem dX11_tellLetter_40 : decode cX11_tellLetter 40 = .ok (.aload_n 0, 1) := by decide +kernel
theorem dX11_tellLetter_41 : decode cX11_tellLetter 41 = .ok (.aload_n 0, 1) := by decide +kernel
theorem dX11_tellLetter_42 : decode cX11_tellLetter 42 = .ok (.getfield 47, 3) := by decide +kernel
theorem dX11_tellLetter_45 : decode cX11_tellLetter 45 = .ok (.getfield 404, 3) := by decide +kernel
theorem dX11_tellLetter_48 : decode cX11_tellLetter 48 = .ok (.iload_n 1, 1) := by decide +kernel
theorem dX11_tellLetter_49 : decode cX11_tellLetter 49 = .ok (.iaload, 1) := by decide +kernel
theorem dX11_tellLetter_50 : decode cX11_tellLetter 50 = .ok (.aload_n 0, 1) := by decide +kernel
theorem dX11_tellLetter_51 : decode cX11_tellLetter 51 = .ok (.getfield 26, 3) := by decide +kernel
theorem dX11_tellLetter_54 : decode cX11_tellLetter 54 = .ok (.getfield 160, 3) := by decide +kernel
theorem dX11_tellLetter_57 : decode cX11_tellLetter 57 = .ok (.iload_n 3, 1) := by decide +kernel
theorem dX11_tellLetter_58 : decode cX11_tellLetter 58 = .ok (.iconst 1, 1) := by decide +kernel
theorem dX11_tellLetter_59 : decode cX11_tellLetter 59 = .ok (.isub, 1) := by decide +kernel
theorem dX11_tellLetter_60 : decode cX11_tellLetter 60 = .ok (.iload_n 2, 1) := by decide +kernel
theorem dX11_tellLetter_61 : decode cX11_tellLetter 61 = .ok (.isub, 1) := by decide +kernel
theorem dX11_tellLetter_62 : decode cX11_tellLetter 62 = .ok (.invokestatic 348, 3) := by decide +kernel
theorem dX11_tellLetter_65 : decode cX11_tellLetter 65 = .ok (.invokevirtual 145, 3) := by decide +kernel
theorem dX11_tellLetter_68 : decode cX11_tellLetter 68 = .ok (.ireturn, 1) := by decide +kernel
abbrev f_c_X11_tellLetter : List (Nat × Int) := [(62, 0)]
set_option maxHeartbeats 4000000 in
set_option maxRecDepth 100000 in
theorem c_X11_tellLetter (G : KG) (l : Launch) (M : Mem) (c0 : Int) (a1 : Int) (a2 : Int) (hI_M : Inv false M) (hk_c0 : kd c0 = 62) (hpre : -2147483648 ≤ a1 ∧ a1 ≤ 2147483647 ∧ -2147483648 ≤ a2 ∧ a2 ≤ 2147483647 ∧ 0 ≤ a1 ∧ a1 ≤ 15) : KC false G l yX11_tellLetter cX11_tellLetter 4 (some .int) (2, 46) [vR G c0, vI a1, vI a2] M (fun A => kQi false G A (fun (r : Int) (N : Mem) => Inv false N ∧ Fr f_c_X11_tellLetter M N ∧ (r ≥ -2147483646 ∧ r ≤ 2147483646))) := by
  refine kx_met (lo := [some (vR G c0), some (vI a1), some (vI a2), none]) (by decide) (Nat.le_of_ble_eq_true rfl) rfl ?_
  intro X F hQ
  have hF_M : Fr f_c_X11_tellLetter M M := Fr.rf _ _
  refine kx_aload_n 1 F 0 dX11_tellLetter_0 rfl rfl rfl ?_
  refine kx_getr 4 F fl_X11_47 hk_c0 rfl rfl (j := 10) rfl dX11_tellLetter_1 (v := (M c0 10)) rfl rfl ?_
  have hk_1 : kd (M c0 10) = 41 := Inv.r hI_M hk_c0 rfl 10 rfl rfl
  refine kx_getr 7 F fl_X11_331 hk_1 rfl rfl (j := 0) rfl dX11_tellLetter_4 (v := (M (M c0 10) 0)) rfl rfl ?_
  have hk_2 : kd (M (M c0 10) 0) = 42 := Inv.r hI_M hk_1 rfl 0 rfl rfl
  refine kx_iload_n 8 F 1 dX11_tellLetter_7 rfl rfl rfl ?_
  refine kx_iald 9 F hk_2 rfl rfl (by omega) (by decide) dX11_tellLetter_8 (v := (M (M (M c0 10) 0) a1)) rfl rfl ?_
  have h_3 := Inv.g hI_M hk_2 rfl a1 (a := (-1)) (b := 1000000000) rfl rfl
  refine kx_istore_n 10 F 3 (lo' := [some (vR G c0), some (vI a1), some (vI a2), some (vI (M (M (M c0 10) 0) a1))]) dX11_tellLetter_9 rfl (by decide) rfl rfl rfl ?_
  refine kx_iload_n 11 F 3 dX11_tellLetter_10 rfl rfl rfl ?_
  refine kx_iconst 12 F dX11_tellLetter_11 rfl ?_
  refine kx_icmp_eq 15 F 20 dX11_tellLetter_12 (by decide) rfl (by omega) (by decide) (fun h_4 => ?_) (fun h_4 => ?_)
  · refine kx_aload_n 21 F 0 dX11_tellLetter_20 rfl rfl rfl ?_
    refine kx_bipush 23 F dX11_tellLetter_21 (by decide) rfl ?_
    refine kx_Vi 26 (ci := 0) F (As := [vI 6]) (st := []) vd_X11_110 (c_X11_refuse G l M c0 6 hI_M hk_c0 (by omega)) hk_c0 rfl rfl rfl ⟨by decide, by decide⟩ rfl rfl (Nat.le_of_ble_eq_true rfl) dX11_tellLetter_23 rfl ?_
    intro r_5 N_6 q_7
    obtain ⟨hI_N_6, hG_N_6, q_7c⟩ := q_7
    have hF_N_6 : Fr f_c_X11_tellLetter M N_6 := Fr.c hF_M hG_N_6 rfl
    subst q_7c
    exact kx_iret F hQ ⟨hI_N_6, hF_N_6, (by omega)⟩ dX11_tellLetter_26
  · refine kx_iload_n 16 F 2 dX11_tellLetter_15 rfl rfl rfl ?_
    refine kx_iload_n 17 F 3 dX11_tellLetter_16 rfl rfl rfl ?_
    refine kx_icmp_lt 20 F 27 dX11_tellLetter_17 (by decide) rfl (by omega) (by omega) (fun h_8 => ?_) (fun h_8 => ?_)
    · refine kx_iload_n 28 F 3 dX11_tellLetter_27 rfl rfl rfl ?_
      refine kx_bipush 30 F dX11_tellLetter_28 (by decide) rfl ?_
      refine kx_icmp_le 33 F 40 dX11_tellLetter_30 (by decide) rfl (by omega) (by decide) (fun h_9 => ?_) (fun h_9 => ?_)
      · refine kx_aload_n 41 F 0 dX11_tellLetter_40 rfl rfl rfl ?_
        refine kx_aload_n 42 F 0 dX11_tellLetter_41 rfl rfl rfl ?_
        refine kx_getr 45 F fl_X11_47 hk_c0 rfl rfl (j := 10) rfl dX11_tellLetter_42 (v := (M c0 10)) rfl rfl ?_
        refine kx_getr 48 F fl_X11_404 hk_1 rfl rfl (j := 1) rfl dX11_tellLetter_45 (v := (M (M c0 10) 1)) rfl rfl ?_
        have hk_10 : kd (M (M c0 10) 1) = 43 := Inv.r hI_M hk_1 rfl 1 rfl rfl
        refine kx_iload_n 49 F 1 dX11_tellLetter_48 rfl rfl rfl ?_
        refine kx_iald 50 F hk_10 rfl rfl (by omega) (by decide) dX11_tellLetter_49 (v := (M (M (M c0 10) 1) a1)) rfl rfl ?_
        have h_11 := Inv.g hI_M hk_10 rfl a1 (a := (-2147483648)) (b := 2147483647) rfl rfl
        refine kx_aload_n 51 F 0 dX11_tellLetter_50 rfl rfl rfl ?_
        refine kx_getr 54 F fl_X11_26 hk_c0 rfl rfl (j := 5) rfl dX11_tellLetter_51 (v := (M c0 5)) rfl rfl ?_
        have hk_12 : kd (M c0 5) = 12 := Inv.r hI_M hk_c0 rfl 5 rfl rfl
        refine kx_geti 57 F fl_X11_160 hk_12 rfl rfl (j := 2) rfl dX11_tellLetter_54 (v := (M (M c0 5) 2)) rfl rfl ?_
        have h_13 := Inv.g hI_M hk_12 rfl 2 (a := 0) (b := 6) rfl rfl
        refine kx_iload_n 58 F 3 dX11_tellLetter_57 rfl rfl rfl ?_
        refine kx_iconst 59 F dX11_tellLetter_58 rfl ?_
        refine kx_isub 60 F (v := (M (M (M c0 10) 0) a1) - 1) dX11_tellLetter_59 rfl rfl ?_
        refine kx_iload_n 61 F 2 dX11_tellLetter_60 rfl rfl rfl ?_
        refine kx_isub 62 F (v := (M (M (M c0 10) 0) a1) - a2 - 1) dX11_tellLetter_61 (by omega) rfl ?_
        refine kx_wrapi (fun w_14 h_15 _ => ?_)
        refine kx_Si 65 F (As := [vI (M (M (M c0 10) 1) a1), vI (M (M c0 5) 2), vI w_14]) (st := [vR G c0]) sd_X11_348 (c_X2_digit G l M (M (M (M c0 10) 1) a1) (M (M c0 5) 2) w_14 hI_M (by omega)) ⟨by decide, by decide⟩ rfl rfl (Nat.le_of_ble_eq_true rfl) dX11_tellLetter_62 rfl ?_
        intro r_16 N_17 q_18
        obtain ⟨rfl, q_18c⟩ := q_18
        refine kx_Vi 68 (ci := 0) F (As := [vI r_16]) (st := []) vd_X11_145 (c_X11_answer G l M c0 r_16 hI_M hk_c0 (by omega)) hk_c0 rfl rfl rfl ⟨by decide, by decide⟩ rfl rfl (Nat.le_of_ble_eq_true rfl) dX11_tellLetter_65 rfl ?_
        intro r_19 N_20 q_21
        obtain ⟨hI_N_20, hG_N_20, q_21c⟩ := q_21
        have hF_N_20 : Fr f_c_X11_tellLetter M N_20 := Fr.c hF_M hG_N_20 rfl
        exact kx_iret F hQ ⟨hI_N_20, hF_N_20, (by omega)⟩ dX11_tellLetter_68
      · refine kx_aload_n 34 F 0 dX11_tellLetter_33 rfl rfl rfl ?_
        refine kx_bipush 36 F dX11_tellLetter_34 (by decide) rfl ?_
        refine kx_Vi 39 (ci := 0) F (As := [vI 7]) (st := []) vd_X11_110 (c_X11_refuse G l M c0 7 hI_M hk_c0 (by omega)) hk_c0 rfl rfl rfl ⟨by decide, by decide⟩ rfl rfl (Nat.le_of_ble_eq_true rfl) dX11_tellLetter_36 rfl ?_
        intro r_22 N_23 q_24
        obtain ⟨hI_N_23, hG_N_23, q_24c⟩ := q_24
        have hF_N_23 : Fr f_c_X11_tellLetter M N_23 := Fr.c hF_M hG_N_23 rfl
        subst q_24c
        exact kx_iret F hQ ⟨hI_N_23, hF_N_23, (by omega)⟩ dX11_tellLetter_39
    · refine kx_aload_n 21 F 0 dX11_tellLetter_20 rfl rfl rfl ?_
      refine kx_bipush 23 F dX11_tellLetter_21 (by decide) rfl ?_
      refine kx_Vi 26 (ci := 0) F (As := [vI 6]) (st := []) vd_X11_110 (c_X11_refuse G l M c0 6 hI_M hk_c0 (by omega)) hk_c0 rfl rfl rfl ⟨by decide, by decide⟩ rfl rfl (Nat.le_of_ble_eq_true rfl) dX11_tellLetter_23 rfl ?_
      intro r_25 N_26 q_27
      obtain ⟨hI_N_26, hG_N_26, q_27c⟩ := q_27
      have hF_N_26 : Fr f_c_X11_tellLetter M N_26 := Fr.c hF_M hG_N_26 rfl
      subst q_27c
      exact kx_iret F hQ ⟨hI_N_26, hF_N_26, (by omega)⟩ dX11_tellLetter_26
theorem dX11_tray_0 : decode cX11_tray 0 = .ok (.aload_n 0, 1) := by decide +kernel
theorem dX11_tray_1 : decode cX11_tray 1 = .ok (.getfield 10, 3) := by decide +kernel
theorem dX11_tray_4 : decode cX11_tray 4 = .ok (.iload_n 1, 1) := by decide +kernel
theorem dX11_tray_5 : decode cX11_tray 5 = .ok (.invokevirtual 83, 3) := by decide +kernel
theorem dX11_tray_8 : decode cX11_tray 8 = .ok (.ifCond .eq 22, 3) := by decide +kernel
theorem dX11_tray_11 : decode cX11_tray 11 = .ok (.iload_n 2, 1) := by decide +kernel
theorem dX11_tray_12 : decode cX11_tray 12 = .ok (.iconst 0, 1) := by decide +kernel
theorem dX11_tray_13 : decode cX11_tray 13 = .ok (.iconst 3, 1) := by decide +kernel
theorem dX11_tray_14 : decode cX11_tray 14 = .ok (.invokestatic 87, 3) := by decide +kernel
theorem dX11_tray_17 : decode cX11_tray 17 = .ok (.ifCond .eq 13, 3) := by decide +kernel
theorem dX11_tray_20 : decode cX11_tray 20 = .ok (.iload_n 3, 1) := by decide +kernel
theorem dX11_tray_21 : decode cX11_tray 21 = .ok (.iconst 0, 1) := by decide +kernel
theorem dX11_tray_22 : decode cX11_tray 22 = .ok (.bipush 60, 2) := by decide +kernel
theorem dX11_tray_24 : decode cX11_tray 24 = .ok (.invokestatic 87, 3) := by decide +kernel
theorem dX11_tray_27 : decode cX11_tray 27 = .ok (.ifCond .ne 9, 3) := by decide +kernel
theorem dX11_tray_30 : decode cX11_tray 30 = .ok (.aload_n 0, 1) := by decide +kernel
theorem dX11_tray_31 : decode cX11_tray 31 = .ok (.iconst 1, 1) := by decide +kernel
theorem dX11_tray_32 : decode cX11_tray 32 = .ok (.invokevirtual 91, 3) := by decide +kernel
theorem dX11_tray_35 : decode cX11_tray 35 = .ok (.ireturn, 1) := by decide +kernel
theorem dX11_tray_36 : decode cX11_tray 36 = .ok (.aload_n 0, 1) := by decide +kernel
theorem dX11_tray_37 : decode cX11_tray 37 = .ok (.getfield 10, 3) := by decide +kernel
theorem dX11_tray_40 : decode cX11_tray 40 = .ok (.iload_n 1, 1) := by decide +kernel
theorem dX11_tray_41 : decode cX11_tray 41 = .ok (.iload_n 2, 1) := by decide +kernel
theorem dX11_tray_42 : decode cX11_tray 42 = .ok (.iload_n 3, 1) := by decide +kernel
theorem dX11_tray_43 : decode cX11_tray 43 = .ok (.invokevirtual 94, 3) := by decide +kernel
theorem dX11_tray_46 : decode cX11_tray 46 = .ok (.aload_n 0, 1) := by decide +kernel
theorem dX11_tray_47 : decode cX11_tray 47 = .ok (.invokevirtual 98, 3) := by decide +kernel
theorem dX11_tray_50 : decode cX11_tray 50 = .ok (.ireturn, 1) := by decide +kernel
abbrev f_c_X11_tray : List (Nat × Int) := [(14, -1), (15, -1), (16, -1), (62, 0)]
set_option maxHeartbeats 4000000 in
set_option maxRecDepth 100000 in
theorem c_X11_tray (G : KG) (l : Launch) (M : Mem) (c0 : Int) (a1 : Int) (a2 : Int) (a3 : Int) (hI_M : Inv false M) (hk_c0 : kd c0 = 62) (hpre : -2147483648 ≤ a1 ∧ a1 ≤ 2147483647 ∧ -2147483648 ≤ a2 ∧ a2 ≤ 2147483647 ∧ -2147483648 ≤ a3 ∧ a3 ≤ 2147483647) : KC false G l yX11_tray cX11_tray 4 (some .boolean) (2, 43) [vR G c0, vI a1, vI a2, vI a3] M (fun A => kQi false G A (fun (r : Int) (N : Mem) => Inv false N ∧ Fr f_c_X11_tray M N ∧ (0 ≤ r ∧ r ≤ 1))) := by
  refine kx_met (lo := [some (vR G c0), some (vI a1), some (vI a2), some (vI a3)]) (by decide) (Nat.le_of_ble_eq_true rfl) rfl ?_
  intro X F hQ
  have hF_M : Fr f_c_X11_tray M M := Fr.rf _ _
  refine kx_aload_n 1 F 0 dX11_tray_0 rfl rfl rfl ?_
  refine kx_getr 4 F fl_X11_10 hk_c0 rfl rfl (j := 3) rfl dX11_tray_1 (v := (M c0 3)) rfl rfl ?_
  have hk_1 : kd (M c0 3) = 13 := Inv.r hI_M hk_c0 rfl 3 rfl rfl
  refine kx_iload_n 5 F 1 dX11_tray_4 rfl rfl rfl ?_
  refine kx_Vi 8 (ci := 0) F (As := [vI a1]) (st := []) vd_X11_83 (c_X9_has G l M (M c0 3) a1 hI_M hk_1 (by omega)) hk_1 rfl rfl rfl ⟨by decide, by decide⟩ rfl rfl (Nat.le_of_ble_eq_true rfl) dX11_tray_5 rfl ?_
  intro r_2 N_3 q_4
  obtain ⟨rfl, q_4c⟩ := q_4
  rcases q_4c with q_4c | q_4c
  · refine kx_if_eq 11 F 30 dX11_tray_8 (by decide) rfl (by omega) (fun h_5 => (by exfalso; omega)) (fun h_5 => ?_)
    refine kx_iload_n 12 F 2 dX11_tray_11 rfl rfl rfl ?_
    refine kx_iconst 13 F dX11_tray_12 rfl ?_
    refine kx_iconst 14 F dX11_tray_13 rfl ?_
    refine kx_Si 17 F (As := [vI a2, vI 0, vI 3]) (st := []) sd_X11_87 (c_X11_within G l M a2 0 3 hI_M (by omega)) ⟨by decide, by decide⟩ rfl rfl (Nat.le_of_ble_eq_true rfl) dX11_tray_14 rfl ?_
    intro r_6 N_7 q_8
    obtain ⟨rfl, q_8c⟩ := q_8
    rcases q_8c with q_8c | q_8c
    · refine kx_if_eq 20 F 30 dX11_tray_17 (by decide) rfl (by omega) (fun h_9 => (by exfalso; omega)) (fun h_9 => ?_)
      refine kx_iload_n 21 F 3 dX11_tray_20 rfl rfl rfl ?_
      refine kx_iconst 22 F dX11_tray_21 rfl ?_
      refine kx_bipush 24 F dX11_tray_22 (by decide) rfl ?_
      refine kx_Si 27 F (As := [vI a3, vI 0, vI 60]) (st := []) sd_X11_87 (c_X11_within G l M a3 0 60 hI_M (by omega)) ⟨by decide, by decide⟩ rfl rfl (Nat.le_of_ble_eq_true rfl) dX11_tray_24 rfl ?_
      intro r_10 N_11 q_12
      obtain ⟨rfl, q_12c⟩ := q_12
      rcases q_12c with q_12c | q_12c
      · refine kx_if_ne 30 F 36 dX11_tray_27 (by decide) rfl (by omega) (fun h_13 => ?_) (fun h_13 => (by exfalso; omega))
        refine kx_aload_n 37 F 0 dX11_tray_36 rfl rfl rfl ?_
        refine kx_getr 40 F fl_X11_10 hk_c0 rfl rfl (j := 3) rfl dX11_tray_37 (v := (M c0 3)) rfl rfl ?_
        refine kx_iload_n 41 F 1 dX11_tray_40 rfl rfl rfl ?_
        refine kx_iload_n 42 F 2 dX11_tray_41 rfl rfl rfl ?_
        refine kx_iload_n 43 F 3 dX11_tray_42 rfl rfl rfl ?_
        refine kx_Vv 46 (ci := 0) F (As := [vI a1, vI a2, vI a3]) (st := []) vd_X11_94 (c_X9_make G l M (M c0 3) a1 a2 a3 hI_M hk_1 (by omega)) hk_1 rfl rfl rfl ⟨by decide, by decide⟩ rfl rfl (Nat.le_of_ble_eq_true rfl) dX11_tray_43 rfl ?_
        intro N_14 q_15
        obtain ⟨hI_N_14, hG_N_14⟩ := q_15
        have hF_N_14 : Fr f_c_X11_tray M N_14 := Fr.c hF_M hG_N_14 rfl
        refine kx_aload_n 47 F 0 dX11_tray_46 rfl rfl rfl ?_
        refine kx_Vi 50 (ci := 0) F (As := []) (st := []) vd_X11_98 (c_X11_agree G l N_14 c0 hI_N_14 hk_c0) hk_c0 rfl rfl rfl ⟨by decide, by decide⟩ rfl rfl (Nat.le_of_ble_eq_true rfl) dX11_tray_47 rfl ?_
        intro r_16 N_17 q_18
        obtain ⟨hI_N_17, hG_N_17, q_18c⟩ := q_18
        have hF_N_17 : Fr f_c_X11_tray M N_17 := Fr.c hF_N_14 hG_N_17 rfl
        subst q_18c
        exact kx_zret F hQ (by omega) ⟨hI_N_17, hF_N_17, (by omega)⟩ dX11_tray_50
      · refine kx_if_ne 30 F 36 dX11_tray_27 (by decide) rfl (by omega) (fun h_19 => (by exfalso; omega)) (fun h_19 => ?_)
        refine kx_aload_n 31 F 0 dX11_tray_30 rfl rfl rfl ?_
        refine kx_iconst 32 F dX11_tray_31 rfl ?_
        refine kx_Vi 35 (ci := 0) F (As := [vI 1]) (st := []) vd_X11_91 (c_X11_deny G l M c0 1 hI_M hk_c0 (by omega)) hk_c0 rfl rfl rfl ⟨by decide, by decide⟩ rfl rfl (Nat.le_of_ble_eq_true rfl) dX11_tray_32 rfl ?_
        intro r_20 N_21 q_22
        obtain ⟨hI_N_21, hG_N_21, q_22c⟩ := q_22
        have hF_N_21 : Fr f_c_X11_tray M N_21 := Fr.c hF_M hG_N_21 rfl
        subst q_22c
        exact kx_zret F hQ (by omega) ⟨hI_N_21, hF_N_21, (by omega)⟩ dX11_tray_35
    · refine kx_if_eq 20 F 30 dX11_tray_17 (by decide) rfl (by omega) (fun h_23 => ?_) (fun h_23 => (by exfalso; omega))
      refine kx_aload_n 31 F 0 dX11_tray_30 rfl rfl rfl ?_
      refine kx_iconst 32 F dX11_tray_31 rfl ?_
      refine kx_Vi 35 (ci := 0) F (As := [vI 1]) (st := []) vd_X11_91 (c_X11_deny G l M c0 1 hI_M hk_c0 (by omega)) hk_c0 rfl rfl rfl ⟨by decide, by decide⟩ rfl rfl (Nat.le_of_ble_eq_true rfl) dX11_tray_32 rfl ?_
      intro r_24 N_25 q_26
      obtain ⟨hI_N_25, hG_N_25, q_26c⟩ := q_26
      have hF_N_25 : Fr f_c_X11_tray M N_25 := Fr.c hF_M hG_N_25 rfl
      subst q_26c
      exact kx_zret F hQ (by omega) ⟨hI_N_25, hF_N_25, (by omega)⟩ dX11_tray_35
  · refine kx_if_eq 11 F 30 dX11_tray_8 (by decide) rfl (by omega) (fun h_27 => ?_) (fun h_27 => (by exfalso; omega))
    refine kx_aload_n 31 F 0 dX11_tray_30 rfl rfl rfl ?_
    refine kx_iconst 32 F dX11_tray_31 rfl ?_
    refine kx_Vi 35 (ci := 0) F (As := [vI 1]) (st := []) vd_X11_91 (c_X11_deny G l M c0 1 hI_M hk_c0 (by omega)) hk_c0 rfl rfl rfl ⟨by decide, by decide⟩ rfl rfl (Nat.le_of_ble_eq_true rfl) dX11_tray_32 rfl ?_
    intro r_28 N_29 q_30
    obtain ⟨hI_N_29, hG_N_29, q_30c⟩ := q_30
    have hF_N_29 : Fr f_c_X11_tray M N_29 := Fr.c hF_M hG_N_29 rfl
    subst q_30c
    exact kx_zret F hQ (by omega) ⟨hI_N_29, hF_N_29, (by omega)⟩ dX11_tray_35
theorem dX11_write_0 : decode cX11_write 0 = .ok (.aload_n 0, 1) := by decide +kernel
theorem dX11_write_1 : decode cX11_write 1 = .ok (.getfield 10, 3) := by decide +kernel
theorem dX11_write_4 : decode cX11_write 4 = .ok (.iload_n 1, 1) := by decide +kernel
theorem dX11_write_5 : decode cX11_write 5 = .ok (.iload_n 2, 1) := by decide +kernel
theorem dX11_write_6 : decode cX11_write 6 = .ok (.invokevirtual 102, 3) := by decide +kernel
theorem dX11_write_9 : decode cX11_write 9 = .ok (.istore 5, 2) := by decide +kernel
theorem dX11_write_11 : decode cX11_write 11 = .ok (.iload 5, 2) := by decide +kernel
theorem dX11_write_13 : decode cX11_write 13 = .ok (.ifCond .eq 10, 3) := by decide +kernel
theorem dX11_write_16 : decode cX11_write 16 = .ok (.aload_n 0, 1) := by decide +kernel
theorem dX11_write_17 : decode cX11_write 17 = .ok (.iload 5, 2) := by decide +kernel
theorem dX11_write_19 : decode cX11_write 19 = .ok (.invokevirtual 91, 3) := by decide +kernel
theorem dX11_write_22 : decode cX11_write 22 = .ok (.ireturn, 1) := by decide +kernel
theorem dX11_write_23 : decode cX11_write 23 = .ok (.aload_n 0, 1) := by decide +kernel
theorem dX11_write_24 : decode cX11_write 24 = .ok (.getfield 10, 3) := by decide +kernel
theorem dX11_write_27 : decode cX11_write 27 = .ok (.iload_n 1, 1) := by decide +kernel
theorem dX11_write_28 : decode cX11_write 28 = .ok (.iload_n 2, 1) := by decide +kernel
theorem dX11_write_29 : decode cX11_write 29 = .ok (.lload_n 3, 1) := by decide +kernel
theorem dX11_write_30 : decode cX11_write 30 = .ok (.invokevirtual 106, 3) := by decide +kernel
theorem dX11_write_33 : decode cX11_write 33 = .ok (.aload_n 0, 1) := by decide +kernel
theorem dX11_write_34 : decode cX11_write 34 = .ok (.invokevirtual 98, 3) := by decide +kernel
theorem dX11_write_37 : decode cX11_write 37 = .ok (.ireturn, 1) := by decide +kernel
abbrev f_c_X11_write : List (Nat × Int) := [(14, -1), (62, 0)]
set_option maxHeartbeats 4000000 in
set_option maxRecDepth 100000 in
theorem c_X11_write (G : KG) (l : Launch) (M : Mem) (c0 : Int) (a1 : Int) (a2 : Int) (a3 : Int) (hI_M : Inv false M) (hk_c0 : kd c0 = 62) (hpre : -2147483648 ≤ a1 ∧ a1 ≤ 2147483647 ∧ -2147483648 ≤ a2 ∧ a2 ≤ 2147483647 ∧ -9223372036854775808 ≤ a3 ∧ a3 ≤ 9223372036854775807) : KC false G l yX11_write cX11_write 6 (some .boolean) (3, 65) [vR G c0, vI a1, vI a2, vL a3] M (fun A => kQi false G A (fun (r : Int) (N : Mem) => Inv false N ∧ Fr f_c_X11_write M N ∧ (0 ≤ r ∧ r ≤ 1))) := by
  refine kx_met (lo := [some (vR G c0), some (vI a1), some (vI a2), some (vL a3), none, none]) (by decide) (Nat.le_of_ble_eq_true rfl) rfl ?_
  intro X F hQ
  have hF_M : Fr f_c_X11_write M M := Fr.rf _ _
  refine kx_aload_n 1 F 0 dX11_write_0 rfl rfl rfl ?_
  refine kx_getr 4 F fl_X11_10 hk_c0 rfl rfl (j := 3) rfl dX11_write_1 (v := (M c0 3)) rfl rfl ?_
  have hk_1 : kd (M c0 3) = 13 := Inv.r hI_M hk_c0 rfl 3 rfl rfl
  refine kx_iload_n 5 F 1 dX11_write_4 rfl rfl rfl ?_
  refine kx_iload_n 6 F 2 dX11_write_5 rfl rfl rfl ?_
  refine kx_Vi 9 (ci := 0) F (As := [vI a1, vI a2]) (st := []) vd_X11_102 (c_X9_refusal G l M (M c0 3) a1 a2 hI_M hk_1 (by omega)) hk_1 rfl rfl rfl ⟨by decide, by decide⟩ rfl rfl (Nat.le_of_ble_eq_true rfl) dX11_write_6 rfl ?_
  intro r_2 N_3 q_4
  obtain ⟨rfl, q_4c⟩ := q_4
  rcases q_4c with q_4c | q_4c
  · refine kx_istore 11 F 5 (lo' := [some (vR G c0), some (vI a1), some (vI a2), some (vL a3), none, some (vI r_2)]) dX11_write_9 (by decide) rfl rfl rfl ?_
    refine kx_iload 13 F 5 dX11_write_11 rfl rfl ?_
    refine kx_if_eq 16 F 23 dX11_write_13 (by decide) rfl (by omega) (fun h_5 => ?_) (fun h_5 => (by exfalso; omega))
    refine kx_aload_n 24 F 0 dX11_write_23 rfl rfl rfl ?_
    refine kx_getr 27 F fl_X11_10 hk_c0 rfl rfl (j := 3) rfl dX11_write_24 (v := (M c0 3)) rfl rfl ?_
    refine kx_iload_n 28 F 1 dX11_write_27 rfl rfl rfl ?_
    refine kx_iload_n 29 F 2 dX11_write_28 rfl rfl rfl ?_
    refine kx_lload_n 30 F 3 dX11_write_29 rfl rfl rfl ?_
    refine kx_Vv 33 (ci := 0) F (As := [vI a1, vI a2, vL a3]) (st := []) vd_X11_106 (c_X9_set G l M (M c0 3) a1 a2 a3 hI_M hk_1 (by omega)) hk_1 rfl rfl rfl ⟨by decide, by decide⟩ rfl rfl (Nat.le_of_ble_eq_true rfl) dX11_write_30 rfl ?_
    intro N_6 q_7
    obtain ⟨hI_N_6, hG_N_6⟩ := q_7
    have hF_N_6 : Fr f_c_X11_write M N_6 := Fr.c hF_M hG_N_6 rfl
    refine kx_aload_n 34 F 0 dX11_write_33 rfl rfl rfl ?_
    refine kx_Vi 37 (ci := 0) F (As := []) (st := []) vd_X11_98 (c_X11_agree G l N_6 c0 hI_N_6 hk_c0) hk_c0 rfl rfl rfl ⟨by decide, by decide⟩ rfl rfl (Nat.le_of_ble_eq_true rfl) dX11_write_34 rfl ?_
    intro r_8 N_9 q_10
    obtain ⟨hI_N_9, hG_N_9, q_10c⟩ := q_10
    have hF_N_9 : Fr f_c_X11_write M N_9 := Fr.c hF_N_6 hG_N_9 rfl
    subst q_10c
    exact kx_zret F hQ (by omega) ⟨hI_N_9, hF_N_9, (by omega)⟩ dX11_write_37
  · refine kx_istore 11 F 5 (lo' := [some (vR G c0), some (vI a1), some (vI a2), some (vL a3), none, some (vI r_2)]) dX11_write_9 (by decide) rfl rfl rfl ?_
    refine kx_iload 13 F 5 dX11_write_11 rfl rfl ?_
    refine kx_if_eq 16 F 23 dX11_write_13 (by decide) rfl (by omega) (fun h_11 => (by exfalso; omega)) (fun h_11 => ?_)
    refine kx_aload_n 17 F 0 dX11_write_16 rfl rfl rfl ?_
    refine kx_iload 19 F 5 dX11_write_17 rfl rfl ?_
    refine kx_Vi 22 (ci := 0) F (As := [vI r_2]) (st := []) vd_X11_91 (c_X11_deny G l M c0 r_2 hI_M hk_c0 (by omega)) hk_c0 rfl rfl rfl ⟨by decide, by decide⟩ rfl rfl (Nat.le_of_ble_eq_true rfl) dX11_write_19 rfl ?_
    intro r_12 N_13 q_14
    obtain ⟨hI_N_13, hG_N_13, q_14c⟩ := q_14
    have hF_N_13 : Fr f_c_X11_write M N_13 := Fr.c hF_M hG_N_13 rfl
    subst q_14c
    exact kx_zret F hQ (by omega) ⟨hI_N_13, hF_N_13, (by omega)⟩ dX11_write_22
theorem dX11_read_0 : decode cX11_read 0 = .ok (.aload_n 0, 1) := by decide +kernel
theorem dX11_read_1 : decode cX11_read 1 = .ok (.getfield 10, 3) := by decide +kernel
theorem dX11_read_4 : decode cX11_read 4 = .ok (.iload_n 1, 1) := by decide +kernel
theorem dX11_read_5 : decode cX11_read 5 = .ok (.iload_n 2, 1) := by decide +kernel
theorem dX11_read_6 : decode cX11_read 6 = .ok (.invokevirtual 102, 3) := by decide +kernel
theorem dX11_read_9 : decode cX11_read 9 = .ok (.istore_n 3, 1) := by decide +kernel
theorem dX11_read_10 : decode cX11_read 10 = .ok (.iload_n 3, 1) := by decide +kernel
theorem dX11_read_11 : decode cX11_read 11 = .ok (.ifCond .eq 10, 3) := by decide +kernel
theorem dX11_read_14 : decode cX11_read 14 = .ok (.aload_n 0, 1) := by decide +kernel
theorem dX11_read_15 : decode cX11_read 15 = .ok (.iload_n 3, 1) := by decide +kernel
theorem dX11_read_16 : decode cX11_read 16 = .ok (.invokevirtual 110, 3) := by decide +kernel
theorem dX11_read_19 : decode cX11_read 19 = .ok (.i2l, 1) := by decide +kernel
theorem dX11_read_20 : decode cX11_read 20 = .ok (.lreturn, 1) := by decide +kernel
theorem dX11_read_21 : decode cX11_read 21 = .ok (.aload_n 0, 1) := by decide +kernel
theorem dX11_read_22 : decode cX11_read 22 = .ok (.iconst 0, 1) := by decide +kernel
theorem dX11_read_23 : decode cX11_read 23 = .ok (.putfield 72, 3) := by decide +kernel
theorem dX11_read_26 : decode cX11_read 26 = .ok (.aload_n 0, 1) := by decide +kernel
theorem dX11_read_27 : decode cX11_read 27 = .ok (.getfield 10, 3) := by decide +kernel
theorem dX11_read_30 : decode cX11_read 30 = .ok (.iload_n 1, 1) := by decide +kernel
theorem dX11_read_31 : decode cX11_read 31 = .ok (.iload_n 2, 1) := by decide +kernel
theorem dX11_read_32 : decode cX11_read 32 = .ok (.invokevirtual 114, 3) := by decide +kernel
theorem dX11_read_35 : decode cX11_read 35 = .ok (.lreturn, 1) := by decide +kernel
abbrev f_c_X11_read : List (Nat × Int) := [(62, 0)]
set_option maxHeartbeats 4000000 in
set_option maxRecDepth 100000 in
theorem c_X11_read (G : KG) (l : Launch) (M : Mem) (c0 : Int) (a1 : Int) (a2 : Int) (hI_M : Inv false M) (hk_c0 : kd c0 = 62) (hpre : -2147483648 ≤ a1 ∧ a1 ≤ 2147483647 ∧ -2147483648 ≤ a2 ∧ a2 ≤ 2147483647) : KC false G l yX11_read cX11_read 4 (some .long) (3, 65) [vR G c0, vI a1, vI a2] M (fun A => kQl false G A (fun (r : Int) (N : Mem) => Inv false N ∧ Fr f_c_X11_read M N ∧ (r ≥ -9223372036854775808 ∧ r ≤ 9223372036854775807))) := by
  refine kx_met (lo := [some (vR G c0), some (vI a1), some (vI a2), none]) (by decide) (Nat.le_of_ble_eq_true rfl) rfl ?_
  intro X F hQ
  have hF_M : Fr f_c_X11_read M M := Fr.rf _ _
  refine kx_aload_n 1 F 0 dX11_read_0 rfl rfl rfl ?_
  refine kx_getr 4 F fl_X11_10 hk_c0 rfl rfl (j := 3) rfl dX11_read_1 (v := (M c0 3)) rfl rfl ?_
  have hk_1 : kd (M c0 3) = 13 := Inv.r hI_M hk_c0 rfl 3 rfl rfl
  refine kx_iload_n 5 F 1 dX11_read_4 rfl rfl rfl ?_
  refine kx_iload_n 6 F 2 dX11_read_5 rfl rfl rfl ?_
  refine kx_Vi 9 (ci := 0) F (As := [vI a1, vI a2]) (st := []) vd_X11_102 (c_X9_refusal G l M (M c0 3) a1 a2 hI_M hk_1 (by omega)) hk_1 rfl rfl rfl ⟨by decide, by decide⟩ rfl rfl (Nat.le_of_ble_eq_true rfl) dX11_read_6 rfl ?_
  intro r_2 N_3 q_4
  obtain ⟨rfl, q_4c⟩ := q_4
  rcases q_4c with q_4c | q_4c
  · refine kx_istore_n 10 F 3 (lo' := [some (vR G c0), some (vI a1), some (vI a2), some (vI r_2)]) dX11_read_9 rfl (by decide) rfl rfl rfl ?_
    refine kx_iload_n 11 F 3 dX11_read_10 rfl rfl rfl ?_
    refine kx_if_eq 14 F 21 dX11_read_11 (by decide) rfl (by omega) (fun h_5 => ?_) (fun h_5 => (by exfalso; omega))
    refine kx_aload_n 22 F 0 dX11_read_21 rfl rfl rfl ?_
    refine kx_iconst 23 F dX11_read_22 rfl ?_
    refine kx_puti 26 F fw_X11_72 rfl hk_c0 rfl rfl (j := 0) rfl dX11_read_23 rfl ?_
    intro N_6 hM_N_6
    have hI_N_6 : Inv false N_6 := Inv.u hI_M hM_N_6 hk_c0 (a := (-2147483648)) (b := 2147483647) rfl rfl rfl (by omega)
    have hF_N_6 : Fr f_c_X11_read M N_6 := Fr.u hF_M hM_N_6 hk_c0 rfl
    refine kx_aload_n 27 F 0 dX11_read_26 rfl rfl rfl ?_
    refine kx_getr 30 F fl_X11_10 hk_c0 rfl rfl (j := 3) rfl dX11_read_27 (v := (M c0 3)) (by rw [hM_N_6, mu_i (by omega)]) rfl ?_
    refine kx_iload_n 31 F 1 dX11_read_30 rfl rfl rfl ?_
    refine kx_iload_n 32 F 2 dX11_read_31 rfl rfl rfl ?_
    refine kx_Vl 35 (ci := 0) F (As := [vI a1, vI a2]) (st := []) vd_X11_114 (c_X9_get G l N_6 (M c0 3) a1 a2 hI_N_6 hk_1 (by omega)) hk_1 rfl rfl rfl ⟨by decide, by decide⟩ rfl rfl (Nat.le_of_ble_eq_true rfl) dX11_read_32 rfl ?_
    intro r_7 N_8 q_9
    obtain ⟨rfl, q_9c⟩ := q_9
    have hk_10 : kd (M (M c0 3) 0) = 14 := Inv.r hI_M hk_1 rfl 0 rfl rfl
    have e_11 : (N_6 (M c0 3) 0) = (M (M c0 3) 0) := by rw [hM_N_6, mu_k hk_1 hk_c0 rfl]
    have e_12 : (N_6 (N_6 (M c0 3) 0) (60 * a1 + a2)) = (M (M (M c0 3) 0) (60 * a1 + a2)) := by rw [e_11, hM_N_6, mu_k hk_10 hk_c0 rfl]
    have e_13 : (N_6 (M c0 3) 0) = (M (M c0 3) 0) := by rw [hM_N_6, mu_k hk_1 hk_c0 rfl]
    have e_14 : (N_6 (N_6 (M c0 3) 0) (60 * a1 + a2)) = (M (M (M c0 3) 0) (60 * a1 + a2)) := by rw [e_13, hM_N_6, mu_k hk_10 hk_c0 rfl]
    exact kx_lret F hQ ⟨hI_N_6, hF_N_6, (by omega)⟩ dX11_read_35
  · refine kx_istore_n 10 F 3 (lo' := [some (vR G c0), some (vI a1), some (vI a2), some (vI r_2)]) dX11_read_9 rfl (by decide) rfl rfl rfl ?_
    refine kx_iload_n 11 F 3 dX11_read_10 rfl rfl rfl ?_
    refine kx_if_eq 14 F 21 dX11_read_11 (by decide) rfl (by omega) (fun h_15 => (by exfalso; omega)) (fun h_15 => ?_)
    refine kx_aload_n 15 F 0 dX11_read_14 rfl rfl rfl ?_
    refine kx_iload_n 16 F 3 dX11_read_15 rfl rfl rfl ?_
    refine kx_Vi 19 (ci := 0) F (As := [vI r_2]) (st := []) vd_X11_110 (c_X11_refuse G l M c0 r_2 hI_M hk_c0 (by omega)) hk_c0 rfl rfl rfl ⟨by decide, by decide⟩ rfl rfl (Nat.le_of_ble_eq_true rfl) dX11_read_16 rfl ?_
    intro r_16 N_17 q_18
    obtain ⟨hI_N_17, hG_N_17, q_18c⟩ := q_18
    have hF_N_17 : Fr f_c_X11_read M N_17 := Fr.c hF_M hG_N_17 rfl
    subst q_18c
    refine kx_i2l 20 F dX11_read_19 (by omega) rfl ?_
    exact kx_lret F hQ ⟨hI_N_17, hF_N_17, (by omega)⟩ dX11_read_20
theorem dX11_pour_0 : decode cX11_pour 0 = .ok (.aload_n 0, 1) := by decide +kernel
theorem dX11_pour_1 : decode cX11_pour 1 = .ok (.getfield 10, 3) := by decide +kernel
theorem dX11_pour_4 : decode cX11_pour 4 = .ok (.iload_n 1, 1) := by decide +kernel
theorem dX11_pour_5 : decode cX11_pour 5 = .ok (.iload_n 2, 1) := by decide +kernel
theorem dX11_pour_6 : decode cX11_pour 6 = .ok (.iload_n 3, 1) := by decide +kernel
theorem dX11_pour_7 : decode cX11_pour 7 = .ok (.iload 4, 2) := by decide +kernel
theorem dX11_pour_9 : decode cX11_pour 9 = .ok (.iload 5, 2) := by decide +kernel
theorem dX11_pour_11 : decode cX11_pour 11 = .ok (.invokevirtual 118, 3) := by decide +kernel
theorem dX11_pour_14 : decode cX11_pour 14 = .ok (.istore 6, 2) := by decide +kernel
theorem dX11_pour_16 : decode cX11_pour 16 = .ok (.iload 6, 2) := by decide +kernel
theorem dX11_pour_18 : decode cX11_pour 18 = .ok (.ifCond .eq 10, 3) := by decide +kernel
theorem dX11_pour_21 : decode cX11_pour 21 = .ok (.aload_n 0, 1) := by decide +kernel
theorem dX11_pour_22 : decode cX11_pour 22 = .ok (.iload 6, 2) := by decide +kernel
theorem dX11_pour_24 : decode cX11_pour 24 = .ok (.invokevirtual 91, 3) := by decide +kernel
theorem dX11_pour_27 : decode cX11_pour 27 = .ok (.ireturn, 1) := by decide +kernel
theorem dX11_pour_28 : decode cX11_pour 28 = .ok (.aload_n 0, 1) := by decide +kernel
theorem dX11_pour_29 : decode cX11_pour 29 = .ok (.getfield 10, 3) := by decide +kernel
theorem dX11_pour_32 : decode cX11_pour 32 = .ok (.iload_n 1, 1) := by decide +kernel
theorem dX11_pour_33 : decode cX11_pour 33 = .ok (.iload_n 2, 1) := by decide +kernel
theorem dX11_pour_34 : decode cX11_pour 34 = .ok (.iload_n 3, 1) := by decide +kernel
theorem dX11_pour_35 : decode cX11_pour 35 = .ok (.iload 4, 2) := by decide +kernel
theorem dX11_pour_37 : decode cX11_pour 37 = .ok (.iload 5, 2) := by decide +kernel
theorem dX11_pour_39 : decode cX11_pour 39 = .ok (.invokevirtual 122, 3) := by decide +kernel
theorem dX11_pour_42 : decode cX11_pour 42 = .ok (.aload_n 0, 1) := by decide +kernel
theorem dX11_pour_43 : decode cX11_pour 43 = .ok (.invokevirtual 98, 3) := by decide +kernel
theorem dX11_pour_46 : decode cX11_pour 46 = .ok (.ireturn, 1) := by decide +kernel
abbrev f_c_X11_pour : List (Nat × Int) := [(14, -1), (62, 0)]
set_option maxHeartbeats 4000000 in
set_option maxRecDepth 100000 in
theorem c_X11_pour (G : KG) (l : Launch) (M : Mem) (c0 : Int) (a1 : Int) (a2 : Int) (a3 : Int) (a4 : Int) (a5 : Int) (hI_M : Inv false M) (hk_c0 : kd c0 = 62) (hpre : -2147483648 ≤ a1 ∧ a1 ≤ 2147483647 ∧ -2147483648 ≤ a2 ∧ a2 ≤ 2147483647 ∧ -2147483648 ≤ a3 ∧ a3 ≤ 2147483647 ∧ -2147483648 ≤ a4 ∧ a4 ≤ 2147483647 ∧ -2147483648 ≤ a5 ∧ a5 ≤ 2147483647) : KC false G l yX11_pour cX11_pour 7 (some .boolean) (3, 69) [vR G c0, vI a1, vI a2, vI a3, vI a4, vI a5] M (fun A => kQi false G A (fun (r : Int) (N : Mem) => Inv false N ∧ Fr f_c_X11_pour M N ∧ (0 ≤ r ∧ r ≤ 1))) := by
  refine kx_met (lo := [some (vR G c0), some (vI a1), some (vI a2), some (vI a3), some (vI a4), some (vI a5), none]) (by decide) (Nat.le_of_ble_eq_true rfl) rfl ?_
  intro X F hQ
  have hF_M : Fr f_c_X11_pour M M := Fr.rf _ _
  refine kx_aload_n 1 F 0 dX11_pour_0 rfl rfl rfl ?_
  refine kx_getr 4 F fl_X11_10 hk_c0 rfl rfl (j := 3) rfl dX11_pour_1 (v := (M c0 3)) rfl rfl ?_
  have hk_1 : kd (M c0 3) = 13 := Inv.r hI_M hk_c0 rfl 3 rfl rfl
  refine kx_iload_n 5 F 1 dX11_pour_4 rfl rfl rfl ?_
  refine kx_iload_n 6 F 2 dX11_pour_5 rfl rfl rfl ?_
  refine kx_iload_n 7 F 3 dX11_pour_6 rfl rfl rfl ?_
  refine kx_iload 9 F 4 dX11_pour_7 rfl rfl ?_
  refine kx_iload 11 F 5 dX11_pour_9 rfl rfl ?_
  refine kx_Vi 14 (ci := 0) F (As := [vI a1, vI a2, vI a3, vI a4, vI a5]) (st := []) vd_X11_118 (c_X9_pourRefusal G l M (M c0 3) a1 a2 a3 a4 a5 hI_M hk_1 (by omega)) hk_1 rfl rfl rfl ⟨by decide, by decide⟩ rfl rfl (Nat.le_of_ble_eq_true rfl) dX11_pour_11 rfl ?_
  intro r_2 N_3 q_4
  obtain ⟨rfl, q_4c⟩ := q_4
  rcases q_4c with q_4c | q_4c
  · refine kx_istore 16 F 6 (lo' := [some (vR G c0), some (vI a1), some (vI a2), some (vI a3), some (vI a4), some (vI a5), some (vI r_2)]) dX11_pour_14 (by decide) rfl rfl rfl ?_
    refine kx_iload 18 F 6 dX11_pour_16 rfl rfl ?_
    refine kx_if_eq 21 F 28 dX11_pour_18 (by decide) rfl (by omega) (fun h_5 => ?_) (fun h_5 => (by exfalso; omega))
    refine kx_aload_n 29 F 0 dX11_pour_28 rfl rfl rfl ?_
    refine kx_getr 32 F fl_X11_10 hk_c0 rfl rfl (j := 3) rfl dX11_pour_29 (v := (M c0 3)) rfl rfl ?_
    refine kx_iload_n 33 F 1 dX11_pour_32 rfl rfl rfl ?_
    refine kx_iload_n 34 F 2 dX11_pour_33 rfl rfl rfl ?_
    refine kx_iload_n 35 F 3 dX11_pour_34 rfl rfl rfl ?_
    refine kx_iload 37 F 4 dX11_pour_35 rfl rfl ?_
    refine kx_iload 39 F 5 dX11_pour_37 rfl rfl ?_
    refine kx_Vv 42 (ci := 0) F (As := [vI a1, vI a2, vI a3, vI a4, vI a5]) (st := []) vd_X11_122 (c_X9_move G l M (M c0 3) a1 a2 a3 a4 a5 hI_M hk_1 (by omega)) hk_1 rfl rfl rfl ⟨by decide, by decide⟩ rfl rfl (Nat.le_of_ble_eq_true rfl) dX11_pour_39 rfl ?_
    intro N_6 q_7
    obtain ⟨hI_N_6, hG_N_6⟩ := q_7
    have hF_N_6 : Fr f_c_X11_pour M N_6 := Fr.c hF_M hG_N_6 rfl
    refine kx_aload_n 43 F 0 dX11_pour_42 rfl rfl rfl ?_
    refine kx_Vi 46 (ci := 0) F (As := []) (st := []) vd_X11_98 (c_X11_agree G l N_6 c0 hI_N_6 hk_c0) hk_c0 rfl rfl rfl ⟨by decide, by decide⟩ rfl rfl (Nat.le_of_ble_eq_true rfl) dX11_pour_43 rfl ?_
    intro r_8 N_9 q_10
    obtain ⟨hI_N_9, hG_N_9, q_10c⟩ := q_10
    have hF_N_9 : Fr f_c_X11_pour M N_9 := Fr.c hF_N_6 hG_N_9 rfl
    subst q_10c
    exact kx_zret F hQ (by omega) ⟨hI_N_9, hF_N_9, (by omega)⟩ dX11_pour_46
  · refine kx_istore 16 F 6 (lo' := [some (vR G c0), some (vI a1), some (vI a2), some (vI a3), some (vI a4), some (vI a5), some (vI r_2)]) dX11_pour_14 (by decide) rfl rfl rfl ?_
    refine kx_iload 18 F 6 dX11_pour_16 rfl rfl ?_
    refine kx_if_eq 21 F 28 dX11_pour_18 (by decide) rfl (by omega) (fun h_11 => (by exfalso; omega)) (fun h_11 => ?_)
    refine kx_aload_n 22 F 0 dX11_pour_21 rfl rfl rfl ?_
    refine kx_iload 24 F 6 dX11_pour_22 rfl rfl ?_
    refine kx_Vi 27 (ci := 0) F (As := [vI r_2]) (st := []) vd_X11_91 (c_X11_deny G l M c0 r_2 hI_M hk_c0 (by omega)) hk_c0 rfl rfl rfl ⟨by decide, by decide⟩ rfl rfl (Nat.le_of_ble_eq_true rfl) dX11_pour_24 rfl ?_
    intro r_12 N_13 q_14
    obtain ⟨hI_N_13, hG_N_13, q_14c⟩ := q_14
    have hF_N_13 : Fr f_c_X11_pour M N_13 := Fr.c hF_M hG_N_13 rfl
    subst q_14c
    exact kx_zret F hQ (by omega) ⟨hI_N_13, hF_N_13, (by omega)⟩ dX11_pour_27
theorem dX11_fault_0 : decode cX11_fault 0 = .ok (.iload_n 1, 1) := by decide +kernel
theorem dX11_fault_1 : decode cX11_fault 1 = .ok (.ifCond .ne 11, 3) := by decide +kernel
theorem dX11_fault_4 : decode cX11_fault 4 = .ok (.aload_n 0, 1) := by decide +kernel
theorem dX11_fault_5 : decode cX11_fault 5 = .ok (.getfield 19, 3) := by decide +kernel
theorem dX11_fault_8 : decode cX11_fault 8 = .ok (.getfield 148, 3) := by decide +kernel
theorem dX11_fault_11 : decode cX11_fault 11 = .ok (.ireturn, 1) := by decide +kernel
theorem dX11_fault_12 : decode cX11_fault 12 = .ok (.iload_n 1, 1) := by decide +kernel
theorem dX11_fault_13 : decode cX11_fault 13 = .ok (.iconst 1, 1) := by decide +kernel
theorem dX11_fault_14 : decode cX11_fault 14 = .ok (.if_icmp .ne 13, 3) := by decide +kernel
theorem dX11_fault_17 : decode cX11_fault 17 = .ok (.aload_n 0, 1) := by decide +kernel
theorem dX11_fault_18 : decode cX11_fault 18 = .ok (.getfield 19, 3) := by decide +kernel
theorem dX11_fault_21 : decode cX11_fault 21 = .ok (.getfield 151, 3) := by decide +kernel
theorem dX11_fault_24 : decode cX11_fault 24 = .ok (.goto 4, 3) := by decide +kernel
theorem dX11_fault_27 : decode cX11_fault 27 = .ok (.iconst (-1), 1) := by decide +kernel
theorem dX11_fault_28 : decode cX11_fault 28 = .ok (.ireturn, 1) := by decide +kernel
set_option maxHeartbeats 4000000 in
set_option maxRecDepth 100000 in
theorem c_X11_fault (G : KG) (l : Launch) (M : Mem) (c0 : Int) (a1 : Int) (hI_M : Inv false M) (hk_c0 : kd c0 = 62) (hpre : -2147483648 ≤ a1 ∧ a1 ≤ 2147483647) : KC false G l yX11_fault cX11_fault 2 (some .int) (0, 0) [vR G c0, vI a1] M (fun A => kQi false G A (fun (r : Int) (N : Mem) => M = N ∧ (r ≥ -2147483648 ∧ r ≤ 2147483647))) := by
  refine kx_met (lo := [some (vR G c0), some (vI a1)]) (by decide) (Nat.le_of_ble_eq_true rfl) rfl ?_
  intro X F hQ
  refine kx_iload_n 1 F 1 dX11_fault_0 rfl rfl rfl ?_
  refine kx_if_ne 4 F 12 dX11_fault_1 (by decide) rfl (by omega) (fun h_1 => ?_) (fun h_1 => ?_)
  · refine kx_iload_n 13 F 1 dX11_fault_12 rfl rfl rfl ?_
    refine kx_iconst 14 F dX11_fault_13 rfl ?_
    refine kx_icmp_ne 17 F 27 dX11_fault_14 (by decide) rfl (by omega) (by decide) (fun h_2 => ?_) (fun h_2 => ?_)
    · refine kx_iconst 28 F dX11_fault_27 rfl ?_
      exact kx_iret F hQ ⟨rfl, (by omega)⟩ dX11_fault_28
    · refine kx_aload_n 18 F 0 dX11_fault_17 rfl rfl rfl ?_
      refine kx_getr 21 F fl_X11_19 hk_c0 rfl rfl (j := 4) rfl dX11_fault_18 (v := (M c0 4)) rfl rfl ?_
      have hk_3 : kd (M c0 4) = 17 := Inv.r hI_M hk_c0 rfl 4 rfl rfl
      refine kx_geti 24 F fl_X11_151 hk_3 rfl rfl (j := 3) rfl dX11_fault_21 (v := (M (M c0 4) 3)) rfl rfl ?_
      have h_4 := Inv.g hI_M hk_3 rfl 3 (a := (-2147483648)) (b := 2147483647) rfl rfl
      refine kx_goto 28 F dX11_fault_24 (by decide) ?_
      exact kx_iret F hQ ⟨rfl, (by omega)⟩ dX11_fault_28
  · refine kx_aload_n 5 F 0 dX11_fault_4 rfl rfl rfl ?_
    refine kx_getr 8 F fl_X11_19 hk_c0 rfl rfl (j := 4) rfl dX11_fault_5 (v := (M c0 4)) rfl rfl ?_
    have hk_5 : kd (M c0 4) = 17 := Inv.r hI_M hk_c0 rfl 4 rfl rfl
    refine kx_geti 11 F fl_X11_148 hk_5 rfl rfl (j := 2) rfl dX11_fault_8 (v := (M (M c0 4) 2)) rfl rfl ?_
    have h_6 := Inv.g hI_M hk_5 rfl 2 (a := (-2147483648)) (b := 2147483647) rfl rfl
    exact kx_iret F hQ ⟨rfl, (by omega)⟩ dX11_fault_11
theorem dX11_told_0 : decode cX11_told 0 = .ok (.iload_n 1, 1) := by decide +kernel
theorem dX11_told_1 : decode cX11_told 1 = .ok (.tableswitch 95 0 3 #[31, 43, 63, 83], 31) := by decide +kernel
theorem dX11_told_32 : decode cX11_told 32 = .ok (.aload_n 0, 1) := by decide +kernel
theorem dX11_told_33 : decode cX11_told 33 = .ok (.aload_n 0, 1) := by decide +kernel
theorem dX11_told_34 : decode cX11_told 34 = .ok (.getfield 26, 3) := by decide +kernel
theorem dX11_told_37 : decode cX11_told 37 = .ok (.getfield 154, 3) := by decide +kernel
theorem dX11_told_40 : decode cX11_told 40 = .ok (.invokevirtual 145, 3) := by decide +kernel
theorem dX11_told_43 : decode cX11_told 43 = .ok (.ireturn, 1) := by decide +kernel
theorem dX11_told_44 : decode cX11_told 44 = .ok (.aload_n 0, 1) := by decide +kernel
theorem dX11_told_45 : decode cX11_told 45 = .ok (.aload_n 0, 1) := by decide +kernel
theorem dX11_told_46 : decode cX11_told 46 = .ok (.getfield 26, 3) := by decide +kernel
theorem dX11_told_49 : decode cX11_told 49 = .ok (.getfield 157, 3) := by decide +kernel
theorem dX11_told_52 : decode cX11_told 52 = .ok (.aload_n 0, 1) := by decide +kernel
theorem dX11_told_53 : decode cX11_told 53 = .ok (.getfield 26, 3) := by decide +kernel
theorem dX11_told_56 : decode cX11_told 56 = .ok (.getfield 154, 3) := by decide +kernel
theorem dX11_told_59 : decode cX11_told 59 = .ok (.isub, 1) := by decide +kernel
theorem dX11_told_60 : decode cX11_told 60 = .ok (.invokevirtual 145, 3) := by decide +kernel
theorem dX11_told_63 : decode cX11_told 63 = .ok (.ireturn, 1) := by decide +kernel
theorem dX11_told_64 : decode cX11_told 64 = .ok (.aload_n 0, 1) := by decide +kernel
theorem dX11_told_65 : decode cX11_told 65 = .ok (.aload_n 0, 1) := by decide +kernel
theorem dX11_told_66 : decode cX11_told 66 = .ok (.getfield 26, 3) := by decide +kernel
theorem dX11_told_69 : decode cX11_told 69 = .ok (.getfield 160, 3) := by decide +kernel
theorem dX11_told_72 : decode cX11_told 72 = .ok (.aload_n 0, 1) := by decide +kernel
theorem dX11_told_73 : decode cX11_told 73 = .ok (.getfield 26, 3) := by decide +kernel
theorem dX11_told_76 : decode cX11_told 76 = .ok (.getfield 157, 3) := by decide +kernel
theorem dX11_told_79 : decode cX11_told 79 = .ok (.isub, 1) := by decide +kernel
theorem dX11_told_80 : decode cX11_told 80 = .ok (.invokevirtual 145, 3) := by decide +kernel
theorem dX11_told_83 : decode cX11_told 83 = .ok (.ireturn, 1) := by decide +kernel
theorem dX11_told_84 : decode cX11_told 84 = .ok (.aload_n 0, 1) := by decide +kernel
theorem dX11_told_85 : decode cX11_told 85 = .ok (.aload_n 0, 1) := by decide +kernel
theorem dX11_told_86 : decode cX11_told 86 = .ok (.getfield 26, 3) := by decide +kernel
theorem dX11_told_89 : decode cX11_told 89 = .ok (.getfield 142, 3) := by decide +kernel
theorem dX11_told_92 : decode cX11_told 92 = .ok (.invokevirtual 145, 3) := by decide +kernel
theorem dX11_told_95 : decode cX11_told 95 = .ok (.ireturn, 1) := by decide +kernel
theorem dX11_told_96 : decode cX11_told 96 = .ok (.aload_n 0, 1) := by decide +kernel
theorem dX11_told_97 : decode cX11_told 97 = .ok (.iconst 1, 1) := by decide +kernel
theorem dX11_told_98 : decode cX11_told 98 = .ok (.invokevirtual 110, 3) := by decide +kernel
theorem dX11_told_101 : decode cX11_told 101 = .ok (.ireturn, 1) := by decide +kernel
abbrev f_c_X11_told : List (Nat × Int) := [(62, 0)]
set_option maxHeartbeats 4000000 in
set_option maxRecDepth 100000 in
theorem c_X11_told (G : KG) (l : Launch) (M : Mem) (c0 : Int) (a1 : Int) (hI_M : Inv false M) (hk_c0 : kd c0 = 62) (hpre : -2147483648 ≤ a1 ∧ a1 ≤ 2147483647) : KC false G l yX11_told cX11_told 2 (some .int) (1, 21) [vR G c0, vI a1] M (fun A => kQi false G A (fun (r : Int) (N : Mem) => Inv false N ∧ Fr f_c_X11_told M N ∧ (r ≥ -4 ∧ r ≤ 6))) := by
  refine kx_met (lo := [some (vR G c0), some (vI a1)]) (by decide) (Nat.le_of_ble_eq_true rfl) rfl ?_
  intro X F hQ
  have hF_M : Fr f_c_X11_told M M := Fr.rf _ _
  refine kx_iload_n 1 F 1 dX11_told_0 rfl rfl rfl ?_
  have h_1 : a1 = 0 ∨ a1 = 1 ∨ a1 = 2 ∨ a1 = 3 ∨ (a1 < 0 ∨ 3 < a1) := by omega
  rcases h_1 with h_1 | h_1 | h_1 | h_1 | h_1
  · rw [show vI a1 = vI 0 by rw [h_1]]
    refine kx_tableIn 32 F (by decide) dX11_told_1 (by decide) rfl (by decide) ?_
    refine kx_aload_n 33 F 0 dX11_told_32 rfl rfl rfl ?_
    refine kx_aload_n 34 F 0 dX11_told_33 rfl rfl rfl ?_
    refine kx_getr 37 F fl_X11_26 hk_c0 rfl rfl (j := 5) rfl dX11_told_34 (v := (M c0 5)) rfl rfl ?_
    have hk_2 : kd (M c0 5) = 12 := Inv.r hI_M hk_c0 rfl 5 rfl rfl
    refine kx_geti 40 F fl_X11_154 hk_2 rfl rfl (j := 0) rfl dX11_told_37 (v := (M (M c0 5) 0)) rfl rfl ?_
    have h_3 := Inv.g hI_M hk_2 rfl 0 (a := 0) (b := 2) rfl rfl
    refine kx_Vi 43 (ci := 0) F (As := [vI (M (M c0 5) 0)]) (st := []) vd_X11_145 (c_X11_answer G l M c0 (M (M c0 5) 0) hI_M hk_c0 (by omega)) hk_c0 rfl rfl rfl ⟨by decide, by decide⟩ rfl rfl (Nat.le_of_ble_eq_true rfl) dX11_told_40 rfl ?_
    intro r_4 N_5 q_6
    obtain ⟨hI_N_5, hG_N_5, q_6c⟩ := q_6
    have hF_N_5 : Fr f_c_X11_told M N_5 := Fr.c hF_M hG_N_5 rfl
    exact kx_iret F hQ ⟨hI_N_5, hF_N_5, (by omega)⟩ dX11_told_43
  · rw [show vI a1 = vI 1 by rw [h_1]]
    refine kx_tableIn 44 F (by decide) dX11_told_1 (by decide) rfl (by decide) ?_
    refine kx_aload_n 45 F 0 dX11_told_44 rfl rfl rfl ?_
    refine kx_aload_n 46 F 0 dX11_told_45 rfl rfl rfl ?_
    refine kx_getr 49 F fl_X11_26 hk_c0 rfl rfl (j := 5) rfl dX11_told_46 (v := (M c0 5)) rfl rfl ?_
    have hk_7 : kd (M c0 5) = 12 := Inv.r hI_M hk_c0 rfl 5 rfl rfl
    refine kx_geti 52 F fl_X11_157 hk_7 rfl rfl (j := 1) rfl dX11_told_49 (v := (M (M c0 5) 1)) rfl rfl ?_
    have h_8 := Inv.g hI_M hk_7 rfl 1 (a := 0) (b := 4) rfl rfl
    refine kx_aload_n 53 F 0 dX11_told_52 rfl rfl rfl ?_
    refine kx_getr 56 F fl_X11_26 hk_c0 rfl rfl (j := 5) rfl dX11_told_53 (v := (M c0 5)) rfl rfl ?_
    refine kx_geti 59 F fl_X11_154 hk_7 rfl rfl (j := 0) rfl dX11_told_56 (v := (M (M c0 5) 0)) rfl rfl ?_
    have h_9 := Inv.g hI_M hk_7 rfl 0 (a := 0) (b := 2) rfl rfl
    refine kx_isub 60 F (v := (M (M c0 5) 1) - (M (M c0 5) 0)) dX11_told_59 rfl rfl ?_
    refine kx_Vi 63 (ci := 0) F (As := [vI ((M (M c0 5) 1) - (M (M c0 5) 0))]) (st := []) vd_X11_145 (c_X11_answer G l M c0 ((M (M c0 5) 1) - (M (M c0 5) 0)) hI_M hk_c0 (by omega)) hk_c0 rfl rfl rfl ⟨by decide, by decide⟩ rfl rfl (Nat.le_of_ble_eq_true rfl) dX11_told_60 rfl ?_
    intro r_10 N_11 q_12
    obtain ⟨hI_N_11, hG_N_11, q_12c⟩ := q_12
    have hF_N_11 : Fr f_c_X11_told M N_11 := Fr.c hF_M hG_N_11 rfl
    exact kx_iret F hQ ⟨hI_N_11, hF_N_11, (by omega)⟩ dX11_told_63
  · rw [show vI a1 = vI 2 by rw [h_1]]
    refine kx_tableIn 64 F (by decide) dX11_told_1 (by decide) rfl (by decide) ?_
    refine kx_aload_n 65 F 0 dX11_told_64 rfl rfl rfl ?_
    refine kx_aload_n 66 F 0 dX11_told_65 rfl rfl rfl ?_
    refine kx_getr 69 F fl_X11_26 hk_c0 rfl rfl (j := 5) rfl dX11_told_66 (v := (M c0 5)) rfl rfl ?_
    have hk_13 : kd (M c0 5) = 12 := Inv.r hI_M hk_c0 rfl 5 rfl rfl
    refine kx_geti 72 F fl_X11_160 hk_13 rfl rfl (j := 2) rfl dX11_told_69 (v := (M (M c0 5) 2)) rfl rfl ?_
    have h_14 := Inv.g hI_M hk_13 rfl 2 (a := 0) (b := 6) rfl rfl
    refine kx_aload_n 73 F 0 dX11_told_72 rfl rfl rfl ?_
    refine kx_getr 76 F fl_X11_26 hk_c0 rfl rfl (j := 5) rfl dX11_told_73 (v := (M c0 5)) rfl rfl ?_
    refine kx_geti 79 F fl_X11_157 hk_13 rfl rfl (j := 1) rfl dX11_told_76 (v := (M (M c0 5) 1)) rfl rfl ?_
    have h_15 := Inv.g hI_M hk_13 rfl 1 (a := 0) (b := 4) rfl rfl
    refine kx_isub 80 F (v := (M (M c0 5) 2) - (M (M c0 5) 1)) dX11_told_79 rfl rfl ?_
    refine kx_Vi 83 (ci := 0) F (As := [vI ((M (M c0 5) 2) - (M (M c0 5) 1))]) (st := []) vd_X11_145 (c_X11_answer G l M c0 ((M (M c0 5) 2) - (M (M c0 5) 1)) hI_M hk_c0 (by omega)) hk_c0 rfl rfl rfl ⟨by decide, by decide⟩ rfl rfl (Nat.le_of_ble_eq_true rfl) dX11_told_80 rfl ?_
    intro r_16 N_17 q_18
    obtain ⟨hI_N_17, hG_N_17, q_18c⟩ := q_18
    have hF_N_17 : Fr f_c_X11_told M N_17 := Fr.c hF_M hG_N_17 rfl
    exact kx_iret F hQ ⟨hI_N_17, hF_N_17, (by omega)⟩ dX11_told_83
  · rw [show vI a1 = vI 3 by rw [h_1]]
    refine kx_tableIn 84 F (by decide) dX11_told_1 (by decide) rfl (by decide) ?_
    refine kx_aload_n 85 F 0 dX11_told_84 rfl rfl rfl ?_
    refine kx_aload_n 86 F 0 dX11_told_85 rfl rfl rfl ?_
    refine kx_getr 89 F fl_X11_26 hk_c0 rfl rfl (j := 5) rfl dX11_told_86 (v := (M c0 5)) rfl rfl ?_
    have hk_19 : kd (M c0 5) = 12 := Inv.r hI_M hk_c0 rfl 5 rfl rfl
    refine kx_geti 92 F fl_X11_142 hk_19 rfl rfl (j := 3) rfl dX11_told_89 (v := (M (M c0 5) 3)) rfl rfl ?_
    have h_20 := Inv.g hI_M hk_19 rfl 3 (a := 0) (b := 2) rfl rfl
    refine kx_Vi 95 (ci := 0) F (As := [vI (M (M c0 5) 3)]) (st := []) vd_X11_145 (c_X11_answer G l M c0 (M (M c0 5) 3) hI_M hk_c0 (by omega)) hk_c0 rfl rfl rfl ⟨by decide, by decide⟩ rfl rfl (Nat.le_of_ble_eq_true rfl) dX11_told_92 rfl ?_
    intro r_21 N_22 q_23
    obtain ⟨hI_N_22, hG_N_22, q_23c⟩ := q_23
    have hF_N_22 : Fr f_c_X11_told M N_22 := Fr.c hF_M hG_N_22 rfl
    exact kx_iret F hQ ⟨hI_N_22, hF_N_22, (by omega)⟩ dX11_told_95
  · refine kx_tableOut 96 F (by omega) dX11_told_1 h_1 (by decide) ?_
    refine kx_aload_n 97 F 0 dX11_told_96 rfl rfl rfl ?_
    refine kx_iconst 98 F dX11_told_97 rfl ?_
    refine kx_Vi 101 (ci := 0) F (As := [vI 1]) (st := []) vd_X11_110 (c_X11_refuse G l M c0 1 hI_M hk_c0 (by omega)) hk_c0 rfl rfl rfl ⟨by decide, by decide⟩ rfl rfl (Nat.le_of_ble_eq_true rfl) dX11_told_98 rfl ?_
    intro r_24 N_25 q_26
    obtain ⟨hI_N_25, hG_N_25, q_26c⟩ := q_26
    have hF_N_25 : Fr f_c_X11_told M N_25 := Fr.c hF_M hG_N_25 rfl
    subst q_26c
    exact kx_iret F hQ ⟨hI_N_25, hF_N_25, (by omega)⟩ dX11_told_101
theorem dX11_automaton_0 : decode cX11_automaton 0 = .ok (.aload_n 0, 1) := by decide +kernel
theorem dX11_automaton_1 : decode cX11_automaton 1 = .ok (.getfield 26, 3) := by decide +kernel
theorem dX11_automaton_4 : decode cX11_automaton 4 = .ok (.iload_n 1, 1) := by decide +kernel
theorem dX11_automaton_5 : decode cX11_automaton 5 = .ok (.invokevirtual 163, 3) := by decide +kernel
theorem dX11_automaton_8 : decode cX11_automaton 8 = .ok (.ifCond .ne 9, 3) := by decide +kernel
theorem dX11_automaton_11 : decode cX11_automaton 11 = .ok (.aload_n 0, 1) := by decide +kernel
theorem dX11_automaton_12 : decode cX11_automaton 12 = .ok (.iconst 1, 1) := by decide +kernel
theorem dX11_automaton_13 : decode cX11_automaton 13 = .ok (.invokevirtual 110, 3) := by decide +kernel
theorem dX11_automaton_16 : decode cX11_automaton 16 = .ok (.ireturn, 1) := by decide +kernel
theorem dX11_automaton_17 : decode cX11_automaton 17 = .ok (.aload_n 0, 1) := by decide +kernel
theorem dX11_automaton_18 : decode cX11_automaton 18 = .ok (.getfield 26, 3) := by decide +kernel
theorem dX11_automaton_21 : decode cX11_automaton 21 = .ok (.iload_n 1, 1) := by decide +kernel
theorem dX11_automaton_22 : decode cX11_automaton 22 = .ok (.invokevirtual 164, 3) := by decide +kernel
theorem dX11_automaton_25 : decode cX11_automaton 25 = .ok (.astore_n 3, 1) := by decide +kernel
theorem dX11_automaton_26 : decode cX11_automaton 26 = .ok (.iload_n 2, 1) := by decide +kernel
theorem dX11_automaton_27 : decode cX11_automaton 27 = .ok (.tableswitch 78 0 4 #[33, 42, 51, 60, 69], 33) := by decide +kernel
theorem dX11_automaton_60 : decode cX11_automaton 60 = .ok (.aload_n 0, 1) := by decide +kernel
theorem dX11_automaton_61 : decode cX11_automaton 61 = .ok (.aload_n 3, 1) := by decide +kernel
theorem dX11_automaton_62 : decode cX11_automaton 62 = .ok (.getfield 168, 3) := by decide +kernel
theorem dX11_automaton_65 : decode cX11_automaton 65 = .ok (.invokevirtual 145, 3) := by decide +kernel
theorem dX11_automaton_68 : decode cX11_automaton 68 = .ok (.ireturn, 1) := by decide +kernel
theorem dX11_automaton_69 : decode cX11_automaton 69 = .ok (.aload_n 0, 1) := by decide +kernel
theorem dX11_automaton_70 : decode cX11_automaton 70 = .ok (.aload_n 3, 1) := by decide +kernel
theorem dX11_automaton_71 : decode cX11_automaton 71 = .ok (.getfield 173, 3) := by decide +kernel
theorem dX11_automaton_74 : decode cX11_automaton 74 = .ok (.invokevirtual 145, 3) := by decide +kernel
theorem dX11_automaton_77 : decode cX11_automaton 77 = .ok (.ireturn, 1) := by decide +kernel
theorem dX11_automaton_78 : decode cX11_automaton 78 = .ok (.aload_n 0, 1) := by decide +kernel
theorem dX11_automaton_79 : decode cX11_automaton 79 = .ok (.aload_n 3, 1) := by decide +kernel
theorem dX11_automaton_80 : decode cX11_automaton 80 = .ok (.getfield 176, 3) := by decide +kernel
theorem dX11_automaton_83 : decode cX11_automaton 83 = .ok (.invokevirtual 145, 3) := by decide +kernel
theorem dX11_automaton_86 : decode cX11_automaton 86 = .ok (.ireturn, 1) := by decide +kernel
theorem dX11_automaton_87 : decode cX11_automaton 87 = .ok (.aload_n 0, 1) := by decide +kernel
theorem dX11_automaton_88 : decode cX11_automaton 88 = .ok (.aload_n 3, 1) := by decide +kernel
theorem dX11_automaton_89 : decode cX11_automaton 89 = .ok (.getfield 179, 3) := by decide +kernel
theorem dX11_automaton_92 : decode cX11_automaton 92 = .ok (.invokevirtual 145, 3) := by decide +kernel
theorem dX11_automaton_95 : decode cX11_automaton 95 = .ok (.ireturn, 1) := by decide +kernel
theorem dX11_automaton_96 : decode cX11_automaton 96 = .ok (.aload_n 0, 1) := by decide +kernel
theorem dX11_automaton_97 : decode cX11_automaton 97 = .ok (.aload_n 3, 1) := by decide +kernel
theorem dX11_automaton_98 : decode cX11_automaton 98 = .ok (.getfield 182, 3) := by decide +kernel
theorem dX11_automaton_101 : decode cX11_automaton 101 = .ok (.invokevirtual 145, 3) := by decide +kernel
theorem dX11_automaton_104 : decode cX11_automaton 104 = .ok (.ireturn, 1) := by decide +kernel
theorem dX11_automaton_105 : decode cX11_automaton 105 = .ok (.aload_n 0, 1) := by decide +kernel
theorem dX11_automaton_106 : decode cX11_automaton 106 = .ok (.iconst 1, 1) := by decide +kernel
theorem dX11_automaton_107 : decode cX11_automaton 107 = .ok (.invokevirtual 110, 3) := by decide +kernel
theorem dX11_automaton_110 : decode cX11_automaton 110 = .ok (.ireturn, 1) := by decide +kernel
abbrev f_c_X11_automaton : List (Nat × Int) := [(62, 0)]
set_option maxHeartbeats 4000000 in
set_option maxRecDepth 100000 in
theorem c_X11_automaton (G : KG) (l : Launch) (M : Mem) (c0 : Int) (a1 : Int) (a2 : Int) (hI_M : Inv false M) (hk_c0 : kd c0 = 62) (hpre : -2147483648 ≤ a1 ∧ a1 ≤ 2147483647 ∧ -2147483648 ≤ a2 ∧ a2 ≤ 2147483647) : KC false G l yX11_automaton cX11_automaton 4 (some .int) (1, 21) [vR G c0, vI a1, vI a2] M (fun A => kQi false G A (fun (r : Int) (N : Mem) => Inv false N ∧ Fr f_c_X11_automaton M N ∧ (r ≥ -1 ∧ r ≤ 20))) := by
  refine kx_met (lo := [some (vR G c0), some (vI a1), some (vI a2), none]) (by decide) (Nat.le_of_ble_eq_true rfl) rfl ?_
  intro X F hQ
  have hF_M : Fr f_c_X11_automaton M M := Fr.rf _ _
  refine kx_aload_n 1 F 0 dX11_automaton_0 rfl rfl rfl ?_
  refine kx_getr 4 F fl_X11_26 hk_c0 rfl rfl (j := 5) rfl dX11_automaton_1 (v := (M c0 5)) rfl rfl ?_
  have hk_1 : kd (M c0 5) = 12 := Inv.r hI_M hk_c0 rfl 5 rfl rfl
  refine kx_iload_n 5 F 1 dX11_automaton_4 rfl rfl rfl ?_
  refine kx_Vi 8 (ci := 0) F (As := [vI a1]) (st := []) vd_X11_163 (c_X5_has G l M (M c0 5) a1 hI_M hk_1 (by omega)) hk_1 rfl rfl rfl ⟨by decide, by decide⟩ rfl rfl (Nat.le_of_ble_eq_true rfl) dX11_automaton_5 rfl ?_
  intro r_2 N_3 q_4
  obtain ⟨rfl, q_4c⟩ := q_4
  have h_5 := Inv.g hI_M hk_1 rfl 3 (a := 0) (b := 2) rfl rfl
  rcases q_4c with q_4c | q_4c
  · refine kx_if_ne 11 F 17 dX11_automaton_8 (by decide) rfl (by omega) (fun h_6 => ?_) (fun h_6 => (by exfalso; omega))
    refine kx_aload_n 18 F 0 dX11_automaton_17 rfl rfl rfl ?_
    refine kx_getr 21 F fl_X11_26 hk_c0 rfl rfl (j := 5) rfl dX11_automaton_18 (v := (M c0 5)) rfl rfl ?_
    refine kx_iload_n 22 F 1 dX11_automaton_21 rfl rfl rfl ?_
    refine kx_Vr 25 (ci := 0) F (As := [vI a1]) (st := []) vd_X11_164 (c_X5_pick G l M (M c0 5) a1 hI_M hk_1 (by omega)) hk_1 rfl rfl rfl ⟨by decide, by decide⟩ rfl rfl (Nat.le_of_ble_eq_true rfl) dX11_automaton_22 rfl ?_
    intro r_7 N_8 q_9
    obtain ⟨rfl, hk_10⟩ := q_9
    refine kx_astore_n 26 F 3 (lo' := [some (vR G c0), some (vI a1), some (vI a2), some (vR G r_7)]) dX11_automaton_25 rfl (by decide) rfl rfl rfl ?_
    refine kx_iload_n 27 F 2 dX11_automaton_26 rfl rfl rfl ?_
    have h_11 : a2 = 0 ∨ a2 = 1 ∨ a2 = 2 ∨ a2 = 3 ∨ a2 = 4 ∨ (a2 < 0 ∨ 4 < a2) := by omega
    rcases h_11 with h_11 | h_11 | h_11 | h_11 | h_11 | h_11
    · rw [show vI a2 = vI 0 by rw [h_11]]
      refine kx_tableIn 60 F (by decide) dX11_automaton_27 (by decide) rfl (by decide) ?_
      refine kx_aload_n 61 F 0 dX11_automaton_60 rfl rfl rfl ?_
      refine kx_aload_n 62 F 3 dX11_automaton_61 rfl rfl rfl ?_
      refine kx_geti 65 F fl_X11_168 hk_10 rfl rfl (j := 0) rfl dX11_automaton_62 (v := (M r_7 0)) rfl rfl ?_
      have h_12 := Inv.g hI_M hk_10 rfl 0 (a := 0) (b := 3) rfl rfl
      refine kx_Vi 68 (ci := 0) F (As := [vI (M r_7 0)]) (st := []) vd_X11_145 (c_X11_answer G l M c0 (M r_7 0) hI_M hk_c0 (by omega)) hk_c0 rfl rfl rfl ⟨by decide, by decide⟩ rfl rfl (Nat.le_of_ble_eq_true rfl) dX11_automaton_65 rfl ?_
      intro r_13 N_14 q_15
      obtain ⟨hI_N_14, hG_N_14, q_15c⟩ := q_15
      have hF_N_14 : Fr f_c_X11_automaton M N_14 := Fr.c hF_M hG_N_14 rfl
      exact kx_iret F hQ ⟨hI_N_14, hF_N_14, (by omega)⟩ dX11_automaton_68
    · rw [show vI a2 = vI 1 by rw [h_11]]
      refine kx_tableIn 69 F (by decide) dX11_automaton_27 (by decide) rfl (by decide) ?_
      refine kx_aload_n 70 F 0 dX11_automaton_69 rfl rfl rfl ?_
      refine kx_aload_n 71 F 3 dX11_automaton_70 rfl rfl rfl ?_
      refine kx_geti 74 F fl_X11_173 hk_10 rfl rfl (j := 1) rfl dX11_automaton_71 (v := (M r_7 1)) rfl rfl ?_
      have h_16 := Inv.g hI_M hk_10 rfl 1 (a := 0) (b := 3) rfl rfl
      refine kx_Vi 77 (ci := 0) F (As := [vI (M r_7 1)]) (st := []) vd_X11_145 (c_X11_answer G l M c0 (M r_7 1) hI_M hk_c0 (by omega)) hk_c0 rfl rfl rfl ⟨by decide, by decide⟩ rfl rfl (Nat.le_of_ble_eq_true rfl) dX11_automaton_74 rfl ?_
      intro r_17 N_18 q_19
      obtain ⟨hI_N_18, hG_N_18, q_19c⟩ := q_19
      have hF_N_18 : Fr f_c_X11_automaton M N_18 := Fr.c hF_M hG_N_18 rfl
      exact kx_iret F hQ ⟨hI_N_18, hF_N_18, (by omega)⟩ dX11_automaton_77
    · rw [show vI a2 = vI 2 by rw [h_11]]
      refine kx_tableIn 78 F (by decide) dX11_automaton_27 (by decide) rfl (by decide) ?_
      refine kx_aload_n 79 F 0 dX11_automaton_78 rfl rfl rfl ?_
      refine kx_aload_n 80 F 3 dX11_automaton_79 rfl rfl rfl ?_
      refine kx_geti 83 F fl_X11_176 hk_10 rfl rfl (j := 2) rfl dX11_automaton_80 (v := (M r_7 2)) rfl rfl ?_
      have h_20 := Inv.g hI_M hk_10 rfl 2 (a := 0) (b := 7) rfl rfl
      refine kx_Vi 86 (ci := 0) F (As := [vI (M r_7 2)]) (st := []) vd_X11_145 (c_X11_answer G l M c0 (M r_7 2) hI_M hk_c0 (by omega)) hk_c0 rfl rfl rfl ⟨by decide, by decide⟩ rfl rfl (Nat.le_of_ble_eq_true rfl) dX11_automaton_83 rfl ?_
      intro r_21 N_22 q_23
      obtain ⟨hI_N_22, hG_N_22, q_23c⟩ := q_23
      have hF_N_22 : Fr f_c_X11_automaton M N_22 := Fr.c hF_M hG_N_22 rfl
      exact kx_iret F hQ ⟨hI_N_22, hF_N_22, (by omega)⟩ dX11_automaton_86
    · rw [show vI a2 = vI 3 by rw [h_11]]
      refine kx_tableIn 87 F (by decide) dX11_automaton_27 (by decide) rfl (by decide) ?_
      refine kx_aload_n 88 F 0 dX11_automaton_87 rfl rfl rfl ?_
      refine kx_aload_n 89 F 3 dX11_automaton_88 rfl rfl rfl ?_
      refine kx_geti 92 F fl_X11_179 hk_10 rfl rfl (j := 3) rfl dX11_automaton_89 (v := (M r_7 3)) rfl rfl ?_
      have h_24 := Inv.g hI_M hk_10 rfl 3 (a := 0) (b := 7) rfl rfl
      refine kx_Vi 95 (ci := 0) F (As := [vI (M r_7 3)]) (st := []) vd_X11_145 (c_X11_answer G l M c0 (M r_7 3) hI_M hk_c0 (by omega)) hk_c0 rfl rfl rfl ⟨by decide, by decide⟩ rfl rfl (Nat.le_of_ble_eq_true rfl) dX11_automaton_92 rfl ?_
      intro r_25 N_26 q_27
      obtain ⟨hI_N_26, hG_N_26, q_27c⟩ := q_27
      have hF_N_26 : Fr f_c_X11_automaton M N_26 := Fr.c hF_M hG_N_26 rfl
      exact kx_iret F hQ ⟨hI_N_26, hF_N_26, (by omega)⟩ dX11_automaton_95
    · rw [show vI a2 = vI 4 by rw [h_11]]
      refine kx_tableIn 96 F (by decide) dX11_automaton_27 (by decide) rfl (by decide) ?_
      refine kx_aload_n 97 F 0 dX11_automaton_96 rfl rfl rfl ?_
      refine kx_aload_n 98 F 3 dX11_automaton_97 rfl rfl rfl ?_
      refine kx_geti 101 F fl_X11_182 hk_10 rfl rfl (j := 4) rfl dX11_automaton_98 (v := (M r_7 4)) rfl rfl ?_
      have h_28 := Inv.g hI_M hk_10 rfl 4 (a := 0) (b := 20) rfl rfl
      refine kx_Vi 104 (ci := 0) F (As := [vI (M r_7 4)]) (st := []) vd_X11_145 (c_X11_answer G l M c0 (M r_7 4) hI_M hk_c0 (by omega)) hk_c0 rfl rfl rfl ⟨by decide, by decide⟩ rfl rfl (Nat.le_of_ble_eq_true rfl) dX11_automaton_101 rfl ?_
      intro r_29 N_30 q_31
      obtain ⟨hI_N_30, hG_N_30, q_31c⟩ := q_31
      have hF_N_30 : Fr f_c_X11_automaton M N_30 := Fr.c hF_M hG_N_30 rfl
      exact kx_iret F hQ ⟨hI_N_30, hF_N_30, (by omega)⟩ dX11_automaton_104
    · refine kx_tableOut 105 F (by omega) dX11_automaton_27 h_11 (by decide) ?_
      refine kx_aload_n 106 F 0 dX11_automaton_105 rfl rfl rfl ?_
      refine kx_iconst 107 F dX11_automaton_106 rfl ?_
      refine kx_Vi 110 (ci := 0) F (As := [vI 1]) (st := []) vd_X11_110 (c_X11_refuse G l M c0 1 hI_M hk_c0 (by omega)) hk_c0 rfl rfl rfl ⟨by decide, by decide⟩ rfl rfl (Nat.le_of_ble_eq_true rfl) dX11_automaton_107 rfl ?_
      intro r_32 N_33 q_34
      obtain ⟨hI_N_33, hG_N_33, q_34c⟩ := q_34
      have hF_N_33 : Fr f_c_X11_automaton M N_33 := Fr.c hF_M hG_N_33 rfl
      subst q_34c
      exact kx_iret F hQ ⟨hI_N_33, hF_N_33, (by omega)⟩ dX11_automaton_110
  · refine kx_if_ne 11 F 17 dX11_automaton_8 (by decide) rfl (by omega) (fun h_35 => (by exfalso; omega)) (fun h_35 => ?_)
    refine kx_aload_n 12 F 0 dX11_automaton_11 rfl rfl rfl ?_
    refine kx_iconst 13 F dX11_automaton_12 rfl ?_
    refine kx_Vi 16 (ci := 0) F (As := [vI 1]) (st := []) vd_X11_110 (c_X11_refuse G l M c0 1 hI_M hk_c0 (by omega)) hk_c0 rfl rfl rfl ⟨by decide, by decide⟩ rfl rfl (Nat.le_of_ble_eq_true rfl) dX11_automaton_13 rfl ?_
    intro r_36 N_37 q_38
    obtain ⟨hI_N_37, hG_N_37, q_38c⟩ := q_38
    have hF_N_37 : Fr f_c_X11_automaton M N_37 := Fr.c hF_M hG_N_37 rfl
    subst q_38c
    exact kx_iret F hQ ⟨hI_N_37, hF_N_37, (by omega)⟩ dX11_automaton_16
theorem dX11_rule_0 : decode cX11_rule 0 = .ok (.aload_n 0, 1) := by decide +kernel
theorem dX11_rule_1 : decode cX11_rule 1 = .ok (.getfield 26, 3) := by decide +kernel
theorem dX11_rule_4 : decode cX11_rule 4 = .ok (.iload_n 1, 1) := by decide +kernel
theorem dX11_rule_5 : decode cX11_rule 5 = .ok (.invokevirtual 163, 3) := by decide +kernel
theorem dX11_rule_8 : decode cX11_rule 8 = .ok (.ifCond .eq 18, 3) := by decide +kernel
theorem dX11_rule_11 : decode cX11_rule 11 = .ok (.aload_n 0, 1) := by decide +kernel
theorem dX11_rule_12 : decode cX11_rule 12 = .ok (.getfield 26, 3) := by decide +kernel
theorem dX11_rule_15 : decode cX11_rule 15 = .ok (.iload_n 1, 1) := by decide +kernel
theorem dX11_rule_16 : decode cX11_rule 16 = .ok (.invokevirtual 164, 3) := by decide +kernel
theorem dX11_rule_19 : decode cX11_rule 19 = .ok (.iload_n 2, 1) := by decide +kernel
theorem dX11_rule_20 : decode cX11_rule 20 = .ok (.invokevirtual 185, 3) := by decide +kernel
theorem dX11_rule_23 : decode cX11_rule 23 = .ok (.ifCond .ne 9, 3) := by decide +kernel
theorem dX11_rule_26 : decode cX11_rule 26 = .ok (.aload_n 0, 1) := by decide +kernel
theorem dX11_rule_27 : decode cX11_rule 27 = .ok (.iconst 1, 1) := by decide +kernel
theorem dX11_rule_28 : decode cX11_rule 28 = .ok (.invokevirtual 110, 3) := by decide +kernel
theorem dX11_rule_31 : decode cX11_rule 31 = .ok (.ireturn, 1) := by decide +kernel
theorem dX11_rule_32 : decode cX11_rule 32 = .ok (.aload_n 0, 1) := by decide +kernel
theorem dX11_rule_33 : decode cX11_rule 33 = .ok (.getfield 26, 3) := by decide +kernel
theorem dX11_rule_36 : decode cX11_rule 36 = .ok (.iload_n 1, 1) := by decide +kernel
theorem dX11_rule_37 : decode cX11_rule 37 = .ok (.invokevirtual 164, 3) := by decide +kernel
theorem dX11_rule_40 : decode cX11_rule 40 = .ok (.astore 4, 2) := by decide +kernel
theorem dX11_rule_42 : decode cX11_rule 42 = .ok (.iload_n 3, 1) := by decide +kernel
theorem dX11_rule_43 : decode cX11_rule 43 = .ok (.tableswitch 97 0 3 #[29, 41, 53, 65], 29) := by decide +kernel
theorem dX11_rule_72 : decode cX11_rule 72 = .ok (.aload_n 0, 1) := by decide +kernel
theorem dX11_rule_73 : decode cX11_rule 73 = .ok (.aload 4, 2) := by decide +kernel
theorem dX11_rule_75 : decode cX11_rule 75 = .ok (.getfield 188, 3) := by decide +kernel
theorem dX11_rule_78 : decode cX11_rule 78 = .ok (.iload_n 2, 1) := by decide +kernel
theorem dX11_rule_79 : decode cX11_rule 79 = .ok (.iaload, 1) := by decide +kernel
theorem dX11_rule_80 : decode cX11_rule 80 = .ok (.invokevirtual 145, 3) := by decide +kernel
theorem dX11_rule_83 : decode cX11_rule 83 = .ok (.ireturn, 1) := by decide +kernel
theorem dX11_rule_84 : decode cX11_rule 84 = .ok (.aload_n 0, 1) := by decide +kernel
theorem dX11_rule_85 : decode cX11_rule 85 = .ok (.aload 4, 2) := by decide +kernel
theorem dX11_rule_87 : decode cX11_rule 87 = .ok (.getfield 192, 3) := by decide +kernel
theorem dX11_rule_90 : decode cX11_rule 90 = .ok (.iload_n 2, 1) := by decide +kernel
theorem dX11_rule_91 : decode cX11_rule 91 = .ok (.iaload, 1) := by decide +kernel
theorem dX11_rule_92 : decode cX11_rule 92 = .ok (.invokevirtual 145, 3) := by decide +kernel
theorem dX11_rule_95 : decode cX11_rule 95 = .ok (.ireturn, 1) := by decide +kernel
theorem dX11_rule_96 : decode cX11_rule 96 = .ok (.aload_n 0, 1) := by decide +kernel
theorem dX11_rule_97 : decode cX11_rule 97 = .ok (.aload 4, 2) := by decide +kernel
theorem dX11_rule_99 : decode cX11_rule 99 = .ok (.getfield 195, 3) := by decide +kernel
theorem dX11_rule_102 : decode cX11_rule 102 = .ok (.iload_n 2, 1) := by decide +kernel
theorem dX11_rule_103 : decode cX11_rule 103 = .ok (.iaload, 1) := by decide +kernel
theorem dX11_rule_104 : decode cX11_rule 104 = .ok (.invokevirtual 145, 3) := by decide +kernel
theorem dX11_rule_107 : decode cX11_rule 107 = .ok (.ireturn, 1) := by decide +kernel
theorem dX11_rule_108 : decode cX11_rule 108 = .ok (.aload 4, 2) := by decide +kernel
theorem dX11_rule_110 : decode cX11_rule 110 = .ok (.getfield 198, 3) := by decide +kernel
theorem dX11_rule_113 : decode cX11_rule 113 = .ok (.iload_n 2, 1) := by decide +kernel
theorem dX11_rule_114 : decode cX11_rule 114 = .ok (.iaload, 1) := by decide +kernel
theorem dX11_rule_115 : decode cX11_rule 115 = .ok (.iconst (-1), 1) := by decide +kernel
theorem dX11_rule_116 : decode cX11_rule 116 = .ok (.if_icmp .ne 12, 3) := by decide +kernel
theorem dX11_rule_119 : decode cX11_rule 119 = .ok (.aload_n 0, 1) := by decide +kernel
theorem dX11_rule_120 : decode cX11_rule 120 = .ok (.bipush 6, 2) := by decide +kernel
theorem dX11_rule_122 : decode cX11_rule 122 = .ok (.invokevirtual 110, 3) := by decide +kernel
theorem dX11_rule_125 : decode cX11_rule 125 = .ok (.goto 14, 3) := by decide +kernel
theorem dX11_rule_128 : decode cX11_rule 128 = .ok (.aload_n 0, 1) := by decide +kernel
theorem dX11_rule_129 : decode cX11_rule 129 = .ok (.aload 4, 2) := by decide +kernel
theorem dX11_rule_131 : decode cX11_rule 131 = .ok (.getfield 198, 3) := by decide +kernel
theorem dX11_rule_134 : decode cX11_rule 134 = .ok (.iload_n 2, 1) := by decide +kernel
theorem dX11_rule_135 : decode cX11_rule 135 = .ok (.iaload, 1) := by decide +kernel
theorem dX11_rule_136 : decode cX11_rule 136 = .ok (.invokevirtual 145, 3) := by decide +kernel
theorem dX11_rule_139 : decode cX11_rule 139 = .ok (.ireturn, 1) := by decide +kernel
theorem dX11_rule_140 : decode cX11_rule 140 = .ok (.aload_n 0, 1) := by decide +kernel
theorem dX11_rule_141 : decode cX11_rule 141 = .ok (.iconst 1, 1) := by decide +kernel
theorem dX11_rule_142 : decode cX11_rule 142 = .ok (.invokevirtual 110, 3) := by decide +kernel
theorem dX11_rule_145 : decode cX11_rule 145 = .ok (.ireturn, 1) := by decide +kernel
abbrev f_c_X11_rule : List (Nat × Int) := [(62, 0)]
set_option maxHeartbeats 4000000 in
set_option maxRecDepth 100000 in
theorem c_X11_rule (G : KG) (l : Launch) (M : Mem) (c0 : Int) (a1 : Int) (a2 : Int) (a3 : Int) (hI_M : Inv false M) (hk_c0 : kd c0 = 62) (hpre : -2147483648 ≤ a1 ∧ a1 ≤ 2147483647 ∧ -2147483648 ≤ a2 ∧ a2 ≤ 2147483647 ∧ -2147483648 ≤ a3 ∧ a3 ≤ 2147483647) : KC false G l yX11_rule cX11_rule 5 (some .int) (1, 21) [vR G c0, vI a1, vI a2, vI a3] M (fun A => kQi false G A (fun (r : Int) (N : Mem) => Inv false N ∧ Fr f_c_X11_rule M N ∧ (r ≥ -1 ∧ r ≤ 5))) := by
  refine kx_met (lo := [some (vR G c0), some (vI a1), some (vI a2), some (vI a3), none]) (by decide) (Nat.le_of_ble_eq_true rfl) rfl ?_
  intro X F hQ
  have hF_M : Fr f_c_X11_rule M M := Fr.rf _ _
  refine kx_aload_n 1 F 0 dX11_rule_0 rfl rfl rfl ?_
  refine kx_getr 4 F fl_X11_26 hk_c0 rfl rfl (j := 5) rfl dX11_rule_1 (v := (M c0 5)) rfl rfl ?_
  have hk_1 : kd (M c0 5) = 12 := Inv.r hI_M hk_c0 rfl 5 rfl rfl
  refine kx_iload_n 5 F 1 dX11_rule_4 rfl rfl rfl ?_
  refine kx_Vi 8 (ci := 0) F (As := [vI a1]) (st := []) vd_X11_163 (c_X5_has G l M (M c0 5) a1 hI_M hk_1 (by omega)) hk_1 rfl rfl rfl ⟨by decide, by decide⟩ rfl rfl (Nat.le_of_ble_eq_true rfl) dX11_rule_5 rfl ?_
  intro r_2 N_3 q_4
  obtain ⟨rfl, q_4c⟩ := q_4
  have h_5 := Inv.g hI_M hk_1 rfl 3 (a := 0) (b := 2) rfl rfl
  rcases q_4c with q_4c | q_4c
  · refine kx_if_eq 11 F 26 dX11_rule_8 (by decide) rfl (by omega) (fun h_6 => (by exfalso; omega)) (fun h_6 => ?_)
    refine kx_aload_n 12 F 0 dX11_rule_11 rfl rfl rfl ?_
    refine kx_getr 15 F fl_X11_26 hk_c0 rfl rfl (j := 5) rfl dX11_rule_12 (v := (M c0 5)) rfl rfl ?_
    refine kx_iload_n 16 F 1 dX11_rule_15 rfl rfl rfl ?_
    refine kx_Vr 19 (ci := 0) F (As := [vI a1]) (st := []) vd_X11_164 (c_X5_pick G l M (M c0 5) a1 hI_M hk_1 (by omega)) hk_1 rfl rfl rfl ⟨by decide, by decide⟩ rfl rfl (Nat.le_of_ble_eq_true rfl) dX11_rule_16 rfl ?_
    intro r_7 N_8 q_9
    obtain ⟨rfl, hk_10⟩ := q_9
    refine kx_iload_n 20 F 2 dX11_rule_19 rfl rfl rfl ?_
    refine kx_Vi 23 (ci := 0) F (As := [vI a2]) (st := []) vd_X11_185 (c_X0_hasRule G l M r_7 a2 hI_M hk_10 (by omega)) hk_10 rfl rfl rfl ⟨by decide, by decide⟩ rfl rfl (Nat.le_of_ble_eq_true rfl) dX11_rule_20 rfl ?_
    intro r_11 N_12 q_13
    obtain ⟨rfl, q_13c⟩ := q_13
    have h_14 := Inv.g hI_M hk_10 rfl 4 (a := 0) (b := 20) rfl rfl
    rcases q_13c with q_13c | q_13c
    · refine kx_if_ne 26 F 32 dX11_rule_23 (by decide) rfl (by omega) (fun h_15 => ?_) (fun h_15 => (by exfalso; omega))
      refine kx_aload_n 33 F 0 dX11_rule_32 rfl rfl rfl ?_
      refine kx_getr 36 F fl_X11_26 hk_c0 rfl rfl (j := 5) rfl dX11_rule_33 (v := (M c0 5)) rfl rfl ?_
      refine kx_iload_n 37 F 1 dX11_rule_36 rfl rfl rfl ?_
      refine kx_Vr 40 (ci := 0) F (As := [vI a1]) (st := []) vd_X11_164 (c_X5_pick G l M (M c0 5) a1 hI_M hk_1 (by omega)) hk_1 rfl rfl rfl ⟨by decide, by decide⟩ rfl rfl (Nat.le_of_ble_eq_true rfl) dX11_rule_37 rfl ?_
      intro r_16 N_17 q_18
      obtain ⟨rfl, hk_19⟩ := q_18
      refine kx_astore 42 F 4 (lo' := [some (vR G c0), some (vI a1), some (vI a2), some (vI a3), some (vR G r_16)]) dX11_rule_40 (by decide) rfl rfl rfl ?_
      refine kx_iload_n 43 F 3 dX11_rule_42 rfl rfl rfl ?_
      have h_20 : a3 = 0 ∨ a3 = 1 ∨ a3 = 2 ∨ a3 = 3 ∨ (a3 < 0 ∨ 3 < a3) := by omega
      rcases h_20 with h_20 | h_20 | h_20 | h_20 | h_20
      · rw [show vI a3 = vI 0 by rw [h_20]]
        refine kx_tableIn 72 F (by decide) dX11_rule_43 (by decide) rfl (by decide) ?_
        refine kx_aload_n 73 F 0 dX11_rule_72 rfl rfl rfl ?_
        refine kx_aload 75 F 4 dX11_rule_73 rfl rfl ?_
        refine kx_getr 78 F fl_X11_188 hk_19 rfl rfl (j := 6) rfl dX11_rule_75 (v := (M r_16 6)) rfl rfl ?_
        have hk_21 : kd (M r_16 6) = 2 := Inv.r hI_M hk_19 rfl 6 rfl rfl
        refine kx_iload_n 79 F 2 dX11_rule_78 rfl rfl rfl ?_
        refine kx_iald 80 F hk_21 rfl rfl (by omega) (by decide) dX11_rule_79 (v := (M (M r_16 6) a2)) rfl rfl ?_
        have h_22 := Inv.g hI_M hk_21 rfl a2 (a := 0) (b := 5) rfl rfl
        refine kx_Vi 83 (ci := 0) F (As := [vI (M (M r_16 6) a2)]) (st := []) vd_X11_145 (c_X11_answer G l M c0 (M (M r_16 6) a2) hI_M hk_c0 (by omega)) hk_c0 rfl rfl rfl ⟨by decide, by decide⟩ rfl rfl (Nat.le_of_ble_eq_true rfl) dX11_rule_80 rfl ?_
        intro r_23 N_24 q_25
        obtain ⟨hI_N_24, hG_N_24, q_25c⟩ := q_25
        have hF_N_24 : Fr f_c_X11_rule M N_24 := Fr.c hF_M hG_N_24 rfl
        exact kx_iret F hQ ⟨hI_N_24, hF_N_24, (by omega)⟩ dX11_rule_83
      · rw [show vI a3 = vI 1 by rw [h_20]]
        refine kx_tableIn 84 F (by decide) dX11_rule_43 (by decide) rfl (by decide) ?_
        refine kx_aload_n 85 F 0 dX11_rule_84 rfl rfl rfl ?_
        refine kx_aload 87 F 4 dX11_rule_85 rfl rfl ?_
        refine kx_getr 90 F fl_X11_192 hk_19 rfl rfl (j := 7) rfl dX11_rule_87 (v := (M r_16 7)) rfl rfl ?_
        have hk_26 : kd (M r_16 7) = 3 := Inv.r hI_M hk_19 rfl 7 rfl rfl
        refine kx_iload_n 91 F 2 dX11_rule_90 rfl rfl rfl ?_
        refine kx_iald 92 F hk_26 rfl rfl (by omega) (by decide) dX11_rule_91 (v := (M (M r_16 7) a2)) rfl rfl ?_
        have h_27 := Inv.g hI_M hk_26 rfl a2 (a := 0) (b := 2) rfl rfl
        refine kx_Vi 95 (ci := 0) F (As := [vI (M (M r_16 7) a2)]) (st := []) vd_X11_145 (c_X11_answer G l M c0 (M (M r_16 7) a2) hI_M hk_c0 (by omega)) hk_c0 rfl rfl rfl ⟨by decide, by decide⟩ rfl rfl (Nat.le_of_ble_eq_true rfl) dX11_rule_92 rfl ?_
        intro r_28 N_29 q_30
        obtain ⟨hI_N_29, hG_N_29, q_30c⟩ := q_30
        have hF_N_29 : Fr f_c_X11_rule M N_29 := Fr.c hF_M hG_N_29 rfl
        exact kx_iret F hQ ⟨hI_N_29, hF_N_29, (by omega)⟩ dX11_rule_95
      · rw [show vI a3 = vI 2 by rw [h_20]]
        refine kx_tableIn 96 F (by decide) dX11_rule_43 (by decide) rfl (by decide) ?_
        refine kx_aload_n 97 F 0 dX11_rule_96 rfl rfl rfl ?_
        refine kx_aload 99 F 4 dX11_rule_97 rfl rfl ?_
        refine kx_getr 102 F fl_X11_195 hk_19 rfl rfl (j := 8) rfl dX11_rule_99 (v := (M r_16 8)) rfl rfl ?_
        have hk_31 : kd (M r_16 8) = 4 := Inv.r hI_M hk_19 rfl 8 rfl rfl
        refine kx_iload_n 103 F 2 dX11_rule_102 rfl rfl rfl ?_
        refine kx_iald 104 F hk_31 rfl rfl (by omega) (by decide) dX11_rule_103 (v := (M (M r_16 8) a2)) rfl rfl ?_
        have h_32 := Inv.g hI_M hk_31 rfl a2 (a := 0) (b := 2) rfl rfl
        refine kx_Vi 107 (ci := 0) F (As := [vI (M (M r_16 8) a2)]) (st := []) vd_X11_145 (c_X11_answer G l M c0 (M (M r_16 8) a2) hI_M hk_c0 (by omega)) hk_c0 rfl rfl rfl ⟨by decide, by decide⟩ rfl rfl (Nat.le_of_ble_eq_true rfl) dX11_rule_104 rfl ?_
        intro r_33 N_34 q_35
        obtain ⟨hI_N_34, hG_N_34, q_35c⟩ := q_35
        have hF_N_34 : Fr f_c_X11_rule M N_34 := Fr.c hF_M hG_N_34 rfl
        exact kx_iret F hQ ⟨hI_N_34, hF_N_34, (by omega)⟩ dX11_rule_107
      · rw [show vI a3 = vI 3 by rw [h_20]]
        refine kx_tableIn 108 F (by decide) dX11_rule_43 (by decide) rfl (by decide) ?_
        refine kx_aload 110 F 4 dX11_rule_108 rfl rfl ?_
        refine kx_getr 113 F fl_X11_198 hk_19 rfl rfl (j := 9) rfl dX11_rule_110 (v := (M r_16 9)) rfl rfl ?_
        have hk_36 : kd (M r_16 9) = 5 := Inv.r hI_M hk_19 rfl 9 rfl rfl
        refine kx_iload_n 114 F 2 dX11_rule_113 rfl rfl rfl ?_
        refine kx_iald 115 F hk_36 rfl rfl (by omega) (by decide) dX11_rule_114 (v := (M (M r_16 9) a2)) rfl rfl ?_
        have h_37 := Inv.g hI_M hk_36 rfl a2 (a := (-1)) (b := 2) rfl rfl
        refine kx_iconst 116 F dX11_rule_115 rfl ?_
        refine kx_icmp_ne 119 F 128 dX11_rule_116 (by decide) rfl (by omega) (by decide) (fun h_38 => ?_) (fun h_38 => ?_)
        · refine kx_aload_n 129 F 0 dX11_rule_128 rfl rfl rfl ?_
          refine kx_aload 131 F 4 dX11_rule_129 rfl rfl ?_
          refine kx_getr 134 F fl_X11_198 hk_19 rfl rfl (j := 9) rfl dX11_rule_131 (v := (M r_16 9)) rfl rfl ?_
          refine kx_iload_n 135 F 2 dX11_rule_134 rfl rfl rfl ?_
          refine kx_iald 136 F hk_36 rfl rfl (by omega) (by decide) dX11_rule_135 (v := (M (M r_16 9) a2)) rfl rfl ?_
          refine kx_Vi 139 (ci := 0) F (As := [vI (M (M r_16 9) a2)]) (st := []) vd_X11_145 (c_X11_answer G l M c0 (M (M r_16 9) a2) hI_M hk_c0 (by omega)) hk_c0 rfl rfl rfl ⟨by decide, by decide⟩ rfl rfl (Nat.le_of_ble_eq_true rfl) dX11_rule_136 rfl ?_
          intro r_39 N_40 q_41
          obtain ⟨hI_N_40, hG_N_40, q_41c⟩ := q_41
          have hF_N_40 : Fr f_c_X11_rule M N_40 := Fr.c hF_M hG_N_40 rfl
          exact kx_iret F hQ ⟨hI_N_40, hF_N_40, (by omega)⟩ dX11_rule_139
        · refine kx_aload_n 120 F 0 dX11_rule_119 rfl rfl rfl ?_
          refine kx_bipush 122 F dX11_rule_120 (by decide) rfl ?_
          refine kx_Vi 125 (ci := 0) F (As := [vI 6]) (st := []) vd_X11_110 (c_X11_refuse G l M c0 6 hI_M hk_c0 (by omega)) hk_c0 rfl rfl rfl ⟨by decide, by decide⟩ rfl rfl (Nat.le_of_ble_eq_true rfl) dX11_rule_122 rfl ?_
          intro r_42 N_43 q_44
          obtain ⟨hI_N_43, hG_N_43, q_44c⟩ := q_44
          have hF_N_43 : Fr f_c_X11_rule M N_43 := Fr.c hF_M hG_N_43 rfl
          subst q_44c
          refine kx_goto 139 F dX11_rule_125 (by decide) ?_
          exact kx_iret F hQ ⟨hI_N_43, hF_N_43, (by omega)⟩ dX11_rule_139
      · refine kx_tableOut 140 F (by omega) dX11_rule_43 h_20 (by decide) ?_
        refine kx_aload_n 141 F 0 dX11_rule_140 rfl rfl rfl ?_
        refine kx_iconst 142 F dX11_rule_141 rfl ?_
        refine kx_Vi 145 (ci := 0) F (As := [vI 1]) (st := []) vd_X11_110 (c_X11_refuse G l M c0 1 hI_M hk_c0 (by omega)) hk_c0 rfl rfl rfl ⟨by decide, by decide⟩ rfl rfl (Nat.le_of_ble_eq_true rfl) dX11_rule_142 rfl ?_
        intro r_45 N_46 q_47
        obtain ⟨hI_N_46, hG_N_46, q_47c⟩ := q_47
        have hF_N_46 : Fr f_c_X11_rule M N_46 := Fr.c hF_M hG_N_46 rfl
        subst q_47c
        exact kx_iret F hQ ⟨hI_N_46, hF_N_46, (by omega)⟩ dX11_rule_145
    · refine kx_if_ne 26 F 32 dX11_rule_23 (by decide) rfl (by omega) (fun h_48 => (by exfalso; omega)) (fun h_48 => ?_)
      refine kx_aload_n 27 F 0 dX11_rule_26 rfl rfl rfl ?_
      refine kx_iconst 28 F dX11_rule_27 rfl ?_
      refine kx_Vi 31 (ci := 0) F (As := [vI 1]) (st := []) vd_X11_110 (c_X11_refuse G l M c0 1 hI_M hk_c0 (by omega)) hk_c0 rfl rfl rfl ⟨by decide, by decide⟩ rfl rfl (Nat.le_of_ble_eq_true rfl) dX11_rule_28 rfl ?_
      intro r_49 N_50 q_51
      obtain ⟨hI_N_50, hG_N_50, q_51c⟩ := q_51
      have hF_N_50 : Fr f_c_X11_rule M N_50 := Fr.c hF_M hG_N_50 rfl
      subst q_51c
      exact kx_iret F hQ ⟨hI_N_50, hF_N_50, (by omega)⟩ dX11_rule_31
  · refine kx_if_eq 11 F 26 dX11_rule_8 (by decide) rfl (by omega) (fun h_52 => ?_) (fun h_52 => (by exfalso; omega))
    refine kx_aload_n 27 F 0 dX11_rule_26 rfl rfl rfl ?_
    refine kx_iconst 28 F dX11_rule_27 rfl ?_
    refine kx_Vi 31 (ci := 0) F (As := [vI 1]) (st := []) vd_X11_110 (c_X11_refuse G l M c0 1 hI_M hk_c0 (by omega)) hk_c0 rfl rfl rfl ⟨by decide, by decide⟩ rfl rfl (Nat.le_of_ble_eq_true rfl) dX11_rule_28 rfl ?_
    intro r_53 N_54 q_55
    obtain ⟨hI_N_54, hG_N_54, q_55c⟩ := q_55
    have hF_N_54 : Fr f_c_X11_rule M N_54 := Fr.c hF_M hG_N_54 rfl
    subst q_55c
    exact kx_iret F hQ ⟨hI_N_54, hF_N_54, (by omega)⟩ dX11_rule_31
theorem dX11_drop_0 : decode cX11_drop 0 = .ok (.aload_n 0, 1) := by decide +kernel
theorem dX11_drop_1 : decode cX11_drop 1 = .ok (.getfield 26, 3) := by decide +kernel
theorem dX11_drop_4 : decode cX11_drop 4 = .ok (.iload_n 1, 1) := by decide +kernel
theorem dX11_drop_5 : decode cX11_drop 5 = .ok (.invokevirtual 163, 3) := by decide +kernel
theorem dX11_drop_8 : decode cX11_drop 8 = .ok (.ifCond .eq 18, 3) := by decide +kernel
theorem dX11_drop_11 : decode cX11_drop 11 = .ok (.aload_n 0, 1) := by decide +kernel
theorem dX11_drop_12 : decode cX11_drop 12 = .ok (.getfield 26, 3) := by decide +kernel
theorem dX11_drop_15 : decode cX11_drop 15 = .ok (.iload_n 1, 1) := by decide +kernel
theorem dX11_drop_16 : decode cX11_drop 16 = .ok (.invokevirtual 164, 3) := by decide +kernel
theorem dX11_drop_19 : decode cX11_drop 19 = .ok (.iload_n 2, 1) := by decide +kernel
theorem dX11_drop_20 : decode cX11_drop 20 = .ok (.invokevirtual 185, 3) := by decide +kernel
theorem dX11_drop_23 : decode cX11_drop 23 = .ok (.ifCond .ne 9, 3) := by decide +kernel
theorem dX11_drop_26 : decode cX11_drop 26 = .ok (.aload_n 0, 1) := by decide +kernel
theorem dX11_drop_27 : decode cX11_drop 27 = .ok (.iconst 1, 1) := by decide +kernel
theorem dX11_drop_28 : decode cX11_drop 28 = .ok (.invokevirtual 110, 3) := by decide +kernel
theorem dX11_drop_31 : decode cX11_drop 31 = .ok (.ireturn, 1) := by decide +kernel
theorem dX11_drop_32 : decode cX11_drop 32 = .ok (.aload_n 0, 1) := by decide +kernel
theorem dX11_drop_33 : decode cX11_drop 33 = .ok (.getfield 26, 3) := by decide +kernel
theorem dX11_drop_36 : decode cX11_drop 36 = .ok (.iload_n 1, 1) := by decide +kernel
theorem dX11_drop_37 : decode cX11_drop 37 = .ok (.invokevirtual 164, 3) := by decide +kernel
theorem dX11_drop_40 : decode cX11_drop 40 = .ok (.astore_n 3, 1) := by decide +kernel
theorem dX11_drop_41 : decode cX11_drop 41 = .ok (.aload_n 3, 1) := by decide +kernel
theorem dX11_drop_42 : decode cX11_drop 42 = .ok (.iload_n 2, 1) := by decide +kernel
theorem dX11_drop_43 : decode cX11_drop 43 = .ok (.invokevirtual 212, 3) := by decide +kernel
theorem dX11_drop_46 : decode cX11_drop 46 = .ok (.aload_n 0, 1) := by decide +kernel
theorem dX11_drop_47 : decode cX11_drop 47 = .ok (.invokevirtual 139, 3) := by decide +kernel
theorem dX11_drop_50 : decode cX11_drop 50 = .ok (.aload_n 0, 1) := by decide +kernel
theorem dX11_drop_51 : decode cX11_drop 51 = .ok (.aload_n 3, 1) := by decide +kernel
theorem dX11_drop_52 : decode cX11_drop 52 = .ok (.getfield 182, 3) := by decide +kernel
theorem dX11_drop_55 : decode cX11_drop 55 = .ok (.invokevirtual 145, 3) := by decide +kernel
theorem dX11_drop_58 : decode cX11_drop 58 = .ok (.ireturn, 1) := by decide +kernel
abbrev f_c_X11_drop : List (Nat × Int) := [(1, 4), (2, -1), (3, -1), (4, -1), (5, -1), (6, -1), (7, -1), (21, 0), (41, 2), (62, 0)]
set_option maxHeartbeats 4000000 in
set_option maxRecDepth 100000 in
theorem c_X11_drop (G : KG) (l : Launch) (M : Mem) (c0 : Int) (a1 : Int) (a2 : Int) (hI_M : Inv false M) (hk_c0 : kd c0 = 62) (hpre : -2147483648 ≤ a1 ∧ a1 ≤ 2147483647 ∧ -2147483648 ≤ a2 ∧ a2 ≤ 2147483647) : KC false G l yX11_drop cX11_drop 4 (some .int) (4, 86) [vR G c0, vI a1, vI a2] M (fun A => kQi false G A (fun (r : Int) (N : Mem) => Inv false N ∧ Fr f_c_X11_drop M N ∧ (r ≥ -1 ∧ r ≤ 20))) := by
  refine kx_met (lo := [some (vR G c0), some (vI a1), some (vI a2), none]) (by decide) (Nat.le_of_ble_eq_true rfl) rfl ?_
  intro X F hQ
  have hF_M : Fr f_c_X11_drop M M := Fr.rf _ _
  refine kx_aload_n 1 F 0 dX11_drop_0 rfl rfl rfl ?_
  refine kx_getr 4 F fl_X11_26 hk_c0 rfl rfl (j := 5) rfl dX11_drop_1 (v := (M c0 5)) rfl rfl ?_
  have hk_1 : kd (M c0 5) = 12 := Inv.r hI_M hk_c0 rfl 5 rfl rfl
  refine kx_iload_n 5 F 1 dX11_drop_4 rfl rfl rfl ?_
  refine kx_Vi 8 (ci := 0) F (As := [vI a1]) (st := []) vd_X11_163 (c_X5_has G l M (M c0 5) a1 hI_M hk_1 (by omega)) hk_1 rfl rfl rfl ⟨by decide, by decide⟩ rfl rfl (Nat.le_of_ble_eq_true rfl) dX11_drop_5 rfl ?_
  intro r_2 N_3 q_4
  obtain ⟨rfl, q_4c⟩ := q_4
  have h_5 := Inv.g hI_M hk_1 rfl 3 (a := 0) (b := 2) rfl rfl
  rcases q_4c with q_4c | q_4c
  · refine kx_if_eq 11 F 26 dX11_drop_8 (by decide) rfl (by omega) (fun h_6 => (by exfalso; omega)) (fun h_6 => ?_)
    refine kx_aload_n 12 F 0 dX11_drop_11 rfl rfl rfl ?_
    refine kx_getr 15 F fl_X11_26 hk_c0 rfl rfl (j := 5) rfl dX11_drop_12 (v := (M c0 5)) rfl rfl ?_
    refine kx_iload_n 16 F 1 dX11_drop_15 rfl rfl rfl ?_
    refine kx_Vr 19 (ci := 0) F (As := [vI a1]) (st := []) vd_X11_164 (c_X5_pickE G l M (M c0 5) a1 hI_M hk_1 (by omega)) hk_1 rfl rfl rfl ⟨by decide, by decide⟩ rfl rfl (Nat.le_of_ble_eq_true rfl) dX11_drop_16 rfl ?_
    intro r_7 N_8 q_9
    obtain ⟨rfl, hk_10, q_9d⟩ := q_9
    rcases q_9d with ⟨q_9c, rfl⟩ | ⟨q_9c, rfl⟩
    · refine kx_iload_n 20 F 2 dX11_drop_19 rfl rfl rfl ?_
      refine kx_Vi 23 (ci := 0) F (As := [vI a2]) (st := []) vd_X11_185 (c_X0_hasRule G l M (M (M c0 5) 4) a2 hI_M hk_10 (by omega)) hk_10 rfl rfl rfl ⟨by decide, by decide⟩ rfl rfl (Nat.le_of_ble_eq_true rfl) dX11_drop_20 rfl ?_
      intro r_11 N_12 q_13
      obtain ⟨rfl, q_13c⟩ := q_13
      have h_14 := Inv.g hI_M hk_10 rfl 4 (a := 0) (b := 20) rfl rfl
      rcases q_13c with q_13c | q_13c
      · refine kx_if_ne 26 F 32 dX11_drop_23 (by decide) rfl (by omega) (fun h_15 => ?_) (fun h_15 => (by exfalso; omega))
        refine kx_aload_n 33 F 0 dX11_drop_32 rfl rfl rfl ?_
        refine kx_getr 36 F fl_X11_26 hk_c0 rfl rfl (j := 5) rfl dX11_drop_33 (v := (M c0 5)) rfl rfl ?_
        refine kx_iload_n 37 F 1 dX11_drop_36 rfl rfl rfl ?_
        refine kx_Vr 40 (ci := 0) F (As := [vI a1]) (st := []) vd_X11_164 (c_X5_pickE G l M (M c0 5) a1 hI_M hk_1 (by omega)) hk_1 rfl rfl rfl ⟨by decide, by decide⟩ rfl rfl (Nat.le_of_ble_eq_true rfl) dX11_drop_37 rfl ?_
        intro r_16 N_17 q_18
        obtain ⟨rfl, hk_19, q_18d⟩ := q_18
        rcases q_18d with ⟨q_18c, rfl⟩ | ⟨q_18c, rfl⟩
        · refine kx_astore_n 41 F 3 (lo' := [some (vR G c0), some (vI a1), some (vI a2), some (vR G (M (M c0 5) 4))]) dX11_drop_40 rfl (by decide) rfl rfl rfl ?_
          refine kx_aload_n 42 F 3 dX11_drop_41 rfl rfl rfl ?_
          refine kx_iload_n 43 F 2 dX11_drop_42 rfl rfl rfl ?_
          refine kx_Vv 46 (ci := 0) F (As := [vI a2]) (st := []) vd_X11_212 (c_X0_remove G l M (M (M c0 5) 4) a2 hI_M hk_19 (by omega)) hk_19 rfl rfl rfl ⟨by decide, by decide⟩ rfl rfl (Nat.le_of_ble_eq_true rfl) dX11_drop_43 rfl ?_
          intro N_20 q_21
          obtain ⟨hI_N_20, hG_N_20⟩ := q_21
          have hF_N_20 : Fr f_c_X11_drop M N_20 := Fr.c hF_M hG_N_20 rfl
          refine kx_aload_n 47 F 0 dX11_drop_46 rfl rfl rfl ?_
          refine kx_Vv 50 (ci := 0) F (As := []) (st := []) vd_X11_139 (c_X11_forget G l N_20 c0 hI_N_20 hk_c0) hk_c0 rfl rfl rfl ⟨by decide, by decide⟩ rfl rfl (Nat.le_of_ble_eq_true rfl) dX11_drop_47 rfl ?_
          intro N_22 q_23
          obtain ⟨hI_N_22, hG_N_22⟩ := q_23
          have hF_N_22 : Fr f_c_X11_drop M N_22 := Fr.c hF_N_20 hG_N_22 rfl
          refine kx_aload_n 51 F 0 dX11_drop_50 rfl rfl rfl ?_
          refine kx_aload_n 52 F 3 dX11_drop_51 rfl rfl rfl ?_
          refine kx_geti 55 F fl_X11_182 hk_19 rfl rfl (j := 4) rfl dX11_drop_52 (v := (N_20 (M (M c0 5) 4) 4)) (by rw [Fr.e hG_N_22 hk_19 _ rfl]) rfl ?_
          have h_24 := Inv.g hI_N_20 hk_19 rfl 4 (a := 0) (b := 20) rfl rfl
          refine kx_Vi 58 (ci := 0) F (As := [vI (N_20 (M (M c0 5) 4) 4)]) (st := []) vd_X11_145 (c_X11_answer G l N_22 c0 (N_20 (M (M c0 5) 4) 4) hI_N_22 hk_c0 (by omega)) hk_c0 rfl rfl rfl ⟨by decide, by decide⟩ rfl rfl (Nat.le_of_ble_eq_true rfl) dX11_drop_55 rfl ?_
          intro r_25 N_26 q_27
          obtain ⟨hI_N_26, hG_N_26, q_27c⟩ := q_27
          have hF_N_26 : Fr f_c_X11_drop M N_26 := Fr.c hF_N_22 hG_N_26 rfl
          exact kx_iret F hQ ⟨hI_N_26, hF_N_26, (by omega)⟩ dX11_drop_58
        · exfalso; omega
      · refine kx_if_ne 26 F 32 dX11_drop_23 (by decide) rfl (by omega) (fun h_28 => (by exfalso; omega)) (fun h_28 => ?_)
        refine kx_aload_n 27 F 0 dX11_drop_26 rfl rfl rfl ?_
        refine kx_iconst 28 F dX11_drop_27 rfl ?_
        refine kx_Vi 31 (ci := 0) F (As := [vI 1]) (st := []) vd_X11_110 (c_X11_refuse G l M c0 1 hI_M hk_c0 (by omega)) hk_c0 rfl rfl rfl ⟨by decide, by decide⟩ rfl rfl (Nat.le_of_ble_eq_true rfl) dX11_drop_28 rfl ?_
        intro r_29 N_30 q_31
        obtain ⟨hI_N_30, hG_N_30, q_31c⟩ := q_31
        have hF_N_30 : Fr f_c_X11_drop M N_30 := Fr.c hF_M hG_N_30 rfl
        subst q_31c
        exact kx_iret F hQ ⟨hI_N_30, hF_N_30, (by omega)⟩ dX11_drop_31
    · refine kx_iload_n 20 F 2 dX11_drop_19 rfl rfl rfl ?_
      refine kx_Vi 23 (ci := 0) F (As := [vI a2]) (st := []) vd_X11_185 (c_X0_hasRule G l M (M (M c0 5) 5) a2 hI_M hk_10 (by omega)) hk_10 rfl rfl rfl ⟨by decide, by decide⟩ rfl rfl (Nat.le_of_ble_eq_true rfl) dX11_drop_20 rfl ?_
      intro r_32 N_33 q_34
      obtain ⟨rfl, q_34c⟩ := q_34
      have h_35 := Inv.g hI_M hk_10 rfl 4 (a := 0) (b := 20) rfl rfl
      rcases q_34c with q_34c | q_34c
      · refine kx_if_ne 26 F 32 dX11_drop_23 (by decide) rfl (by omega) (fun h_36 => ?_) (fun h_36 => (by exfalso; omega))
        refine kx_aload_n 33 F 0 dX11_drop_32 rfl rfl rfl ?_
        refine kx_getr 36 F fl_X11_26 hk_c0 rfl rfl (j := 5) rfl dX11_drop_33 (v := (M c0 5)) rfl rfl ?_
        refine kx_iload_n 37 F 1 dX11_drop_36 rfl rfl rfl ?_
        refine kx_Vr 40 (ci := 0) F (As := [vI a1]) (st := []) vd_X11_164 (c_X5_pickE G l M (M c0 5) a1 hI_M hk_1 (by omega)) hk_1 rfl rfl rfl ⟨by decide, by decide⟩ rfl rfl (Nat.le_of_ble_eq_true rfl) dX11_drop_37 rfl ?_
        intro r_37 N_38 q_39
        obtain ⟨rfl, hk_40, q_39d⟩ := q_39
        rcases q_39d with ⟨q_39c, rfl⟩ | ⟨q_39c, rfl⟩
        · exfalso; omega
        · refine kx_astore_n 41 F 3 (lo' := [some (vR G c0), some (vI a1), some (vI a2), some (vR G (M (M c0 5) 5))]) dX11_drop_40 rfl (by decide) rfl rfl rfl ?_
          refine kx_aload_n 42 F 3 dX11_drop_41 rfl rfl rfl ?_
          refine kx_iload_n 43 F 2 dX11_drop_42 rfl rfl rfl ?_
          refine kx_Vv 46 (ci := 0) F (As := [vI a2]) (st := []) vd_X11_212 (c_X0_remove G l M (M (M c0 5) 5) a2 hI_M hk_40 (by omega)) hk_40 rfl rfl rfl ⟨by decide, by decide⟩ rfl rfl (Nat.le_of_ble_eq_true rfl) dX11_drop_43 rfl ?_
          intro N_41 q_42
          obtain ⟨hI_N_41, hG_N_41⟩ := q_42
          have hF_N_41 : Fr f_c_X11_drop M N_41 := Fr.c hF_M hG_N_41 rfl
          refine kx_aload_n 47 F 0 dX11_drop_46 rfl rfl rfl ?_
          refine kx_Vv 50 (ci := 0) F (As := []) (st := []) vd_X11_139 (c_X11_forget G l N_41 c0 hI_N_41 hk_c0) hk_c0 rfl rfl rfl ⟨by decide, by decide⟩ rfl rfl (Nat.le_of_ble_eq_true rfl) dX11_drop_47 rfl ?_
          intro N_43 q_44
          obtain ⟨hI_N_43, hG_N_43⟩ := q_44
          have hF_N_43 : Fr f_c_X11_drop M N_43 := Fr.c hF_N_41 hG_N_43 rfl
          refine kx_aload_n 51 F 0 dX11_drop_50 rfl rfl rfl ?_
          refine kx_aload_n 52 F 3 dX11_drop_51 rfl rfl rfl ?_
          refine kx_geti 55 F fl_X11_182 hk_40 rfl rfl (j := 4) rfl dX11_drop_52 (v := (N_41 (M (M c0 5) 5) 4)) (by rw [Fr.e hG_N_43 hk_40 _ rfl]) rfl ?_
          have h_45 := Inv.g hI_N_41 hk_40 rfl 4 (a := 0) (b := 20) rfl rfl
          refine kx_Vi 58 (ci := 0) F (As := [vI (N_41 (M (M c0 5) 5) 4)]) (st := []) vd_X11_145 (c_X11_answer G l N_43 c0 (N_41 (M (M c0 5) 5) 4) hI_N_43 hk_c0 (by omega)) hk_c0 rfl rfl rfl ⟨by decide, by decide⟩ rfl rfl (Nat.le_of_ble_eq_true rfl) dX11_drop_55 rfl ?_
          intro r_46 N_47 q_48
          obtain ⟨hI_N_47, hG_N_47, q_48c⟩ := q_48
          have hF_N_47 : Fr f_c_X11_drop M N_47 := Fr.c hF_N_43 hG_N_47 rfl
          exact kx_iret F hQ ⟨hI_N_47, hF_N_47, (by omega)⟩ dX11_drop_58
      · refine kx_if_ne 26 F 32 dX11_drop_23 (by decide) rfl (by omega) (fun h_49 => (by exfalso; omega)) (fun h_49 => ?_)
        refine kx_aload_n 27 F 0 dX11_drop_26 rfl rfl rfl ?_
        refine kx_iconst 28 F dX11_drop_27 rfl ?_
        refine kx_Vi 31 (ci := 0) F (As := [vI 1]) (st := []) vd_X11_110 (c_X11_refuse G l M c0 1 hI_M hk_c0 (by omega)) hk_c0 rfl rfl rfl ⟨by decide, by decide⟩ rfl rfl (Nat.le_of_ble_eq_true rfl) dX11_drop_28 rfl ?_
        intro r_50 N_51 q_52
        obtain ⟨hI_N_51, hG_N_51, q_52c⟩ := q_52
        have hF_N_51 : Fr f_c_X11_drop M N_51 := Fr.c hF_M hG_N_51 rfl
        subst q_52c
        exact kx_iret F hQ ⟨hI_N_51, hF_N_51, (by omega)⟩ dX11_drop_31
  · refine kx_if_eq 11 F 26 dX11_drop_8 (by decide) rfl (by omega) (fun h_53 => ?_) (fun h_53 => (by exfalso; omega))
    refine kx_aload_n 27 F 0 dX11_drop_26 rfl rfl rfl ?_
    refine kx_iconst 28 F dX11_drop_27 rfl ?_
    refine kx_Vi 31 (ci := 0) F (As := [vI 1]) (st := []) vd_X11_110 (c_X11_refuse G l M c0 1 hI_M hk_c0 (by omega)) hk_c0 rfl rfl rfl ⟨by decide, by decide⟩ rfl rfl (Nat.le_of_ble_eq_true rfl) dX11_drop_28 rfl ?_
    intro r_54 N_55 q_56
    obtain ⟨hI_N_55, hG_N_55, q_56c⟩ := q_56
    have hF_N_55 : Fr f_c_X11_drop M N_55 := Fr.c hF_M hG_N_55 rfl
    subst q_56c
    exact kx_iret F hQ ⟨hI_N_55, hF_N_55, (by omega)⟩ dX11_drop_31
theorem dX11_add_0 : decode cX11_add 0 = .ok (.aload_n 0, 1) := by decide +kernel
theorem dX11_add_1 : decode cX11_add 1 = .ok (.getfield 26, 3) := by decide +kernel
theorem dX11_add_4 : decode cX11_add 4 = .ok (.iload_n 1, 1) := by decide +kernel
theorem dX11_add_5 : decode cX11_add 5 = .ok (.invokevirtual 163, 3) := by decide +kernel
theorem dX11_add_8 : decode cX11_add 8 = .ok (.ifCond .eq 27, 3) := by decide +kernel
theorem dX11_add_11 : decode cX11_add 11 = .ok (.aload_n 0, 1) := by decide +kernel
theorem dX11_add_12 : decode cX11_add 12 = .ok (.getfield 26, 3) := by decide +kernel
theorem dX11_add_15 : decode cX11_add 15 = .ok (.aload_n 0, 1) := by decide +kernel
theorem dX11_add_16 : decode cX11_add 16 = .ok (.getfield 26, 3) := by decide +kernel
theorem dX11_add_19 : decode cX11_add 19 = .ok (.iload_n 1, 1) := by decide +kernel
theorem dX11_add_20 : decode cX11_add 20 = .ok (.invokevirtual 164, 3) := by decide +kernel
theorem dX11_add_23 : decode cX11_add 23 = .ok (.iload_n 2, 1) := by decide +kernel
theorem dX11_add_24 : decode cX11_add 24 = .ok (.iload_n 3, 1) := by decide +kernel
theorem dX11_add_25 : decode cX11_add 25 = .ok (.iload 4, 2) := by decide +kernel
theorem dX11_add_27 : decode cX11_add 27 = .ok (.iload 5, 2) := by decide +kernel
theorem dX11_add_29 : decode cX11_add 29 = .ok (.invokevirtual 201, 3) := by decide +kernel
theorem dX11_add_32 : decode cX11_add 32 = .ok (.ifCond .ne 9, 3) := by decide +kernel
theorem dX11_add_35 : decode cX11_add 35 = .ok (.aload_n 0, 1) := by decide +kernel
theorem dX11_add_36 : decode cX11_add 36 = .ok (.iconst 1, 1) := by decide +kernel
theorem dX11_add_37 : decode cX11_add 37 = .ok (.invokevirtual 110, 3) := by decide +kernel
theorem dX11_add_40 : decode cX11_add 40 = .ok (.ireturn, 1) := by decide +kernel
theorem dX11_add_41 : decode cX11_add 41 = .ok (.aload_n 0, 1) := by decide +kernel
theorem dX11_add_42 : decode cX11_add 42 = .ok (.getfield 26, 3) := by decide +kernel
theorem dX11_add_45 : decode cX11_add 45 = .ok (.iload_n 1, 1) := by decide +kernel
theorem dX11_add_46 : decode cX11_add 46 = .ok (.invokevirtual 164, 3) := by decide +kernel
theorem dX11_add_49 : decode cX11_add 49 = .ok (.astore 6, 2) := by decide +kernel
theorem dX11_add_51 : decode cX11_add 51 = .ok (.aload 6, 2) := by decide +kernel
theorem dX11_add_53 : decode cX11_add 53 = .ok (.getfield 182, 3) := by decide +kernel
theorem dX11_add_56 : decode cX11_add 56 = .ok (.bipush 20, 2) := by decide +kernel
theorem dX11_add_58 : decode cX11_add 58 = .ok (.if_icmp .lt 9, 3) := by decide +kernel
theorem dX11_add_61 : decode cX11_add 61 = .ok (.aload_n 0, 1) := by decide +kernel
theorem dX11_add_62 : decode cX11_add 62 = .ok (.iconst 4, 1) := by decide +kernel
theorem dX11_add_63 : decode cX11_add 63 = .ok (.invokevirtual 110, 3) := by decide +kernel
theorem dX11_add_66 : decode cX11_add 66 = .ok (.ireturn, 1) := by decide +kernel
theorem dX11_add_67 : decode cX11_add 67 = .ok (.aload 6, 2) := by decide +kernel
theorem dX11_add_69 : decode cX11_add 69 = .ok (.iload_n 2, 1) := by decide +kernel
theorem dX11_add_70 : decode cX11_add 70 = .ok (.iload_n 3, 1) := by decide +kernel
theorem dX11_add_71 : decode cX11_add 71 = .ok (.iload 4, 2) := by decide +kernel
theorem dX11_add_73 : decode cX11_add 73 = .ok (.iload 5, 2) := by decide +kernel
theorem dX11_add_75 : decode cX11_add 75 = .ok (.invokevirtual 205, 3) := by decide +kernel
theorem dX11_add_78 : decode cX11_add 78 = .ok (.iconst (-1), 1) := by decide +kernel
theorem dX11_add_79 : decode cX11_add 79 = .ok (.if_icmp .eq 10, 3) := by decide +kernel
theorem dX11_add_82 : decode cX11_add 82 = .ok (.aload_n 0, 1) := by decide +kernel
theorem dX11_add_83 : decode cX11_add 83 = .ok (.bipush 7, 2) := by decide +kernel
theorem dX11_add_85 : decode cX11_add 85 = .ok (.invokevirtual 110, 3) := by decide +kernel
theorem dX11_add_88 : decode cX11_add 88 = .ok (.ireturn, 1) := by decide +kernel
theorem dX11_add_89 : decode cX11_add 89 = .ok (.aload 6, 2) := by decide +kernel
theorem dX11_add_91 : decode cX11_add 91 = .ok (.iload_n 2, 1) := by decide +kernel
theorem dX11_add_92 : decode cX11_add 92 = .ok (.iload_n 3, 1) := by decide +kernel
theorem dX11_add_93 : decode cX11_add 93 = .ok (.iload 4, 2) := by decide +kernel
theorem dX11_add_95 : decode cX11_add 95 = .ok (.iload 5, 2) := by decide +kernel
theorem dX11_add_97 : decode cX11_add 97 = .ok (.invokevirtual 209, 3) := by decide +kernel
theorem dX11_add_100 : decode cX11_add 100 = .ok (.aload_n 0, 1) := by decide +kernel
theorem dX11_add_101 : decode cX11_add 101 = .ok (.invokevirtual 139, 3) := by decide +kernel
theorem dX11_add_104 : decode cX11_add 104 = .ok (.aload_n 0, 1) := by decide +kernel
theorem dX11_add_105 : decode cX11_add 105 = .ok (.aload 6, 2) := by decide +kernel
theorem dX11_add_107 : decode cX11_add 107 = .ok (.getfield 182, 3) := by decide +kernel
theorem dX11_add_110 : decode cX11_add 110 = .ok (.invokevirtual 145, 3) := by decide +kernel
theorem dX11_add_113 : decode cX11_add 113 = .ok (.ireturn, 1) := by decide +kernel
abbrev f_c_X11_add : List (Nat × Int) := [(1, 4), (2, -1), (3, -1), (4, -1), (5, -1), (6, -1), (7, -1), (21, 0), (41, 2), (62, 0)]
set_option maxHeartbeats 4000000 in
set_option maxRecDepth 100000 in
theorem c_X11_add (G : KG) (l : Launch) (M : Mem) (c0 : Int) (a1 : Int) (a2 : Int) (a3 : Int) (a4 : Int) (a5 : Int) (hI_M : Inv false M) (hk_c0 : kd c0 = 62) (hpre : -2147483648 ≤ a1 ∧ a1 ≤ 2147483647 ∧ -2147483648 ≤ a2 ∧ a2 ≤ 2147483647 ∧ -2147483648 ≤ a3 ∧ a3 ≤ 2147483647 ∧ -2147483648 ≤ a4 ∧ a4 ≤ 2147483647 ∧ -2147483648 ≤ a5 ∧ a5 ≤ 2147483647) : KC false G l yX11_add cX11_add 7 (some .int) (3, 68) [vR G c0, vI a1, vI a2, vI a3, vI a4, vI a5] M (fun A => kQi false G A (fun (r : Int) (N : Mem) => Inv false N ∧ Fr f_c_X11_add M N ∧ (r ≥ -1 ∧ r ≤ 20))) := by
  refine kx_met (lo := [some (vR G c0), some (vI a1), some (vI a2), some (vI a3), some (vI a4), some (vI a5), none]) (by decide) (Nat.le_of_ble_eq_true rfl) rfl ?_
  intro X F hQ
  have hF_M : Fr f_c_X11_add M M := Fr.rf _ _
  refine kx_aload_n 1 F 0 dX11_add_0 rfl rfl rfl ?_
  refine kx_getr 4 F fl_X11_26 hk_c0 rfl rfl (j := 5) rfl dX11_add_1 (v := (M c0 5)) rfl rfl ?_
  have hk_1 : kd (M c0 5) = 12 := Inv.r hI_M hk_c0 rfl 5 rfl rfl
  refine kx_iload_n 5 F 1 dX11_add_4 rfl rfl rfl ?_
  refine kx_Vi 8 (ci := 0) F (As := [vI a1]) (st := []) vd_X11_163 (c_X5_has G l M (M c0 5) a1 hI_M hk_1 (by omega)) hk_1 rfl rfl rfl ⟨by decide, by decide⟩ rfl rfl (Nat.le_of_ble_eq_true rfl) dX11_add_5 rfl ?_
  intro r_2 N_3 q_4
  obtain ⟨rfl, q_4c⟩ := q_4
  have h_5 := Inv.g hI_M hk_1 rfl 3 (a := 0) (b := 2) rfl rfl
  rcases q_4c with q_4c | q_4c
  · refine kx_if_eq 11 F 35 dX11_add_8 (by decide) rfl (by omega) (fun h_6 => (by exfalso; omega)) (fun h_6 => ?_)
    refine kx_aload_n 12 F 0 dX11_add_11 rfl rfl rfl ?_
    refine kx_getr 15 F fl_X11_26 hk_c0 rfl rfl (j := 5) rfl dX11_add_12 (v := (M c0 5)) rfl rfl ?_
    refine kx_aload_n 16 F 0 dX11_add_15 rfl rfl rfl ?_
    refine kx_getr 19 F fl_X11_26 hk_c0 rfl rfl (j := 5) rfl dX11_add_16 (v := (M c0 5)) rfl rfl ?_
    refine kx_iload_n 20 F 1 dX11_add_19 rfl rfl rfl ?_
    refine kx_Vr 23 (ci := 0) F (As := [vI a1]) (st := [vR G (M c0 5)]) vd_X11_164 (c_X5_pick G l M (M c0 5) a1 hI_M hk_1 (by omega)) hk_1 rfl rfl rfl ⟨by decide, by decide⟩ rfl rfl (Nat.le_of_ble_eq_true rfl) dX11_add_20 rfl ?_
    intro r_7 N_8 q_9
    obtain ⟨rfl, hk_10⟩ := q_9
    refine kx_iload_n 24 F 2 dX11_add_23 rfl rfl rfl ?_
    refine kx_iload_n 25 F 3 dX11_add_24 rfl rfl rfl ?_
    refine kx_iload 27 F 4 dX11_add_25 rfl rfl ?_
    refine kx_iload 29 F 5 dX11_add_27 rfl rfl ?_
    refine kx_Vi 32 (ci := 0) F (As := [vR G r_7, vI a2, vI a3, vI a4, vI a5]) (st := []) vd_X11_201 (c_X5_couldHave G l M (M c0 5) r_7 a2 a3 a4 a5 hI_M hk_1 hk_10 (by omega)) hk_1 rfl rfl rfl ⟨by decide, by decide⟩ rfl rfl (Nat.le_of_ble_eq_true rfl) dX11_add_29 rfl ?_
    intro r_11 N_12 q_13
    obtain ⟨rfl, q_13c⟩ := q_13
    rcases q_13c with q_13c | q_13c
    · refine kx_if_ne 35 F 41 dX11_add_32 (by decide) rfl (by omega) (fun h_14 => ?_) (fun h_14 => (by exfalso; omega))
      refine kx_aload_n 42 F 0 dX11_add_41 rfl rfl rfl ?_
      refine kx_getr 45 F fl_X11_26 hk_c0 rfl rfl (j := 5) rfl dX11_add_42 (v := (M c0 5)) rfl rfl ?_
      refine kx_iload_n 46 F 1 dX11_add_45 rfl rfl rfl ?_
      refine kx_Vr 49 (ci := 0) F (As := [vI a1]) (st := []) vd_X11_164 (c_X5_pick G l M (M c0 5) a1 hI_M hk_1 (by omega)) hk_1 rfl rfl rfl ⟨by decide, by decide⟩ rfl rfl (Nat.le_of_ble_eq_true rfl) dX11_add_46 rfl ?_
      intro r_15 N_16 q_17
      obtain ⟨rfl, hk_18⟩ := q_17
      refine kx_astore 51 F 6 (lo' := [some (vR G c0), some (vI a1), some (vI a2), some (vI a3), some (vI a4), some (vI a5), some (vR G r_15)]) dX11_add_49 (by decide) rfl rfl rfl ?_
      refine kx_aload 53 F 6 dX11_add_51 rfl rfl ?_
      refine kx_geti 56 F fl_X11_182 hk_18 rfl rfl (j := 4) rfl dX11_add_53 (v := (M r_15 4)) rfl rfl ?_
      have h_19 := Inv.g hI_M hk_18 rfl 4 (a := 0) (b := 20) rfl rfl
      refine kx_bipush 58 F dX11_add_56 (by decide) rfl ?_
      refine kx_icmp_lt 61 F 67 dX11_add_58 (by decide) rfl (by omega) (by decide) (fun h_20 => ?_) (fun h_20 => ?_)
      · refine kx_aload 69 F 6 dX11_add_67 rfl rfl ?_
        refine kx_iload_n 70 F 2 dX11_add_69 rfl rfl rfl ?_
        refine kx_iload_n 71 F 3 dX11_add_70 rfl rfl rfl ?_
        refine kx_iload 73 F 4 dX11_add_71 rfl rfl ?_
        refine kx_iload 75 F 5 dX11_add_73 rfl rfl ?_
        refine kx_Vi 78 (ci := 0) F (As := [vI a2, vI a3, vI a4, vI a5]) (st := []) vd_X11_205 (c_X0_find G l M r_15 a2 a3 a4 a5 hI_M hk_18 (by omega)) hk_18 rfl rfl rfl ⟨by decide, by decide⟩ rfl rfl (Nat.le_of_ble_eq_true rfl) dX11_add_75 rfl ?_
        intro r_21 N_22 q_23
        obtain ⟨rfl, q_23c⟩ := q_23
        refine kx_iconst 79 F dX11_add_78 rfl ?_
        refine kx_icmp_eq 82 F 89 dX11_add_79 (by decide) rfl (by omega) (by decide) (fun h_24 => ?_) (fun h_24 => ?_)
        · refine kx_aload 91 F 6 dX11_add_89 rfl rfl ?_
          refine kx_iload_n 92 F 2 dX11_add_91 rfl rfl rfl ?_
          refine kx_iload_n 93 F 3 dX11_add_92 rfl rfl rfl ?_
          refine kx_iload 95 F 4 dX11_add_93 rfl rfl ?_
          refine kx_iload 97 F 5 dX11_add_95 rfl rfl ?_
          refine kx_Vv 100 (ci := 0) F (As := [vI a2, vI a3, vI a4, vI a5]) (st := []) vd_X11_209 (c_X0_append G l M r_15 a2 a3 a4 a5 hI_M hk_18 (by omega)) hk_18 rfl rfl rfl ⟨by decide, by decide⟩ rfl rfl (Nat.le_of_ble_eq_true rfl) dX11_add_97 rfl ?_
          intro N_25 q_26
          obtain ⟨hI_N_25, hG_N_25⟩ := q_26
          have hF_N_25 : Fr f_c_X11_add M N_25 := Fr.c hF_M hG_N_25 rfl
          refine kx_aload_n 101 F 0 dX11_add_100 rfl rfl rfl ?_
          refine kx_Vv 104 (ci := 0) F (As := []) (st := []) vd_X11_139 (c_X11_forget G l N_25 c0 hI_N_25 hk_c0) hk_c0 rfl rfl rfl ⟨by decide, by decide⟩ rfl rfl (Nat.le_of_ble_eq_true rfl) dX11_add_101 rfl ?_
          intro N_27 q_28
          obtain ⟨hI_N_27, hG_N_27⟩ := q_28
          have hF_N_27 : Fr f_c_X11_add M N_27 := Fr.c hF_N_25 hG_N_27 rfl
          refine kx_aload_n 105 F 0 dX11_add_104 rfl rfl rfl ?_
          refine kx_aload 107 F 6 dX11_add_105 rfl rfl ?_
          refine kx_geti 110 F fl_X11_182 hk_18 rfl rfl (j := 4) rfl dX11_add_107 (v := (N_25 r_15 4)) (by rw [Fr.e hG_N_27 hk_18 _ rfl]) rfl ?_
          have h_29 := Inv.g hI_N_25 hk_18 rfl 4 (a := 0) (b := 20) rfl rfl
          refine kx_Vi 113 (ci := 0) F (As := [vI (N_25 r_15 4)]) (st := []) vd_X11_145 (c_X11_answer G l N_27 c0 (N_25 r_15 4) hI_N_27 hk_c0 (by omega)) hk_c0 rfl rfl rfl ⟨by decide, by decide⟩ rfl rfl (Nat.le_of_ble_eq_true rfl) dX11_add_110 rfl ?_
          intro r_30 N_31 q_32
          obtain ⟨hI_N_31, hG_N_31, q_32c⟩ := q_32
          have hF_N_31 : Fr f_c_X11_add M N_31 := Fr.c hF_N_27 hG_N_31 rfl
          exact kx_iret F hQ ⟨hI_N_31, hF_N_31, (by omega)⟩ dX11_add_113
        · refine kx_aload_n 83 F 0 dX11_add_82 rfl rfl rfl ?_
          refine kx_bipush 85 F dX11_add_83 (by decide) rfl ?_
          refine kx_Vi 88 (ci := 0) F (As := [vI 7]) (st := []) vd_X11_110 (c_X11_refuse G l M c0 7 hI_M hk_c0 (by omega)) hk_c0 rfl rfl rfl ⟨by decide, by decide⟩ rfl rfl (Nat.le_of_ble_eq_true rfl) dX11_add_85 rfl ?_
          intro r_33 N_34 q_35
          obtain ⟨hI_N_34, hG_N_34, q_35c⟩ := q_35
          have hF_N_34 : Fr f_c_X11_add M N_34 := Fr.c hF_M hG_N_34 rfl
          subst q_35c
          exact kx_iret F hQ ⟨hI_N_34, hF_N_34, (by omega)⟩ dX11_add_88
      · refine kx_aload_n 62 F 0 dX11_add_61 rfl rfl rfl ?_
        refine kx_iconst 63 F dX11_add_62 rfl ?_
        refine kx_Vi 66 (ci := 0) F (As := [vI 4]) (st := []) vd_X11_110 (c_X11_refuse G l M c0 4 hI_M hk_c0 (by omega)) hk_c0 rfl rfl rfl ⟨by decide, by decide⟩ rfl rfl (Nat.le_of_ble_eq_true rfl) dX11_add_63 rfl ?_
        intro r_36 N_37 q_38
        obtain ⟨hI_N_37, hG_N_37, q_38c⟩ := q_38
        have hF_N_37 : Fr f_c_X11_add M N_37 := Fr.c hF_M hG_N_37 rfl
        subst q_38c
        exact kx_iret F hQ ⟨hI_N_37, hF_N_37, (by omega)⟩ dX11_add_66
    · refine kx_if_ne 35 F 41 dX11_add_32 (by decide) rfl (by omega) (fun h_39 => (by exfalso; omega)) (fun h_39 => ?_)
      refine kx_aload_n 36 F 0 dX11_add_35 rfl rfl rfl ?_
      refine kx_iconst 37 F dX11_add_36 rfl ?_
      refine kx_Vi 40 (ci := 0) F (As := [vI 1]) (st := []) vd_X11_110 (c_X11_refuse G l M c0 1 hI_M hk_c0 (by omega)) hk_c0 rfl rfl rfl ⟨by decide, by decide⟩ rfl rfl (Nat.le_of_ble_eq_true rfl) dX11_add_37 rfl ?_
      intro r_40 N_41 q_42
      obtain ⟨hI_N_41, hG_N_41, q_42c⟩ := q_42
      have hF_N_41 : Fr f_c_X11_add M N_41 := Fr.c hF_M hG_N_41 rfl
      subst q_42c
      exact kx_iret F hQ ⟨hI_N_41, hF_N_41, (by omega)⟩ dX11_add_40
  · refine kx_if_eq 11 F 35 dX11_add_8 (by decide) rfl (by omega) (fun h_43 => ?_) (fun h_43 => (by exfalso; omega))
    refine kx_aload_n 36 F 0 dX11_add_35 rfl rfl rfl ?_
    refine kx_iconst 37 F dX11_add_36 rfl ?_
    refine kx_Vi 40 (ci := 0) F (As := [vI 1]) (st := []) vd_X11_110 (c_X11_refuse G l M c0 1 hI_M hk_c0 (by omega)) hk_c0 rfl rfl rfl ⟨by decide, by decide⟩ rfl rfl (Nat.le_of_ble_eq_true rfl) dX11_add_37 rfl ?_
    intro r_44 N_45 q_46
    obtain ⟨hI_N_45, hG_N_45, q_46c⟩ := q_46
    have hF_N_45 : Fr f_c_X11_add M N_45 := Fr.c hF_M hG_N_45 rfl
    subst q_46c
    exact kx_iret F hQ ⟨hI_N_45, hF_N_45, (by omega)⟩ dX11_add_40
theorem dX11_start_0 : decode cX11_start 0 = .ok (.aload_n 0, 1) := by decide +kernel
theorem dX11_start_1 : decode cX11_start 1 = .ok (.iload_n 1, 1) := by decide +kernel
theorem dX11_start_2 : decode cX11_start 2 = .ok (.iload_n 2, 1) := by decide +kernel
theorem dX11_start_3 : decode cX11_start 3 = .ok (.invokevirtual 215, 3) := by decide +kernel
theorem dX11_start_6 : decode cX11_start 6 = .ok (.ifCond .ne 9, 3) := by decide +kernel
theorem dX11_start_9 : decode cX11_start 9 = .ok (.aload_n 0, 1) := by decide +kernel
theorem dX11_start_10 : decode cX11_start 10 = .ok (.iconst 1, 1) := by decide +kernel
theorem dX11_start_11 : decode cX11_start 11 = .ok (.invokevirtual 110, 3) := by decide +kernel
theorem dX11_start_14 : decode cX11_start 14 = .ok (.ireturn, 1) := by decide +kernel
theorem dX11_start_15 : decode cX11_start 15 = .ok (.aload_n 0, 1) := by decide +kernel
theorem dX11_start_16 : decode cX11_start 16 = .ok (.getfield 26, 3) := by decide +kernel
theorem dX11_start_19 : decode cX11_start 19 = .ok (.iload_n 1, 1) := by decide +kernel
theorem dX11_start_20 : decode cX11_start 20 = .ok (.invokevirtual 164, 3) := by decide +kernel
theorem dX11_start_23 : decode cX11_start 23 = .ok (.astore 4, 2) := by decide +kernel
theorem dX11_start_25 : decode cX11_start 25 = .ok (.iload_n 3, 1) := by decide +kernel
theorem dX11_start_26 : decode cX11_start 26 = .ok (.ifCond .eq 15, 3) := by decide +kernel
theorem dX11_start_29 : decode cX11_start 29 = .ok (.aload 4, 2) := by decide +kernel
theorem dX11_start_31 : decode cX11_start 31 = .ok (.getfield 176, 3) := by decide +kernel
theorem dX11_start_34 : decode cX11_start 34 = .ok (.iconst 1, 1) := by decide +kernel
theorem dX11_start_35 : decode cX11_start 35 = .ok (.iload_n 2, 1) := by decide +kernel
theorem dX11_start_36 : decode cX11_start 36 = .ok (.ishl, 1) := by decide +kernel
theorem dX11_start_37 : decode cX11_start 37 = .ok (.ior, 1) := by decide +kernel
theorem dX11_start_38 : decode cX11_start 38 = .ok (.goto 14, 3) := by decide +kernel
theorem dX11_start_41 : decode cX11_start 41 = .ok (.aload 4, 2) := by decide +kernel
theorem dX11_start_43 : decode cX11_start 43 = .ok (.getfield 176, 3) := by decide +kernel
theorem dX11_start_46 : decode cX11_start 46 = .ok (.iconst 1, 1) := by decide +kernel
theorem dX11_start_47 : decode cX11_start 47 = .ok (.iload_n 2, 1) := by decide +kernel
theorem dX11_start_48 : decode cX11_start 48 = .ok (.ishl, 1) := by decide +kernel
theorem dX11_start_49 : decode cX11_start 49 = .ok (.iconst (-1), 1) := by decide +kernel
theorem dX11_start_50 : decode cX11_start 50 = .ok (.ixor, 1) := by decide +kernel
theorem dX11_start_51 : decode cX11_start 51 = .ok (.iand, 1) := by decide +kernel
theorem dX11_start_52 : decode cX11_start 52 = .ok (.istore 5, 2) := by decide +kernel
theorem dX11_start_54 : decode cX11_start 54 = .ok (.iload 5, 2) := by decide +kernel
theorem dX11_start_56 : decode cX11_start 56 = .ok (.aload 4, 2) := by decide +kernel
theorem dX11_start_58 : decode cX11_start 58 = .ok (.getfield 176, 3) := by decide +kernel
theorem dX11_start_61 : decode cX11_start 61 = .ok (.if_icmp .ne 10, 3) := by decide +kernel
theorem dX11_start_64 : decode cX11_start 64 = .ok (.aload_n 0, 1) := by decide +kernel
theorem dX11_start_65 : decode cX11_start 65 = .ok (.bipush 7, 2) := by decide +kernel
theorem dX11_start_67 : decode cX11_start 67 = .ok (.invokevirtual 110, 3) := by decide +kernel
theorem dX11_start_70 : decode cX11_start 70 = .ok (.ireturn, 1) := by decide +kernel
theorem dX11_start_71 : decode cX11_start 71 = .ok (.aload 4, 2) := by decide +kernel
theorem dX11_start_73 : decode cX11_start 73 = .ok (.iload 5, 2) := by decide +kernel
theorem dX11_start_75 : decode cX11_start 75 = .ok (.putfield 176, 3) := by decide +kernel
theorem dX11_start_78 : decode cX11_start 78 = .ok (.aload_n 0, 1) := by decide +kernel
theorem dX11_start_79 : decode cX11_start 79 = .ok (.invokevirtual 139, 3) := by decide +kernel
theorem dX11_start_82 : decode cX11_start 82 = .ok (.aload_n 0, 1) := by decide +kernel
theorem dX11_start_83 : decode cX11_start 83 = .ok (.iload 5, 2) := by decide +kernel
theorem dX11_start_85 : decode cX11_start 85 = .ok (.invokevirtual 145, 3) := by decide +kernel
theorem dX11_start_88 : decode cX11_start 88 = .ok (.ireturn, 1) := by decide +kernel
abbrev f_c_X11_start : List (Nat × Int) := [(1, 2), (21, 0), (41, 2), (62, 0)]
set_option maxHeartbeats 4000000 in
set_option maxRecDepth 100000 in
theorem c_X11_start (G : KG) (l : Launch) (M : Mem) (c0 : Int) (a1 : Int) (a2 : Int) (a3 : Int) (hI_M : Inv false M) (hk_c0 : kd c0 = 62) (hpre : -2147483648 ≤ a1 ∧ a1 ≤ 2147483647 ∧ -2147483648 ≤ a2 ∧ a2 ≤ 2147483647 ∧ 0 ≤ a3 ∧ a3 ≤ 1) : KC false G l yX11_start cX11_start 6 (some .int) (2, 43) [vR G c0, vI a1, vI a2, vI a3] M (fun A => kQi false G A (fun (r : Int) (N : Mem) => Inv false N ∧ Fr f_c_X11_start M N ∧ (r ≥ -1 ∧ r ≤ 7))) := by
  refine kx_met (lo := [some (vR G c0), some (vI a1), some (vI a2), some (vI a3), none, none]) (by decide) (Nat.le_of_ble_eq_true rfl) rfl ?_
  intro X F hQ
  have hF_M : Fr f_c_X11_start M M := Fr.rf _ _
  refine kx_aload_n 1 F 0 dX11_start_0 rfl rfl rfl ?_
  refine kx_iload_n 2 F 1 dX11_start_1 rfl rfl rfl ?_
  refine kx_iload_n 3 F 2 dX11_start_2 rfl rfl rfl ?_
  refine kx_Vi 6 (ci := 0) F (As := [vI a1, vI a2]) (st := []) vd_X11_215 (c_X11_hasState G l M c0 a1 a2 hI_M hk_c0 (by omega)) hk_c0 rfl rfl rfl ⟨by decide, by decide⟩ rfl rfl (Nat.le_of_ble_eq_true rfl) dX11_start_3 rfl ?_
  intro r_1 N_2 q_3
  obtain ⟨rfl, q_3c⟩ := q_3
  rcases q_3c with q_3c | q_3c
  · refine kx_if_ne 9 F 15 dX11_start_6 (by decide) rfl (by omega) (fun h_4 => ?_) (fun h_4 => (by exfalso; omega))
    refine kx_aload_n 16 F 0 dX11_start_15 rfl rfl rfl ?_
    refine kx_getr 19 F fl_X11_26 hk_c0 rfl rfl (j := 5) rfl dX11_start_16 (v := (M c0 5)) rfl rfl ?_
    have hk_5 : kd (M c0 5) = 12 := Inv.r hI_M hk_c0 rfl 5 rfl rfl
    refine kx_iload_n 20 F 1 dX11_start_19 rfl rfl rfl ?_
    refine kx_Vr 23 (ci := 0) F (As := [vI a1]) (st := []) vd_X11_164 (c_X5_pick G l M (M c0 5) a1 hI_M hk_5 (by omega)) hk_5 rfl rfl rfl ⟨by decide, by decide⟩ rfl rfl (Nat.le_of_ble_eq_true rfl) dX11_start_20 rfl ?_
    intro r_6 N_7 q_8
    obtain ⟨rfl, hk_9⟩ := q_8
    refine kx_astore 25 F 4 (lo' := [some (vR G c0), some (vI a1), some (vI a2), some (vI a3), some (vR G r_6), none]) dX11_start_23 (by decide) rfl rfl rfl ?_
    refine kx_iload_n 26 F 3 dX11_start_25 rfl rfl rfl ?_
    have J_27 : ∀ (y0_26 : Int), 0 ≤ y0_26 ∧ y0_26 ≤ 7 → KJ false G X M 52 [some (vR G c0), none, none, none, some (vR G r_6), none] [vI y0_26] := by
      intro y0_26 h_28
      refine kx_istore 54 F 5 (lo' := [some (vR G c0), none, none, none, some (vR G r_6), some (vI y0_26)]) dX11_start_52 (by decide) rfl rfl rfl ?_
      refine kx_iload 56 F 5 dX11_start_54 rfl rfl ?_
      refine kx_aload 58 F 4 dX11_start_56 rfl rfl ?_
      refine kx_geti 61 F fl_X11_176 hk_9 rfl rfl (j := 2) rfl dX11_start_58 (v := (M r_6 2)) rfl rfl ?_
      have h_29 := Inv.g hI_M hk_9 rfl 2 (a := 0) (b := 7) rfl rfl
      refine kx_icmp_ne 64 F 71 dX11_start_61 (by decide) rfl (by omega) (by omega) (fun h_30 => ?_) (fun h_30 => ?_)
      · refine kx_aload 73 F 4 dX11_start_71 rfl rfl ?_
        refine kx_iload 75 F 5 dX11_start_73 rfl rfl ?_
        refine kx_puti 78 F fw_X11_176 rfl hk_9 rfl rfl (j := 2) rfl dX11_start_75 rfl ?_
        intro N_31 hM_N_31
        have hI_N_31 : Inv false N_31 := Inv.u hI_M hM_N_31 hk_9 (a := 0) (b := 7) rfl rfl rfl (by omega)
        have hF_N_31 : Fr f_c_X11_start M N_31 := Fr.u hF_M hM_N_31 hk_9 rfl
        refine kx_aload_n 79 F 0 dX11_start_78 rfl rfl rfl ?_
        refine kx_Vv 82 (ci := 0) F (As := []) (st := []) vd_X11_139 (c_X11_forget G l N_31 c0 hI_N_31 hk_c0) hk_c0 rfl rfl rfl ⟨by decide, by decide⟩ rfl rfl (Nat.le_of_ble_eq_true rfl) dX11_start_79 rfl ?_
        intro N_32 q_33
        obtain ⟨hI_N_32, hG_N_32⟩ := q_33
        have hF_N_32 : Fr f_c_X11_start M N_32 := Fr.c hF_N_31 hG_N_32 rfl
        refine kx_aload_n 83 F 0 dX11_start_82 rfl rfl rfl ?_
        refine kx_iload 85 F 5 dX11_start_83 rfl rfl ?_
        refine kx_Vi 88 (ci := 0) F (As := [vI y0_26]) (st := []) vd_X11_145 (c_X11_answer G l N_32 c0 y0_26 hI_N_32 hk_c0 (by omega)) hk_c0 rfl rfl rfl ⟨by decide, by decide⟩ rfl rfl (Nat.le_of_ble_eq_true rfl) dX11_start_85 rfl ?_
        intro r_34 N_35 q_36
        obtain ⟨hI_N_35, hG_N_35, q_36c⟩ := q_36
        have hF_N_35 : Fr f_c_X11_start M N_35 := Fr.c hF_N_32 hG_N_35 rfl
        exact kx_iret F hQ ⟨hI_N_35, hF_N_35, (by omega)⟩ dX11_start_88
      · refine kx_aload_n 65 F 0 dX11_start_64 rfl rfl rfl ?_
        refine kx_bipush 67 F dX11_start_65 (by decide) rfl ?_
        refine kx_Vi 70 (ci := 0) F (As := [vI 7]) (st := []) vd_X11_110 (c_X11_refuse G l M c0 7 hI_M hk_c0 (by omega)) hk_c0 rfl rfl rfl ⟨by decide, by decide⟩ rfl rfl (Nat.le_of_ble_eq_true rfl) dX11_start_67 rfl ?_
        intro r_37 N_38 q_39
        obtain ⟨hI_N_38, hG_N_38, q_39c⟩ := q_39
        have hF_N_38 : Fr f_c_X11_start M N_38 := Fr.c hF_M hG_N_38 rfl
        subst q_39c
        exact kx_iret F hQ ⟨hI_N_38, hF_N_38, (by omega)⟩ dX11_start_70
    refine kx_if_eq 29 F 41 dX11_start_26 (by decide) rfl (by omega) (fun h_40 => ?_) (fun h_40 => ?_)
    · refine kx_aload 43 F 4 dX11_start_41 rfl rfl ?_
      refine kx_geti 46 F fl_X11_176 hk_9 rfl rfl (j := 2) rfl dX11_start_43 (v := (M r_6 2)) rfl rfl ?_
      have h_41 := Inv.g hI_M hk_9 rfl 2 (a := 0) (b := 7) rfl rfl
      refine kx_iconst 47 F dX11_start_46 rfl ?_
      refine kx_iload_n 48 F 2 dX11_start_47 rfl rfl rfl ?_
      refine kx_ishl 49 F (v := (zshl 1 a2)) dX11_start_48 rfl rfl ?_
      have h_42 := zshl_1 (b := a2) 2 (by decide) (by omega)
      refine kx_iconst 50 F dX11_start_49 rfl ?_
      refine kx_ixor 51 F (v := (zxor (zshl 1 a2) (-1))) dX11_start_50 rfl rfl ?_
      have h_43 := zxor_rng (zshl 1 a2) (-1)
      refine kx_iand 52 F (v := (zand (M r_6 2) (zxor (zshl 1 a2) (-1)))) dX11_start_51 rfl rfl ?_
      have h_44 := zand_l (a := (M r_6 2)) (b := (zxor (zshl 1 a2) (-1))) (by omega)
      refine kx_drop 1 (lo' := [some (vR G c0), none, some (vI a2), some (vI a3), some (vR G r_6), none]) rfl ?_
      refine kx_drop 2 (lo' := [some (vR G c0), none, none, some (vI a3), some (vR G r_6), none]) rfl ?_
      refine kx_drop 3 (lo' := [some (vR G c0), none, none, none, some (vR G r_6), none]) rfl ?_
      exact J_27 (zand (M r_6 2) (zxor (zshl 1 a2) (-1))) (by omega)
    · refine kx_aload 31 F 4 dX11_start_29 rfl rfl ?_
      refine kx_geti 34 F fl_X11_176 hk_9 rfl rfl (j := 2) rfl dX11_start_31 (v := (M r_6 2)) rfl rfl ?_
      have h_45 := Inv.g hI_M hk_9 rfl 2 (a := 0) (b := 7) rfl rfl
      refine kx_iconst 35 F dX11_start_34 rfl ?_
      refine kx_iload_n 36 F 2 dX11_start_35 rfl rfl rfl ?_
      refine kx_ishl 37 F (v := (zshl 1 a2)) dX11_start_36 rfl rfl ?_
      have h_46 := zshl_1 (b := a2) 2 (by decide) (by omega)
      refine kx_ior 38 F (v := (zor (M r_6 2) (zshl 1 a2))) dX11_start_37 rfl rfl ?_
      have h_47 : 0 ≤ (zor (M r_6 2) (zshl 1 a2)) ∧ (zor (M r_6 2) (zshl 1 a2)) < 8 := zor_lt (a := (M r_6 2)) (b := (zshl 1 a2)) 3 (by decide) (by omega) (by omega)
      refine kx_goto 52 F dX11_start_38 (by decide) ?_
      refine kx_drop 1 (lo' := [some (vR G c0), none, some (vI a2), some (vI a3), some (vR G r_6), none]) rfl ?_
      refine kx_drop 2 (lo' := [some (vR G c0), none, none, some (vI a3), some (vR G r_6), none]) rfl ?_
      refine kx_drop 3 (lo' := [some (vR G c0), none, none, none, some (vR G r_6), none]) rfl ?_
      exact J_27 (zor (M r_6 2) (zshl 1 a2)) (by omega)
  · refine kx_if_ne 9 F 15 dX11_start_6 (by decide) rfl (by omega) (fun h_48 => (by exfalso; omega)) (fun h_48 => ?_)
    refine kx_aload_n 10 F 0 dX11_start_9 rfl rfl rfl ?_
    refine kx_iconst 11 F dX11_start_10 rfl ?_
    refine kx_Vi 14 (ci := 0) F (As := [vI 1]) (st := []) vd_X11_110 (c_X11_refuse G l M c0 1 hI_M hk_c0 (by omega)) hk_c0 rfl rfl rfl ⟨by decide, by decide⟩ rfl rfl (Nat.le_of_ble_eq_true rfl) dX11_start_11 rfl ?_
    intro r_49 N_50 q_51
    obtain ⟨hI_N_50, hG_N_50, q_51c⟩ := q_51
    have hF_N_50 : Fr f_c_X11_start M N_50 := Fr.c hF_M hG_N_50 rfl
    subst q_51c
    exact kx_iret F hQ ⟨hI_N_50, hF_N_50, (by omega)⟩ dX11_start_14
theorem dX11_accept_0 : decode cX11_accept 0 = .ok (.aload_n 0, 1) := by decide +kernel
theorem dX11_accept_1 : decode cX11_accept 1 = .ok (.iload_n 1, 1) := by decide +kernel
theorem dX11_accept_2 : decode cX11_accept 2 = .ok (.iload_n 2, 1) := by decide +kernel
theorem dX11_accept_3 : decode cX11_accept 3 = .ok (.invokevirtual 215, 3) := by decide +kernel
theorem dX11_accept_6 : decode cX11_accept 6 = .ok (.ifCond .ne 9, 3) := by decide +kernel
theorem dX11_accept_9 : decode cX11_accept 9 = .ok (.aload_n 0, 1) := by decide +kernel
theorem dX11_accept_10 : decode cX11_accept 10 = .ok (.iconst 1, 1) := by decide +kernel
theorem dX11_accept_11 : decode cX11_accept 11 = .ok (.invokevirtual 110, 3) := by decide +kernel
theorem dX11_accept_14 : decode cX11_accept 14 = .ok (.ireturn, 1) := by decide +kernel
theorem dX11_accept_15 : decode cX11_accept 15 = .ok (.aload_n 0, 1) := by decide +kernel
theorem dX11_accept_16 : decode cX11_accept 16 = .ok (.getfield 26, 3) := by decide +kernel
theorem dX11_accept_19 : decode cX11_accept 19 = .ok (.iload_n 1, 1) := by decide +kernel
theorem dX11_accept_20 : decode cX11_accept 20 = .ok (.invokevirtual 164, 3) := by decide +kernel
theorem dX11_accept_23 : decode cX11_accept 23 = .ok (.astore 4, 2) := by decide +kernel
theorem dX11_accept_25 : decode cX11_accept 25 = .ok (.iload_n 3, 1) := by decide +kernel
theorem dX11_accept_26 : decode cX11_accept 26 = .ok (.ifCond .eq 15, 3) := by decide +kernel
theorem dX11_accept_29 : decode cX11_accept 29 = .ok (.aload 4, 2) := by decide +kernel
theorem dX11_accept_31 : decode cX11_accept 31 = .ok (.getfield 179, 3) := by decide +kernel
theorem dX11_accept_34 : decode cX11_accept 34 = .ok (.iconst 1, 1) := by decide +kernel
theorem dX11_accept_35 : decode cX11_accept 35 = .ok (.iload_n 2, 1) := by decide +kernel
theorem dX11_accept_36 : decode cX11_accept 36 = .ok (.ishl, 1) := by decide +kernel
theorem dX11_accept_37 : decode cX11_accept 37 = .ok (.ior, 1) := by decide +kernel
theorem dX11_accept_38 : decode cX11_accept 38 = .ok (.goto 14, 3) := by decide +kernel
theorem dX11_accept_41 : decode cX11_accept 41 = .ok (.aload 4, 2) := by decide +kernel
theorem dX11_accept_43 : decode cX11_accept 43 = .ok (.getfield 179, 3) := by decide +kernel
theorem dX11_accept_46 : decode cX11_accept 46 = .ok (.iconst 1, 1) := by decide +kernel
theorem dX11_accept_47 : decode cX11_accept 47 = .ok (.iload_n 2, 1) := by decide +kernel
theorem dX11_accept_48 : decode cX11_accept 48 = .ok (.ishl, 1) := by decide +kernel
theorem dX11_accept_49 : decode cX11_accept 49 = .ok (.iconst (-1), 1) := by decide +kernel
theorem dX11_accept_50 : decode cX11_accept 50 = .ok (.ixor, 1) := by decide +kernel
theorem dX11_accept_51 : decode cX11_accept 51 = .ok (.iand, 1) := by decide +kernel
theorem dX11_accept_52 : decode cX11_accept 52 = .ok (.istore 5, 2) := by decide +kernel
theorem dX11_accept_54 : decode cX11_accept 54 = .ok (.iload 5, 2) := by decide +kernel
theorem dX11_accept_56 : decode cX11_accept 56 = .ok (.aload 4, 2) := by decide +kernel
theorem dX11_accept_58 : decode cX11_accept 58 = .ok (.getfield 179, 3) := by decide +kernel
theorem dX11_accept_61 : decode cX11_accept 61 = .ok (.if_icmp .ne 10, 3) := by decide +kernel
theorem dX11_accept_64 : decode cX11_accept 64 = .ok (.aload_n 0, 1) := by decide +kernel
theorem dX11_accept_65 : decode cX11_accept 65 = .ok (.bipush 7, 2) := by decide +kernel
theorem dX11_accept_67 : decode cX11_accept 67 = .ok (.invokevirtual 110, 3) := by decide +kernel
theorem dX11_accept_70 : decode cX11_accept 70 = .ok (.ireturn, 1) := by decide +kernel
theorem dX11_accept_71 : decode cX11_accept 71 = .ok (.aload 4, 2) := by decide +kernel
theorem dX11_accept_73 : decode cX11_accept 73 = .ok (.iload 5, 2) := by decide +kernel
theorem dX11_accept_75 : decode cX11_accept 75 = .ok (.putfield 179, 3) := by decide +kernel
theorem dX11_accept_78 : decode cX11_accept 78 = .ok (.aload_n 0, 1) := by decide +kernel
theorem dX11_accept_79 : decode cX11_accept 79 = .ok (.invokevirtual 139, 3) := by decide +kernel
theorem dX11_accept_82 : decode cX11_accept 82 = .ok (.aload_n 0, 1) := by decide +kernel
theorem dX11_accept_83 : decode cX11_accept 83 = .ok (.iload 5, 2) := by decide +kernel
theorem dX11_accept_85 : decode cX11_accept 85 = .ok (.invokevirtual 145, 3) := by decide +kernel
theorem dX11_accept_88 : decode cX11_accept 88 = .ok (.ireturn, 1) := by decide +kernel
abbrev f_c_X11_accept : List (Nat × Int) := [(1, 3), (21, 0), (41, 2), (62, 0)]
set_option maxHeartbeats 4000000 in
set_option maxRecDepth 100000 in
theorem c_X11_accept (G : KG) (l : Launch) (M : Mem) (c0 : Int) (a1 : Int) (a2 : Int) (a3 : Int) (hI_M : Inv false M) (hk_c0 : kd c0 = 62) (hpre : -2147483648 ≤ a1 ∧ a1 ≤ 2147483647 ∧ -2147483648 ≤ a2 ∧ a2 ≤ 2147483647 ∧ 0 ≤ a3 ∧ a3 ≤ 1) : KC false G l yX11_accept cX11_accept 6 (some .int) (2, 43) [vR G c0, vI a1, vI a2, vI a3] M (fun A => kQi false G A (fun (r : Int) (N : Mem) => Inv false N ∧ Fr f_c_X11_accept M N ∧ (r ≥ -1 ∧ r ≤ 7))) := by
  refine kx_met (lo := [some (vR G c0), some (vI a1), some (vI a2), some (vI a3), none, none]) (by decide) (Nat.le_of_ble_eq_true rfl) rfl ?_
  intro X F hQ
  have hF_M : Fr f_c_X11_accept M M := Fr.rf _ _
  refine kx_aload_n 1 F 0 dX11_accept_0 rfl rfl rfl ?_
  refine kx_iload_n 2 F 1 dX11_accept_1 rfl rfl rfl ?_
  refine kx_iload_n 3 F 2 dX11_accept_2 rfl rfl rfl ?_
  refine kx_Vi 6 (ci := 0) F (As := [vI a1, vI a2]) (st := []) vd_X11_215 (c_X11_hasState G l M c0 a1 a2 hI_M hk_c0 (by omega)) hk_c0 rfl rfl rfl ⟨by decide, by decide⟩ rfl rfl (Nat.le_of_ble_eq_true rfl) dX11_accept_3 rfl ?_
  intro r_1 N_2 q_3
  obtain ⟨rfl, q_3c⟩ := q_3
  rcases q_3c with q_3c | q_3c
  · refine kx_if_ne 9 F 15 dX11_accept_6 (by decide) rfl (by omega) (fun h_4 => ?_) (fun h_4 => (by exfalso; omega))
    refine kx_aload_n 16 F 0 dX11_accept_15 rfl rfl rfl ?_
    refine kx_getr 19 F fl_X11_26 hk_c0 rfl rfl (j := 5) rfl dX11_accept_16 (v := (M c0 5)) rfl rfl ?_
    have hk_5 : kd (M c0 5) = 12 := Inv.r hI_M hk_c0 rfl 5 rfl rfl
    refine kx_iload_n 20 F 1 dX11_accept_19 rfl rfl rfl ?_
    refine kx_Vr 23 (ci := 0) F (As := [vI a1]) (st := []) vd_X11_164 (c_X5_pick G l M (M c0 5) a1 hI_M hk_5 (by omega)) hk_5 rfl rfl rfl ⟨by decide, by decide⟩ rfl rfl (Nat.le_of_ble_eq_true rfl) dX11_accept_20 rfl ?_
    intro r_6 N_7 q_8
    obtain ⟨rfl, hk_9⟩ := q_8
    refine kx_astore 25 F 4 (lo' := [some (vR G c0), some (vI a1), some (vI a2), some (vI a3), some (vR G r_6), none]) dX11_accept_23 (by decide) rfl rfl rfl ?_
    refine kx_iload_n 26 F 3 dX11_accept_25 rfl rfl rfl ?_
    have J_27 : ∀ (y0_26 : Int), 0 ≤ y0_26 ∧ y0_26 ≤ 7 → KJ false G X M 52 [some (vR G c0), none, none, none, some (vR G r_6), none] [vI y0_26] := by
      intro y0_26 h_28
      refine kx_istore 54 F 5 (lo' := [some (vR G c0), none, none, none, some (vR G r_6), some (vI y0_26)]) dX11_accept_52 (by decide) rfl rfl rfl ?_
      refine kx_iload 56 F 5 dX11_accept_54 rfl rfl ?_
      refine kx_aload 58 F 4 dX11_accept_56 rfl rfl ?_
      refine kx_geti 61 F fl_X11_179 hk_9 rfl rfl (j := 3) rfl dX11_accept_58 (v := (M r_6 3)) rfl rfl ?_
      have h_29 := Inv.g hI_M hk_9 rfl 3 (a := 0) (b := 7) rfl rfl
      refine kx_icmp_ne 64 F 71 dX11_accept_61 (by decide) rfl (by omega) (by omega) (fun h_30 => ?_) (fun h_30 => ?_)
      · refine kx_aload 73 F 4 dX11_accept_71 rfl rfl ?_
        refine kx_iload 75 F 5 dX11_accept_73 rfl rfl ?_
        refine kx_puti 78 F fw_X11_179 rfl hk_9 rfl rfl (j := 3) rfl dX11_accept_75 rfl ?_
        intro N_31 hM_N_31
        have hI_N_31 : Inv false N_31 := Inv.u hI_M hM_N_31 hk_9 (a := 0) (b := 7) rfl rfl rfl (by omega)
        have hF_N_31 : Fr f_c_X11_accept M N_31 := Fr.u hF_M hM_N_31 hk_9 rfl
        refine kx_aload_n 79 F 0 dX11_accept_78 rfl rfl rfl ?_
        refine kx_Vv 82 (ci := 0) F (As := []) (st := []) vd_X11_139 (c_X11_forget G l N_31 c0 hI_N_31 hk_c0) hk_c0 rfl rfl rfl ⟨by decide, by decide⟩ rfl rfl (Nat.le_of_ble_eq_true rfl) dX11_accept_79 rfl ?_
        intro N_32 q_33
        obtain ⟨hI_N_32, hG_N_32⟩ := q_33
        have hF_N_32 : Fr f_c_X11_accept M N_32 := Fr.c hF_N_31 hG_N_32 rfl
        refine kx_aload_n 83 F 0 dX11_accept_82 rfl rfl rfl ?_
        refine kx_iload 85 F 5 dX11_accept_83 rfl rfl ?_
        refine kx_Vi 88 (ci := 0) F (As := [vI y0_26]) (st := []) vd_X11_145 (c_X11_answer G l N_32 c0 y0_26 hI_N_32 hk_c0 (by omega)) hk_c0 rfl rfl rfl ⟨by decide, by decide⟩ rfl rfl (Nat.le_of_ble_eq_true rfl) dX11_accept_85 rfl ?_
        intro r_34 N_35 q_36
        obtain ⟨hI_N_35, hG_N_35, q_36c⟩ := q_36
        have hF_N_35 : Fr f_c_X11_accept M N_35 := Fr.c hF_N_32 hG_N_35 rfl
        exact kx_iret F hQ ⟨hI_N_35, hF_N_35, (by omega)⟩ dX11_accept_88
      · refine kx_aload_n 65 F 0 dX11_accept_64 rfl rfl rfl ?_
        refine kx_bipush 67 F dX11_accept_65 (by decide) rfl ?_
        refine kx_Vi 70 (ci := 0) F (As := [vI 7]) (st := []) vd_X11_110 (c_X11_refuse G l M c0 7 hI_M hk_c0 (by omega)) hk_c0 rfl rfl rfl ⟨by decide, by decide⟩ rfl rfl (Nat.le_of_ble_eq_true rfl) dX11_accept_67 rfl ?_
        intro r_37 N_38 q_39
        obtain ⟨hI_N_38, hG_N_38, q_39c⟩ := q_39
        have hF_N_38 : Fr f_c_X11_accept M N_38 := Fr.c hF_M hG_N_38 rfl
        subst q_39c
        exact kx_iret F hQ ⟨hI_N_38, hF_N_38, (by omega)⟩ dX11_accept_70
    refine kx_if_eq 29 F 41 dX11_accept_26 (by decide) rfl (by omega) (fun h_40 => ?_) (fun h_40 => ?_)
    · refine kx_aload 43 F 4 dX11_accept_41 rfl rfl ?_
      refine kx_geti 46 F fl_X11_179 hk_9 rfl rfl (j := 3) rfl dX11_accept_43 (v := (M r_6 3)) rfl rfl ?_
      have h_41 := Inv.g hI_M hk_9 rfl 3 (a := 0) (b := 7) rfl rfl
      refine kx_iconst 47 F dX11_accept_46 rfl ?_
      refine kx_iload_n 48 F 2 dX11_accept_47 rfl rfl rfl ?_
      refine kx_ishl 49 F (v := (zshl 1 a2)) dX11_accept_48 rfl rfl ?_
      have h_42 := zshl_1 (b := a2) 2 (by decide) (by omega)
      refine kx_iconst 50 F dX11_accept_49 rfl ?_
      refine kx_ixor 51 F (v := (zxor (zshl 1 a2) (-1))) dX11_accept_50 rfl rfl ?_
      have h_43 := zxor_rng (zshl 1 a2) (-1)
      refine kx_iand 52 F (v := (zand (M r_6 3) (zxor (zshl 1 a2) (-1)))) dX11_accept_51 rfl rfl ?_
      have h_44 := zand_l (a := (M r_6 3)) (b := (zxor (zshl 1 a2) (-1))) (by omega)
      refine kx_drop 1 (lo' := [some (vR G c0), none, some (vI a2), some (vI a3), some (vR G r_6), none]) rfl ?_
      refine kx_drop 2 (lo' := [some (vR G c0), none, none, some (vI a3), some (vR G r_6), none]) rfl ?_
      refine kx_drop 3 (lo' := [some (vR G c0), none, none, none, some (vR G r_6), none]) rfl ?_
      exact J_27 (zand (M r_6 3) (zxor (zshl 1 a2) (-1))) (by omega)
    · refine kx_aload 31 F 4 dX11_accept_29 rfl rfl ?_
      refine kx_geti 34 F fl_X11_179 hk_9 rfl rfl (j := 3) rfl dX11_accept_31 (v := (M r_6 3)) rfl rfl ?_
      have h_45 := Inv.g hI_M hk_9 rfl 3 (a := 0) (b := 7) rfl rfl
      refine kx_iconst 35 F dX11_accept_34 rfl ?_
      refine kx_iload_n 36 F 2 dX11_accept_35 rfl rfl rfl ?_
      refine kx_ishl 37 F (v := (zshl 1 a2)) dX11_accept_36 rfl rfl ?_
      have h_46 := zshl_1 (b := a2) 2 (by decide) (by omega)
      refine kx_ior 38 F (v := (zor (M r_6 3) (zshl 1 a2))) dX11_accept_37 rfl rfl ?_
      have h_47 : 0 ≤ (zor (M r_6 3) (zshl 1 a2)) ∧ (zor (M r_6 3) (zshl 1 a2)) < 8 := zor_lt (a := (M r_6 3)) (b := (zshl 1 a2)) 3 (by decide) (by omega) (by omega)
      refine kx_goto 52 F dX11_accept_38 (by decide) ?_
      refine kx_drop 1 (lo' := [some (vR G c0), none, some (vI a2), some (vI a3), some (vR G r_6), none]) rfl ?_
      refine kx_drop 2 (lo' := [some (vR G c0), none, none, some (vI a3), some (vR G r_6), none]) rfl ?_
      refine kx_drop 3 (lo' := [some (vR G c0), none, none, none, some (vR G r_6), none]) rfl ?_
      exact J_27 (zor (M r_6 3) (zshl 1 a2)) (by omega)
  · refine kx_if_ne 9 F 15 dX11_accept_6 (by decide) rfl (by omega) (fun h_48 => (by exfalso; omega)) (fun h_48 => ?_)
    refine kx_aload_n 10 F 0 dX11_accept_9 rfl rfl rfl ?_
    refine kx_iconst 11 F dX11_accept_10 rfl ?_
    refine kx_Vi 14 (ci := 0) F (As := [vI 1]) (st := []) vd_X11_110 (c_X11_refuse G l M c0 1 hI_M hk_c0 (by omega)) hk_c0 rfl rfl rfl ⟨by decide, by decide⟩ rfl rfl (Nat.le_of_ble_eq_true rfl) dX11_accept_11 rfl ?_
    intro r_49 N_50 q_51
    obtain ⟨hI_N_50, hG_N_50, q_51c⟩ := q_51
    have hF_N_50 : Fr f_c_X11_accept M N_50 := Fr.c hF_M hG_N_50 rfl
    subst q_51c
    exact kx_iret F hQ ⟨hI_N_50, hF_N_50, (by omega)⟩ dX11_accept_14
theorem dX11_copy_0 : decode cX11_copy 0 = .ok (.aload_n 0, 1) := by decide +kernel
theorem dX11_copy_1 : decode cX11_copy 1 = .ok (.iload_n 1, 1) := by decide +kernel
theorem dX11_copy_2 : decode cX11_copy 2 = .ok (.iload_n 2, 1) := by decide +kernel
theorem dX11_copy_3 : decode cX11_copy 3 = .ok (.invokevirtual 219, 3) := by decide +kernel
theorem dX11_copy_6 : decode cX11_copy 6 = .ok (.ifCond .ne 9, 3) := by decide +kernel
theorem dX11_copy_9 : decode cX11_copy 9 = .ok (.aload_n 0, 1) := by decide +kernel
theorem dX11_copy_10 : decode cX11_copy 10 = .ok (.iconst 1, 1) := by decide +kernel
theorem dX11_copy_11 : decode cX11_copy 11 = .ok (.invokevirtual 91, 3) := by decide +kernel
theorem dX11_copy_14 : decode cX11_copy 14 = .ok (.ireturn, 1) := by decide +kernel
theorem dX11_copy_15 : decode cX11_copy 15 = .ok (.aload_n 0, 1) := by decide +kernel
theorem dX11_copy_16 : decode cX11_copy 16 = .ok (.getfield 26, 3) := by decide +kernel
theorem dX11_copy_19 : decode cX11_copy 19 = .ok (.iload_n 2, 1) := by decide +kernel
theorem dX11_copy_20 : decode cX11_copy 20 = .ok (.invokevirtual 164, 3) := by decide +kernel
theorem dX11_copy_23 : decode cX11_copy 23 = .ok (.aload_n 0, 1) := by decide +kernel
theorem dX11_copy_24 : decode cX11_copy 24 = .ok (.getfield 26, 3) := by decide +kernel
theorem dX11_copy_27 : decode cX11_copy 27 = .ok (.iload_n 1, 1) := by decide +kernel
theorem dX11_copy_28 : decode cX11_copy 28 = .ok (.invokevirtual 164, 3) := by decide +kernel
theorem dX11_copy_31 : decode cX11_copy 31 = .ok (.invokevirtual 222, 3) := by decide +kernel
theorem dX11_copy_34 : decode cX11_copy 34 = .ok (.aload_n 0, 1) := by decide +kernel
theorem dX11_copy_35 : decode cX11_copy 35 = .ok (.invokevirtual 139, 3) := by decide +kernel
theorem dX11_copy_38 : decode cX11_copy 38 = .ok (.aload_n 0, 1) := by decide +kernel
theorem dX11_copy_39 : decode cX11_copy 39 = .ok (.invokevirtual 98, 3) := by decide +kernel
theorem dX11_copy_42 : decode cX11_copy 42 = .ok (.ireturn, 1) := by decide +kernel
abbrev f_c_X11_copy : List (Nat × Int) := [(1, 0), (1, 1), (1, 2), (1, 3), (1, 4), (1, 5), (2, -1), (3, -1), (4, -1), (5, -1), (6, -1), (7, -1), (21, 0), (41, 2), (62, 0)]
set_option maxHeartbeats 4000000 in
set_option maxRecDepth 100000 in
theorem c_X11_copy (G : KG) (l : Launch) (M : Mem) (c0 : Int) (a1 : Int) (a2 : Int) (hI_M : Inv false M) (hk_c0 : kd c0 = 62) (hpre : -2147483648 ≤ a1 ∧ a1 ≤ 2147483647 ∧ -2147483648 ≤ a2 ∧ a2 ≤ 2147483647) : KC false G l yX11_copy cX11_copy 3 (some .boolean) (2, 43) [vR G c0, vI a1, vI a2] M (fun A => kQi false G A (fun (r : Int) (N : Mem) => Inv false N ∧ Fr f_c_X11_copy M N ∧ (0 ≤ r ∧ r ≤ 1))) := by
  refine kx_met (lo := [some (vR G c0), some (vI a1), some (vI a2)]) (by decide) (Nat.le_of_ble_eq_true rfl) rfl ?_
  intro X F hQ
  have hF_M : Fr f_c_X11_copy M M := Fr.rf _ _
  refine kx_aload_n 1 F 0 dX11_copy_0 rfl rfl rfl ?_
  refine kx_iload_n 2 F 1 dX11_copy_1 rfl rfl rfl ?_
  refine kx_iload_n 3 F 2 dX11_copy_2 rfl rfl rfl ?_
  refine kx_Vi 6 (ci := 0) F (As := [vI a1, vI a2]) (st := []) vd_X11_219 (c_X11_areTwo G l M c0 a1 a2 hI_M hk_c0 (by omega)) hk_c0 rfl rfl rfl ⟨by decide, by decide⟩ rfl rfl (Nat.le_of_ble_eq_true rfl) dX11_copy_3 rfl ?_
  intro r_1 N_2 q_3
  obtain ⟨rfl, q_3c⟩ := q_3
  rcases q_3c with q_3c | q_3c
  · refine kx_if_ne 9 F 15 dX11_copy_6 (by decide) rfl (by omega) (fun h_4 => ?_) (fun h_4 => (by exfalso; omega))
    refine kx_aload_n 16 F 0 dX11_copy_15 rfl rfl rfl ?_
    refine kx_getr 19 F fl_X11_26 hk_c0 rfl rfl (j := 5) rfl dX11_copy_16 (v := (M c0 5)) rfl rfl ?_
    have hk_5 : kd (M c0 5) = 12 := Inv.r hI_M hk_c0 rfl 5 rfl rfl
    refine kx_iload_n 20 F 2 dX11_copy_19 rfl rfl rfl ?_
    refine kx_Vr 23 (ci := 0) F (As := [vI a2]) (st := []) vd_X11_164 (c_X5_pick G l M (M c0 5) a2 hI_M hk_5 (by omega)) hk_5 rfl rfl rfl ⟨by decide, by decide⟩ rfl rfl (Nat.le_of_ble_eq_true rfl) dX11_copy_20 rfl ?_
    intro r_6 N_7 q_8
    obtain ⟨rfl, hk_9⟩ := q_8
    refine kx_aload_n 24 F 0 dX11_copy_23 rfl rfl rfl ?_
    refine kx_getr 27 F fl_X11_26 hk_c0 rfl rfl (j := 5) rfl dX11_copy_24 (v := (M c0 5)) rfl rfl ?_
    refine kx_iload_n 28 F 1 dX11_copy_27 rfl rfl rfl ?_
    refine kx_Vr 31 (ci := 0) F (As := [vI a1]) (st := [vR G r_6]) vd_X11_164 (c_X5_pick G l M (M c0 5) a1 hI_M hk_5 (by omega)) hk_5 rfl rfl rfl ⟨by decide, by decide⟩ rfl rfl (Nat.le_of_ble_eq_true rfl) dX11_copy_28 rfl ?_
    intro r_10 N_11 q_12
    obtain ⟨rfl, hk_13⟩ := q_12
    refine kx_Vv 34 (ci := 0) F (As := [vR G r_10]) (st := []) vd_X11_222 (c_X0_become G l M r_6 r_10 hI_M hk_9 hk_13) hk_9 rfl rfl rfl ⟨by decide, by decide⟩ rfl rfl (Nat.le_of_ble_eq_true rfl) dX11_copy_31 rfl ?_
    intro N_14 q_15
    obtain ⟨hI_N_14, hG_N_14⟩ := q_15
    have hF_N_14 : Fr f_c_X11_copy M N_14 := Fr.c hF_M hG_N_14 rfl
    refine kx_aload_n 35 F 0 dX11_copy_34 rfl rfl rfl ?_
    refine kx_Vv 38 (ci := 0) F (As := []) (st := []) vd_X11_139 (c_X11_forget G l N_14 c0 hI_N_14 hk_c0) hk_c0 rfl rfl rfl ⟨by decide, by decide⟩ rfl rfl (Nat.le_of_ble_eq_true rfl) dX11_copy_35 rfl ?_
    intro N_16 q_17
    obtain ⟨hI_N_16, hG_N_16⟩ := q_17
    have hF_N_16 : Fr f_c_X11_copy M N_16 := Fr.c hF_N_14 hG_N_16 rfl
    refine kx_aload_n 39 F 0 dX11_copy_38 rfl rfl rfl ?_
    refine kx_Vi 42 (ci := 0) F (As := []) (st := []) vd_X11_98 (c_X11_agree G l N_16 c0 hI_N_16 hk_c0) hk_c0 rfl rfl rfl ⟨by decide, by decide⟩ rfl rfl (Nat.le_of_ble_eq_true rfl) dX11_copy_39 rfl ?_
    intro r_18 N_19 q_20
    obtain ⟨hI_N_19, hG_N_19, q_20c⟩ := q_20
    have hF_N_19 : Fr f_c_X11_copy M N_19 := Fr.c hF_N_16 hG_N_19 rfl
    subst q_20c
    exact kx_zret F hQ (by omega) ⟨hI_N_19, hF_N_19, (by omega)⟩ dX11_copy_42
  · refine kx_if_ne 9 F 15 dX11_copy_6 (by decide) rfl (by omega) (fun h_21 => (by exfalso; omega)) (fun h_21 => ?_)
    refine kx_aload_n 10 F 0 dX11_copy_9 rfl rfl rfl ?_
    refine kx_iconst 11 F dX11_copy_10 rfl ?_
    refine kx_Vi 14 (ci := 0) F (As := [vI 1]) (st := []) vd_X11_91 (c_X11_deny G l M c0 1 hI_M hk_c0 (by omega)) hk_c0 rfl rfl rfl ⟨by decide, by decide⟩ rfl rfl (Nat.le_of_ble_eq_true rfl) dX11_copy_11 rfl ?_
    intro r_22 N_23 q_24
    obtain ⟨hI_N_23, hG_N_23, q_24c⟩ := q_24
    have hF_N_23 : Fr f_c_X11_copy M N_23 := Fr.c hF_M hG_N_23 rfl
    subst q_24c
    exact kx_zret F hQ (by omega) ⟨hI_N_23, hF_N_23, (by omega)⟩ dX11_copy_14
theorem dX11_takes_0 : decode cX11_takes 0 = .ok (.aload_n 0, 1) := by decide +kernel
theorem dX11_takes_1 : decode cX11_takes 1 = .ok (.aload_n 0, 1) := by decide +kernel
theorem dX11_takes_2 : decode cX11_takes 2 = .ok (.getfield 26, 3) := by decide +kernel
theorem dX11_takes_5 : decode cX11_takes 5 = .ok (.iload_n 1, 1) := by decide +kernel
theorem dX11_takes_6 : decode cX11_takes 6 = .ok (.invokevirtual 163, 3) := by decide +kernel
theorem dX11_takes_9 : decode cX11_takes 9 = .ok (.iload_n 2, 1) := by decide +kernel
theorem dX11_takes_10 : decode cX11_takes 10 = .ok (.iload_n 3, 1) := by decide +kernel
theorem dX11_takes_11 : decode cX11_takes 11 = .ok (.invokevirtual 226, 3) := by decide +kernel
theorem dX11_takes_14 : decode cX11_takes 14 = .ok (.istore 4, 2) := by decide +kernel
theorem dX11_takes_16 : decode cX11_takes 16 = .ok (.iload 4, 2) := by decide +kernel
theorem dX11_takes_18 : decode cX11_takes 18 = .ok (.ifCond .eq 10, 3) := by decide +kernel
theorem dX11_takes_21 : decode cX11_takes 21 = .ok (.aload_n 0, 1) := by decide +kernel
theorem dX11_takes_22 : decode cX11_takes 22 = .ok (.iload 4, 2) := by decide +kernel
theorem dX11_takes_24 : decode cX11_takes 24 = .ok (.invokevirtual 110, 3) := by decide +kernel
theorem dX11_takes_27 : decode cX11_takes 27 = .ok (.ireturn, 1) := by decide +kernel
theorem dX11_takes_28 : decode cX11_takes 28 = .ok (.aload_n 0, 1) := by decide +kernel
theorem dX11_takes_29 : decode cX11_takes 29 = .ok (.getfield 26, 3) := by decide +kernel
theorem dX11_takes_32 : decode cX11_takes 32 = .ok (.iload_n 1, 1) := by decide +kernel
theorem dX11_takes_33 : decode cX11_takes 33 = .ok (.invokevirtual 164, 3) := by decide +kernel
theorem dX11_takes_36 : decode cX11_takes 36 = .ok (.astore 5, 2) := by decide +kernel
theorem dX11_takes_38 : decode cX11_takes 38 = .ok (.aload_n 0, 1) := by decide +kernel
theorem dX11_takes_39 : decode cX11_takes 39 = .ok (.aload 5, 2) := by decide +kernel
theorem dX11_takes_41 : decode cX11_takes 41 = .ok (.iload_n 2, 1) := by decide +kernel
theorem dX11_takes_42 : decode cX11_takes 42 = .ok (.iload_n 3, 1) := by decide +kernel
theorem dX11_takes_43 : decode cX11_takes 43 = .ok (.invokevirtual 230, 3) := by decide +kernel
theorem dX11_takes_46 : decode cX11_takes 46 = .ok (.aload_n 0, 1) := by decide +kernel
theorem dX11_takes_47 : decode cX11_takes 47 = .ok (.aload_n 0, 1) := by decide +kernel
theorem dX11_takes_48 : decode cX11_takes 48 = .ok (.getfield 61, 3) := by decide +kernel
theorem dX11_takes_51 : decode cX11_takes 51 = .ok (.aload 5, 2) := by decide +kernel
theorem dX11_takes_53 : decode cX11_takes 53 = .ok (.invokevirtual 234, 3) := by decide +kernel
theorem dX11_takes_56 : decode cX11_takes 56 = .ok (.ifCond .eq 7, 3) := by decide +kernel
theorem dX11_takes_59 : decode cX11_takes 59 = .ok (.iconst 1, 1) := by decide +kernel
theorem dX11_takes_60 : decode cX11_takes 60 = .ok (.goto 4, 3) := by decide +kernel
theorem dX11_takes_63 : decode cX11_takes 63 = .ok (.iconst 0, 1) := by decide +kernel
theorem dX11_takes_64 : decode cX11_takes 64 = .ok (.invokevirtual 145, 3) := by decide +kernel
theorem dX11_takes_67 : decode cX11_takes 67 = .ok (.ireturn, 1) := by decide +kernel
abbrev f_c_X11_takes : List (Nat × Int) := [(8, 1), (8, 2), (8, 3), (8, 4), (9, -1), (10, -1), (11, -1), (62, 0)]
set_option maxHeartbeats 4000000 in
set_option maxRecDepth 100000 in
theorem c_X11_takes (G : KG) (l : Launch) (M : Mem) (c0 : Int) (a1 : Int) (a2 : Int) (a3 : Int) (hI_M : Inv false M) (hk_c0 : kd c0 = 62) (hpre : -2147483648 ≤ a1 ∧ a1 ≤ 2147483647 ∧ -2147483648 ≤ a2 ∧ a2 ≤ 2147483647 ∧ -2147483648 ≤ a3 ∧ a3 ≤ 2147483647) : KC false G l yX11_takes cX11_takes 6 (some .int) (4, 97) [vR G c0, vI a1, vI a2, vI a3] M (fun A => kQi false G A (fun (r : Int) (N : Mem) => Inv false N ∧ Fr f_c_X11_takes M N ∧ (r ≥ -1 ∧ r ≤ 1))) := by
  refine kx_met (lo := [some (vR G c0), some (vI a1), some (vI a2), some (vI a3), none, none]) (by decide) (Nat.le_of_ble_eq_true rfl) rfl ?_
  intro X F hQ
  have hF_M : Fr f_c_X11_takes M M := Fr.rf _ _
  refine kx_aload_n 1 F 0 dX11_takes_0 rfl rfl rfl ?_
  refine kx_aload_n 2 F 0 dX11_takes_1 rfl rfl rfl ?_
  refine kx_getr 5 F fl_X11_26 hk_c0 rfl rfl (j := 5) rfl dX11_takes_2 (v := (M c0 5)) rfl rfl ?_
  have hk_1 : kd (M c0 5) = 12 := Inv.r hI_M hk_c0 rfl 5 rfl rfl
  refine kx_iload_n 6 F 1 dX11_takes_5 rfl rfl rfl ?_
  refine kx_Vi 9 (ci := 0) F (As := [vI a1]) (st := [vR G c0]) vd_X11_163 (c_X5_has G l M (M c0 5) a1 hI_M hk_1 (by omega)) hk_1 rfl rfl rfl ⟨by decide, by decide⟩ rfl rfl (Nat.le_of_ble_eq_true rfl) dX11_takes_6 rfl ?_
  intro r_2 N_3 q_4
  obtain ⟨rfl, q_4c⟩ := q_4
  have h_5 := Inv.g hI_M hk_1 rfl 3 (a := 0) (b := 2) rfl rfl
  rcases q_4c with q_4c | q_4c
  · refine kx_iload_n 10 F 2 dX11_takes_9 rfl rfl rfl ?_
    refine kx_iload_n 11 F 3 dX11_takes_10 rfl rfl rfl ?_
    refine kx_Vi 14 (ci := 0) F (As := [vI r_2, vI a2, vI a3]) (st := []) vd_X11_226 (c_X11_wordRefusal G l M c0 r_2 a2 a3 hI_M hk_c0 (by omega)) hk_c0 rfl rfl rfl ⟨by decide, by decide⟩ rfl rfl (Nat.le_of_ble_eq_true rfl) dX11_takes_11 rfl ?_
    intro r_6 N_7 q_8
    obtain ⟨rfl, q_8c, hw_N_7⟩ := q_8
    rcases q_8c with q_8c | q_8c
    · refine kx_istore 16 F 4 (lo' := [some (vR G c0), some (vI a1), some (vI a2), some (vI a3), some (vI r_6), none]) dX11_takes_14 (by decide) rfl rfl rfl ?_
      refine kx_iload 18 F 4 dX11_takes_16 rfl rfl ?_
      refine kx_if_eq 21 F 28 dX11_takes_18 (by decide) rfl (by omega) (fun h_9 => ?_) (fun h_9 => (by exfalso; omega))
      refine kx_aload_n 29 F 0 dX11_takes_28 rfl rfl rfl ?_
      refine kx_getr 32 F fl_X11_26 hk_c0 rfl rfl (j := 5) rfl dX11_takes_29 (v := (M c0 5)) rfl rfl ?_
      refine kx_iload_n 33 F 1 dX11_takes_32 rfl rfl rfl ?_
      refine kx_Vr 36 (ci := 0) F (As := [vI a1]) (st := []) vd_X11_164 (c_X5_pick G l M (M c0 5) a1 hI_M hk_1 (by omega)) hk_1 rfl rfl rfl ⟨by decide, by decide⟩ rfl rfl (Nat.le_of_ble_eq_true rfl) dX11_takes_33 rfl ?_
      intro r_10 N_11 q_12
      obtain ⟨rfl, hk_13⟩ := q_12
      refine kx_astore 38 F 5 (lo' := [some (vR G c0), some (vI a1), some (vI a2), some (vI a3), some (vI r_6), some (vR G r_10)]) dX11_takes_36 (by decide) rfl rfl rfl ?_
      refine kx_aload_n 39 F 0 dX11_takes_38 rfl rfl rfl ?_
      refine kx_aload 41 F 5 dX11_takes_39 rfl rfl ?_
      refine kx_iload_n 42 F 2 dX11_takes_41 rfl rfl rfl ?_
      refine kx_iload_n 43 F 3 dX11_takes_42 rfl rfl rfl ?_
      refine kx_Vv 46 (ci := 0) F (As := [vR G r_10, vI a2, vI a3]) (st := []) vd_X11_230 (c_X11_walkTray G l M c0 r_10 a2 a3 hI_M hk_c0 hk_13 (by omega) (hw_N_7 (by omega))) hk_c0 rfl rfl rfl ⟨by decide, by decide⟩ rfl rfl (Nat.le_of_ble_eq_true rfl) dX11_takes_43 rfl ?_
      intro N_14 q_15
      obtain ⟨hI_N_14, hG_N_14⟩ := q_15
      have hF_N_14 : Fr f_c_X11_takes M N_14 := Fr.c hF_M hG_N_14 rfl
      refine kx_aload_n 47 F 0 dX11_takes_46 rfl rfl rfl ?_
      refine kx_aload_n 48 F 0 dX11_takes_47 rfl rfl rfl ?_
      refine kx_getr 51 F fl_X11_61 hk_c0 rfl rfl (j := 12) rfl dX11_takes_48 (v := (M c0 12)) (by rw [Fr.e hG_N_14 hk_c0 _ rfl]) rfl ?_
      have hk_16 : kd (M c0 12) = 8 := Inv.r hI_M hk_c0 rfl 12 rfl rfl
      refine kx_aload 53 F 5 dX11_takes_51 rfl rfl ?_
      refine kx_Vi 56 (ci := 0) F (As := [vR G r_10]) (st := [vR G c0]) vd_X11_234 (c_X10_isTaken G l N_14 (M c0 12) r_10 hI_N_14 hk_16 hk_13) hk_16 rfl rfl rfl ⟨by decide, by decide⟩ rfl rfl (Nat.le_of_ble_eq_true rfl) dX11_takes_53 rfl ?_
      intro r_17 N_18 q_19
      obtain ⟨rfl, q_19c⟩ := q_19
      refine kx_if_eq 59 F 63 dX11_takes_56 (by decide) rfl (by omega) (fun h_20 => ?_) (fun h_20 => ?_)
      · refine kx_iconst 64 F dX11_takes_63 rfl ?_
        refine kx_Vi 67 (ci := 0) F (As := [vI 0]) (st := []) vd_X11_145 (c_X11_answer G l N_14 c0 0 hI_N_14 hk_c0 (by omega)) hk_c0 rfl rfl rfl ⟨by decide, by decide⟩ rfl rfl (Nat.le_of_ble_eq_true rfl) dX11_takes_64 rfl ?_
        intro r_21 N_22 q_23
        obtain ⟨hI_N_22, hG_N_22, q_23c⟩ := q_23
        have hF_N_22 : Fr f_c_X11_takes M N_22 := Fr.c hF_N_14 hG_N_22 rfl
        exact kx_iret F hQ ⟨hI_N_22, hF_N_22, (by omega)⟩ dX11_takes_67
      · refine kx_iconst 60 F dX11_takes_59 rfl ?_
        refine kx_goto 64 F dX11_takes_60 (by decide) ?_
        refine kx_Vi 67 (ci := 0) F (As := [vI 1]) (st := []) vd_X11_145 (c_X11_answer G l N_14 c0 1 hI_N_14 hk_c0 (by omega)) hk_c0 rfl rfl rfl ⟨by decide, by decide⟩ rfl rfl (Nat.le_of_ble_eq_true rfl) dX11_takes_64 rfl ?_
        intro r_24 N_25 q_26
        obtain ⟨hI_N_25, hG_N_25, q_26c⟩ := q_26
        have hF_N_25 : Fr f_c_X11_takes M N_25 := Fr.c hF_N_14 hG_N_25 rfl
        exact kx_iret F hQ ⟨hI_N_25, hF_N_25, (by omega)⟩ dX11_takes_67
    · refine kx_istore 16 F 4 (lo' := [some (vR G c0), some (vI a1), some (vI a2), some (vI a3), some (vI r_6), none]) dX11_takes_14 (by decide) rfl rfl rfl ?_
      refine kx_iload 18 F 4 dX11_takes_16 rfl rfl ?_
      refine kx_if_eq 21 F 28 dX11_takes_18 (by decide) rfl (by omega) (fun h_27 => (by exfalso; omega)) (fun h_27 => ?_)
      refine kx_aload_n 22 F 0 dX11_takes_21 rfl rfl rfl ?_
      refine kx_iload 24 F 4 dX11_takes_22 rfl rfl ?_
      refine kx_Vi 27 (ci := 0) F (As := [vI r_6]) (st := []) vd_X11_110 (c_X11_refuse G l M c0 r_6 hI_M hk_c0 (by omega)) hk_c0 rfl rfl rfl ⟨by decide, by decide⟩ rfl rfl (Nat.le_of_ble_eq_true rfl) dX11_takes_24 rfl ?_
      intro r_28 N_29 q_30
      obtain ⟨hI_N_29, hG_N_29, q_30c⟩ := q_30
      have hF_N_29 : Fr f_c_X11_takes M N_29 := Fr.c hF_M hG_N_29 rfl
      subst q_30c
      exact kx_iret F hQ ⟨hI_N_29, hF_N_29, (by omega)⟩ dX11_takes_27
  · refine kx_iload_n 10 F 2 dX11_takes_9 rfl rfl rfl ?_
    refine kx_iload_n 11 F 3 dX11_takes_10 rfl rfl rfl ?_
    refine kx_Vi 14 (ci := 0) F (As := [vI r_2, vI a2, vI a3]) (st := []) vd_X11_226 (c_X11_wordRefusal G l M c0 r_2 a2 a3 hI_M hk_c0 (by omega)) hk_c0 rfl rfl rfl ⟨by decide, by decide⟩ rfl rfl (Nat.le_of_ble_eq_true rfl) dX11_takes_11 rfl ?_
    intro r_31 N_32 q_33
    obtain ⟨rfl, q_33c, hw_N_32⟩ := q_33
    rcases q_33c with q_33c | q_33c
    · exfalso; omega
    · refine kx_istore 16 F 4 (lo' := [some (vR G c0), some (vI a1), some (vI a2), some (vI a3), some (vI r_31), none]) dX11_takes_14 (by decide) rfl rfl rfl ?_
      refine kx_iload 18 F 4 dX11_takes_16 rfl rfl ?_
      refine kx_if_eq 21 F 28 dX11_takes_18 (by decide) rfl (by omega) (fun h_34 => (by exfalso; omega)) (fun h_34 => ?_)
      refine kx_aload_n 22 F 0 dX11_takes_21 rfl rfl rfl ?_
      refine kx_iload 24 F 4 dX11_takes_22 rfl rfl ?_
      refine kx_Vi 27 (ci := 0) F (As := [vI r_31]) (st := []) vd_X11_110 (c_X11_refuse G l M c0 r_31 hI_M hk_c0 (by omega)) hk_c0 rfl rfl rfl ⟨by decide, by decide⟩ rfl rfl (Nat.le_of_ble_eq_true rfl) dX11_takes_24 rfl ?_
      intro r_35 N_36 q_37
      obtain ⟨hI_N_36, hG_N_36, q_37c⟩ := q_37
      have hF_N_36 : Fr f_c_X11_takes M N_36 := Fr.c hF_M hG_N_36 rfl
      subst q_37c
      exact kx_iret F hQ ⟨hI_N_36, hF_N_36, (by omega)⟩ dX11_takes_27
theorem dX11_ends_0 : decode cX11_ends 0 = .ok (.aload_n 0, 1) := by decide +kernel
theorem dX11_ends_1 : decode cX11_ends 1 = .ok (.aload_n 0, 1) := by decide +kernel
theorem dX11_ends_2 : decode cX11_ends 2 = .ok (.getfield 26, 3) := by decide +kernel
theorem dX11_ends_5 : decode cX11_ends 5 = .ok (.iload_n 1, 1) := by decide +kernel
theorem dX11_ends_6 : decode cX11_ends 6 = .ok (.invokevirtual 163, 3) := by decide +kernel
theorem dX11_ends_9 : decode cX11_ends 9 = .ok (.iload_n 2, 1) := by decide +kernel
theorem dX11_ends_10 : decode cX11_ends 10 = .ok (.iload_n 3, 1) := by decide +kernel
theorem dX11_ends_11 : decode cX11_ends 11 = .ok (.invokevirtual 226, 3) := by decide +kernel
theorem dX11_ends_14 : decode cX11_ends 14 = .ok (.istore 4, 2) := by decide +kernel
theorem dX11_ends_16 : decode cX11_ends 16 = .ok (.iload 4, 2) := by decide +kernel
theorem dX11_ends_18 : decode cX11_ends 18 = .ok (.ifCond .eq 10, 3) := by decide +kernel
theorem dX11_ends_21 : decode cX11_ends 21 = .ok (.aload_n 0, 1) := by decide +kernel
theorem dX11_ends_22 : decode cX11_ends 22 = .ok (.iload 4, 2) := by decide +kernel
theorem dX11_ends_24 : decode cX11_ends 24 = .ok (.invokevirtual 110, 3) := by decide +kernel
theorem dX11_ends_27 : decode cX11_ends 27 = .ok (.ireturn, 1) := by decide +kernel
theorem dX11_ends_28 : decode cX11_ends 28 = .ok (.aload_n 0, 1) := by decide +kernel
theorem dX11_ends_29 : decode cX11_ends 29 = .ok (.aload_n 0, 1) := by decide +kernel
theorem dX11_ends_30 : decode cX11_ends 30 = .ok (.getfield 26, 3) := by decide +kernel
theorem dX11_ends_33 : decode cX11_ends 33 = .ok (.iload_n 1, 1) := by decide +kernel
theorem dX11_ends_34 : decode cX11_ends 34 = .ok (.invokevirtual 164, 3) := by decide +kernel
theorem dX11_ends_37 : decode cX11_ends 37 = .ok (.iload_n 2, 1) := by decide +kernel
theorem dX11_ends_38 : decode cX11_ends 38 = .ok (.iload_n 3, 1) := by decide +kernel
theorem dX11_ends_39 : decode cX11_ends 39 = .ok (.invokevirtual 230, 3) := by decide +kernel
theorem dX11_ends_42 : decode cX11_ends 42 = .ok (.aload_n 0, 1) := by decide +kernel
theorem dX11_ends_43 : decode cX11_ends 43 = .ok (.aload_n 0, 1) := by decide +kernel
theorem dX11_ends_44 : decode cX11_ends 44 = .ok (.getfield 61, 3) := by decide +kernel
theorem dX11_ends_47 : decode cX11_ends 47 = .ok (.getfield 238, 3) := by decide +kernel
theorem dX11_ends_50 : decode cX11_ends 50 = .ok (.invokevirtual 145, 3) := by decide +kernel
theorem dX11_ends_53 : decode cX11_ends 53 = .ok (.ireturn, 1) := by decide +kernel
abbrev f_c_X11_ends : List (Nat × Int) := [(8, 1), (8, 2), (8, 3), (8, 4), (9, -1), (10, -1), (11, -1), (62, 0)]
set_option maxHeartbeats 4000000 in
set_option maxRecDepth 100000 in
theorem c_X11_ends (G : KG) (l : Launch) (M : Mem) (c0 : Int) (a1 : Int) (a2 : Int) (a3 : Int) (hI_M : Inv false M) (hk_c0 : kd c0 = 62) (hpre : -2147483648 ≤ a1 ∧ a1 ≤ 2147483647 ∧ -2147483648 ≤ a2 ∧ a2 ≤ 2147483647 ∧ -2147483648 ≤ a3 ∧ a3 ≤ 2147483647) : KC false G l yX11_ends cX11_ends 5 (some .int) (4, 97) [vR G c0, vI a1, vI a2, vI a3] M (fun A => kQi false G A (fun (r : Int) (N : Mem) => Inv false N ∧ Fr f_c_X11_ends M N ∧ (r ≥ -1 ∧ r ≤ 7))) := by
  refine kx_met (lo := [some (vR G c0), some (vI a1), some (vI a2), some (vI a3), none]) (by decide) (Nat.le_of_ble_eq_true rfl) rfl ?_
  intro X F hQ
  have hF_M : Fr f_c_X11_ends M M := Fr.rf _ _
  refine kx_aload_n 1 F 0 dX11_ends_0 rfl rfl rfl ?_
  refine kx_aload_n 2 F 0 dX11_ends_1 rfl rfl rfl ?_
  refine kx_getr 5 F fl_X11_26 hk_c0 rfl rfl (j := 5) rfl dX11_ends_2 (v := (M c0 5)) rfl rfl ?_
  have hk_1 : kd (M c0 5) = 12 := Inv.r hI_M hk_c0 rfl 5 rfl rfl
  refine kx_iload_n 6 F 1 dX11_ends_5 rfl rfl rfl ?_
  refine kx_Vi 9 (ci := 0) F (As := [vI a1]) (st := [vR G c0]) vd_X11_163 (c_X5_has G l M (M c0 5) a1 hI_M hk_1 (by omega)) hk_1 rfl rfl rfl ⟨by decide, by decide⟩ rfl rfl (Nat.le_of_ble_eq_true rfl) dX11_ends_6 rfl ?_
  intro r_2 N_3 q_4
  obtain ⟨rfl, q_4c⟩ := q_4
  have h_5 := Inv.g hI_M hk_1 rfl 3 (a := 0) (b := 2) rfl rfl
  rcases q_4c with q_4c | q_4c
  · refine kx_iload_n 10 F 2 dX11_ends_9 rfl rfl rfl ?_
    refine kx_iload_n 11 F 3 dX11_ends_10 rfl rfl rfl ?_
    refine kx_Vi 14 (ci := 0) F (As := [vI r_2, vI a2, vI a3]) (st := []) vd_X11_226 (c_X11_wordRefusal G l M c0 r_2 a2 a3 hI_M hk_c0 (by omega)) hk_c0 rfl rfl rfl ⟨by decide, by decide⟩ rfl rfl (Nat.le_of_ble_eq_true rfl) dX11_ends_11 rfl ?_
    intro r_6 N_7 q_8
    obtain ⟨rfl, q_8c, hw_N_7⟩ := q_8
    rcases q_8c with q_8c | q_8c
    · refine kx_istore 16 F 4 (lo' := [some (vR G c0), some (vI a1), some (vI a2), some (vI a3), some (vI r_6)]) dX11_ends_14 (by decide) rfl rfl rfl ?_
      refine kx_iload 18 F 4 dX11_ends_16 rfl rfl ?_
      refine kx_if_eq 21 F 28 dX11_ends_18 (by decide) rfl (by omega) (fun h_9 => ?_) (fun h_9 => (by exfalso; omega))
      refine kx_aload_n 29 F 0 dX11_ends_28 rfl rfl rfl ?_
      refine kx_aload_n 30 F 0 dX11_ends_29 rfl rfl rfl ?_
      refine kx_getr 33 F fl_X11_26 hk_c0 rfl rfl (j := 5) rfl dX11_ends_30 (v := (M c0 5)) rfl rfl ?_
      refine kx_iload_n 34 F 1 dX11_ends_33 rfl rfl rfl ?_
      refine kx_Vr 37 (ci := 0) F (As := [vI a1]) (st := [vR G c0]) vd_X11_164 (c_X5_pick G l M (M c0 5) a1 hI_M hk_1 (by omega)) hk_1 rfl rfl rfl ⟨by decide, by decide⟩ rfl rfl (Nat.le_of_ble_eq_true rfl) dX11_ends_34 rfl ?_
      intro r_10 N_11 q_12
      obtain ⟨rfl, hk_13⟩ := q_12
      refine kx_iload_n 38 F 2 dX11_ends_37 rfl rfl rfl ?_
      refine kx_iload_n 39 F 3 dX11_ends_38 rfl rfl rfl ?_
      refine kx_Vv 42 (ci := 0) F (As := [vR G r_10, vI a2, vI a3]) (st := []) vd_X11_230 (c_X11_walkTray G l M c0 r_10 a2 a3 hI_M hk_c0 hk_13 (by omega) (hw_N_7 (by omega))) hk_c0 rfl rfl rfl ⟨by decide, by decide⟩ rfl rfl (Nat.le_of_ble_eq_true rfl) dX11_ends_39 rfl ?_
      intro N_14 q_15
      obtain ⟨hI_N_14, hG_N_14⟩ := q_15
      have hF_N_14 : Fr f_c_X11_ends M N_14 := Fr.c hF_M hG_N_14 rfl
      refine kx_aload_n 43 F 0 dX11_ends_42 rfl rfl rfl ?_
      refine kx_aload_n 44 F 0 dX11_ends_43 rfl rfl rfl ?_
      refine kx_getr 47 F fl_X11_61 hk_c0 rfl rfl (j := 12) rfl dX11_ends_44 (v := (M c0 12)) (by rw [Fr.e hG_N_14 hk_c0 _ rfl]) rfl ?_
      have hk_16 : kd (M c0 12) = 8 := Inv.r hI_M hk_c0 rfl 12 rfl rfl
      refine kx_geti 50 F fl_X11_238 hk_16 rfl rfl (j := 3) rfl dX11_ends_47 (v := (N_14 (M c0 12) 3)) rfl rfl ?_
      have h_17 := Inv.g hI_N_14 hk_16 rfl 3 (a := 0) (b := 7) rfl rfl
      refine kx_Vi 53 (ci := 0) F (As := [vI (N_14 (M c0 12) 3)]) (st := []) vd_X11_145 (c_X11_answer G l N_14 c0 (N_14 (M c0 12) 3) hI_N_14 hk_c0 (by omega)) hk_c0 rfl rfl rfl ⟨by decide, by decide⟩ rfl rfl (Nat.le_of_ble_eq_true rfl) dX11_ends_50 rfl ?_
      intro r_18 N_19 q_20
      obtain ⟨hI_N_19, hG_N_19, q_20c⟩ := q_20
      have hF_N_19 : Fr f_c_X11_ends M N_19 := Fr.c hF_N_14 hG_N_19 rfl
      exact kx_iret F hQ ⟨hI_N_19, hF_N_19, (by omega)⟩ dX11_ends_53
    · refine kx_istore 16 F 4 (lo' := [some (vR G c0), some (vI a1), some (vI a2), some (vI a3), some (vI r_6)]) dX11_ends_14 (by decide) rfl rfl rfl ?_
      refine kx_iload 18 F 4 dX11_ends_16 rfl rfl ?_
      refine kx_if_eq 21 F 28 dX11_ends_18 (by decide) rfl (by omega) (fun h_21 => (by exfalso; omega)) (fun h_21 => ?_)
      refine kx_aload_n 22 F 0 dX11_ends_21 rfl rfl rfl ?_
      refine kx_iload 24 F 4 dX11_ends_22 rfl rfl ?_
      refine kx_Vi 27 (ci := 0) F (As := [vI r_6]) (st := []) vd_X11_110 (c_X11_refuse G l M c0 r_6 hI_M hk_c0 (by omega)) hk_c0 rfl rfl rfl ⟨by decide, by decide⟩ rfl rfl (Nat.le_of_ble_eq_true rfl) dX11_ends_24 rfl ?_
      intro r_22 N_23 q_24
      obtain ⟨hI_N_23, hG_N_23, q_24c⟩ := q_24
      have hF_N_23 : Fr f_c_X11_ends M N_23 := Fr.c hF_M hG_N_23 rfl
      subst q_24c
      exact kx_iret F hQ ⟨hI_N_23, hF_N_23, (by omega)⟩ dX11_ends_27
  · refine kx_iload_n 10 F 2 dX11_ends_9 rfl rfl rfl ?_
    refine kx_iload_n 11 F 3 dX11_ends_10 rfl rfl rfl ?_
    refine kx_Vi 14 (ci := 0) F (As := [vI r_2, vI a2, vI a3]) (st := []) vd_X11_226 (c_X11_wordRefusal G l M c0 r_2 a2 a3 hI_M hk_c0 (by omega)) hk_c0 rfl rfl rfl ⟨by decide, by decide⟩ rfl rfl (Nat.le_of_ble_eq_true rfl) dX11_ends_11 rfl ?_
    intro r_25 N_26 q_27
    obtain ⟨rfl, q_27c, hw_N_26⟩ := q_27
    rcases q_27c with q_27c | q_27c
    · exfalso; omega
    · refine kx_istore 16 F 4 (lo' := [some (vR G c0), some (vI a1), some (vI a2), some (vI a3), some (vI r_25)]) dX11_ends_14 (by decide) rfl rfl rfl ?_
      refine kx_iload 18 F 4 dX11_ends_16 rfl rfl ?_
      refine kx_if_eq 21 F 28 dX11_ends_18 (by decide) rfl (by omega) (fun h_28 => (by exfalso; omega)) (fun h_28 => ?_)
      refine kx_aload_n 22 F 0 dX11_ends_21 rfl rfl rfl ?_
      refine kx_iload 24 F 4 dX11_ends_22 rfl rfl ?_
      refine kx_Vi 27 (ci := 0) F (As := [vI r_25]) (st := []) vd_X11_110 (c_X11_refuse G l M c0 r_25 hI_M hk_c0 (by omega)) hk_c0 rfl rfl rfl ⟨by decide, by decide⟩ rfl rfl (Nat.le_of_ble_eq_true rfl) dX11_ends_24 rfl ?_
      intro r_29 N_30 q_31
      obtain ⟨hI_N_30, hG_N_30, q_31c⟩ := q_31
      have hF_N_30 : Fr f_c_X11_ends M N_30 := Fr.c hF_M hG_N_30 rfl
      subst q_31c
      exact kx_iret F hQ ⟨hI_N_30, hF_N_30, (by omega)⟩ dX11_ends_27
