set_option maxRecDepth 100000 in
theorem dGR_15_c_383 : (decode cX11_commonDivisor 0 = .ok (.lload_n 0, 1)) ∧ (decode cX11_commonDivisor 1 = .ok (.lstore 4, 2)) ∧ (decode cX11_commonDivisor 3 = .ok (.lload_n 2, 1)) ∧ (decode cX11_commonDivisor 4 = .ok (.lstore 6, 2)) ∧ (decode cX11_commonDivisor 6 = .ok (.iconst 0, 1)) ∧ (decode cX11_commonDivisor 7 = .ok (.istore 8, 2)) ∧ (decode cX11_commonDivisor 9 = .ok (.iload 8, 2)) ∧ (decode cX11_commonDivisor 11 = .ok (.bipush 100, 2)) ∧ (decode cX11_commonDivisor 13 = .ok (.if_icmp .ge 31, 3)) ∧ (decode cX11_commonDivisor 16 = .ok (.lload 6, 2)) ∧ (decode cX11_commonDivisor 18 = .ok (.lconst 0, 1)) ∧ (decode cX11_commonDivisor 19 = .ok (.lcmp, 1)) := by decide +kernel
theorem dX11_commonDivisor_0 : decode cX11_commonDivisor 0 = .ok (.lload_n 0, 1) := dGR_15_c_383.1
theorem dX11_commonDivisor_1 : decode cX11_commonDivisor 1 = .ok (.lstore 4, 2) := dGR_15_c_383.2.1
theorem dX11_commonDivisor_3 : decode cX11_commonDivisor 3 = .ok (.lload_n 2, 1) := dGR_15_c_383.2.2.1
theorem dX11_commonDivisor_4 : decode cX11_commonDivisor 4 = .ok (.lstore 6, 2) := dGR_15_c_383.2.2.2.1
theorem dX11_commonDivisor_6 : decode cX11_commonDivisor 6 = .ok (.iconst 0, 1) := dGR_15_c_383.2.2.2.2.1
theorem dX11_commonDivisor_7 : decode cX11_commonDivisor 7 = .ok (.istore 8, 2) := dGR_15_c_383.2.2.2.2.2.1
theorem dX11_commonDivisor_9 : decode cX11_commonDivisor 9 = .ok (.iload 8, 2) := dGR_15_c_383.2.2.2.2.2.2.1
theorem dX11_commonDivisor_11 : decode cX11_commonDivisor 11 = .ok (.bipush 100, 2) := dGR_15_c_383.2.2.2.2.2.2.2.1
theorem dX11_commonDivisor_13 : decode cX11_commonDivisor 13 = .ok (.if_icmp .ge 31, 3) := dGR_15_c_383.2.2.2.2.2.2.2.2.1
theorem dX11_commonDivisor_16 : decode cX11_commonDivisor 16 = .ok (.lload 6, 2) := dGR_15_c_383.2.2.2.2.2.2.2.2.2.1
theorem dX11_commonDivisor_18 : decode cX11_commonDivisor 18 = .ok (.lconst 0, 1) := dGR_15_c_383.2.2.2.2.2.2.2.2.2.2.1
theorem dX11_commonDivisor_19 : decode cX11_commonDivisor 19 = .ok (.lcmp, 1) := dGR_15_c_383.2.2.2.2.2.2.2.2.2.2.2
set_option maxRecDepth 100000 in
theorem dGR_15_c_384 : (decode cX11_commonDivisor 20 = .ok (.ifCond .eq 24, 3)) ∧ (decode cX11_commonDivisor 23 = .ok (.lload 4, 2)) ∧ (decode cX11_commonDivisor 25 = .ok (.lload 6, 2)) ∧ (decode cX11_commonDivisor 27 = .ok (.lrem, 1)) ∧ (decode cX11_commonDivisor 28 = .ok (.lstore 9, 2)) ∧ (decode cX11_commonDivisor 30 = .ok (.lload 6, 2)) ∧ (decode cX11_commonDivisor 32 = .ok (.lstore 4, 2)) ∧ (decode cX11_commonDivisor 34 = .ok (.lload 9, 2)) ∧ (decode cX11_commonDivisor 36 = .ok (.lstore 6, 2)) ∧ (decode cX11_commonDivisor 38 = .ok (.iinc 8 1, 3)) ∧ (decode cX11_commonDivisor 41 = .ok (.goto (-32), 3)) ∧ (decode cX11_commonDivisor 44 = .ok (.lload 4, 2)) := by decide +kernel
theorem dX11_commonDivisor_20 : decode cX11_commonDivisor 20 = .ok (.ifCond .eq 24, 3) := dGR_15_c_384.1
theorem dX11_commonDivisor_23 : decode cX11_commonDivisor 23 = .ok (.lload 4, 2) := dGR_15_c_384.2.1
theorem dX11_commonDivisor_25 : decode cX11_commonDivisor 25 = .ok (.lload 6, 2) := dGR_15_c_384.2.2.1
theorem dX11_commonDivisor_27 : decode cX11_commonDivisor 27 = .ok (.lrem, 1) := dGR_15_c_384.2.2.2.1
theorem dX11_commonDivisor_28 : decode cX11_commonDivisor 28 = .ok (.lstore 9, 2) := dGR_15_c_384.2.2.2.2.1
theorem dX11_commonDivisor_30 : decode cX11_commonDivisor 30 = .ok (.lload 6, 2) := dGR_15_c_384.2.2.2.2.2.1
theorem dX11_commonDivisor_32 : decode cX11_commonDivisor 32 = .ok (.lstore 4, 2) := dGR_15_c_384.2.2.2.2.2.2.1
theorem dX11_commonDivisor_34 : decode cX11_commonDivisor 34 = .ok (.lload 9, 2) := dGR_15_c_384.2.2.2.2.2.2.2.1
theorem dX11_commonDivisor_36 : decode cX11_commonDivisor 36 = .ok (.lstore 6, 2) := dGR_15_c_384.2.2.2.2.2.2.2.2.1
theorem dX11_commonDivisor_38 : decode cX11_commonDivisor 38 = .ok (.iinc 8 1, 3) := dGR_15_c_384.2.2.2.2.2.2.2.2.2.1
theorem dX11_commonDivisor_41 : decode cX11_commonDivisor 41 = .ok (.goto (-32), 3) := dGR_15_c_384.2.2.2.2.2.2.2.2.2.2.1
theorem dX11_commonDivisor_44 : decode cX11_commonDivisor 44 = .ok (.lload 4, 2) := dGR_15_c_384.2.2.2.2.2.2.2.2.2.2.2
theorem dX11_commonDivisor_46 : decode cX11_commonDivisor 46 = .ok (.lreturn, 1) := by decide +kernel
set_option maxHeartbeats 4000000 in
set_option maxRecDepth 100000 in
theorem c_X11_commonDivisor (G : KG) (l : Launch) (M : Mem) (a0 : Int) (a1 : Int) (hI_M : Inv false M) (hpre : -9223372036854775808 ≤ a0 ∧ a0 ≤ 9223372036854775807 ∧ -9223372036854775808 ≤ a1 ∧ a1 ≤ 9223372036854775807) : KC false G l yX11_commonDivisor cX11_commonDivisor 11 (some .long) (0, 0) [vL a0, vL a1] M (fun A => kQl false G A (fun (r : Int) (N : Mem) => M = N ∧ (r ≥ -9223372036854775808 ∧ r ≤ 9223372036854775807))) := by
  refine kx_met (lo := [some (vL a0), none, some (vL a1), none, none, none, none, none, none, none, none]) (by decide) (Nat.le_of_ble_eq_true rfl) rfl ?_
  intro X F hQ
  refine kx_lload_n 1 F 0 dX11_commonDivisor_0 rfl rfl rfl ?_
  refine kx_lstore 3 F 4 (lo' := [some (vL a0), none, some (vL a1), none, some (vL a0), none, none, none, none, none, none]) dX11_commonDivisor_1 (by decide) rfl rfl rfl ?_
  refine kx_lload_n 4 F 2 dX11_commonDivisor_3 rfl rfl rfl ?_
  refine kx_lstore 6 F 6 (lo' := [some (vL a0), none, some (vL a1), none, some (vL a0), none, some (vL a1), none, none, none, none]) dX11_commonDivisor_4 (by decide) rfl rfl rfl ?_
  refine kx_iconst 7 F dX11_commonDivisor_6 rfl ?_
  refine kx_istore 9 F 8 (lo' := [some (vL a0), none, some (vL a1), none, some (vL a0), none, some (vL a1), none, some (vI 0), none, none]) dX11_commonDivisor_7 (by decide) rfl rfl rfl ?_
  have L_74 : ∀ (n_75 : Nat) (x4_71 : Int) (x6_72 : Int) (x8_73 : Int), (-9223372036854775808) ≤ x4_71 ∧ x4_71 ≤ 9223372036854775807 ∧ (-9223372036854775808) ≤ x6_72 ∧ x6_72 ≤ 9223372036854775807 ∧ 0 ≤ x8_73 ∧ x8_73 ≤ 100 → (100 - (x8_73)).toNat = n_75 → KJ false G X M 9 [none, none, none, none, some (vL x4_71), none, some (vL x6_72), none, some (vI x8_73), none, none] [] := by
    intro n_75
    refine Nat.strongRecOn n_75 ?_
    intro n_75 ih_76 x4_71 x6_72 x8_73 h_77 hm_78
    refine kx_iload 11 F 8 dX11_commonDivisor_9 rfl rfl ?_
    refine kx_bipush 13 F dX11_commonDivisor_11 (by decide) rfl ?_
    refine kx_icmp_ge 16 F 44 dX11_commonDivisor_13 (by decide) rfl (by omega) (by decide) (fun h_79 => ?_) (fun h_79 => ?_)
    · refine kx_lload 46 F 4 dX11_commonDivisor_44 rfl rfl ?_
      exact kx_lret F hQ ⟨rfl, (by omega)⟩ dX11_commonDivisor_46
    · refine kx_lload 18 F 6 dX11_commonDivisor_16 rfl rfl ?_
      refine kx_lconst 19 (z := 0) F dX11_commonDivisor_18 (by decide) rfl ?_
      refine kx_lcmp 20 F dX11_commonDivisor_19 (by omega) (by omega) rfl (fun w_80 h_81 => ?_)
      refine kx_if_eq 23 F 44 dX11_commonDivisor_20 (by decide) rfl (by omega) (fun h_82 => ?_) (fun h_82 => ?_)
      · refine kx_lload 46 F 4 dX11_commonDivisor_44 rfl rfl ?_
        exact kx_lret F hQ ⟨rfl, (by omega)⟩ dX11_commonDivisor_46
      · refine kx_lload 25 F 4 dX11_commonDivisor_23 rfl rfl ?_
        refine kx_lload 27 F 6 dX11_commonDivisor_25 rfl rfl ?_
        refine kx_lrem 28 F dX11_commonDivisor_27 (by omega) (by omega) (by omega) rfl (fun w_83 h_84 => ?_)
        have h_85 := Int.natAbs_tmod_le_z x4_71 x6_72 (by omega)
        rw [← h_84] at h_85
        refine kx_lstore 30 F 9 (lo' := [none, none, none, none, some (vL x4_71), none, some (vL x6_72), none, some (vI x8_73), some (vL w_83), none]) dX11_commonDivisor_28 (by decide) rfl rfl rfl ?_
        refine kx_lload 32 F 6 dX11_commonDivisor_30 rfl rfl ?_
        refine kx_lstore 34 F 4 (lo' := [none, none, none, none, some (vL x6_72), none, some (vL x6_72), none, some (vI x8_73), some (vL w_83), none]) dX11_commonDivisor_32 (by decide) rfl rfl rfl ?_
        refine kx_lload 36 F 9 dX11_commonDivisor_34 rfl rfl ?_
        refine kx_lstore 38 F 6 (lo' := [none, none, none, none, some (vL x6_72), none, some (vL w_83), none, some (vI x8_73), some (vL w_83), none]) dX11_commonDivisor_36 (by decide) rfl rfl rfl ?_
        refine kx_iinc 41 F 8 (v := x8_73 + 1) (lo' := [none, none, none, none, some (vL x6_72), none, some (vL w_83), none, some (vI (x8_73 + 1)), some (vL w_83), none]) dX11_commonDivisor_38 rfl (by omega) (by decide) rfl rfl rfl ?_
        refine kx_goto 9 F dX11_commonDivisor_41 (by decide) ?_
        refine kx_drop 9 (lo' := [none, none, none, none, some (vL x6_72), none, some (vL w_83), none, some (vI (x8_73 + 1)), none, none]) rfl ?_
        exact ih_76 _ (by omega) x6_72 w_83 (x8_73 + 1) (by omega) rfl
  refine kx_drop 0 (lo' := [none, none, some (vL a1), none, some (vL a0), none, some (vL a1), none, some (vI 0), none, none]) rfl ?_
  refine kx_drop 2 (lo' := [none, none, none, none, some (vL a0), none, some (vL a1), none, some (vI 0), none, none]) rfl ?_
  exact L_74 _ a0 a1 0 (by omega) rfl
set_option maxRecDepth 100000 in
theorem dGR_15_c_385 : (decode cX11_tellFraction 0 = .ok (.lload_n 1, 1)) ∧ (decode cX11_tellFraction 1 = .ok (.lload_n 3, 1)) ∧ (decode cX11_tellFraction 2 = .ok (.invokestatic 408, 3)) ∧ (decode cX11_tellFraction 5 = .ok (.lstore 5, 2)) ∧ (decode cX11_tellFraction 7 = .ok (.lload 5, 2)) ∧ (decode cX11_tellFraction 9 = .ok (.lconst 0, 1)) ∧ (decode cX11_tellFraction 10 = .ok (.lcmp, 1)) ∧ (decode cX11_tellFraction 11 = .ok (.ifCond .gt 4, 3)) ∧ (decode cX11_tellFraction 14 = .ok (.return_, 1)) ∧ (decode cX11_tellFraction 15 = .ok (.aload_n 0, 1)) ∧ (decode cX11_tellFraction 16 = .ok (.lload_n 1, 1)) ∧ (decode cX11_tellFraction 17 = .ok (.lload 5, 2)) := by decide +kernel
theorem dX11_tellFraction_0 : decode cX11_tellFraction 0 = .ok (.lload_n 1, 1) := dGR_15_c_385.1
theorem dX11_tellFraction_1 : decode cX11_tellFraction 1 = .ok (.lload_n 3, 1) := dGR_15_c_385.2.1
theorem dX11_tellFraction_2 : decode cX11_tellFraction 2 = .ok (.invokestatic 408, 3) := dGR_15_c_385.2.2.1
theorem dX11_tellFraction_5 : decode cX11_tellFraction 5 = .ok (.lstore 5, 2) := dGR_15_c_385.2.2.2.1
theorem dX11_tellFraction_7 : decode cX11_tellFraction 7 = .ok (.lload 5, 2) := dGR_15_c_385.2.2.2.2.1
theorem dX11_tellFraction_9 : decode cX11_tellFraction 9 = .ok (.lconst 0, 1) := dGR_15_c_385.2.2.2.2.2.1
theorem dX11_tellFraction_10 : decode cX11_tellFraction 10 = .ok (.lcmp, 1) := dGR_15_c_385.2.2.2.2.2.2.1
theorem dX11_tellFraction_11 : decode cX11_tellFraction 11 = .ok (.ifCond .gt 4, 3) := dGR_15_c_385.2.2.2.2.2.2.2.1
theorem dX11_tellFraction_14 : decode cX11_tellFraction 14 = .ok (.return_, 1) := dGR_15_c_385.2.2.2.2.2.2.2.2.1
theorem dX11_tellFraction_15 : decode cX11_tellFraction 15 = .ok (.aload_n 0, 1) := dGR_15_c_385.2.2.2.2.2.2.2.2.2.1
theorem dX11_tellFraction_16 : decode cX11_tellFraction 16 = .ok (.lload_n 1, 1) := dGR_15_c_385.2.2.2.2.2.2.2.2.2.2.1
theorem dX11_tellFraction_17 : decode cX11_tellFraction 17 = .ok (.lload 5, 2) := dGR_15_c_385.2.2.2.2.2.2.2.2.2.2.2
set_option maxRecDepth 100000 in
theorem dGR_15_c_386 : (decode cX11_tellFraction 19 = .ok (.ldiv, 1)) ∧ (decode cX11_tellFraction 20 = .ok (.putfield 76, 3)) ∧ (decode cX11_tellFraction 23 = .ok (.aload_n 0, 1)) ∧ (decode cX11_tellFraction 24 = .ok (.lload_n 3, 1)) ∧ (decode cX11_tellFraction 25 = .ok (.lload 5, 2)) ∧ (decode cX11_tellFraction 27 = .ok (.ldiv, 1)) ∧ (decode cX11_tellFraction 28 = .ok (.putfield 80, 3)) ∧ (decode cX11_tellFraction 31 = .ok (.return_, 1)) := by decide +kernel
theorem dX11_tellFraction_19 : decode cX11_tellFraction 19 = .ok (.ldiv, 1) := dGR_15_c_386.1
theorem dX11_tellFraction_20 : decode cX11_tellFraction 20 = .ok (.putfield 76, 3) := dGR_15_c_386.2.1
theorem dX11_tellFraction_23 : decode cX11_tellFraction 23 = .ok (.aload_n 0, 1) := dGR_15_c_386.2.2.1
theorem dX11_tellFraction_24 : decode cX11_tellFraction 24 = .ok (.lload_n 3, 1) := dGR_15_c_386.2.2.2.1
theorem dX11_tellFraction_25 : decode cX11_tellFraction 25 = .ok (.lload 5, 2) := dGR_15_c_386.2.2.2.2.1
theorem dX11_tellFraction_27 : decode cX11_tellFraction 27 = .ok (.ldiv, 1) := dGR_15_c_386.2.2.2.2.2.1
theorem dX11_tellFraction_28 : decode cX11_tellFraction 28 = .ok (.putfield 80, 3) := dGR_15_c_386.2.2.2.2.2.2.1
theorem dX11_tellFraction_31 : decode cX11_tellFraction 31 = .ok (.return_, 1) := dGR_15_c_386.2.2.2.2.2.2.2
abbrev f_c_X11_tellFraction : List (Nat × Int) := [(62, 1), (62, 2)]
set_option maxHeartbeats 4000000 in
set_option maxRecDepth 100000 in
theorem c_X11_tellFraction (G : KG) (l : Launch) (M : Mem) (c0 : Int) (a1 : Int) (a2 : Int) (hI_M : Inv false M) (hk_c0 : kd c0 = 62) (hpre : -9223372036854775808 ≤ a1 ∧ a1 ≤ 9223372036854775807 ∧ -9223372036854775808 ≤ a2 ∧ a2 ≤ 9223372036854775807) : KC false G l yX11_tellFraction cX11_tellFraction 7 none (1, 30) [vR G c0, vL a1, vL a2] M (fun A => kQv false G A (fun (N : Mem) => Inv false N ∧ Fr f_c_X11_tellFraction M N)) := by
  refine kx_met (lo := [some (vR G c0), some (vL a1), none, some (vL a2), none, none, none]) (by decide) (Nat.le_of_ble_eq_true rfl) rfl ?_
  intro X F hQ
  have hF_M : Fr f_c_X11_tellFraction M M := Fr.rf _ _
  refine kx_lload_n 1 F 1 dX11_tellFraction_0 rfl rfl rfl ?_
  refine kx_lload_n 2 F 3 dX11_tellFraction_1 rfl rfl rfl ?_
  refine kx_Sl 5 F (As := [vL a1, vL a2]) (st := []) sd_X11_408 (c_X11_commonDivisor G l M a1 a2 hI_M (by omega)) ⟨by decide, by decide⟩ rfl rfl (Nat.le_of_ble_eq_true rfl) dX11_tellFraction_2 rfl ?_
  intro r_1 N_2 q_3
  obtain ⟨rfl, q_3c⟩ := q_3
  refine kx_lstore 7 F 5 (lo' := [some (vR G c0), some (vL a1), none, some (vL a2), none, some (vL r_1), none]) dX11_tellFraction_5 (by decide) rfl rfl rfl ?_
  refine kx_lload 9 F 5 dX11_tellFraction_7 rfl rfl ?_
  refine kx_lconst 10 (z := 0) F dX11_tellFraction_9 (by decide) rfl ?_
  refine kx_lcmp 11 F dX11_tellFraction_10 (by omega) (by omega) rfl (fun w_4 h_5 => ?_)
  refine kx_if_gt 14 F 15 dX11_tellFraction_11 (by decide) rfl (by omega) (fun h_6 => ?_) (fun h_6 => ?_)
  · refine kx_aload_n 16 F 0 dX11_tellFraction_15 rfl rfl rfl ?_
    refine kx_lload_n 17 F 1 dX11_tellFraction_16 rfl rfl rfl ?_
    refine kx_lload 19 F 5 dX11_tellFraction_17 rfl rfl ?_
    refine kx_ldiv 20 F dX11_tellFraction_19 (by omega) (by omega) rfl (fun w_7 h_8 => ?_)
    refine kx_putl 23 F fw_X11_76 rfl hk_c0 rfl rfl (j := 1) rfl dX11_tellFraction_20 rfl ?_
    intro N_9 hM_N_9
    have hI_N_9 : Inv false N_9 := Inv.u hI_M hM_N_9 hk_c0 (a := (-9223372036854775808)) (b := 9223372036854775807) rfl rfl rfl (by omega)
    have hF_N_9 : Fr f_c_X11_tellFraction M N_9 := Fr.u hF_M hM_N_9 hk_c0 rfl
    refine kx_aload_n 24 F 0 dX11_tellFraction_23 rfl rfl rfl ?_
    refine kx_lload_n 25 F 3 dX11_tellFraction_24 rfl rfl rfl ?_
    refine kx_lload 27 F 5 dX11_tellFraction_25 rfl rfl ?_
    refine kx_ldiv 28 F dX11_tellFraction_27 (by omega) (by omega) rfl (fun w_10 h_11 => ?_)
    refine kx_putl 31 F fw_X11_80 rfl hk_c0 rfl rfl (j := 2) rfl dX11_tellFraction_28 rfl ?_
    intro N_12 hM_N_12
    have hI_N_12 : Inv false N_12 := Inv.u hI_N_9 hM_N_12 hk_c0 (a := (-9223372036854775808)) (b := 9223372036854775807) rfl rfl rfl (by omega)
    have hF_N_12 : Fr f_c_X11_tellFraction M N_12 := Fr.u hF_N_9 hM_N_12 hk_c0 rfl
    exact kx_vret F hQ ⟨hI_N_12, hF_N_12⟩ dX11_tellFraction_31
  · exact kx_vret F hQ ⟨hI_M, hF_M⟩ dX11_tellFraction_14
set_option maxRecDepth 100000 in
theorem dGR_15_c_387 : (decode cX11_sortAt 0 = .ok (.aload_n 0, 1)) ∧ (decode cX11_sortAt 1 = .ok (.getfield 26, 3)) ∧ (decode cX11_sortAt 4 = .ok (.aload_n 0, 1)) ∧ (decode cX11_sortAt 5 = .ok (.getfield 10, 3)) ∧ (decode cX11_sortAt 8 = .ok (.iload_n 1, 1)) ∧ (decode cX11_sortAt 9 = .ok (.iload_n 2, 1)) ∧ (decode cX11_sortAt 10 = .ok (.invokevirtual 114, 3)) ∧ (decode cX11_sortAt 13 = .ok (.l2i, 1)) ∧ (decode cX11_sortAt 14 = .ok (.invokevirtual 242, 3)) ∧ (decode cX11_sortAt 17 = .ok (.ireturn, 1)) := by decide +kernel
theorem dX11_sortAt_0 : decode cX11_sortAt 0 = .ok (.aload_n 0, 1) := dGR_15_c_387.1
theorem dX11_sortAt_1 : decode cX11_sortAt 1 = .ok (.getfield 26, 3) := dGR_15_c_387.2.1
theorem dX11_sortAt_4 : decode cX11_sortAt 4 = .ok (.aload_n 0, 1) := dGR_15_c_387.2.2.1
theorem dX11_sortAt_5 : decode cX11_sortAt 5 = .ok (.getfield 10, 3) := dGR_15_c_387.2.2.2.1
theorem dX11_sortAt_8 : decode cX11_sortAt 8 = .ok (.iload_n 1, 1) := dGR_15_c_387.2.2.2.2.1
theorem dX11_sortAt_9 : decode cX11_sortAt 9 = .ok (.iload_n 2, 1) := dGR_15_c_387.2.2.2.2.2.1
theorem dX11_sortAt_10 : decode cX11_sortAt 10 = .ok (.invokevirtual 114, 3) := dGR_15_c_387.2.2.2.2.2.2.1
theorem dX11_sortAt_13 : decode cX11_sortAt 13 = .ok (.l2i, 1) := dGR_15_c_387.2.2.2.2.2.2.2.1
theorem dX11_sortAt_14 : decode cX11_sortAt 14 = .ok (.invokevirtual 242, 3) := dGR_15_c_387.2.2.2.2.2.2.2.2.1
theorem dX11_sortAt_17 : decode cX11_sortAt 17 = .ok (.ireturn, 1) := dGR_15_c_387.2.2.2.2.2.2.2.2.2
set_option maxRecDepth 100000 in
theorem dGR_15_c_388 : (decode cX11_partnerPlace 0 = .ok (.aload_n 0, 1)) ∧ (decode cX11_partnerPlace 1 = .ok (.iload_n 1, 1)) ∧ (decode cX11_partnerPlace 2 = .ok (.iload_n 3, 1)) ∧ (decode cX11_partnerPlace 3 = .ok (.invokevirtual 256, 3)) ∧ (decode cX11_partnerPlace 6 = .ok (.istore 4, 2)) ∧ (decode cX11_partnerPlace 8 = .ok (.iload 4, 2)) ∧ (decode cX11_partnerPlace 10 = .ok (.iconst 2, 1)) ∧ (decode cX11_partnerPlace 11 = .ok (.if_icmp .ne 5, 3)) ∧ (decode cX11_partnerPlace 14 = .ok (.iconst (-1), 1)) ∧ (decode cX11_partnerPlace 15 = .ok (.ireturn, 1)) ∧ (decode cX11_partnerPlace 16 = .ok (.iload 4, 2)) ∧ (decode cX11_partnerPlace 18 = .ok (.ifCond .ne 7, 3)) := by decide +kernel
theorem dX11_partnerPlace_0 : decode cX11_partnerPlace 0 = .ok (.aload_n 0, 1) := dGR_15_c_388.1
theorem dX11_partnerPlace_1 : decode cX11_partnerPlace 1 = .ok (.iload_n 1, 1) := dGR_15_c_388.2.1
theorem dX11_partnerPlace_2 : decode cX11_partnerPlace 2 = .ok (.iload_n 3, 1) := dGR_15_c_388.2.2.1
theorem dX11_partnerPlace_3 : decode cX11_partnerPlace 3 = .ok (.invokevirtual 256, 3) := dGR_15_c_388.2.2.2.1
theorem dX11_partnerPlace_6 : decode cX11_partnerPlace 6 = .ok (.istore 4, 2) := dGR_15_c_388.2.2.2.2.1
theorem dX11_partnerPlace_8 : decode cX11_partnerPlace 8 = .ok (.iload 4, 2) := dGR_15_c_388.2.2.2.2.2.1
theorem dX11_partnerPlace_10 : decode cX11_partnerPlace 10 = .ok (.iconst 2, 1) := dGR_15_c_388.2.2.2.2.2.2.1
theorem dX11_partnerPlace_11 : decode cX11_partnerPlace 11 = .ok (.if_icmp .ne 5, 3) := dGR_15_c_388.2.2.2.2.2.2.2.1
theorem dX11_partnerPlace_14 : decode cX11_partnerPlace 14 = .ok (.iconst (-1), 1) := dGR_15_c_388.2.2.2.2.2.2.2.2.1
theorem dX11_partnerPlace_15 : decode cX11_partnerPlace 15 = .ok (.ireturn, 1) := dGR_15_c_388.2.2.2.2.2.2.2.2.2.1
theorem dX11_partnerPlace_16 : decode cX11_partnerPlace 16 = .ok (.iload 4, 2) := dGR_15_c_388.2.2.2.2.2.2.2.2.2.2.1
theorem dX11_partnerPlace_18 : decode cX11_partnerPlace 18 = .ok (.ifCond .ne 7, 3) := dGR_15_c_388.2.2.2.2.2.2.2.2.2.2.2
set_option maxRecDepth 100000 in
theorem dGR_15_c_389 : (decode cX11_partnerPlace 21 = .ok (.iconst 1, 1)) ∧ (decode cX11_partnerPlace 22 = .ok (.goto 4, 3)) ∧ (decode cX11_partnerPlace 25 = .ok (.iconst (-1), 1)) ∧ (decode cX11_partnerPlace 26 = .ok (.istore 5, 2)) ∧ (decode cX11_partnerPlace 28 = .ok (.iconst 0, 1)) ∧ (decode cX11_partnerPlace 29 = .ok (.istore 6, 2)) ∧ (decode cX11_partnerPlace 31 = .ok (.iload_n 3, 1)) ∧ (decode cX11_partnerPlace 32 = .ok (.iload 5, 2)) ∧ (decode cX11_partnerPlace 34 = .ok (.iadd, 1)) ∧ (decode cX11_partnerPlace 35 = .ok (.istore 7, 2)) ∧ (decode cX11_partnerPlace 37 = .ok (.iload 7, 2)) ∧ (decode cX11_partnerPlace 39 = .ok (.ifCond .lt 67, 3)) := by decide +kernel
theorem dX11_partnerPlace_21 : decode cX11_partnerPlace 21 = .ok (.iconst 1, 1) := dGR_15_c_389.1
theorem dX11_partnerPlace_22 : decode cX11_partnerPlace 22 = .ok (.goto 4, 3) := dGR_15_c_389.2.1
theorem dX11_partnerPlace_25 : decode cX11_partnerPlace 25 = .ok (.iconst (-1), 1) := dGR_15_c_389.2.2.1
theorem dX11_partnerPlace_26 : decode cX11_partnerPlace 26 = .ok (.istore 5, 2) := dGR_15_c_389.2.2.2.1
theorem dX11_partnerPlace_28 : decode cX11_partnerPlace 28 = .ok (.iconst 0, 1) := dGR_15_c_389.2.2.2.2.1
theorem dX11_partnerPlace_29 : decode cX11_partnerPlace 29 = .ok (.istore 6, 2) := dGR_15_c_389.2.2.2.2.2.1
theorem dX11_partnerPlace_31 : decode cX11_partnerPlace 31 = .ok (.iload_n 3, 1) := dGR_15_c_389.2.2.2.2.2.2.1
theorem dX11_partnerPlace_32 : decode cX11_partnerPlace 32 = .ok (.iload 5, 2) := dGR_15_c_389.2.2.2.2.2.2.2.1
theorem dX11_partnerPlace_34 : decode cX11_partnerPlace 34 = .ok (.iadd, 1) := dGR_15_c_389.2.2.2.2.2.2.2.2.1
theorem dX11_partnerPlace_35 : decode cX11_partnerPlace 35 = .ok (.istore 7, 2) := dGR_15_c_389.2.2.2.2.2.2.2.2.2.1
theorem dX11_partnerPlace_37 : decode cX11_partnerPlace 37 = .ok (.iload 7, 2) := dGR_15_c_389.2.2.2.2.2.2.2.2.2.2.1
theorem dX11_partnerPlace_39 : decode cX11_partnerPlace 39 = .ok (.ifCond .lt 67, 3) := dGR_15_c_389.2.2.2.2.2.2.2.2.2.2.2
set_option maxRecDepth 100000 in
theorem dGR_15_c_390 : (decode cX11_partnerPlace 42 = .ok (.iload 7, 2)) ∧ (decode cX11_partnerPlace 44 = .ok (.iload_n 2, 1)) ∧ (decode cX11_partnerPlace 45 = .ok (.if_icmp .ge 61, 3)) ∧ (decode cX11_partnerPlace 48 = .ok (.aload_n 0, 1)) ∧ (decode cX11_partnerPlace 49 = .ok (.iload_n 1, 1)) ∧ (decode cX11_partnerPlace 50 = .ok (.iload 7, 2)) ∧ (decode cX11_partnerPlace 52 = .ok (.invokevirtual 256, 3)) ∧ (decode cX11_partnerPlace 55 = .ok (.istore 8, 2)) ∧ (decode cX11_partnerPlace 57 = .ok (.iload 8, 2)) ∧ (decode cX11_partnerPlace 59 = .ok (.iload 4, 2)) ∧ (decode cX11_partnerPlace 61 = .ok (.if_icmp .ne 9, 3)) ∧ (decode cX11_partnerPlace 64 = .ok (.iinc 6 1, 3)) := by decide +kernel
theorem dX11_partnerPlace_42 : decode cX11_partnerPlace 42 = .ok (.iload 7, 2) := dGR_15_c_390.1
theorem dX11_partnerPlace_44 : decode cX11_partnerPlace 44 = .ok (.iload_n 2, 1) := dGR_15_c_390.2.1
theorem dX11_partnerPlace_45 : decode cX11_partnerPlace 45 = .ok (.if_icmp .ge 61, 3) := dGR_15_c_390.2.2.1
theorem dX11_partnerPlace_48 : decode cX11_partnerPlace 48 = .ok (.aload_n 0, 1) := dGR_15_c_390.2.2.2.1
theorem dX11_partnerPlace_49 : decode cX11_partnerPlace 49 = .ok (.iload_n 1, 1) := dGR_15_c_390.2.2.2.2.1
theorem dX11_partnerPlace_50 : decode cX11_partnerPlace 50 = .ok (.iload 7, 2) := dGR_15_c_390.2.2.2.2.2.1
theorem dX11_partnerPlace_52 : decode cX11_partnerPlace 52 = .ok (.invokevirtual 256, 3) := dGR_15_c_390.2.2.2.2.2.2.1
theorem dX11_partnerPlace_55 : decode cX11_partnerPlace 55 = .ok (.istore 8, 2) := dGR_15_c_390.2.2.2.2.2.2.2.1
theorem dX11_partnerPlace_57 : decode cX11_partnerPlace 57 = .ok (.iload 8, 2) := dGR_15_c_390.2.2.2.2.2.2.2.2.1
theorem dX11_partnerPlace_59 : decode cX11_partnerPlace 59 = .ok (.iload 4, 2) := dGR_15_c_390.2.2.2.2.2.2.2.2.2.1
theorem dX11_partnerPlace_61 : decode cX11_partnerPlace 61 = .ok (.if_icmp .ne 9, 3) := dGR_15_c_390.2.2.2.2.2.2.2.2.2.2.1
theorem dX11_partnerPlace_64 : decode cX11_partnerPlace 64 = .ok (.iinc 6 1, 3) := dGR_15_c_390.2.2.2.2.2.2.2.2.2.2.2
set_option maxRecDepth 100000 in
theorem dGR_15_c_391 : (decode cX11_partnerPlace 67 = .ok (.goto 29, 3)) ∧ (decode cX11_partnerPlace 70 = .ok (.iload 8, 2)) ∧ (decode cX11_partnerPlace 72 = .ok (.iconst 2, 1)) ∧ (decode cX11_partnerPlace 73 = .ok (.if_icmp .eq 14, 3)) ∧ (decode cX11_partnerPlace 76 = .ok (.iload 6, 2)) ∧ (decode cX11_partnerPlace 78 = .ok (.ifCond .le 9, 3)) ∧ (decode cX11_partnerPlace 81 = .ok (.iinc 6 (-1), 3)) ∧ (decode cX11_partnerPlace 84 = .ok (.goto 12, 3)) ∧ (decode cX11_partnerPlace 87 = .ok (.iload 8, 2)) ∧ (decode cX11_partnerPlace 89 = .ok (.iconst 2, 1)) ∧ (decode cX11_partnerPlace 90 = .ok (.if_icmp .eq 6, 3)) ∧ (decode cX11_partnerPlace 93 = .ok (.iload 7, 2)) := by decide +kernel
theorem dX11_partnerPlace_67 : decode cX11_partnerPlace 67 = .ok (.goto 29, 3) := dGR_15_c_391.1
theorem dX11_partnerPlace_70 : decode cX11_partnerPlace 70 = .ok (.iload 8, 2) := dGR_15_c_391.2.1
theorem dX11_partnerPlace_72 : decode cX11_partnerPlace 72 = .ok (.iconst 2, 1) := dGR_15_c_391.2.2.1
theorem dX11_partnerPlace_73 : decode cX11_partnerPlace 73 = .ok (.if_icmp .eq 14, 3) := dGR_15_c_391.2.2.2.1
theorem dX11_partnerPlace_76 : decode cX11_partnerPlace 76 = .ok (.iload 6, 2) := dGR_15_c_391.2.2.2.2.1
theorem dX11_partnerPlace_78 : decode cX11_partnerPlace 78 = .ok (.ifCond .le 9, 3) := dGR_15_c_391.2.2.2.2.2.1
theorem dX11_partnerPlace_81 : decode cX11_partnerPlace 81 = .ok (.iinc 6 (-1), 3) := dGR_15_c_391.2.2.2.2.2.2.1
theorem dX11_partnerPlace_84 : decode cX11_partnerPlace 84 = .ok (.goto 12, 3) := dGR_15_c_391.2.2.2.2.2.2.2.1
theorem dX11_partnerPlace_87 : decode cX11_partnerPlace 87 = .ok (.iload 8, 2) := dGR_15_c_391.2.2.2.2.2.2.2.2.1
theorem dX11_partnerPlace_89 : decode cX11_partnerPlace 89 = .ok (.iconst 2, 1) := dGR_15_c_391.2.2.2.2.2.2.2.2.2.1
theorem dX11_partnerPlace_90 : decode cX11_partnerPlace 90 = .ok (.if_icmp .eq 6, 3) := dGR_15_c_391.2.2.2.2.2.2.2.2.2.2.1
theorem dX11_partnerPlace_93 : decode cX11_partnerPlace 93 = .ok (.iload 7, 2) := dGR_15_c_391.2.2.2.2.2.2.2.2.2.2.2
set_option maxRecDepth 100000 in
theorem dGR_15_c_392 : (decode cX11_partnerPlace 95 = .ok (.ireturn, 1)) ∧ (decode cX11_partnerPlace 96 = .ok (.iload 7, 2)) ∧ (decode cX11_partnerPlace 98 = .ok (.iload 5, 2)) ∧ (decode cX11_partnerPlace 100 = .ok (.iadd, 1)) ∧ (decode cX11_partnerPlace 101 = .ok (.istore 7, 2)) ∧ (decode cX11_partnerPlace 103 = .ok (.goto (-66), 3)) ∧ (decode cX11_partnerPlace 106 = .ok (.iconst (-1), 1)) ∧ (decode cX11_partnerPlace 107 = .ok (.ireturn, 1)) := by decide +kernel
theorem dX11_partnerPlace_95 : decode cX11_partnerPlace 95 = .ok (.ireturn, 1) := dGR_15_c_392.1
theorem dX11_partnerPlace_96 : decode cX11_partnerPlace 96 = .ok (.iload 7, 2) := dGR_15_c_392.2.1
theorem dX11_partnerPlace_98 : decode cX11_partnerPlace 98 = .ok (.iload 5, 2) := dGR_15_c_392.2.2.1
theorem dX11_partnerPlace_100 : decode cX11_partnerPlace 100 = .ok (.iadd, 1) := dGR_15_c_392.2.2.2.1
theorem dX11_partnerPlace_101 : decode cX11_partnerPlace 101 = .ok (.istore 7, 2) := dGR_15_c_392.2.2.2.2.1
theorem dX11_partnerPlace_103 : decode cX11_partnerPlace 103 = .ok (.goto (-66), 3) := dGR_15_c_392.2.2.2.2.2.1
theorem dX11_partnerPlace_106 : decode cX11_partnerPlace 106 = .ok (.iconst (-1), 1) := dGR_15_c_392.2.2.2.2.2.2.1
theorem dX11_partnerPlace_107 : decode cX11_partnerPlace 107 = .ok (.ireturn, 1) := dGR_15_c_392.2.2.2.2.2.2.2
set_option maxRecDepth 100000 in
theorem dGR_15_c_393 : (decode cX11_tableOf 0 = .ok (.iload_n 1, 1)) ∧ (decode cX11_tableOf 1 = .ok (.ifCond .ne 10, 3)) ∧ (decode cX11_tableOf 4 = .ok (.aload_n 0, 1)) ∧ (decode cX11_tableOf 5 = .ok (.getfield 37, 3)) ∧ (decode cX11_tableOf 8 = .ok (.goto 7, 3)) ∧ (decode cX11_tableOf 11 = .ok (.aload_n 0, 1)) ∧ (decode cX11_tableOf 12 = .ok (.getfield 41, 3)) ∧ (decode cX11_tableOf 15 = .ok (.astore_n 2, 1)) ∧ (decode cX11_tableOf 16 = .ok (.aload_n 2, 1)) ∧ (decode cX11_tableOf 17 = .ok (.getfield 393, 3)) ∧ (decode cX11_tableOf 20 = .ok (.ifCond .ne 19, 3)) ∧ (decode cX11_tableOf 23 = .ok (.aload_n 2, 1)) := by decide +kernel
theorem dX11_tableOf_0 : decode cX11_tableOf 0 = .ok (.iload_n 1, 1) := dGR_15_c_393.1
theorem dX11_tableOf_1 : decode cX11_tableOf 1 = .ok (.ifCond .ne 10, 3) := dGR_15_c_393.2.1
theorem dX11_tableOf_4 : decode cX11_tableOf 4 = .ok (.aload_n 0, 1) := dGR_15_c_393.2.2.1
theorem dX11_tableOf_5 : decode cX11_tableOf 5 = .ok (.getfield 37, 3) := dGR_15_c_393.2.2.2.1
theorem dX11_tableOf_8 : decode cX11_tableOf 8 = .ok (.goto 7, 3) := dGR_15_c_393.2.2.2.2.1
theorem dX11_tableOf_11 : decode cX11_tableOf 11 = .ok (.aload_n 0, 1) := dGR_15_c_393.2.2.2.2.2.1
theorem dX11_tableOf_12 : decode cX11_tableOf 12 = .ok (.getfield 41, 3) := dGR_15_c_393.2.2.2.2.2.2.1
theorem dX11_tableOf_15 : decode cX11_tableOf 15 = .ok (.astore_n 2, 1) := dGR_15_c_393.2.2.2.2.2.2.2.1
theorem dX11_tableOf_16 : decode cX11_tableOf 16 = .ok (.aload_n 2, 1) := dGR_15_c_393.2.2.2.2.2.2.2.2.1
theorem dX11_tableOf_17 : decode cX11_tableOf 17 = .ok (.getfield 393, 3) := dGR_15_c_393.2.2.2.2.2.2.2.2.2.1
theorem dX11_tableOf_20 : decode cX11_tableOf 20 = .ok (.ifCond .ne 19, 3) := dGR_15_c_393.2.2.2.2.2.2.2.2.2.2.1
theorem dX11_tableOf_23 : decode cX11_tableOf 23 = .ok (.aload_n 2, 1) := dGR_15_c_393.2.2.2.2.2.2.2.2.2.2.2
set_option maxRecDepth 100000 in
theorem dGR_15_c_394 : (decode cX11_tableOf 24 = .ok (.aload_n 0, 1)) ∧ (decode cX11_tableOf 25 = .ok (.getfield 26, 3)) ∧ (decode cX11_tableOf 28 = .ok (.aload_n 0, 1)) ∧ (decode cX11_tableOf 29 = .ok (.getfield 26, 3)) ∧ (decode cX11_tableOf 32 = .ok (.iload_n 1, 1)) ∧ (decode cX11_tableOf 33 = .ok (.invokevirtual 164, 3)) ∧ (decode cX11_tableOf 36 = .ok (.invokevirtual 400, 3)) ∧ (decode cX11_tableOf 39 = .ok (.aload_n 2, 1)) ∧ (decode cX11_tableOf 40 = .ok (.areturn, 1)) := by decide +kernel
theorem dX11_tableOf_24 : decode cX11_tableOf 24 = .ok (.aload_n 0, 1) := dGR_15_c_394.1
theorem dX11_tableOf_25 : decode cX11_tableOf 25 = .ok (.getfield 26, 3) := dGR_15_c_394.2.1
theorem dX11_tableOf_28 : decode cX11_tableOf 28 = .ok (.aload_n 0, 1) := dGR_15_c_394.2.2.1
theorem dX11_tableOf_29 : decode cX11_tableOf 29 = .ok (.getfield 26, 3) := dGR_15_c_394.2.2.2.1
theorem dX11_tableOf_32 : decode cX11_tableOf 32 = .ok (.iload_n 1, 1) := dGR_15_c_394.2.2.2.2.1
theorem dX11_tableOf_33 : decode cX11_tableOf 33 = .ok (.invokevirtual 164, 3) := dGR_15_c_394.2.2.2.2.2.1
theorem dX11_tableOf_36 : decode cX11_tableOf 36 = .ok (.invokevirtual 400, 3) := dGR_15_c_394.2.2.2.2.2.2.1
theorem dX11_tableOf_39 : decode cX11_tableOf 39 = .ok (.aload_n 2, 1) := dGR_15_c_394.2.2.2.2.2.2.2.1
theorem dX11_tableOf_40 : decode cX11_tableOf 40 = .ok (.areturn, 1) := dGR_15_c_394.2.2.2.2.2.2.2.2
set_option maxRecDepth 100000 in
theorem dGR_15_c_395 : (decode cX11_tableRefusal 0 = .ok (.iload_n 1, 1)) ∧ (decode cX11_tableRefusal 1 = .ok (.ifCond .ne 5, 3)) ∧ (decode cX11_tableRefusal 4 = .ok (.iconst 1, 1)) ∧ (decode cX11_tableRefusal 5 = .ok (.ireturn, 1)) ∧ (decode cX11_tableRefusal 6 = .ok (.aload_n 0, 1)) ∧ (decode cX11_tableRefusal 7 = .ok (.iload_n 2, 1)) ∧ (decode cX11_tableRefusal 8 = .ok (.invokevirtual 268, 3)) ∧ (decode cX11_tableRefusal 11 = .ok (.invokevirtual 272, 3)) ∧ (decode cX11_tableRefusal 14 = .ok (.ifCond .eq 7, 3)) ∧ (decode cX11_tableRefusal 17 = .ok (.iconst 0, 1)) ∧ (decode cX11_tableRefusal 18 = .ok (.goto 5, 3)) ∧ (decode cX11_tableRefusal 21 = .ok (.bipush 7, 2)) := by decide +kernel
theorem dX11_tableRefusal_0 : decode cX11_tableRefusal 0 = .ok (.iload_n 1, 1) := dGR_15_c_395.1
theorem dX11_tableRefusal_1 : decode cX11_tableRefusal 1 = .ok (.ifCond .ne 5, 3) := dGR_15_c_395.2.1
theorem dX11_tableRefusal_4 : decode cX11_tableRefusal 4 = .ok (.iconst 1, 1) := dGR_15_c_395.2.2.1
theorem dX11_tableRefusal_5 : decode cX11_tableRefusal 5 = .ok (.ireturn, 1) := dGR_15_c_395.2.2.2.1
theorem dX11_tableRefusal_6 : decode cX11_tableRefusal 6 = .ok (.aload_n 0, 1) := dGR_15_c_395.2.2.2.2.1
theorem dX11_tableRefusal_7 : decode cX11_tableRefusal 7 = .ok (.iload_n 2, 1) := dGR_15_c_395.2.2.2.2.2.1
theorem dX11_tableRefusal_8 : decode cX11_tableRefusal 8 = .ok (.invokevirtual 268, 3) := dGR_15_c_395.2.2.2.2.2.2.1
theorem dX11_tableRefusal_11 : decode cX11_tableRefusal 11 = .ok (.invokevirtual 272, 3) := dGR_15_c_395.2.2.2.2.2.2.2.1
theorem dX11_tableRefusal_14 : decode cX11_tableRefusal 14 = .ok (.ifCond .eq 7, 3) := dGR_15_c_395.2.2.2.2.2.2.2.2.1
theorem dX11_tableRefusal_17 : decode cX11_tableRefusal 17 = .ok (.iconst 0, 1) := dGR_15_c_395.2.2.2.2.2.2.2.2.2.1
theorem dX11_tableRefusal_18 : decode cX11_tableRefusal 18 = .ok (.goto 5, 3) := dGR_15_c_395.2.2.2.2.2.2.2.2.2.2.1
theorem dX11_tableRefusal_21 : decode cX11_tableRefusal 21 = .ok (.bipush 7, 2) := dGR_15_c_395.2.2.2.2.2.2.2.2.2.2.2
theorem dX11_tableRefusal_23 : decode cX11_tableRefusal 23 = .ok (.ireturn, 1) := by decide +kernel
set_option maxRecDepth 100000 in
theorem dGR_15_c_396 : (decode cX11_summaryRefusal 0 = .ok (.iload_n 1, 1)) ∧ (decode cX11_summaryRefusal 1 = .ok (.ifCond .ne 5, 3)) ∧ (decode cX11_summaryRefusal 4 = .ok (.iconst 1, 1)) ∧ (decode cX11_summaryRefusal 5 = .ok (.ireturn, 1)) ∧ (decode cX11_summaryRefusal 6 = .ok (.aload_n 0, 1)) ∧ (decode cX11_summaryRefusal 7 = .ok (.iload_n 2, 1)) ∧ (decode cX11_summaryRefusal 8 = .ok (.invokevirtual 268, 3)) ∧ (decode cX11_summaryRefusal 11 = .ok (.astore 4, 2)) ∧ (decode cX11_summaryRefusal 13 = .ok (.aload 4, 2)) ∧ (decode cX11_summaryRefusal 15 = .ok (.invokevirtual 272, 3)) ∧ (decode cX11_summaryRefusal 18 = .ok (.ifCond .ne 6, 3)) ∧ (decode cX11_summaryRefusal 21 = .ok (.bipush 7, 2)) := by decide +kernel
theorem dX11_summaryRefusal_0 : decode cX11_summaryRefusal 0 = .ok (.iload_n 1, 1) := dGR_15_c_396.1
theorem dX11_summaryRefusal_1 : decode cX11_summaryRefusal 1 = .ok (.ifCond .ne 5, 3) := dGR_15_c_396.2.1
theorem dX11_summaryRefusal_4 : decode cX11_summaryRefusal 4 = .ok (.iconst 1, 1) := dGR_15_c_396.2.2.1
theorem dX11_summaryRefusal_5 : decode cX11_summaryRefusal 5 = .ok (.ireturn, 1) := dGR_15_c_396.2.2.2.1
theorem dX11_summaryRefusal_6 : decode cX11_summaryRefusal 6 = .ok (.aload_n 0, 1) := dGR_15_c_396.2.2.2.2.1
theorem dX11_summaryRefusal_7 : decode cX11_summaryRefusal 7 = .ok (.iload_n 2, 1) := dGR_15_c_396.2.2.2.2.2.1
theorem dX11_summaryRefusal_8 : decode cX11_summaryRefusal 8 = .ok (.invokevirtual 268, 3) := dGR_15_c_396.2.2.2.2.2.2.1
theorem dX11_summaryRefusal_11 : decode cX11_summaryRefusal 11 = .ok (.astore 4, 2) := dGR_15_c_396.2.2.2.2.2.2.2.1
theorem dX11_summaryRefusal_13 : decode cX11_summaryRefusal 13 = .ok (.aload 4, 2) := dGR_15_c_396.2.2.2.2.2.2.2.2.1
theorem dX11_summaryRefusal_15 : decode cX11_summaryRefusal 15 = .ok (.invokevirtual 272, 3) := dGR_15_c_396.2.2.2.2.2.2.2.2.2.1
theorem dX11_summaryRefusal_18 : decode cX11_summaryRefusal 18 = .ok (.ifCond .ne 6, 3) := dGR_15_c_396.2.2.2.2.2.2.2.2.2.2.1
theorem dX11_summaryRefusal_21 : decode cX11_summaryRefusal 21 = .ok (.bipush 7, 2) := dGR_15_c_396.2.2.2.2.2.2.2.2.2.2.2
set_option maxRecDepth 100000 in
theorem dGR_15_c_397 : (decode cX11_summaryRefusal 23 = .ok (.ireturn, 1)) ∧ (decode cX11_summaryRefusal 24 = .ok (.iload_n 3, 1)) ∧ (decode cX11_summaryRefusal 25 = .ok (.ifCond .lt 16, 3)) ∧ (decode cX11_summaryRefusal 28 = .ok (.iload_n 3, 1)) ∧ (decode cX11_summaryRefusal 29 = .ok (.aload 4, 2)) ∧ (decode cX11_summaryRefusal 31 = .ok (.getfield 275, 3)) ∧ (decode cX11_summaryRefusal 34 = .ok (.if_icmp .ge 7, 3)) ∧ (decode cX11_summaryRefusal 37 = .ok (.iconst 0, 1)) ∧ (decode cX11_summaryRefusal 38 = .ok (.goto 5, 3)) ∧ (decode cX11_summaryRefusal 41 = .ok (.bipush 6, 2)) ∧ (decode cX11_summaryRefusal 43 = .ok (.ireturn, 1)) := by decide +kernel
theorem dX11_summaryRefusal_23 : decode cX11_summaryRefusal 23 = .ok (.ireturn, 1) := dGR_15_c_397.1
theorem dX11_summaryRefusal_24 : decode cX11_summaryRefusal 24 = .ok (.iload_n 3, 1) := dGR_15_c_397.2.1
theorem dX11_summaryRefusal_25 : decode cX11_summaryRefusal 25 = .ok (.ifCond .lt 16, 3) := dGR_15_c_397.2.2.1
theorem dX11_summaryRefusal_28 : decode cX11_summaryRefusal 28 = .ok (.iload_n 3, 1) := dGR_15_c_397.2.2.2.1
theorem dX11_summaryRefusal_29 : decode cX11_summaryRefusal 29 = .ok (.aload 4, 2) := dGR_15_c_397.2.2.2.2.1
theorem dX11_summaryRefusal_31 : decode cX11_summaryRefusal 31 = .ok (.getfield 275, 3) := dGR_15_c_397.2.2.2.2.2.1
theorem dX11_summaryRefusal_34 : decode cX11_summaryRefusal 34 = .ok (.if_icmp .ge 7, 3) := dGR_15_c_397.2.2.2.2.2.2.1
theorem dX11_summaryRefusal_37 : decode cX11_summaryRefusal 37 = .ok (.iconst 0, 1) := dGR_15_c_397.2.2.2.2.2.2.2.1
theorem dX11_summaryRefusal_38 : decode cX11_summaryRefusal 38 = .ok (.goto 5, 3) := dGR_15_c_397.2.2.2.2.2.2.2.2.1
theorem dX11_summaryRefusal_41 : decode cX11_summaryRefusal 41 = .ok (.bipush 6, 2) := dGR_15_c_397.2.2.2.2.2.2.2.2.2.1
theorem dX11_summaryRefusal_43 : decode cX11_summaryRefusal 43 = .ok (.ireturn, 1) := dGR_15_c_397.2.2.2.2.2.2.2.2.2.2
set_option maxRecDepth 100000 in
theorem dGR_15_c_398 : (decode cX11_tellLength 0 = .ok (.aload_n 0, 1)) ∧ (decode cX11_tellLength 1 = .ok (.getfield 47, 3)) ∧ (decode cX11_tellLength 4 = .ok (.getfield 331, 3)) ∧ (decode cX11_tellLength 7 = .ok (.iload_n 1, 1)) ∧ (decode cX11_tellLength 8 = .ok (.iaload, 1)) ∧ (decode cX11_tellLength 9 = .ok (.istore_n 2, 1)) ∧ (decode cX11_tellLength 10 = .ok (.iload_n 2, 1)) ∧ (decode cX11_tellLength 11 = .ok (.iconst (-1), 1)) ∧ (decode cX11_tellLength 12 = .ok (.if_icmp .ne 12, 3)) ∧ (decode cX11_tellLength 15 = .ok (.aload_n 0, 1)) ∧ (decode cX11_tellLength 16 = .ok (.bipush 6, 2)) ∧ (decode cX11_tellLength 18 = .ok (.invokevirtual 110, 3)) := by decide +kernel
theorem dX11_tellLength_0 : decode cX11_tellLength 0 = .ok (.aload_n 0, 1) := dGR_15_c_398.1
theorem dX11_tellLength_1 : decode cX11_tellLength 1 = .ok (.getfield 47, 3) := dGR_15_c_398.2.1
theorem dX11_tellLength_4 : decode cX11_tellLength 4 = .ok (.getfield 331, 3) := dGR_15_c_398.2.2.1
theorem dX11_tellLength_7 : decode cX11_tellLength 7 = .ok (.iload_n 1, 1) := dGR_15_c_398.2.2.2.1
theorem dX11_tellLength_8 : decode cX11_tellLength 8 = .ok (.iaload, 1) := dGR_15_c_398.2.2.2.2.1
theorem dX11_tellLength_9 : decode cX11_tellLength 9 = .ok (.istore_n 2, 1) := dGR_15_c_398.2.2.2.2.2.1
theorem dX11_tellLength_10 : decode cX11_tellLength 10 = .ok (.iload_n 2, 1) := dGR_15_c_398.2.2.2.2.2.2.1
theorem dX11_tellLength_11 : decode cX11_tellLength 11 = .ok (.iconst (-1), 1) := dGR_15_c_398.2.2.2.2.2.2.2.1
theorem dX11_tellLength_12 : decode cX11_tellLength 12 = .ok (.if_icmp .ne 12, 3) := dGR_15_c_398.2.2.2.2.2.2.2.2.1
theorem dX11_tellLength_15 : decode cX11_tellLength 15 = .ok (.aload_n 0, 1) := dGR_15_c_398.2.2.2.2.2.2.2.2.2.1
theorem dX11_tellLength_16 : decode cX11_tellLength 16 = .ok (.bipush 6, 2) := dGR_15_c_398.2.2.2.2.2.2.2.2.2.2.1
theorem dX11_tellLength_18 : decode cX11_tellLength 18 = .ok (.invokevirtual 110, 3) := dGR_15_c_398.2.2.2.2.2.2.2.2.2.2.2
set_option maxRecDepth 100000 in
theorem dGR_15_c_399 : (decode cX11_tellLength 21 = .ok (.goto 8, 3)) ∧ (decode cX11_tellLength 24 = .ok (.aload_n 0, 1)) ∧ (decode cX11_tellLength 25 = .ok (.iload_n 2, 1)) ∧ (decode cX11_tellLength 26 = .ok (.invokevirtual 145, 3)) ∧ (decode cX11_tellLength 29 = .ok (.ireturn, 1)) := by decide +kernel
theorem dX11_tellLength_21 : decode cX11_tellLength 21 = .ok (.goto 8, 3) := dGR_15_c_399.1
theorem dX11_tellLength_24 : decode cX11_tellLength 24 = .ok (.aload_n 0, 1) := dGR_15_c_399.2.1
theorem dX11_tellLength_25 : decode cX11_tellLength 25 = .ok (.iload_n 2, 1) := dGR_15_c_399.2.2.1
theorem dX11_tellLength_26 : decode cX11_tellLength 26 = .ok (.invokevirtual 145, 3) := dGR_15_c_399.2.2.2.1
theorem dX11_tellLength_29 : decode cX11_tellLength 29 = .ok (.ireturn, 1) := dGR_15_c_399.2.2.2.2
abbrev f_c_X11_tellLength : List (Nat × Int) := [(62, 0)]
set_option maxHeartbeats 4000000 in
set_option maxRecDepth 100000 in
theorem c_X11_tellLength (G : KG) (l : Launch) (M : Mem) (c0 : Int) (a1 : Int) (hI_M : Inv false M) (hk_c0 : kd c0 = 62) (hpre : -2147483648 ≤ a1 ∧ a1 ≤ 2147483647 ∧ 0 ≤ a1 ∧ a1 ≤ 15) : KC false G l yX11_tellLength cX11_tellLength 3 (some .int) (1, 21) [vR G c0, vI a1] M (fun A => kQi false G A (fun (r : Int) (N : Mem) => Inv false N ∧ Fr f_c_X11_tellLength M N ∧ (r ≥ -1 ∧ r ≤ 1000000000))) := by
  refine kx_met (lo := [some (vR G c0), some (vI a1), none]) (by decide) (Nat.le_of_ble_eq_true rfl) rfl ?_
  intro X F hQ
  have hF_M : Fr f_c_X11_tellLength M M := Fr.rf _ _
  refine kx_aload_n 1 F 0 dX11_tellLength_0 rfl rfl rfl ?_
  refine kx_getr 4 F fl_X11_47 hk_c0 rfl rfl (j := 10) rfl dX11_tellLength_1 (v := (M c0 10)) rfl rfl ?_
  have hk_1 : kd (M c0 10) = 41 := Inv.r hI_M hk_c0 rfl 10 rfl rfl
  refine kx_getr 7 F fl_X11_331 hk_1 rfl rfl (j := 0) rfl dX11_tellLength_4 (v := (M (M c0 10) 0)) rfl rfl ?_
  have hk_2 : kd (M (M c0 10) 0) = 42 := Inv.r hI_M hk_1 rfl 0 rfl rfl
  refine kx_iload_n 8 F 1 dX11_tellLength_7 rfl rfl rfl ?_
  refine kx_iald 9 F hk_2 rfl rfl (by omega) (by decide) dX11_tellLength_8 (v := (M (M (M c0 10) 0) a1)) rfl rfl ?_
  have h_3 := Inv.g hI_M hk_2 rfl a1 (a := (-1)) (b := 1000000000) rfl rfl
  refine kx_istore_n 10 F 2 (lo' := [some (vR G c0), some (vI a1), some (vI (M (M (M c0 10) 0) a1))]) dX11_tellLength_9 rfl (by decide) rfl rfl rfl ?_
  refine kx_iload_n 11 F 2 dX11_tellLength_10 rfl rfl rfl ?_
  refine kx_iconst 12 F dX11_tellLength_11 rfl ?_
  refine kx_icmp_ne 15 F 24 dX11_tellLength_12 (by decide) rfl (by omega) (by decide) (fun h_4 => ?_) (fun h_4 => ?_)
  · refine kx_aload_n 25 F 0 dX11_tellLength_24 rfl rfl rfl ?_
    refine kx_iload_n 26 F 2 dX11_tellLength_25 rfl rfl rfl ?_
    refine kx_Vi 29 (ci := 0) F (As := [vI (M (M (M c0 10) 0) a1)]) (st := []) vd_X11_145 (c_X11_answer G l M c0 (M (M (M c0 10) 0) a1) hI_M hk_c0 (by omega)) hk_c0 rfl rfl rfl ⟨by decide, by decide⟩ rfl rfl (Nat.le_of_ble_eq_true rfl) dX11_tellLength_26 rfl ?_
    intro r_5 N_6 q_7
    obtain ⟨hI_N_6, hG_N_6, q_7c⟩ := q_7
    have hF_N_6 : Fr f_c_X11_tellLength M N_6 := Fr.c hF_M hG_N_6 rfl
    exact kx_iret F hQ ⟨hI_N_6, hF_N_6, (by omega)⟩ dX11_tellLength_29
  · refine kx_aload_n 16 F 0 dX11_tellLength_15 rfl rfl rfl ?_
    refine kx_bipush 18 F dX11_tellLength_16 (by decide) rfl ?_
    refine kx_Vi 21 (ci := 0) F (As := [vI 6]) (st := []) vd_X11_110 (c_X11_refuse G l M c0 6 hI_M hk_c0 (by omega)) hk_c0 rfl rfl rfl ⟨by decide, by decide⟩ rfl rfl (Nat.le_of_ble_eq_true rfl) dX11_tellLength_18 rfl ?_
    intro r_8 N_9 q_10
    obtain ⟨hI_N_9, hG_N_9, q_10c⟩ := q_10
    have hF_N_9 : Fr f_c_X11_tellLength M N_9 := Fr.c hF_M hG_N_9 rfl
    subst q_10c
    refine kx_goto 29 F dX11_tellLength_21 (by decide) ?_
    exact kx_iret F hQ ⟨hI_N_9, hF_N_9, (by omega)⟩ dX11_tellLength_29
set_option maxRecDepth 100000 in
theorem dGR_15_c_400 : (decode cX11_tellLetter 0 = .ok (.aload_n 0, 1)) ∧ (decode cX11_tellLetter 1 = .ok (.getfield 47, 3)) ∧ (decode cX11_tellLetter 4 = .ok (.getfield 331, 3)) ∧ (decode cX11_tellLetter 7 = .ok (.iload_n 1, 1)) ∧ (decode cX11_tellLetter 8 = .ok (.iaload, 1)) ∧ (decode cX11_tellLetter 9 = .ok (.istore_n 3, 1)) ∧ (decode cX11_tellLetter 10 = .ok (.iload_n 3, 1)) ∧ (decode cX11_tellLetter 11 = .ok (.iconst (-1), 1)) ∧ (decode cX11_tellLetter 12 = .ok (.if_icmp .eq 8, 3)) ∧ (decode cX11_tellLetter 15 = .ok (.iload_n 2, 1)) ∧ (decode cX11_tellLetter 16 = .ok (.iload_n 3, 1)) ∧ (decode cX11_tellLetter 17 = .ok (.if_icmp .lt 10, 3)) := by decide +kernel
theorem dX11_tellLetter_0 : decode cX11_tellLetter 0 = .ok (.aload_n 0, 1) := dGR_15_c_400.1
theorem dX11_tellLetter_1 : decode cX11_tellLetter 1 = .ok (.getfield 47, 3) := dGR_15_c_400.2.1
theorem dX11_tellLetter_4 : decode cX11_tellLetter 4 = .ok (.getfield 331, 3) := dGR_15_c_400.2.2.1
theorem dX11_tellLetter_7 : decode cX11_tellLetter 7 = .ok (.iload_n 1, 1) := dGR_15_c_400.2.2.2.1
theorem dX11_tellLetter_8 : decode cX11_tellLetter 8 = .ok (.iaload, 1) := dGR_15_c_400.2.2.2.2.1
theorem dX11_tellLetter_9 : decode cX11_tellLetter 9 = .ok (.istore_n 3, 1) := dGR_15_c_400.2.2.2.2.2.1
theorem dX11_tellLetter_10 : decode cX11_tellLetter 10 = .ok (.iload_n 3, 1) := dGR_15_c_400.2.2.2.2.2.2.1
theorem dX11_tellLetter_11 : decode cX11_tellLetter 11 = .ok (.iconst (-1), 1) := dGR_15_c_400.2.2.2.2.2.2.2.1
theorem dX11_tellLetter_12 : decode cX11_tellLetter 12 = .ok (.if_icmp .eq 8, 3) := dGR_15_c_400.2.2.2.2.2.2.2.2.1
theorem dX11_tellLetter_15 : decode cX11_tellLetter 15 = .ok (.iload_n 2, 1) := dGR_15_c_400.2.2.2.2.2.2.2.2.2.1
theorem dX11_tellLetter_16 : decode cX11_tellLetter 16 = .ok (.iload_n 3, 1) := dGR_15_c_400.2.2.2.2.2.2.2.2.2.2.1
theorem dX11_tellLetter_17 : decode cX11_tellLetter 17 = .ok (.if_icmp .lt 10, 3) := dGR_15_c_400.2.2.2.2.2.2.2.2.2.2.2
set_option maxRecDepth 100000 in
theorem dGR_15_c_401 : (decode cX11_tellLetter 20 = .ok (.aload_n 0, 1)) ∧ (decode cX11_tellLetter 21 = .ok (.bipush 6, 2)) ∧ (decode cX11_tellLetter 23 = .ok (.invokevirtual 110, 3)) ∧ (decode cX11_tellLetter 26 = .ok (.ireturn, 1)) ∧ (decode cX11_tellLetter 27 = .ok (.iload_n 3, 1)) ∧ (decode cX11_tellLetter 28 = .ok (.bipush 6, 2)) ∧ (decode cX11_tellLetter 30 = .ok (.if_icmp .le 10, 3)) ∧ (decode cX11_tellLetter 33 = .ok (.aload_n 0, 1)) ∧ (decode cX11_tellLetter 34 = .ok (.bipush 7, 2)) ∧ (decode cX11_tellLetter 36 = .ok (.invokevirtual 110, 3)) ∧ (decode cX11_tellLetter 39 = .ok (.ireturn, 1)) ∧ (decode cX11_tellLetter 40 = .ok (.aload_n 0, 1)) := by decide +kernel
theorem dX11_tellLetter_20 : decode cX11_tellLetter 20 = .ok (.aload_n 0, 1) := dGR_15_c_401.1
theorem dX11_tellLetter_21 : decode cX11_tellLetter 21 = .ok (.bipush 6, 2) := dGR_15_c_401.2.1
theorem dX11_tellLetter_23 : decode cX11_tellLetter 23 = .ok (.invokevirtual 110, 3) := dGR_15_c_401.2.2.1
theorem dX11_tellLetter_26 : decode cX11_tellLetter 26 = .ok (.ireturn, 1) := dGR_15_c_401.2.2.2.1
theorem dX11_tellLetter_27 : decode cX11_tellLetter 27 = .ok (.iload_n 3, 1) := dGR_15_c_401.2.2.2.2.1
theorem dX11_tellLetter_28 : decode cX11_tellLetter 28 = .ok (.bipush 6, 2) := dGR_15_c_401.2.2.2.2.2.1
theorem dX11_tellLetter_30 : decode cX11_tellLetter 30 = .ok (.if_icmp .le 10, 3) := dGR_15_c_401.2.2.2.2.2.2.1
theorem dX11_tellLetter_33 : decode cX11_tellLetter 33 = .ok (.aload_n 0, 1) := dGR_15_c_401.2.2.2.2.2.2.2.1
theorem dX11_tellLetter_34 : decode cX11_tellLetter 34 = .ok (.bipush 7, 2) := dGR_15_c_401.2.2.2.2.2.2.2.2.1
theorem dX11_tellLetter_36 : decode cX11_tellLetter 36 = .ok (.invokevirtual 110, 3) := dGR_15_c_401.2.2.2.2.2.2.2.2.2.1
theorem dX11_tellLetter_39 : decode cX11_tellLetter 39 = .ok (.ireturn, 1) := dGR_15_c_401.2.2.2.2.2.2.2.2.2.2.1
theorem dX11_tellLetter_40 : decode cX11_tellLetter 40 = .ok (.aload_n 0, 1) := dGR_15_c_401.2.2.2.2.2.2.2.2.2.2.2
set_option maxRecDepth 100000 in
theorem dGR_15_c_402 : (decode cX11_tellLetter 41 = .ok (.aload_n 0, 1)) ∧ (decode cX11_tellLetter 42 = .ok (.getfield 47, 3)) ∧ (decode cX11_tellLetter 45 = .ok (.getfield 404, 3)) ∧ (decode cX11_tellLetter 48 = .ok (.iload_n 1, 1)) ∧ (decode cX11_tellLetter 49 = .ok (.iaload, 1)) ∧ (decode cX11_tellLetter 50 = .ok (.aload_n 0, 1)) ∧ (decode cX11_tellLetter 51 = .ok (.getfield 26, 3)) ∧ (decode cX11_tellLetter 54 = .ok (.getfield 160, 3)) ∧ (decode cX11_tellLetter 57 = .ok (.iload_n 3, 1)) ∧ (decode cX11_tellLetter 58 = .ok (.iconst 1, 1)) ∧ (decode cX11_tellLetter 59 = .ok (.isub, 1)) ∧ (decode cX11_tellLetter 60 = .ok (.iload_n 2, 1)) := by decide +kernel
theorem dX11_tellLetter_41 : decode cX11_tellLetter 41 = .ok (.aload_n 0, 1) := dGR_15_c_402.1
theorem dX11_tellLetter_42 : decode cX11_tellLetter 42 = .ok (.getfield 47, 3) := dGR_15_c_402.2.1
theorem dX11_tellLetter_45 : decode cX11_tellLetter 45 = .ok (.getfield 404, 3) := dGR_15_c_402.2.2.1
theorem dX11_tellLetter_48 : decode cX11_tellLetter 48 = .ok (.iload_n 1, 1) := dGR_15_c_402.2.2.2.1
theorem dX11_tellLetter_49 : decode cX11_tellLetter 49 = .ok (.iaload, 1) := dGR_15_c_402.2.2.2.2.1
theorem dX11_tellLetter_50 : decode cX11_tellLetter 50 = .ok (.aload_n 0, 1) := dGR_15_c_402.2.2.2.2.2.1
theorem dX11_tellLetter_51 : decode cX11_tellLetter 51 = .ok (.getfield 26, 3) := dGR_15_c_402.2.2.2.2.2.2.1
theorem dX11_tellLetter_54 : decode cX11_tellLetter 54 = .ok (.getfield 160, 3) := dGR_15_c_402.2.2.2.2.2.2.2.1
theorem dX11_tellLetter_57 : decode cX11_tellLetter 57 = .ok (.iload_n 3, 1) := dGR_15_c_402.2.2.2.2.2.2.2.2.1
theorem dX11_tellLetter_58 : decode cX11_tellLetter 58 = .ok (.iconst 1, 1) := dGR_15_c_402.2.2.2.2.2.2.2.2.2.1
theorem dX11_tellLetter_59 : decode cX11_tellLetter 59 = .ok (.isub, 1) := dGR_15_c_402.2.2.2.2.2.2.2.2.2.2.1
theorem dX11_tellLetter_60 : decode cX11_tellLetter 60 = .ok (.iload_n 2, 1) := dGR_15_c_402.2.2.2.2.2.2.2.2.2.2.2
set_option maxRecDepth 100000 in
theorem dGR_15_c_403 : (decode cX11_tellLetter 61 = .ok (.isub, 1)) ∧ (decode cX11_tellLetter 62 = .ok (.invokestatic 348, 3)) ∧ (decode cX11_tellLetter 65 = .ok (.invokevirtual 145, 3)) ∧ (decode cX11_tellLetter 68 = .ok (.ireturn, 1)) := by decide +kernel
theorem dX11_tellLetter_61 : decode cX11_tellLetter 61 = .ok (.isub, 1) := dGR_15_c_403.1
theorem dX11_tellLetter_62 : decode cX11_tellLetter 62 = .ok (.invokestatic 348, 3) := dGR_15_c_403.2.1
theorem dX11_tellLetter_65 : decode cX11_tellLetter 65 = .ok (.invokevirtual 145, 3) := dGR_15_c_403.2.2.1
theorem dX11_tellLetter_68 : decode cX11_tellLetter 68 = .ok (.ireturn, 1) := dGR_15_c_403.2.2.2
abbrev f_c_X11_tellLetter : List (Nat × Int) := [(62, 0)]
set_option maxHeartbeats 4000000 in
set_option maxRecDepth 100000 in
theorem c_X11_tellLetter (G : KG) (l : Launch) (M : Mem) (c0 : Int) (a1 : Int) (a2 : Int) (hI_M : Inv false M) (hk_c0 : kd c0 = 62) (hpre : -2147483648 ≤ a1 ∧ a1 ≤ 2147483647 ∧ -2147483648 ≤ a2 ∧ a2 ≤ 2147483647 ∧ 0 ≤ a1 ∧ a1 ≤ 15) : KC false G l yX11_tellLetter cX11_tellLetter 4 (some .int) (2, 46) [vR G c0, vI a1, vI a2] M (fun A => kQi false G A (fun (r : Int) (N : Mem) => Inv false N ∧ Fr f_c_X11_tellLetter M N ∧ (r ≥ -2147483646 ∧ r ≤ 2147483646))) := by
  refine kx_met (lo := [some (vR G c0), some (vI a1), some (vI a2), none]) (by decide) (Nat.le_of_ble_eq_true rfl) rfl ?_
  intro X F hQ
  have hF_M : Fr f_c_X11_tellLetter M M := Fr.rf _ _
  refine kx_aload_n 1 F 0 dX11_tellLetter_0 rfl rfl rfl ?_
  refine kx_getr 4 F fl_X11_47 hk_c0 rfl rfl (j := 10) rfl dX11_tellLetter_1 (v := (M c0 10)) rfl rfl ?_
  have hk_1 : kd (M c0 10) = 41 := Inv.r hI_M hk_c0 rfl 10 rfl rfl
  refine kx_getr 7 F fl_X11_331 hk_1 rfl rfl (j := 0) rfl dX11_tellLetter_4 (v := (M (M c0 10) 0)) rfl rfl ?_
  have hk_2 : kd (M (M c0 10) 0) = 42 := Inv.r hI_M hk_1 rfl 0 rfl rfl
  refine kx_iload_n 8 F 1 dX11_tellLetter_7 rfl rfl rfl ?_
  refine kx_iald 9 F hk_2 rfl rfl (by omega) (by decide) dX11_tellLetter_8 (v := (M (M (M c0 10) 0) a1)) rfl rfl ?_
  have h_3 := Inv.g hI_M hk_2 rfl a1 (a := (-1)) (b := 1000000000) rfl rfl
  refine kx_istore_n 10 F 3 (lo' := [some (vR G c0), some (vI a1), some (vI a2), some (vI (M (M (M c0 10) 0) a1))]) dX11_tellLetter_9 rfl (by decide) rfl rfl rfl ?_
  refine kx_iload_n 11 F 3 dX11_tellLetter_10 rfl rfl rfl ?_
  refine kx_iconst 12 F dX11_tellLetter_11 rfl ?_
  refine kx_icmp_eq 15 F 20 dX11_tellLetter_12 (by decide) rfl (by omega) (by decide) (fun h_4 => ?_) (fun h_4 => ?_)
  · refine kx_aload_n 21 F 0 dX11_tellLetter_20 rfl rfl rfl ?_
    refine kx_bipush 23 F dX11_tellLetter_21 (by decide) rfl ?_
    refine kx_Vi 26 (ci := 0) F (As := [vI 6]) (st := []) vd_X11_110 (c_X11_refuse G l M c0 6 hI_M hk_c0 (by omega)) hk_c0 rfl rfl rfl ⟨by decide, by decide⟩ rfl rfl (Nat.le_of_ble_eq_true rfl) dX11_tellLetter_23 rfl ?_
    intro r_5 N_6 q_7
    obtain ⟨hI_N_6, hG_N_6, q_7c⟩ := q_7
    have hF_N_6 : Fr f_c_X11_tellLetter M N_6 := Fr.c hF_M hG_N_6 rfl
    subst q_7c
    exact kx_iret F hQ ⟨hI_N_6, hF_N_6, (by omega)⟩ dX11_tellLetter_26
  · refine kx_iload_n 16 F 2 dX11_tellLetter_15 rfl rfl rfl ?_
    refine kx_iload_n 17 F 3 dX11_tellLetter_16 rfl rfl rfl ?_
    refine kx_icmp_lt 20 F 27 dX11_tellLetter_17 (by decide) rfl (by omega) (by omega) (fun h_8 => ?_) (fun h_8 => ?_)
    · refine kx_iload_n 28 F 3 dX11_tellLetter_27 rfl rfl rfl ?_
      refine kx_bipush 30 F dX11_tellLetter_28 (by decide) rfl ?_
      refine kx_icmp_le 33 F 40 dX11_tellLetter_30 (by decide) rfl (by omega) (by decide) (fun h_9 => ?_) (fun h_9 => ?_)
      · refine kx_aload_n 41 F 0 dX11_tellLetter_40 rfl rfl rfl ?_
        refine kx_aload_n 42 F 0 dX11_tellLetter_41 rfl rfl rfl ?_
        refine kx_getr 45 F fl_X11_47 hk_c0 rfl rfl (j := 10) rfl dX11_tellLetter_42 (v := (M c0 10)) rfl rfl ?_
        refine kx_getr 48 F fl_X11_404 hk_1 rfl rfl (j := 1) rfl dX11_tellLetter_45 (v := (M (M c0 10) 1)) rfl rfl ?_
        have hk_10 : kd (M (M c0 10) 1) = 43 := Inv.r hI_M hk_1 rfl 1 rfl rfl
        refine kx_iload_n 49 F 1 dX11_tellLetter_48 rfl rfl rfl ?_
        refine kx_iald 50 F hk_10 rfl rfl (by omega) (by decide) dX11_tellLetter_49 (v := (M (M (M c0 10) 1) a1)) rfl rfl ?_
        have h_11 := Inv.g hI_M hk_10 rfl a1 (a := (-2147483648)) (b := 2147483647) rfl rfl
        refine kx_aload_n 51 F 0 dX11_tellLetter_50 rfl rfl rfl ?_
        refine kx_getr 54 F fl_X11_26 hk_c0 rfl rfl (j := 5) rfl dX11_tellLetter_51 (v := (M c0 5)) rfl rfl ?_
        have hk_12 : kd (M c0 5) = 12 := Inv.r hI_M hk_c0 rfl 5 rfl rfl
        refine kx_geti 57 F fl_X11_160 hk_12 rfl rfl (j := 2) rfl dX11_tellLetter_54 (v := (M (M c0 5) 2)) rfl rfl ?_
        have h_13 := Inv.g hI_M hk_12 rfl 2 (a := 0) (b := 6) rfl rfl
        refine kx_iload_n 58 F 3 dX11_tellLetter_57 rfl rfl rfl ?_
        refine kx_iconst 59 F dX11_tellLetter_58 rfl ?_
        refine kx_isub 60 F (v := (M (M (M c0 10) 0) a1) - 1) dX11_tellLetter_59 rfl rfl ?_
        refine kx_iload_n 61 F 2 dX11_tellLetter_60 rfl rfl rfl ?_
        refine kx_isub 62 F (v := (M (M (M c0 10) 0) a1) - a2 - 1) dX11_tellLetter_61 (by omega) rfl ?_
        refine kx_wrapi (fun w_14 h_15 _ => ?_)
        refine kx_Si 65 F (As := [vI (M (M (M c0 10) 1) a1), vI (M (M c0 5) 2), vI w_14]) (st := [vR G c0]) sd_X11_348 (c_X2_digit G l M (M (M (M c0 10) 1) a1) (M (M c0 5) 2) w_14 hI_M (by omega)) ⟨by decide, by decide⟩ rfl rfl (Nat.le_of_ble_eq_true rfl) dX11_tellLetter_62 rfl ?_
        intro r_16 N_17 q_18
        obtain ⟨rfl, q_18c⟩ := q_18
        refine kx_Vi 68 (ci := 0) F (As := [vI r_16]) (st := []) vd_X11_145 (c_X11_answer G l M c0 r_16 hI_M hk_c0 (by omega)) hk_c0 rfl rfl rfl ⟨by decide, by decide⟩ rfl rfl (Nat.le_of_ble_eq_true rfl) dX11_tellLetter_65 rfl ?_
        intro r_19 N_20 q_21
        obtain ⟨hI_N_20, hG_N_20, q_21c⟩ := q_21
        have hF_N_20 : Fr f_c_X11_tellLetter M N_20 := Fr.c hF_M hG_N_20 rfl
        exact kx_iret F hQ ⟨hI_N_20, hF_N_20, (by omega)⟩ dX11_tellLetter_68
      · refine kx_aload_n 34 F 0 dX11_tellLetter_33 rfl rfl rfl ?_
        refine kx_bipush 36 F dX11_tellLetter_34 (by decide) rfl ?_
        refine kx_Vi 39 (ci := 0) F (As := [vI 7]) (st := []) vd_X11_110 (c_X11_refuse G l M c0 7 hI_M hk_c0 (by omega)) hk_c0 rfl rfl rfl ⟨by decide, by decide⟩ rfl rfl (Nat.le_of_ble_eq_true rfl) dX11_tellLetter_36 rfl ?_
        intro r_22 N_23 q_24
        obtain ⟨hI_N_23, hG_N_23, q_24c⟩ := q_24
        have hF_N_23 : Fr f_c_X11_tellLetter M N_23 := Fr.c hF_M hG_N_23 rfl
        subst q_24c
        exact kx_iret F hQ ⟨hI_N_23, hF_N_23, (by omega)⟩ dX11_tellLetter_39
    · refine kx_aload_n 21 F 0 dX11_tellLetter_20 rfl rfl rfl ?_
      refine kx_bipush 23 F dX11_tellLetter_21 (by decide) rfl ?_
      refine kx_Vi 26 (ci := 0) F (As := [vI 6]) (st := []) vd_X11_110 (c_X11_refuse G l M c0 6 hI_M hk_c0 (by omega)) hk_c0 rfl rfl rfl ⟨by decide, by decide⟩ rfl rfl (Nat.le_of_ble_eq_true rfl) dX11_tellLetter_23 rfl ?_
      intro r_25 N_26 q_27
      obtain ⟨hI_N_26, hG_N_26, q_27c⟩ := q_27
      have hF_N_26 : Fr f_c_X11_tellLetter M N_26 := Fr.c hF_M hG_N_26 rfl
      subst q_27c
      exact kx_iret F hQ ⟨hI_N_26, hF_N_26, (by omega)⟩ dX11_tellLetter_26
set_option maxRecDepth 100000 in
theorem dGR_15_c_404 : (decode cX11_tray 0 = .ok (.aload_n 0, 1)) ∧ (decode cX11_tray 1 = .ok (.getfield 10, 3)) ∧ (decode cX11_tray 4 = .ok (.iload_n 1, 1)) ∧ (decode cX11_tray 5 = .ok (.invokevirtual 83, 3)) ∧ (decode cX11_tray 8 = .ok (.ifCond .eq 22, 3)) ∧ (decode cX11_tray 11 = .ok (.iload_n 2, 1)) ∧ (decode cX11_tray 12 = .ok (.iconst 0, 1)) ∧ (decode cX11_tray 13 = .ok (.iconst 3, 1)) ∧ (decode cX11_tray 14 = .ok (.invokestatic 87, 3)) ∧ (decode cX11_tray 17 = .ok (.ifCond .eq 13, 3)) ∧ (decode cX11_tray 20 = .ok (.iload_n 3, 1)) ∧ (decode cX11_tray 21 = .ok (.iconst 0, 1)) := by decide +kernel
theorem dX11_tray_0 : decode cX11_tray 0 = .ok (.aload_n 0, 1) := dGR_15_c_404.1
theorem dX11_tray_1 : decode cX11_tray 1 = .ok (.getfield 10, 3) := dGR_15_c_404.2.1
theorem dX11_tray_4 : decode cX11_tray 4 = .ok (.iload_n 1, 1) := dGR_15_c_404.2.2.1
theorem dX11_tray_5 : decode cX11_tray 5 = .ok (.invokevirtual 83, 3) := dGR_15_c_404.2.2.2.1
theorem dX11_tray_8 : decode cX11_tray 8 = .ok (.ifCond .eq 22, 3) := dGR_15_c_404.2.2.2.2.1
theorem dX11_tray_11 : decode cX11_tray 11 = .ok (.iload_n 2, 1) := dGR_15_c_404.2.2.2.2.2.1
theorem dX11_tray_12 : decode cX11_tray 12 = .ok (.iconst 0, 1) := dGR_15_c_404.2.2.2.2.2.2.1
theorem dX11_tray_13 : decode cX11_tray 13 = .ok (.iconst 3, 1) := dGR_15_c_404.2.2.2.2.2.2.2.1
theorem dX11_tray_14 : decode cX11_tray 14 = .ok (.invokestatic 87, 3) := dGR_15_c_404.2.2.2.2.2.2.2.2.1
theorem dX11_tray_17 : decode cX11_tray 17 = .ok (.ifCond .eq 13, 3) := dGR_15_c_404.2.2.2.2.2.2.2.2.2.1
theorem dX11_tray_20 : decode cX11_tray 20 = .ok (.iload_n 3, 1) := dGR_15_c_404.2.2.2.2.2.2.2.2.2.2.1
theorem dX11_tray_21 : decode cX11_tray 21 = .ok (.iconst 0, 1) := dGR_15_c_404.2.2.2.2.2.2.2.2.2.2.2
set_option maxRecDepth 100000 in
theorem dGR_15_c_405 : (decode cX11_tray 22 = .ok (.bipush 60, 2)) ∧ (decode cX11_tray 24 = .ok (.invokestatic 87, 3)) ∧ (decode cX11_tray 27 = .ok (.ifCond .ne 9, 3)) ∧ (decode cX11_tray 30 = .ok (.aload_n 0, 1)) ∧ (decode cX11_tray 31 = .ok (.iconst 1, 1)) ∧ (decode cX11_tray 32 = .ok (.invokevirtual 91, 3)) ∧ (decode cX11_tray 35 = .ok (.ireturn, 1)) ∧ (decode cX11_tray 36 = .ok (.aload_n 0, 1)) ∧ (decode cX11_tray 37 = .ok (.getfield 10, 3)) ∧ (decode cX11_tray 40 = .ok (.iload_n 1, 1)) ∧ (decode cX11_tray 41 = .ok (.iload_n 2, 1)) ∧ (decode cX11_tray 42 = .ok (.iload_n 3, 1)) := by decide +kernel
theorem dX11_tray_22 : decode cX11_tray 22 = .ok (.bipush 60, 2) := dGR_15_c_405.1
theorem dX11_tray_24 : decode cX11_tray 24 = .ok (.invokestatic 87, 3) := dGR_15_c_405.2.1
theorem dX11_tray_27 : decode cX11_tray 27 = .ok (.ifCond .ne 9, 3) := dGR_15_c_405.2.2.1
theorem dX11_tray_30 : decode cX11_tray 30 = .ok (.aload_n 0, 1) := dGR_15_c_405.2.2.2.1
theorem dX11_tray_31 : decode cX11_tray 31 = .ok (.iconst 1, 1) := dGR_15_c_405.2.2.2.2.1
theorem dX11_tray_32 : decode cX11_tray 32 = .ok (.invokevirtual 91, 3) := dGR_15_c_405.2.2.2.2.2.1
theorem dX11_tray_35 : decode cX11_tray 35 = .ok (.ireturn, 1) := dGR_15_c_405.2.2.2.2.2.2.1
theorem dX11_tray_36 : decode cX11_tray 36 = .ok (.aload_n 0, 1) := dGR_15_c_405.2.2.2.2.2.2.2.1
theorem dX11_tray_37 : decode cX11_tray 37 = .ok (.getfield 10, 3) := dGR_15_c_405.2.2.2.2.2.2.2.2.1
theorem dX11_tray_40 : decode cX11_tray 40 = .ok (.iload_n 1, 1) := dGR_15_c_405.2.2.2.2.2.2.2.2.2.1
theorem dX11_tray_41 : decode cX11_tray 41 = .ok (.iload_n 2, 1) := dGR_15_c_405.2.2.2.2.2.2.2.2.2.2.1
theorem dX11_tray_42 : decode cX11_tray 42 = .ok (.iload_n 3, 1) := dGR_15_c_405.2.2.2.2.2.2.2.2.2.2.2
set_option maxRecDepth 100000 in
theorem dGR_15_c_406 : (decode cX11_tray 43 = .ok (.invokevirtual 94, 3)) ∧ (decode cX11_tray 46 = .ok (.aload_n 0, 1)) ∧ (decode cX11_tray 47 = .ok (.invokevirtual 98, 3)) ∧ (decode cX11_tray 50 = .ok (.ireturn, 1)) := by decide +kernel
theorem dX11_tray_43 : decode cX11_tray 43 = .ok (.invokevirtual 94, 3) := dGR_15_c_406.1
theorem dX11_tray_46 : decode cX11_tray 46 = .ok (.aload_n 0, 1) := dGR_15_c_406.2.1
theorem dX11_tray_47 : decode cX11_tray 47 = .ok (.invokevirtual 98, 3) := dGR_15_c_406.2.2.1
theorem dX11_tray_50 : decode cX11_tray 50 = .ok (.ireturn, 1) := dGR_15_c_406.2.2.2
set_option maxRecDepth 100000 in
theorem dGR_15_c_407 : (decode cX11_write 0 = .ok (.aload_n 0, 1)) ∧ (decode cX11_write 1 = .ok (.getfield 10, 3)) ∧ (decode cX11_write 4 = .ok (.iload_n 1, 1)) ∧ (decode cX11_write 5 = .ok (.iload_n 2, 1)) ∧ (decode cX11_write 6 = .ok (.invokevirtual 102, 3)) ∧ (decode cX11_write 9 = .ok (.istore 5, 2)) ∧ (decode cX11_write 11 = .ok (.iload 5, 2)) ∧ (decode cX11_write 13 = .ok (.ifCond .eq 10, 3)) ∧ (decode cX11_write 16 = .ok (.aload_n 0, 1)) ∧ (decode cX11_write 17 = .ok (.iload 5, 2)) ∧ (decode cX11_write 19 = .ok (.invokevirtual 91, 3)) ∧ (decode cX11_write 22 = .ok (.ireturn, 1)) := by decide +kernel
theorem dX11_write_0 : decode cX11_write 0 = .ok (.aload_n 0, 1) := dGR_15_c_407.1
theorem dX11_write_1 : decode cX11_write 1 = .ok (.getfield 10, 3) := dGR_15_c_407.2.1
theorem dX11_write_4 : decode cX11_write 4 = .ok (.iload_n 1, 1) := dGR_15_c_407.2.2.1
theorem dX11_write_5 : decode cX11_write 5 = .ok (.iload_n 2, 1) := dGR_15_c_407.2.2.2.1
theorem dX11_write_6 : decode cX11_write 6 = .ok (.invokevirtual 102, 3) := dGR_15_c_407.2.2.2.2.1
theorem dX11_write_9 : decode cX11_write 9 = .ok (.istore 5, 2) := dGR_15_c_407.2.2.2.2.2.1
theorem dX11_write_11 : decode cX11_write 11 = .ok (.iload 5, 2) := dGR_15_c_407.2.2.2.2.2.2.1
theorem dX11_write_13 : decode cX11_write 13 = .ok (.ifCond .eq 10, 3) := dGR_15_c_407.2.2.2.2.2.2.2.1
theorem dX11_write_16 : decode cX11_write 16 = .ok (.aload_n 0, 1) := dGR_15_c_407.2.2.2.2.2.2.2.2.1
theorem dX11_write_17 : decode cX11_write 17 = .ok (.iload 5, 2) := dGR_15_c_407.2.2.2.2.2.2.2.2.2.1
theorem dX11_write_19 : decode cX11_write 19 = .ok (.invokevirtual 91, 3) := dGR_15_c_407.2.2.2.2.2.2.2.2.2.2.1
theorem dX11_write_22 : decode cX11_write 22 = .ok (.ireturn, 1) := dGR_15_c_407.2.2.2.2.2.2.2.2.2.2.2
set_option maxRecDepth 100000 in
theorem dGR_15_c_408 : (decode cX11_write 23 = .ok (.aload_n 0, 1)) ∧ (decode cX11_write 24 = .ok (.getfield 10, 3)) ∧ (decode cX11_write 27 = .ok (.iload_n 1, 1)) ∧ (decode cX11_write 28 = .ok (.iload_n 2, 1)) ∧ (decode cX11_write 29 = .ok (.lload_n 3, 1)) ∧ (decode cX11_write 30 = .ok (.invokevirtual 106, 3)) ∧ (decode cX11_write 33 = .ok (.aload_n 0, 1)) ∧ (decode cX11_write 34 = .ok (.invokevirtual 98, 3)) ∧ (decode cX11_write 37 = .ok (.ireturn, 1)) := by decide +kernel
theorem dX11_write_23 : decode cX11_write 23 = .ok (.aload_n 0, 1) := dGR_15_c_408.1
theorem dX11_write_24 : decode cX11_write 24 = .ok (.getfield 10, 3) := dGR_15_c_408.2.1
theorem dX11_write_27 : decode cX11_write 27 = .ok (.iload_n 1, 1) := dGR_15_c_408.2.2.1
theorem dX11_write_28 : decode cX11_write 28 = .ok (.iload_n 2, 1) := dGR_15_c_408.2.2.2.1
theorem dX11_write_29 : decode cX11_write 29 = .ok (.lload_n 3, 1) := dGR_15_c_408.2.2.2.2.1
theorem dX11_write_30 : decode cX11_write 30 = .ok (.invokevirtual 106, 3) := dGR_15_c_408.2.2.2.2.2.1
theorem dX11_write_33 : decode cX11_write 33 = .ok (.aload_n 0, 1) := dGR_15_c_408.2.2.2.2.2.2.1
theorem dX11_write_34 : decode cX11_write 34 = .ok (.invokevirtual 98, 3) := dGR_15_c_408.2.2.2.2.2.2.2.1
theorem dX11_write_37 : decode cX11_write 37 = .ok (.ireturn, 1) := dGR_15_c_408.2.2.2.2.2.2.2.2
set_option maxRecDepth 100000 in
theorem dGR_15_c_409 : (decode cX11_read 0 = .ok (.aload_n 0, 1)) ∧ (decode cX11_read 1 = .ok (.getfield 10, 3)) ∧ (decode cX11_read 4 = .ok (.iload_n 1, 1)) ∧ (decode cX11_read 5 = .ok (.iload_n 2, 1)) ∧ (decode cX11_read 6 = .ok (.invokevirtual 102, 3)) ∧ (decode cX11_read 9 = .ok (.istore_n 3, 1)) ∧ (decode cX11_read 10 = .ok (.iload_n 3, 1)) ∧ (decode cX11_read 11 = .ok (.ifCond .eq 10, 3)) ∧ (decode cX11_read 14 = .ok (.aload_n 0, 1)) ∧ (decode cX11_read 15 = .ok (.iload_n 3, 1)) ∧ (decode cX11_read 16 = .ok (.invokevirtual 110, 3)) ∧ (decode cX11_read 19 = .ok (.i2l, 1)) := by decide +kernel
theorem dX11_read_0 : decode cX11_read 0 = .ok (.aload_n 0, 1) := dGR_15_c_409.1
theorem dX11_read_1 : decode cX11_read 1 = .ok (.getfield 10, 3) := dGR_15_c_409.2.1
theorem dX11_read_4 : decode cX11_read 4 = .ok (.iload_n 1, 1) := dGR_15_c_409.2.2.1
theorem dX11_read_5 : decode cX11_read 5 = .ok (.iload_n 2, 1) := dGR_15_c_409.2.2.2.1
theorem dX11_read_6 : decode cX11_read 6 = .ok (.invokevirtual 102, 3) := dGR_15_c_409.2.2.2.2.1
theorem dX11_read_9 : decode cX11_read 9 = .ok (.istore_n 3, 1) := dGR_15_c_409.2.2.2.2.2.1
theorem dX11_read_10 : decode cX11_read 10 = .ok (.iload_n 3, 1) := dGR_15_c_409.2.2.2.2.2.2.1
theorem dX11_read_11 : decode cX11_read 11 = .ok (.ifCond .eq 10, 3) := dGR_15_c_409.2.2.2.2.2.2.2.1
theorem dX11_read_14 : decode cX11_read 14 = .ok (.aload_n 0, 1) := dGR_15_c_409.2.2.2.2.2.2.2.2.1
theorem dX11_read_15 : decode cX11_read 15 = .ok (.iload_n 3, 1) := dGR_15_c_409.2.2.2.2.2.2.2.2.2.1
theorem dX11_read_16 : decode cX11_read 16 = .ok (.invokevirtual 110, 3) := dGR_15_c_409.2.2.2.2.2.2.2.2.2.2.1
theorem dX11_read_19 : decode cX11_read 19 = .ok (.i2l, 1) := dGR_15_c_409.2.2.2.2.2.2.2.2.2.2.2
set_option maxRecDepth 100000 in
theorem dGR_15_c_410 : (decode cX11_read 20 = .ok (.lreturn, 1)) ∧ (decode cX11_read 21 = .ok (.aload_n 0, 1)) ∧ (decode cX11_read 22 = .ok (.iconst 0, 1)) ∧ (decode cX11_read 23 = .ok (.putfield 72, 3)) ∧ (decode cX11_read 26 = .ok (.aload_n 0, 1)) ∧ (decode cX11_read 27 = .ok (.getfield 10, 3)) ∧ (decode cX11_read 30 = .ok (.iload_n 1, 1)) ∧ (decode cX11_read 31 = .ok (.iload_n 2, 1)) ∧ (decode cX11_read 32 = .ok (.invokevirtual 114, 3)) ∧ (decode cX11_read 35 = .ok (.lreturn, 1)) := by decide +kernel
theorem dX11_read_20 : decode cX11_read 20 = .ok (.lreturn, 1) := dGR_15_c_410.1
theorem dX11_read_21 : decode cX11_read 21 = .ok (.aload_n 0, 1) := dGR_15_c_410.2.1
theorem dX11_read_22 : decode cX11_read 22 = .ok (.iconst 0, 1) := dGR_15_c_410.2.2.1
theorem dX11_read_23 : decode cX11_read 23 = .ok (.putfield 72, 3) := dGR_15_c_410.2.2.2.1
theorem dX11_read_26 : decode cX11_read 26 = .ok (.aload_n 0, 1) := dGR_15_c_410.2.2.2.2.1
theorem dX11_read_27 : decode cX11_read 27 = .ok (.getfield 10, 3) := dGR_15_c_410.2.2.2.2.2.1
theorem dX11_read_30 : decode cX11_read 30 = .ok (.iload_n 1, 1) := dGR_15_c_410.2.2.2.2.2.2.1
theorem dX11_read_31 : decode cX11_read 31 = .ok (.iload_n 2, 1) := dGR_15_c_410.2.2.2.2.2.2.2.1
theorem dX11_read_32 : decode cX11_read 32 = .ok (.invokevirtual 114, 3) := dGR_15_c_410.2.2.2.2.2.2.2.2.1
theorem dX11_read_35 : decode cX11_read 35 = .ok (.lreturn, 1) := dGR_15_c_410.2.2.2.2.2.2.2.2.2
set_option maxRecDepth 100000 in
theorem dGR_15_c_411 : (decode cX11_pour 0 = .ok (.aload_n 0, 1)) ∧ (decode cX11_pour 1 = .ok (.getfield 10, 3)) ∧ (decode cX11_pour 4 = .ok (.iload_n 1, 1)) ∧ (decode cX11_pour 5 = .ok (.iload_n 2, 1)) ∧ (decode cX11_pour 6 = .ok (.iload_n 3, 1)) ∧ (decode cX11_pour 7 = .ok (.iload 4, 2)) ∧ (decode cX11_pour 9 = .ok (.iload 5, 2)) ∧ (decode cX11_pour 11 = .ok (.invokevirtual 118, 3)) ∧ (decode cX11_pour 14 = .ok (.istore 6, 2)) ∧ (decode cX11_pour 16 = .ok (.iload 6, 2)) ∧ (decode cX11_pour 18 = .ok (.ifCond .eq 10, 3)) ∧ (decode cX11_pour 21 = .ok (.aload_n 0, 1)) := by decide +kernel
theorem dX11_pour_0 : decode cX11_pour 0 = .ok (.aload_n 0, 1) := dGR_15_c_411.1
theorem dX11_pour_1 : decode cX11_pour 1 = .ok (.getfield 10, 3) := dGR_15_c_411.2.1
theorem dX11_pour_4 : decode cX11_pour 4 = .ok (.iload_n 1, 1) := dGR_15_c_411.2.2.1
theorem dX11_pour_5 : decode cX11_pour 5 = .ok (.iload_n 2, 1) := dGR_15_c_411.2.2.2.1
theorem dX11_pour_6 : decode cX11_pour 6 = .ok (.iload_n 3, 1) := dGR_15_c_411.2.2.2.2.1
theorem dX11_pour_7 : decode cX11_pour 7 = .ok (.iload 4, 2) := dGR_15_c_411.2.2.2.2.2.1
theorem dX11_pour_9 : decode cX11_pour 9 = .ok (.iload 5, 2) := dGR_15_c_411.2.2.2.2.2.2.1
theorem dX11_pour_11 : decode cX11_pour 11 = .ok (.invokevirtual 118, 3) := dGR_15_c_411.2.2.2.2.2.2.2.1
theorem dX11_pour_14 : decode cX11_pour 14 = .ok (.istore 6, 2) := dGR_15_c_411.2.2.2.2.2.2.2.2.1
theorem dX11_pour_16 : decode cX11_pour 16 = .ok (.iload 6, 2) := dGR_15_c_411.2.2.2.2.2.2.2.2.2.1
theorem dX11_pour_18 : decode cX11_pour 18 = .ok (.ifCond .eq 10, 3) := dGR_15_c_411.2.2.2.2.2.2.2.2.2.2.1
theorem dX11_pour_21 : decode cX11_pour 21 = .ok (.aload_n 0, 1) := dGR_15_c_411.2.2.2.2.2.2.2.2.2.2.2
set_option maxRecDepth 100000 in
theorem dGR_15_c_412 : (decode cX11_pour 22 = .ok (.iload 6, 2)) ∧ (decode cX11_pour 24 = .ok (.invokevirtual 91, 3)) ∧ (decode cX11_pour 27 = .ok (.ireturn, 1)) ∧ (decode cX11_pour 28 = .ok (.aload_n 0, 1)) ∧ (decode cX11_pour 29 = .ok (.getfield 10, 3)) ∧ (decode cX11_pour 32 = .ok (.iload_n 1, 1)) ∧ (decode cX11_pour 33 = .ok (.iload_n 2, 1)) ∧ (decode cX11_pour 34 = .ok (.iload_n 3, 1)) ∧ (decode cX11_pour 35 = .ok (.iload 4, 2)) ∧ (decode cX11_pour 37 = .ok (.iload 5, 2)) ∧ (decode cX11_pour 39 = .ok (.invokevirtual 122, 3)) ∧ (decode cX11_pour 42 = .ok (.aload_n 0, 1)) := by decide +kernel
theorem dX11_pour_22 : decode cX11_pour 22 = .ok (.iload 6, 2) := dGR_15_c_412.1
theorem dX11_pour_24 : decode cX11_pour 24 = .ok (.invokevirtual 91, 3) := dGR_15_c_412.2.1
theorem dX11_pour_27 : decode cX11_pour 27 = .ok (.ireturn, 1) := dGR_15_c_412.2.2.1
theorem dX11_pour_28 : decode cX11_pour 28 = .ok (.aload_n 0, 1) := dGR_15_c_412.2.2.2.1
theorem dX11_pour_29 : decode cX11_pour 29 = .ok (.getfield 10, 3) := dGR_15_c_412.2.2.2.2.1
theorem dX11_pour_32 : decode cX11_pour 32 = .ok (.iload_n 1, 1) := dGR_15_c_412.2.2.2.2.2.1
theorem dX11_pour_33 : decode cX11_pour 33 = .ok (.iload_n 2, 1) := dGR_15_c_412.2.2.2.2.2.2.1
theorem dX11_pour_34 : decode cX11_pour 34 = .ok (.iload_n 3, 1) := dGR_15_c_412.2.2.2.2.2.2.2.1
theorem dX11_pour_35 : decode cX11_pour 35 = .ok (.iload 4, 2) := dGR_15_c_412.2.2.2.2.2.2.2.2.1
theorem dX11_pour_37 : decode cX11_pour 37 = .ok (.iload 5, 2) := dGR_15_c_412.2.2.2.2.2.2.2.2.2.1
theorem dX11_pour_39 : decode cX11_pour 39 = .ok (.invokevirtual 122, 3) := dGR_15_c_412.2.2.2.2.2.2.2.2.2.2.1
theorem dX11_pour_42 : decode cX11_pour 42 = .ok (.aload_n 0, 1) := dGR_15_c_412.2.2.2.2.2.2.2.2.2.2.2
theorem dX11_pour_43 : decode cX11_pour 43 = .ok (.invokevirtual 98, 3) := by decide +kernel
theorem dX11_pour_46 : decode cX11_pour 46 = .ok (.ireturn, 1) := by decide +kernel
set_option maxRecDepth 100000 in
theorem dGR_15_c_413 : (decode cX11_fault 0 = .ok (.iload_n 1, 1)) ∧ (decode cX11_fault 1 = .ok (.ifCond .ne 11, 3)) ∧ (decode cX11_fault 4 = .ok (.aload_n 0, 1)) ∧ (decode cX11_fault 5 = .ok (.getfield 19, 3)) ∧ (decode cX11_fault 8 = .ok (.getfield 148, 3)) ∧ (decode cX11_fault 11 = .ok (.ireturn, 1)) ∧ (decode cX11_fault 12 = .ok (.iload_n 1, 1)) ∧ (decode cX11_fault 13 = .ok (.iconst 1, 1)) ∧ (decode cX11_fault 14 = .ok (.if_icmp .ne 13, 3)) ∧ (decode cX11_fault 17 = .ok (.aload_n 0, 1)) ∧ (decode cX11_fault 18 = .ok (.getfield 19, 3)) ∧ (decode cX11_fault 21 = .ok (.getfield 151, 3)) := by decide +kernel
theorem dX11_fault_0 : decode cX11_fault 0 = .ok (.iload_n 1, 1) := dGR_15_c_413.1
theorem dX11_fault_1 : decode cX11_fault 1 = .ok (.ifCond .ne 11, 3) := dGR_15_c_413.2.1
theorem dX11_fault_4 : decode cX11_fault 4 = .ok (.aload_n 0, 1) := dGR_15_c_413.2.2.1
theorem dX11_fault_5 : decode cX11_fault 5 = .ok (.getfield 19, 3) := dGR_15_c_413.2.2.2.1
theorem dX11_fault_8 : decode cX11_fault 8 = .ok (.getfield 148, 3) := dGR_15_c_413.2.2.2.2.1
theorem dX11_fault_11 : decode cX11_fault 11 = .ok (.ireturn, 1) := dGR_15_c_413.2.2.2.2.2.1
theorem dX11_fault_12 : decode cX11_fault 12 = .ok (.iload_n 1, 1) := dGR_15_c_413.2.2.2.2.2.2.1
theorem dX11_fault_13 : decode cX11_fault 13 = .ok (.iconst 1, 1) := dGR_15_c_413.2.2.2.2.2.2.2.1
theorem dX11_fault_14 : decode cX11_fault 14 = .ok (.if_icmp .ne 13, 3) := dGR_15_c_413.2.2.2.2.2.2.2.2.1
theorem dX11_fault_17 : decode cX11_fault 17 = .ok (.aload_n 0, 1) := dGR_15_c_413.2.2.2.2.2.2.2.2.2.1
theorem dX11_fault_18 : decode cX11_fault 18 = .ok (.getfield 19, 3) := dGR_15_c_413.2.2.2.2.2.2.2.2.2.2.1
theorem dX11_fault_21 : decode cX11_fault 21 = .ok (.getfield 151, 3) := dGR_15_c_413.2.2.2.2.2.2.2.2.2.2.2
set_option maxRecDepth 100000 in
theorem dGR_15_c_414 : (decode cX11_fault 24 = .ok (.goto 4, 3)) ∧ (decode cX11_fault 27 = .ok (.iconst (-1), 1)) ∧ (decode cX11_fault 28 = .ok (.ireturn, 1)) := by decide +kernel
theorem dX11_fault_24 : decode cX11_fault 24 = .ok (.goto 4, 3) := dGR_15_c_414.1
theorem dX11_fault_27 : decode cX11_fault 27 = .ok (.iconst (-1), 1) := dGR_15_c_414.2.1
theorem dX11_fault_28 : decode cX11_fault 28 = .ok (.ireturn, 1) := dGR_15_c_414.2.2
set_option maxRecDepth 100000 in
theorem dGR_15_c_415 : (decode cX11_told 0 = .ok (.iload_n 1, 1)) ∧ (decode cX11_told 1 = .ok (.tableswitch 95 0 3 #[31, 43, 63, 83], 31)) ∧ (decode cX11_told 32 = .ok (.aload_n 0, 1)) ∧ (decode cX11_told 33 = .ok (.aload_n 0, 1)) ∧ (decode cX11_told 34 = .ok (.getfield 26, 3)) ∧ (decode cX11_told 37 = .ok (.getfield 154, 3)) ∧ (decode cX11_told 40 = .ok (.invokevirtual 145, 3)) ∧ (decode cX11_told 43 = .ok (.ireturn, 1)) ∧ (decode cX11_told 44 = .ok (.aload_n 0, 1)) ∧ (decode cX11_told 45 = .ok (.aload_n 0, 1)) ∧ (decode cX11_told 46 = .ok (.getfield 26, 3)) ∧ (decode cX11_told 49 = .ok (.getfield 157, 3)) := by decide +kernel
theorem dX11_told_0 : decode cX11_told 0 = .ok (.iload_n 1, 1) := dGR_15_c_415.1
theorem dX11_told_1 : decode cX11_told 1 = .ok (.tableswitch 95 0 3 #[31, 43, 63, 83], 31) := dGR_15_c_415.2.1
theorem dX11_told_32 : decode cX11_told 32 = .ok (.aload_n 0, 1) := dGR_15_c_415.2.2.1
theorem dX11_told_33 : decode cX11_told 33 = .ok (.aload_n 0, 1) := dGR_15_c_415.2.2.2.1
theorem dX11_told_34 : decode cX11_told 34 = .ok (.getfield 26, 3) := dGR_15_c_415.2.2.2.2.1
theorem dX11_told_37 : decode cX11_told 37 = .ok (.getfield 154, 3) := dGR_15_c_415.2.2.2.2.2.1
theorem dX11_told_40 : decode cX11_told 40 = .ok (.invokevirtual 145, 3) := dGR_15_c_415.2.2.2.2.2.2.1
theorem dX11_told_43 : decode cX11_told 43 = .ok (.ireturn, 1) := dGR_15_c_415.2.2.2.2.2.2.2.1
theorem dX11_told_44 : decode cX11_told 44 = .ok (.aload_n 0, 1) := dGR_15_c_415.2.2.2.2.2.2.2.2.1
theorem dX11_told_45 : decode cX11_told 45 = .ok (.aload_n 0, 1) := dGR_15_c_415.2.2.2.2.2.2.2.2.2.1
theorem dX11_told_46 : decode cX11_told 46 = .ok (.getfield 26, 3) := dGR_15_c_415.2.2.2.2.2.2.2.2.2.2.1
theorem dX11_told_49 : decode cX11_told 49 = .ok (.getfield 157, 3) := dGR_15_c_415.2.2.2.2.2.2.2.2.2.2.2
set_option maxRecDepth 100000 in
theorem dGR_15_c_416 : (decode cX11_told 52 = .ok (.aload_n 0, 1)) ∧ (decode cX11_told 53 = .ok (.getfield 26, 3)) ∧ (decode cX11_told 56 = .ok (.getfield 154, 3)) ∧ (decode cX11_told 59 = .ok (.isub, 1)) ∧ (decode cX11_told 60 = .ok (.invokevirtual 145, 3)) ∧ (decode cX11_told 63 = .ok (.ireturn, 1)) ∧ (decode cX11_told 64 = .ok (.aload_n 0, 1)) ∧ (decode cX11_told 65 = .ok (.aload_n 0, 1)) ∧ (decode cX11_told 66 = .ok (.getfield 26, 3)) ∧ (decode cX11_told 69 = .ok (.getfield 160, 3)) ∧ (decode cX11_told 72 = .ok (.aload_n 0, 1)) ∧ (decode cX11_told 73 = .ok (.getfield 26, 3)) := by decide +kernel
theorem dX11_told_52 : decode cX11_told 52 = .ok (.aload_n 0, 1) := dGR_15_c_416.1
theorem dX11_told_53 : decode cX11_told 53 = .ok (.getfield 26, 3) := dGR_15_c_416.2.1
theorem dX11_told_56 : decode cX11_told 56 = .ok (.getfield 154, 3) := dGR_15_c_416.2.2.1
theorem dX11_told_59 : decode cX11_told 59 = .ok (.isub, 1) := dGR_15_c_416.2.2.2.1
theorem dX11_told_60 : decode cX11_told 60 = .ok (.invokevirtual 145, 3) := dGR_15_c_416.2.2.2.2.1
theorem dX11_told_63 : decode cX11_told 63 = .ok (.ireturn, 1) := dGR_15_c_416.2.2.2.2.2.1
theorem dX11_told_64 : decode cX11_told 64 = .ok (.aload_n 0, 1) := dGR_15_c_416.2.2.2.2.2.2.1
theorem dX11_told_65 : decode cX11_told 65 = .ok (.aload_n 0, 1) := dGR_15_c_416.2.2.2.2.2.2.2.1
theorem dX11_told_66 : decode cX11_told 66 = .ok (.getfield 26, 3) := dGR_15_c_416.2.2.2.2.2.2.2.2.1
theorem dX11_told_69 : decode cX11_told 69 = .ok (.getfield 160, 3) := dGR_15_c_416.2.2.2.2.2.2.2.2.2.1
theorem dX11_told_72 : decode cX11_told 72 = .ok (.aload_n 0, 1) := dGR_15_c_416.2.2.2.2.2.2.2.2.2.2.1
theorem dX11_told_73 : decode cX11_told 73 = .ok (.getfield 26, 3) := dGR_15_c_416.2.2.2.2.2.2.2.2.2.2.2
set_option maxRecDepth 100000 in
theorem dGR_15_c_417 : (decode cX11_told 76 = .ok (.getfield 157, 3)) ∧ (decode cX11_told 79 = .ok (.isub, 1)) ∧ (decode cX11_told 80 = .ok (.invokevirtual 145, 3)) ∧ (decode cX11_told 83 = .ok (.ireturn, 1)) ∧ (decode cX11_told 84 = .ok (.aload_n 0, 1)) ∧ (decode cX11_told 85 = .ok (.aload_n 0, 1)) ∧ (decode cX11_told 86 = .ok (.getfield 26, 3)) ∧ (decode cX11_told 89 = .ok (.getfield 142, 3)) ∧ (decode cX11_told 92 = .ok (.invokevirtual 145, 3)) ∧ (decode cX11_told 95 = .ok (.ireturn, 1)) ∧ (decode cX11_told 96 = .ok (.aload_n 0, 1)) ∧ (decode cX11_told 97 = .ok (.iconst 1, 1)) := by decide +kernel
theorem dX11_told_76 : decode cX11_told 76 = .ok (.getfield 157, 3) := dGR_15_c_417.1
theorem dX11_told_79 : decode cX11_told 79 = .ok (.isub, 1) := dGR_15_c_417.2.1
theorem dX11_told_80 : decode cX11_told 80 = .ok (.invokevirtual 145, 3) := dGR_15_c_417.2.2.1
theorem dX11_told_83 : decode cX11_told 83 = .ok (.ireturn, 1) := dGR_15_c_417.2.2.2.1
theorem dX11_told_84 : decode cX11_told 84 = .ok (.aload_n 0, 1) := dGR_15_c_417.2.2.2.2.1
theorem dX11_told_85 : decode cX11_told 85 = .ok (.aload_n 0, 1) := dGR_15_c_417.2.2.2.2.2.1
theorem dX11_told_86 : decode cX11_told 86 = .ok (.getfield 26, 3) := dGR_15_c_417.2.2.2.2.2.2.1
theorem dX11_told_89 : decode cX11_told 89 = .ok (.getfield 142, 3) := dGR_15_c_417.2.2.2.2.2.2.2.1
theorem dX11_told_92 : decode cX11_told 92 = .ok (.invokevirtual 145, 3) := dGR_15_c_417.2.2.2.2.2.2.2.2.1
theorem dX11_told_95 : decode cX11_told 95 = .ok (.ireturn, 1) := dGR_15_c_417.2.2.2.2.2.2.2.2.2.1
theorem dX11_told_96 : decode cX11_told 96 = .ok (.aload_n 0, 1) := dGR_15_c_417.2.2.2.2.2.2.2.2.2.2.1
theorem dX11_told_97 : decode cX11_told 97 = .ok (.iconst 1, 1) := dGR_15_c_417.2.2.2.2.2.2.2.2.2.2.2
theorem dX11_told_98 : decode cX11_told 98 = .ok (.invokevirtual 110, 3) := by decide +kernel
theorem dX11_told_101 : decode cX11_told 101 = .ok (.ireturn, 1) := by decide +kernel
set_option maxRecDepth 100000 in
theorem dGR_15_c_418 : (decode cX11_automaton 0 = .ok (.aload_n 0, 1)) ∧ (decode cX11_automaton 1 = .ok (.getfield 26, 3)) ∧ (decode cX11_automaton 4 = .ok (.iload_n 1, 1)) ∧ (decode cX11_automaton 5 = .ok (.invokevirtual 163, 3)) ∧ (decode cX11_automaton 8 = .ok (.ifCond .ne 9, 3)) ∧ (decode cX11_automaton 11 = .ok (.aload_n 0, 1)) ∧ (decode cX11_automaton 12 = .ok (.iconst 1, 1)) ∧ (decode cX11_automaton 13 = .ok (.invokevirtual 110, 3)) ∧ (decode cX11_automaton 16 = .ok (.ireturn, 1)) ∧ (decode cX11_automaton 17 = .ok (.aload_n 0, 1)) ∧ (decode cX11_automaton 18 = .ok (.getfield 26, 3)) ∧ (decode cX11_automaton 21 = .ok (.iload_n 1, 1)) := by decide +kernel
theorem dX11_automaton_0 : decode cX11_automaton 0 = .ok (.aload_n 0, 1) := dGR_15_c_418.1
theorem dX11_automaton_1 : decode cX11_automaton 1 = .ok (.getfield 26, 3) := dGR_15_c_418.2.1
theorem dX11_automaton_4 : decode cX11_automaton 4 = .ok (.iload_n 1, 1) := dGR_15_c_418.2.2.1
theorem dX11_automaton_5 : decode cX11_automaton 5 = .ok (.invokevirtual 163, 3) := dGR_15_c_418.2.2.2.1
theorem dX11_automaton_8 : decode cX11_automaton 8 = .ok (.ifCond .ne 9, 3) := dGR_15_c_418.2.2.2.2.1
theorem dX11_automaton_11 : decode cX11_automaton 11 = .ok (.aload_n 0, 1) := dGR_15_c_418.2.2.2.2.2.1
theorem dX11_automaton_12 : decode cX11_automaton 12 = .ok (.iconst 1, 1) := dGR_15_c_418.2.2.2.2.2.2.1
theorem dX11_automaton_13 : decode cX11_automaton 13 = .ok (.invokevirtual 110, 3) := dGR_15_c_418.2.2.2.2.2.2.2.1
theorem dX11_automaton_16 : decode cX11_automaton 16 = .ok (.ireturn, 1) := dGR_15_c_418.2.2.2.2.2.2.2.2.1
theorem dX11_automaton_17 : decode cX11_automaton 17 = .ok (.aload_n 0, 1) := dGR_15_c_418.2.2.2.2.2.2.2.2.2.1
theorem dX11_automaton_18 : decode cX11_automaton 18 = .ok (.getfield 26, 3) := dGR_15_c_418.2.2.2.2.2.2.2.2.2.2.1
theorem dX11_automaton_21 : decode cX11_automaton 21 = .ok (.iload_n 1, 1) := dGR_15_c_418.2.2.2.2.2.2.2.2.2.2.2
set_option maxRecDepth 100000 in
theorem dGR_15_c_419 : (decode cX11_automaton 22 = .ok (.invokevirtual 164, 3)) ∧ (decode cX11_automaton 25 = .ok (.astore_n 3, 1)) ∧ (decode cX11_automaton 26 = .ok (.iload_n 2, 1)) ∧ (decode cX11_automaton 27 = .ok (.tableswitch 78 0 4 #[33, 42, 51, 60, 69], 33)) ∧ (decode cX11_automaton 60 = .ok (.aload_n 0, 1)) ∧ (decode cX11_automaton 61 = .ok (.aload_n 3, 1)) ∧ (decode cX11_automaton 62 = .ok (.getfield 168, 3)) ∧ (decode cX11_automaton 65 = .ok (.invokevirtual 145, 3)) ∧ (decode cX11_automaton 68 = .ok (.ireturn, 1)) ∧ (decode cX11_automaton 69 = .ok (.aload_n 0, 1)) ∧ (decode cX11_automaton 70 = .ok (.aload_n 3, 1)) ∧ (decode cX11_automaton 71 = .ok (.getfield 173, 3)) := by decide +kernel
theorem dX11_automaton_22 : decode cX11_automaton 22 = .ok (.invokevirtual 164, 3) := dGR_15_c_419.1
theorem dX11_automaton_25 : decode cX11_automaton 25 = .ok (.astore_n 3, 1) := dGR_15_c_419.2.1
theorem dX11_automaton_26 : decode cX11_automaton 26 = .ok (.iload_n 2, 1) := dGR_15_c_419.2.2.1
theorem dX11_automaton_27 : decode cX11_automaton 27 = .ok (.tableswitch 78 0 4 #[33, 42, 51, 60, 69], 33) := dGR_15_c_419.2.2.2.1
theorem dX11_automaton_60 : decode cX11_automaton 60 = .ok (.aload_n 0, 1) := dGR_15_c_419.2.2.2.2.1
theorem dX11_automaton_61 : decode cX11_automaton 61 = .ok (.aload_n 3, 1) := dGR_15_c_419.2.2.2.2.2.1
theorem dX11_automaton_62 : decode cX11_automaton 62 = .ok (.getfield 168, 3) := dGR_15_c_419.2.2.2.2.2.2.1
theorem dX11_automaton_65 : decode cX11_automaton 65 = .ok (.invokevirtual 145, 3) := dGR_15_c_419.2.2.2.2.2.2.2.1
theorem dX11_automaton_68 : decode cX11_automaton 68 = .ok (.ireturn, 1) := dGR_15_c_419.2.2.2.2.2.2.2.2.1
theorem dX11_automaton_69 : decode cX11_automaton 69 = .ok (.aload_n 0, 1) := dGR_15_c_419.2.2.2.2.2.2.2.2.2.1
theorem dX11_automaton_70 : decode cX11_automaton 70 = .ok (.aload_n 3, 1) := dGR_15_c_419.2.2.2.2.2.2.2.2.2.2.1
theorem dX11_automaton_71 : decode cX11_automaton 71 = .ok (.getfield 173, 3) := dGR_15_c_419.2.2.2.2.2.2.2.2.2.2.2
set_option maxRecDepth 100000 in
theorem dGR_15_c_420 : (decode cX11_automaton 74 = .ok (.invokevirtual 145, 3)) ∧ (decode cX11_automaton 77 = .ok (.ireturn, 1)) ∧ (decode cX11_automaton 78 = .ok (.aload_n 0, 1)) ∧ (decode cX11_automaton 79 = .ok (.aload_n 3, 1)) ∧ (decode cX11_automaton 80 = .ok (.getfield 176, 3)) ∧ (decode cX11_automaton 83 = .ok (.invokevirtual 145, 3)) ∧ (decode cX11_automaton 86 = .ok (.ireturn, 1)) ∧ (decode cX11_automaton 87 = .ok (.aload_n 0, 1)) ∧ (decode cX11_automaton 88 = .ok (.aload_n 3, 1)) ∧ (decode cX11_automaton 89 = .ok (.getfield 179, 3)) ∧ (decode cX11_automaton 92 = .ok (.invokevirtual 145, 3)) ∧ (decode cX11_automaton 95 = .ok (.ireturn, 1)) := by decide +kernel
theorem dX11_automaton_74 : decode cX11_automaton 74 = .ok (.invokevirtual 145, 3) := dGR_15_c_420.1
theorem dX11_automaton_77 : decode cX11_automaton 77 = .ok (.ireturn, 1) := dGR_15_c_420.2.1
theorem dX11_automaton_78 : decode cX11_automaton 78 = .ok (.aload_n 0, 1) := dGR_15_c_420.2.2.1
theorem dX11_automaton_79 : decode cX11_automaton 79 = .ok (.aload_n 3, 1) := dGR_15_c_420.2.2.2.1
theorem dX11_automaton_80 : decode cX11_automaton 80 = .ok (.getfield 176, 3) := dGR_15_c_420.2.2.2.2.1
theorem dX11_automaton_83 : decode cX11_automaton 83 = .ok (.invokevirtual 145, 3) := dGR_15_c_420.2.2.2.2.2.1
theorem dX11_automaton_86 : decode cX11_automaton 86 = .ok (.ireturn, 1) := dGR_15_c_420.2.2.2.2.2.2.1
theorem dX11_automaton_87 : decode cX11_automaton 87 = .ok (.aload_n 0, 1) := dGR_15_c_420.2.2.2.2.2.2.2.1
theorem dX11_automaton_88 : decode cX11_automaton 88 = .ok (.aload_n 3, 1) := dGR_15_c_420.2.2.2.2.2.2.2.2.1
theorem dX11_automaton_89 : decode cX11_automaton 89 = .ok (.getfield 179, 3) := dGR_15_c_420.2.2.2.2.2.2.2.2.2.1
theorem dX11_automaton_92 : decode cX11_automaton 92 = .ok (.invokevirtual 145, 3) := dGR_15_c_420.2.2.2.2.2.2.2.2.2.2.1
theorem dX11_automaton_95 : decode cX11_automaton 95 = .ok (.ireturn, 1) := dGR_15_c_420.2.2.2.2.2.2.2.2.2.2.2
set_option maxRecDepth 100000 in
theorem dGR_15_c_421 : (decode cX11_automaton 96 = .ok (.aload_n 0, 1)) ∧ (decode cX11_automaton 97 = .ok (.aload_n 3, 1)) ∧ (decode cX11_automaton 98 = .ok (.getfield 182, 3)) ∧ (decode cX11_automaton 101 = .ok (.invokevirtual 145, 3)) ∧ (decode cX11_automaton 104 = .ok (.ireturn, 1)) ∧ (decode cX11_automaton 105 = .ok (.aload_n 0, 1)) ∧ (decode cX11_automaton 106 = .ok (.iconst 1, 1)) ∧ (decode cX11_automaton 107 = .ok (.invokevirtual 110, 3)) ∧ (decode cX11_automaton 110 = .ok (.ireturn, 1)) := by decide +kernel
theorem dX11_automaton_96 : decode cX11_automaton 96 = .ok (.aload_n 0, 1) := dGR_15_c_421.1
theorem dX11_automaton_97 : decode cX11_automaton 97 = .ok (.aload_n 3, 1) := dGR_15_c_421.2.1
theorem dX11_automaton_98 : decode cX11_automaton 98 = .ok (.getfield 182, 3) := dGR_15_c_421.2.2.1
theorem dX11_automaton_101 : decode cX11_automaton 101 = .ok (.invokevirtual 145, 3) := dGR_15_c_421.2.2.2.1
theorem dX11_automaton_104 : decode cX11_automaton 104 = .ok (.ireturn, 1) := dGR_15_c_421.2.2.2.2.1
theorem dX11_automaton_105 : decode cX11_automaton 105 = .ok (.aload_n 0, 1) := dGR_15_c_421.2.2.2.2.2.1
theorem dX11_automaton_106 : decode cX11_automaton 106 = .ok (.iconst 1, 1) := dGR_15_c_421.2.2.2.2.2.2.1
theorem dX11_automaton_107 : decode cX11_automaton 107 = .ok (.invokevirtual 110, 3) := dGR_15_c_421.2.2.2.2.2.2.2.1
theorem dX11_automaton_110 : decode cX11_automaton 110 = .ok (.ireturn, 1) := dGR_15_c_421.2.2.2.2.2.2.2.2
set_option maxRecDepth 100000 in
theorem dGR_15_c_422 : (decode cX11_rule 0 = .ok (.aload_n 0, 1)) ∧ (decode cX11_rule 1 = .ok (.getfield 26, 3)) ∧ (decode cX11_rule 4 = .ok (.iload_n 1, 1)) ∧ (decode cX11_rule 5 = .ok (.invokevirtual 163, 3)) ∧ (decode cX11_rule 8 = .ok (.ifCond .eq 18, 3)) ∧ (decode cX11_rule 11 = .ok (.aload_n 0, 1)) ∧ (decode cX11_rule 12 = .ok (.getfield 26, 3)) ∧ (decode cX11_rule 15 = .ok (.iload_n 1, 1)) ∧ (decode cX11_rule 16 = .ok (.invokevirtual 164, 3)) ∧ (decode cX11_rule 19 = .ok (.iload_n 2, 1)) ∧ (decode cX11_rule 20 = .ok (.invokevirtual 185, 3)) ∧ (decode cX11_rule 23 = .ok (.ifCond .ne 9, 3)) := by decide +kernel
theorem dX11_rule_0 : decode cX11_rule 0 = .ok (.aload_n 0, 1) := dGR_15_c_422.1
theorem dX11_rule_1 : decode cX11_rule 1 = .ok (.getfield 26, 3) := dGR_15_c_422.2.1
theorem dX11_rule_4 : decode cX11_rule 4 = .ok (.iload_n 1, 1) := dGR_15_c_422.2.2.1
theorem dX11_rule_5 : decode cX11_rule 5 = .ok (.invokevirtual 163, 3) := dGR_15_c_422.2.2.2.1
theorem dX11_rule_8 : decode cX11_rule 8 = .ok (.ifCond .eq 18, 3) := dGR_15_c_422.2.2.2.2.1
theorem dX11_rule_11 : decode cX11_rule 11 = .ok (.aload_n 0, 1) := dGR_15_c_422.2.2.2.2.2.1
theorem dX11_rule_12 : decode cX11_rule 12 = .ok (.getfield 26, 3) := dGR_15_c_422.2.2.2.2.2.2.1
theorem dX11_rule_15 : decode cX11_rule 15 = .ok (.iload_n 1, 1) := dGR_15_c_422.2.2.2.2.2.2.2.1
theorem dX11_rule_16 : decode cX11_rule 16 = .ok (.invokevirtual 164, 3) := dGR_15_c_422.2.2.2.2.2.2.2.2.1
theorem dX11_rule_19 : decode cX11_rule 19 = .ok (.iload_n 2, 1) := dGR_15_c_422.2.2.2.2.2.2.2.2.2.1
theorem dX11_rule_20 : decode cX11_rule 20 = .ok (.invokevirtual 185, 3) := dGR_15_c_422.2.2.2.2.2.2.2.2.2.2.1
theorem dX11_rule_23 : decode cX11_rule 23 = .ok (.ifCond .ne 9, 3) := dGR_15_c_422.2.2.2.2.2.2.2.2.2.2.2
set_option maxRecDepth 100000 in
theorem dGR_15_c_423 : (decode cX11_rule 26 = .ok (.aload_n 0, 1)) ∧ (decode cX11_rule 27 = .ok (.iconst 1, 1)) ∧ (decode cX11_rule 28 = .ok (.invokevirtual 110, 3)) ∧ (decode cX11_rule 31 = .ok (.ireturn, 1)) ∧ (decode cX11_rule 32 = .ok (.aload_n 0, 1)) ∧ (decode cX11_rule 33 = .ok (.getfield 26, 3)) ∧ (decode cX11_rule 36 = .ok (.iload_n 1, 1)) ∧ (decode cX11_rule 37 = .ok (.invokevirtual 164, 3)) ∧ (decode cX11_rule 40 = .ok (.astore 4, 2)) ∧ (decode cX11_rule 42 = .ok (.iload_n 3, 1)) ∧ (decode cX11_rule 43 = .ok (.tableswitch 97 0 3 #[29, 41, 53, 65], 29)) ∧ (decode cX11_rule 72 = .ok (.aload_n 0, 1)) := by decide +kernel
theorem dX11_rule_26 : decode cX11_rule 26 = .ok (.aload_n 0, 1) := dGR_15_c_423.1
theorem dX11_rule_27 : decode cX11_rule 27 = .ok (.iconst 1, 1) := dGR_15_c_423.2.1
theorem dX11_rule_28 : decode cX11_rule 28 = .ok (.invokevirtual 110, 3) := dGR_15_c_423.2.2.1
theorem dX11_rule_31 : decode cX11_rule 31 = .ok (.ireturn, 1) := dGR_15_c_423.2.2.2.1
theorem dX11_rule_32 : decode cX11_rule 32 = .ok (.aload_n 0, 1) := dGR_15_c_423.2.2.2.2.1
theorem dX11_rule_33 : decode cX11_rule 33 = .ok (.getfield 26, 3) := dGR_15_c_423.2.2.2.2.2.1
theorem dX11_rule_36 : decode cX11_rule 36 = .ok (.iload_n 1, 1) := dGR_15_c_423.2.2.2.2.2.2.1
theorem dX11_rule_37 : decode cX11_rule 37 = .ok (.invokevirtual 164, 3) := dGR_15_c_423.2.2.2.2.2.2.2.1
theorem dX11_rule_40 : decode cX11_rule 40 = .ok (.astore 4, 2) := dGR_15_c_423.2.2.2.2.2.2.2.2.1
theorem dX11_rule_42 : decode cX11_rule 42 = .ok (.iload_n 3, 1) := dGR_15_c_423.2.2.2.2.2.2.2.2.2.1
theorem dX11_rule_43 : decode cX11_rule 43 = .ok (.tableswitch 97 0 3 #[29, 41, 53, 65], 29) := dGR_15_c_423.2.2.2.2.2.2.2.2.2.2.1
theorem dX11_rule_72 : decode cX11_rule 72 = .ok (.aload_n 0, 1) := dGR_15_c_423.2.2.2.2.2.2.2.2.2.2.2
set_option maxRecDepth 100000 in
theorem dGR_15_c_424 : (decode cX11_rule 73 = .ok (.aload 4, 2)) ∧ (decode cX11_rule 75 = .ok (.getfield 188, 3)) ∧ (decode cX11_rule 78 = .ok (.iload_n 2, 1)) ∧ (decode cX11_rule 79 = .ok (.iaload, 1)) ∧ (decode cX11_rule 80 = .ok (.invokevirtual 145, 3)) ∧ (decode cX11_rule 83 = .ok (.ireturn, 1)) ∧ (decode cX11_rule 84 = .ok (.aload_n 0, 1)) ∧ (decode cX11_rule 85 = .ok (.aload 4, 2)) ∧ (decode cX11_rule 87 = .ok (.getfield 192, 3)) ∧ (decode cX11_rule 90 = .ok (.iload_n 2, 1)) ∧ (decode cX11_rule 91 = .ok (.iaload, 1)) ∧ (decode cX11_rule 92 = .ok (.invokevirtual 145, 3)) := by decide +kernel
theorem dX11_rule_73 : decode cX11_rule 73 = .ok (.aload 4, 2) := dGR_15_c_424.1
theorem dX11_rule_75 : decode cX11_rule 75 = .ok (.getfield 188, 3) := dGR_15_c_424.2.1
theorem dX11_rule_78 : decode cX11_rule 78 = .ok (.iload_n 2, 1) := dGR_15_c_424.2.2.1
theorem dX11_rule_79 : decode cX11_rule 79 = .ok (.iaload, 1) := dGR_15_c_424.2.2.2.1
theorem dX11_rule_80 : decode cX11_rule 80 = .ok (.invokevirtual 145, 3) := dGR_15_c_424.2.2.2.2.1
theorem dX11_rule_83 : decode cX11_rule 83 = .ok (.ireturn, 1) := dGR_15_c_424.2.2.2.2.2.1
theorem dX11_rule_84 : decode cX11_rule 84 = .ok (.aload_n 0, 1) := dGR_15_c_424.2.2.2.2.2.2.1
theorem dX11_rule_85 : decode cX11_rule 85 = .ok (.aload 4, 2) := dGR_15_c_424.2.2.2.2.2.2.2.1
theorem dX11_rule_87 : decode cX11_rule 87 = .ok (.getfield 192, 3) := dGR_15_c_424.2.2.2.2.2.2.2.2.1
theorem dX11_rule_90 : decode cX11_rule 90 = .ok (.iload_n 2, 1) := dGR_15_c_424.2.2.2.2.2.2.2.2.2.1
theorem dX11_rule_91 : decode cX11_rule 91 = .ok (.iaload, 1) := dGR_15_c_424.2.2.2.2.2.2.2.2.2.2.1
theorem dX11_rule_92 : decode cX11_rule 92 = .ok (.invokevirtual 145, 3) := dGR_15_c_424.2.2.2.2.2.2.2.2.2.2.2
set_option maxRecDepth 100000 in
theorem dGR_15_c_425 : (decode cX11_rule 95 = .ok (.ireturn, 1)) ∧ (decode cX11_rule 96 = .ok (.aload_n 0, 1)) ∧ (decode cX11_rule 97 = .ok (.aload 4, 2)) ∧ (decode cX11_rule 99 = .ok (.getfield 195, 3)) ∧ (decode cX11_rule 102 = .ok (.iload_n 2, 1)) ∧ (decode cX11_rule 103 = .ok (.iaload, 1)) ∧ (decode cX11_rule 104 = .ok (.invokevirtual 145, 3)) ∧ (decode cX11_rule 107 = .ok (.ireturn, 1)) ∧ (decode cX11_rule 108 = .ok (.aload 4, 2)) ∧ (decode cX11_rule 110 = .ok (.getfield 198, 3)) ∧ (decode cX11_rule 113 = .ok (.iload_n 2, 1)) ∧ (decode cX11_rule 114 = .ok (.iaload, 1)) := by decide +kernel
theorem dX11_rule_95 : decode cX11_rule 95 = .ok (.ireturn, 1) := dGR_15_c_425.1
theorem dX11_rule_96 : decode cX11_rule 96 = .ok (.aload_n 0, 1) := dGR_15_c_425.2.1
theorem dX11_rule_97 : decode cX11_rule 97 = .ok (.aload 4, 2) := dGR_15_c_425.2.2.1
theorem dX11_rule_99 : decode cX11_rule 99 = .ok (.getfield 195, 3) := dGR_15_c_425.2.2.2.1
theorem dX11_rule_102 : decode cX11_rule 102 = .ok (.iload_n 2, 1) := dGR_15_c_425.2.2.2.2.1
theorem dX11_rule_103 : decode cX11_rule 103 = .ok (.iaload, 1) := dGR_15_c_425.2.2.2.2.2.1
theorem dX11_rule_104 : decode cX11_rule 104 = .ok (.invokevirtual 145, 3) := dGR_15_c_425.2.2.2.2.2.2.1
theorem dX11_rule_107 : decode cX11_rule 107 = .ok (.ireturn, 1) := dGR_15_c_425.2.2.2.2.2.2.2.1
theorem dX11_rule_108 : decode cX11_rule 108 = .ok (.aload 4, 2) := dGR_15_c_425.2.2.2.2.2.2.2.2.1
theorem dX11_rule_110 : decode cX11_rule 110 = .ok (.getfield 198, 3) := dGR_15_c_425.2.2.2.2.2.2.2.2.2.1
theorem dX11_rule_113 : decode cX11_rule 113 = .ok (.iload_n 2, 1) := dGR_15_c_425.2.2.2.2.2.2.2.2.2.2.1
theorem dX11_rule_114 : decode cX11_rule 114 = .ok (.iaload, 1) := dGR_15_c_425.2.2.2.2.2.2.2.2.2.2.2
set_option maxRecDepth 100000 in
theorem dGR_15_c_426 : (decode cX11_rule 115 = .ok (.iconst (-1), 1)) ∧ (decode cX11_rule 116 = .ok (.if_icmp .ne 12, 3)) ∧ (decode cX11_rule 119 = .ok (.aload_n 0, 1)) ∧ (decode cX11_rule 120 = .ok (.bipush 6, 2)) ∧ (decode cX11_rule 122 = .ok (.invokevirtual 110, 3)) ∧ (decode cX11_rule 125 = .ok (.goto 14, 3)) ∧ (decode cX11_rule 128 = .ok (.aload_n 0, 1)) ∧ (decode cX11_rule 129 = .ok (.aload 4, 2)) ∧ (decode cX11_rule 131 = .ok (.getfield 198, 3)) ∧ (decode cX11_rule 134 = .ok (.iload_n 2, 1)) ∧ (decode cX11_rule 135 = .ok (.iaload, 1)) ∧ (decode cX11_rule 136 = .ok (.invokevirtual 145, 3)) := by decide +kernel
theorem dX11_rule_115 : decode cX11_rule 115 = .ok (.iconst (-1), 1) := dGR_15_c_426.1
theorem dX11_rule_116 : decode cX11_rule 116 = .ok (.if_icmp .ne 12, 3) := dGR_15_c_426.2.1
theorem dX11_rule_119 : decode cX11_rule 119 = .ok (.aload_n 0, 1) := dGR_15_c_426.2.2.1
theorem dX11_rule_120 : decode cX11_rule 120 = .ok (.bipush 6, 2) := dGR_15_c_426.2.2.2.1
theorem dX11_rule_122 : decode cX11_rule 122 = .ok (.invokevirtual 110, 3) := dGR_15_c_426.2.2.2.2.1
theorem dX11_rule_125 : decode cX11_rule 125 = .ok (.goto 14, 3) := dGR_15_c_426.2.2.2.2.2.1
theorem dX11_rule_128 : decode cX11_rule 128 = .ok (.aload_n 0, 1) := dGR_15_c_426.2.2.2.2.2.2.1
theorem dX11_rule_129 : decode cX11_rule 129 = .ok (.aload 4, 2) := dGR_15_c_426.2.2.2.2.2.2.2.1
theorem dX11_rule_131 : decode cX11_rule 131 = .ok (.getfield 198, 3) := dGR_15_c_426.2.2.2.2.2.2.2.2.1
theorem dX11_rule_134 : decode cX11_rule 134 = .ok (.iload_n 2, 1) := dGR_15_c_426.2.2.2.2.2.2.2.2.2.1
theorem dX11_rule_135 : decode cX11_rule 135 = .ok (.iaload, 1) := dGR_15_c_426.2.2.2.2.2.2.2.2.2.2.1
theorem dX11_rule_136 : decode cX11_rule 136 = .ok (.invokevirtual 145, 3) := dGR_15_c_426.2.2.2.2.2.2.2.2.2.2.2
set_option maxRecDepth 100000 in
theorem dGR_15_c_427 : (decode cX11_rule 139 = .ok (.ireturn, 1)) ∧ (decode cX11_rule 140 = .ok (.aload_n 0, 1)) ∧ (decode cX11_rule 141 = .ok (.iconst 1, 1)) ∧ (decode cX11_rule 142 = .ok (.invokevirtual 110, 3)) ∧ (decode cX11_rule 145 = .ok (.ireturn, 1)) := by decide +kernel
theorem dX11_rule_139 : decode cX11_rule 139 = .ok (.ireturn, 1) := dGR_15_c_427.1
theorem dX11_rule_140 : decode cX11_rule 140 = .ok (.aload_n 0, 1) := dGR_15_c_427.2.1
theorem dX11_rule_141 : decode cX11_rule 141 = .ok (.iconst 1, 1) := dGR_15_c_427.2.2.1
theorem dX11_rule_142 : decode cX11_rule 142 = .ok (.invokevirtual 110, 3) := dGR_15_c_427.2.2.2.1
theorem dX11_rule_145 : decode cX11_rule 145 = .ok (.ireturn, 1) := dGR_15_c_427.2.2.2.2
set_option maxRecDepth 100000 in
theorem dGR_15_c_428 : (decode cX11_drop 0 = .ok (.aload_n 0, 1)) ∧ (decode cX11_drop 1 = .ok (.getfield 26, 3)) ∧ (decode cX11_drop 4 = .ok (.iload_n 1, 1)) ∧ (decode cX11_drop 5 = .ok (.invokevirtual 163, 3)) ∧ (decode cX11_drop 8 = .ok (.ifCond .eq 18, 3)) ∧ (decode cX11_drop 11 = .ok (.aload_n 0, 1)) ∧ (decode cX11_drop 12 = .ok (.getfield 26, 3)) ∧ (decode cX11_drop 15 = .ok (.iload_n 1, 1)) ∧ (decode cX11_drop 16 = .ok (.invokevirtual 164, 3)) ∧ (decode cX11_drop 19 = .ok (.iload_n 2, 1)) ∧ (decode cX11_drop 20 = .ok (.invokevirtual 185, 3)) ∧ (decode cX11_drop 23 = .ok (.ifCond .ne 9, 3)) := by decide +kernel
theorem dX11_drop_0 : decode cX11_drop 0 = .ok (.aload_n 0, 1) := dGR_15_c_428.1
theorem dX11_drop_1 : decode cX11_drop 1 = .ok (.getfield 26, 3) := dGR_15_c_428.2.1
theorem dX11_drop_4 : decode cX11_drop 4 = .ok (.iload_n 1, 1) := dGR_15_c_428.2.2.1
theorem dX11_drop_5 : decode cX11_drop 5 = .ok (.invokevirtual 163, 3) := dGR_15_c_428.2.2.2.1
theorem dX11_drop_8 : decode cX11_drop 8 = .ok (.ifCond .eq 18, 3) := dGR_15_c_428.2.2.2.2.1
theorem dX11_drop_11 : decode cX11_drop 11 = .ok (.aload_n 0, 1) := dGR_15_c_428.2.2.2.2.2.1
theorem dX11_drop_12 : decode cX11_drop 12 = .ok (.getfield 26, 3) := dGR_15_c_428.2.2.2.2.2.2.1
theorem dX11_drop_15 : decode cX11_drop 15 = .ok (.iload_n 1, 1) := dGR_15_c_428.2.2.2.2.2.2.2.1
theorem dX11_drop_16 : decode cX11_drop 16 = .ok (.invokevirtual 164, 3) := dGR_15_c_428.2.2.2.2.2.2.2.2.1
theorem dX11_drop_19 : decode cX11_drop 19 = .ok (.iload_n 2, 1) := dGR_15_c_428.2.2.2.2.2.2.2.2.2.1
theorem dX11_drop_20 : decode cX11_drop 20 = .ok (.invokevirtual 185, 3) := dGR_15_c_428.2.2.2.2.2.2.2.2.2.2.1
theorem dX11_drop_23 : decode cX11_drop 23 = .ok (.ifCond .ne 9, 3) := dGR_15_c_428.2.2.2.2.2.2.2.2.2.2.2
set_option maxRecDepth 100000 in
theorem dGR_15_c_429 : (decode cX11_drop 26 = .ok (.aload_n 0, 1)) ∧ (decode cX11_drop 27 = .ok (.iconst 1, 1)) ∧ (decode cX11_drop 28 = .ok (.invokevirtual 110, 3)) ∧ (decode cX11_drop 31 = .ok (.ireturn, 1)) ∧ (decode cX11_drop 32 = .ok (.aload_n 0, 1)) ∧ (decode cX11_drop 33 = .ok (.getfield 26, 3)) ∧ (decode cX11_drop 36 = .ok (.iload_n 1, 1)) ∧ (decode cX11_drop 37 = .ok (.invokevirtual 164, 3)) ∧ (decode cX11_drop 40 = .ok (.astore_n 3, 1)) ∧ (decode cX11_drop 41 = .ok (.aload_n 3, 1)) ∧ (decode cX11_drop 42 = .ok (.iload_n 2, 1)) ∧ (decode cX11_drop 43 = .ok (.invokevirtual 212, 3)) := by decide +kernel
theorem dX11_drop_26 : decode cX11_drop 26 = .ok (.aload_n 0, 1) := dGR_15_c_429.1
theorem dX11_drop_27 : decode cX11_drop 27 = .ok (.iconst 1, 1) := dGR_15_c_429.2.1
theorem dX11_drop_28 : decode cX11_drop 28 = .ok (.invokevirtual 110, 3) := dGR_15_c_429.2.2.1
theorem dX11_drop_31 : decode cX11_drop 31 = .ok (.ireturn, 1) := dGR_15_c_429.2.2.2.1
theorem dX11_drop_32 : decode cX11_drop 32 = .ok (.aload_n 0, 1) := dGR_15_c_429.2.2.2.2.1
theorem dX11_drop_33 : decode cX11_drop 33 = .ok (.getfield 26, 3) := dGR_15_c_429.2.2.2.2.2.1
theorem dX11_drop_36 : decode cX11_drop 36 = .ok (.iload_n 1, 1) := dGR_15_c_429.2.2.2.2.2.2.1
theorem dX11_drop_37 : decode cX11_drop 37 = .ok (.invokevirtual 164, 3) := dGR_15_c_429.2.2.2.2.2.2.2.1
theorem dX11_drop_40 : decode cX11_drop 40 = .ok (.astore_n 3, 1) := dGR_15_c_429.2.2.2.2.2.2.2.2.1
theorem dX11_drop_41 : decode cX11_drop 41 = .ok (.aload_n 3, 1) := dGR_15_c_429.2.2.2.2.2.2.2.2.2.1
theorem dX11_drop_42 : decode cX11_drop 42 = .ok (.iload_n 2, 1) := dGR_15_c_429.2.2.2.2.2.2.2.2.2.2.1
theorem dX11_drop_43 : decode cX11_drop 43 = .ok (.invokevirtual 212, 3) := dGR_15_c_429.2.2.2.2.2.2.2.2.2.2.2
set_option maxRecDepth 100000 in
theorem dGR_15_c_430 : (decode cX11_drop 46 = .ok (.aload_n 0, 1)) ∧ (decode cX11_drop 47 = .ok (.invokevirtual 139, 3)) ∧ (decode cX11_drop 50 = .ok (.aload_n 0, 1)) ∧ (decode cX11_drop 51 = .ok (.aload_n 3, 1)) ∧ (decode cX11_drop 52 = .ok (.getfield 182, 3)) ∧ (decode cX11_drop 55 = .ok (.invokevirtual 145, 3)) ∧ (decode cX11_drop 58 = .ok (.ireturn, 1)) := by decide +kernel
theorem dX11_drop_46 : decode cX11_drop 46 = .ok (.aload_n 0, 1) := dGR_15_c_430.1
theorem dX11_drop_47 : decode cX11_drop 47 = .ok (.invokevirtual 139, 3) := dGR_15_c_430.2.1
theorem dX11_drop_50 : decode cX11_drop 50 = .ok (.aload_n 0, 1) := dGR_15_c_430.2.2.1
theorem dX11_drop_51 : decode cX11_drop 51 = .ok (.aload_n 3, 1) := dGR_15_c_430.2.2.2.1
theorem dX11_drop_52 : decode cX11_drop 52 = .ok (.getfield 182, 3) := dGR_15_c_430.2.2.2.2.1
theorem dX11_drop_55 : decode cX11_drop 55 = .ok (.invokevirtual 145, 3) := dGR_15_c_430.2.2.2.2.2.1
theorem dX11_drop_58 : decode cX11_drop 58 = .ok (.ireturn, 1) := dGR_15_c_430.2.2.2.2.2.2
set_option maxRecDepth 100000 in
theorem dGR_15_c_431 : (decode cX11_add 0 = .ok (.aload_n 0, 1)) ∧ (decode cX11_add 1 = .ok (.getfield 26, 3)) ∧ (decode cX11_add 4 = .ok (.iload_n 1, 1)) ∧ (decode cX11_add 5 = .ok (.invokevirtual 163, 3)) ∧ (decode cX11_add 8 = .ok (.ifCond .eq 27, 3)) ∧ (decode cX11_add 11 = .ok (.aload_n 0, 1)) ∧ (decode cX11_add 12 = .ok (.getfield 26, 3)) ∧ (decode cX11_add 15 = .ok (.aload_n 0, 1)) ∧ (decode cX11_add 16 = .ok (.getfield 26, 3)) ∧ (decode cX11_add 19 = .ok (.iload_n 1, 1)) ∧ (decode cX11_add 20 = .ok (.invokevirtual 164, 3)) ∧ (decode cX11_add 23 = .ok (.iload_n 2, 1)) := by decide +kernel
theorem dX11_add_0 : decode cX11_add 0 = .ok (.aload_n 0, 1) := dGR_15_c_431.1
theorem dX11_add_1 : decode cX11_add 1 = .ok (.getfield 26, 3) := dGR_15_c_431.2.1
theorem dX11_add_4 : decode cX11_add 4 = .ok (.iload_n 1, 1) := dGR_15_c_431.2.2.1
theorem dX11_add_5 : decode cX11_add 5 = .ok (.invokevirtual 163, 3) := dGR_15_c_431.2.2.2.1
theorem dX11_add_8 : decode cX11_add 8 = .ok (.ifCond .eq 27, 3) := dGR_15_c_431.2.2.2.2.1
theorem dX11_add_11 : decode cX11_add 11 = .ok (.aload_n 0, 1) := dGR_15_c_431.2.2.2.2.2.1
theorem dX11_add_12 : decode cX11_add 12 = .ok (.getfield 26, 3) := dGR_15_c_431.2.2.2.2.2.2.1
theorem dX11_add_15 : decode cX11_add 15 = .ok (.aload_n 0, 1) := dGR_15_c_431.2.2.2.2.2.2.2.1
theorem dX11_add_16 : decode cX11_add 16 = .ok (.getfield 26, 3) := dGR_15_c_431.2.2.2.2.2.2.2.2.1
theorem dX11_add_19 : decode cX11_add 19 = .ok (.iload_n 1, 1) := dGR_15_c_431.2.2.2.2.2.2.2.2.2.1
theorem dX11_add_20 : decode cX11_add 20 = .ok (.invokevirtual 164, 3) := dGR_15_c_431.2.2.2.2.2.2.2.2.2.2.1
theorem dX11_add_23 : decode cX11_add 23 = .ok (.iload_n 2, 1) := dGR_15_c_431.2.2.2.2.2.2.2.2.2.2.2
set_option maxRecDepth 100000 in
theorem dGR_15_c_432 : (decode cX11_add 24 = .ok (.iload_n 3, 1)) ∧ (decode cX11_add 25 = .ok (.iload 4, 2)) ∧ (decode cX11_add 27 = .ok (.iload 5, 2)) ∧ (decode cX11_add 29 = .ok (.invokevirtual 201, 3)) ∧ (decode cX11_add 32 = .ok (.ifCond .ne 9, 3)) ∧ (decode cX11_add 35 = .ok (.aload_n 0, 1)) ∧ (decode cX11_add 36 = .ok (.iconst 1, 1)) ∧ (decode cX11_add 37 = .ok (.invokevirtual 110, 3)) ∧ (decode cX11_add 40 = .ok (.ireturn, 1)) ∧ (decode cX11_add 41 = .ok (.aload_n 0, 1)) ∧ (decode cX11_add 42 = .ok (.getfield 26, 3)) ∧ (decode cX11_add 45 = .ok (.iload_n 1, 1)) := by decide +kernel
theorem dX11_add_24 : decode cX11_add 24 = .ok (.iload_n 3, 1) := dGR_15_c_432.1
theorem dX11_add_25 : decode cX11_add 25 = .ok (.iload 4, 2) := dGR_15_c_432.2.1
theorem dX11_add_27 : decode cX11_add 27 = .ok (.iload 5, 2) := dGR_15_c_432.2.2.1
theorem dX11_add_29 : decode cX11_add 29 = .ok (.invokevirtual 201, 3) := dGR_15_c_432.2.2.2.1
theorem dX11_add_32 : decode cX11_add 32 = .ok (.ifCond .ne 9, 3) := dGR_15_c_432.2.2.2.2.1
theorem dX11_add_35 : decode cX11_add 35 = .ok (.aload_n 0, 1) := dGR_15_c_432.2.2.2.2.2.1
theorem dX11_add_36 : decode cX11_add 36 = .ok (.iconst 1, 1) := dGR_15_c_432.2.2.2.2.2.2.1
theorem dX11_add_37 : decode cX11_add 37 = .ok (.invokevirtual 110, 3) := dGR_15_c_432.2.2.2.2.2.2.2.1
theorem dX11_add_40 : decode cX11_add 40 = .ok (.ireturn, 1) := dGR_15_c_432.2.2.2.2.2.2.2.2.1
theorem dX11_add_41 : decode cX11_add 41 = .ok (.aload_n 0, 1) := dGR_15_c_432.2.2.2.2.2.2.2.2.2.1
theorem dX11_add_42 : decode cX11_add 42 = .ok (.getfield 26, 3) := dGR_15_c_432.2.2.2.2.2.2.2.2.2.2.1
theorem dX11_add_45 : decode cX11_add 45 = .ok (.iload_n 1, 1) := dGR_15_c_432.2.2.2.2.2.2.2.2.2.2.2
set_option maxRecDepth 100000 in
theorem dGR_15_c_433 : (decode cX11_add 46 = .ok (.invokevirtual 164, 3)) ∧ (decode cX11_add 49 = .ok (.astore 6, 2)) ∧ (decode cX11_add 51 = .ok (.aload 6, 2)) ∧ (decode cX11_add 53 = .ok (.getfield 182, 3)) ∧ (decode cX11_add 56 = .ok (.bipush 20, 2)) ∧ (decode cX11_add 58 = .ok (.if_icmp .lt 9, 3)) ∧ (decode cX11_add 61 = .ok (.aload_n 0, 1)) ∧ (decode cX11_add 62 = .ok (.iconst 4, 1)) ∧ (decode cX11_add 63 = .ok (.invokevirtual 110, 3)) ∧ (decode cX11_add 66 = .ok (.ireturn, 1)) ∧ (decode cX11_add 67 = .ok (.aload 6, 2)) ∧ (decode cX11_add 69 = .ok (.iload_n 2, 1)) := by decide +kernel
theorem dX11_add_46 : decode cX11_add 46 = .ok (.invokevirtual 164, 3) := dGR_15_c_433.1
theorem dX11_add_49 : decode cX11_add 49 = .ok (.astore 6, 2) := dGR_15_c_433.2.1
theorem dX11_add_51 : decode cX11_add 51 = .ok (.aload 6, 2) := dGR_15_c_433.2.2.1
theorem dX11_add_53 : decode cX11_add 53 = .ok (.getfield 182, 3) := dGR_15_c_433.2.2.2.1
theorem dX11_add_56 : decode cX11_add 56 = .ok (.bipush 20, 2) := dGR_15_c_433.2.2.2.2.1
theorem dX11_add_58 : decode cX11_add 58 = .ok (.if_icmp .lt 9, 3) := dGR_15_c_433.2.2.2.2.2.1
theorem dX11_add_61 : decode cX11_add 61 = .ok (.aload_n 0, 1) := dGR_15_c_433.2.2.2.2.2.2.1
theorem dX11_add_62 : decode cX11_add 62 = .ok (.iconst 4, 1) := dGR_15_c_433.2.2.2.2.2.2.2.1
theorem dX11_add_63 : decode cX11_add 63 = .ok (.invokevirtual 110, 3) := dGR_15_c_433.2.2.2.2.2.2.2.2.1
theorem dX11_add_66 : decode cX11_add 66 = .ok (.ireturn, 1) := dGR_15_c_433.2.2.2.2.2.2.2.2.2.1
theorem dX11_add_67 : decode cX11_add 67 = .ok (.aload 6, 2) := dGR_15_c_433.2.2.2.2.2.2.2.2.2.2.1
theorem dX11_add_69 : decode cX11_add 69 = .ok (.iload_n 2, 1) := dGR_15_c_433.2.2.2.2.2.2.2.2.2.2.2
set_option maxRecDepth 100000 in
theorem dGR_15_c_434 : (decode cX11_add 70 = .ok (.iload_n 3, 1)) ∧ (decode cX11_add 71 = .ok (.iload 4, 2)) ∧ (decode cX11_add 73 = .ok (.iload 5, 2)) ∧ (decode cX11_add 75 = .ok (.invokevirtual 205, 3)) ∧ (decode cX11_add 78 = .ok (.iconst (-1), 1)) ∧ (decode cX11_add 79 = .ok (.if_icmp .eq 10, 3)) ∧ (decode cX11_add 82 = .ok (.aload_n 0, 1)) ∧ (decode cX11_add 83 = .ok (.bipush 7, 2)) ∧ (decode cX11_add 85 = .ok (.invokevirtual 110, 3)) ∧ (decode cX11_add 88 = .ok (.ireturn, 1)) ∧ (decode cX11_add 89 = .ok (.aload 6, 2)) ∧ (decode cX11_add 91 = .ok (.iload_n 2, 1)) := by decide +kernel
theorem dX11_add_70 : decode cX11_add 70 = .ok (.iload_n 3, 1) := dGR_15_c_434.1
theorem dX11_add_71 : decode cX11_add 71 = .ok (.iload 4, 2) := dGR_15_c_434.2.1
theorem dX11_add_73 : decode cX11_add 73 = .ok (.iload 5, 2) := dGR_15_c_434.2.2.1
theorem dX11_add_75 : decode cX11_add 75 = .ok (.invokevirtual 205, 3) := dGR_15_c_434.2.2.2.1
theorem dX11_add_78 : decode cX11_add 78 = .ok (.iconst (-1), 1) := dGR_15_c_434.2.2.2.2.1
theorem dX11_add_79 : decode cX11_add 79 = .ok (.if_icmp .eq 10, 3) := dGR_15_c_434.2.2.2.2.2.1
theorem dX11_add_82 : decode cX11_add 82 = .ok (.aload_n 0, 1) := dGR_15_c_434.2.2.2.2.2.2.1
theorem dX11_add_83 : decode cX11_add 83 = .ok (.bipush 7, 2) := dGR_15_c_434.2.2.2.2.2.2.2.1
theorem dX11_add_85 : decode cX11_add 85 = .ok (.invokevirtual 110, 3) := dGR_15_c_434.2.2.2.2.2.2.2.2.1
theorem dX11_add_88 : decode cX11_add 88 = .ok (.ireturn, 1) := dGR_15_c_434.2.2.2.2.2.2.2.2.2.1
theorem dX11_add_89 : decode cX11_add 89 = .ok (.aload 6, 2) := dGR_15_c_434.2.2.2.2.2.2.2.2.2.2.1
theorem dX11_add_91 : decode cX11_add 91 = .ok (.iload_n 2, 1) := dGR_15_c_434.2.2.2.2.2.2.2.2.2.2.2
set_option maxRecDepth 100000 in
theorem dGR_15_c_435 : (decode cX11_add 92 = .ok (.iload_n 3, 1)) ∧ (decode cX11_add 93 = .ok (.iload 4, 2)) ∧ (decode cX11_add 95 = .ok (.iload 5, 2)) ∧ (decode cX11_add 97 = .ok (.invokevirtual 209, 3)) ∧ (decode cX11_add 100 = .ok (.aload_n 0, 1)) ∧ (decode cX11_add 101 = .ok (.invokevirtual 139, 3)) ∧ (decode cX11_add 104 = .ok (.aload_n 0, 1)) ∧ (decode cX11_add 105 = .ok (.aload 6, 2)) ∧ (decode cX11_add 107 = .ok (.getfield 182, 3)) ∧ (decode cX11_add 110 = .ok (.invokevirtual 145, 3)) ∧ (decode cX11_add 113 = .ok (.ireturn, 1)) := by decide +kernel
theorem dX11_add_92 : decode cX11_add 92 = .ok (.iload_n 3, 1) := dGR_15_c_435.1
theorem dX11_add_93 : decode cX11_add 93 = .ok (.iload 4, 2) := dGR_15_c_435.2.1
theorem dX11_add_95 : decode cX11_add 95 = .ok (.iload 5, 2) := dGR_15_c_435.2.2.1
theorem dX11_add_97 : decode cX11_add 97 = .ok (.invokevirtual 209, 3) := dGR_15_c_435.2.2.2.1
theorem dX11_add_100 : decode cX11_add 100 = .ok (.aload_n 0, 1) := dGR_15_c_435.2.2.2.2.1
theorem dX11_add_101 : decode cX11_add 101 = .ok (.invokevirtual 139, 3) := dGR_15_c_435.2.2.2.2.2.1
theorem dX11_add_104 : decode cX11_add 104 = .ok (.aload_n 0, 1) := dGR_15_c_435.2.2.2.2.2.2.1
theorem dX11_add_105 : decode cX11_add 105 = .ok (.aload 6, 2) := dGR_15_c_435.2.2.2.2.2.2.2.1
theorem dX11_add_107 : decode cX11_add 107 = .ok (.getfield 182, 3) := dGR_15_c_435.2.2.2.2.2.2.2.2.1
theorem dX11_add_110 : decode cX11_add 110 = .ok (.invokevirtual 145, 3) := dGR_15_c_435.2.2.2.2.2.2.2.2.2.1
theorem dX11_add_113 : decode cX11_add 113 = .ok (.ireturn, 1) := dGR_15_c_435.2.2.2.2.2.2.2.2.2.2
set_option maxRecDepth 100000 in
theorem dGR_15_c_436 : (decode cX11_start 0 = .ok (.aload_n 0, 1)) ∧ (decode cX11_start 1 = .ok (.iload_n 1, 1)) ∧ (decode cX11_start 2 = .ok (.iload_n 2, 1)) ∧ (decode cX11_start 3 = .ok (.invokevirtual 215, 3)) ∧ (decode cX11_start 6 = .ok (.ifCond .ne 9, 3)) ∧ (decode cX11_start 9 = .ok (.aload_n 0, 1)) ∧ (decode cX11_start 10 = .ok (.iconst 1, 1)) ∧ (decode cX11_start 11 = .ok (.invokevirtual 110, 3)) ∧ (decode cX11_start 14 = .ok (.ireturn, 1)) ∧ (decode cX11_start 15 = .ok (.aload_n 0, 1)) ∧ (decode cX11_start 16 = .ok (.getfield 26, 3)) ∧ (decode cX11_start 19 = .ok (.iload_n 1, 1)) := by decide +kernel
theorem dX11_start_0 : decode cX11_start 0 = .ok (.aload_n 0, 1) := dGR_15_c_436.1
theorem dX11_start_1 : decode cX11_start 1 = .ok (.iload_n 1, 1) := dGR_15_c_436.2.1
theorem dX11_start_2 : decode cX11_start 2 = .ok (.iload_n 2, 1) := dGR_15_c_436.2.2.1
theorem dX11_start_3 : decode cX11_start 3 = .ok (.invokevirtual 215, 3) := dGR_15_c_436.2.2.2.1
theorem dX11_start_6 : decode cX11_start 6 = .ok (.ifCond .ne 9, 3) := dGR_15_c_436.2.2.2.2.1
theorem dX11_start_9 : decode cX11_start 9 = .ok (.aload_n 0, 1) := dGR_15_c_436.2.2.2.2.2.1
theorem dX11_start_10 : decode cX11_start 10 = .ok (.iconst 1, 1) := dGR_15_c_436.2.2.2.2.2.2.1
theorem dX11_start_11 : decode cX11_start 11 = .ok (.invokevirtual 110, 3) := dGR_15_c_436.2.2.2.2.2.2.2.1
theorem dX11_start_14 : decode cX11_start 14 = .ok (.ireturn, 1) := dGR_15_c_436.2.2.2.2.2.2.2.2.1
theorem dX11_start_15 : decode cX11_start 15 = .ok (.aload_n 0, 1) := dGR_15_c_436.2.2.2.2.2.2.2.2.2.1
theorem dX11_start_16 : decode cX11_start 16 = .ok (.getfield 26, 3) := dGR_15_c_436.2.2.2.2.2.2.2.2.2.2.1
theorem dX11_start_19 : decode cX11_start 19 = .ok (.iload_n 1, 1) := dGR_15_c_436.2.2.2.2.2.2.2.2.2.2.2
set_option maxRecDepth 100000 in
theorem dGR_15_c_437 : (decode cX11_start 20 = .ok (.invokevirtual 164, 3)) ∧ (decode cX11_start 23 = .ok (.astore 4, 2)) ∧ (decode cX11_start 25 = .ok (.iload_n 3, 1)) ∧ (decode cX11_start 26 = .ok (.ifCond .eq 15, 3)) ∧ (decode cX11_start 29 = .ok (.aload 4, 2)) ∧ (decode cX11_start 31 = .ok (.getfield 176, 3)) ∧ (decode cX11_start 34 = .ok (.iconst 1, 1)) ∧ (decode cX11_start 35 = .ok (.iload_n 2, 1)) ∧ (decode cX11_start 36 = .ok (.ishl, 1)) ∧ (decode cX11_start 37 = .ok (.ior, 1)) ∧ (decode cX11_start 38 = .ok (.goto 14, 3)) ∧ (decode cX11_start 41 = .ok (.aload 4, 2)) := by decide +kernel
theorem dX11_start_20 : decode cX11_start 20 = .ok (.invokevirtual 164, 3) := dGR_15_c_437.1
theorem dX11_start_23 : decode cX11_start 23 = .ok (.astore 4, 2) := dGR_15_c_437.2.1
theorem dX11_start_25 : decode cX11_start 25 = .ok (.iload_n 3, 1) := dGR_15_c_437.2.2.1
theorem dX11_start_26 : decode cX11_start 26 = .ok (.ifCond .eq 15, 3) := dGR_15_c_437.2.2.2.1
theorem dX11_start_29 : decode cX11_start 29 = .ok (.aload 4, 2) := dGR_15_c_437.2.2.2.2.1
theorem dX11_start_31 : decode cX11_start 31 = .ok (.getfield 176, 3) := dGR_15_c_437.2.2.2.2.2.1
theorem dX11_start_34 : decode cX11_start 34 = .ok (.iconst 1, 1) := dGR_15_c_437.2.2.2.2.2.2.1
theorem dX11_start_35 : decode cX11_start 35 = .ok (.iload_n 2, 1) := dGR_15_c_437.2.2.2.2.2.2.2.1
theorem dX11_start_36 : decode cX11_start 36 = .ok (.ishl, 1) := dGR_15_c_437.2.2.2.2.2.2.2.2.1
theorem dX11_start_37 : decode cX11_start 37 = .ok (.ior, 1) := dGR_15_c_437.2.2.2.2.2.2.2.2.2.1
theorem dX11_start_38 : decode cX11_start 38 = .ok (.goto 14, 3) := dGR_15_c_437.2.2.2.2.2.2.2.2.2.2.1
theorem dX11_start_41 : decode cX11_start 41 = .ok (.aload 4, 2) := dGR_15_c_437.2.2.2.2.2.2.2.2.2.2.2
set_option maxRecDepth 100000 in
theorem dGR_15_c_438 : (decode cX11_start 43 = .ok (.getfield 176, 3)) ∧ (decode cX11_start 46 = .ok (.iconst 1, 1)) ∧ (decode cX11_start 47 = .ok (.iload_n 2, 1)) ∧ (decode cX11_start 48 = .ok (.ishl, 1)) ∧ (decode cX11_start 49 = .ok (.iconst (-1), 1)) ∧ (decode cX11_start 50 = .ok (.ixor, 1)) ∧ (decode cX11_start 51 = .ok (.iand, 1)) ∧ (decode cX11_start 52 = .ok (.istore 5, 2)) ∧ (decode cX11_start 54 = .ok (.iload 5, 2)) ∧ (decode cX11_start 56 = .ok (.aload 4, 2)) ∧ (decode cX11_start 58 = .ok (.getfield 176, 3)) ∧ (decode cX11_start 61 = .ok (.if_icmp .ne 10, 3)) := by decide +kernel
theorem dX11_start_43 : decode cX11_start 43 = .ok (.getfield 176, 3) := dGR_15_c_438.1
theorem dX11_start_46 : decode cX11_start 46 = .ok (.iconst 1, 1) := dGR_15_c_438.2.1
theorem dX11_start_47 : decode cX11_start 47 = .ok (.iload_n 2, 1) := dGR_15_c_438.2.2.1
theorem dX11_start_48 : decode cX11_start 48 = .ok (.ishl, 1) := dGR_15_c_438.2.2.2.1
theorem dX11_start_49 : decode cX11_start 49 = .ok (.iconst (-1), 1) := dGR_15_c_438.2.2.2.2.1
theorem dX11_start_50 : decode cX11_start 50 = .ok (.ixor, 1) := dGR_15_c_438.2.2.2.2.2.1
theorem dX11_start_51 : decode cX11_start 51 = .ok (.iand, 1) := dGR_15_c_438.2.2.2.2.2.2.1
theorem dX11_start_52 : decode cX11_start 52 = .ok (.istore 5, 2) := dGR_15_c_438.2.2.2.2.2.2.2.1
theorem dX11_start_54 : decode cX11_start 54 = .ok (.iload 5, 2) := dGR_15_c_438.2.2.2.2.2.2.2.2.1
theorem dX11_start_56 : decode cX11_start 56 = .ok (.aload 4, 2) := dGR_15_c_438.2.2.2.2.2.2.2.2.2.1
theorem dX11_start_58 : decode cX11_start 58 = .ok (.getfield 176, 3) := dGR_15_c_438.2.2.2.2.2.2.2.2.2.2.1
theorem dX11_start_61 : decode cX11_start 61 = .ok (.if_icmp .ne 10, 3) := dGR_15_c_438.2.2.2.2.2.2.2.2.2.2.2
set_option maxRecDepth 100000 in
theorem dGR_15_c_439 : (decode cX11_start 64 = .ok (.aload_n 0, 1)) ∧ (decode cX11_start 65 = .ok (.bipush 7, 2)) ∧ (decode cX11_start 67 = .ok (.invokevirtual 110, 3)) ∧ (decode cX11_start 70 = .ok (.ireturn, 1)) ∧ (decode cX11_start 71 = .ok (.aload 4, 2)) ∧ (decode cX11_start 73 = .ok (.iload 5, 2)) ∧ (decode cX11_start 75 = .ok (.putfield 176, 3)) ∧ (decode cX11_start 78 = .ok (.aload_n 0, 1)) ∧ (decode cX11_start 79 = .ok (.invokevirtual 139, 3)) ∧ (decode cX11_start 82 = .ok (.aload_n 0, 1)) ∧ (decode cX11_start 83 = .ok (.iload 5, 2)) ∧ (decode cX11_start 85 = .ok (.invokevirtual 145, 3)) := by decide +kernel
theorem dX11_start_64 : decode cX11_start 64 = .ok (.aload_n 0, 1) := dGR_15_c_439.1
theorem dX11_start_65 : decode cX11_start 65 = .ok (.bipush 7, 2) := dGR_15_c_439.2.1
theorem dX11_start_67 : decode cX11_start 67 = .ok (.invokevirtual 110, 3) := dGR_15_c_439.2.2.1
theorem dX11_start_70 : decode cX11_start 70 = .ok (.ireturn, 1) := dGR_15_c_439.2.2.2.1
theorem dX11_start_71 : decode cX11_start 71 = .ok (.aload 4, 2) := dGR_15_c_439.2.2.2.2.1
theorem dX11_start_73 : decode cX11_start 73 = .ok (.iload 5, 2) := dGR_15_c_439.2.2.2.2.2.1
theorem dX11_start_75 : decode cX11_start 75 = .ok (.putfield 176, 3) := dGR_15_c_439.2.2.2.2.2.2.1
theorem dX11_start_78 : decode cX11_start 78 = .ok (.aload_n 0, 1) := dGR_15_c_439.2.2.2.2.2.2.2.1
theorem dX11_start_79 : decode cX11_start 79 = .ok (.invokevirtual 139, 3) := dGR_15_c_439.2.2.2.2.2.2.2.2.1
theorem dX11_start_82 : decode cX11_start 82 = .ok (.aload_n 0, 1) := dGR_15_c_439.2.2.2.2.2.2.2.2.2.1
theorem dX11_start_83 : decode cX11_start 83 = .ok (.iload 5, 2) := dGR_15_c_439.2.2.2.2.2.2.2.2.2.2.1
theorem dX11_start_85 : decode cX11_start 85 = .ok (.invokevirtual 145, 3) := dGR_15_c_439.2.2.2.2.2.2.2.2.2.2.2
theorem dX11_start_88 : decode cX11_start 88 = .ok (.ireturn, 1) := by decide +kernel
set_option maxRecDepth 100000 in
theorem dGR_15_c_440 : (decode cX11_accept 0 = .ok (.aload_n 0, 1)) ∧ (decode cX11_accept 1 = .ok (.iload_n 1, 1)) ∧ (decode cX11_accept 2 = .ok (.iload_n 2, 1)) ∧ (decode cX11_accept 3 = .ok (.invokevirtual 215, 3)) ∧ (decode cX11_accept 6 = .ok (.ifCond .ne 9, 3)) ∧ (decode cX11_accept 9 = .ok (.aload_n 0, 1)) ∧ (decode cX11_accept 10 = .ok (.iconst 1, 1)) ∧ (decode cX11_accept 11 = .ok (.invokevirtual 110, 3)) ∧ (decode cX11_accept 14 = .ok (.ireturn, 1)) ∧ (decode cX11_accept 15 = .ok (.aload_n 0, 1)) ∧ (decode cX11_accept 16 = .ok (.getfield 26, 3)) ∧ (decode cX11_accept 19 = .ok (.iload_n 1, 1)) := by decide +kernel
theorem dX11_accept_0 : decode cX11_accept 0 = .ok (.aload_n 0, 1) := dGR_15_c_440.1
theorem dX11_accept_1 : decode cX11_accept 1 = .ok (.iload_n 1, 1) := dGR_15_c_440.2.1
theorem dX11_accept_2 : decode cX11_accept 2 = .ok (.iload_n 2, 1) := dGR_15_c_440.2.2.1
theorem dX11_accept_3 : decode cX11_accept 3 = .ok (.invokevirtual 215, 3) := dGR_15_c_440.2.2.2.1
theorem dX11_accept_6 : decode cX11_accept 6 = .ok (.ifCond .ne 9, 3) := dGR_15_c_440.2.2.2.2.1
theorem dX11_accept_9 : decode cX11_accept 9 = .ok (.aload_n 0, 1) := dGR_15_c_440.2.2.2.2.2.1
theorem dX11_accept_10 : decode cX11_accept 10 = .ok (.iconst 1, 1) := dGR_15_c_440.2.2.2.2.2.2.1
theorem dX11_accept_11 : decode cX11_accept 11 = .ok (.invokevirtual 110, 3) := dGR_15_c_440.2.2.2.2.2.2.2.1
theorem dX11_accept_14 : decode cX11_accept 14 = .ok (.ireturn, 1) := dGR_15_c_440.2.2.2.2.2.2.2.2.1
theorem dX11_accept_15 : decode cX11_accept 15 = .ok (.aload_n 0, 1) := dGR_15_c_440.2.2.2.2.2.2.2.2.2.1
theorem dX11_accept_16 : decode cX11_accept 16 = .ok (.getfield 26, 3) := dGR_15_c_440.2.2.2.2.2.2.2.2.2.2.1
theorem dX11_accept_19 : decode cX11_accept 19 = .ok (.iload_n 1, 1) := dGR_15_c_440.2.2.2.2.2.2.2.2.2.2.2
set_option maxRecDepth 100000 in
theorem dGR_15_c_441 : (decode cX11_accept 20 = .ok (.invokevirtual 164, 3)) ∧ (decode cX11_accept 23 = .ok (.astore 4, 2)) ∧ (decode cX11_accept 25 = .ok (.iload_n 3, 1)) ∧ (decode cX11_accept 26 = .ok (.ifCond .eq 15, 3)) ∧ (decode cX11_accept 29 = .ok (.aload 4, 2)) ∧ (decode cX11_accept 31 = .ok (.getfield 179, 3)) ∧ (decode cX11_accept 34 = .ok (.iconst 1, 1)) ∧ (decode cX11_accept 35 = .ok (.iload_n 2, 1)) ∧ (decode cX11_accept 36 = .ok (.ishl, 1)) ∧ (decode cX11_accept 37 = .ok (.ior, 1)) ∧ (decode cX11_accept 38 = .ok (.goto 14, 3)) ∧ (decode cX11_accept 41 = .ok (.aload 4, 2)) := by decide +kernel
theorem dX11_accept_20 : decode cX11_accept 20 = .ok (.invokevirtual 164, 3) := dGR_15_c_441.1
theorem dX11_accept_23 : decode cX11_accept 23 = .ok (.astore 4, 2) := dGR_15_c_441.2.1
theorem dX11_accept_25 : decode cX11_accept 25 = .ok (.iload_n 3, 1) := dGR_15_c_441.2.2.1
theorem dX11_accept_26 : decode cX11_accept 26 = .ok (.ifCond .eq 15, 3) := dGR_15_c_441.2.2.2.1
theorem dX11_accept_29 : decode cX11_accept 29 = .ok (.aload 4, 2) := dGR_15_c_441.2.2.2.2.1
theorem dX11_accept_31 : decode cX11_accept 31 = .ok (.getfield 179, 3) := dGR_15_c_441.2.2.2.2.2.1
theorem dX11_accept_34 : decode cX11_accept 34 = .ok (.iconst 1, 1) := dGR_15_c_441.2.2.2.2.2.2.1
theorem dX11_accept_35 : decode cX11_accept 35 = .ok (.iload_n 2, 1) := dGR_15_c_441.2.2.2.2.2.2.2.1
theorem dX11_accept_36 : decode cX11_accept 36 = .ok (.ishl, 1) := dGR_15_c_441.2.2.2.2.2.2.2.2.1
theorem dX11_accept_37 : decode cX11_accept 37 = .ok (.ior, 1) := dGR_15_c_441.2.2.2.2.2.2.2.2.2.1
theorem dX11_accept_38 : decode cX11_accept 38 = .ok (.goto 14, 3) := dGR_15_c_441.2.2.2.2.2.2.2.2.2.2.1
theorem dX11_accept_41 : decode cX11_accept 41 = .ok (.aload 4, 2) := dGR_15_c_441.2.2.2.2.2.2.2.2.2.2.2
set_option maxRecDepth 100000 in
theorem dGR_15_c_442 : (decode cX11_accept 43 = .ok (.getfield 179, 3)) ∧ (decode cX11_accept 46 = .ok (.iconst 1, 1)) ∧ (decode cX11_accept 47 = .ok (.iload_n 2, 1)) ∧ (decode cX11_accept 48 = .ok (.ishl, 1)) ∧ (decode cX11_accept 49 = .ok (.iconst (-1), 1)) ∧ (decode cX11_accept 50 = .ok (.ixor, 1)) ∧ (decode cX11_accept 51 = .ok (.iand, 1)) ∧ (decode cX11_accept 52 = .ok (.istore 5, 2)) ∧ (decode cX11_accept 54 = .ok (.iload 5, 2)) ∧ (decode cX11_accept 56 = .ok (.aload 4, 2)) ∧ (decode cX11_accept 58 = .ok (.getfield 179, 3)) ∧ (decode cX11_accept 61 = .ok (.if_icmp .ne 10, 3)) := by decide +kernel
theorem dX11_accept_43 : decode cX11_accept 43 = .ok (.getfield 179, 3) := dGR_15_c_442.1
theorem dX11_accept_46 : decode cX11_accept 46 = .ok (.iconst 1, 1) := dGR_15_c_442.2.1
theorem dX11_accept_47 : decode cX11_accept 47 = .ok (.iload_n 2, 1) := dGR_15_c_442.2.2.1
theorem dX11_accept_48 : decode cX11_accept 48 = .ok (.ishl, 1) := dGR_15_c_442.2.2.2.1
theorem dX11_accept_49 : decode cX11_accept 49 = .ok (.iconst (-1), 1) := dGR_15_c_442.2.2.2.2.1
theorem dX11_accept_50 : decode cX11_accept 50 = .ok (.ixor, 1) := dGR_15_c_442.2.2.2.2.2.1
theorem dX11_accept_51 : decode cX11_accept 51 = .ok (.iand, 1) := dGR_15_c_442.2.2.2.2.2.2.1
theorem dX11_accept_52 : decode cX11_accept 52 = .ok (.istore 5, 2) := dGR_15_c_442.2.2.2.2.2.2.2.1
theorem dX11_accept_54 : decode cX11_accept 54 = .ok (.iload 5, 2) := dGR_15_c_442.2.2.2.2.2.2.2.2.1
theorem dX11_accept_56 : decode cX11_accept 56 = .ok (.aload 4, 2) := dGR_15_c_442.2.2.2.2.2.2.2.2.2.1
theorem dX11_accept_58 : decode cX11_accept 58 = .ok (.getfield 179, 3) := dGR_15_c_442.2.2.2.2.2.2.2.2.2.2.1
theorem dX11_accept_61 : decode cX11_accept 61 = .ok (.if_icmp .ne 10, 3) := dGR_15_c_442.2.2.2.2.2.2.2.2.2.2.2
set_option maxRecDepth 100000 in
theorem dGR_15_c_443 : (decode cX11_accept 64 = .ok (.aload_n 0, 1)) ∧ (decode cX11_accept 65 = .ok (.bipush 7, 2)) ∧ (decode cX11_accept 67 = .ok (.invokevirtual 110, 3)) ∧ (decode cX11_accept 70 = .ok (.ireturn, 1)) ∧ (decode cX11_accept 71 = .ok (.aload 4, 2)) ∧ (decode cX11_accept 73 = .ok (.iload 5, 2)) ∧ (decode cX11_accept 75 = .ok (.putfield 179, 3)) ∧ (decode cX11_accept 78 = .ok (.aload_n 0, 1)) ∧ (decode cX11_accept 79 = .ok (.invokevirtual 139, 3)) ∧ (decode cX11_accept 82 = .ok (.aload_n 0, 1)) ∧ (decode cX11_accept 83 = .ok (.iload 5, 2)) ∧ (decode cX11_accept 85 = .ok (.invokevirtual 145, 3)) := by decide +kernel
theorem dX11_accept_64 : decode cX11_accept 64 = .ok (.aload_n 0, 1) := dGR_15_c_443.1
theorem dX11_accept_65 : decode cX11_accept 65 = .ok (.bipush 7, 2) := dGR_15_c_443.2.1
theorem dX11_accept_67 : decode cX11_accept 67 = .ok (.invokevirtual 110, 3) := dGR_15_c_443.2.2.1
theorem dX11_accept_70 : decode cX11_accept 70 = .ok (.ireturn, 1) := dGR_15_c_443.2.2.2.1
theorem dX11_accept_71 : decode cX11_accept 71 = .ok (.aload 4, 2) := dGR_15_c_443.2.2.2.2.1
theorem dX11_accept_73 : decode cX11_accept 73 = .ok (.iload 5, 2) := dGR_15_c_443.2.2.2.2.2.1
theorem dX11_accept_75 : decode cX11_accept 75 = .ok (.putfield 179, 3) := dGR_15_c_443.2.2.2.2.2.2.1
theorem dX11_accept_78 : decode cX11_accept 78 = .ok (.aload_n 0, 1) := dGR_15_c_443.2.2.2.2.2.2.2.1
theorem dX11_accept_79 : decode cX11_accept 79 = .ok (.invokevirtual 139, 3) := dGR_15_c_443.2.2.2.2.2.2.2.2.1
theorem dX11_accept_82 : decode cX11_accept 82 = .ok (.aload_n 0, 1) := dGR_15_c_443.2.2.2.2.2.2.2.2.2.1
theorem dX11_accept_83 : decode cX11_accept 83 = .ok (.iload 5, 2) := dGR_15_c_443.2.2.2.2.2.2.2.2.2.2.1
theorem dX11_accept_85 : decode cX11_accept 85 = .ok (.invokevirtual 145, 3) := dGR_15_c_443.2.2.2.2.2.2.2.2.2.2.2
theorem dX11_accept_88 : decode cX11_accept 88 = .ok (.ireturn, 1) := by decide +kernel
set_option maxRecDepth 100000 in
theorem dGR_15_c_444 : (decode cX11_copy 0 = .ok (.aload_n 0, 1)) ∧ (decode cX11_copy 1 = .ok (.iload_n 1, 1)) ∧ (decode cX11_copy 2 = .ok (.iload_n 2, 1)) ∧ (decode cX11_copy 3 = .ok (.invokevirtual 219, 3)) ∧ (decode cX11_copy 6 = .ok (.ifCond .ne 9, 3)) ∧ (decode cX11_copy 9 = .ok (.aload_n 0, 1)) ∧ (decode cX11_copy 10 = .ok (.iconst 1, 1)) ∧ (decode cX11_copy 11 = .ok (.invokevirtual 91, 3)) ∧ (decode cX11_copy 14 = .ok (.ireturn, 1)) ∧ (decode cX11_copy 15 = .ok (.aload_n 0, 1)) ∧ (decode cX11_copy 16 = .ok (.getfield 26, 3)) ∧ (decode cX11_copy 19 = .ok (.iload_n 2, 1)) := by decide +kernel
theorem dX11_copy_0 : decode cX11_copy 0 = .ok (.aload_n 0, 1) := dGR_15_c_444.1
theorem dX11_copy_1 : decode cX11_copy 1 = .ok (.iload_n 1, 1) := dGR_15_c_444.2.1
theorem dX11_copy_2 : decode cX11_copy 2 = .ok (.iload_n 2, 1) := dGR_15_c_444.2.2.1
theorem dX11_copy_3 : decode cX11_copy 3 = .ok (.invokevirtual 219, 3) := dGR_15_c_444.2.2.2.1
theorem dX11_copy_6 : decode cX11_copy 6 = .ok (.ifCond .ne 9, 3) := dGR_15_c_444.2.2.2.2.1
theorem dX11_copy_9 : decode cX11_copy 9 = .ok (.aload_n 0, 1) := dGR_15_c_444.2.2.2.2.2.1
theorem dX11_copy_10 : decode cX11_copy 10 = .ok (.iconst 1, 1) := dGR_15_c_444.2.2.2.2.2.2.1
theorem dX11_copy_11 : decode cX11_copy 11 = .ok (.invokevirtual 91, 3) := dGR_15_c_444.2.2.2.2.2.2.2.1
theorem dX11_copy_14 : decode cX11_copy 14 = .ok (.ireturn, 1) := dGR_15_c_444.2.2.2.2.2.2.2.2.1
theorem dX11_copy_15 : decode cX11_copy 15 = .ok (.aload_n 0, 1) := dGR_15_c_444.2.2.2.2.2.2.2.2.2.1
theorem dX11_copy_16 : decode cX11_copy 16 = .ok (.getfield 26, 3) := dGR_15_c_444.2.2.2.2.2.2.2.2.2.2.1
theorem dX11_copy_19 : decode cX11_copy 19 = .ok (.iload_n 2, 1) := dGR_15_c_444.2.2.2.2.2.2.2.2.2.2.2
set_option maxRecDepth 100000 in
theorem dGR_15_c_445 : (decode cX11_copy 20 = .ok (.invokevirtual 164, 3)) ∧ (decode cX11_copy 23 = .ok (.aload_n 0, 1)) ∧ (decode cX11_copy 24 = .ok (.getfield 26, 3)) ∧ (decode cX11_copy 27 = .ok (.iload_n 1, 1)) ∧ (decode cX11_copy 28 = .ok (.invokevirtual 164, 3)) ∧ (decode cX11_copy 31 = .ok (.invokevirtual 222, 3)) ∧ (decode cX11_copy 34 = .ok (.aload_n 0, 1)) ∧ (decode cX11_copy 35 = .ok (.invokevirtual 139, 3)) ∧ (decode cX11_copy 38 = .ok (.aload_n 0, 1)) ∧ (decode cX11_copy 39 = .ok (.invokevirtual 98, 3)) ∧ (decode cX11_copy 42 = .ok (.ireturn, 1)) := by decide +kernel
theorem dX11_copy_20 : decode cX11_copy 20 = .ok (.invokevirtual 164, 3) := dGR_15_c_445.1
theorem dX11_copy_23 : decode cX11_copy 23 = .ok (.aload_n 0, 1) := dGR_15_c_445.2.1
theorem dX11_copy_24 : decode cX11_copy 24 = .ok (.getfield 26, 3) := dGR_15_c_445.2.2.1
theorem dX11_copy_27 : decode cX11_copy 27 = .ok (.iload_n 1, 1) := dGR_15_c_445.2.2.2.1
theorem dX11_copy_28 : decode cX11_copy 28 = .ok (.invokevirtual 164, 3) := dGR_15_c_445.2.2.2.2.1
theorem dX11_copy_31 : decode cX11_copy 31 = .ok (.invokevirtual 222, 3) := dGR_15_c_445.2.2.2.2.2.1
theorem dX11_copy_34 : decode cX11_copy 34 = .ok (.aload_n 0, 1) := dGR_15_c_445.2.2.2.2.2.2.1
theorem dX11_copy_35 : decode cX11_copy 35 = .ok (.invokevirtual 139, 3) := dGR_15_c_445.2.2.2.2.2.2.2.1
theorem dX11_copy_38 : decode cX11_copy 38 = .ok (.aload_n 0, 1) := dGR_15_c_445.2.2.2.2.2.2.2.2.1
theorem dX11_copy_39 : decode cX11_copy 39 = .ok (.invokevirtual 98, 3) := dGR_15_c_445.2.2.2.2.2.2.2.2.2.1
theorem dX11_copy_42 : decode cX11_copy 42 = .ok (.ireturn, 1) := dGR_15_c_445.2.2.2.2.2.2.2.2.2.2
set_option maxRecDepth 100000 in
theorem dGR_15_c_446 : (decode cX11_takes 0 = .ok (.aload_n 0, 1)) ∧ (decode cX11_takes 1 = .ok (.aload_n 0, 1)) ∧ (decode cX11_takes 2 = .ok (.getfield 26, 3)) ∧ (decode cX11_takes 5 = .ok (.iload_n 1, 1)) ∧ (decode cX11_takes 6 = .ok (.invokevirtual 163, 3)) ∧ (decode cX11_takes 9 = .ok (.iload_n 2, 1)) ∧ (decode cX11_takes 10 = .ok (.iload_n 3, 1)) ∧ (decode cX11_takes 11 = .ok (.invokevirtual 226, 3)) ∧ (decode cX11_takes 14 = .ok (.istore 4, 2)) ∧ (decode cX11_takes 16 = .ok (.iload 4, 2)) ∧ (decode cX11_takes 18 = .ok (.ifCond .eq 10, 3)) ∧ (decode cX11_takes 21 = .ok (.aload_n 0, 1)) := by decide +kernel
theorem dX11_takes_0 : decode cX11_takes 0 = .ok (.aload_n 0, 1) := dGR_15_c_446.1
theorem dX11_takes_1 : decode cX11_takes 1 = .ok (.aload_n 0, 1) := dGR_15_c_446.2.1
theorem dX11_takes_2 : decode cX11_takes 2 = .ok (.getfield 26, 3) := dGR_15_c_446.2.2.1
theorem dX11_takes_5 : decode cX11_takes 5 = .ok (.iload_n 1, 1) := dGR_15_c_446.2.2.2.1
theorem dX11_takes_6 : decode cX11_takes 6 = .ok (.invokevirtual 163, 3) := dGR_15_c_446.2.2.2.2.1
theorem dX11_takes_9 : decode cX11_takes 9 = .ok (.iload_n 2, 1) := dGR_15_c_446.2.2.2.2.2.1
theorem dX11_takes_10 : decode cX11_takes 10 = .ok (.iload_n 3, 1) := dGR_15_c_446.2.2.2.2.2.2.1
theorem dX11_takes_11 : decode cX11_takes 11 = .ok (.invokevirtual 226, 3) := dGR_15_c_446.2.2.2.2.2.2.2.1
theorem dX11_takes_14 : decode cX11_takes 14 = .ok (.istore 4, 2) := dGR_15_c_446.2.2.2.2.2.2.2.2.1
theorem dX11_takes_16 : decode cX11_takes 16 = .ok (.iload 4, 2) := dGR_15_c_446.2.2.2.2.2.2.2.2.2.1
theorem dX11_takes_18 : decode cX11_takes 18 = .ok (.ifCond .eq 10, 3) := dGR_15_c_446.2.2.2.2.2.2.2.2.2.2.1
theorem dX11_takes_21 : decode cX11_takes 21 = .ok (.aload_n 0, 1) := dGR_15_c_446.2.2.2.2.2.2.2.2.2.2.2
set_option maxRecDepth 100000 in
theorem dGR_15_c_447 : (decode cX11_takes 22 = .ok (.iload 4, 2)) ∧ (decode cX11_takes 24 = .ok (.invokevirtual 110, 3)) ∧ (decode cX11_takes 27 = .ok (.ireturn, 1)) ∧ (decode cX11_takes 28 = .ok (.aload_n 0, 1)) ∧ (decode cX11_takes 29 = .ok (.getfield 26, 3)) ∧ (decode cX11_takes 32 = .ok (.iload_n 1, 1)) ∧ (decode cX11_takes 33 = .ok (.invokevirtual 164, 3)) ∧ (decode cX11_takes 36 = .ok (.astore 5, 2)) ∧ (decode cX11_takes 38 = .ok (.aload_n 0, 1)) ∧ (decode cX11_takes 39 = .ok (.aload 5, 2)) ∧ (decode cX11_takes 41 = .ok (.iload_n 2, 1)) ∧ (decode cX11_takes 42 = .ok (.iload_n 3, 1)) := by decide +kernel
theorem dX11_takes_22 : decode cX11_takes 22 = .ok (.iload 4, 2) := dGR_15_c_447.1
theorem dX11_takes_24 : decode cX11_takes 24 = .ok (.invokevirtual 110, 3) := dGR_15_c_447.2.1
theorem dX11_takes_27 : decode cX11_takes 27 = .ok (.ireturn, 1) := dGR_15_c_447.2.2.1
theorem dX11_takes_28 : decode cX11_takes 28 = .ok (.aload_n 0, 1) := dGR_15_c_447.2.2.2.1
theorem dX11_takes_29 : decode cX11_takes 29 = .ok (.getfield 26, 3) := dGR_15_c_447.2.2.2.2.1
theorem dX11_takes_32 : decode cX11_takes 32 = .ok (.iload_n 1, 1) := dGR_15_c_447.2.2.2.2.2.1
theorem dX11_takes_33 : decode cX11_takes 33 = .ok (.invokevirtual 164, 3) := dGR_15_c_447.2.2.2.2.2.2.1
theorem dX11_takes_36 : decode cX11_takes 36 = .ok (.astore 5, 2) := dGR_15_c_447.2.2.2.2.2.2.2.1
theorem dX11_takes_38 : decode cX11_takes 38 = .ok (.aload_n 0, 1) := dGR_15_c_447.2.2.2.2.2.2.2.2.1
theorem dX11_takes_39 : decode cX11_takes 39 = .ok (.aload 5, 2) := dGR_15_c_447.2.2.2.2.2.2.2.2.2.1
theorem dX11_takes_41 : decode cX11_takes 41 = .ok (.iload_n 2, 1) := dGR_15_c_447.2.2.2.2.2.2.2.2.2.2.1
theorem dX11_takes_42 : decode cX11_takes 42 = .ok (.iload_n 3, 1) := dGR_15_c_447.2.2.2.2.2.2.2.2.2.2.2
set_option maxRecDepth 100000 in
theorem dGR_15_c_448 : (decode cX11_takes 43 = .ok (.invokevirtual 230, 3)) ∧ (decode cX11_takes 46 = .ok (.aload_n 0, 1)) ∧ (decode cX11_takes 47 = .ok (.aload_n 0, 1)) ∧ (decode cX11_takes 48 = .ok (.getfield 61, 3)) ∧ (decode cX11_takes 51 = .ok (.aload 5, 2)) ∧ (decode cX11_takes 53 = .ok (.invokevirtual 234, 3)) ∧ (decode cX11_takes 56 = .ok (.ifCond .eq 7, 3)) ∧ (decode cX11_takes 59 = .ok (.iconst 1, 1)) ∧ (decode cX11_takes 60 = .ok (.goto 4, 3)) ∧ (decode cX11_takes 63 = .ok (.iconst 0, 1)) ∧ (decode cX11_takes 64 = .ok (.invokevirtual 145, 3)) ∧ (decode cX11_takes 67 = .ok (.ireturn, 1)) := by decide +kernel
theorem dX11_takes_43 : decode cX11_takes 43 = .ok (.invokevirtual 230, 3) := dGR_15_c_448.1
theorem dX11_takes_46 : decode cX11_takes 46 = .ok (.aload_n 0, 1) := dGR_15_c_448.2.1
theorem dX11_takes_47 : decode cX11_takes 47 = .ok (.aload_n 0, 1) := dGR_15_c_448.2.2.1
theorem dX11_takes_48 : decode cX11_takes 48 = .ok (.getfield 61, 3) := dGR_15_c_448.2.2.2.1
theorem dX11_takes_51 : decode cX11_takes 51 = .ok (.aload 5, 2) := dGR_15_c_448.2.2.2.2.1
theorem dX11_takes_53 : decode cX11_takes 53 = .ok (.invokevirtual 234, 3) := dGR_15_c_448.2.2.2.2.2.1
theorem dX11_takes_56 : decode cX11_takes 56 = .ok (.ifCond .eq 7, 3) := dGR_15_c_448.2.2.2.2.2.2.1
theorem dX11_takes_59 : decode cX11_takes 59 = .ok (.iconst 1, 1) := dGR_15_c_448.2.2.2.2.2.2.2.1
theorem dX11_takes_60 : decode cX11_takes 60 = .ok (.goto 4, 3) := dGR_15_c_448.2.2.2.2.2.2.2.2.1
theorem dX11_takes_63 : decode cX11_takes 63 = .ok (.iconst 0, 1) := dGR_15_c_448.2.2.2.2.2.2.2.2.2.1
theorem dX11_takes_64 : decode cX11_takes 64 = .ok (.invokevirtual 145, 3) := dGR_15_c_448.2.2.2.2.2.2.2.2.2.2.1
theorem dX11_takes_67 : decode cX11_takes 67 = .ok (.ireturn, 1) := dGR_15_c_448.2.2.2.2.2.2.2.2.2.2.2
set_option maxRecDepth 100000 in
theorem dGR_15_c_449 : (decode cX11_ends 0 = .ok (.aload_n 0, 1)) ∧ (decode cX11_ends 1 = .ok (.aload_n 0, 1)) ∧ (decode cX11_ends 2 = .ok (.getfield 26, 3)) ∧ (decode cX11_ends 5 = .ok (.iload_n 1, 1)) ∧ (decode cX11_ends 6 = .ok (.invokevirtual 163, 3)) ∧ (decode cX11_ends 9 = .ok (.iload_n 2, 1)) ∧ (decode cX11_ends 10 = .ok (.iload_n 3, 1)) ∧ (decode cX11_ends 11 = .ok (.invokevirtual 226, 3)) ∧ (decode cX11_ends 14 = .ok (.istore 4, 2)) ∧ (decode cX11_ends 16 = .ok (.iload 4, 2)) ∧ (decode cX11_ends 18 = .ok (.ifCond .eq 10, 3)) ∧ (decode cX11_ends 21 = .ok (.aload_n 0, 1)) := by decide +kernel
theorem dX11_ends_0 : decode cX11_ends 0 = .ok (.aload_n 0, 1) := dGR_15_c_449.1
theorem dX11_ends_1 : decode cX11_ends 1 = .ok (.aload_n 0, 1) := dGR_15_c_449.2.1
theorem dX11_ends_2 : decode cX11_ends 2 = .ok (.getfield 26, 3) := dGR_15_c_449.2.2.1
theorem dX11_ends_5 : decode cX11_ends 5 = .ok (.iload_n 1, 1) := dGR_15_c_449.2.2.2.1
theorem dX11_ends_6 : decode cX11_ends 6 = .ok (.invokevirtual 163, 3) := dGR_15_c_449.2.2.2.2.1
theorem dX11_ends_9 : decode cX11_ends 9 = .ok (.iload_n 2, 1) := dGR_15_c_449.2.2.2.2.2.1
theorem dX11_ends_10 : decode cX11_ends 10 = .ok (.iload_n 3, 1) := dGR_15_c_449.2.2.2.2.2.2.1
theorem dX11_ends_11 : decode cX11_ends 11 = .ok (.invokevirtual 226, 3) := dGR_15_c_449.2.2.2.2.2.2.2.1
theorem dX11_ends_14 : decode cX11_ends 14 = .ok (.istore 4, 2) := dGR_15_c_449.2.2.2.2.2.2.2.2.1
theorem dX11_ends_16 : decode cX11_ends 16 = .ok (.iload 4, 2) := dGR_15_c_449.2.2.2.2.2.2.2.2.2.1
theorem dX11_ends_18 : decode cX11_ends 18 = .ok (.ifCond .eq 10, 3) := dGR_15_c_449.2.2.2.2.2.2.2.2.2.2.1
theorem dX11_ends_21 : decode cX11_ends 21 = .ok (.aload_n 0, 1) := dGR_15_c_449.2.2.2.2.2.2.2.2.2.2.2
set_option maxRecDepth 100000 in
theorem dGR_15_c_450 : (decode cX11_ends 22 = .ok (.iload 4, 2)) ∧ (decode cX11_ends 24 = .ok (.invokevirtual 110, 3)) ∧ (decode cX11_ends 27 = .ok (.ireturn, 1)) ∧ (decode cX11_ends 28 = .ok (.aload_n 0, 1)) ∧ (decode cX11_ends 29 = .ok (.aload_n 0, 1)) ∧ (decode cX11_ends 30 = .ok (.getfield 26, 3)) ∧ (decode cX11_ends 33 = .ok (.iload_n 1, 1)) ∧ (decode cX11_ends 34 = .ok (.invokevirtual 164, 3)) ∧ (decode cX11_ends 37 = .ok (.iload_n 2, 1)) ∧ (decode cX11_ends 38 = .ok (.iload_n 3, 1)) ∧ (decode cX11_ends 39 = .ok (.invokevirtual 230, 3)) ∧ (decode cX11_ends 42 = .ok (.aload_n 0, 1)) := by decide +kernel
theorem dX11_ends_22 : decode cX11_ends 22 = .ok (.iload 4, 2) := dGR_15_c_450.1
theorem dX11_ends_24 : decode cX11_ends 24 = .ok (.invokevirtual 110, 3) := dGR_15_c_450.2.1
theorem dX11_ends_27 : decode cX11_ends 27 = .ok (.ireturn, 1) := dGR_15_c_450.2.2.1
theorem dX11_ends_28 : decode cX11_ends 28 = .ok (.aload_n 0, 1) := dGR_15_c_450.2.2.2.1
theorem dX11_ends_29 : decode cX11_ends 29 = .ok (.aload_n 0, 1) := dGR_15_c_450.2.2.2.2.1
theorem dX11_ends_30 : decode cX11_ends 30 = .ok (.getfield 26, 3) := dGR_15_c_450.2.2.2.2.2.1
theorem dX11_ends_33 : decode cX11_ends 33 = .ok (.iload_n 1, 1) := dGR_15_c_450.2.2.2.2.2.2.1
theorem dX11_ends_34 : decode cX11_ends 34 = .ok (.invokevirtual 164, 3) := dGR_15_c_450.2.2.2.2.2.2.2.1
theorem dX11_ends_37 : decode cX11_ends 37 = .ok (.iload_n 2, 1) := dGR_15_c_450.2.2.2.2.2.2.2.2.1
theorem dX11_ends_38 : decode cX11_ends 38 = .ok (.iload_n 3, 1) := dGR_15_c_450.2.2.2.2.2.2.2.2.2.1
theorem dX11_ends_39 : decode cX11_ends 39 = .ok (.invokevirtual 230, 3) := dGR_15_c_450.2.2.2.2.2.2.2.2.2.2.1
theorem dX11_ends_42 : decode cX11_ends 42 = .ok (.aload_n 0, 1) := dGR_15_c_450.2.2.2.2.2.2.2.2.2.2.2
set_option maxRecDepth 100000 in
theorem dGR_15_c_451 : (decode cX11_ends 43 = .ok (.aload_n 0, 1)) ∧ (decode cX11_ends 44 = .ok (.getfield 61, 3)) ∧ (decode cX11_ends 47 = .ok (.getfield 238, 3)) ∧ (decode cX11_ends 50 = .ok (.invokevirtual 145, 3)) ∧ (decode cX11_ends 53 = .ok (.ireturn, 1)) := by decide +kernel
theorem dX11_ends_43 : decode cX11_ends 43 = .ok (.aload_n 0, 1) := dGR_15_c_451.1
theorem dX11_ends_44 : decode cX11_ends 44 = .ok (.getfield 61, 3) := dGR_15_c_451.2.1
theorem dX11_ends_47 : decode cX11_ends 47 = .ok (.getfield 238, 3) := dGR_15_c_451.2.2.1
theorem dX11_ends_50 : decode cX11_ends 50 = .ok (.invokevirtual 145, 3) := dGR_15_c_451.2.2.2.1
theorem dX11_ends_53 : decode cX11_ends 53 = .ok (.ireturn, 1) := dGR_15_c_451.2.2.2.2
