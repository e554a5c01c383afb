theorem dX12_mark_0 : decode cX12_mark 0 = .ok (.aload_n 0, 1) := by decide +kernel
theorem dX12_mark_1 : decode cX12_mark 1 = .ok (.getfield 535, 3) := by decide +kernel
theorem dX12_mark_4 : decode cX12_mark 4 = .ok (.iconst 3, 1) := by decide +kernel
theorem dX12_mark_5 : decode cX12_mark 5 = .ok (.if_icmp .ne 9, 3) := by decide +kernel
theorem dX12_mark_8 : decode cX12_mark 8 = .ok (.aload_n 0, 1) := by decide +kernel
theorem dX12_mark_9 : decode cX12_mark 9 = .ok (.iconst 4, 1) := by decide +kernel
theorem dX12_mark_10 : decode cX12_mark 10 = .ok (.invokevirtual 123, 3) := by decide +kernel
theorem dX12_mark_13 : decode cX12_mark 13 = .ok (.ireturn, 1) := by decide +kernel
theorem dX12_mark_14 : decode cX12_mark 14 = .ok (.aload_n 0, 1) := by decide +kernel
theorem dX12_mark_15 : decode cX12_mark 15 = .ok (.dup, 1) := by decide +kernel
theorem dX12_mark_16 : decode cX12_mark 16 = .ok (.getfield 535, 3) := by decide +kernel
theorem dX12_mark_19 : decode cX12_mark 19 = .ok (.iconst 1, 1) := by decide +kernel
theorem dX12_mark_20 : decode cX12_mark 20 = .ok (.iadd, 1) := by decide +kernel
theorem dX12_mark_21 : decode cX12_mark 21 = .ok (.putfield 535, 3) := by decide +kernel
theorem dX12_mark_24 : decode cX12_mark 24 = .ok (.aload_n 0, 1) := by decide +kernel
theorem dX12_mark_25 : decode cX12_mark 25 = .ok (.iconst 0, 1) := by decide +kernel
theorem dX12_mark_26 : decode cX12_mark 26 = .ok (.aload_n 0, 1) := by decide +kernel
theorem dX12_mark_27 : decode cX12_mark 27 = .ok (.getfield 535, 3) := by decide +kernel
theorem dX12_mark_30 : decode cX12_mark 30 = .ok (.invokevirtual 538, 3) := by decide +kernel
theorem dX12_mark_33 : decode cX12_mark 33 = .ok (.aload_n 0, 1) := by decide +kernel
theorem dX12_mark_34 : decode cX12_mark 34 = .ok (.aload_n 0, 1) := by decide +kernel
theorem dX12_mark_35 : decode cX12_mark 35 = .ok (.getfield 535, 3) := by decide +kernel
theorem dX12_mark_38 : decode cX12_mark 38 = .ok (.invokevirtual 127, 3) := by decide +kernel
theorem dX12_mark_41 : decode cX12_mark 41 = .ok (.ireturn, 1) := by decide +kernel
abbrev f_c_X12_mark : List (Nat × Int) := [(64, 2), (64, 50), (65, -1), (66, -1)]
set_option maxHeartbeats 4000000 in
set_option maxRecDepth 100000 in
theorem c_X12_mark (G : KG) (l : Launch) (M : Mem) (c0 : Int) (hI_M : Inv true M) (hk_c0 : kd c0 = 64) : KC true G l yX12_mark cX12_mark 1 (some .int) (1, 23) [vR G c0] M (fun A => kQi true G A (fun (r : Int) (N : Mem) => Inv true N ∧ Fr f_c_X12_mark M N ∧ (r ≥ -1 ∧ r ≤ 3))) := by
  refine kx_met (lo := [some (vR G c0)]) (by decide) (Nat.le_of_ble_eq_true rfl) rfl ?_
  intro X F hQ
  have hF_M : Fr f_c_X12_mark M M := Fr.rf _ _
  refine kx_aload_n 1 F 0 dX12_mark_0 rfl rfl rfl ?_
  refine kx_geti 4 F fl_X12_535 hk_c0 rfl rfl (j := 50) rfl dX12_mark_1 (v := (M c0 50)) rfl rfl ?_
  have h_1 := Inv.g hI_M hk_c0 rfl 50 (a := 0) (b := 3) rfl rfl
  refine kx_iconst 5 F dX12_mark_4 rfl ?_
  refine kx_icmp_ne 8 F 14 dX12_mark_5 (by decide) rfl (by omega) (by decide) (fun h_2 => ?_) (fun h_2 => ?_)
  · refine kx_aload_n 15 F 0 dX12_mark_14 rfl rfl rfl ?_
    refine kx_dup 16 F dX12_mark_15 rfl rfl ?_
    refine kx_geti 19 F fl_X12_535 hk_c0 rfl rfl (j := 50) rfl dX12_mark_16 (v := (M c0 50)) rfl rfl ?_
    refine kx_iconst 20 F dX12_mark_19 rfl ?_
    refine kx_iadd 21 F (v := (M c0 50) + 1) dX12_mark_20 rfl rfl ?_
    refine kx_puti 24 F fw_X12_535 rfl hk_c0 rfl rfl (j := 50) rfl dX12_mark_21 rfl ?_
    intro N_3 hM_N_3
    have hI_N_3 : Inv true N_3 := Inv.u hI_M hM_N_3 hk_c0 (a := 0) (b := 3) rfl rfl rfl (by omega)
    have hF_N_3 : Fr f_c_X12_mark M N_3 := Fr.u hF_M hM_N_3 hk_c0 rfl
    refine kx_aload_n 25 F 0 dX12_mark_24 rfl rfl rfl ?_
    refine kx_iconst 26 F dX12_mark_25 rfl ?_
    refine kx_aload_n 27 F 0 dX12_mark_26 rfl rfl rfl ?_
    refine kx_geti 30 F fl_X12_535 hk_c0 rfl rfl (j := 50) rfl dX12_mark_27 (v := (M c0 50) + 1) (by rw [hM_N_3, mu_s]) rfl ?_
    refine kx_Vv 33 (ci := 0) F (As := [vI 0, vI ((M c0 50) + 1)]) (st := []) vd_X12_538 (c_copiesTo G l N_3 c0 0 ((M c0 50) + 1) hI_N_3 hk_c0 (by omega)) hk_c0 rfl rfl rfl ⟨by decide, by decide⟩ rfl rfl (Nat.le_of_ble_eq_true rfl) dX12_mark_30 rfl ?_
    intro N_4 q_5
    obtain ⟨hI_N_4, hG_N_4⟩ := q_5
    have hF_N_4 : Fr f_c_X12_mark M N_4 := Fr.c hF_N_3 hG_N_4 rfl
    refine kx_aload_n 34 F 0 dX12_mark_33 rfl rfl rfl ?_
    refine kx_aload_n 35 F 0 dX12_mark_34 rfl rfl rfl ?_
    refine kx_geti 38 F fl_X12_535 hk_c0 rfl rfl (j := 50) rfl dX12_mark_35 (v := (M c0 50) + 1) (by rw [Fr.e hG_N_4 hk_c0 _ rfl, hM_N_3, mu_s]) rfl ?_
    refine kx_Vi 41 (ci := 0) F (As := [vI ((M c0 50) + 1)]) (st := []) vd_X12_127 (c_X12_gives G l N_4 c0 ((M c0 50) + 1) hI_N_4 hk_c0 (by omega)) hk_c0 rfl rfl rfl ⟨by decide, by decide⟩ rfl rfl (Nat.le_of_ble_eq_true rfl) dX12_mark_38 rfl ?_
    intro r_6 N_7 q_8
    obtain ⟨hI_N_7, hG_N_7, q_8c⟩ := q_8
    have hF_N_7 : Fr f_c_X12_mark M N_7 := Fr.c hF_N_4 hG_N_7 rfl
    refine kx_topi (e' := (M c0 50) + 1) (by omega) ?_
    exact kx_iret F hQ ⟨hI_N_7, hF_N_7, (by omega)⟩ dX12_mark_41
  · refine kx_aload_n 9 F 0 dX12_mark_8 rfl rfl rfl ?_
    refine kx_iconst 10 F dX12_mark_9 rfl ?_
    refine kx_Vi 13 (ci := 0) F (As := [vI 4]) (st := []) vd_X12_123 (c_X12_refuse G l M c0 4 hI_M hk_c0 (by omega)) hk_c0 rfl rfl rfl ⟨by decide, by decide⟩ rfl rfl (Nat.le_of_ble_eq_true rfl) dX12_mark_10 rfl ?_
    intro r_9 N_10 q_11
    obtain ⟨hI_N_10, hG_N_10, q_11c⟩ := q_11
    have hF_N_10 : Fr f_c_X12_mark M N_10 := Fr.c hF_M hG_N_10 rfl
    subst q_11c
    exact kx_iret F hQ ⟨hI_N_10, hF_N_10, (by omega)⟩ dX12_mark_13
theorem dX12_fails_0 : decode cX12_fails 0 = .ok (.aload_n 0, 1) := by decide +kernel
theorem dX12_fails_1 : decode cX12_fails 1 = .ok (.getfield 193, 3) := by decide +kernel
theorem dX12_fails_4 : decode cX12_fails 4 = .ok (.ifCond .ne 28, 3) := by decide +kernel
theorem dX12_fails_7 : decode cX12_fails 7 = .ok (.aload_n 0, 1) := by decide +kernel
theorem dX12_fails_8 : decode cX12_fails 8 = .ok (.aload_n 0, 1) := by decide +kernel
theorem dX12_fails_9 : decode cX12_fails 9 = .ok (.getfield 168, 3) := by decide +kernel
theorem dX12_fails_12 : decode cX12_fails 12 = .ok (.iconst 1, 1) := by decide +kernel
theorem dX12_fails_13 : decode cX12_fails 13 = .ok (.if_icmp .ne 7, 3) := by decide +kernel
theorem dX12_fails_16 : decode cX12_fails 16 = .ok (.iconst 1, 1) := by decide +kernel
theorem dX12_fails_17 : decode cX12_fails 17 = .ok (.goto 4, 3) := by decide +kernel
theorem dX12_fails_20 : decode cX12_fails 20 = .ok (.iload_n 1, 1) := by decide +kernel
theorem dX12_fails_21 : decode cX12_fails 21 = .ok (.putfield 193, 3) := by decide +kernel
theorem dX12_fails_24 : decode cX12_fails 24 = .ok (.aload_n 0, 1) := by decide +kernel
theorem dX12_fails_25 : decode cX12_fails 25 = .ok (.aload_n 0, 1) := by decide +kernel
theorem dX12_fails_26 : decode cX12_fails 26 = .ok (.getfield 162, 3) := by decide +kernel
theorem dX12_fails_29 : decode cX12_fails 29 = .ok (.putfield 41, 3) := by decide +kernel
theorem dX12_fails_32 : decode cX12_fails 32 = .ok (.iconst 0, 1) := by decide +kernel
theorem dX12_fails_33 : decode cX12_fails 33 = .ok (.ireturn, 1) := by decide +kernel
abbrev f_c_X12_fails : List (Nat × Int) := [(64, 17), (64, 18)]
set_option maxHeartbeats 4000000 in
set_option maxRecDepth 100000 in
theorem c_X12_fails (G : KG) (l : Launch) (M : Mem) (c0 : Int) (a1 : Int) (hI_M : Inv true M) (hk_c0 : kd c0 = 64) (hpre : -2147483648 ≤ a1 ∧ a1 ≤ 2147483647) : KC true G l yX12_fails cX12_fails 2 (some .boolean) (0, 0) [vR G c0, vI a1] M (fun A => kQi true G A (fun (r : Int) (N : Mem) => Inv true N ∧ Fr f_c_X12_fails M N ∧ (r = 0))) := by
  refine kx_met (lo := [some (vR G c0), some (vI a1)]) (by decide) (Nat.le_of_ble_eq_true rfl) rfl ?_
  intro X F hQ
  have hF_M : Fr f_c_X12_fails M M := Fr.rf _ _
  refine kx_aload_n 1 F 0 dX12_fails_0 rfl rfl rfl ?_
  refine kx_geti 4 F fl_X12_193 hk_c0 rfl rfl (j := 18) rfl dX12_fails_1 (v := (M c0 18)) rfl rfl ?_
  have h_1 := Inv.g hI_M hk_c0 rfl 18 (a := (-2147483648)) (b := 2147483647) rfl rfl
  refine kx_if_ne 7 F 32 dX12_fails_4 (by decide) rfl (by omega) (fun h_2 => ?_) (fun h_2 => ?_)
  · refine kx_iconst 33 F dX12_fails_32 rfl ?_
    exact kx_zret F hQ (by omega) ⟨hI_M, hF_M, (by omega)⟩ dX12_fails_33
  · refine kx_aload_n 8 F 0 dX12_fails_7 rfl rfl rfl ?_
    refine kx_aload_n 9 F 0 dX12_fails_8 rfl rfl rfl ?_
    refine kx_geti 12 F fl_X12_168 hk_c0 rfl rfl (j := 12) rfl dX12_fails_9 (v := (M c0 12)) rfl rfl ?_
    have h_3 := Inv.g hI_M hk_c0 rfl 12 (a := 0) (b := 4) rfl rfl
    refine kx_iconst 13 F dX12_fails_12 rfl ?_
    refine kx_icmp_ne 16 F 20 dX12_fails_13 (by decide) rfl (by omega) (by decide) (fun h_4 => ?_) (fun h_4 => ?_)
    · refine kx_iload_n 21 F 1 dX12_fails_20 rfl rfl rfl ?_
      refine kx_puti 24 F fw_X12_193 rfl hk_c0 rfl rfl (j := 18) rfl dX12_fails_21 rfl ?_
      intro N_5 hM_N_5
      have hI_N_5 : Inv true N_5 := Inv.u hI_M hM_N_5 hk_c0 (a := (-2147483648)) (b := 2147483647) rfl rfl rfl (by omega)
      have hF_N_5 : Fr f_c_X12_fails M N_5 := Fr.u hF_M hM_N_5 hk_c0 rfl
      refine kx_aload_n 25 F 0 dX12_fails_24 rfl rfl rfl ?_
      refine kx_aload_n 26 F 0 dX12_fails_25 rfl rfl rfl ?_
      refine kx_geti 29 F fl_X12_162 hk_c0 rfl rfl (j := 13) rfl dX12_fails_26 (v := (M c0 13)) (by rw [hM_N_5, mu_i (by omega)]) rfl ?_
      have h_6 := Inv.g hI_M hk_c0 rfl 13 (a := 0) (b := 900) rfl rfl
      refine kx_puti 32 F fw_X12_41 rfl hk_c0 rfl rfl (j := 17) rfl dX12_fails_29 rfl ?_
      intro N_7 hM_N_7
      have hI_N_7 : Inv true N_7 := Inv.u hI_N_5 hM_N_7 hk_c0 (a := (-2147483648)) (b := 2147483647) rfl rfl rfl (by omega)
      have hF_N_7 : Fr f_c_X12_fails M N_7 := Fr.u hF_N_5 hM_N_7 hk_c0 rfl
      refine kx_iconst 33 F dX12_fails_32 rfl ?_
      exact kx_zret F hQ (by omega) ⟨hI_N_7, hF_N_7, (by omega)⟩ dX12_fails_33
    · refine kx_iconst 17 F dX12_fails_16 rfl ?_
      refine kx_goto 21 F dX12_fails_17 (by decide) ?_
      refine kx_puti 24 F fw_X12_193 rfl hk_c0 rfl rfl (j := 18) rfl dX12_fails_21 rfl ?_
      intro N_8 hM_N_8
      have hI_N_8 : Inv true N_8 := Inv.u hI_M hM_N_8 hk_c0 (a := (-2147483648)) (b := 2147483647) rfl rfl rfl (by omega)
      have hF_N_8 : Fr f_c_X12_fails M N_8 := Fr.u hF_M hM_N_8 hk_c0 rfl
      refine kx_aload_n 25 F 0 dX12_fails_24 rfl rfl rfl ?_
      refine kx_aload_n 26 F 0 dX12_fails_25 rfl rfl rfl ?_
      refine kx_geti 29 F fl_X12_162 hk_c0 rfl rfl (j := 13) rfl dX12_fails_26 (v := (M c0 13)) (by rw [hM_N_8, mu_i (by omega)]) rfl ?_
      have h_9 := Inv.g hI_M hk_c0 rfl 13 (a := 0) (b := 900) rfl rfl
      refine kx_puti 32 F fw_X12_41 rfl hk_c0 rfl rfl (j := 17) rfl dX12_fails_29 rfl ?_
      intro N_10 hM_N_10
      have hI_N_10 : Inv true N_10 := Inv.u hI_N_8 hM_N_10 hk_c0 (a := (-2147483648)) (b := 2147483647) rfl rfl rfl (by omega)
      have hF_N_10 : Fr f_c_X12_fails M N_10 := Fr.u hF_N_8 hM_N_10 hk_c0 rfl
      refine kx_iconst 33 F dX12_fails_32 rfl ?_
      exact kx_zret F hQ (by omega) ⟨hI_N_10, hF_N_10, (by omega)⟩ dX12_fails_33
theorem dX12_inWords_0 : decode cX12_inWords 0 = .ok (.aload_n 0, 1) := by decide +kernel
theorem dX12_inWords_1 : decode cX12_inWords 1 = .ok (.getfield 168, 3) := by decide +kernel
theorem dX12_inWords_4 : decode cX12_inWords 4 = .ok (.iconst 2, 1) := by decide +kernel
theorem dX12_inWords_5 : decode cX12_inWords 5 = .ok (.if_icmp .eq 5, 3) := by decide +kernel
theorem dX12_inWords_8 : decode cX12_inWords 8 = .ok (.iconst (-1), 1) := by decide +kernel
theorem dX12_inWords_9 : decode cX12_inWords 9 = .ok (.ireturn, 1) := by decide +kernel
theorem dX12_inWords_10 : decode cX12_inWords 10 = .ok (.iconst 0, 1) := by decide +kernel
theorem dX12_inWords_11 : decode cX12_inWords 11 = .ok (.istore_n 2, 1) := by decide +kernel
theorem dX12_inWords_12 : decode cX12_inWords 12 = .ok (.iconst 1, 1) := by decide +kernel
theorem dX12_inWords_13 : decode cX12_inWords 13 = .ok (.istore_n 3, 1) := by decide +kernel
theorem dX12_inWords_14 : decode cX12_inWords 14 = .ok (.iload_n 3, 1) := by decide +kernel
theorem dX12_inWords_15 : decode cX12_inWords 15 = .ok (.aload_n 1, 1) := by decide +kernel
theorem dX12_inWords_16 : decode cX12_inWords 16 = .ok (.invokevirtual 183, 3) := by decide +kernel
theorem dX12_inWords_19 : decode cX12_inWords 19 = .ok (.if_icmp .ge 114, 3) := by decide +kernel
theorem dX12_inWords_22 : decode cX12_inWords 22 = .ok (.iload_n 3, 1) := by decide +kernel
theorem dX12_inWords_23 : decode cX12_inWords 23 = .ok (.istore 4, 2) := by decide +kernel
theorem dX12_inWords_25 : decode cX12_inWords 25 = .ok (.aload_n 1, 1) := by decide +kernel
theorem dX12_inWords_26 : decode cX12_inWords 26 = .ok (.iload 4, 2) := by decide +kernel
theorem dX12_inWords_28 : decode cX12_inWords 28 = .ok (.invokevirtual 189, 3) := by decide +kernel
theorem dX12_inWords_31 : decode cX12_inWords 31 = .ok (.bipush 32, 2) := by decide +kernel
theorem dX12_inWords_33 : decode cX12_inWords 33 = .ok (.if_icmp .eq 9, 3) := by decide +kernel
theorem dX12_inWords_36 : decode cX12_inWords 36 = .ok (.iinc 4 1, 3) := by decide +kernel
theorem dX12_inWords_39 : decode cX12_inWords 39 = .ok (.goto (-14), 3) := by decide +kernel
theorem dX12_inWords_42 : decode cX12_inWords 42 = .ok (.iload 4, 2) := by decide +kernel
theorem dX12_inWords_44 : decode cX12_inWords 44 = .ok (.iload_n 3, 1) := by decide +kernel
theorem dX12_inWords_45 : decode cX12_inWords 45 = .ok (.isub, 1) := by decide +kernel
theorem dX12_inWords_46 : decode cX12_inWords 46 = .ok (.aload_n 0, 1) := by decide +kernel
theorem dX12_inWords_47 : decode cX12_inWords 47 = .ok (.getfield 156, 3) := by decide +kernel
theorem dX12_inWords_50 : decode cX12_inWords 50 = .ok (.aload_n 0, 1) := by decide +kernel
theorem dX12_inWords_51 : decode cX12_inWords 51 = .ok (.getfield 162, 3) := by decide +kernel
theorem dX12_inWords_54 : decode cX12_inWords 54 = .ok (.isub, 1) := by decide +kernel
theorem dX12_inWords_55 : decode cX12_inWords 55 = .ok (.if_icmp .ne 7, 3) := by decide +kernel
theorem dX12_inWords_58 : decode cX12_inWords 58 = .ok (.iconst 1, 1) := by decide +kernel
theorem dX12_inWords_59 : decode cX12_inWords 59 = .ok (.goto 4, 3) := by decide +kernel
theorem dX12_inWords_62 : decode cX12_inWords 62 = .ok (.iconst 0, 1) := by decide +kernel
theorem dX12_inWords_63 : decode cX12_inWords 63 = .ok (.istore 5, 2) := by decide +kernel
theorem dX12_inWords_65 : decode cX12_inWords 65 = .ok (.iload_n 3, 1) := by decide +kernel
theorem dX12_inWords_66 : decode cX12_inWords 66 = .ok (.istore 6, 2) := by decide +kernel
theorem dX12_inWords_68 : decode cX12_inWords 68 = .ok (.iload 6, 2) := by decide +kernel
theorem dX12_inWords_70 : decode cX12_inWords 70 = .ok (.iload 4, 2) := by decide +kernel
theorem dX12_inWords_72 : decode cX12_inWords 72 = .ok (.if_icmp .ge 43, 3) := by decide +kernel
theorem dX12_inWords_75 : decode cX12_inWords 75 = .ok (.iload 5, 2) := by decide +kernel
theorem dX12_inWords_77 : decode cX12_inWords 77 = .ok (.ifCond .eq 38, 3) := by decide +kernel
theorem dX12_inWords_80 : decode cX12_inWords 80 = .ok (.aload_n 1, 1) := by decide +kernel
theorem dX12_inWords_81 : decode cX12_inWords 81 = .ok (.iload 6, 2) := by decide +kernel
theorem dX12_inWords_83 : decode cX12_inWords 83 = .ok (.invokevirtual 189, 3) := by decide +kernel
theorem dX12_inWords_86 : decode cX12_inWords 86 = .ok (.aload_n 0, 1) := by decide +kernel
theorem dX12_inWords_87 : decode cX12_inWords 87 = .ok (.aload_n 0, 1) := by decide +kernel
theorem dX12_inWords_88 : decode cX12_inWords 88 = .ok (.getfield 162, 3) := by decide +kernel
theorem dX12_inWords_91 : decode cX12_inWords 91 = .ok (.iload 6, 2) := by decide +kernel
theorem dX12_inWords_93 : decode cX12_inWords 93 = .ok (.iadd, 1) := by decide +kernel
theorem dX12_inWords_94 : decode cX12_inWords 94 = .ok (.iload_n 3, 1) := by decide +kernel
theorem dX12_inWords_95 : decode cX12_inWords 95 = .ok (.isub, 1) := by decide +kernel
theorem dX12_inWords_96 : decode cX12_inWords 96 = .ok (.invokevirtual 159, 3) := by decide +kernel
theorem dX12_inWords_99 : decode cX12_inWords 99 = .ok (.if_icmp .ne 7, 3) := by decide +kernel
theorem dX12_inWords_102 : decode cX12_inWords 102 = .ok (.iconst 1, 1) := by decide +kernel
theorem dX12_inWords_103 : decode cX12_inWords 103 = .ok (.goto 4, 3) := by decide +kernel
theorem dX12_inWords_106 : decode cX12_inWords 106 = .ok (.iconst 0, 1) := by decide +kernel
theorem dX12_inWords_107 : decode cX12_inWords 107 = .ok (.istore 5, 2) := by decide +kernel
theorem dX12_inWords_109 : decode cX12_inWords 109 = .ok (.iinc 6 1, 3) := by decide +kernel
theorem dX12_inWords_112 : decode cX12_inWords 112 = .ok (.goto (-44), 3) := by decide +kernel
theorem dX12_inWords_115 : decode cX12_inWords 115 = .ok (.iload 5, 2) := by decide +kernel
theorem dX12_inWords_117 : decode cX12_inWords 117 = .ok (.ifCond .eq 5, 3) := by decide +kernel
theorem dX12_inWords_120 : decode cX12_inWords 120 = .ok (.iload_n 2, 1) := by decide +kernel
theorem dX12_inWords_121 : decode cX12_inWords 121 = .ok (.ireturn, 1) := by decide +kernel
theorem dX12_inWords_122 : decode cX12_inWords 122 = .ok (.iinc 2 1, 3) := by decide +kernel
theorem dX12_inWords_125 : decode cX12_inWords 125 = .ok (.iload 4, 2) := by decide +kernel
theorem dX12_inWords_127 : decode cX12_inWords 127 = .ok (.iconst 1, 1) := by decide +kernel
theorem dX12_inWords_128 : decode cX12_inWords 128 = .ok (.iadd, 1) := by decide +kernel
theorem dX12_inWords_129 : decode cX12_inWords 129 = .ok (.istore_n 3, 1) := by decide +kernel
theorem dX12_inWords_130 : decode cX12_inWords 130 = .ok (.goto (-116), 3) := by decide +kernel
theorem dX12_inWords_133 : decode cX12_inWords 133 = .ok (.iconst (-1), 1) := by decide +kernel
theorem dX12_inWords_134 : decode cX12_inWords 134 = .ok (.ireturn, 1) := by decide +kernel
set_option maxHeartbeats 4000000 in
set_option maxRecDepth 100000 in
theorem c_X12_inWords (G : KG) (l : Launch) (M : Mem) (c0 : Int) (hI_M : Inv true M) (hk_c0 : kd c0 = 64) : KC true G l yX12_inWords cX12_inWords 7 (some .int) (4, 85) [vR G c0, vT G 11] M (fun A => kQi true G A (fun (r : Int) (N : Mem) => M = N ∧ ((r = -1) ∨ (r ≥ 0 ∧ r ≤ 66 ∧ (M c0 12) = 2)))) := by
  refine kx_met (lo := [some (vR G c0), some (vT G 11), none, none, none, none, none]) (by decide) (Nat.le_of_ble_eq_true rfl) rfl ?_
  intro X F hQ
  have h_1 : slen 11 = 67 := rfl
  refine kx_aload_n 1 F 0 dX12_inWords_0 rfl rfl rfl ?_
  refine kx_geti 4 F fl_X12_168 hk_c0 rfl rfl (j := 12) rfl dX12_inWords_1 (v := (M c0 12)) rfl rfl ?_
  have h_2 := Inv.g hI_M hk_c0 rfl 12 (a := 0) (b := 4) rfl rfl
  refine kx_iconst 5 F dX12_inWords_4 rfl ?_
  refine kx_icmp_eq 8 F 10 dX12_inWords_5 (by decide) rfl (by omega) (by decide) (fun h_3 => ?_) (fun h_3 => ?_)
  · refine kx_iconst 11 F dX12_inWords_10 rfl ?_
    refine kx_istore_n 12 F 2 (lo' := [some (vR G c0), some (vT G 11), some (vI 0), none, none, none, none]) dX12_inWords_11 rfl (by decide) rfl rfl rfl ?_
    refine kx_iconst 13 F dX12_inWords_12 rfl ?_
    refine kx_istore_n 14 F 3 (lo' := [some (vR G c0), some (vT G 11), some (vI 0), some (vI 1), none, none, none]) dX12_inWords_13 rfl (by decide) rfl rfl rfl ?_
    have L_174 : ∀ (n_175 : Nat) (x2_172 : Int) (x3_173 : Int), 0 ≤ x2_172 ∧ x2_172 ≤ 67 ∧ 1 ≤ x3_173 ∧ x3_173 ≤ 67 ∧ x2_172 ≤ x3_173 → (67 - (x2_172)).toNat = n_175 → KJ true G X M 14 [some (vR G c0), some (vT G 11), some (vI x2_172), some (vI x3_173), none, none, none] [] := by
      intro n_175
      refine Nat.strongRecOn n_175 ?_
      intro n_175 ih_176 x2_172 x3_173 h_177 hm_178
      refine kx_iload_n 15 F 3 dX12_inWords_14 rfl rfl rfl ?_
      refine kx_aload_n 16 F 1 dX12_inWords_15 rfl rfl rfl ?_
      refine kx_VSi 19 F (As := []) (st := [vI x3_173]) (by omega) vd_X12_183 (c_slength_t G l M 11 hI_M (by omega)) rfl ⟨by decide, by decide⟩ rfl rfl (Nat.le_of_ble_eq_true rfl) dX12_inWords_16 rfl ?_
      intro r_179 N_180 q_181
      obtain ⟨rfl, q_181c⟩ := q_181
      have h_182 := slen_rng 11
      refine kx_topi (e' := (slen 11)) (by omega) ?_
      refine kx_icmp_ge 22 F 133 dX12_inWords_19 (by decide) rfl (by omega) (by omega) (fun h_183 => ?_) (fun h_183 => ?_)
      · refine kx_iconst 134 F dX12_inWords_133 rfl ?_
        exact kx_iret F hQ ⟨rfl, (by omega)⟩ dX12_inWords_134
      · refine kx_iload_n 23 F 3 dX12_inWords_22 rfl rfl rfl ?_
        refine kx_istore 25 F 4 (lo' := [some (vR G c0), some (vT G 11), some (vI x2_172), some (vI x3_173), some (vI x3_173), none, none]) dX12_inWords_23 (by decide) rfl rfl rfl ?_
        have L_263 : ∀ (n_264 : Nat) (x4_262 : Int), 1 ≤ x4_262 ∧ x4_262 ≤ 66 ∧ x3_173 ≤ x4_262 → (66 - (x4_262)).toNat = n_264 → KJ true G X M 25 [some (vR G c0), some (vT G 11), some (vI x2_172), some (vI x3_173), some (vI x4_262), none, none] [] := by
          intro n_264
          refine Nat.strongRecOn n_264 ?_
          intro n_264 ih_265 x4_262 h_266 hm_267
          refine kx_aload_n 26 F 1 dX12_inWords_25 rfl rfl rfl ?_
          refine kx_iload 28 F 4 dX12_inWords_26 rfl rfl ?_
          refine kx_VSi 31 F (As := [vI x4_262]) (st := []) (by omega) vd_X12_189 (c_charAt_t G l M 11 x4_262 hI_M (by omega)) rfl ⟨by decide, by decide⟩ rfl rfl (Nat.le_of_ble_eq_true rfl) dX12_inWords_28 rfl ?_
          intro r_268 N_269 q_270
          obtain ⟨rfl, q_270c⟩ := q_270
          have h_271 : ¬ x4_262 = 66 ∨ zand (schar 11 x4_262) 255 = 32 := by
            by_cases q : x4_262 = 66
            · exact Or.inr (by rw [q]; decide)
            · exact Or.inl q
          refine kx_bipush 33 F dX12_inWords_31 (by decide) rfl ?_
          refine kx_icmp_eq 36 F 42 dX12_inWords_33 (by decide) rfl (by omega) (by decide) (fun h_272 => ?_) (fun h_272 => ?_)
          · refine kx_iload 44 F 4 dX12_inWords_42 rfl rfl ?_
            refine kx_iload_n 45 F 3 dX12_inWords_44 rfl rfl rfl ?_
            refine kx_isub 46 F (v := x4_262 - x3_173) dX12_inWords_45 rfl rfl ?_
            refine kx_aload_n 47 F 0 dX12_inWords_46 rfl rfl rfl ?_
            refine kx_geti 50 F fl_X12_156 hk_c0 rfl rfl (j := 14) rfl dX12_inWords_47 (v := (M c0 14)) rfl rfl ?_
            have h_273 := Inv.g hI_M hk_c0 rfl 14 (a := 0) (b := 900) rfl rfl
            refine kx_aload_n 51 F 0 dX12_inWords_50 rfl rfl rfl ?_
            refine kx_geti 54 F fl_X12_162 hk_c0 rfl rfl (j := 13) rfl dX12_inWords_51 (v := (M c0 13)) rfl rfl ?_
            have h_274 := Inv.g hI_M hk_c0 rfl 13 (a := 0) (b := 900) rfl rfl
            refine kx_isub 55 F (v := (M c0 14) - (M c0 13)) dX12_inWords_54 rfl rfl ?_
            have J_278 : ∀ (y0_277 : Int), 0 ≤ y0_277 ∧ y0_277 ≤ 1 → KJ true G X M 63 [some (vR G c0), some (vT G 11), some (vI x2_172), some (vI x3_173), some (vI x4_262), none, none] [vI y0_277] := by
              intro y0_277 h_279
              refine kx_istore 65 F 5 (lo' := [some (vR G c0), some (vT G 11), some (vI x2_172), some (vI x3_173), some (vI x4_262), some (vI y0_277), none]) dX12_inWords_63 (by decide) rfl rfl rfl ?_
              refine kx_iload_n 66 F 3 dX12_inWords_65 rfl rfl rfl ?_
              refine kx_istore 68 F 6 (lo' := [some (vR G c0), some (vT G 11), some (vI x2_172), some (vI x3_173), some (vI x4_262), some (vI y0_277), some (vI x3_173)]) dX12_inWords_66 (by decide) rfl rfl rfl ?_
              have L_298 : ∀ (n_299 : Nat) (x5_296 : Int) (x6_297 : Int), 0 ≤ x5_296 ∧ x5_296 ≤ 1 ∧ 1 ≤ x6_297 ∧ x6_297 ≤ 66 ∧ x3_173 ≤ x6_297 → (66 - (x6_297)).toNat = n_299 → KJ true G X M 68 [some (vR G c0), some (vT G 11), some (vI x2_172), some (vI x3_173), some (vI x4_262), some (vI x5_296), some (vI x6_297)] [] := by
                intro n_299
                refine Nat.strongRecOn n_299 ?_
                intro n_299 ih_300 x5_296 x6_297 h_301 hm_302
                refine kx_iload 70 F 6 dX12_inWords_68 rfl rfl ?_
                refine kx_iload 72 F 4 dX12_inWords_70 rfl rfl ?_
                have J_315 : KJ true G X M 115 [some (vR G c0), some (vT G 11), some (vI x2_172), none, some (vI x4_262), some (vI x5_296), none] [] := by
                  refine kx_iload 117 F 5 dX12_inWords_115 rfl rfl ?_
                  refine kx_if_eq 120 F 122 dX12_inWords_117 (by decide) rfl (by omega) (fun h_317 => ?_) (fun h_317 => ?_)
                  · refine kx_iinc 125 F 2 (v := x2_172 + 1) (lo' := [some (vR G c0), some (vT G 11), some (vI (x2_172 + 1)), none, some (vI x4_262), some (vI x5_296), none]) dX12_inWords_122 rfl (by omega) (by decide) rfl rfl rfl ?_
                    refine kx_iload 127 F 4 dX12_inWords_125 rfl rfl ?_
                    refine kx_iconst 128 F dX12_inWords_127 rfl ?_
                    refine kx_iadd 129 F (v := x4_262 + 1) dX12_inWords_128 rfl rfl ?_
                    refine kx_istore_n 130 F 3 (lo' := [some (vR G c0), some (vT G 11), some (vI (x2_172 + 1)), some (vI (x4_262 + 1)), some (vI x4_262), some (vI x5_296), none]) dX12_inWords_129 rfl (by decide) rfl rfl rfl ?_
                    refine kx_goto 14 F dX12_inWords_130 (by decide) ?_
                    refine kx_drop 4 (lo' := [some (vR G c0), some (vT G 11), some (vI (x2_172 + 1)), some (vI (x4_262 + 1)), none, some (vI x5_296), none]) rfl ?_
                    refine kx_drop 5 (lo' := [some (vR G c0), some (vT G 11), some (vI (x2_172 + 1)), some (vI (x4_262 + 1)), none, none, none]) rfl ?_
                    exact ih_176 _ (by omega) (x2_172 + 1) (x4_262 + 1) (by omega) rfl
                  · refine kx_iload_n 121 F 2 dX12_inWords_120 rfl rfl rfl ?_
                    exact kx_iret F hQ ⟨rfl, (by omega)⟩ dX12_inWords_121
                refine kx_icmp_ge 75 F 115 dX12_inWords_72 (by decide) rfl (by omega) (by omega) (fun h_318 => ?_) (fun h_318 => ?_)
                · refine kx_drop 3 (lo' := [some (vR G c0), some (vT G 11), some (vI x2_172), none, some (vI x4_262), some (vI x5_296), some (vI x6_297)]) rfl ?_
                  refine kx_drop 6 (lo' := [some (vR G c0), some (vT G 11), some (vI x2_172), none, some (vI x4_262), some (vI x5_296), none]) rfl ?_
                  exact J_315 
                · refine kx_iload 77 F 5 dX12_inWords_75 rfl rfl ?_
                  refine kx_if_eq 80 F 115 dX12_inWords_77 (by decide) rfl (by omega) (fun h_319 => ?_) (fun h_319 => ?_)
                  · refine kx_drop 3 (lo' := [some (vR G c0), some (vT G 11), some (vI x2_172), none, some (vI x4_262), some (vI x5_296), some (vI x6_297)]) rfl ?_
                    refine kx_drop 6 (lo' := [some (vR G c0), some (vT G 11), some (vI x2_172), none, some (vI x4_262), some (vI x5_296), none]) rfl ?_
                    exact J_315 
                  · refine kx_aload_n 81 F 1 dX12_inWords_80 rfl rfl rfl ?_
                    refine kx_iload 83 F 6 dX12_inWords_81 rfl rfl ?_
                    refine kx_VSi 86 F (As := [vI x6_297]) (st := []) (by omega) vd_X12_189 (c_charAt_t G l M 11 x6_297 hI_M (by omega)) rfl ⟨by decide, by decide⟩ rfl rfl (Nat.le_of_ble_eq_true rfl) dX12_inWords_83 rfl ?_
                    intro r_320 N_321 q_322
                    obtain ⟨rfl, q_322c⟩ := q_322
                    refine kx_aload_n 87 F 0 dX12_inWords_86 rfl rfl rfl ?_
                    refine kx_aload_n 88 F 0 dX12_inWords_87 rfl rfl rfl ?_
                    refine kx_geti 91 F fl_X12_162 hk_c0 rfl rfl (j := 13) rfl dX12_inWords_88 (v := (M c0 13)) rfl rfl ?_
                    refine kx_iload 93 F 6 dX12_inWords_91 rfl rfl ?_
                    refine kx_iadd 94 F (v := (M c0 13) + x6_297) dX12_inWords_93 rfl rfl ?_
                    refine kx_iload_n 95 F 3 dX12_inWords_94 rfl rfl rfl ?_
                    refine kx_isub 96 F (v := (M c0 13) + x6_297 - x3_173) dX12_inWords_95 rfl rfl ?_
                    refine kx_Vi 99 (ci := 0) F (As := [vI ((M c0 13) + x6_297 - x3_173)]) (st := [vI r_320]) vd_X12_159 (c_X12_byteAt G l M c0 ((M c0 13) + x6_297 - x3_173) hI_M hk_c0 (by omega)) hk_c0 rfl rfl rfl ⟨by decide, by decide⟩ rfl rfl (Nat.le_of_ble_eq_true rfl) dX12_inWords_96 rfl ?_
                    intro r_323 N_324 q_325
                    obtain ⟨rfl, q_325c⟩ := q_325
                    have h_326 := Inv.g hI_M hk_c0 rfl 11 (a := 0) (b := 900) rfl rfl
                    have h_327 := Inv.g hI_M hk_c0 rfl 11 (a := 0) (b := 900) rfl rfl
                    rcases q_325c with q_325c | q_325c
                    · have J_331 : ∀ (y0_330 : Int), 0 ≤ y0_330 ∧ y0_330 ≤ 0 → KJ true G X M 107 [some (vR G c0), some (vT G 11), some (vI x2_172), some (vI x3_173), some (vI x4_262), none, some (vI x6_297)] [vI y0_330] := by
                        intro y0_330 h_332
                        refine kx_istore 109 F 5 (lo' := [some (vR G c0), some (vT G 11), some (vI x2_172), some (vI x3_173), some (vI x4_262), some (vI y0_330), some (vI x6_297)]) dX12_inWords_107 (by decide) rfl rfl rfl ?_
                        refine kx_iinc 112 F 6 (v := x6_297 + 1) (lo' := [some (vR G c0), some (vT G 11), some (vI x2_172), some (vI x3_173), some (vI x4_262), some (vI y0_330), some (vI (x6_297 + 1))]) dX12_inWords_109 rfl (by omega) (by decide) rfl rfl rfl ?_
                        refine kx_goto 68 F dX12_inWords_112 (by decide) ?_
                        exact ih_300 _ (by omega) y0_330 (x6_297 + 1) (by omega) rfl
                      refine kx_icmp_ne 102 F 106 dX12_inWords_99 (by decide) rfl (by omega) (by omega) (fun h_333 => ?_) (fun h_333 => (by exfalso; omega))
                      refine kx_iconst 107 F dX12_inWords_106 rfl ?_
                      refine kx_drop 5 (lo' := [some (vR G c0), some (vT G 11), some (vI x2_172), some (vI x3_173), some (vI x4_262), none, some (vI x6_297)]) rfl ?_
                      exact J_331 0 (by omega)
                    · have J_337 : ∀ (y0_336 : Int), 0 ≤ y0_336 ∧ y0_336 ≤ 1 → KJ true G X M 107 [some (vR G c0), some (vT G 11), some (vI x2_172), some (vI x3_173), some (vI x4_262), none, some (vI x6_297)] [vI y0_336] := by
                        intro y0_336 h_338
                        refine kx_istore 109 F 5 (lo' := [some (vR G c0), some (vT G 11), some (vI x2_172), some (vI x3_173), some (vI x4_262), some (vI y0_336), some (vI x6_297)]) dX12_inWords_107 (by decide) rfl rfl rfl ?_
                        refine kx_iinc 112 F 6 (v := x6_297 + 1) (lo' := [some (vR G c0), some (vT G 11), some (vI x2_172), some (vI x3_173), some (vI x4_262), some (vI y0_336), some (vI (x6_297 + 1))]) dX12_inWords_109 rfl (by omega) (by decide) rfl rfl rfl ?_
                        refine kx_goto 68 F dX12_inWords_112 (by decide) ?_
                        exact ih_300 _ (by omega) y0_336 (x6_297 + 1) (by omega) rfl
                      refine kx_icmp_ne 102 F 106 dX12_inWords_99 (by decide) rfl (by omega) (by omega) (fun h_339 => ?_) (fun h_339 => ?_)
                      · refine kx_iconst 107 F dX12_inWords_106 rfl ?_
                        refine kx_drop 5 (lo' := [some (vR G c0), some (vT G 11), some (vI x2_172), some (vI x3_173), some (vI x4_262), none, some (vI x6_297)]) rfl ?_
                        exact J_337 0 (by omega)
                      · refine kx_iconst 103 F dX12_inWords_102 rfl ?_
                        refine kx_goto 107 F dX12_inWords_103 (by decide) ?_
                        refine kx_drop 5 (lo' := [some (vR G c0), some (vT G 11), some (vI x2_172), some (vI x3_173), some (vI x4_262), none, some (vI x6_297)]) rfl ?_
                        exact J_337 1 (by omega)
              exact L_298 _ y0_277 x3_173 (by omega) rfl
            refine kx_icmp_ne 58 F 62 dX12_inWords_55 (by decide) rfl (by omega) (by omega) (fun h_340 => ?_) (fun h_340 => ?_)
            · refine kx_iconst 63 F dX12_inWords_62 rfl ?_
              exact J_278 0 (by omega)
            · refine kx_iconst 59 F dX12_inWords_58 rfl ?_
              refine kx_goto 63 F dX12_inWords_59 (by decide) ?_
              exact J_278 1 (by omega)
          · refine kx_iinc 39 F 4 (v := x4_262 + 1) (lo' := [some (vR G c0), some (vT G 11), some (vI x2_172), some (vI x3_173), some (vI (x4_262 + 1)), none, none]) dX12_inWords_36 rfl (by omega) (by decide) rfl rfl rfl ?_
            refine kx_goto 25 F dX12_inWords_39 (by decide) ?_
            exact ih_265 _ (by omega) (x4_262 + 1) (by omega) rfl
        exact L_263 _ x3_173 (by omega) rfl
    exact L_174 _ 0 1 (by omega) rfl
  · refine kx_iconst 9 F dX12_inWords_8 rfl ?_
    exact kx_iret F hQ ⟨rfl, (by omega)⟩ dX12_inWords_9
theorem dX12_begins_0 : decode cX12_begins 0 = .ok (.iload_n 1, 1) := by decide +kernel
theorem dX12_begins_1 : decode cX12_begins 1 = .ok (.ifCond .lt 16, 3) := by decide +kernel
theorem dX12_begins_4 : decode cX12_begins 4 = .ok (.iload_n 1, 1) := by decide +kernel
theorem dX12_begins_5 : decode cX12_begins 5 = .ok (.aload_n 0, 1) := by decide +kernel
theorem dX12_begins_6 : decode cX12_begins 6 = .ok (.getfield 147, 3) := by decide +kernel
theorem dX12_begins_9 : decode cX12_begins 9 = .ok (.if_icmp .gt 8, 3) := by decide +kernel
theorem dX12_begins_12 : decode cX12_begins 12 = .ok (.iload_n 1, 1) := by decide +kernel
theorem dX12_begins_13 : decode cX12_begins 13 = .ok (.iload_n 2, 1) := by decide +kernel
theorem dX12_begins_14 : decode cX12_begins 14 = .ok (.if_icmp .le 5, 3) := by decide +kernel
theorem dX12_begins_17 : decode cX12_begins 17 = .ok (.iconst 0, 1) := by decide +kernel
theorem dX12_begins_18 : decode cX12_begins 18 = .ok (.ireturn, 1) := by decide +kernel
theorem dX12_begins_19 : decode cX12_begins 19 = .ok (.aload_n 0, 1) := by decide +kernel
theorem dX12_begins_20 : decode cX12_begins 20 = .ok (.iload_n 1, 1) := by decide +kernel
theorem dX12_begins_21 : decode cX12_begins 21 = .ok (.putfield 153, 3) := by decide +kernel
theorem dX12_begins_24 : decode cX12_begins 24 = .ok (.iconst 0, 1) := by decide +kernel
theorem dX12_begins_25 : decode cX12_begins 25 = .ok (.istore_n 3, 1) := by decide +kernel
theorem dX12_begins_26 : decode cX12_begins 26 = .ok (.iload_n 3, 1) := by decide +kernel
theorem dX12_begins_27 : decode cX12_begins 27 = .ok (.iload_n 1, 1) := by decide +kernel
theorem dX12_begins_28 : decode cX12_begins 28 = .ok (.if_icmp .ge 21, 3) := by decide +kernel
theorem dX12_begins_31 : decode cX12_begins 31 = .ok (.aload_n 0, 1) := by decide +kernel
theorem dX12_begins_32 : decode cX12_begins 32 = .ok (.getfield 34, 3) := by decide +kernel
theorem dX12_begins_35 : decode cX12_begins 35 = .ok (.iload_n 3, 1) := by decide +kernel
theorem dX12_begins_36 : decode cX12_begins 36 = .ok (.aload_n 0, 1) := by decide +kernel
theorem dX12_begins_37 : decode cX12_begins 37 = .ok (.getfield 30, 3) := by decide +kernel
theorem dX12_begins_40 : decode cX12_begins 40 = .ok (.iload_n 3, 1) := by decide +kernel
theorem dX12_begins_41 : decode cX12_begins 41 = .ok (.baload, 1) := by decide +kernel
theorem dX12_begins_42 : decode cX12_begins 42 = .ok (.bastore, 1) := by decide +kernel
theorem dX12_begins_43 : decode cX12_begins 43 = .ok (.iinc 3 1, 3) := by decide +kernel
theorem dX12_begins_46 : decode cX12_begins 46 = .ok (.goto (-20), 3) := by decide +kernel
theorem dX12_begins_49 : decode cX12_begins 49 = .ok (.aload_n 0, 1) := by decide +kernel
theorem dX12_begins_50 : decode cX12_begins 50 = .ok (.iconst 0, 1) := by decide +kernel
theorem dX12_begins_51 : decode cX12_begins 51 = .ok (.putfield 147, 3) := by decide +kernel
theorem dX12_begins_54 : decode cX12_begins 54 = .ok (.aload_n 0, 1) := by decide +kernel
theorem dX12_begins_55 : decode cX12_begins 55 = .ok (.iconst 0, 1) := by decide +kernel
theorem dX12_begins_56 : decode cX12_begins 56 = .ok (.putfield 193, 3) := by decide +kernel
theorem dX12_begins_59 : decode cX12_begins 59 = .ok (.aload_n 0, 1) := by decide +kernel
theorem dX12_begins_60 : decode cX12_begins 60 = .ok (.iconst (-1), 1) := by decide +kernel
theorem dX12_begins_61 : decode cX12_begins 61 = .ok (.putfield 41, 3) := by decide +kernel
theorem dX12_begins_64 : decode cX12_begins 64 = .ok (.aload_n 0, 1) := by decide +kernel
theorem dX12_begins_65 : decode cX12_begins 65 = .ok (.iconst 0, 1) := by decide +kernel
theorem dX12_begins_66 : decode cX12_begins 66 = .ok (.putfield 156, 3) := by decide +kernel
theorem dX12_begins_69 : decode cX12_begins 69 = .ok (.aload_n 0, 1) := by decide +kernel
theorem dX12_begins_70 : decode cX12_begins 70 = .ok (.iconst 0, 1) := by decide +kernel
theorem dX12_begins_71 : decode cX12_begins 71 = .ok (.putfield 196, 3) := by decide +kernel
theorem dX12_begins_74 : decode cX12_begins 74 = .ok (.aload_n 0, 1) := by decide +kernel
theorem dX12_begins_75 : decode cX12_begins 75 = .ok (.invokevirtual 199, 3) := by decide +kernel
theorem dX12_begins_78 : decode cX12_begins 78 = .ok (.iconst 1, 1) := by decide +kernel
theorem dX12_begins_79 : decode cX12_begins 79 = .ok (.ireturn, 1) := by decide +kernel
abbrev f_c_X12_begins : List (Nat × Int) := [(64, 10), (64, 11), (64, 12), (64, 13), (64, 14), (64, 15), (64, 17), (64, 18), (64, 19), (71, -1)]
set_option maxHeartbeats 4000000 in
set_option maxRecDepth 100000 in
theorem c_X12_begins (G : KG) (l : Launch) (M : Mem) (c0 : Int) (a1 : Int) (a2 : Int) (hI_M : Inv true M) (hk_c0 : kd c0 = 64) (hpre : -2147483648 ≤ a1 ∧ a1 ≤ 2147483647 ∧ -2147483648 ≤ a2 ∧ a2 ≤ 2147483647 ∧ 0 ≤ a2) : KC true G l yX12_begins cX12_begins 4 (some .boolean) (2, 42) [vR G c0, vI a1, vI a2] M (fun A => kQi true G A (fun (r : Int) (N : Mem) => Inv true N ∧ Fr f_c_X12_begins M N ∧ (0 ≤ r ∧ r ≤ 1))) := by
  refine kx_met (lo := [some (vR G c0), some (vI a1), some (vI a2), none]) (by decide) (Nat.le_of_ble_eq_true rfl) rfl ?_
  intro X F hQ
  have hF_M : Fr f_c_X12_begins M M := Fr.rf _ _
  refine kx_iload_n 1 F 1 dX12_begins_0 rfl rfl rfl ?_
  refine kx_if_lt 4 F 17 dX12_begins_1 (by decide) rfl (by omega) (fun h_1 => ?_) (fun h_1 => ?_)
  · refine kx_iconst 18 F dX12_begins_17 rfl ?_
    exact kx_zret F hQ (by omega) ⟨hI_M, hF_M, (by omega)⟩ dX12_begins_18
  · refine kx_iload_n 5 F 1 dX12_begins_4 rfl rfl rfl ?_
    refine kx_aload_n 6 F 0 dX12_begins_5 rfl rfl rfl ?_
    refine kx_geti 9 F fl_X12_147 hk_c0 rfl rfl (j := 10) rfl dX12_begins_6 (v := (M c0 10)) rfl rfl ?_
    have h_2 := Inv.g hI_M hk_c0 rfl 10 (a := 0) (b := 900) rfl rfl
    refine kx_icmp_gt 12 F 17 dX12_begins_9 (by decide) rfl (by omega) (by omega) (fun h_3 => ?_) (fun h_3 => ?_)
    · refine kx_iconst 18 F dX12_begins_17 rfl ?_
      exact kx_zret F hQ (by omega) ⟨hI_M, hF_M, (by omega)⟩ dX12_begins_18
    · refine kx_iload_n 13 F 1 dX12_begins_12 rfl rfl rfl ?_
      refine kx_iload_n 14 F 2 dX12_begins_13 rfl rfl rfl ?_
      refine kx_icmp_le 17 F 19 dX12_begins_14 (by decide) rfl (by omega) (by omega) (fun h_4 => ?_) (fun h_4 => ?_)
      · refine kx_aload_n 20 F 0 dX12_begins_19 rfl rfl rfl ?_
        refine kx_iload_n 21 F 1 dX12_begins_20 rfl rfl rfl ?_
        refine kx_puti 24 F fw_X12_153 rfl hk_c0 rfl rfl (j := 11) rfl dX12_begins_21 rfl ?_
        intro N_5 hM_N_5
        have hI_N_5 : Inv true N_5 := Inv.u hI_M hM_N_5 hk_c0 (a := 0) (b := 900) rfl rfl rfl (by omega)
        have hF_N_5 : Fr f_c_X12_begins M N_5 := Fr.u hF_M hM_N_5 hk_c0 rfl
        refine kx_iconst 25 F dX12_begins_24 rfl ?_
        refine kx_istore_n 26 F 3 (lo' := [some (vR G c0), some (vI a1), some (vI a2), some (vI 0)]) dX12_begins_25 rfl (by decide) rfl rfl rfl ?_
        have L_148 : ∀ (n_149 : Nat) (x3_146 : Int) (N_147 : Mem), Inv true N_147 → Fr f_c_X12_begins M N_147 → 0 ≤ x3_146 ∧ x3_146 ≤ 900 → (900 - (x3_146)).toNat = n_149 → KJ true G X N_147 26 [some (vR G c0), some (vI a1), none, some (vI x3_146)] [] := by
          intro n_149
          refine Nat.strongRecOn n_149 ?_
          intro n_149 ih_150 x3_146 N_147 hI_N_147 hF_N_147 h_151 hm_152
          refine kx_iload_n 27 F 3 dX12_begins_26 rfl rfl rfl ?_
          refine kx_iload_n 28 F 1 dX12_begins_27 rfl rfl rfl ?_
          refine kx_icmp_ge 31 F 49 dX12_begins_28 (by decide) rfl (by omega) (by omega) (fun h_153 => ?_) (fun h_153 => ?_)
          · refine kx_aload_n 50 F 0 dX12_begins_49 rfl rfl rfl ?_
            refine kx_iconst 51 F dX12_begins_50 rfl ?_
            refine kx_puti 54 F fw_X12_147 rfl hk_c0 rfl rfl (j := 10) rfl dX12_begins_51 rfl ?_
            intro N_154 hM_N_154
            have hI_N_154 : Inv true N_154 := Inv.u hI_N_147 hM_N_154 hk_c0 (a := 0) (b := 900) rfl rfl rfl (by omega)
            have hF_N_154 : Fr f_c_X12_begins M N_154 := Fr.u hF_N_147 hM_N_154 hk_c0 rfl
            refine kx_aload_n 55 F 0 dX12_begins_54 rfl rfl rfl ?_
            refine kx_iconst 56 F dX12_begins_55 rfl ?_
            refine kx_puti 59 F fw_X12_193 rfl hk_c0 rfl rfl (j := 18) rfl dX12_begins_56 rfl ?_
            intro N_155 hM_N_155
            have hI_N_155 : Inv true N_155 := Inv.u hI_N_154 hM_N_155 hk_c0 (a := (-2147483648)) (b := 2147483647) rfl rfl rfl (by omega)
            have hF_N_155 : Fr f_c_X12_begins M N_155 := Fr.u hF_N_154 hM_N_155 hk_c0 rfl
            refine kx_aload_n 60 F 0 dX12_begins_59 rfl rfl rfl ?_
            refine kx_iconst 61 F dX12_begins_60 rfl ?_
            refine kx_puti 64 F fw_X12_41 rfl hk_c0 rfl rfl (j := 17) rfl dX12_begins_61 rfl ?_
            intro N_156 hM_N_156
            have hI_N_156 : Inv true N_156 := Inv.u hI_N_155 hM_N_156 hk_c0 (a := (-2147483648)) (b := 2147483647) rfl rfl rfl (by omega)
            have hF_N_156 : Fr f_c_X12_begins M N_156 := Fr.u hF_N_155 hM_N_156 hk_c0 rfl
            refine kx_aload_n 65 F 0 dX12_begins_64 rfl rfl rfl ?_
            refine kx_iconst 66 F dX12_begins_65 rfl ?_
            refine kx_puti 69 F fw_X12_156 rfl hk_c0 rfl rfl (j := 14) rfl dX12_begins_66 rfl ?_
            intro N_157 hM_N_157
            have hI_N_157 : Inv true N_157 := Inv.u hI_N_156 hM_N_157 hk_c0 (a := 0) (b := 900) rfl rfl rfl (by omega)
            have hF_N_157 : Fr f_c_X12_begins M N_157 := Fr.u hF_N_156 hM_N_157 hk_c0 rfl
            refine kx_aload_n 70 F 0 dX12_begins_69 rfl rfl rfl ?_
            refine kx_iconst 71 F dX12_begins_70 rfl ?_
            refine kx_puti 74 F fw_X12_196 rfl hk_c0 rfl rfl (j := 19) rfl dX12_begins_71 rfl ?_
            intro N_158 hM_N_158
            have hI_N_158 : Inv true N_158 := Inv.u hI_N_157 hM_N_158 hk_c0 (a := (-2147483648)) (b := 2147483647) rfl rfl rfl (by omega)
            have hF_N_158 : Fr f_c_X12_begins M N_158 := Fr.u hF_N_157 hM_N_158 hk_c0 rfl
            refine kx_aload_n 75 F 0 dX12_begins_74 rfl rfl rfl ?_
            refine kx_Vv 78 (ci := 0) F (As := []) (st := []) vd_X12_199 (c_X12_ahead G l N_158 c0 hI_N_158 hk_c0) hk_c0 rfl rfl rfl ⟨by decide, by decide⟩ rfl rfl (Nat.le_of_ble_eq_true rfl) dX12_begins_75 rfl ?_
            intro N_159 q_160
            obtain ⟨hI_N_159, hG_N_159, q_160c⟩ := q_160
            have hF_N_159 : Fr f_c_X12_begins M N_159 := Fr.c hF_N_158 hG_N_159 rfl
            have h_161 := Inv.g hI_N_159 hk_c0 rfl 12 (a := 0) (b := 4) rfl rfl
            have e_162 : (N_158 c0 14) = 0 := by rw [hM_N_158, mu_i (by omega), hM_N_157, mu_s]
            have h_163 := Inv.g hI_N_159 hk_c0 rfl 14 (a := 0) (b := 900) rfl rfl
            have h_164 := Inv.g hI_N_159 hk_c0 rfl 12 (a := 0) (b := 4) rfl rfl
            have e_165 : (N_158 c0 14) = 0 := by rw [hM_N_158, mu_i (by omega), hM_N_157, mu_s]
            have h_166 := Inv.g hI_N_159 hk_c0 rfl 14 (a := 0) (b := 900) rfl rfl
            rcases q_160c with q_160c | q_160c
            · refine kx_iconst 79 F dX12_begins_78 rfl ?_
              exact kx_zret F hQ (by omega) ⟨hI_N_159, hF_N_159, (by omega)⟩ dX12_begins_79
            · refine kx_iconst 79 F dX12_begins_78 rfl ?_
              exact kx_zret F hQ (by omega) ⟨hI_N_159, hF_N_159, (by omega)⟩ dX12_begins_79
          · refine kx_aload_n 32 F 0 dX12_begins_31 rfl rfl rfl ?_
            refine kx_getr 35 F fl_X12_34 hk_c0 rfl rfl (j := 9) rfl dX12_begins_32 (v := (M c0 9)) (by rw [Fr.e hF_N_147 hk_c0 _ rfl]) rfl ?_
            have hk_167 : kd (M c0 9) = 71 := Inv.r hI_M hk_c0 rfl 9 rfl rfl
            refine kx_iload_n 36 F 3 dX12_begins_35 rfl rfl rfl ?_
            refine kx_aload_n 37 F 0 dX12_begins_36 rfl rfl rfl ?_
            refine kx_getr 40 F fl_X12_30 hk_c0 rfl rfl (j := 8) rfl dX12_begins_37 (v := (M c0 8)) (by rw [Fr.e hF_N_147 hk_c0 _ rfl]) rfl ?_
            have hk_168 : kd (M c0 8) = 70 := Inv.r hI_M hk_c0 rfl 8 rfl rfl
            refine kx_iload_n 41 F 3 dX12_begins_40 rfl rfl rfl ?_
            refine kx_bald 42 F hk_168 rfl rfl (by omega) (by decide) dX12_begins_41 (v := (M (M c0 8) x3_146)) (by rw [Fr.e hF_N_147 hk_168 _ rfl]) rfl ?_
            have h_169 := Inv.g hI_M hk_168 rfl x3_146 (a := (-128)) (b := 127) rfl rfl
            refine kx_bast 43 F (by omega) hk_167 rfl rfl (by omega) (by decide) dX12_begins_42 rfl ?_
            intro N_170 hM_N_170
            have hI_N_170 : Inv true N_170 := Inv.u hI_N_147 hM_N_170 hk_167 (a := (-128)) (b := 127) rfl rfl rfl (by omega)
            have hF_N_170 : Fr f_c_X12_begins M N_170 := Fr.u hF_N_147 hM_N_170 hk_167 rfl
            refine kx_iinc 46 F 3 (v := x3_146 + 1) (lo' := [some (vR G c0), some (vI a1), none, some (vI (x3_146 + 1))]) dX12_begins_43 rfl (by omega) (by decide) rfl rfl rfl ?_
            refine kx_goto 26 F dX12_begins_46 (by decide) ?_
            exact ih_150 _ (by omega) (x3_146 + 1) N_170 hI_N_170 hF_N_170 (by omega) rfl
        refine kx_drop 2 (lo' := [some (vR G c0), some (vI a1), none, some (vI 0)]) rfl ?_
        exact L_148 _ 0 N_5 hI_N_5 hF_N_5 (by omega) rfl
      · refine kx_iconst 18 F dX12_begins_17 rfl ?_
        exact kx_zret F hQ (by omega) ⟨hI_M, hF_M, (by omega)⟩ dX12_begins_18
theorem dX12_nameHere_0 : decode cX12_nameHere 0 = .ok (.lconst 0, 1) := by decide +kernel
theorem dX12_nameHere_1 : decode cX12_nameHere 1 = .ok (.lstore_n 1, 1) := by decide +kernel
theorem dX12_nameHere_2 : decode cX12_nameHere 2 = .ok (.aload_n 0, 1) := by decide +kernel
theorem dX12_nameHere_3 : decode cX12_nameHere 3 = .ok (.getfield 162, 3) := by decide +kernel
theorem dX12_nameHere_6 : decode cX12_nameHere 6 = .ok (.istore_n 3, 1) := by decide +kernel
theorem dX12_nameHere_7 : decode cX12_nameHere 7 = .ok (.iload_n 3, 1) := by decide +kernel
theorem dX12_nameHere_8 : decode cX12_nameHere 8 = .ok (.aload_n 0, 1) := by decide +kernel
theorem dX12_nameHere_9 : decode cX12_nameHere 9 = .ok (.getfield 156, 3) := by decide +kernel
theorem dX12_nameHere_12 : decode cX12_nameHere 12 = .ok (.if_icmp .ge 21, 3) := by decide +kernel
theorem dX12_nameHere_15 : decode cX12_nameHere 15 = .ok (.lload_n 1, 1) := by decide +kernel
theorem dX12_nameHere_16 : decode cX12_nameHere 16 = .ok (.bipush 8, 2) := by decide +kernel
theorem dX12_nameHere_18 : decode cX12_nameHere 18 = .ok (.lshl, 1) := by decide +kernel
theorem dX12_nameHere_19 : decode cX12_nameHere 19 = .ok (.aload_n 0, 1) := by decide +kernel
theorem dX12_nameHere_20 : decode cX12_nameHere 20 = .ok (.iload_n 3, 1) := by decide +kernel
theorem dX12_nameHere_21 : decode cX12_nameHere 21 = .ok (.invokevirtual 159, 3) := by decide +kernel
theorem dX12_nameHere_24 : decode cX12_nameHere 24 = .ok (.i2l, 1) := by decide +kernel
theorem dX12_nameHere_25 : decode cX12_nameHere 25 = .ok (.lor, 1) := by decide +kernel
theorem dX12_nameHere_26 : decode cX12_nameHere 26 = .ok (.lstore_n 1, 1) := by decide +kernel
theorem dX12_nameHere_27 : decode cX12_nameHere 27 = .ok (.iinc 3 1, 3) := by decide +kernel
theorem dX12_nameHere_30 : decode cX12_nameHere 30 = .ok (.goto (-23), 3) := by decide +kernel
theorem dX12_nameHere_33 : decode cX12_nameHere 33 = .ok (.lload_n 1, 1) := by decide +kernel
theorem dX12_nameHere_34 : decode cX12_nameHere 34 = .ok (.lreturn, 1) := by decide +kernel
set_option maxHeartbeats 4000000 in
set_option maxRecDepth 100000 in
theorem c_X12_nameHere (G : KG) (l : Launch) (M : Mem) (c0 : Int) (hI_M : Inv true M) (hk_c0 : kd c0 = 64) : KC true G l yX12_nameHere cX12_nameHere 4 (some .long) (1, 21) [vR G c0] M (fun A => kQl true G A (fun (r : Int) (N : Mem) => M = N ∧ (r ≥ -9223372036854775808 ∧ r ≤ 9223372036854775807))) := by
  refine kx_met (lo := [some (vR G c0), none, none, none]) (by decide) (Nat.le_of_ble_eq_true rfl) rfl ?_
  intro X F hQ
  refine kx_lconst 1 (z := 0) F dX12_nameHere_0 (by decide) rfl ?_
  refine kx_lstore_n 2 F 1 (lo' := [some (vR G c0), some (vL 0), none, none]) dX12_nameHere_1 rfl (by decide) rfl rfl rfl ?_
  refine kx_aload_n 3 F 0 dX12_nameHere_2 rfl rfl rfl ?_
  refine kx_geti 6 F fl_X12_162 hk_c0 rfl rfl (j := 13) rfl dX12_nameHere_3 (v := (M c0 13)) rfl rfl ?_
  have h_1 := Inv.g hI_M hk_c0 rfl 13 (a := 0) (b := 900) rfl rfl
  refine kx_istore_n 7 F 3 (lo' := [some (vR G c0), some (vL 0), none, some (vI (M c0 13))]) dX12_nameHere_6 rfl (by decide) rfl rfl rfl ?_
  have L_34 : ∀ (n_35 : Nat) (x1_32 : Int) (x3_33 : Int), (-9223372036854775808) ≤ x1_32 ∧ x1_32 ≤ 9223372036854775807 ∧ 0 ≤ x3_33 ∧ x3_33 ≤ 900 ∧ (M c0 13) ≤ x3_33 → (900 - (x3_33)).toNat = n_35 → KJ true G X M 7 [some (vR G c0), some (vL x1_32), none, some (vI x3_33)] [] := by
    intro n_35
    refine Nat.strongRecOn n_35 ?_
    intro n_35 ih_36 x1_32 x3_33 h_37 hm_38
    refine kx_iload_n 8 F 3 dX12_nameHere_7 rfl rfl rfl ?_
    refine kx_aload_n 9 F 0 dX12_nameHere_8 rfl rfl rfl ?_
    refine kx_geti 12 F fl_X12_156 hk_c0 rfl rfl (j := 14) rfl dX12_nameHere_9 (v := (M c0 14)) rfl rfl ?_
    have h_39 := Inv.g hI_M hk_c0 rfl 14 (a := 0) (b := 900) rfl rfl
    refine kx_icmp_ge 15 F 33 dX12_nameHere_12 (by decide) rfl (by omega) (by omega) (fun h_40 => ?_) (fun h_40 => ?_)
    · refine kx_lload_n 34 F 1 dX12_nameHere_33 rfl rfl rfl ?_
      exact kx_lret F hQ ⟨rfl, (by omega)⟩ dX12_nameHere_34
    · refine kx_lload_n 16 F 1 dX12_nameHere_15 rfl rfl rfl ?_
      refine kx_bipush 18 F dX12_nameHere_16 (by decide) rfl ?_
      refine kx_lshl 19 F dX12_nameHere_18 rfl (fun w_41 h_42 => ?_)
      refine kx_aload_n 20 F 0 dX12_nameHere_19 rfl rfl rfl ?_
      refine kx_iload_n 21 F 3 dX12_nameHere_20 rfl rfl rfl ?_
      refine kx_Vi 24 (ci := 0) F (As := [vI x3_33]) (st := [vL w_41]) vd_X12_159 (c_X12_byteAt G l M c0 x3_33 hI_M hk_c0 (by omega)) hk_c0 rfl rfl rfl ⟨by decide, by decide⟩ rfl rfl (Nat.le_of_ble_eq_true rfl) dX12_nameHere_21 rfl ?_
      intro r_43 N_44 q_45
      obtain ⟨rfl, q_45c⟩ := q_45
      have h_46 := Inv.g hI_M hk_c0 rfl 11 (a := 0) (b := 900) rfl rfl
      have h_47 := Inv.g hI_M hk_c0 rfl 11 (a := 0) (b := 900) rfl rfl
      rcases q_45c with q_45c | q_45c
      · refine kx_i2l 25 F dX12_nameHere_24 (by omega) rfl ?_
        refine kx_lor 26 F dX12_nameHere_25 rfl (fun w_48 h_49 => ?_)
        refine kx_lstore_n 27 F 1 (lo' := [some (vR G c0), some (vL w_48), none, some (vI x3_33)]) dX12_nameHere_26 rfl (by decide) rfl rfl rfl ?_
        refine kx_iinc 30 F 3 (v := x3_33 + 1) (lo' := [some (vR G c0), some (vL w_48), none, some (vI (x3_33 + 1))]) dX12_nameHere_27 rfl (by omega) (by decide) rfl rfl rfl ?_
        refine kx_goto 7 F dX12_nameHere_30 (by decide) ?_
        exact ih_36 _ (by omega) w_48 (x3_33 + 1) (by omega) rfl
      · refine kx_i2l 25 F dX12_nameHere_24 (by omega) rfl ?_
        refine kx_lor 26 F dX12_nameHere_25 rfl (fun w_50 h_51 => ?_)
        refine kx_lstore_n 27 F 1 (lo' := [some (vR G c0), some (vL w_50), none, some (vI x3_33)]) dX12_nameHere_26 rfl (by decide) rfl rfl rfl ?_
        refine kx_iinc 30 F 3 (v := x3_33 + 1) (lo' := [some (vR G c0), some (vL w_50), none, some (vI (x3_33 + 1))]) dX12_nameHere_27 rfl (by omega) (by decide) rfl rfl rfl ?_
        refine kx_goto 7 F dX12_nameHere_30 (by decide) ?_
        exact ih_36 _ (by omega) w_50 (x3_33 + 1) (by omega) rfl
  exact L_34 _ 0 (M c0 13) (by omega) rfl
theorem dX12_findHere_0 : decode cX12_findHere 0 = .ok (.iconst 0, 1) := by decide +kernel
theorem dX12_findHere_1 : decode cX12_findHere 1 = .ok (.istore_n 3, 1) := by decide +kernel
theorem dX12_findHere_2 : decode cX12_findHere 2 = .ok (.iload_n 3, 1) := by decide +kernel
theorem dX12_findHere_3 : decode cX12_findHere 3 = .ok (.iload_n 2, 1) := by decide +kernel
theorem dX12_findHere_4 : decode cX12_findHere 4 = .ok (.if_icmp .ge 27, 3) := by decide +kernel
theorem dX12_findHere_7 : decode cX12_findHere 7 = .ok (.aload_n 0, 1) := by decide +kernel
theorem dX12_findHere_8 : decode cX12_findHere 8 = .ok (.getfield 13, 3) := by decide +kernel
theorem dX12_findHere_11 : decode cX12_findHere 11 = .ok (.iload_n 1, 1) := by decide +kernel
theorem dX12_findHere_12 : decode cX12_findHere 12 = .ok (.iload_n 3, 1) := by decide +kernel
theorem dX12_findHere_13 : decode cX12_findHere 13 = .ok (.iadd, 1) := by decide +kernel
theorem dX12_findHere_14 : decode cX12_findHere 14 = .ok (.laload, 1) := by decide +kernel
theorem dX12_findHere_15 : decode cX12_findHere 15 = .ok (.aload_n 0, 1) := by decide +kernel
theorem dX12_findHere_16 : decode cX12_findHere 16 = .ok (.invokevirtual 212, 3) := by decide +kernel
theorem dX12_findHere_19 : decode cX12_findHere 19 = .ok (.lcmp, 1) := by decide +kernel
theorem dX12_findHere_20 : decode cX12_findHere 20 = .ok (.ifCond .ne 5, 3) := by decide +kernel
theorem dX12_findHere_23 : decode cX12_findHere 23 = .ok (.iload_n 3, 1) := by decide +kernel
theorem dX12_findHere_24 : decode cX12_findHere 24 = .ok (.ireturn, 1) := by decide +kernel
theorem dX12_findHere_25 : decode cX12_findHere 25 = .ok (.iinc 3 1, 3) := by decide +kernel
theorem dX12_findHere_28 : decode cX12_findHere 28 = .ok (.goto (-26), 3) := by decide +kernel
theorem dX12_findHere_31 : decode cX12_findHere 31 = .ok (.iconst (-1), 1) := by decide +kernel
theorem dX12_findHere_32 : decode cX12_findHere 32 = .ok (.ireturn, 1) := by decide +kernel
set_option maxHeartbeats 4000000 in
set_option maxRecDepth 100000 in
theorem c_X12_findHere (G : KG) (l : Launch) (M : Mem) (c0 : Int) (a1 : Int) (a2 : Int) (hI_M : Inv true M) (hk_c0 : kd c0 = 64) (hpre : -2147483648 ≤ a1 ∧ a1 ≤ 2147483647 ∧ -2147483648 ≤ a2 ∧ a2 ≤ 2147483647 ∧ 0 ≤ a1 ∧ 0 ≤ a2 ∧ a1 + a2 ≤ 36) : KC true G l yX12_findHere cX12_findHere 4 (some .int) (2, 44) [vR G c0, vI a1, vI a2] M (fun A => kQi true G A (fun (r : Int) (N : Mem) => M = N ∧ ((r = -1) ∨ (r ≥ 0 ∧ r < a2)))) := by
  refine kx_met (lo := [some (vR G c0), some (vI a1), some (vI a2), none]) (by decide) (Nat.le_of_ble_eq_true rfl) rfl ?_
  intro X F hQ
  refine kx_iconst 1 F dX12_findHere_0 rfl ?_
  refine kx_istore_n 2 F 3 (lo' := [some (vR G c0), some (vI a1), some (vI a2), some (vI 0)]) dX12_findHere_1 rfl (by decide) rfl rfl rfl ?_
  have L_72 : ∀ (n_73 : Nat) (x3_71 : Int), 0 ≤ x3_71 ∧ x3_71 ≤ 36 → (36 - (x3_71)).toNat = n_73 → KJ true G X M 2 [some (vR G c0), some (vI a1), some (vI a2), some (vI x3_71)] [] := by
    intro n_73
    refine Nat.strongRecOn n_73 ?_
    intro n_73 ih_74 x3_71 h_75 hm_76
    refine kx_iload_n 3 F 3 dX12_findHere_2 rfl rfl rfl ?_
    refine kx_iload_n 4 F 2 dX12_findHere_3 rfl rfl rfl ?_
    refine kx_icmp_ge 7 F 31 dX12_findHere_4 (by decide) rfl (by omega) (by omega) (fun h_77 => ?_) (fun h_77 => ?_)
    · refine kx_iconst 32 F dX12_findHere_31 rfl ?_
      exact kx_iret F hQ ⟨rfl, (by omega)⟩ dX12_findHere_32
    · refine kx_aload_n 8 F 0 dX12_findHere_7 rfl rfl rfl ?_
      refine kx_getr 11 F fl_X12_13 hk_c0 rfl rfl (j := 1) rfl dX12_findHere_8 (v := (M c0 1)) rfl rfl ?_
      have hk_78 : kd (M c0 1) = 66 := Inv.r hI_M hk_c0 rfl 1 rfl rfl
      refine kx_iload_n 12 F 1 dX12_findHere_11 rfl rfl rfl ?_
      refine kx_iload_n 13 F 3 dX12_findHere_12 rfl rfl rfl ?_
      refine kx_iadd 14 F (v := a1 + x3_71) dX12_findHere_13 rfl rfl ?_
      refine kx_lald 15 F hk_78 rfl rfl (by omega) (by decide) dX12_findHere_14 (v := (M (M c0 1) (a1 + x3_71))) rfl rfl ?_
      have h_79 := Inv.g hI_M hk_78 rfl (a1 + x3_71) (a := (-9223372036854775808)) (b := 9223372036854775807) rfl rfl
      refine kx_aload_n 16 F 0 dX12_findHere_15 rfl rfl rfl ?_
      refine kx_Vl 19 (ci := 0) F (As := []) (st := [vL (M (M c0 1) (a1 + x3_71))]) vd_X12_212 (c_X12_nameHere G l M c0 hI_M hk_c0) hk_c0 rfl rfl rfl ⟨by decide, by decide⟩ rfl rfl (Nat.le_of_ble_eq_true rfl) dX12_findHere_16 rfl ?_
      intro r_80 N_81 q_82
      obtain ⟨rfl, q_82c⟩ := q_82
      refine kx_lcmp 20 F dX12_findHere_19 (by omega) (by omega) rfl (fun w_83 h_84 => ?_)
      refine kx_if_ne 23 F 25 dX12_findHere_20 (by decide) rfl (by omega) (fun h_85 => ?_) (fun h_85 => ?_)
      · refine kx_iinc 28 F 3 (v := x3_71 + 1) (lo' := [some (vR G c0), some (vI a1), some (vI a2), some (vI (x3_71 + 1))]) dX12_findHere_25 rfl (by omega) (by decide) rfl rfl rfl ?_
        refine kx_goto 2 F dX12_findHere_28 (by decide) ?_
        exact ih_74 _ (by omega) (x3_71 + 1) (by omega) rfl
      · refine kx_iload_n 24 F 3 dX12_findHere_23 rfl rfl rfl ?_
        exact kx_iret F hQ ⟨rfl, (by omega)⟩ dX12_findHere_24
  exact L_72 _ 0 (by omega) rfl
theorem dX12_taken_0 : decode cX12_taken 0 = .ok (.aload_n 0, 1) := by decide +kernel
theorem dX12_taken_1 : decode cX12_taken 1 = .ok (.aload_n 0, 1) := by decide +kernel
theorem dX12_taken_2 : decode cX12_taken 2 = .ok (.getfield 193, 3) := by decide +kernel
theorem dX12_taken_5 : decode cX12_taken 5 = .ok (.putfield 37, 3) := by decide +kernel
theorem dX12_taken_8 : decode cX12_taken 8 = .ok (.aload_n 0, 1) := by decide +kernel
theorem dX12_taken_9 : decode cX12_taken 9 = .ok (.getfield 193, 3) := by decide +kernel
theorem dX12_taken_12 : decode cX12_taken 12 = .ok (.ifCond .le 12, 3) := by decide +kernel
theorem dX12_taken_15 : decode cX12_taken 15 = .ok (.aload_n 0, 1) := by decide +kernel
theorem dX12_taken_16 : decode cX12_taken 16 = .ok (.bipush 9, 2) := by decide +kernel
theorem dX12_taken_18 : decode cX12_taken 18 = .ok (.invokevirtual 123, 3) := by decide +kernel
theorem dX12_taken_21 : decode cX12_taken 21 = .ok (.goto 8, 3) := by decide +kernel
theorem dX12_taken_24 : decode cX12_taken 24 = .ok (.aload_n 0, 1) := by decide +kernel
theorem dX12_taken_25 : decode cX12_taken 25 = .ok (.iload_n 1, 1) := by decide +kernel
theorem dX12_taken_26 : decode cX12_taken 26 = .ok (.invokevirtual 127, 3) := by decide +kernel
theorem dX12_taken_29 : decode cX12_taken 29 = .ok (.ireturn, 1) := by decide +kernel
abbrev f_c_X12_taken : List (Nat × Int) := [(64, 2), (64, 16)]
set_option maxHeartbeats 4000000 in
set_option maxRecDepth 100000 in
theorem c_X12_taken (G : KG) (l : Launch) (M : Mem) (c0 : Int) (a1 : Int) (hI_M : Inv true M) (hk_c0 : kd c0 = 64) (hpre : -2147483648 ≤ a1 ∧ a1 ≤ 2147483647) : KC true G l yX12_taken cX12_taken 2 (some .int) (1, 21) [vR G c0, vI a1] M (fun A => kQi true G A (fun (r : Int) (N : Mem) => Inv true N ∧ Fr f_c_X12_taken M N ∧ (r ≥ -2147483648 ∧ r ≤ 2147483647))) := by
  refine kx_met (lo := [some (vR G c0), some (vI a1)]) (by decide) (Nat.le_of_ble_eq_true rfl) rfl ?_
  intro X F hQ
  have hF_M : Fr f_c_X12_taken M M := Fr.rf _ _
  refine kx_aload_n 1 F 0 dX12_taken_0 rfl rfl rfl ?_
  refine kx_aload_n 2 F 0 dX12_taken_1 rfl rfl rfl ?_
  refine kx_geti 5 F fl_X12_193 hk_c0 rfl rfl (j := 18) rfl dX12_taken_2 (v := (M c0 18)) rfl rfl ?_
  have h_1 := Inv.g hI_M hk_c0 rfl 18 (a := (-2147483648)) (b := 2147483647) rfl rfl
  refine kx_puti 8 F fw_X12_37 rfl hk_c0 rfl rfl (j := 16) rfl dX12_taken_5 rfl ?_
  intro N_2 hM_N_2
  have hI_N_2 : Inv true N_2 := Inv.u hI_M hM_N_2 hk_c0 (a := (-2147483648)) (b := 2147483647) rfl rfl rfl (by omega)
  have hF_N_2 : Fr f_c_X12_taken M N_2 := Fr.u hF_M hM_N_2 hk_c0 rfl
  refine kx_aload_n 9 F 0 dX12_taken_8 rfl rfl rfl ?_
  refine kx_geti 12 F fl_X12_193 hk_c0 rfl rfl (j := 18) rfl dX12_taken_9 (v := (M c0 18)) (by rw [hM_N_2, mu_i (by omega)]) rfl ?_
  refine kx_if_le 15 F 24 dX12_taken_12 (by decide) rfl (by omega) (fun h_3 => ?_) (fun h_3 => ?_)
  · refine kx_aload_n 25 F 0 dX12_taken_24 rfl rfl rfl ?_
    refine kx_iload_n 26 F 1 dX12_taken_25 rfl rfl rfl ?_
    refine kx_Vi 29 (ci := 0) F (As := [vI a1]) (st := []) vd_X12_127 (c_X12_gives G l N_2 c0 a1 hI_N_2 hk_c0 (by omega)) hk_c0 rfl rfl rfl ⟨by decide, by decide⟩ rfl rfl (Nat.le_of_ble_eq_true rfl) dX12_taken_26 rfl ?_
    intro r_4 N_5 q_6
    obtain ⟨hI_N_5, hG_N_5, q_6c⟩ := q_6
    have hF_N_5 : Fr f_c_X12_taken M N_5 := Fr.c hF_N_2 hG_N_5 rfl
    refine kx_topi (e' := a1) (by omega) ?_
    exact kx_iret F hQ ⟨hI_N_5, hF_N_5, (by omega)⟩ dX12_taken_29
  · refine kx_aload_n 16 F 0 dX12_taken_15 rfl rfl rfl ?_
    refine kx_bipush 18 F dX12_taken_16 (by decide) rfl ?_
    refine kx_Vi 21 (ci := 0) F (As := [vI 9]) (st := []) vd_X12_123 (c_X12_refuse G l N_2 c0 9 hI_N_2 hk_c0 (by omega)) hk_c0 rfl rfl rfl ⟨by decide, by decide⟩ rfl rfl (Nat.le_of_ble_eq_true rfl) dX12_taken_18 rfl ?_
    intro r_7 N_8 q_9
    obtain ⟨hI_N_8, hG_N_8, q_9c⟩ := q_9
    have hF_N_8 : Fr f_c_X12_taken M N_8 := Fr.c hF_N_2 hG_N_8 rfl
    subst q_9c
    refine kx_goto 29 F dX12_taken_21 (by decide) ?_
    exact kx_iret F hQ ⟨hI_N_8, hF_N_8, (by omega)⟩ dX12_taken_29
