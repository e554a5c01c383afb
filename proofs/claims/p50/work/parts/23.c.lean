theorem dX12_mark_0 : decode cX12_mark 0 = .ok (.aload_n 0, 1) := by decide +kernel
theorem dX12_mark_1 : decode cX12_mark 1 = .ok (.getfield 535, 3) := by decide +kernel
theorem dX12_mark_4 : decode cX12_mark 4 = .ok (.iconst 3, 1) := by decide +kernel
theorem dX12_mark_5 : decode cX12_mark 5 = .ok (.if_icmp .ne 9, 3) := by decide +kernel
theorem dX12_mark_8 : decode cX12_mark 8 = .ok (.aload_n 0, 1) := by decide +kernel
theorem dX12_mark_9 : decode cX12_mark 9 = .ok (.iconst 4, 1) := by decide +kernel
theorem dX12_mark_10 : decode cX12_mark 10 = .ok (.invokevirtual 123, 3) := by decide +kernel
theorem dX12_mark_13 : decode cX12_mark 13 = .ok (.ireturn, 1) := by decide +kernel
theorem dX12_mark_14 : decode cX12_mark 14 = .ok (.aload_n 0, 1) := by decide +kernel
theorem dX12_mark_15 : decode cX12_mark 15 = .ok (.dup, 1) := by decide +kernel
theorem dX12_mark_16 : decode cX12_mark 16 = .ok (.getfield 535, 3) := by decide +kernel
theorem dX12_mark_19 : decode cX12_mark 19 = .ok (.iconst 1, 1) := by decide +kernel
theorem dX12_mark_20 : decode cX12_mark 20 = .ok (.iadd, 1) := by decide +kernel
theorem dX12_mark_21 : decode cX12_mark 21 = .ok (.putfield 535, 3) := by decide +kernel
theorem dX12_mark_24 : decode cX12_mark 24 = .ok (.aload_n 0, 1) := by decide +kernel
theorem dX12_mark_25 : decode cX12_mark 25 = .ok (.iconst 0, 1) := by decide +kernel
theorem dX12_mark_26 : decode cX12_mark 26 = .ok (.aload_n 0, 1) := by decide +kernel
theorem dX12_mark_27 : decode cX12_mark 27 = .ok (.getfield 535, 3) := by decide +kernel
theorem dX12_mark_30 : decode cX12_mark 30 = .ok (.invokevirtual 538, 3) := by decide +kernel
theorem dX12_mark_33 : decode cX12_mark 33 = .ok (.aload_n 0, 1) := by decide +kernel
theorem dX12_mark_34 : decode cX12_mark 34 = .ok (.aload_n 0, 1) := by decide +kernel
theorem dX12_mark_35 : decode cX12_mark 35 = .ok (.getfield 535, 3) := by decide +kernel
theorem dX12_mark_38 : decode cX12_mark 38 = .ok (.invokevirtual 127, 3) := by decide +kernel
theorem dX12_mark_41 : decode cX12_mark 41 = .ok (.ireturn, 1) := by decide +kernel
abbrev f_c_X12_mark : List (Nat × Int) := [(64, 2), (64, 50), (65, -1), (66, -1)]
set_option maxHeartbeats 4000000 in
set_option maxRecDepth 100000 in
theorem c_X12_mark (G : KG) (l : Launch) (M : Mem) (c0 : Int) (hI_M : Inv true M) (hk_c0 : kd c0 = 64) : KC true G l yX12_mark cX12_mark 1 (some .int) (1, 23) [vR G c0] M (fun A => kQi true G A (fun (r : Int) (N : Mem) => Inv true N ∧ Fr f_c_X12_mark M N ∧ (r ≥ -1 ∧ r ≤ 3))) := by
  refine kx_met (lo := [some (vR G c0)]) (by decide) (Nat.le_of_ble_eq_true rfl) rfl ?_
  intro X F hQ
  have hF_M : Fr f_c_X12_mark M M := Fr.rf _ _
  refine kx_aload_n 1 F 0 dX12_mark_0 rfl rfl rfl ?_
  refine kx_geti 4 F fl_X12_535 hk_c0 rfl rfl (j := 50) rfl dX12_mark_1 (v := (M c0 50)) rfl rfl ?_
  have h_1 := Inv.g hI_M hk_c0 rfl 50 (a := 0) (b := 3) rfl rfl
  refine kx_iconst 5 F dX12_mark_4 rfl ?_
  refine kx_icmp_ne 8 F 14 dX12_mark_5 (by decide) rfl (by omega) (by decide) (fun h_2 => ?_) (fun h_2 => ?_)
  · refine kx_aload_n 15 F 0 dX12_mark_14 rfl rfl rfl ?_
    refine kx_dup 16 F dX12_mark_15 rfl rfl ?_
    refine kx_geti 19 F fl_X12_535 hk_c0 rfl rfl (j := 50) rfl dX12_mark_16 (v := (M c0 50)) rfl rfl ?_
    refine kx_iconst 20 F dX12_mark_19 rfl ?_
    refine kx_iadd 21 F (v := (M c0 50) + 1) dX12_mark_20 rfl rfl ?_
    refine kx_puti 24 F fw_X12_535 rfl hk_c0 rfl rfl (j := 50) rfl dX12_mark_21 rfl ?_
    intro N_3 hM_N_3
    have hI_N_3 : Inv true N_3 := Inv.u hI_M hM_N_3 hk_c0 (a := 0) (b := 3) rfl rfl rfl (by omega)
    have hF_N_3 : Fr f_c_X12_mark M N_3 := Fr.u hF_M hM_N_3 hk_c0 rfl
    refine kx_aload_n 25 F 0 dX12_mark_24 rfl rfl rfl ?_
    refine kx_iconst 26 F dX12_mark_25 rfl ?_
    refine kx_aload_n 27 F 0 dX12_mark_26 rfl rfl rfl ?_
    refine kx_geti 30 F fl_X12_535 hk_c0 rfl rfl (j := 50) rfl dX12_mark_27 (v := (M c0 50) + 1) (by rw [hM_N_3, mu_s]) rfl ?_
    refine kx_Vv 33 (ci := 0) F (As := [vI 0, vI ((M c0 50) + 1)]) (st := []) vd_X12_538 (c_copiesTo G l N_3 c0 0 ((M c0 50) + 1) hI_N_3 hk_c0 (by omega)) hk_c0 rfl rfl rfl ⟨by decide, by decide⟩ rfl rfl (Nat.le_of_ble_eq_true rfl) dX12_mark_30 rfl ?_
    intro N_4 q_5
    obtain ⟨hI_N_4, hG_N_4⟩ := q_5
    have hF_N_4 : Fr f_c_X12_mark M N_4 := Fr.c hF_N_3 hG_N_4 rfl
    refine kx_aload_n 34 F 0 dX12_mark_33 rfl rfl rfl ?_
    refine kx_aload_n 35 F 0 dX12_mark_34 rfl rfl rfl ?_
    refine kx_geti 38 F fl_X12_535 hk_c0 rfl rfl (j := 50) rfl dX12_mark_35 (v := (M c0 50) + 1) (by rw [Fr.e hG_N_4 hk_c0 _ rfl, hM_N_3, mu_s]) rfl ?_
    refine kx_Vi 41 (ci := 0) F (As := [vI ((M c0 50) + 1)]) (st := []) vd_X12_127 (c_X12_gives G l N_4 c0 ((M c0 50) + 1) hI_N_4 hk_c0 (by omega)) hk_c0 rfl rfl rfl ⟨by decide, by decide⟩ rfl rfl (Nat.le_of_ble_eq_true rfl) dX12_mark_38 rfl ?_
    intro r_6 N_7 q_8
    obtain ⟨hI_N_7, hG_N_7, q_8c⟩ := q_8
    have hF_N_7 : Fr f_c_X12_mark M N_7 := Fr.c hF_N_4 hG_N_7 rfl
    refine kx_topi (e' := (M c0 50) + 1) (by omega) ?_
    exact kx_iret F hQ ⟨hI_N_7, hF_N_7, (by omega)⟩ dX12_mark_41
  · refine kx_aload_n 9 F 0 dX12_mark_8 rfl rfl rfl ?_
    refine kx_iconst 10 F dX12_mark_9 rfl ?_
    refine kx_Vi 13 (ci := 0) F (As := [vI 4]) (st := []) vd_X12_123 (c_X12_refuse G l M c0 4 hI_M hk_c0 (by omega)) hk_c0 rfl rfl rfl ⟨by decide, by decide⟩ rfl rfl (Nat.le_of_ble_eq_true rfl) dX12_mark_10 rfl ?_
    intro r_9 N_10 q_11
    obtain ⟨hI_N_10, hG_N_10, q_11c⟩ := q_11
    have hF_N_10 : Fr f_c_X12_mark M N_10 := Fr.c hF_M hG_N_10 rfl
    subst q_11c
    exact kx_iret F hQ ⟨hI_N_10, hF_N_10, (by omega)⟩ dX12_mark_13
theorem dX12_fails_0 : decode cX12_fails 0 = .ok (.aload_n 0, 1) := by decide +kernel
theorem dX12_fails_1 : decode cX12_fails 1 = .ok (.getfield 193, 3) := by decide +kernel
theorem dX12_fails_4 : decode cX12_fails 4 = .ok (.ifCond .ne 28, 3) := by decide +kernel
theorem dX12_fails_7 : decode cX12_fails 7 = .ok (.aload_n 0, 1) := by decide +kernel
theorem dX12_fails_8 : decode cX12_fails 8 = .ok (.aload_n 0, 1) := by decide +kernel
theorem dX12_fails_9 : decode cX12_fails 9 = .ok (.getfield 168, 3) := by decide +kernel
theorem dX12_fails_12 : decode cX12_fails 12 = .ok (.iconst 1, 1) := by decide +kernel
theorem dX12_fails_13 : decode cX12_fails 13 = .ok (.if_icmp .ne 7, 3) := by decide +kernel
theorem dX12_fails_16 : decode cX12_fails 16 = .ok (.iconst 1, 1) := by decide +kernel
theorem dX12_fails_17 : decode cX12_fails 17 = .ok (.goto 4, 3) := by decide +kernel
theorem dX12_fails_20 : decode cX12_fails 20 = .ok (.iload_n 1, 1) := by decide +kernel
theorem dX12_fails_21 : decode cX12_fails 21 = .ok (.putfield 193, 3) := by decide +kernel
theorem dX12_fails_24 : decode cX12_fails 24 = .ok (.aload_n 0, 1) := by decide +kernel
theorem dX12_fails_25 : decode cX12_fails 25 = .ok (.aload_n 0, 1) := by decide +kernel
theorem dX12_fails_26 : decode cX12_fails 26 = .ok (.getfield 162, 3) := by decide +kernel
theorem dX12_fails_29 : decode cX12_fails 29 = .ok (.putfield 41, 3) := by decide +kernel
theorem dX12_fails_32 : decode cX12_fails 32 = .ok (.iconst 0, 1) := by decide +kernel
theorem dX12_fails_33 : decode cX12_fails 33 = .ok (.ireturn, 1) := by decide +kernel
abbrev f_c_X12_fails : List (Nat × Int) := [(64, 17), (64, 18)]
set_option maxHeartbeats 4000000 in
set_option maxRecDepth 100000 in
theorem c_X12_fails (G : KG) (l : Launch) (M : Mem) (c0 : Int) (a1 : Int) (hI_M : Inv true M) (hk_c0 : kd c0 = 64) (hpre : -2147483648 ≤ a1 ∧ a1 ≤ 2147483647) : KC true G l yX12_fails cX12_fails 2 (some .boolean) (0, 0) [vR G c0, vI a1] M (fun A => kQi true G A (fun (r : Int) (N : Mem) => Inv true N ∧ Fr f_c_X12_fails M N ∧ (r = 0))) := by
  refine kx_met (lo := [some (vR G c0), some (vI a1)]) (by decide) (Nat.le_of_ble_eq_true rfl) rfl ?_
  intro X F hQ
  have hF_M : Fr f_c_X12_fails M M := Fr.rf _ _
  refine kx_aload_n 1 F 0 dX12_fails_0 rfl rfl rfl ?_
  refine kx_geti 4 F fl_X12_193 hk_c0 rfl rfl (j := 18) rfl dX12_fails_1 (v := (M c0 18)) rfl rfl ?_
  have h_1 := Inv.g hI_M hk_c0 rfl 18 (a := (-2147483648)) (b := 2147483647) rfl rfl
  refine kx_if_ne 7 F 32 dX12_fails_4 (by decide) rfl (by omega) (fun h_2 => ?_) (fun h_2 => ?_)
  · refine kx_iconst 33 F dX12_fails_32 rfl ?_
    exact kx_zret F hQ (by omega) ⟨hI_M, hF_M, (by omega)⟩ dX12_fails_33
  · refine kx_aload_n 8 F 0 dX12_fails_7 rfl rfl rfl ?_
    refine kx_aload_n 9 F 0 dX12_fails_8 rfl rfl rfl ?_
    refine kx_geti 12 F fl_X12_168 hk_c0 rfl rfl (j := 12) rfl dX12_fails_9 (v := (M c0 12)) rfl rfl ?_
    have h_3 := Inv.g hI_M hk_c0 rfl 12 (a := 0) (b := 4) rfl rfl
    refine kx_iconst 13 F dX12_fails_12 rfl ?_
    refine kx_icmp_ne 16 F 20 dX12_fails_13 (by decide) rfl (by omega) (by decide) (fun h_4 => ?_) (fun h_4 => ?_)
    · refine kx_iload_n 21 F 1 dX12_fails_20 rfl rfl rfl ?_
      refine kx_puti 24 F fw_X12_193 rfl hk_c0 rfl rfl (j := 18) rfl dX12_fails_21 rfl ?_
      intro N_5 hM_N_5
      have hI_N_5 : Inv true N_5 := Inv.u hI_M hM_N_5 hk_c0 (a := (-2147483648)) (b := 2147483647) rfl rfl rfl (by omega)
      have hF_N_5 : Fr f_c_X12_fails M N_5 := Fr.u hF_M hM_N_5 hk_c0 rfl
      refine kx_aload_n 25 F 0 dX12_fails_24 rfl rfl rfl ?_
      refine kx_aload_n 26 F 0 dX12_fails_25 rfl rfl rfl ?_
      refine kx_geti 29 F fl_X12_162 hk_c0 rfl rfl (j := 13) rfl dX12_fails_26 (v := (M c0 13)) (by rw [hM_N_5, mu_i (by omega)]) rfl ?_
      have h_6 := Inv.g hI_M hk_c0 rfl 13 (a := 0) (b := 900) rfl rfl
      refine kx_puti 32 F fw_X12_41 rfl hk_c0 rfl rfl (j := 17) rfl dX12_fails_29 rfl ?_
      intro N_7 hM_N_7
      have hI_N_7 : Inv true N_7 := Inv.u hI_N_5 hM_N_7 hk_c0 (a := (-2147483648)) (b := 2147483647) rfl rfl rfl (by omega)
      have hF_N_7 : Fr f_c_X12_fails M N_7 := Fr.u hF_N_5 hM_N_7 hk_c0 rfl
      refine kx_iconst 33 F dX12_fails_32 rfl ?_
      exact kx_zret F hQ (by omega) ⟨hI_N_7, hF_N_7, (by omega)⟩ dX12_fails_33
    · refine kx_iconst 17 F dX12_fails_16 rfl ?_
      refine kx_goto 21 F dX12_fails_17 (by decide) ?_
      refine kx_puti 24 F fw_X12_193 rfl hk_c0 rfl rfl (j := 18) rfl dX12_fails_21 rfl ?_
      intro N_8 hM_N_8
      have hI_N_8 : Inv true N_8 := Inv.u hI_M hM_N_8 hk_c0 (a := (-2147483648)) (b := 2147483647) rfl rfl rfl (by omega)
      have hF_N_8 : Fr f_c_X12_fails M N_8 := Fr.u hF_M hM_N_8 hk_c0 rfl
      refine kx_aload_n 25 F 0 dX12_fails_24 rfl rfl rfl ?_
      refine kx_aload_n 26 F 0 dX12_fails_25 rfl rfl rfl ?_
      refine kx_geti 29 F fl_X12_162 hk_c0 rfl rfl (j := 13) rfl dX12_fails_26 (v := (M c0 13)) (by rw [hM_N_8, mu_i (by omega)]) rfl ?_
      have h_9 := Inv.g hI_M hk_c0 rfl 13 (a := 0) (b := 900) rfl rfl
      refine kx_puti 32 F fw_X12_41 rfl hk_c0 rfl rfl (j := 17) rfl dX12_fails_29 rfl ?_
      intro N_10 hM_N_10
      have hI_N_10 : Inv true N_10 := Inv.u hI_N_8 hM_N_10 hk_c0 (a := (-2147483648)) (b := 2147483647) rfl rfl rfl (by omega)
      have hF_N_10 : Fr f_c_X12_fails M N_10 := Fr.u hF_N_8 hM_N_10 hk_c0 rfl
      refine kx_iconst 33 F dX12_fails_32 rfl ?_
      exact kx_zret F hQ (by omega) ⟨hI_N_10, hF_N_10, (by omega)⟩ dX12_fails_33
theorem dX12_inWords_0 : decode cX12_inWords 0 = .ok (.aload_n 0, 1) := by decide +kernel
theorem dX12_inWords_1 : decode cX12_inWords 1 = .ok (.getfield 168, 3) := by decide +kernel
theorem dX12_inWords_4 : decode cX12_inWords 4 = .ok (.iconst 2, 1) := by decide +kernel
theorem dX12_inWords_5 : decode cX12_inWords 5 = .ok (.if_icmp .eq 5, 3) := by decide +kernel
theorem dX12_inWords_8 : decode cX12_inWords 8 = .ok (.iconst (-1), 1) := by decide +kernel
theorem dX12_inWords_9 : decode cX12_inWords 9 = .ok (.ireturn, 1) := by decide +kernel
theorem dX12_inWords_10 : decode cX12_inWords 10 = .ok (.iconst 0, 1) := by decide +kernel
theorem dX12_inWords_11 : decode cX12_inWords 11 = .ok (.istore_n 2, 1) := by decide +kernel
theorem dX12_inWords_12 : decode cX12_inWords 12 = .ok (.iconst 1, 1) := by decide +kernel
theorem dX12_inWords_13 : decode cX12_inWords 13 = .ok (.istore_n 3, 1) := by decide +kernel
theorem dX12_inWords_14 : decode cX12_inWords 14 = .ok (.iload_n 3, 1) := by decide +kernel
theorem dX12_inWords_15 : decode cX12_inWords 15 = .ok (.aload_n 1, 1) := by decide +kernel
theorem dX12_inWords_16 : decode cX12_inWords 16 = .ok (.invokevirtual 183, 3) := by decide +kernel
theorem dX12_inWords_19 : decode cX12_inWords 19 = .ok (.if_icmp .ge 114, 3) := by decide +kernel
theorem dX12_inWords_22 : decode cX12_inWords 22 = .ok (.iload_n 3, 1) := by decide +kernel
theorem dX12_inWords_23 : decode cX12_inWords 23 = .ok (.istore 4, 2) := by decide +kernel
theorem dX12_inWords_25 : decode cX12_inWords 25 = .ok (.aload_n 1, 1) := by decide +kernel
theorem dX12_inWords_26 : decode cX12_inWords 26 = .ok (.iload 4, 2) := by decide +kernel
theorem dX12_inWords_28 : decode cX12_inWords 28 = .ok (.invokevirtual 189, 3) := by decide +kernel
theorem dX12_inWords_31 : decode cX12_inWords 31 = .ok (.bipush 32, 2) := by decide +kernel
theorem dX12_inWords_33 : decode cX12_inWords 33 = .ok (.if_icmp .eq 9, 3) := by decide +kernel
theorem dX12_inWords_36 : decode cX12_inWords 36 = .ok (.iinc 4 1, 3) := by decide +kernel
theorem dX12_inWords_39 : decode cX12_inWords 39 = .ok (.goto (-14), 3) := by decide +kernel
theorem dX12_inWords_42 : decode cX12_inWords 42 = .ok (.iload 4, 2) := by decide +kernel
theorem dX12_inWords_44 : decode cX12_inWords 44 = .ok (.iload_n 3, 1) := by decide +kernel
theorem dX12_inWords_45 : decode cX12_inWords 45 = .ok (.isub, 1) := by decide +kernel
theorem dX12_inWords_46 : decode cX12_inWords 46 = .ok (.aload_n 0, 1) := by decide +kernel
theorem dX12_inWords_47 : decode cX12_inWords 47 = .ok (.getfield 156, 3) := by decide +kernel
theorem dX12_inWords_50 : decode cX12_inWords 50 = .ok (.aload_n 0, 1) := by decide +kernel
theorem dX12_inWords_51 : decode cX12_inWords 51 = .ok (.getfield 162, 3) := by decide +kernel
theorem dX12_inWords_54 : decode cX12_inWords 54 = .ok (.isub, 1) := by decide +kernel
theorem dX12_inWords_55 : decode cX12_inWords 55 = .ok (.if_icmp .ne 7, 3) := by decide +kernel
theorem dX12_inWords_58 : decode cX12_inWords 58 = .ok (.iconst 1, 1) := by decide +kernel
theorem dX12_inWords_59 : decode cX12_inWords 59 = .ok (.goto 4, 3) := by decide +kernel
theorem dX12_inWords_62 : decode cX12_inWords 62 = .ok (.iconst 0, 1) := by decide +kernel
theorem dX12_inWords_63 : decode cX12_inWords 63 = .ok (.istore 5, 2) := by decide +kernel
theorem dX12_inWords_65 : decode cX12_inWords 65 = .ok (.iload_n 3, 1) := by decide +kernel
theorem dX12_inWords_66 : decode cX12_inWords 66 = .ok (.istore 6, 2) := by decide +kernel
theorem dX12_inWords_68 : decode cX12_inWords 68 = .ok (.iload 6, 2) := by decide +kernel
theorem dX12_inWords_70 : decode cX12_inWords 70 = .ok (.iload 4, 2) := by decide +kernel
theorem dX12_inWords_72 : decode cX12_inWords 72 = .ok (.if_icmp .ge 43, 3) := by decide +kernel
theorem dX12_inWords_75 : decode cX12_inWords 75 = .ok (.iload 5, 2) := by decide +kernel
theorem dX12_inWords_77 : decode cX12_inWords 77 = .ok (.ifCond .eq 38, 3) := by decide +kernel
theorem dX12_inWords_80 : decode cX12_inWords 80 = .ok (.aload_n 1, 1) := by decide +kernel
theorem dX12_inWords_81 : decode cX12_inWords 81 = .ok (.iload 6, 2) := by decide +kernel
theorem dX12_inWords_83 : decode cX12_inWords 83 = .ok (.invokevirtual 189, 3) := by decide +kernel
theorem dX12_inWords_86 : decode cX12_inWords 86 = .ok (.aload_n 0, 1) := by decide +kernel
theorem dX12_inWords_87 : decode cX12_inWords 87 = .ok (.aload_n 0, 1) := by decide +kernel
theorem dX12_inWords_88 : decode cX12_inWords 88 = .ok (.getfield 162, 3) := by decide +kernel
theorem dX12_inWords_91 : decode cX12_inWords 91 = .ok (.iload 6, 2) := by decide +kernel
theorem dX12_inWords_93 : decode cX12_inWords 93 = .ok (.iadd, 1) := by decide +kernel
theorem dX12_inWords_94 : decode cX12_inWords 94 = .ok (.iload_n 3, 1) := by decide +kernel
theorem dX12_inWords_95 : decode cX12_inWords 95 = .ok (.isub, 1) := by decide +kernel
theorem dX12_inWords_96 : decode cX12_inWords 96 = .ok (.invokevirtual 159, 3) := by decide +kernel
theorem dX12_inWords_99 : decode cX12_inWords 99 = .ok (.if_icmp .ne 7, 3) := by decide +kernel
theorem dX12_inWords_102 : decode cX12_inWords 102 = .ok (.iconst 1, 1) := by decide +kernel
theorem dX12_inWords_103 : decode cX12_inWords 103 = .ok (.goto 4, 3) := by decide +kernel
theorem dX12_inWords_106 : decode cX12_inWords 106 = .ok (.iconst 0, 1) := by decide +kernel
theorem dX12_inWords_107 : decode cX12_inWords 107 = .ok (.istore 5, 2) := by decide +kernel
theorem dX12_inWords_109 : decode cX12_inWords 109 = .ok (.iinc 6 1, 3) := by decide +kernel
theorem dX12_inWords_112 : decode cX12_inWords 112 = .ok (.goto (-44), 3) := by decide +kernel
theorem dX12_inWords_115 : decode cX12_inWords 115 = .ok (.iload 5, 2) := by decide +kernel
theorem dX12_inWords_117 : decode cX12_inWords 117 = .ok (.ifCond .eq 5, 3) := by decide +kernel
theorem dX12_inWords_120 : decode cX12_inWords 120 = .ok (.iload_n 2, 1) := by decide +kernel
theorem dX12_inWords_121 : decode cX12_inWords 121 = .ok (.ireturn, 1) := by decide +kernel
theorem dX12_inWords_122 : decode cX12_inWords 122 = .ok (.iinc 2 1, 3) := by decide +kernel
theorem dX12_inWords_125 : decode cX12_inWords 125 = .ok (.iload 4, 2) := by decide +kernel
theorem dX12_inWords_127 : decode cX12_inWords 127 = .ok (.iconst 1, 1) := by decide +kernel
theorem dX12_inWords_128 : decode cX12_inWords 128 = .ok (.iadd, 1) := by decide +kernel
theorem dX12_inWords_129 : decode cX12_inWords 129 = .ok (.istore_n 3, 1) := by decide +kernel
theorem dX12_inWords_130 : decode cX12_inWords 130 = .ok (.goto (-116), 3) := by decide +kernel
theorem dX12_inWords_133 : decode cX12_inWords 133 = .ok (.iconst (-1), 1) := by decide +kernel
theorem dX12_inWords_134 : decode cX12_inWords 134 = .ok (.ireturn, 1) := by decide +kernel
set_option maxHeartbeats 4000000 in
set_option maxRecDepth 100000 in
theorem c_X12_inWords (G : KG) (l : Launch) (M : Mem) (c0 : Int) (hI_M : Inv true M) (hk_c0 : kd c0 = 64) : KC true G l yX12_inWords cX12_inWords 7 (some .int) (4, 85) [vR G c0, vT G 11] M (fun A => kQi true G A (fun (r : Int) (N : Mem) => M = N ∧ ((r = -1) ∨ (r ≥ 0 ∧ r ≤ 66 ∧ (M c0 12) = 2)))) := by
  refine kx_met (lo := [some (vR G c0), some (vT G 11), none, none, none, none, none]) (by decide) (Nat.le_of_ble_eq_true rfl) rfl ?_
  intro X F hQ
  have h_1 : slen 11 = 67 := rfl
  refine kx_aload_n 1 F 0 dX12_inWords_0 rfl rfl rfl ?_
  refine kx_geti 4 F fl_X12_168 hk_c0 rfl rfl (j := 12) rfl dX12_inWords_1 (v := (M c0 12)) rfl rfl ?_
  have h_2 := Inv.g hI_M hk_c0 rfl 12 (a := 0) (b := 4) rfl rfl
  refine kx_iconst 5 F dX12_inWords_4 rfl ?_
  refine kx_icmp_eq 8 F 10 dX12_inWords_5 (by decide) rfl (by omega) (by decide) (fun h_3 => ?_) (fun h_3 => ?_)
  · refine kx_iconst 11 F dX12_inWords_10 rfl ?_
    refine kx_istore_n 12 F 2 (lo' := [some (vR G c0), some (vT G 11), some (vI 0), none, none, none, none]) dX12_inWords_11 rfl (by decide) rfl rfl rfl ?_
    refine kx_iconst 13 F dX12_inWords_12 rfl ?_
    refine kx_istore_n 14 F 3 (lo' := [some (vR G c0), some (vT G 11), some (vI 0), some (vI 1), none, none, none]) dX12_inWords_13 rfl (by decide) rfl rfl rfl ?_
    have L_174 : ∀ (n_175 : Nat) (x2_172 : Int) (x3_173 : Int), 0 ≤ x2_172 ∧ x2_172 ≤ 67 ∧ 1 ≤ x3_173 ∧ x3_173 ≤ 67 ∧ x2_172 ≤ x3_173 → (67 - (x2_172)).toNat = n_175 → KJ true G X M 14 [some (vR G c0), some (vT G 11), some (vI x2_172), some (vI x3_173), none, none, none] [] := by
      intro n_175
      refine Nat.strongRecOn n_175 ?_
      intro n_175 ih_176 x2_172 x3_173 h_177 hm_178
      refine kx_iload_n 15 F 3 dX12_inWords_14 rfl rfl rfl ?_
      refine kx_aload_n 16 F 1 dX12_inWords_15 rfl rfl rfl ?_
      refine kx_VSi 19 F (As := []) (st := [vI x3_173]) (by omega) vd_X12_183 (c_slength_t G l M 11 hI_M (by omega)) rfl ⟨by decide, by decide⟩ rfl rfl (Nat.le_of_ble_eq_true rfl) dX12_inWords_16 rfl ?_
      intro r_179 N_180 q_181
      obtain ⟨rfl, q_181c⟩ := q_181
      have h_182 := slen_rng 11
      refine kx_topi (e' := (slen 11)) (by omega) ?_
      refine kx_icmp_ge 22 F 133 dX12_inWords_19 (by decide) rfl (by omega) (by omega) (fun h_183 => ?_) (fun h_183 => ?_)
      · refine kx_iconst 134 F dX12_inWords_133 rfl ?_
        exact kx_iret F hQ ⟨rfl, (by omega)⟩ dX12_inWords_134
      · refine kx_iload_n 23 F 3 dX12_inWords_22 rfl rfl rfl ?_
        refine kx_istore 25 F 4 (lo' := [some (vR G c0), some (vT G 11), some (vI x2_172), some (vI x3_173), some (vI x3_173), none, none]) dX12_inWords_23 (by decide) rfl rfl rfl ?_
        have L_263 : ∀ (n_264 : Nat) (x4_262 : Int), 1 ≤ x4_262 ∧ x4_262 ≤ 66 ∧ x3_173 ≤ x4_262 → (66 - (x4_262)).toNat = n_264 → KJ true G X M 25 [some (vR G c0), some (vT G 11), some (vI x2_172), some (vI x3_173), some (vI x4_262), none, none] [] := by
          intro n_264
          refine Nat.strongRecOn n_264 ?_
          intro n_264 ih_265 x4_262 h_266 hm_267
          refine kx_aload_n 26 F 1 dX12_inWords_25 rfl rfl rfl ?_
          refine kx_iload 28 F 4 dX12_inWords_26 rfl rfl ?_
          refine kx_VSi 31 F (As := [vI x4_262]) (st := []) (by omega) vd_X12_189 (c_charAt_t G l M 11 x4_262 hI_M (by omega)) rfl ⟨by decide, by decide⟩ rfl rfl (Nat.le_of_ble_eq_true rfl) dX12_inWords_28 rfl ?_
          intro r_268 N_269 q_270
          obtain ⟨rfl, q_270c⟩ := q_270
          have h_271 : ¬ x4_262 = 66 ∨ zand (schar 11 x4_262) 255 = 32 := by
            by_cases q : x4_262 = 66
            · exact Or.inr (by rw [q]; decide)
            · exact Or.inl q
          refine kx_bipush 33 F dX12_inWords_31 (by decide) rfl ?_
          refine kx_icmp_eq 36 F 42 dX12_inWords_33 (by decide) rfl (by omega) (by decide) (fun h_272 => ?_) (fun h_272 => ?_)
          · refine kx_iload 44 F 4 dX12_inWords_42 rfl rfl ?_
            refine kx_iload_n 45 F 3 dX12_inWords_44 rfl rfl rfl ?_
            refine kx_isub 46 F (v := x4_262 - x3_173) dX12_inWords_45 rfl rfl ?_
            refine kx_aload_n 47 F 0 dX12_inWords_46 rfl rfl rfl ?_
            refine kx_geti 50 F fl_X12_156 hk_c0 rfl rfl (j := 14) rfl dX12_inWords_47 (v := (M c0 14)) rfl rfl ?_
            have h_273 := Inv.g hI_M hk_c0 rfl 14 (a := 0) (b := 900) rfl rfl
            refine kx_aload_n 51 F 0 dX12_inWords_50 rfl rfl rfl ?_
            refine kx_geti 54 F fl_X12_162 hk_c0 rfl rfl (j := 13) rfl dX12_inWords_51 (v := (M c0 13)) rfl rfl ?_
            have h_274 := Inv.g hI_M hk_c0 rfl 13 (a := 0) (b := 900) rfl rfl
            refine kx_isub 55 F (v := (M c0 14) - (M c0 13)) dX12_inWords_54 rfl rfl ?_
            have J_278 : ∀ (y0_277 : Int), 0 ≤ y0_277 ∧ y0_277 ≤ 1 → KJ true G X M 63 [some (vR G c0), some (vT G 11), some (vI x2_172), some (vI x3_173), some (vI x4_262), none, none] [vI y0_277] := by
              intro y0_277 h_279
              refine kx_istore 65 F 5 (lo' := [some (vR G c0), some (vT G 11), some (vI x2_172), some (vI x3_173), some (vI x4_262), some (vI y0_277), none]) dX12_inWords_63 (by decide) rfl rfl rfl ?_
              refine kx_iload_n 66 F 3 dX12_inWords_65 rfl rfl rfl ?_
              refine kx_istore 68 F 6 (lo' := [some (vR G c0), some (vT G 11), some (vI x2_172), some (vI x3_173), some (vI x4_262), some (vI y0_277), some (vI x3_173)]) dX12_inWords_66 (by decide) rfl rfl rfl ?_
              have L_298 : ∀ (n_299 : Nat) (x5_296 : Int) (x6_297 : Int), 0 ≤ x5_296 ∧ x5_296 ≤ 1 ∧ 1 ≤ x6_297 ∧ x6_297 ≤ 66 ∧ x3_173 ≤ x6_297 → (66 - (x6_297)).toNat = n_299 → KJ true G X M 68 [some (vR G c0), some (vT G 11), some (vI x2_172), some (vI x3_173), some (vI x4_262), some (vI x5_296), some (vI x6_297)] [] := by
                intro n_299
                refine Nat.strongRecOn n_299 ?_
                intro n_299 ih_300 x5_296 x6_297 h_301 hm_302
                refine kx_iload 70 F 6 dX12_inWords_68 rfl rfl ?_
                refine kx_iload 72 F 4 dX12_inWords_70 rfl rfl ?_
                have J_315 : KJ true G X M 115 [some (vR G c0), some (vT G 11), some (vI x2_172), none, some (vI x4_262), some (vI x5_296), none] [] := by
                  refine kx_iload 117 F 5 dX12_inWords_115 rfl rfl ?_
                  refine kx_if_eq 120 F 122 dX12_inWords_117 (by decide) rfl (by omega) (fun h_317 => ?_) (fun h_317 => ?_)
                  · refine kx_iinc 125 F 2 (v := x2_172 + 1) (lo' := [some (vR G c0), some (vT G 11), some (vI (x2_172 + 1)), none, some (vI x4_262), some (vI x5_296), none]) dX12_inWords_122 rfl (by omega) (by decide) rfl rfl rfl ?_
                    refine kx_iload 127 F 4 dX12_inWords_125 rfl rfl ?_
                    refine kx_iconst 128 F dX12_inWords_127 rfl ?_
                    refine kx_iadd 129 F (v := x4_262 + 1) dX12_inWords_128 rfl rfl ?_
                    refine kx_istore_n 130 F 3 (lo' := [some (vR G c0), some (vT G 11), some (vI (x2_172 + 1)), some (vI (x4_262 + 1)), some (vI x4_262), some (vI x5_296), none]) dX12_inWords_129 rfl (by decide) rfl rfl rfl ?_
                    refine kx_goto 14 F dX12_inWords_130 (by decide) ?_
                    refine kx_drop 4 (lo' := [some (vR G c0), some (vT G 11), some (vI (x2_172 + 1)), some (vI (x4_262 + 1)), none, some (vI x5_296), none]) rfl ?_
                    refine kx_drop 5 (lo' := [some (vR G c0), some (vT G 11), some (vI (x2_172 + 1)), some (vI (x4_262 + 1)), none, none, none]) rfl ?_
                    exact ih_176 _ (by omega) (x2_172 + 1) (x4_262 + 1) (by omega) rfl
                  · refine kx_iload_n 121 F 2 dX12_inWords_120 rfl rfl rfl ?_
                    exact kx_iret F hQ ⟨rfl, (by omega)⟩ dX12_inWords_121
                refine kx_icmp_ge 75 F 115 dX12_inWords_72 (by decide) rfl (by omega) (by omega) (fun h_318 => ?_) (fun h_318 => ?_)
                · refine kx_drop 3 (lo' := [some (vR G c0), some (vT G 11), some (vI x2_172), none, some (vI x4_262), some (vI x5_296), some (vI x6_297)]) rfl ?_
                  refine kx_drop 6 (lo' := [some (vR G c0), some (vT G 11), some (vI x2_172), none, some (vI x4_262), some (vI x5_296), none]) rfl ?_
                  exact J_315 
                · refine kx_iload 77 F 5 dX12_inWords_75 rfl rfl ?_
                  refine kx_if_eq 80 F 115 dX12_inWords_77 (by decide) rfl (by omega) (fun h_319 => ?_) (fun h_319 => ?_)
                  · refine kx_drop 3 (lo' := [some (vR G c0), some (vT G 11), some (vI x2_172), none, some (vI x4_262), some (vI x5_296), some (vI x6_297)]) rfl ?_
                    refine kx_drop 6 (lo' := [some (vR G c0), some (vT G 11), some (vI x2_172), none, some (vI x4_262), some (vI x5_296), none]) rfl ?_
                    exact J_315 
                  · refine kx_aload_n 81 F 1 dX12_inWords_80 rfl rfl rfl ?_
                    refine kx_iload 83 F 6 dX12_inWords_81 rfl rfl ?_
                    refine kx_VSi 86 F (As := [vI x6_297]) (st := []) (by omega) vd_X12_189 (c_charAt_t G l M 11 x6_297 hI_M (by omega)) rfl ⟨by decide, by decide⟩ rfl rfl (Nat.le_of_ble_eq_true rfl) dX12_inWords_83 rfl ?_
                    intro r_320 N_321 q_322
                    obtain ⟨rfl, q_322c⟩ := q_322
                    refine kx_aload_n 87 F 0 dX12_inWords_86 rfl rfl rfl ?_
                    refine kx_aload_n 88 F 0 dX12_inWords_87 rfl rfl rfl ?_
                    refine kx_geti 91 F fl_X12_162 hk_c0 rfl rfl (j := 13) rfl dX12_inWords_88 (v := (M c0 13)) rfl rfl ?_
                    refine kx_iload 93 F 6 dX12_inWords_91 rfl rfl ?_
                    refine kx_iadd 94 F (v := (M c0 13) + x6_297) dX12_inWords_93 rfl rfl ?_
                    refine kx_iload_n 95 F 3 dX12_inWords_94 rfl rfl rfl ?_
                    refine kx_isub 96 F (v := (M c0 13) + x6_297 - x3_173) dX12_inWords_95 rfl rfl ?_
                    refine kx_Vi 99 (ci := 0) F (As := [vI ((M c0 13) + x6_297 - x3_173)]) (st := [vI r_320]) vd_X12_159 (c_X12_byteAt G l M c0 ((M c0 13) + x6_297 - x3_173) hI_M hk_c0 (by omega)) hk_c0 rfl rfl rfl ⟨by decide, by decide⟩ rfl rfl (Nat.le_of_ble_eq_true rfl) dX12_inWords_96 rfl ?_
                    intro r_323 N_324 q_325
                    obtain ⟨rfl, q_325c⟩ := q_325
                    have h_326 := Inv.g hI_M hk_c0 rfl 11 (a := 0) (b := 900) rfl rfl
                    have h_327 := Inv.g hI_M hk_c0 rfl 11 (a := 0) (b := 900) rfl rfl
                    rcases q_325c with q_325c | q_325c
                    · have J_331 : ∀ (y0_330 : Int), 0 ≤ y0_330 ∧ y0_330 ≤ 0 → KJ true G X M 107 [some (vR G c0), some (vT G 11), some (vI x2_172), some (vI x3_173), some (vI x4_262), none, some (vI x6_297)] [vI y0_330] := by
                        intro y0_330 h_332
                        refine kx_istore 109 F 5 (lo' := [some (vR G c0), some (vT G 11), some (vI x2_172), some (vI x3_173), some (vI x4_262), some (vI y0_330), some (vI x6_297)]) dX12_inWords_107 (by decide) rfl rfl rfl ?_
                        refine kx_iinc 112 F 6 (v := x6_297 + 1) (lo' := [some (vR G c0), some (vT G 11), some (vI x2_172), some (vI x3_173), some (vI x4_262), some (vI y0_330), some (vI (x6_297 + 1))]) dX12_inWords_109 rfl (by omega) (by decide) rfl rfl rfl ?_
                        refine kx_goto 68 F dX12_inWords_112 (by decide) ?_
                        exact ih_300 _ (by omega) y0_330 (x6_297 + 1) (by omega) rfl
                      refine kx_icmp_ne 102 F 106 dX12_inWords_99 (by decide) rfl (by omega) (by omega) (fun h_333 => ?_) (fun h_333 => (by exfalso; omega))
                      refine kx_iconst 107 F dX12_inWords_106 rfl ?_
                      refine kx_drop 5 (lo' := [some (vR G c0), some (vT G 11), some (vI x2_172), some (vI x3_173), some (vI x4_262), none, some (vI x6_297)]) rfl ?_
                      exact J_331 0 (by omega)
                    · have J_337 : ∀ (y0_336 : Int), 0 ≤ y0_336 ∧ y0_336 ≤ 1 → KJ true G X M 107 [some (vR G c0), some (vT G 11), some (vI x2_172), some (vI x3_173), some (vI x4_262), none, some (vI x6_297)] [vI y0_336] := by
                        intro y0_336 h_338
                        refine kx_istore 109 F 5 (lo' := [some (vR G c0), some (vT G 11), some (vI x2_172), some (vI x3_173), some (vI x4_262), some (vI y0_336), some (vI x6_297)]) dX12_inWords_107 (by decide) rfl rfl rfl ?_
                        refine kx_iinc 112 F 6 (v := x6_297 + 1) (lo' := [some (vR G c0), some (vT G 11), some (vI x2_172), some (vI x3_173), some (vI x4_262), some (vI y0_336), some (vI (x6_297 + 1))]) dX12_inWords_109 rfl (by omega) (by decide) rfl rfl rfl ?_
                        refine kx_goto 68 F dX12_inWords_112 (by decide) ?_
                        exact ih_300 _ (by omega) y0_336 (x6_297 + 1) (by omega) rfl
                      refine kx_icmp_ne 102 F 106 dX12_inWords_99 (by decide) rfl (by omega) (by omega) (fun h_339 => ?_) (fun h_339 => ?_)
                      · refine kx_iconst 107 F dX12_inWords_106 rfl ?_
                        refine kx_drop 5 (lo' := [some (vR G c0), some (vT G 11), some (vI x2_172), some (vI x3_173), some (vI x4_262), none, some (vI x6_297)]) rfl ?_
                        exact J_337 0 (by omega)
                      · refine kx_iconst 103 F dX12_inWords_102 rfl ?_
                        refine kx_goto 107 F dX12_inWords_103 (by decide) ?_
                        refine kx_drop 5 (lo' := [some (vR G c0), some (vT G 11), some (vI x2_172), some (vI x3_173), some (vI x4_262), none, some (vI x6_297)]) rfl ?_
                        exact J_337 1 (by omega)
              exact L_298 _ y0_277 x3_173 (by omega) rfl
            refine kx_icmp_ne 58 F 62 dX12_inWords_55 (by decide) rfl (by omega) (by omega) (fun h_340 => ?_) (fun h_340 => ?_)
            · refine kx_iconst 63 F dX12_inWords_62 rfl ?_
              exact J_278 0 (by omega)
            · refine kx_iconst 59 F dX12_inWords_58 rfl ?_
              refine kx_goto 63 F dX12_inWords_59 (by decide) ?_
              exact J_278 1 (by omega)
          · refine kx_iinc 39 F 4 (v := x4_262 + 1) (lo' := [some (vR G c0), some (vT G 11), some (vI x2_172), some (vI x3_173), some (vI (x4_262 + 1)), none, none]) dX12_inWords_36 rfl (by omega) (by decide) rfl rfl rfl ?_
            refine kx_goto 25 F dX12_inWords_39 (by decide) ?_
            exact ih_265 _ (by omega) (x4_262 + 1) (by omega) rfl
        exact L_263 _ x3_173 (by omega) rfl
    exact L_174 _ 0 1 (by omega) rfl
  · refine kx_iconst 9 F dX12_inWords_8 rfl ?_
    exact kx_iret F hQ ⟨rfl, (by omega)⟩ dX12_inWords_9
theorem dX12_begins_0 : decode cX12_begins 0 = .ok (.iload_n 1, 1) := by decide +kernel
theorem dX12_begins_1 : decode cX12_begins 1 = .ok (.ifCond .lt 16, 3) := by decide +kernel
theorem dX12_begins_4 : decode cX12_begins 4 = .ok (.iload_n 1, 1) := by decide +kernel
theorem dX12_begins_5 : decode cX12_begins 5 = .ok (.aload_n 0, 1) := by decide +kernel
theorem dX12_begins_6 : decode cX12_begins 6 = .ok (.getfield 147, 3) := by decide +kernel
theorem dX12_begins_9 : decode cX12_begins 9 = .ok (.if_icmp .gt 8, 3) := by decide +kernel
theorem dX12_begins_12 : decode cX12_begins 12 = .ok (.iload_n 1, 1) := by decide +kernel
theorem dX12_begins_13 : decode cX12_begins 13 = .ok (.iload_n 2, 1) := by decide +kernel
theorem dX12_begins_14 : decode cX12_begins 14 = .ok (.if_icmp .le 5, 3) := by decide +kernel
theorem dX12_begins_17 : decode cX12_begins 17 = .ok (.iconst 0, 1) := by decide +kernel
theorem dX12_begins_18 : decode cX12_begins 18 = .ok (.ireturn, 1) := by decide +kernel
theorem dX12_begins_19 : decode cX12_begins 19 = .ok (.aload_n 0, 1) := by decide +kernel
theorem dX12_begins_20 : decode cX12_begins 20 = .ok (.iload_n 1, 1) := by decide +kernel
theorem dX12_begins_21 : decode cX12_begins 21 = .ok (.putfield 153, 3) := by decide +kernel
theorem dX12_begins_24 : decode cX12_begins 24 = .ok (.iconst 0, 1) := by decide +kernel
theorem dX12_begins_25 : decode cX12_begins 25 = .ok (.istore_n 3, 1) := by decide +kernel
theorem dX12_begins_26 : decode cX12_begins 26 = .ok (.iload_n 3, 1) := by decide +kernel
theorem dX12_begins_27 : decode cX12_begins 27 = .ok (.iload_n 1, 1) := by decide +kernel
theorem dX12_begins_28 : decode cX12_begins 28 = .ok (.if_icmp .ge 21, 3) := by decide +kernel
theorem dX12_begins_31 : decode cX12_begins 31 = .ok (.aload_n 0, 1) := by decide +kernel
theorem dX12_begins_32 : decode cX12_begins 32 = .ok (.getfield 34, 3) := by decide +kernel
theorem dX12_begins_35 : decode cX12_begins 35 = .ok (.iload_n 3, 1) := by decide +kernel
theorem dX12_begins_36 : decode cX12_begins 36 = .ok (.aload_n 0, 1) := by decide +kernel
theorem dX12_begins_37 : decode cX12_begins 37 = .ok (.getfield 30, 3) := by decide +kernel
theorem dX12_begins_40 : decode cX12_begins 40 = .ok (.iload_n 3, 1) := by decide +kernel
theorem dX12_begins_41 : decode cX12_begins 41 = .ok (.baload, 1) := by decide +kernel
theorem dX12_begins_42 : decode cX12_begins 42 = .ok (.bastore, 1) := by decide +kernel
theorem dX12_begins_43 : decode cX12_begins 43 = .ok (.iinc 3 1, 3) := by decide +kernel
theorem dX12_begins_46 : decode cX12_begins 46 = .ok (.goto (-20), 3) := by decide +kernel
theorem dX12_begins_49 : decode cX12_begins 49 = .ok (.aload_n 0, 1) := by decide +kernel
theorem dX12_begins_50 : decode cX12_begins 50 = .ok (.iconst 0, 1) := by decide +kernel
theorem dX12_begins_51 : decode cX12_begins 51 = .ok (.putfield 147, 3) := by decide +kernel
theorem dX12_begins_54 : decode cX12_begins 54 = .ok (.aload_n 0, 1) := by decide +kernel
theorem dX12_begins_55 : decode cX12_begins 55 = .ok (.iconst 0, 1) := by decide +kernel
theorem dX12_begins_56 : decode cX12_begins 56 = .ok (.putfield 193, 3) := by decide +kernel
theorem dX12_begins_59 : decode cX12_begins 59 = .ok (.aload_n 0, 1) := by decide +kernel
theorem dX12_begins_60 : decode cX12_begins 60 = .ok (.iconst (-1), 1) := by decide +kernel
theorem dX12_begins_61 : decode cX12_begins 61 = .ok (.putfield 41, 3) := by decide +kernel
theorem dX12_begins_64 : decode cX12_begins 64 = .ok (.aload_n 0, 1) := by decide +kernel
theorem dX12_begins_65 : decode cX12_begins 65 = .ok (.iconst 0, 1) := by decide +kernel
theorem dX12_begins_66 : decode cX12_begins 66 = .ok (.putfield 156, 3) := by decide +kernel
theorem dX12_begins_69 : decode cX12_begins 69 = .ok (.aload_n 0, 1) := by decide +kernel
theorem dX12_begins_70 : decode cX12_begins 70 = .ok (.iconst 0, 1) := by decide +kernel
theorem dX12_begins_71 : decode cX12_begins 71 = .ok (.putfield 196, 3) := by decide +kernel
theorem dX12_begins_74 : decode cX12_begins 74 = .ok (.aload_n 0, 1) := by decide +kernel
theorem dX12_begins_75 : decode cX12_begins 75 = .ok (.invokevirtual 199, 3) := by decide +kernel
theorem dX12_begins_78 : decode cX12_begins 78 = .ok (.iconst 1, 1) := by decide +kernel
theorem dX12_begins_79 : decode cX12_begins 79 = .ok (.ireturn, 1) := by decide +kernel
abbrev f_c_X12_begins : List (Nat × Int) := [(64, 10), (64, 11), (64, 12), (64, 13), (64, 14), (64, 15), (64, 17), (64, 18), (64, 19), (71, -1)]
set_option maxHeartbeats 4000000 in
set_option maxRecDepth 100000 in
theorem c_X12_begins (G : KG) (l : Launch) (M : Mem) (c0 : Int) (a1 : Int) (a2 : Int) (hI_M : Inv true M) (hk_c0 : kd c0 = 64) (hpre : -2147483648 ≤ a1 ∧ a1 ≤ 2147483647 ∧ -2147483648 ≤ a2 ∧ a2 ≤ 2147483647 ∧ 0 ≤ a2) : KC true G l yX12_begins cX12_begins 4 (some .boolean) (2, 42) [vR G c0, vI a1, vI a2] M (fun A => kQi true G A (fun (r : Int) (N : Mem) => Inv true N ∧ Fr f_c_X12_begins M N ∧ (0 ≤ r ∧ r ≤ 1))) := by
  refine kx_met (lo := [some (vR G c0), some (vI a1), some (vI a2), none]) (by decide) (Nat.le_of_ble_eq_true rfl) rfl ?_
  intro X F hQ
  have hF_M : Fr f_c_X12_begins M M := Fr.rf _ _
  refine kx_iload_n 1 F 1 dX12_begins_0 rfl rfl rfl ?_
  refine kx_if_lt 4 F 17 dX12_begins_1 (by decide) rfl (by omega) (fun h_1 => ?_) (fun h_1 => ?_)
  · refine kx_iconst 18 F dX12_begins_17 rfl ?_
    exact kx_zret F hQ (by omega) ⟨hI_M, hF_M, (by omega)⟩ dX12_begins_18
  · refine kx_iload_n 5 F 1 dX12_begins_4 rfl rfl rfl ?_
    refine kx_aload_n 6 F 0 dX12_begins_5 rfl rfl rfl ?_
    refine kx_geti 9 F fl_X12_147 hk_c0 rfl rfl (j := 10) rfl dX12_begins_6 (v := (M c0 10)) rfl rfl ?_
    have h_2 := Inv.g hI_M hk_c0 rfl 10 (a := 0) (b := 900) rfl rfl
    refine kx_icmp_gt 12 F 17 dX12_begins_9 (by decide) rfl (by omega) (by omega) (fun h_3 => ?_) (fun h_3 => ?_)
    · refine kx_iconst 18 F dX12_begins_17 rfl ?_
      exact kx_zret F hQ (by omega) ⟨hI_M, hF_M, (by omega)⟩ dX12_begins_18
    · refine kx_iload_n 13 F 1 dX12_begins_12 rfl rfl rfl ?_
      refine kx_iload_n 14 F 2 dX12_begins_13 rfl rfl rfl ?_
      refine kx_icmp_le 17 F 19 dX12_begins_14 (by decide) rfl (by omega) (by omega) (fun h_4 => ?_) (fun h_4 => ?_)
      · refine kx_aload_n 20 F 0 dX12_begins_19 rfl rfl rfl ?_
        refine kx_iload_n 21 F 1 dX12_begins_20 rfl rfl rfl ?_
        refine kx_puti 24 F fw_X12_153 rfl hk_c0 rfl rfl (j := 11) rfl dX12_begins_21 rfl ?_
        intro N_5 hM_N_5
        have hI_N_5 : Inv true N_5 := Inv.u hI_M hM_N_5 hk_c0 (a := 0) (b := 900) rfl rfl rfl (by omega)
        have hF_N_5 : Fr f_c_X12_begins M N_5 := Fr.u hF_M hM_N_5 hk_c0 rfl
        refine kx_iconst 25 F dX12_begins_24 rfl ?_
        refine kx_istore_n 26 F 3 (lo' := [some (vR G c0), some (vI a1), some (vI a2), some (vI 0)]) dX12_begins_25 rfl (by decide) rfl rfl rfl ?_
        have L_148 : ∀ (n_149 : Nat) (x3_146 : Int) (N_147 : Mem), Inv true N_147 → Fr f_c_X12_begins M N_147 → 0 ≤ x3_146 ∧ x3_146 ≤ 900 → (900 - (x3_146)).toNat = n_149 → KJ true G X N_147 26 [some (vR G c0), some (vI a1), none, some (vI x3_146)] [] := by
          intro n_149
          refine Nat.strongRecOn n_149 ?_
          intro n_149 ih_150 x3_146 N_147 hI_N_147 hF_N_147 h_151 hm_152
          refine kx_iload_n 27 F 3 dX12_begins_26 rfl rfl rfl ?_
          refine kx_iload_n 28 F 1 dX12_begins_27 rfl rfl rfl ?_
          refine kx_icmp_ge 31 F 49 dX12_begins_28 (by decide) rfl (by omega) (by omega) (fun h_153 => ?_) (fun h_153 => ?_)
          · refine kx_aload_n 50 F 0 dX12_begins_49 rfl rfl rfl ?_
            refine kx_iconst 51 F dX12_begins_50 rfl ?_
            refine kx_puti 54 F fw_X12_147 rfl hk_c0 rfl rfl (j := 10) rfl dX12_begins_51 rfl ?_
            intro N_154 hM_N_154
            have hI_N_154 : Inv true N_154 := Inv.u hI_N_147 hM_N_154 hk_c0 (a := 0) (b := 900) rfl rfl rfl (by omega)
            have hF_N_154 : Fr f_c_X12_begins M N_154 := Fr.u hF_N_147 hM_N_154 hk_c0 rfl
            refine kx_aload_n 55 F 0 dX12_begins_54 rfl rfl rfl ?_
            refine kx_iconst 56 F dX12_begins_55 rfl ?_
            refine kx_puti 59 F fw_X12_193 rfl hk_c0 rfl rfl (j := 18) rfl dX12_begins_56 rfl ?_
            intro N_155 hM_N_155
            have hI_N_155 : Inv true N_155 := Inv.u hI_N_154 hM_N_155 hk_c0 (a := (-2147483648)) (b := 2147483647) rfl rfl rfl (by omega)
            have hF_N_155 : Fr f_c_X12_begins M N_155 := Fr.u hF_N_154 hM_N_155 hk_c0 rfl
            refine kx_aload_n 60 F 0 dX12_begins_59 rfl rfl rfl ?_
            refine kx_iconst 61 F dX12_begins_60 rfl ?_
            refine kx_puti 64 F fw_X12_41 rfl hk_c0 rfl rfl (j := 17) rfl dX12_begins_61 rfl ?_
            intro N_156 hM_N_156
            have hI_N_156 : Inv true N_156 := Inv.u hI_N_155 hM_N_156 hk_c0 (a := (-2147483648)) (b := 2147483647) rfl rfl rfl (by omega)
            have hF_N_156 : Fr f_c_X12_begins M N_156 := Fr.u hF_N_155 hM_N_156 hk_c0 rfl
            refine kx_aload_n 65 F 0 dX12_begins_64 rfl rfl rfl ?_
            refine kx_iconst 66 F dX12_begins_65 rfl ?_
            refine kx_puti 69 F fw_X12_156 rfl hk_c0 rfl rfl (j := 14) rfl dX12_begins_66 rfl ?_
            intro N_157 hM_N_157
            have hI_N_157 : Inv true N_157 := Inv.u hI_N_156 hM_N_157 hk_c0 (a := 0) (b := 900) rfl rfl rfl (by omega)
            have hF_N_157 : Fr f_c_X12_begins M N_157 := Fr.u hF_N_156 hM_N_157 hk_c0 rfl
            refine kx_aload_n 70 F 0 dX12_begins_69 rfl rfl rfl ?_
            refine kx_iconst 71 F dX12_begins_70 rfl ?_
            refine kx_puti 74 F fw_X12_196 rfl hk_c0 rfl rfl (j := 19) rfl dX12_begins_71 rfl ?_
            intro N_158 hM_N_158
            have hI_N_158 : Inv true N_158 := Inv.u hI_N_157 hM_N_158 hk_c0 (a := (-2147483648)) (b := 2147483647) rfl rfl rfl (by omega)
            have hF_N_158 : Fr f_c_X12_begins M N_158 := Fr.u hF_N_157 hM_N_158 hk_c0 rfl
            refine kx_aload_n 75 F 0 dX12_begins_74 rfl rfl rfl ?_
            refine kx_Vv 78 (ci := 0) F (As := []) (st := []) vd_X12_199 (c_X12_ahead G l N_158 c0 hI_N_158 hk_c0) hk_c0 rfl rfl rfl ⟨by decide, by decide⟩ rfl rfl (Nat.le_of_ble_eq_true rfl) dX12_begins_75 rfl ?_
            intro N_159 q_160
            obtain ⟨hI_N_159, hG_N_159, q_160c⟩ := q_160
            have hF_N_159 : Fr f_c_X12_begins M N_159 := Fr.c hF_N_158 hG_N_159 rfl
            have h_161 := Inv.g hI_N_159 hk_c0 rfl 12 (a := 0) (b := 4) rfl rfl
            have e_162 : (N_158 c0 14) = 0 := by rw [hM_N_158, mu_i (by omega), hM_N_157, mu_s]
            have h_163 := Inv.g hI_N_159 hk_c0 rfl 14 (a := 0) (b := 900) rfl rfl
            have h_164 := Inv.g hI_N_159 hk_c0 rfl 12 (a := 0) (b := 4) rfl rfl
            have e_165 : (N_158 c0 14) = 0 := by rw [hM_N_158, mu_i (by omega), hM_N_157, mu_s]
            have h_166 := Inv.g hI_N_159 hk_c0 rfl 14 (a := 0) (b := 900) rfl rfl
            rcases q_160c with q_160c | q_160c
            · refine kx_iconst 79 F dX12_begins_78 rfl ?_
              exact kx_zret F hQ (by omega) ⟨hI_N_159, hF_N_159, (by omega)⟩ dX12_begins_79
            · refine kx_iconst 79 F dX12_begins_78 rfl ?_
              exact kx_zret F hQ (by omega) ⟨hI_N_159, hF_N_159, (by omega)⟩ dX12_begins_79
          · refine kx_aload_n 32 F 0 dX12_begins_31 rfl rfl rfl ?_
            refine kx_getr 35 F fl_X12_34 hk_c0 rfl rfl (j := 9) rfl dX12_begins_32 (v := (M c0 9)) (by rw [Fr.e hF_N_147 hk_c0 _ rfl]) rfl ?_
            have hk_167 : kd (M c0 9) = 71 := Inv.r hI_M hk_c0 rfl 9 rfl rfl
            refine kx_iload_n 36 F 3 dX12_begins_35 rfl rfl rfl ?_
            refine kx_aload_n 37 F 0 dX12_begins_36 rfl rfl rfl ?_
            refine kx_getr 40 F fl_X12_30 hk_c0 rfl rfl (j := 8) rfl dX12_begins_37 (v := (M c0 8)) (by rw [Fr.e hF_N_147 hk_c0 _ rfl]) rfl ?_
            have hk_168 : kd (M c0 8) = 70 := Inv.r hI_M hk_c0 rfl 8 rfl rfl
            refine kx_iload_n 41 F 3 dX12_begins_40 rfl rfl rfl ?_
            refine kx_bald 42 F hk_168 rfl rfl (by omega) (by decide) dX12_begins_41 (v := (M (M c0 8) x3_146)) (by rw [Fr.e hF_N_147 hk_168 _ rfl]) rfl ?_
            have h_169 := Inv.g hI_M hk_168 rfl x3_146 (a := (-128)) (b := 127) rfl rfl
            refine kx_bast 43 F (by omega) hk_167 rfl rfl (by omega) (by decide) dX12_begins_42 rfl ?_
            intro N_170 hM_N_170
            have hI_N_170 : Inv true N_170 := Inv.u hI_N_147 hM_N_170 hk_167 (a := (-128)) (b := 127) rfl rfl rfl (by omega)
            have hF_N_170 : Fr f_c_X12_begins M N_170 := Fr.u hF_N_147 hM_N_170 hk_167 rfl
            refine kx_iinc 46 F 3 (v := x3_146 + 1) (lo' := [some (vR G c0), some (vI a1), none, some (vI (x3_146 + 1))]) dX12_begins_43 rfl (by omega) (by decide) rfl rfl rfl ?_
            refine kx_goto 26 F dX12_begins_46 (by decide) ?_
            exact ih_150 _ (by omega) (x3_146 + 1) N_170 hI_N_170 hF_N_170 (by omega) rfl
        refine kx_drop 2 (lo' := [some (vR G c0), some (vI a1), none, some (vI 0)]) rfl ?_
        exact L_148 _ 0 N_5 hI_N_5 hF_N_5 (by omega) rfl
      · refine kx_iconst 18 F dX12_begins_17 rfl ?_
        exact kx_zret F hQ (by omega) ⟨hI_M, hF_M, (by omega)⟩ dX12_begins_18
theorem dX12_nameHere_0 : decode cX12_nameHere 0 = .ok (.lconst 0, 1) := by decide +kernel
theorem dX12_nameHere_1 : decode cX12_nameHere 1 = .ok (.lstore_n 1, 1) := by decide +kernel
theorem dX12_nameHere_2 : decode cX12_nameHere 2 = .ok (.aload_n 0, 1) := by decide +kernel
theorem dX12_nameHere_3 : decode cX12_nameHere 3 = .ok (.getfield 162, 3) := by decide +kernel
theorem dX12_nameHere_6 : decode cX12_nameHere 6 = .ok (.istore_n 3, 1) := by decide +kernel
theorem dX12_nameHere_7 : decode cX12_nameHere 7 = .ok (.iload_n 3, 1) := by decide +kernel
theorem dX12_nameHere_8 : decode cX12_nameHere 8 = .ok (.aload_n 0, 1) := by decide +kernel
theorem dX12_nameHere_9 : decode cX12_nameHere 9 = .ok (.getfield 156, 3) := by decide +kernel
theorem dX12_nameHere_12 : decode cX12_nameHere 12 = .ok (.if_icmp .ge 21, 3) := by decide +kernel
theorem dX12_nameHere_15 : decode cX12_nameHere 15 = .ok (.lload_n 1, 1) := by decide +kernel
theorem dX12_nameHere_16 : decode cX12_nameHere 16 = .ok (.bipush 8, 2) := by decide +kernel
theorem dX12_nameHere_18 : decode cX12_nameHere 18 = .ok (.lshl, 1) := by decide +kernel
theorem dX12_nameHere_19 : decode cX12_nameHere 19 = .ok (.aload_n 0, 1) := by decide +kernel
theorem dX12_nameHere_20 : decode cX12_nameHere 20 = .ok (.iload_n 3, 1) := by decide +kernel
theorem dX12_nameHere_21 : decode cX12_nameHere 21 = .ok (.invokevirtual 159, 3) := by decide +kernel
theorem dX12_nameHere_24 : decode cX12_nameHere 24 = .ok (.i2l, 1) := by decide +kernel
theorem dX12_nameHere_25 : decode cX12_nameHere 25 = .ok (.lor, 1) := by decide +kernel
theorem dX12_nameHere_26 : decode cX12_nameHere 26 = .ok (.lstore_n 1, 1) := by decide +kernel
theorem dX12_nameHere_27 : decode cX12_nameHere 27 = .ok (.iinc 3 1, 3) := by decide +kernel
theorem dX12_nameHere_30 : decode cX12_nameHere 30 = .ok (.goto (-23), 3) := by decide +kernel
theorem dX12_nameHere_33 : decode cX12_nameHere 33 = .ok (.lload_n 1, 1) := by decide +kernel
theorem dX12_nameHere_34 : decode cX12_nameHere 34 = .ok (.lreturn, 1) := by decide +kernel
set_option maxHeartbeats 4000000 in
set_option maxRecDepth 100000 in
theorem c_X12_nameHere (G : KG) (l : Launch) (M : Mem) (c0 : Int) (hI_M : Inv true M) (hk_c0 : kd c0 = 64) : KC true G l yX12_nameHere cX12_nameHere 4 (some .long) (1, 21) [vR G c0] M (fun A => kQl true G A (fun (r : Int) (N : Mem) => M = N ∧ (r ≥ -9223372036854775808 ∧ r ≤ 9223372036854775807))) := by
  refine kx_met (lo := [some (vR G c0), none, none, none]) (by decide) (Nat.le_of_ble_eq_true rfl) rfl ?_
  intro X F hQ
  refine kx_lconst 1 (z := 0) F dX12_nameHere_0 (by decide) rfl ?_
  refine kx_lstore_n 2 F 1 (lo' := [some (vR G c0), some (vL 0), none, none]) dX12_nameHere_1 rfl (by decide) rfl rfl rfl ?_
  refine kx_aload_n 3 F 0 dX12_nameHere_2 rfl rfl rfl ?_
  refine kx_geti 6 F fl_X12_162 hk_c0 rfl rfl (j := 13) rfl dX12_nameHere_3 (v := (M c0 13)) rfl rfl ?_
  have h_1 := Inv.g hI_M hk_c0 rfl 13 (a := 0) (b := 900) rfl rfl
  refine kx_istore_n 7 F 3 (lo' := [some (vR G c0), some (vL 0), none, some (vI (M c0 13))]) dX12_nameHere_6 rfl (by decide) rfl rfl rfl ?_
  have L_34 : ∀ (n_35 : Nat) (x1_32 : Int) (x3_33 : Int), (-9223372036854775808) ≤ x1_32 ∧ x1_32 ≤ 9223372036854775807 ∧ 0 ≤ x3_33 ∧ x3_33 ≤ 900 ∧ (M c0 13) ≤ x3_33 → (900 - (x3_33)).toNat = n_35 → KJ true G X M 7 [some (vR G c0), some (vL x1_32), none, some (vI x3_33)] [] := by
    intro n_35
    refine Nat.strongRecOn n_35 ?_
    intro n_35 ih_36 x1_32 x3_33 h_37 hm_38
    refine kx_iload_n 8 F 3 dX12_nameHere_7 rfl rfl rfl ?_
    refine kx_aload_n 9 F 0 dX12_nameHere_8 rfl rfl rfl ?_
    refine kx_geti 12 F fl_X12_156 hk_c0 rfl rfl (j := 14) rfl dX12_nameHere_9 (v := (M c0 14)) rfl rfl ?_
    have h_39 := Inv.g hI_M hk_c0 rfl 14 (a := 0) (b := 900) rfl rfl
    refine kx_icmp_ge 15 F 33 dX12_nameHere_12 (by decide) rfl (by omega) (by omega) (fun h_40 => ?_) (fun h_40 => ?_)
    · refine kx_lload_n 34 F 1 dX12_nameHere_33 rfl rfl rfl ?_
      exact kx_lret F hQ ⟨rfl, (by omega)⟩ dX12_nameHere_34
    · refine kx_lload_n 16 F 1 dX12_nameHere_15 rfl rfl rfl ?_
      refine kx_bipush 18 F dX12_nameHere_16 (by decide) rfl ?_
      refine kx_lshl 19 F dX12_nameHere_18 rfl (fun w_41 h_42 => ?_)
      refine kx_aload_n 20 F 0 dX12_nameHere_19 rfl rfl rfl ?_
      refine kx_iload_n 21 F 3 dX12_nameHere_20 rfl rfl rfl ?_
      refine kx_Vi 24 (ci := 0) F (As := [vI x3_33]) (st := [vL w_41]) vd_X12_159 (c_X12_byteAt G l M c0 x3_33 hI_M hk_c0 (by omega)) hk_c0 rfl rfl rfl ⟨by decide, by decide⟩ rfl rfl (Nat.le_of_ble_eq_true rfl) dX12_nameHere_21 rfl ?_
      intro r_43 N_44 q_45
      obtain ⟨rfl, q_45c⟩ := q_45
      have h_46 := Inv.g hI_M hk_c0 rfl 11 (a := 0) (b := 900) rfl rfl
      have h_47 := Inv.g hI_M hk_c0 rfl 11 (a := 0) (b := 900) rfl rfl
      rcases q_45c with q_45c | q_45c
      · refine kx_i2l 25 F dX12_nameHere_24 (by omega) rfl ?_
        refine kx_lor 26 F dX12_nameHere_25 rfl (fun w_48 h_49 => ?_)
        refine kx_lstore_n 27 F 1 (lo' := [some (vR G c0), some (vL w_48), none, some (vI x3_33)]) dX12_nameHere_26 rfl (by decide) rfl rfl rfl ?_
        refine kx_iinc 30 F 3 (v := x3_33 + 1) (lo' := [some (vR G c0), some (vL w_48), none, some (vI (x3_33 + 1))]) dX12_nameHere_27 rfl (by omega) (by decide) rfl rfl rfl ?_
        refine kx_goto 7 F dX12_nameHere_30 (by decide) ?_
        exact ih_36 _ (by omega) w_48 (x3_33 + 1) (by omega) rfl
      · refine kx_i2l 25 F dX12_nameHere_24 (by omega) rfl ?_
        refine kx_lor 26 F dX12_nameHere_25 rfl (fun w_50 h_51 => ?_)
        refine kx_lstore_n 27 F 1 (lo' := [some (vR G c0), some (vL w_50), none, some (vI x3_33)]) dX12_nameHere_26 rfl (by decide) rfl rfl rfl ?_
        refine kx_iinc 30 F 3 (v := x3_33 + 1) (lo' := [some (vR G c0), some (vL w_50), none, some (vI (x3_33 + 1))]) dX12_nameHere_27 rfl (by omega) (by decide) rfl rfl rfl ?_
        refine kx_goto 7 F dX12_nameHere_30 (by decide) ?_
        exact ih_36 _ (by omega) w_50 (x3_33 + 1) (by omega) rfl
  exact L_34 _ 0 (M c0 13) (by omega) rfl
theorem dX12_findHere_0 : decode cX12_findHere 0 = .ok (.iconst 0, 1) := by decide +kernel
theorem dX12_findHere_1 : decode cX12_findHere 1 = .ok (.istore_n 3, 1) := by decide +kernel
theorem dX12_findHere_2 : decode cX12_findHere 2 = .ok (.iload_n 3, 1) := by decide +kernel
theorem dX12_findHere_3 : decode cX12_findHere 3 = .ok (.iload_n 2, 1) := by decide +kernel
theorem dX12_findHere_4 : decode cX12_findHere 4 = .ok (.if_icmp .ge 27, 3) := by decide +kernel
theorem dX12_findHere_7 : decode cX12_findHere 7 = .ok (.aload_n 0, 1) := by decide +kernel
theorem dX12_findHere_8 : decode cX12_findHere 8 = .ok (.getfield 13, 3) := by decide +kernel
theorem dX12_findHere_11 : decode cX12_findHere 11 = .ok (.iload_n 1, 1) := by decide +kernel
theorem dX12_findHere_12 : decode cX12_findHere 12 = .ok (.iload_n 3, 1) := by decide +kernel
theorem dX12_findHere_13 : decode cX12_findHere 13 = .ok (.iadd, 1) := by decide +kernel
theorem dX12_findHere_14 : decode cX12_findHere 14 = .ok (.laload, 1) := by decide +kernel
theorem dX12_findHere_15 : decode cX12_findHere 15 = .ok (.aload_n 0, 1) := by decide +kernel
theorem dX12_findHere_16 : decode cX12_findHere 16 = .ok (.invokevirtual 212, 3) := by decide +kernel
theorem dX12_findHere_19 : decode cX12_findHere 19 = .ok (.lcmp, 1) := by decide +kernel
theorem dX12_findHere_20 : decode cX12_findHere 20 = .ok (.ifCond .ne 5, 3) := by decide +kernel
theorem dX12_findHere_23 : decode cX12_findHere 23 = .ok (.iload_n 3, 1) := by decide +kernel
theorem dX12_findHere_24 : decode cX12_findHere 24 = .ok (.ireturn, 1) := by decide +kernel
theorem dX12_findHere_25 : decode cX12_findHere 25 = .ok (.iinc 3 1, 3) := by decide +kernel
theorem dX12_findHere_28 : decode cX12_findHere 28 = .ok (.goto (-26), 3) := by decide +kernel
theorem dX12_findHere_31 : decode cX12_findHere 31 = .ok (.iconst (-1), 1) := by decide +kernel
theorem dX12_findHere_32 : decode cX12_findHere 32 = .ok (.ireturn, 1) := by decide +kernel
set_option maxHeartbeats 4000000 in
set_option maxRecDepth 100000 in
theorem c_X12_findHere (G : KG) (l : Launch) (M : Mem) (c0 : Int) (a1 : Int) (a2 : Int) (hI_M : Inv true M) (hk_c0 : kd c0 = 64) (hpre : -2147483648 ≤ a1 ∧ a1 ≤ 2147483647 ∧ -2147483648 ≤ a2 ∧ a2 ≤ 2147483647 ∧ 0 ≤ a1 ∧ 0 ≤ a2 ∧ a1 + a2 ≤ 36) : KC true G l yX12_findHere cX12_findHere 4 (some .int) (2, 44) [vR G c0, vI a1, vI a2] M (fun A => kQi true G A (fun (r : Int) (N : Mem) => M = N ∧ ((r = -1) ∨ (r ≥ 0 ∧ r < a2)))) := by
  refine kx_met (lo := [some (vR G c0), some (vI a1), some (vI a2), none]) (by decide) (Nat.le_of_ble_eq_true rfl) rfl ?_
  intro X F hQ
  refine kx_iconst 1 F dX12_findHere_0 rfl ?_
  refine kx_istore_n 2 F 3 (lo' := [some (vR G c0), some (vI a1), some (vI a2), some (vI 0)]) dX12_findHere_1 rfl (by decide) rfl rfl rfl ?_
  have L_72 : ∀ (n_73 : Nat) (x3_71 : Int), 0 ≤ x3_71 ∧ x3_71 ≤ 36 → (36 - (x3_71)).toNat = n_73 → KJ true G X M 2 [some (vR G c0), some (vI a1), some (vI a2), some (vI x3_71)] [] := by
    intro n_73
    refine Nat.strongRecOn n_73 ?_
    intro n_73 ih_74 x3_71 h_75 hm_76
    refine kx_iload_n 3 F 3 dX12_findHere_2 rfl rfl rfl ?_
    refine kx_iload_n 4 F 2 dX12_findHere_3 rfl rfl rfl ?_
    refine kx_icmp_ge 7 F 31 dX12_findHere_4 (by decide) rfl (by omega) (by omega) (fun h_77 => ?_) (fun h_77 => ?_)
    · refine kx_iconst 32 F dX12_findHere_31 rfl ?_
      exact kx_iret F hQ ⟨rfl, (by omega)⟩ dX12_findHere_32
    · refine kx_aload_n 8 F 0 dX12_findHere_7 rfl rfl rfl ?_
      refine kx_getr 11 F fl_X12_13 hk_c0 rfl rfl (j := 1) rfl dX12_findHere_8 (v := (M c0 1)) rfl rfl ?_
      have hk_78 : kd (M c0 1) = 66 := Inv.r hI_M hk_c0 rfl 1 rfl rfl
      refine kx_iload_n 12 F 1 dX12_findHere_11 rfl rfl rfl ?_
      refine kx_iload_n 13 F 3 dX12_findHere_12 rfl rfl rfl ?_
      refine kx_iadd 14 F (v := a1 + x3_71) dX12_findHere_13 rfl rfl ?_
      refine kx_lald 15 F hk_78 rfl rfl (by omega) (by decide) dX12_findHere_14 (v := (M (M c0 1) (a1 + x3_71))) rfl rfl ?_
      have h_79 := Inv.g hI_M hk_78 rfl (a1 + x3_71) (a := (-9223372036854775808)) (b := 9223372036854775807) rfl rfl
      refine kx_aload_n 16 F 0 dX12_findHere_15 rfl rfl rfl ?_
      refine kx_Vl 19 (ci := 0) F (As := []) (st := [vL (M (M c0 1) (a1 + x3_71))]) vd_X12_212 (c_X12_nameHere G l M c0 hI_M hk_c0) hk_c0 rfl rfl rfl ⟨by decide, by decide⟩ rfl rfl (Nat.le_of_ble_eq_true rfl) dX12_findHere_16 rfl ?_
      intro r_80 N_81 q_82
      obtain ⟨rfl, q_82c⟩ := q_82
      refine kx_lcmp 20 F dX12_findHere_19 (by omega) (by omega) rfl (fun w_83 h_84 => ?_)
      refine kx_if_ne 23 F 25 dX12_findHere_20 (by decide) rfl (by omega) (fun h_85 => ?_) (fun h_85 => ?_)
      · refine kx_iinc 28 F 3 (v := x3_71 + 1) (lo' := [some (vR G c0), some (vI a1), some (vI a2), some (vI (x3_71 + 1))]) dX12_findHere_25 rfl (by omega) (by decide) rfl rfl rfl ?_
        refine kx_goto 2 F dX12_findHere_28 (by decide) ?_
        exact ih_74 _ (by omega) (x3_71 + 1) (by omega) rfl
      · refine kx_iload_n 24 F 3 dX12_findHere_23 rfl rfl rfl ?_
        exact kx_iret F hQ ⟨rfl, (by omega)⟩ dX12_findHere_24
  exact L_72 _ 0 (by omega) rfl
theorem dX12_taken_0 : decode cX12_taken 0 = .ok (.aload_n 0, 1) := by decide +kernel
theorem dX12_taken_1 : decode cX12_taken 1 = .ok (.aload_n 0, 1) := by decide +kernel
theorem dX12_taken_2 : decode cX12_taken 2 = .ok (.getfield 193, 3) := by decide +kernel
theorem dX12_taken_5 : decode cX12_taken 5 = .ok (.putfield 37, 3) := by decide +kernel
theorem dX12_taken_8 : decode cX12_taken 8 = .ok (.aload_n 0, 1) := by decide +kernel
theorem dX12_taken_9 : decode cX12_taken 9 = .ok (.getfield 193, 3) := by decide +kernel
theorem dX12_taken_12 : decode cX12_taken 12 = .ok (.ifCond .le 12, 3) := by decide +kernel
theorem dX12_taken_15 : decode cX12_taken 15 = .ok (.aload_n 0, 1) := by decide +kernel
theorem dX12_taken_16 : decode cX12_taken 16 = .ok (.bipush 9, 2) := by decide +kernel
theorem dX12_taken_18 : decode cX12_taken 18 = .ok (.invokevirtual 123, 3) := by decide +kernel
theorem dX12_taken_21 : decode cX12_taken 21 = .ok (.goto 8, 3) := by decide +kernel
theorem dX12_taken_24 : decode cX12_taken 24 = .ok (.aload_n 0, 1) := by decide +kernel
theorem dX12_taken_25 : decode cX12_taken 25 = .ok (.iload_n 1, 1) := by decide +kernel
theorem dX12_taken_26 : decode cX12_taken 26 = .ok (.invokevirtual 127, 3) := by decide +kernel
theorem dX12_taken_29 : decode cX12_taken 29 = .ok (.ireturn, 1) := by decide +kernel
abbrev f_c_X12_taken : List (Nat × Int) := [(64, 2), (64, 16)]
set_option maxHeartbeats 4000000 in
set_option maxRecDepth 100000 in
theorem c_X12_taken (G : KG) (l : Launch) (M : Mem) (c0 : Int) (a1 : Int) (hI_M : Inv true M) (hk_c0 : kd c0 = 64) (hpre : -2147483648 ≤ a1 ∧ a1 ≤ 2147483647) : KC true G l yX12_taken cX12_taken 2 (some .int) (1, 21) [vR G c0, vI a1] M (fun A => kQi true G A (fun (r : Int) (N : Mem) => Inv true N ∧ Fr f_c_X12_taken M N ∧ (r ≥ -2147483648 ∧ r ≤ 2147483647))) := by
  refine kx_met (lo := [some (vR G c0), some (vI a1)]) (by decide) (Nat.le_of_ble_eq_true rfl) rfl ?_
  intro X F hQ
  have hF_M : Fr f_c_X12_taken M M := Fr.rf _ _
  refine kx_aload_n 1 F 0 dX12_taken_0 rfl rfl rfl ?_
  refine kx_aload_n 2 F 0 dX12_taken_1 rfl rfl rfl ?_
  refine kx_geti 5 F fl_X12_193 hk_c0 rfl rfl (j := 18) rfl dX12_taken_2 (v := (M c0 18)) rfl rfl ?_
  have h_1 := Inv.g hI_M hk_c0 rfl 18 (a := (-2147483648)) (b := 2147483647) rfl rfl
  refine kx_puti 8 F fw_X12_37 rfl hk_c0 rfl rfl (j := 16) rfl dX12_taken_5 rfl ?_
  intro N_2 hM_N_2
  have hI_N_2 : Inv true N_2 := Inv.u hI_M hM_N_2 hk_c0 (a := (-2147483648)) (b := 2147483647) rfl rfl rfl (by omega)
  have hF_N_2 : Fr f_c_X12_taken M N_2 := Fr.u hF_M hM_N_2 hk_c0 rfl
  refine kx_aload_n 9 F 0 dX12_taken_8 rfl rfl rfl ?_
  refine kx_geti 12 F fl_X12_193 hk_c0 rfl rfl (j := 18) rfl dX12_taken_9 (v := (M c0 18)) (by rw [hM_N_2, mu_i (by omega)]) rfl ?_
  refine kx_if_le 15 F 24 dX12_taken_12 (by decide) rfl (by omega) (fun h_3 => ?_) (fun h_3 => ?_)
  · refine kx_aload_n 25 F 0 dX12_taken_24 rfl rfl rfl ?_
    refine kx_iload_n 26 F 1 dX12_taken_25 rfl rfl rfl ?_
    refine kx_Vi 29 (ci := 0) F (As := [vI a1]) (st := []) vd_X12_127 (c_X12_gives G l N_2 c0 a1 hI_N_2 hk_c0 (by omega)) hk_c0 rfl rfl rfl ⟨by decide, by decide⟩ rfl rfl (Nat.le_of_ble_eq_true rfl) dX12_taken_26 rfl ?_
    intro r_4 N_5 q_6
    obtain ⟨hI_N_5, hG_N_5, q_6c⟩ := q_6
    have hF_N_5 : Fr f_c_X12_taken M N_5 := Fr.c hF_N_2 hG_N_5 rfl
    refine kx_topi (e' := a1) (by omega) ?_
    exact kx_iret F hQ ⟨hI_N_5, hF_N_5, (by omega)⟩ dX12_taken_29
  · refine kx_aload_n 16 F 0 dX12_taken_15 rfl rfl rfl ?_
    refine kx_bipush 18 F dX12_taken_16 (by decide) rfl ?_
    refine kx_Vi 21 (ci := 0) F (As := [vI 9]) (st := []) vd_X12_123 (c_X12_refuse G l N_2 c0 9 hI_N_2 hk_c0 (by omega)) hk_c0 rfl rfl rfl ⟨by decide, by decide⟩ rfl rfl (Nat.le_of_ble_eq_true rfl) dX12_taken_18 rfl ?_
    intro r_7 N_8 q_9
    obtain ⟨hI_N_8, hG_N_8, q_9c⟩ := q_9
    have hF_N_8 : Fr f_c_X12_taken M N_8 := Fr.c hF_N_2 hG_N_8 rfl
    subst q_9c
    refine kx_goto 29 F dX12_taken_21 (by decide) ?_
    exact kx_iret F hQ ⟨hI_N_8, hF_N_8, (by omega)⟩ dX12_taken_29
theorem dX12_wantSign_0 : decode cX12_wantSign 0 = .ok (.aload_n 0, 1) := by decide +kernel
theorem dX12_wantSign_1 : decode cX12_wantSign 1 = .ok (.iload_n 1, 1) := by decide +kernel
theorem dX12_wantSign_2 : decode cX12_wantSign 2 = .ok (.invokevirtual 202, 3) := by decide +kernel
theorem dX12_wantSign_5 : decode cX12_wantSign 5 = .ok (.ifCond .ne 9, 3) := by decide +kernel
theorem dX12_wantSign_8 : decode cX12_wantSign 8 = .ok (.aload_n 0, 1) := by decide +kernel
theorem dX12_wantSign_9 : decode cX12_wantSign 9 = .ok (.iconst 2, 1) := by decide +kernel
theorem dX12_wantSign_10 : decode cX12_wantSign 10 = .ok (.invokevirtual 205, 3) := by decide +kernel
theorem dX12_wantSign_13 : decode cX12_wantSign 13 = .ok (.ireturn, 1) := by decide +kernel
theorem dX12_wantSign_14 : decode cX12_wantSign 14 = .ok (.aload_n 0, 1) := by decide +kernel
theorem dX12_wantSign_15 : decode cX12_wantSign 15 = .ok (.invokevirtual 199, 3) := by decide +kernel
theorem dX12_wantSign_18 : decode cX12_wantSign 18 = .ok (.iconst 1, 1) := by decide +kernel
theorem dX12_wantSign_19 : decode cX12_wantSign 19 = .ok (.ireturn, 1) := by decide +kernel
abbrev f_c_X12_wantSign : List (Nat × Int) := [(64, 12), (64, 13), (64, 14), (64, 15), (64, 17), (64, 18)]
set_option maxHeartbeats 4000000 in
set_option maxRecDepth 100000 in
theorem c_X12_wantSign (G : KG) (l : Launch) (M : Mem) (c0 : Int) (a1 : Int) (hI_M : Inv true M) (hk_c0 : kd c0 = 64) (hpre : -2147483648 ≤ a1 ∧ a1 ≤ 2147483647) : KC true G l yX12_wantSign cX12_wantSign 2 (some .boolean) (2, 42) [vR G c0, vI a1] M (fun A => kQi true G A (fun (r : Int) (N : Mem) => Inv true N ∧ Fr f_c_X12_wantSign M N ∧ ((r = 1 ∧ 5 * (N c0 14) - (N c0 12) ≥ 5 * (M c0 14) - (M c0 12) + 1) ∨ (r = 0 ∧ 5 * (N c0 14) - (N c0 12) ≥ 5 * (M c0 14) - (M c0 12))))) := by
  refine kx_met (lo := [some (vR G c0), some (vI a1)]) (by decide) (Nat.le_of_ble_eq_true rfl) rfl ?_
  intro X F hQ
  have hF_M : Fr f_c_X12_wantSign M M := Fr.rf _ _
  have h_1 := Inv.g hI_M hk_c0 rfl 14 (a := 0) (b := 900) rfl rfl
  have h_2 := Inv.g hI_M hk_c0 rfl 12 (a := 0) (b := 4) rfl rfl
  refine kx_aload_n 1 F 0 dX12_wantSign_0 rfl rfl rfl ?_
  refine kx_iload_n 2 F 1 dX12_wantSign_1 rfl rfl rfl ?_
  refine kx_Vi 5 (ci := 0) F (As := [vI a1]) (st := []) vd_X12_202 (c_X12_isSign G l M c0 a1 hI_M hk_c0 (by omega)) hk_c0 rfl rfl rfl ⟨by decide, by decide⟩ rfl rfl (Nat.le_of_ble_eq_true rfl) dX12_wantSign_2 rfl ?_
  intro r_3 N_4 q_5
  obtain ⟨rfl, q_5c⟩ := q_5
  rcases q_5c with q_5c | q_5c
  · refine kx_if_ne 8 F 14 dX12_wantSign_5 (by decide) rfl (by omega) (fun h_6 => ?_) (fun h_6 => (by exfalso; omega))
    refine kx_aload_n 15 F 0 dX12_wantSign_14 rfl rfl rfl ?_
    refine kx_Vv 18 (ci := 0) F (As := []) (st := []) vd_X12_199 (c_X12_ahead G l M c0 hI_M hk_c0) hk_c0 rfl rfl rfl ⟨by decide, by decide⟩ rfl rfl (Nat.le_of_ble_eq_true rfl) dX12_wantSign_15 rfl ?_
    intro N_7 q_8
    obtain ⟨hI_N_7, hG_N_7, q_8c⟩ := q_8
    have hF_N_7 : Fr f_c_X12_wantSign M N_7 := Fr.c hF_M hG_N_7 rfl
    have h_9 := Inv.g hI_N_7 hk_c0 rfl 12 (a := 0) (b := 4) rfl rfl
    have h_10 := Inv.g hI_N_7 hk_c0 rfl 14 (a := 0) (b := 900) rfl rfl
    have h_11 := Inv.g hI_N_7 hk_c0 rfl 12 (a := 0) (b := 4) rfl rfl
    have h_12 := Inv.g hI_N_7 hk_c0 rfl 14 (a := 0) (b := 900) rfl rfl
    rcases q_8c with q_8c | q_8c
    · refine kx_iconst 19 F dX12_wantSign_18 rfl ?_
      exact kx_zret F hQ (by omega) ⟨hI_N_7, hF_N_7, (by omega)⟩ dX12_wantSign_19
    · refine kx_iconst 19 F dX12_wantSign_18 rfl ?_
      exact kx_zret F hQ (by omega) ⟨hI_N_7, hF_N_7, (by omega)⟩ dX12_wantSign_19
  · refine kx_if_ne 8 F 14 dX12_wantSign_5 (by decide) rfl (by omega) (fun h_13 => (by exfalso; omega)) (fun h_13 => ?_)
    refine kx_aload_n 9 F 0 dX12_wantSign_8 rfl rfl rfl ?_
    refine kx_iconst 10 F dX12_wantSign_9 rfl ?_
    refine kx_Vi 13 (ci := 0) F (As := [vI 2]) (st := []) vd_X12_205 (c_X12_fails G l M c0 2 hI_M hk_c0 (by omega)) hk_c0 rfl rfl rfl ⟨by decide, by decide⟩ rfl rfl (Nat.le_of_ble_eq_true rfl) dX12_wantSign_10 rfl ?_
    intro r_14 N_15 q_16
    obtain ⟨hI_N_15, hG_N_15, q_16c⟩ := q_16
    have hF_N_15 : Fr f_c_X12_wantSign M N_15 := Fr.c hF_M hG_N_15 rfl
    subst q_16c
    have e_17 : (N_15 c0 14) = (M c0 14) := by rw [Fr.e hG_N_15 hk_c0 _ rfl]
    have e_18 : (N_15 c0 12) = (M c0 12) := by rw [Fr.e hG_N_15 hk_c0 _ rfl]
    have e_19 : (N_15 c0 14) = (M c0 14) := by rw [Fr.e hG_N_15 hk_c0 _ rfl]
    have e_20 : (N_15 c0 12) = (M c0 12) := by rw [Fr.e hG_N_15 hk_c0 _ rfl]
    exact kx_zret F hQ (by omega) ⟨hI_N_15, hF_N_15, (by omega)⟩ dX12_wantSign_13
theorem dX12_wantWord_0 : decode cX12_wantWord 0 = .ok (.aload_n 0, 1) := by decide +kernel
theorem dX12_wantWord_1 : decode cX12_wantWord 1 = .ok (.aload_n 1, 1) := by decide +kernel
theorem dX12_wantWord_2 : decode cX12_wantWord 2 = .ok (.invokevirtual 208, 3) := by decide +kernel
theorem dX12_wantWord_5 : decode cX12_wantWord 5 = .ok (.iload_n 2, 1) := by decide +kernel
theorem dX12_wantWord_6 : decode cX12_wantWord 6 = .ok (.if_icmp .eq 9, 3) := by decide +kernel
theorem dX12_wantWord_9 : decode cX12_wantWord 9 = .ok (.aload_n 0, 1) := by decide +kernel
theorem dX12_wantWord_10 : decode cX12_wantWord 10 = .ok (.iconst 2, 1) := by decide +kernel
theorem dX12_wantWord_11 : decode cX12_wantWord 11 = .ok (.invokevirtual 205, 3) := by decide +kernel
theorem dX12_wantWord_14 : decode cX12_wantWord 14 = .ok (.ireturn, 1) := by decide +kernel
theorem dX12_wantWord_15 : decode cX12_wantWord 15 = .ok (.aload_n 0, 1) := by decide +kernel
theorem dX12_wantWord_16 : decode cX12_wantWord 16 = .ok (.invokevirtual 199, 3) := by decide +kernel
theorem dX12_wantWord_19 : decode cX12_wantWord 19 = .ok (.iconst 1, 1) := by decide +kernel
theorem dX12_wantWord_20 : decode cX12_wantWord 20 = .ok (.ireturn, 1) := by decide +kernel
abbrev f_c_X12_wantWord : List (Nat × Int) := [(64, 12), (64, 13), (64, 14), (64, 15), (64, 17), (64, 18)]
set_option maxHeartbeats 4000000 in
set_option maxRecDepth 100000 in
theorem c_X12_wantWord (G : KG) (l : Launch) (M : Mem) (c0 : Int) (a2 : Int) (hI_M : Inv true M) (hk_c0 : kd c0 = 64) (hpre : -2147483648 ≤ a2 ∧ a2 ≤ 2147483647 ∧ a2 ≥ 0) : KC true G l yX12_wantWord cX12_wantWord 3 (some .boolean) (5, 111) [vR G c0, vT G 11, vI a2] M (fun A => kQi true G A (fun (r : Int) (N : Mem) => Inv true N ∧ Fr f_c_X12_wantWord M N ∧ ((r = 1 ∧ 5 * (N c0 14) - (N c0 12) ≥ 5 * (M c0 14) - (M c0 12) + 1) ∨ (r = 0 ∧ 5 * (N c0 14) - (N c0 12) ≥ 5 * (M c0 14) - (M c0 12))))) := by
  refine kx_met (lo := [some (vR G c0), some (vT G 11), some (vI a2)]) (by decide) (Nat.le_of_ble_eq_true rfl) rfl ?_
  intro X F hQ
  have hF_M : Fr f_c_X12_wantWord M M := Fr.rf _ _
  have h_1 := Inv.g hI_M hk_c0 rfl 14 (a := 0) (b := 900) rfl rfl
  have h_2 := Inv.g hI_M hk_c0 rfl 12 (a := 0) (b := 4) rfl rfl
  refine kx_aload_n 1 F 0 dX12_wantWord_0 rfl rfl rfl ?_
  refine kx_aload_n 2 F 1 dX12_wantWord_1 rfl rfl rfl ?_
  refine kx_Vi 5 (ci := 0) F (As := [vT G 11]) (st := []) vd_X12_208 (c_X12_inWords G l M c0 hI_M hk_c0) hk_c0 rfl rfl rfl ⟨by decide, by decide⟩ rfl rfl (Nat.le_of_ble_eq_true rfl) dX12_wantWord_2 rfl ?_
  intro r_3 N_4 q_5
  obtain ⟨rfl, q_5c⟩ := q_5
  rcases q_5c with q_5c | q_5c
  · refine kx_iload_n 6 F 2 dX12_wantWord_5 rfl rfl rfl ?_
    refine kx_icmp_eq 9 F 15 dX12_wantWord_6 (by decide) rfl (by omega) (by omega) (fun h_6 => (by exfalso; omega)) (fun h_6 => ?_)
    refine kx_aload_n 10 F 0 dX12_wantWord_9 rfl rfl rfl ?_
    refine kx_iconst 11 F dX12_wantWord_10 rfl ?_
    refine kx_Vi 14 (ci := 0) F (As := [vI 2]) (st := []) vd_X12_205 (c_X12_fails G l M c0 2 hI_M hk_c0 (by omega)) hk_c0 rfl rfl rfl ⟨by decide, by decide⟩ rfl rfl (Nat.le_of_ble_eq_true rfl) dX12_wantWord_11 rfl ?_
    intro r_7 N_8 q_9
    obtain ⟨hI_N_8, hG_N_8, q_9c⟩ := q_9
    have hF_N_8 : Fr f_c_X12_wantWord M N_8 := Fr.c hF_M hG_N_8 rfl
    subst q_9c
    have e_10 : (N_8 c0 14) = (M c0 14) := by rw [Fr.e hG_N_8 hk_c0 _ rfl]
    have e_11 : (N_8 c0 12) = (M c0 12) := by rw [Fr.e hG_N_8 hk_c0 _ rfl]
    have e_12 : (N_8 c0 14) = (M c0 14) := by rw [Fr.e hG_N_8 hk_c0 _ rfl]
    have e_13 : (N_8 c0 12) = (M c0 12) := by rw [Fr.e hG_N_8 hk_c0 _ rfl]
    exact kx_zret F hQ (by omega) ⟨hI_N_8, hF_N_8, (by omega)⟩ dX12_wantWord_14
  · refine kx_iload_n 6 F 2 dX12_wantWord_5 rfl rfl rfl ?_
    refine kx_icmp_eq 9 F 15 dX12_wantWord_6 (by decide) rfl (by omega) (by omega) (fun h_14 => ?_) (fun h_14 => ?_)
    · refine kx_aload_n 16 F 0 dX12_wantWord_15 rfl rfl rfl ?_
      refine kx_Vv 19 (ci := 0) F (As := []) (st := []) vd_X12_199 (c_X12_ahead G l M c0 hI_M hk_c0) hk_c0 rfl rfl rfl ⟨by decide, by decide⟩ rfl rfl (Nat.le_of_ble_eq_true rfl) dX12_wantWord_16 rfl ?_
      intro N_15 q_16
      obtain ⟨hI_N_15, hG_N_15, q_16c⟩ := q_16
      have hF_N_15 : Fr f_c_X12_wantWord M N_15 := Fr.c hF_M hG_N_15 rfl
      have h_17 := Inv.g hI_N_15 hk_c0 rfl 12 (a := 0) (b := 4) rfl rfl
      have h_18 := Inv.g hI_N_15 hk_c0 rfl 14 (a := 0) (b := 900) rfl rfl
      have h_19 := Inv.g hI_N_15 hk_c0 rfl 12 (a := 0) (b := 4) rfl rfl
      have h_20 := Inv.g hI_N_15 hk_c0 rfl 14 (a := 0) (b := 900) rfl rfl
      rcases q_16c with q_16c | q_16c
      · refine kx_iconst 20 F dX12_wantWord_19 rfl ?_
        exact kx_zret F hQ (by omega) ⟨hI_N_15, hF_N_15, (by omega)⟩ dX12_wantWord_20
      · refine kx_iconst 20 F dX12_wantWord_19 rfl ?_
        exact kx_zret F hQ (by omega) ⟨hI_N_15, hF_N_15, (by omega)⟩ dX12_wantWord_20
    · refine kx_aload_n 10 F 0 dX12_wantWord_9 rfl rfl rfl ?_
      refine kx_iconst 11 F dX12_wantWord_10 rfl ?_
      refine kx_Vi 14 (ci := 0) F (As := [vI 2]) (st := []) vd_X12_205 (c_X12_fails G l M c0 2 hI_M hk_c0 (by omega)) hk_c0 rfl rfl rfl ⟨by decide, by decide⟩ rfl rfl (Nat.le_of_ble_eq_true rfl) dX12_wantWord_11 rfl ?_
      intro r_21 N_22 q_23
      obtain ⟨hI_N_22, hG_N_22, q_23c⟩ := q_23
      have hF_N_22 : Fr f_c_X12_wantWord M N_22 := Fr.c hF_M hG_N_22 rfl
      subst q_23c
      have e_24 : (N_22 c0 14) = (M c0 14) := by rw [Fr.e hG_N_22 hk_c0 _ rfl]
      have e_25 : (N_22 c0 12) = (M c0 12) := by rw [Fr.e hG_N_22 hk_c0 _ rfl]
      have e_26 : (N_22 c0 14) = (M c0 14) := by rw [Fr.e hG_N_22 hk_c0 _ rfl]
      have e_27 : (N_22 c0 12) = (M c0 12) := by rw [Fr.e hG_N_22 hk_c0 _ rfl]
      exact kx_zret F hQ (by omega) ⟨hI_N_22, hF_N_22, (by omega)⟩ dX12_wantWord_14
theorem dX12_number_0 : decode cX12_number 0 = .ok (.aload_n 0, 1) := by decide +kernel
theorem dX12_number_1 : decode cX12_number 1 = .ok (.getfield 168, 3) := by decide +kernel
theorem dX12_number_4 : decode cX12_number 4 = .ok (.iconst 3, 1) := by decide +kernel
theorem dX12_number_5 : decode cX12_number 5 = .ok (.if_icmp .eq 9, 3) := by decide +kernel
theorem dX12_number_8 : decode cX12_number 8 = .ok (.aload_n 0, 1) := by decide +kernel
theorem dX12_number_9 : decode cX12_number 9 = .ok (.iconst 2, 1) := by decide +kernel
theorem dX12_number_10 : decode cX12_number 10 = .ok (.invokevirtual 205, 3) := by decide +kernel
theorem dX12_number_13 : decode cX12_number 13 = .ok (.ireturn, 1) := by decide +kernel
theorem dX12_number_14 : decode cX12_number 14 = .ok (.aload_n 0, 1) := by decide +kernel
theorem dX12_number_15 : decode cX12_number 15 = .ok (.getfield 165, 3) := by decide +kernel
theorem dX12_number_18 : decode cX12_number 18 = .ok (.iload_n 2, 1) := by decide +kernel
theorem dX12_number_19 : decode cX12_number 19 = .ok (.if_icmp .lt 11, 3) := by decide +kernel
theorem dX12_number_22 : decode cX12_number 22 = .ok (.aload_n 0, 1) := by decide +kernel
theorem dX12_number_23 : decode cX12_number 23 = .ok (.getfield 165, 3) := by decide +kernel
theorem dX12_number_26 : decode cX12_number 26 = .ok (.iload_n 3, 1) := by decide +kernel
theorem dX12_number_27 : decode cX12_number 27 = .ok (.if_icmp .le 9, 3) := by decide +kernel
theorem dX12_number_30 : decode cX12_number 30 = .ok (.aload_n 0, 1) := by decide +kernel
theorem dX12_number_31 : decode cX12_number 31 = .ok (.iconst 4, 1) := by decide +kernel
theorem dX12_number_32 : decode cX12_number 32 = .ok (.invokevirtual 205, 3) := by decide +kernel
theorem dX12_number_35 : decode cX12_number 35 = .ok (.ireturn, 1) := by decide +kernel
theorem dX12_number_36 : decode cX12_number 36 = .ok (.aload_n 0, 1) := by decide +kernel
theorem dX12_number_37 : decode cX12_number 37 = .ok (.getfield 7, 3) := by decide +kernel
theorem dX12_number_40 : decode cX12_number 40 = .ok (.iload_n 1, 1) := by decide +kernel
theorem dX12_number_41 : decode cX12_number 41 = .ok (.aload_n 0, 1) := by decide +kernel
theorem dX12_number_42 : decode cX12_number 42 = .ok (.getfield 165, 3) := by decide +kernel
theorem dX12_number_45 : decode cX12_number 45 = .ok (.iastore, 1) := by decide +kernel
theorem dX12_number_46 : decode cX12_number 46 = .ok (.aload_n 0, 1) := by decide +kernel
theorem dX12_number_47 : decode cX12_number 47 = .ok (.invokevirtual 199, 3) := by decide +kernel
theorem dX12_number_50 : decode cX12_number 50 = .ok (.iconst 1, 1) := by decide +kernel
theorem dX12_number_51 : decode cX12_number 51 = .ok (.ireturn, 1) := by decide +kernel
abbrev f_c_X12_number : List (Nat × Int) := [(64, 12), (64, 13), (64, 14), (64, 15), (64, 17), (64, 18), (65, -1)]
set_option maxHeartbeats 4000000 in
set_option maxRecDepth 100000 in
theorem c_X12_number (G : KG) (l : Launch) (M : Mem) (c0 : Int) (a1 : Int) (a2 : Int) (a3 : Int) (hI_M : Inv true M) (hk_c0 : kd c0 = 64) (hpre : -2147483648 ≤ a1 ∧ a1 ≤ 2147483647 ∧ -2147483648 ≤ a2 ∧ a2 ≤ 2147483647 ∧ -2147483648 ≤ a3 ∧ a3 ≤ 2147483647 ∧ 0 ≤ a1 ∧ a1 ≤ 1359 ∧ (atlo a1) ≤ a2 ∧ a3 ≤ (athi a1)) : KC true G l yX12_number cX12_number 4 (some .boolean) (2, 42) [vR G c0, vI a1, vI a2, vI a3] M (fun A => kQi true G A (fun (r : Int) (N : Mem) => Inv true N ∧ Fr f_c_X12_number M N ∧ ((r = 1 ∧ 5 * (N c0 14) - (N c0 12) ≥ 5 * (M c0 14) - (M c0 12) + 1 ∧ a2 ≤ (N (M c0 0) a1) ∧ (N (M c0 0) a1) ≤ a3) ∨ (r = 0 ∧ 5 * (N c0 14) - (N c0 12) ≥ 5 * (M c0 14) - (M c0 12))) ∧ (∀ j, ¬ j = a1 → N (M c0 0) j = M (M c0 0) j))) := by
  refine kx_met (lo := [some (vR G c0), some (vI a1), some (vI a2), some (vI a3)]) (by decide) (Nat.le_of_ble_eq_true rfl) rfl ?_
  intro X F hQ
  have hF_M : Fr f_c_X12_number M M := Fr.rf _ _
  have h_1 := Inv.g hI_M hk_c0 rfl 14 (a := 0) (b := 900) rfl rfl
  have h_2 := Inv.g hI_M hk_c0 rfl 12 (a := 0) (b := 4) rfl rfl
  refine kx_aload_n 1 F 0 dX12_number_0 rfl rfl rfl ?_
  refine kx_geti 4 F fl_X12_168 hk_c0 rfl rfl (j := 12) rfl dX12_number_1 (v := (M c0 12)) rfl rfl ?_
  refine kx_iconst 5 F dX12_number_4 rfl ?_
  refine kx_icmp_eq 8 F 14 dX12_number_5 (by decide) rfl (by omega) (by decide) (fun h_3 => ?_) (fun h_3 => ?_)
  · refine kx_aload_n 15 F 0 dX12_number_14 rfl rfl rfl ?_
    refine kx_geti 18 F fl_X12_165 hk_c0 rfl rfl (j := 15) rfl dX12_number_15 (v := (M c0 15)) rfl rfl ?_
    have h_4 := Inv.g hI_M hk_c0 rfl 15 (a := (-2147483648)) (b := 2147483647) rfl rfl
    refine kx_iload_n 19 F 2 dX12_number_18 rfl rfl rfl ?_
    refine kx_icmp_lt 22 F 30 dX12_number_19 (by decide) rfl (by omega) (by omega) (fun h_5 => ?_) (fun h_5 => ?_)
    · refine kx_aload_n 31 F 0 dX12_number_30 rfl rfl rfl ?_
      refine kx_iconst 32 F dX12_number_31 rfl ?_
      refine kx_Vi 35 (ci := 0) F (As := [vI 4]) (st := []) vd_X12_205 (c_X12_fails G l M c0 4 hI_M hk_c0 (by omega)) hk_c0 rfl rfl rfl ⟨by decide, by decide⟩ rfl rfl (Nat.le_of_ble_eq_true rfl) dX12_number_32 rfl ?_
      intro r_6 N_7 q_8
      obtain ⟨hI_N_7, hG_N_7, q_8c⟩ := q_8
      have hF_N_7 : Fr f_c_X12_number M N_7 := Fr.c hF_M hG_N_7 rfl
      subst q_8c
      have e_9 : (N_7 c0 14) = (M c0 14) := by rw [Fr.e hG_N_7 hk_c0 _ rfl]
      have e_10 : (N_7 c0 12) = (M c0 12) := by rw [Fr.e hG_N_7 hk_c0 _ rfl]
      have hk_11 : kd (M c0 0) = 65 := Inv.r hI_M hk_c0 rfl 0 rfl rfl
      have e_12 : (N_7 (M c0 0) a1) = (M (M c0 0) a1) := by rw [Fr.e hG_N_7 hk_11 _ rfl]
      have e_13 : (N_7 (M c0 0) a1) = (M (M c0 0) a1) := by rw [Fr.e hG_N_7 hk_11 _ rfl]
      have e_14 : (N_7 c0 14) = (M c0 14) := by rw [Fr.e hG_N_7 hk_c0 _ rfl]
      have e_15 : (N_7 c0 12) = (M c0 12) := by rw [Fr.e hG_N_7 hk_c0 _ rfl]
      exact kx_zret F hQ (by omega) ⟨hI_N_7, hF_N_7, (by omega), (fun j hj => by have hq : kd (M c0 0) = 65 := Inv.r hI_M hk_c0 rfl 0 rfl rfl; rw [Fr.e hG_N_7 hq _ rfl])⟩ dX12_number_35
    · refine kx_aload_n 23 F 0 dX12_number_22 rfl rfl rfl ?_
      refine kx_geti 26 F fl_X12_165 hk_c0 rfl rfl (j := 15) rfl dX12_number_23 (v := (M c0 15)) rfl rfl ?_
      refine kx_iload_n 27 F 3 dX12_number_26 rfl rfl rfl ?_
      refine kx_icmp_le 30 F 36 dX12_number_27 (by decide) rfl (by omega) (by omega) (fun h_16 => ?_) (fun h_16 => ?_)
      · refine kx_aload_n 37 F 0 dX12_number_36 rfl rfl rfl ?_
        refine kx_getr 40 F fl_X12_7 hk_c0 rfl rfl (j := 0) rfl dX12_number_37 (v := (M c0 0)) rfl rfl ?_
        have hk_17 : kd (M c0 0) = 65 := Inv.r hI_M hk_c0 rfl 0 rfl rfl
        refine kx_iload_n 41 F 1 dX12_number_40 rfl rfl rfl ?_
        refine kx_aload_n 42 F 0 dX12_number_41 rfl rfl rfl ?_
        refine kx_geti 45 F fl_X12_165 hk_c0 rfl rfl (j := 15) rfl dX12_number_42 (v := (M c0 15)) rfl rfl ?_
        refine kx_iast 46 F hk_17 rfl rfl (by omega) (by decide) dX12_number_45 rfl ?_
        intro N_18 hM_N_18
        have h_19 := at_0 a1
        have hI_N_18 : Inv true N_18 := Inv.u hI_M hM_N_18 hk_17 (a := atlo a1) (b := athi a1) rfl rfl rfl (by omega)
        have hF_N_18 : Fr f_c_X12_number M N_18 := Fr.u hF_M hM_N_18 hk_17 rfl
        refine kx_aload_n 47 F 0 dX12_number_46 rfl rfl rfl ?_
        refine kx_Vv 50 (ci := 0) F (As := []) (st := []) vd_X12_199 (c_X12_ahead G l N_18 c0 hI_N_18 hk_c0) hk_c0 rfl rfl rfl ⟨by decide, by decide⟩ rfl rfl (Nat.le_of_ble_eq_true rfl) dX12_number_47 rfl ?_
        intro N_20 q_21
        obtain ⟨hI_N_20, hG_N_20, q_21c⟩ := q_21
        have hF_N_20 : Fr f_c_X12_number M N_20 := Fr.c hF_N_18 hG_N_20 rfl
        have h_22 := Inv.g hI_N_20 hk_c0 rfl 12 (a := 0) (b := 4) rfl rfl
        have e_23 : (N_18 c0 14) = (M c0 14) := by rw [hM_N_18, mu_k hk_c0 hk_17 rfl]
        have h_24 := Inv.g hI_N_20 hk_c0 rfl 14 (a := 0) (b := 900) rfl rfl
        have h_25 := Inv.g hI_N_20 hk_c0 rfl 12 (a := 0) (b := 4) rfl rfl
        have e_26 : (N_18 c0 14) = (M c0 14) := by rw [hM_N_18, mu_k hk_c0 hk_17 rfl]
        have h_27 := Inv.g hI_N_20 hk_c0 rfl 14 (a := 0) (b := 900) rfl rfl
        rcases q_21c with q_21c | q_21c
        · refine kx_iconst 51 F dX12_number_50 rfl ?_
          have e_28 : (N_20 (M c0 0) a1) = (M c0 15) := by rw [Fr.e hG_N_20 hk_17 _ rfl, hM_N_18, mu_s]
          have e_29 : (N_20 (M c0 0) a1) = (M c0 15) := by rw [Fr.e hG_N_20 hk_17 _ rfl, hM_N_18, mu_s]
          exact kx_zret F hQ (by omega) ⟨hI_N_20, hF_N_20, (by omega), (fun j hj => by have hq : kd (M c0 0) = 65 := Inv.r hI_M hk_c0 rfl 0 rfl rfl; rw [Fr.e hG_N_20 hq _ rfl, hM_N_18, mu_i hj])⟩ dX12_number_51
        · refine kx_iconst 51 F dX12_number_50 rfl ?_
          have e_30 : (N_20 (M c0 0) a1) = (M c0 15) := by rw [Fr.e hG_N_20 hk_17 _ rfl, hM_N_18, mu_s]
          have e_31 : (N_20 (M c0 0) a1) = (M c0 15) := by rw [Fr.e hG_N_20 hk_17 _ rfl, hM_N_18, mu_s]
          exact kx_zret F hQ (by omega) ⟨hI_N_20, hF_N_20, (by omega), (fun j hj => by have hq : kd (M c0 0) = 65 := Inv.r hI_M hk_c0 rfl 0 rfl rfl; rw [Fr.e hG_N_20 hq _ rfl, hM_N_18, mu_i hj])⟩ dX12_number_51
      · refine kx_aload_n 31 F 0 dX12_number_30 rfl rfl rfl ?_
        refine kx_iconst 32 F dX12_number_31 rfl ?_
        refine kx_Vi 35 (ci := 0) F (As := [vI 4]) (st := []) vd_X12_205 (c_X12_fails G l M c0 4 hI_M hk_c0 (by omega)) hk_c0 rfl rfl rfl ⟨by decide, by decide⟩ rfl rfl (Nat.le_of_ble_eq_true rfl) dX12_number_32 rfl ?_
        intro r_32 N_33 q_34
        obtain ⟨hI_N_33, hG_N_33, q_34c⟩ := q_34
        have hF_N_33 : Fr f_c_X12_number M N_33 := Fr.c hF_M hG_N_33 rfl
        subst q_34c
        have e_35 : (N_33 c0 14) = (M c0 14) := by rw [Fr.e hG_N_33 hk_c0 _ rfl]
        have e_36 : (N_33 c0 12) = (M c0 12) := by rw [Fr.e hG_N_33 hk_c0 _ rfl]
        have hk_37 : kd (M c0 0) = 65 := Inv.r hI_M hk_c0 rfl 0 rfl rfl
        have e_38 : (N_33 (M c0 0) a1) = (M (M c0 0) a1) := by rw [Fr.e hG_N_33 hk_37 _ rfl]
        have e_39 : (N_33 (M c0 0) a1) = (M (M c0 0) a1) := by rw [Fr.e hG_N_33 hk_37 _ rfl]
        have e_40 : (N_33 c0 14) = (M c0 14) := by rw [Fr.e hG_N_33 hk_c0 _ rfl]
        have e_41 : (N_33 c0 12) = (M c0 12) := by rw [Fr.e hG_N_33 hk_c0 _ rfl]
        exact kx_zret F hQ (by omega) ⟨hI_N_33, hF_N_33, (by omega), (fun j hj => by have hq : kd (M c0 0) = 65 := Inv.r hI_M hk_c0 rfl 0 rfl rfl; rw [Fr.e hG_N_33 hq _ rfl])⟩ dX12_number_35
  · refine kx_aload_n 9 F 0 dX12_number_8 rfl rfl rfl ?_
    refine kx_iconst 10 F dX12_number_9 rfl ?_
    refine kx_Vi 13 (ci := 0) F (As := [vI 2]) (st := []) vd_X12_205 (c_X12_fails G l M c0 2 hI_M hk_c0 (by omega)) hk_c0 rfl rfl rfl ⟨by decide, by decide⟩ rfl rfl (Nat.le_of_ble_eq_true rfl) dX12_number_10 rfl ?_
    intro r_42 N_43 q_44
    obtain ⟨hI_N_43, hG_N_43, q_44c⟩ := q_44
    have hF_N_43 : Fr f_c_X12_number M N_43 := Fr.c hF_M hG_N_43 rfl
    subst q_44c
    have e_45 : (N_43 c0 14) = (M c0 14) := by rw [Fr.e hG_N_43 hk_c0 _ rfl]
    have e_46 : (N_43 c0 12) = (M c0 12) := by rw [Fr.e hG_N_43 hk_c0 _ rfl]
    have hk_47 : kd (M c0 0) = 65 := Inv.r hI_M hk_c0 rfl 0 rfl rfl
    have e_48 : (N_43 (M c0 0) a1) = (M (M c0 0) a1) := by rw [Fr.e hG_N_43 hk_47 _ rfl]
    have e_49 : (N_43 (M c0 0) a1) = (M (M c0 0) a1) := by rw [Fr.e hG_N_43 hk_47 _ rfl]
    have e_50 : (N_43 c0 14) = (M c0 14) := by rw [Fr.e hG_N_43 hk_c0 _ rfl]
    have e_51 : (N_43 c0 12) = (M c0 12) := by rw [Fr.e hG_N_43 hk_c0 _ rfl]
    exact kx_zret F hQ (by omega) ⟨hI_N_43, hF_N_43, (by omega), (fun j hj => by have hq : kd (M c0 0) = 65 := Inv.r hI_M hk_c0 rfl 0 rfl rfl; rw [Fr.e hG_N_43 hq _ rfl])⟩ dX12_number_13
theorem dX12_isName_0 : decode cX12_isName 0 = .ok (.aload_n 0, 1) := by decide +kernel
theorem dX12_isName_1 : decode cX12_isName 1 = .ok (.getfield 168, 3) := by decide +kernel
theorem dX12_isName_4 : decode cX12_isName 4 = .ok (.iconst 2, 1) := by decide +kernel
theorem dX12_isName_5 : decode cX12_isName 5 = .ok (.if_icmp .ne 30, 3) := by decide +kernel
theorem dX12_isName_8 : decode cX12_isName 8 = .ok (.aload_n 0, 1) := by decide +kernel
theorem dX12_isName_9 : decode cX12_isName 9 = .ok (.getfield 156, 3) := by decide +kernel
theorem dX12_isName_12 : decode cX12_isName 12 = .ok (.aload_n 0, 1) := by decide +kernel
theorem dX12_isName_13 : decode cX12_isName 13 = .ok (.getfield 162, 3) := by decide +kernel
theorem dX12_isName_16 : decode cX12_isName 16 = .ok (.isub, 1) := by decide +kernel
theorem dX12_isName_17 : decode cX12_isName 17 = .ok (.bipush 8, 2) := by decide +kernel
theorem dX12_isName_19 : decode cX12_isName 19 = .ok (.if_icmp .gt 16, 3) := by decide +kernel
theorem dX12_isName_22 : decode cX12_isName 22 = .ok (.aload_n 0, 1) := by decide +kernel
theorem dX12_isName_23 : decode cX12_isName 23 = .ok (.aload_n 1, 1) := by decide +kernel
theorem dX12_isName_24 : decode cX12_isName 24 = .ok (.invokevirtual 208, 3) := by decide +kernel
theorem dX12_isName_27 : decode cX12_isName 27 = .ok (.iconst (-1), 1) := by decide +kernel
theorem dX12_isName_28 : decode cX12_isName 28 = .ok (.if_icmp .ne 7, 3) := by decide +kernel
theorem dX12_isName_31 : decode cX12_isName 31 = .ok (.iconst 1, 1) := by decide +kernel
theorem dX12_isName_32 : decode cX12_isName 32 = .ok (.goto 4, 3) := by decide +kernel
theorem dX12_isName_35 : decode cX12_isName 35 = .ok (.iconst 0, 1) := by decide +kernel
theorem dX12_isName_36 : decode cX12_isName 36 = .ok (.ireturn, 1) := by decide +kernel
set_option maxHeartbeats 4000000 in
set_option maxRecDepth 100000 in
theorem c_X12_isName (G : KG) (l : Launch) (M : Mem) (c0 : Int) (hI_M : Inv true M) (hk_c0 : kd c0 = 64) : KC true G l yX12_isName cX12_isName 2 (some .boolean) (5, 111) [vR G c0, vT G 11] M (fun A => kQi true G A (fun (r : Int) (N : Mem) => M = N ∧ ((r = 1 ∧ (M c0 12) = 2) ∨ (r = 0)))) := by
  refine kx_met (lo := [some (vR G c0), some (vT G 11)]) (by decide) (Nat.le_of_ble_eq_true rfl) rfl ?_
  intro X F hQ
  refine kx_aload_n 1 F 0 dX12_isName_0 rfl rfl rfl ?_
  refine kx_geti 4 F fl_X12_168 hk_c0 rfl rfl (j := 12) rfl dX12_isName_1 (v := (M c0 12)) rfl rfl ?_
  have h_1 := Inv.g hI_M hk_c0 rfl 12 (a := 0) (b := 4) rfl rfl
  refine kx_iconst 5 F dX12_isName_4 rfl ?_
  refine kx_icmp_ne 8 F 35 dX12_isName_5 (by decide) rfl (by omega) (by decide) (fun h_2 => ?_) (fun h_2 => ?_)
  · refine kx_iconst 36 F dX12_isName_35 rfl ?_
    exact kx_zret F hQ (by omega) ⟨rfl, (by omega)⟩ dX12_isName_36
  · refine kx_aload_n 9 F 0 dX12_isName_8 rfl rfl rfl ?_
    refine kx_geti 12 F fl_X12_156 hk_c0 rfl rfl (j := 14) rfl dX12_isName_9 (v := (M c0 14)) rfl rfl ?_
    have h_3 := Inv.g hI_M hk_c0 rfl 14 (a := 0) (b := 900) rfl rfl
    refine kx_aload_n 13 F 0 dX12_isName_12 rfl rfl rfl ?_
    refine kx_geti 16 F fl_X12_162 hk_c0 rfl rfl (j := 13) rfl dX12_isName_13 (v := (M c0 13)) rfl rfl ?_
    have h_4 := Inv.g hI_M hk_c0 rfl 13 (a := 0) (b := 900) rfl rfl
    refine kx_isub 17 F (v := (M c0 14) - (M c0 13)) dX12_isName_16 rfl rfl ?_
    refine kx_bipush 19 F dX12_isName_17 (by decide) rfl ?_
    refine kx_icmp_gt 22 F 35 dX12_isName_19 (by decide) rfl (by omega) (by decide) (fun h_5 => ?_) (fun h_5 => ?_)
    · refine kx_iconst 36 F dX12_isName_35 rfl ?_
      exact kx_zret F hQ (by omega) ⟨rfl, (by omega)⟩ dX12_isName_36
    · refine kx_aload_n 23 F 0 dX12_isName_22 rfl rfl rfl ?_
      refine kx_aload_n 24 F 1 dX12_isName_23 rfl rfl rfl ?_
      refine kx_Vi 27 (ci := 0) F (As := [vT G 11]) (st := []) vd_X12_208 (c_X12_inWords G l M c0 hI_M hk_c0) hk_c0 rfl rfl rfl ⟨by decide, by decide⟩ rfl rfl (Nat.le_of_ble_eq_true rfl) dX12_isName_24 rfl ?_
      intro r_6 N_7 q_8
      obtain ⟨rfl, q_8c⟩ := q_8
      rcases q_8c with q_8c | q_8c
      · refine kx_iconst 28 F dX12_isName_27 rfl ?_
        refine kx_icmp_ne 31 F 35 dX12_isName_28 (by decide) rfl (by omega) (by decide) (fun h_9 => (by exfalso; omega)) (fun h_9 => ?_)
        refine kx_iconst 32 F dX12_isName_31 rfl ?_
        refine kx_goto 36 F dX12_isName_32 (by decide) ?_
        exact kx_zret F hQ (by omega) ⟨rfl, (by omega)⟩ dX12_isName_36
      · refine kx_iconst 28 F dX12_isName_27 rfl ?_
        refine kx_icmp_ne 31 F 35 dX12_isName_28 (by decide) rfl (by omega) (by decide) (fun h_10 => ?_) (fun h_10 => (by exfalso; omega))
        refine kx_iconst 36 F dX12_isName_35 rfl ?_
        exact kx_zret F hQ (by omega) ⟨rfl, (by omega)⟩ dX12_isName_36
theorem dX12_isThere_0 : decode cX12_isThere 0 = .ok (.aload_n 0, 1) := by decide +kernel
theorem dX12_isThere_1 : decode cX12_isThere 1 = .ok (.ldc 219, 2) := by decide +kernel
theorem dX12_isThere_3 : decode cX12_isThere 3 = .ok (.invokevirtual 208, 3) := by decide +kernel
theorem dX12_isThere_6 : decode cX12_isThere 6 = .ok (.iload_n 1, 1) := by decide +kernel
theorem dX12_isThere_7 : decode cX12_isThere 7 = .ok (.if_icmp .eq 5, 3) := by decide +kernel
theorem dX12_isThere_10 : decode cX12_isThere 10 = .ok (.iconst 0, 1) := by decide +kernel
theorem dX12_isThere_11 : decode cX12_isThere 11 = .ok (.ireturn, 1) := by decide +kernel
theorem dX12_isThere_12 : decode cX12_isThere 12 = .ok (.aload_n 0, 1) := by decide +kernel
theorem dX12_isThere_13 : decode cX12_isThere 13 = .ok (.invokevirtual 199, 3) := by decide +kernel
theorem dX12_isThere_16 : decode cX12_isThere 16 = .ok (.iconst 1, 1) := by decide +kernel
theorem dX12_isThere_17 : decode cX12_isThere 17 = .ok (.ireturn, 1) := by decide +kernel
abbrev f_c_X12_isThere : List (Nat × Int) := [(64, 12), (64, 13), (64, 14), (64, 15)]
set_option maxHeartbeats 4000000 in
set_option maxRecDepth 100000 in
theorem c_X12_isThere (G : KG) (l : Launch) (M : Mem) (c0 : Int) (a1 : Int) (hI_M : Inv true M) (hk_c0 : kd c0 = 64) (hpre : -2147483648 ≤ a1 ∧ a1 ≤ 2147483647 ∧ a1 ≥ 0) : KC true G l yX12_isThere cX12_isThere 2 (some .boolean) (5, 111) [vR G c0, vI a1] M (fun A => kQi true G A (fun (r : Int) (N : Mem) => Inv true N ∧ Fr f_c_X12_isThere M N ∧ ((r = 1 ∧ 5 * (N c0 14) - (N c0 12) ≥ 5 * (M c0 14) - (M c0 12) + 1) ∨ (r = 0 ∧ 5 * (N c0 14) - (N c0 12) ≥ 5 * (M c0 14) - (M c0 12))))) := by
  refine kx_met (lo := [some (vR G c0), some (vI a1)]) (by decide) (Nat.le_of_ble_eq_true rfl) rfl ?_
  intro X F hQ
  have hF_M : Fr f_c_X12_isThere M M := Fr.rf _ _
  have h_1 := Inv.g hI_M hk_c0 rfl 14 (a := 0) (b := 900) rfl rfl
  have h_2 := Inv.g hI_M hk_c0 rfl 12 (a := 0) (b := 4) rfl rfl
  refine kx_aload_n 1 F 0 dX12_isThere_0 rfl rfl rfl ?_
  refine kx_ldcS 3 F 11 (by decide) rfl rfl dX12_isThere_1 rfl ?_
  refine kx_Vi 6 (ci := 0) F (As := [vT G 11]) (st := []) vd_X12_208 (c_X12_inWords G l M c0 hI_M hk_c0) hk_c0 rfl rfl rfl ⟨by decide, by decide⟩ rfl rfl (Nat.le_of_ble_eq_true rfl) dX12_isThere_3 rfl ?_
  intro r_3 N_4 q_5
  obtain ⟨rfl, q_5c⟩ := q_5
  rcases q_5c with q_5c | q_5c
  · refine kx_iload_n 7 F 1 dX12_isThere_6 rfl rfl rfl ?_
    refine kx_icmp_eq 10 F 12 dX12_isThere_7 (by decide) rfl (by omega) (by omega) (fun h_6 => (by exfalso; omega)) (fun h_6 => ?_)
    refine kx_iconst 11 F dX12_isThere_10 rfl ?_
    exact kx_zret F hQ (by omega) ⟨hI_M, hF_M, (by omega)⟩ dX12_isThere_11
  · refine kx_iload_n 7 F 1 dX12_isThere_6 rfl rfl rfl ?_
    refine kx_icmp_eq 10 F 12 dX12_isThere_7 (by decide) rfl (by omega) (by omega) (fun h_7 => ?_) (fun h_7 => ?_)
    · refine kx_aload_n 13 F 0 dX12_isThere_12 rfl rfl rfl ?_
      refine kx_Vv 16 (ci := 0) F (As := []) (st := []) vd_X12_199 (c_X12_ahead G l M c0 hI_M hk_c0) hk_c0 rfl rfl rfl ⟨by decide, by decide⟩ rfl rfl (Nat.le_of_ble_eq_true rfl) dX12_isThere_13 rfl ?_
      intro N_8 q_9
      obtain ⟨hI_N_8, hG_N_8, q_9c⟩ := q_9
      have hF_N_8 : Fr f_c_X12_isThere M N_8 := Fr.c hF_M hG_N_8 rfl
      have h_10 := Inv.g hI_N_8 hk_c0 rfl 12 (a := 0) (b := 4) rfl rfl
      have h_11 := Inv.g hI_N_8 hk_c0 rfl 14 (a := 0) (b := 900) rfl rfl
      have h_12 := Inv.g hI_N_8 hk_c0 rfl 12 (a := 0) (b := 4) rfl rfl
      have h_13 := Inv.g hI_N_8 hk_c0 rfl 14 (a := 0) (b := 900) rfl rfl
      rcases q_9c with q_9c | q_9c
      · refine kx_iconst 17 F dX12_isThere_16 rfl ?_
        exact kx_zret F hQ (by omega) ⟨hI_N_8, hF_N_8, (by omega)⟩ dX12_isThere_17
      · refine kx_iconst 17 F dX12_isThere_16 rfl ?_
        exact kx_zret F hQ (by omega) ⟨hI_N_8, hF_N_8, (by omega)⟩ dX12_isThere_17
    · refine kx_iconst 11 F dX12_isThere_10 rfl ?_
      exact kx_zret F hQ (by omega) ⟨hI_M, hF_M, (by omega)⟩ dX12_isThere_11
theorem dX12_letterHere_0 : decode cX12_letterHere 0 = .ok (.iconst 0, 1) := by decide +kernel
theorem dX12_letterHere_1 : decode cX12_letterHere 1 = .ok (.istore_n 1, 1) := by decide +kernel
theorem dX12_letterHere_2 : decode cX12_letterHere 2 = .ok (.iconst 0, 1) := by decide +kernel
theorem dX12_letterHere_3 : decode cX12_letterHere 3 = .ok (.istore_n 2, 1) := by decide +kernel
theorem dX12_letterHere_4 : decode cX12_letterHere 4 = .ok (.iload_n 2, 1) := by decide +kernel
theorem dX12_letterHere_5 : decode cX12_letterHere 5 = .ok (.iconst 3, 1) := by decide +kernel
theorem dX12_letterHere_6 : decode cX12_letterHere 6 = .ok (.if_icmp .ge 48, 3) := by decide +kernel
theorem dX12_letterHere_9 : decode cX12_letterHere 9 = .ok (.aload_n 0, 1) := by decide +kernel
theorem dX12_letterHere_10 : decode cX12_letterHere 10 = .ok (.getfield 7, 3) := by decide +kernel
theorem dX12_letterHere_13 : decode cX12_letterHere 13 = .ok (.sipush 1088, 3) := by decide +kernel
theorem dX12_letterHere_16 : decode cX12_letterHere 16 = .ok (.iload_n 2, 1) := by decide +kernel
theorem dX12_letterHere_17 : decode cX12_letterHere 17 = .ok (.iadd, 1) := by decide +kernel
theorem dX12_letterHere_18 : decode cX12_letterHere 18 = .ok (.iaload, 1) := by decide +kernel
theorem dX12_letterHere_19 : decode cX12_letterHere 19 = .ok (.istore_n 3, 1) := by decide +kernel
theorem dX12_letterHere_20 : decode cX12_letterHere 20 = .ok (.aload_n 0, 1) := by decide +kernel
theorem dX12_letterHere_21 : decode cX12_letterHere 21 = .ok (.bipush 24, 2) := by decide +kernel
theorem dX12_letterHere_23 : decode cX12_letterHere 23 = .ok (.iconst 2, 1) := by decide +kernel
theorem dX12_letterHere_24 : decode cX12_letterHere 24 = .ok (.iload_n 2, 1) := by decide +kernel
theorem dX12_letterHere_25 : decode cX12_letterHere 25 = .ok (.imul, 1) := by decide +kernel
theorem dX12_letterHere_26 : decode cX12_letterHere 26 = .ok (.iadd, 1) := by decide +kernel
theorem dX12_letterHere_27 : decode cX12_letterHere 27 = .ok (.iload_n 3, 1) := by decide +kernel
theorem dX12_letterHere_28 : decode cX12_letterHere 28 = .ok (.invokevirtual 221, 3) := by decide +kernel
theorem dX12_letterHere_31 : decode cX12_letterHere 31 = .ok (.istore 4, 2) := by decide +kernel
theorem dX12_letterHere_33 : decode cX12_letterHere 33 = .ok (.iload 4, 2) := by decide +kernel
theorem dX12_letterHere_35 : decode cX12_letterHere 35 = .ok (.iconst (-1), 1) := by decide +kernel
theorem dX12_letterHere_36 : decode cX12_letterHere 36 = .ok (.if_icmp .eq 8, 3) := by decide +kernel
theorem dX12_letterHere_39 : decode cX12_letterHere 39 = .ok (.iload_n 1, 1) := by decide +kernel
theorem dX12_letterHere_40 : decode cX12_letterHere 40 = .ok (.iload 4, 2) := by decide +kernel
theorem dX12_letterHere_42 : decode cX12_letterHere 42 = .ok (.iadd, 1) := by decide +kernel
theorem dX12_letterHere_43 : decode cX12_letterHere 43 = .ok (.ireturn, 1) := by decide +kernel
theorem dX12_letterHere_44 : decode cX12_letterHere 44 = .ok (.iload_n 1, 1) := by decide +kernel
theorem dX12_letterHere_45 : decode cX12_letterHere 45 = .ok (.iload_n 3, 1) := by decide +kernel
theorem dX12_letterHere_46 : decode cX12_letterHere 46 = .ok (.iadd, 1) := by decide +kernel
theorem dX12_letterHere_47 : decode cX12_letterHere 47 = .ok (.istore_n 1, 1) := by decide +kernel
theorem dX12_letterHere_48 : decode cX12_letterHere 48 = .ok (.iinc 2 1, 3) := by decide +kernel
theorem dX12_letterHere_51 : decode cX12_letterHere 51 = .ok (.goto (-47), 3) := by decide +kernel
theorem dX12_letterHere_54 : decode cX12_letterHere 54 = .ok (.iconst (-1), 1) := by decide +kernel
theorem dX12_letterHere_55 : decode cX12_letterHere 55 = .ok (.ireturn, 1) := by decide +kernel
set_option maxHeartbeats 4000000 in
set_option maxRecDepth 100000 in
theorem c_X12_letterHere (G : KG) (l : Launch) (M : Mem) (c0 : Int) (hI_M : Inv true M) (hk_c0 : kd c0 = 64) : KC true G l yX12_letterHere cX12_letterHere 5 (some .int) (3, 67) [vR G c0] M (fun A => kQi true G A (fun (r : Int) (N : Mem) => M = N ∧ (r ≥ -1 ∧ r ≤ 5))) := by
  refine kx_met (lo := [some (vR G c0), none, none, none, none]) (by decide) (Nat.le_of_ble_eq_true rfl) rfl ?_
  intro X F hQ
  refine kx_iconst 1 F dX12_letterHere_0 rfl ?_
  refine kx_istore_n 2 F 1 (lo' := [some (vR G c0), some (vI 0), none, none, none]) dX12_letterHere_1 rfl (by decide) rfl rfl rfl ?_
  refine kx_iconst 3 F dX12_letterHere_2 rfl ?_
  refine kx_istore_n 4 F 2 (lo' := [some (vR G c0), some (vI 0), some (vI 0), none, none]) dX12_letterHere_3 rfl (by decide) rfl rfl rfl ?_
  have L_47 : ∀ (n_48 : Nat) (x1_45 : Int) (x2_46 : Int), 0 ≤ x1_45 ∧ x1_45 ≤ 6 ∧ 0 ≤ x2_46 ∧ x2_46 ≤ 3 ∧ x1_45 ≤ 2 * x2_46 → (3 - (x2_46)).toNat = n_48 → KJ true G X M 4 [some (vR G c0), some (vI x1_45), some (vI x2_46), none, none] [] := by
    intro n_48
    refine Nat.strongRecOn n_48 ?_
    intro n_48 ih_49 x1_45 x2_46 h_50 hm_51
    refine kx_iload_n 5 F 2 dX12_letterHere_4 rfl rfl rfl ?_
    refine kx_iconst 6 F dX12_letterHere_5 rfl ?_
    refine kx_icmp_ge 9 F 54 dX12_letterHere_6 (by decide) rfl (by omega) (by decide) (fun h_52 => ?_) (fun h_52 => ?_)
    · refine kx_iconst 55 F dX12_letterHere_54 rfl ?_
      exact kx_iret F hQ ⟨rfl, (by omega)⟩ dX12_letterHere_55
    · refine kx_aload_n 10 F 0 dX12_letterHere_9 rfl rfl rfl ?_
      refine kx_getr 13 F fl_X12_7 hk_c0 rfl rfl (j := 0) rfl dX12_letterHere_10 (v := (M c0 0)) rfl rfl ?_
      have hk_53 : kd (M c0 0) = 65 := Inv.r hI_M hk_c0 rfl 0 rfl rfl
      refine kx_sipush 16 F dX12_letterHere_13 (by decide) rfl ?_
      refine kx_iload_n 17 F 2 dX12_letterHere_16 rfl rfl rfl ?_
      refine kx_iadd 18 F (v := x2_46 + 1088) dX12_letterHere_17 (by omega) rfl ?_
      refine kx_iald 19 F hk_53 rfl rfl (by omega) (by decide) dX12_letterHere_18 (v := (M (M c0 0) (x2_46 + 1088))) rfl rfl ?_
      have ha_54 : atlo (x2_46 + 1088) = 0 ∧ athi (x2_46 + 1088) = 2 := at_n (x2_46 + 1088) 4 (by omega)
      have h_55 := Inv.g hI_M hk_53 rfl (x2_46 + 1088) (a := 0) (b := 2) ha_54.1 ha_54.2
      refine kx_istore_n 20 F 3 (lo' := [some (vR G c0), some (vI x1_45), some (vI x2_46), some (vI (M (M c0 0) (x2_46 + 1088))), none]) dX12_letterHere_19 rfl (by decide) rfl rfl rfl ?_
      refine kx_aload_n 21 F 0 dX12_letterHere_20 rfl rfl rfl ?_
      refine kx_bipush 23 F dX12_letterHere_21 (by decide) rfl ?_
      refine kx_iconst 24 F dX12_letterHere_23 rfl ?_
      refine kx_iload_n 25 F 2 dX12_letterHere_24 rfl rfl rfl ?_
      refine kx_imul 26 F (v := 2 * x2_46) dX12_letterHere_25 (by omega) rfl ?_
      refine kx_iadd 27 F (v := 2 * x2_46 + 24) dX12_letterHere_26 (by omega) rfl ?_
      refine kx_iload_n 28 F 3 dX12_letterHere_27 rfl rfl rfl ?_
      refine kx_Vi 31 (ci := 0) F (As := [vI (2 * x2_46 + 24), vI (M (M c0 0) (x2_46 + 1088))]) (st := []) vd_X12_221 (c_X12_findHere G l M c0 (2 * x2_46 + 24) (M (M c0 0) (x2_46 + 1088)) hI_M hk_c0 (by omega)) hk_c0 rfl rfl rfl ⟨by decide, by decide⟩ rfl rfl (Nat.le_of_ble_eq_true rfl) dX12_letterHere_28 rfl ?_
      intro r_56 N_57 q_58
      obtain ⟨rfl, q_58c⟩ := q_58
      rcases q_58c with q_58c | q_58c
      · refine kx_istore 33 F 4 (lo' := [some (vR G c0), some (vI x1_45), some (vI x2_46), some (vI (M (M c0 0) (x2_46 + 1088))), some (vI r_56)]) dX12_letterHere_31 (by decide) rfl rfl rfl ?_
        refine kx_iload 35 F 4 dX12_letterHere_33 rfl rfl ?_
        refine kx_iconst 36 F dX12_letterHere_35 rfl ?_
        refine kx_icmp_eq 39 F 44 dX12_letterHere_36 (by decide) rfl (by omega) (by decide) (fun h_59 => ?_) (fun h_59 => (by exfalso; omega))
        refine kx_iload_n 45 F 1 dX12_letterHere_44 rfl rfl rfl ?_
        refine kx_iload_n 46 F 3 dX12_letterHere_45 rfl rfl rfl ?_
        refine kx_iadd 47 F (v := x1_45 + (M (M c0 0) (x2_46 + 1088))) dX12_letterHere_46 rfl rfl ?_
        refine kx_istore_n 48 F 1 (lo' := [some (vR G c0), some (vI (x1_45 + (M (M c0 0) (x2_46 + 1088)))), some (vI x2_46), some (vI (M (M c0 0) (x2_46 + 1088))), some (vI r_56)]) dX12_letterHere_47 rfl (by decide) rfl rfl rfl ?_
        refine kx_iinc 51 F 2 (v := x2_46 + 1) (lo' := [some (vR G c0), some (vI (x1_45 + (M (M c0 0) (x2_46 + 1088)))), some (vI (x2_46 + 1)), some (vI (M (M c0 0) (x2_46 + 1088))), some (vI r_56)]) dX12_letterHere_48 rfl (by omega) (by decide) rfl rfl rfl ?_
        refine kx_goto 4 F dX12_letterHere_51 (by decide) ?_
        refine kx_drop 3 (lo' := [some (vR G c0), some (vI (x1_45 + (M (M c0 0) (x2_46 + 1088)))), some (vI (x2_46 + 1)), none, some (vI r_56)]) rfl ?_
        refine kx_drop 4 (lo' := [some (vR G c0), some (vI (x1_45 + (M (M c0 0) (x2_46 + 1088)))), some (vI (x2_46 + 1)), none, none]) rfl ?_
        exact ih_49 _ (by omega) (x1_45 + (M (M c0 0) (x2_46 + 1088))) (x2_46 + 1) (by omega) rfl
      · refine kx_istore 33 F 4 (lo' := [some (vR G c0), some (vI x1_45), some (vI x2_46), some (vI (M (M c0 0) (x2_46 + 1088))), some (vI r_56)]) dX12_letterHere_31 (by decide) rfl rfl rfl ?_
        refine kx_iload 35 F 4 dX12_letterHere_33 rfl rfl ?_
        refine kx_iconst 36 F dX12_letterHere_35 rfl ?_
        refine kx_icmp_eq 39 F 44 dX12_letterHere_36 (by decide) rfl (by omega) (by decide) (fun h_60 => (by exfalso; omega)) (fun h_60 => ?_)
        refine kx_iload_n 40 F 1 dX12_letterHere_39 rfl rfl rfl ?_
        refine kx_iload 42 F 4 dX12_letterHere_40 rfl rfl ?_
        refine kx_iadd 43 F (v := x1_45 + r_56) dX12_letterHere_42 rfl rfl ?_
        exact kx_iret F hQ ⟨rfl, (by omega)⟩ dX12_letterHere_43
  exact L_47 _ 0 0 (by omega) rfl
theorem dX12_aLetter_0 : decode cX12_aLetter 0 = .ok (.aload_n 0, 1) := by decide +kernel
theorem dX12_aLetter_1 : decode cX12_aLetter 1 = .ok (.getfield 7, 3) := by decide +kernel
theorem dX12_aLetter_4 : decode cX12_aLetter 4 = .ok (.sipush 1088, 3) := by decide +kernel
theorem dX12_aLetter_7 : decode cX12_aLetter 7 = .ok (.iload_n 1, 1) := by decide +kernel
theorem dX12_aLetter_8 : decode cX12_aLetter 8 = .ok (.iadd, 1) := by decide +kernel
theorem dX12_aLetter_9 : decode cX12_aLetter 9 = .ok (.iaload, 1) := by decide +kernel
theorem dX12_aLetter_10 : decode cX12_aLetter 10 = .ok (.istore_n 2, 1) := by decide +kernel
theorem dX12_aLetter_11 : decode cX12_aLetter 11 = .ok (.aload_n 0, 1) := by decide +kernel
theorem dX12_aLetter_12 : decode cX12_aLetter 12 = .ok (.getfield 7, 3) := by decide +kernel
theorem dX12_aLetter_15 : decode cX12_aLetter 15 = .ok (.sipush 1091, 3) := by decide +kernel
theorem dX12_aLetter_18 : decode cX12_aLetter 18 = .ok (.iaload, 1) := by decide +kernel
theorem dX12_aLetter_19 : decode cX12_aLetter 19 = .ok (.ifCond .le 9, 3) := by decide +kernel
theorem dX12_aLetter_22 : decode cX12_aLetter 22 = .ok (.aload_n 0, 1) := by decide +kernel
theorem dX12_aLetter_23 : decode cX12_aLetter 23 = .ok (.iconst 5, 1) := by decide +kernel
theorem dX12_aLetter_24 : decode cX12_aLetter 24 = .ok (.invokevirtual 205, 3) := by decide +kernel
theorem dX12_aLetter_27 : decode cX12_aLetter 27 = .ok (.ireturn, 1) := by decide +kernel
theorem dX12_aLetter_28 : decode cX12_aLetter 28 = .ok (.iload_n 2, 1) := by decide +kernel
theorem dX12_aLetter_29 : decode cX12_aLetter 29 = .ok (.iconst 2, 1) := by decide +kernel
theorem dX12_aLetter_30 : decode cX12_aLetter 30 = .ok (.if_icmp .ne 10, 3) := by decide +kernel
theorem dX12_aLetter_33 : decode cX12_aLetter 33 = .ok (.aload_n 0, 1) := by decide +kernel
theorem dX12_aLetter_34 : decode cX12_aLetter 34 = .ok (.bipush 6, 2) := by decide +kernel
theorem dX12_aLetter_36 : decode cX12_aLetter 36 = .ok (.invokevirtual 205, 3) := by decide +kernel
theorem dX12_aLetter_39 : decode cX12_aLetter 39 = .ok (.ireturn, 1) := by decide +kernel
theorem dX12_aLetter_40 : decode cX12_aLetter 40 = .ok (.aload_n 0, 1) := by decide +kernel
theorem dX12_aLetter_41 : decode cX12_aLetter 41 = .ok (.invokevirtual 199, 3) := by decide +kernel
theorem dX12_aLetter_44 : decode cX12_aLetter 44 = .ok (.aload_n 0, 1) := by decide +kernel
theorem dX12_aLetter_45 : decode cX12_aLetter 45 = .ok (.ldc 219, 2) := by decide +kernel
theorem dX12_aLetter_47 : decode cX12_aLetter 47 = .ok (.invokevirtual 224, 3) := by decide +kernel
theorem dX12_aLetter_50 : decode cX12_aLetter 50 = .ok (.ifCond .ne 9, 3) := by decide +kernel
theorem dX12_aLetter_53 : decode cX12_aLetter 53 = .ok (.aload_n 0, 1) := by decide +kernel
theorem dX12_aLetter_54 : decode cX12_aLetter 54 = .ok (.iconst 2, 1) := by decide +kernel
theorem dX12_aLetter_55 : decode cX12_aLetter 55 = .ok (.invokevirtual 205, 3) := by decide +kernel
theorem dX12_aLetter_58 : decode cX12_aLetter 58 = .ok (.ireturn, 1) := by decide +kernel
theorem dX12_aLetter_59 : decode cX12_aLetter 59 = .ok (.aload_n 0, 1) := by decide +kernel
theorem dX12_aLetter_60 : decode cX12_aLetter 60 = .ok (.invokevirtual 228, 3) := by decide +kernel
theorem dX12_aLetter_63 : decode cX12_aLetter 63 = .ok (.iconst (-1), 1) := by decide +kernel
theorem dX12_aLetter_64 : decode cX12_aLetter 64 = .ok (.if_icmp .eq 9, 3) := by decide +kernel
theorem dX12_aLetter_67 : decode cX12_aLetter 67 = .ok (.aload_n 0, 1) := by decide +kernel
theorem dX12_aLetter_68 : decode cX12_aLetter 68 = .ok (.iconst 3, 1) := by decide +kernel
theorem dX12_aLetter_69 : decode cX12_aLetter 69 = .ok (.invokevirtual 205, 3) := by decide +kernel
theorem dX12_aLetter_72 : decode cX12_aLetter 72 = .ok (.ireturn, 1) := by decide +kernel
theorem dX12_aLetter_73 : decode cX12_aLetter 73 = .ok (.aload_n 0, 1) := by decide +kernel
theorem dX12_aLetter_74 : decode cX12_aLetter 74 = .ok (.getfield 13, 3) := by decide +kernel
theorem dX12_aLetter_77 : decode cX12_aLetter 77 = .ok (.bipush 24, 2) := by decide +kernel
theorem dX12_aLetter_79 : decode cX12_aLetter 79 = .ok (.iconst 2, 1) := by decide +kernel
theorem dX12_aLetter_80 : decode cX12_aLetter 80 = .ok (.iload_n 1, 1) := by decide +kernel
theorem dX12_aLetter_81 : decode cX12_aLetter 81 = .ok (.imul, 1) := by decide +kernel
theorem dX12_aLetter_82 : decode cX12_aLetter 82 = .ok (.iadd, 1) := by decide +kernel
theorem dX12_aLetter_83 : decode cX12_aLetter 83 = .ok (.iload_n 2, 1) := by decide +kernel
theorem dX12_aLetter_84 : decode cX12_aLetter 84 = .ok (.iadd, 1) := by decide +kernel
theorem dX12_aLetter_85 : decode cX12_aLetter 85 = .ok (.aload_n 0, 1) := by decide +kernel
theorem dX12_aLetter_86 : decode cX12_aLetter 86 = .ok (.invokevirtual 212, 3) := by decide +kernel
theorem dX12_aLetter_89 : decode cX12_aLetter 89 = .ok (.lastore, 1) := by decide +kernel
theorem dX12_aLetter_90 : decode cX12_aLetter 90 = .ok (.aload_n 0, 1) := by decide +kernel
theorem dX12_aLetter_91 : decode cX12_aLetter 91 = .ok (.getfield 7, 3) := by decide +kernel
theorem dX12_aLetter_94 : decode cX12_aLetter 94 = .ok (.sipush 1088, 3) := by decide +kernel
theorem dX12_aLetter_97 : decode cX12_aLetter 97 = .ok (.iload_n 1, 1) := by decide +kernel
theorem dX12_aLetter_98 : decode cX12_aLetter 98 = .ok (.iadd, 1) := by decide +kernel
theorem dX12_aLetter_99 : decode cX12_aLetter 99 = .ok (.dup2, 1) := by decide +kernel
theorem dX12_aLetter_100 : decode cX12_aLetter 100 = .ok (.iaload, 1) := by decide +kernel
theorem dX12_aLetter_101 : decode cX12_aLetter 101 = .ok (.iconst 1, 1) := by decide +kernel
theorem dX12_aLetter_102 : decode cX12_aLetter 102 = .ok (.iadd, 1) := by decide +kernel
theorem dX12_aLetter_103 : decode cX12_aLetter 103 = .ok (.iastore, 1) := by decide +kernel
theorem dX12_aLetter_104 : decode cX12_aLetter 104 = .ok (.aload_n 0, 1) := by decide +kernel
theorem dX12_aLetter_105 : decode cX12_aLetter 105 = .ok (.invokevirtual 199, 3) := by decide +kernel
theorem dX12_aLetter_108 : decode cX12_aLetter 108 = .ok (.iconst 1, 1) := by decide +kernel
theorem dX12_aLetter_109 : decode cX12_aLetter 109 = .ok (.ireturn, 1) := by decide +kernel
abbrev f_c_X12_aLetter : List (Nat × Int) := [(64, 12), (64, 13), (64, 14), (64, 15), (64, 17), (64, 18), (65, -1), (66, -1)]
set_option maxHeartbeats 4000000 in
set_option maxRecDepth 100000 in
theorem c_X12_aLetter (G : KG) (l : Launch) (M : Mem) (c0 : Int) (a1 : Int) (hI_M : Inv true M) (hk_c0 : kd c0 = 64) (hpre : -2147483648 ≤ a1 ∧ a1 ≤ 2147483647 ∧ 0 ≤ a1 ∧ a1 ≤ 2) : KC true G l yX12_aLetter cX12_aLetter 3 (some .boolean) (6, 132) [vR G c0, vI a1] M (fun A => kQi true G A (fun (r : Int) (N : Mem) => Inv true N ∧ Fr f_c_X12_aLetter M N ∧ ((r = 1 ∧ 5 * (N c0 14) - (N c0 12) ≥ 5 * (M c0 14) - (M c0 12) + 1) ∨ (r = 0 ∧ 5 * (N c0 14) - (N c0 12) ≥ 5 * (M c0 14) - (M c0 12))))) := by
  refine kx_met (lo := [some (vR G c0), some (vI a1), none]) (by decide) (Nat.le_of_ble_eq_true rfl) rfl ?_
  intro X F hQ
  have hF_M : Fr f_c_X12_aLetter M M := Fr.rf _ _
  have h_1 := Inv.g hI_M hk_c0 rfl 14 (a := 0) (b := 900) rfl rfl
  have h_2 := Inv.g hI_M hk_c0 rfl 12 (a := 0) (b := 4) rfl rfl
  refine kx_aload_n 1 F 0 dX12_aLetter_0 rfl rfl rfl ?_
  refine kx_getr 4 F fl_X12_7 hk_c0 rfl rfl (j := 0) rfl dX12_aLetter_1 (v := (M c0 0)) rfl rfl ?_
  have hk_3 : kd (M c0 0) = 65 := Inv.r hI_M hk_c0 rfl 0 rfl rfl
  refine kx_sipush 7 F dX12_aLetter_4 (by decide) rfl ?_
  refine kx_iload_n 8 F 1 dX12_aLetter_7 rfl rfl rfl ?_
  refine kx_iadd 9 F (v := a1 + 1088) dX12_aLetter_8 (by omega) rfl ?_
  refine kx_iald 10 F hk_3 rfl rfl (by omega) (by decide) dX12_aLetter_9 (v := (M (M c0 0) (a1 + 1088))) rfl rfl ?_
  have ha_4 : atlo (a1 + 1088) = 0 ∧ athi (a1 + 1088) = 2 := at_n (a1 + 1088) 4 (by omega)
  have h_5 := Inv.g hI_M hk_3 rfl (a1 + 1088) (a := 0) (b := 2) ha_4.1 ha_4.2
  refine kx_istore_n 11 F 2 (lo' := [some (vR G c0), some (vI a1), some (vI (M (M c0 0) (a1 + 1088)))]) dX12_aLetter_10 rfl (by decide) rfl rfl rfl ?_
  refine kx_aload_n 12 F 0 dX12_aLetter_11 rfl rfl rfl ?_
  refine kx_getr 15 F fl_X12_7 hk_c0 rfl rfl (j := 0) rfl dX12_aLetter_12 (v := (M c0 0)) rfl rfl ?_
  refine kx_sipush 18 F dX12_aLetter_15 (by decide) rfl ?_
  refine kx_iald 19 F hk_3 rfl rfl (by omega) (by decide) dX12_aLetter_18 (v := (M (M c0 0) 1091)) rfl rfl ?_
  have ha_6 : atlo 1091 = 0 ∧ athi 1091 = 2 := at_c 1091 4 (o := 3) (lo := 0) (hi := 2) (by omega) (by decide) (by decide) (by decide)
  have h_7 := Inv.g hI_M hk_3 rfl 1091 (a := 0) (b := 2) ha_6.1 ha_6.2
  refine kx_if_le 22 F 28 dX12_aLetter_19 (by decide) rfl (by omega) (fun h_8 => ?_) (fun h_8 => ?_)
  · refine kx_iload_n 29 F 2 dX12_aLetter_28 rfl rfl rfl ?_
    refine kx_iconst 30 F dX12_aLetter_29 rfl ?_
    refine kx_icmp_ne 33 F 40 dX12_aLetter_30 (by decide) rfl (by omega) (by decide) (fun h_9 => ?_) (fun h_9 => ?_)
    · refine kx_aload_n 41 F 0 dX12_aLetter_40 rfl rfl rfl ?_
      refine kx_Vv 44 (ci := 0) F (As := []) (st := []) vd_X12_199 (c_X12_ahead G l M c0 hI_M hk_c0) hk_c0 rfl rfl rfl ⟨by decide, by decide⟩ rfl rfl (Nat.le_of_ble_eq_true rfl) dX12_aLetter_41 rfl ?_
      intro N_10 q_11
      obtain ⟨hI_N_10, hG_N_10, q_11c⟩ := q_11
      have hF_N_10 : Fr f_c_X12_aLetter M N_10 := Fr.c hF_M hG_N_10 rfl
      have h_12 := Inv.g hI_N_10 hk_c0 rfl 12 (a := 0) (b := 4) rfl rfl
      have h_13 := Inv.g hI_N_10 hk_c0 rfl 14 (a := 0) (b := 900) rfl rfl
      have h_14 := Inv.g hI_N_10 hk_c0 rfl 12 (a := 0) (b := 4) rfl rfl
      have h_15 := Inv.g hI_N_10 hk_c0 rfl 14 (a := 0) (b := 900) rfl rfl
      rcases q_11c with q_11c | q_11c
      · refine kx_aload_n 45 F 0 dX12_aLetter_44 rfl rfl rfl ?_
        refine kx_ldcS 47 F 11 (by decide) rfl rfl dX12_aLetter_45 rfl ?_
        refine kx_Vi 50 (ci := 0) F (As := [vT G 11]) (st := []) vd_X12_224 (c_X12_isName G l N_10 c0 hI_N_10 hk_c0) hk_c0 rfl rfl rfl ⟨by decide, by decide⟩ rfl rfl (Nat.le_of_ble_eq_true rfl) dX12_aLetter_47 rfl ?_
        intro r_16 N_17 q_18
        obtain ⟨rfl, q_18c⟩ := q_18
        rcases q_18c with q_18c | q_18c
        · exfalso; omega
        · refine kx_if_ne 53 F 59 dX12_aLetter_50 (by decide) rfl (by omega) (fun h_19 => (by exfalso; omega)) (fun h_19 => ?_)
          refine kx_aload_n 54 F 0 dX12_aLetter_53 rfl rfl rfl ?_
          refine kx_iconst 55 F dX12_aLetter_54 rfl ?_
          refine kx_Vi 58 (ci := 0) F (As := [vI 2]) (st := []) vd_X12_205 (c_X12_fails G l N_10 c0 2 hI_N_10 hk_c0 (by omega)) hk_c0 rfl rfl rfl ⟨by decide, by decide⟩ rfl rfl (Nat.le_of_ble_eq_true rfl) dX12_aLetter_55 rfl ?_
          intro r_20 N_21 q_22
          obtain ⟨hI_N_21, hG_N_21, q_22c⟩ := q_22
          have hF_N_21 : Fr f_c_X12_aLetter M N_21 := Fr.c hF_N_10 hG_N_21 rfl
          subst q_22c
          have e_23 : (N_21 c0 14) = (N_10 c0 14) := by rw [Fr.e hG_N_21 hk_c0 _ rfl]
          have e_24 : (N_21 c0 12) = (N_10 c0 12) := by rw [Fr.e hG_N_21 hk_c0 _ rfl]
          have e_25 : (N_21 c0 14) = (N_10 c0 14) := by rw [Fr.e hG_N_21 hk_c0 _ rfl]
          have e_26 : (N_21 c0 12) = (N_10 c0 12) := by rw [Fr.e hG_N_21 hk_c0 _ rfl]
          exact kx_zret F hQ (by omega) ⟨hI_N_21, hF_N_21, (by omega)⟩ dX12_aLetter_58
      · refine kx_aload_n 45 F 0 dX12_aLetter_44 rfl rfl rfl ?_
        refine kx_ldcS 47 F 11 (by decide) rfl rfl dX12_aLetter_45 rfl ?_
        refine kx_Vi 50 (ci := 0) F (As := [vT G 11]) (st := []) vd_X12_224 (c_X12_isName G l N_10 c0 hI_N_10 hk_c0) hk_c0 rfl rfl rfl ⟨by decide, by decide⟩ rfl rfl (Nat.le_of_ble_eq_true rfl) dX12_aLetter_47 rfl ?_
        intro r_27 N_28 q_29
        obtain ⟨rfl, q_29c⟩ := q_29
        rcases q_29c with q_29c | q_29c
        · refine kx_if_ne 53 F 59 dX12_aLetter_50 (by decide) rfl (by omega) (fun h_30 => ?_) (fun h_30 => (by exfalso; omega))
          refine kx_aload_n 60 F 0 dX12_aLetter_59 rfl rfl rfl ?_
          refine kx_Vi 63 (ci := 0) F (As := []) (st := []) vd_X12_228 (c_X12_letterHere G l N_10 c0 hI_N_10 hk_c0) hk_c0 rfl rfl rfl ⟨by decide, by decide⟩ rfl rfl (Nat.le_of_ble_eq_true rfl) dX12_aLetter_60 rfl ?_
          intro r_31 N_32 q_33
          obtain ⟨rfl, q_33c⟩ := q_33
          refine kx_iconst 64 F dX12_aLetter_63 rfl ?_
          refine kx_icmp_eq 67 F 73 dX12_aLetter_64 (by decide) rfl (by omega) (by decide) (fun h_34 => ?_) (fun h_34 => ?_)
          · refine kx_aload_n 74 F 0 dX12_aLetter_73 rfl rfl rfl ?_
            refine kx_getr 77 F fl_X12_13 hk_c0 rfl rfl (j := 1) rfl dX12_aLetter_74 (v := (M c0 1)) (by rw [Fr.e hG_N_10 hk_c0 _ rfl]) rfl ?_
            have hk_35 : kd (M c0 1) = 66 := Inv.r hI_M hk_c0 rfl 1 rfl rfl
            refine kx_bipush 79 F dX12_aLetter_77 (by decide) rfl ?_
            refine kx_iconst 80 F dX12_aLetter_79 rfl ?_
            refine kx_iload_n 81 F 1 dX12_aLetter_80 rfl rfl rfl ?_
            refine kx_imul 82 F (v := 2 * a1) dX12_aLetter_81 (by omega) rfl ?_
            refine kx_iadd 83 F (v := 2 * a1 + 24) dX12_aLetter_82 (by omega) rfl ?_
            refine kx_iload_n 84 F 2 dX12_aLetter_83 rfl rfl rfl ?_
            refine kx_iadd 85 F (v := 2 * a1 + (M (M c0 0) (a1 + 1088)) + 24) dX12_aLetter_84 (by omega) rfl ?_
            refine kx_aload_n 86 F 0 dX12_aLetter_85 rfl rfl rfl ?_
            refine kx_Vl 89 (ci := 0) F (As := []) (st := [vI (2 * a1 + (M (M c0 0) (a1 + 1088)) + 24), vR G (M c0 1)]) vd_X12_212 (c_X12_nameHere G l N_10 c0 hI_N_10 hk_c0) hk_c0 rfl rfl rfl ⟨by decide, by decide⟩ rfl rfl (Nat.le_of_ble_eq_true rfl) dX12_aLetter_86 rfl ?_
            intro r_36 N_37 q_38
            obtain ⟨rfl, q_38c⟩ := q_38
            refine kx_last 90 F hk_35 rfl rfl (by omega) (by decide) dX12_aLetter_89 rfl ?_
            intro N_39 hM_N_39
            have hI_N_39 : Inv true N_39 := Inv.u hI_N_10 hM_N_39 hk_35 (a := (-9223372036854775808)) (b := 9223372036854775807) rfl rfl rfl (by omega)
            have hF_N_39 : Fr f_c_X12_aLetter M N_39 := Fr.u hF_N_10 hM_N_39 hk_35 rfl
            refine kx_aload_n 91 F 0 dX12_aLetter_90 rfl rfl rfl ?_
            refine kx_getr 94 F fl_X12_7 hk_c0 rfl rfl (j := 0) rfl dX12_aLetter_91 (v := (M c0 0)) (by rw [hM_N_39, mu_k hk_c0 hk_35 rfl, Fr.e hG_N_10 hk_c0 _ rfl]) rfl ?_
            refine kx_sipush 97 F dX12_aLetter_94 (by decide) rfl ?_
            refine kx_iload_n 98 F 1 dX12_aLetter_97 rfl rfl rfl ?_
            refine kx_iadd 99 F (v := a1 + 1088) dX12_aLetter_98 (by omega) rfl ?_
            refine kx_dup2 100 F dX12_aLetter_99 rfl rfl rfl ?_
            refine kx_iald 101 F hk_3 rfl rfl (by omega) (by decide) dX12_aLetter_100 (v := (M (M c0 0) (a1 + 1088))) (by rw [hM_N_39, mu_k hk_3 hk_35 rfl, Fr.e hG_N_10 hk_3 _ rfl]) rfl ?_
            refine kx_iconst 102 F dX12_aLetter_101 rfl ?_
            refine kx_iadd 103 F (v := (M (M c0 0) (a1 + 1088)) + 1) dX12_aLetter_102 rfl rfl ?_
            refine kx_iast 104 F hk_3 rfl rfl (by omega) (by decide) dX12_aLetter_103 rfl ?_
            intro N_40 hM_N_40
            have hI_N_40 : Inv true N_40 := Inv.u hI_N_39 hM_N_40 hk_3 (a := 0) (b := 2) ha_4.1 ha_4.2 rfl (by omega)
            have hF_N_40 : Fr f_c_X12_aLetter M N_40 := Fr.u hF_N_39 hM_N_40 hk_3 rfl
            refine kx_aload_n 105 F 0 dX12_aLetter_104 rfl rfl rfl ?_
            refine kx_Vv 108 (ci := 0) F (As := []) (st := []) vd_X12_199 (c_X12_ahead G l N_40 c0 hI_N_40 hk_c0) hk_c0 rfl rfl rfl ⟨by decide, by decide⟩ rfl rfl (Nat.le_of_ble_eq_true rfl) dX12_aLetter_105 rfl ?_
            intro N_41 q_42
            obtain ⟨hI_N_41, hG_N_41, q_42c⟩ := q_42
            have hF_N_41 : Fr f_c_X12_aLetter M N_41 := Fr.c hF_N_40 hG_N_41 rfl
            have h_43 := Inv.g hI_N_41 hk_c0 rfl 12 (a := 0) (b := 4) rfl rfl
            have e_44 : (N_40 c0 14) = (N_10 c0 14) := by rw [hM_N_40, mu_k hk_c0 hk_3 rfl, hM_N_39, mu_k hk_c0 hk_35 rfl]
            have h_45 := Inv.g hI_N_41 hk_c0 rfl 14 (a := 0) (b := 900) rfl rfl
            have h_46 := Inv.g hI_N_41 hk_c0 rfl 12 (a := 0) (b := 4) rfl rfl
            have e_47 : (N_40 c0 14) = (N_10 c0 14) := by rw [hM_N_40, mu_k hk_c0 hk_3 rfl, hM_N_39, mu_k hk_c0 hk_35 rfl]
            have h_48 := Inv.g hI_N_41 hk_c0 rfl 14 (a := 0) (b := 900) rfl rfl
            rcases q_42c with q_42c | q_42c
            · refine kx_iconst 109 F dX12_aLetter_108 rfl ?_
              exact kx_zret F hQ (by omega) ⟨hI_N_41, hF_N_41, (by omega)⟩ dX12_aLetter_109
            · refine kx_iconst 109 F dX12_aLetter_108 rfl ?_
              exact kx_zret F hQ (by omega) ⟨hI_N_41, hF_N_41, (by omega)⟩ dX12_aLetter_109
          · refine kx_aload_n 68 F 0 dX12_aLetter_67 rfl rfl rfl ?_
            refine kx_iconst 69 F dX12_aLetter_68 rfl ?_
            refine kx_Vi 72 (ci := 0) F (As := [vI 3]) (st := []) vd_X12_205 (c_X12_fails G l N_10 c0 3 hI_N_10 hk_c0 (by omega)) hk_c0 rfl rfl rfl ⟨by decide, by decide⟩ rfl rfl (Nat.le_of_ble_eq_true rfl) dX12_aLetter_69 rfl ?_
            intro r_49 N_50 q_51
            obtain ⟨hI_N_50, hG_N_50, q_51c⟩ := q_51
            have hF_N_50 : Fr f_c_X12_aLetter M N_50 := Fr.c hF_N_10 hG_N_50 rfl
            subst q_51c
            have e_52 : (N_50 c0 14) = (N_10 c0 14) := by rw [Fr.e hG_N_50 hk_c0 _ rfl]
            have e_53 : (N_50 c0 12) = (N_10 c0 12) := by rw [Fr.e hG_N_50 hk_c0 _ rfl]
            have e_54 : (N_50 c0 14) = (N_10 c0 14) := by rw [Fr.e hG_N_50 hk_c0 _ rfl]
            have e_55 : (N_50 c0 12) = (N_10 c0 12) := by rw [Fr.e hG_N_50 hk_c0 _ rfl]
            exact kx_zret F hQ (by omega) ⟨hI_N_50, hF_N_50, (by omega)⟩ dX12_aLetter_72
        · refine kx_if_ne 53 F 59 dX12_aLetter_50 (by decide) rfl (by omega) (fun h_56 => (by exfalso; omega)) (fun h_56 => ?_)
          refine kx_aload_n 54 F 0 dX12_aLetter_53 rfl rfl rfl ?_
          refine kx_iconst 55 F dX12_aLetter_54 rfl ?_
          refine kx_Vi 58 (ci := 0) F (As := [vI 2]) (st := []) vd_X12_205 (c_X12_fails G l N_10 c0 2 hI_N_10 hk_c0 (by omega)) hk_c0 rfl rfl rfl ⟨by decide, by decide⟩ rfl rfl (Nat.le_of_ble_eq_true rfl) dX12_aLetter_55 rfl ?_
          intro r_57 N_58 q_59
          obtain ⟨hI_N_58, hG_N_58, q_59c⟩ := q_59
          have hF_N_58 : Fr f_c_X12_aLetter M N_58 := Fr.c hF_N_10 hG_N_58 rfl
          subst q_59c
          have e_60 : (N_58 c0 14) = (N_10 c0 14) := by rw [Fr.e hG_N_58 hk_c0 _ rfl]
          have e_61 : (N_58 c0 12) = (N_10 c0 12) := by rw [Fr.e hG_N_58 hk_c0 _ rfl]
          have e_62 : (N_58 c0 14) = (N_10 c0 14) := by rw [Fr.e hG_N_58 hk_c0 _ rfl]
          have e_63 : (N_58 c0 12) = (N_10 c0 12) := by rw [Fr.e hG_N_58 hk_c0 _ rfl]
          exact kx_zret F hQ (by omega) ⟨hI_N_58, hF_N_58, (by omega)⟩ dX12_aLetter_58
    · refine kx_aload_n 34 F 0 dX12_aLetter_33 rfl rfl rfl ?_
      refine kx_bipush 36 F dX12_aLetter_34 (by decide) rfl ?_
      refine kx_Vi 39 (ci := 0) F (As := [vI 6]) (st := []) vd_X12_205 (c_X12_fails G l M c0 6 hI_M hk_c0 (by omega)) hk_c0 rfl rfl rfl ⟨by decide, by decide⟩ rfl rfl (Nat.le_of_ble_eq_true rfl) dX12_aLetter_36 rfl ?_
      intro r_64 N_65 q_66
      obtain ⟨hI_N_65, hG_N_65, q_66c⟩ := q_66
      have hF_N_65 : Fr f_c_X12_aLetter M N_65 := Fr.c hF_M hG_N_65 rfl
      subst q_66c
      have e_67 : (N_65 c0 14) = (M c0 14) := by rw [Fr.e hG_N_65 hk_c0 _ rfl]
      have e_68 : (N_65 c0 12) = (M c0 12) := by rw [Fr.e hG_N_65 hk_c0 _ rfl]
      have e_69 : (N_65 c0 14) = (M c0 14) := by rw [Fr.e hG_N_65 hk_c0 _ rfl]
      have e_70 : (N_65 c0 12) = (M c0 12) := by rw [Fr.e hG_N_65 hk_c0 _ rfl]
      exact kx_zret F hQ (by omega) ⟨hI_N_65, hF_N_65, (by omega)⟩ dX12_aLetter_39
  · refine kx_aload_n 23 F 0 dX12_aLetter_22 rfl rfl rfl ?_
    refine kx_iconst 24 F dX12_aLetter_23 rfl ?_
    refine kx_Vi 27 (ci := 0) F (As := [vI 5]) (st := []) vd_X12_205 (c_X12_fails G l M c0 5 hI_M hk_c0 (by omega)) hk_c0 rfl rfl rfl ⟨by decide, by decide⟩ rfl rfl (Nat.le_of_ble_eq_true rfl) dX12_aLetter_24 rfl ?_
    intro r_71 N_72 q_73
    obtain ⟨hI_N_72, hG_N_72, q_73c⟩ := q_73
    have hF_N_72 : Fr f_c_X12_aLetter M N_72 := Fr.c hF_M hG_N_72 rfl
    subst q_73c
    have e_74 : (N_72 c0 14) = (M c0 14) := by rw [Fr.e hG_N_72 hk_c0 _ rfl]
    have e_75 : (N_72 c0 12) = (M c0 12) := by rw [Fr.e hG_N_72 hk_c0 _ rfl]
    have e_76 : (N_72 c0 14) = (M c0 14) := by rw [Fr.e hG_N_72 hk_c0 _ rfl]
    have e_77 : (N_72 c0 12) = (M c0 12) := by rw [Fr.e hG_N_72 hk_c0 _ rfl]
    exact kx_zret F hQ (by omega) ⟨hI_N_72, hF_N_72, (by omega)⟩ dX12_aLetter_27
theorem dX12_anAutomaton_0 : decode cX12_anAutomaton 0 = .ok (.aload_n 0, 1) := by decide +kernel
theorem dX12_anAutomaton_1 : decode cX12_anAutomaton 1 = .ok (.getfield 7, 3) := by decide +kernel
theorem dX12_anAutomaton_4 : decode cX12_anAutomaton 4 = .ok (.sipush 1091, 3) := by decide +kernel
theorem dX12_anAutomaton_7 : decode cX12_anAutomaton 7 = .ok (.iaload, 1) := by decide +kernel
theorem dX12_anAutomaton_8 : decode cX12_anAutomaton 8 = .ok (.istore_n 1, 1) := by decide +kernel
theorem dX12_anAutomaton_9 : decode cX12_anAutomaton 9 = .ok (.iload_n 1, 1) := by decide +kernel
theorem dX12_anAutomaton_10 : decode cX12_anAutomaton 10 = .ok (.iconst 2, 1) := by decide +kernel
theorem dX12_anAutomaton_11 : decode cX12_anAutomaton 11 = .ok (.if_icmp .ne 10, 3) := by decide +kernel
theorem dX12_anAutomaton_14 : decode cX12_anAutomaton 14 = .ok (.aload_n 0, 1) := by decide +kernel
theorem dX12_anAutomaton_15 : decode cX12_anAutomaton 15 = .ok (.bipush 6, 2) := by decide +kernel
theorem dX12_anAutomaton_17 : decode cX12_anAutomaton 17 = .ok (.invokevirtual 205, 3) := by decide +kernel
theorem dX12_anAutomaton_20 : decode cX12_anAutomaton 20 = .ok (.ireturn, 1) := by decide +kernel
theorem dX12_anAutomaton_21 : decode cX12_anAutomaton 21 = .ok (.sipush 1088, 3) := by decide +kernel
theorem dX12_anAutomaton_24 : decode cX12_anAutomaton 24 = .ok (.iload_n 1, 1) := by decide +kernel
theorem dX12_anAutomaton_25 : decode cX12_anAutomaton 25 = .ok (.invokestatic 216, 3) := by decide +kernel
theorem dX12_anAutomaton_28 : decode cX12_anAutomaton 28 = .ok (.istore_n 2, 1) := by decide +kernel
theorem dX12_anAutomaton_29 : decode cX12_anAutomaton 29 = .ok (.aload_n 0, 1) := by decide +kernel
theorem dX12_anAutomaton_30 : decode cX12_anAutomaton 30 = .ok (.invokevirtual 199, 3) := by decide +kernel
theorem dX12_anAutomaton_33 : decode cX12_anAutomaton 33 = .ok (.aload_n 0, 1) := by decide +kernel
theorem dX12_anAutomaton_34 : decode cX12_anAutomaton 34 = .ok (.iload_n 2, 1) := by decide +kernel
theorem dX12_anAutomaton_35 : decode cX12_anAutomaton 35 = .ok (.iconst 1, 1) := by decide +kernel
theorem dX12_anAutomaton_36 : decode cX12_anAutomaton 36 = .ok (.iconst 3, 1) := by decide +kernel
theorem dX12_anAutomaton_37 : decode cX12_anAutomaton 37 = .ok (.invokevirtual 231, 3) := by decide +kernel
theorem dX12_anAutomaton_40 : decode cX12_anAutomaton 40 = .ok (.ifCond .eq 26, 3) := by decide +kernel
theorem dX12_anAutomaton_43 : decode cX12_anAutomaton 43 = .ok (.aload_n 0, 1) := by decide +kernel
theorem dX12_anAutomaton_44 : decode cX12_anAutomaton 44 = .ok (.ldc 219, 2) := by decide +kernel
theorem dX12_anAutomaton_46 : decode cX12_anAutomaton 46 = .ok (.bipush 7, 2) := by decide +kernel
theorem dX12_anAutomaton_48 : decode cX12_anAutomaton 48 = .ok (.invokevirtual 235, 3) := by decide +kernel
theorem dX12_anAutomaton_51 : decode cX12_anAutomaton 51 = .ok (.ifCond .eq 15, 3) := by decide +kernel
theorem dX12_anAutomaton_54 : decode cX12_anAutomaton 54 = .ok (.aload_n 0, 1) := by decide +kernel
theorem dX12_anAutomaton_55 : decode cX12_anAutomaton 55 = .ok (.iload_n 2, 1) := by decide +kernel
theorem dX12_anAutomaton_56 : decode cX12_anAutomaton 56 = .ok (.iconst 1, 1) := by decide +kernel
theorem dX12_anAutomaton_57 : decode cX12_anAutomaton 57 = .ok (.iadd, 1) := by decide +kernel
theorem dX12_anAutomaton_58 : decode cX12_anAutomaton 58 = .ok (.iconst 1, 1) := by decide +kernel
theorem dX12_anAutomaton_59 : decode cX12_anAutomaton 59 = .ok (.iconst 3, 1) := by decide +kernel
theorem dX12_anAutomaton_60 : decode cX12_anAutomaton 60 = .ok (.invokevirtual 231, 3) := by decide +kernel
theorem dX12_anAutomaton_63 : decode cX12_anAutomaton 63 = .ok (.ifCond .ne 5, 3) := by decide +kernel
theorem dX12_anAutomaton_66 : decode cX12_anAutomaton 66 = .ok (.iconst 0, 1) := by decide +kernel
theorem dX12_anAutomaton_67 : decode cX12_anAutomaton 67 = .ok (.ireturn, 1) := by decide +kernel
theorem dX12_anAutomaton_68 : decode cX12_anAutomaton 68 = .ok (.aload_n 0, 1) := by decide +kernel
theorem dX12_anAutomaton_69 : decode cX12_anAutomaton 69 = .ok (.getfield 7, 3) := by decide +kernel
theorem dX12_anAutomaton_72 : decode cX12_anAutomaton 72 = .ok (.iload_n 2, 1) := by decide +kernel
theorem dX12_anAutomaton_73 : decode cX12_anAutomaton 73 = .ok (.iconst 2, 1) := by decide +kernel
theorem dX12_anAutomaton_74 : decode cX12_anAutomaton 74 = .ok (.iadd, 1) := by decide +kernel
theorem dX12_anAutomaton_75 : decode cX12_anAutomaton 75 = .ok (.iconst 0, 1) := by decide +kernel
theorem dX12_anAutomaton_76 : decode cX12_anAutomaton 76 = .ok (.iastore, 1) := by decide +kernel
theorem dX12_anAutomaton_77 : decode cX12_anAutomaton 77 = .ok (.aload_n 0, 1) := by decide +kernel
theorem dX12_anAutomaton_78 : decode cX12_anAutomaton 78 = .ok (.getfield 7, 3) := by decide +kernel
theorem dX12_anAutomaton_81 : decode cX12_anAutomaton 81 = .ok (.iload_n 2, 1) := by decide +kernel
theorem dX12_anAutomaton_82 : decode cX12_anAutomaton 82 = .ok (.iconst 3, 1) := by decide +kernel
theorem dX12_anAutomaton_83 : decode cX12_anAutomaton 83 = .ok (.iadd, 1) := by decide +kernel
theorem dX12_anAutomaton_84 : decode cX12_anAutomaton 84 = .ok (.iconst 0, 1) := by decide +kernel
theorem dX12_anAutomaton_85 : decode cX12_anAutomaton 85 = .ok (.iastore, 1) := by decide +kernel
theorem dX12_anAutomaton_86 : decode cX12_anAutomaton 86 = .ok (.aload_n 0, 1) := by decide +kernel
theorem dX12_anAutomaton_87 : decode cX12_anAutomaton 87 = .ok (.getfield 7, 3) := by decide +kernel
theorem dX12_anAutomaton_90 : decode cX12_anAutomaton 90 = .ok (.iload_n 2, 1) := by decide +kernel
theorem dX12_anAutomaton_91 : decode cX12_anAutomaton 91 = .ok (.iconst 4, 1) := by decide +kernel
theorem dX12_anAutomaton_92 : decode cX12_anAutomaton 92 = .ok (.iadd, 1) := by decide +kernel
theorem dX12_anAutomaton_93 : decode cX12_anAutomaton 93 = .ok (.iconst 0, 1) := by decide +kernel
theorem dX12_anAutomaton_94 : decode cX12_anAutomaton 94 = .ok (.iastore, 1) := by decide +kernel
theorem dX12_anAutomaton_95 : decode cX12_anAutomaton 95 = .ok (.aload_n 0, 1) := by decide +kernel
theorem dX12_anAutomaton_96 : decode cX12_anAutomaton 96 = .ok (.getfield 7, 3) := by decide +kernel
theorem dX12_anAutomaton_99 : decode cX12_anAutomaton 99 = .ok (.sipush 1091, 3) := by decide +kernel
theorem dX12_anAutomaton_102 : decode cX12_anAutomaton 102 = .ok (.dup2, 1) := by decide +kernel
theorem dX12_anAutomaton_103 : decode cX12_anAutomaton 103 = .ok (.iaload, 1) := by decide +kernel
theorem dX12_anAutomaton_104 : decode cX12_anAutomaton 104 = .ok (.iconst 1, 1) := by decide +kernel
theorem dX12_anAutomaton_105 : decode cX12_anAutomaton 105 = .ok (.iadd, 1) := by decide +kernel
theorem dX12_anAutomaton_106 : decode cX12_anAutomaton 106 = .ok (.iastore, 1) := by decide +kernel
theorem dX12_anAutomaton_107 : decode cX12_anAutomaton 107 = .ok (.iconst 1, 1) := by decide +kernel
theorem dX12_anAutomaton_108 : decode cX12_anAutomaton 108 = .ok (.ireturn, 1) := by decide +kernel
abbrev f_c_X12_anAutomaton : List (Nat × Int) := [(64, 12), (64, 13), (64, 14), (64, 15), (64, 17), (64, 18), (65, -1)]
set_option maxHeartbeats 4000000 in
set_option maxRecDepth 100000 in
theorem c_X12_anAutomaton (G : KG) (l : Launch) (M : Mem) (c0 : Int) (hI_M : Inv true M) (hk_c0 : kd c0 = 64) : KC true G l yX12_anAutomaton cX12_anAutomaton 3 (some .boolean) (6, 133) [vR G c0] M (fun A => kQi true G A (fun (r : Int) (N : Mem) => Inv true N ∧ Fr f_c_X12_anAutomaton M N ∧ ((r = 1 ∧ 5 * (N c0 14) - (N c0 12) ≥ 5 * (M c0 14) - (M c0 12) + 1) ∨ (r = 0 ∧ 5 * (N c0 14) - (N c0 12) ≥ 5 * (M c0 14) - (M c0 12))))) := by
  refine kx_met (lo := [some (vR G c0), none, none]) (by decide) (Nat.le_of_ble_eq_true rfl) rfl ?_
  intro X F hQ
  have hF_M : Fr f_c_X12_anAutomaton M M := Fr.rf _ _
  have h_1 := Inv.g hI_M hk_c0 rfl 14 (a := 0) (b := 900) rfl rfl
  have h_2 := Inv.g hI_M hk_c0 rfl 12 (a := 0) (b := 4) rfl rfl
  refine kx_aload_n 1 F 0 dX12_anAutomaton_0 rfl rfl rfl ?_
  refine kx_getr 4 F fl_X12_7 hk_c0 rfl rfl (j := 0) rfl dX12_anAutomaton_1 (v := (M c0 0)) rfl rfl ?_
  have hk_3 : kd (M c0 0) = 65 := Inv.r hI_M hk_c0 rfl 0 rfl rfl
  refine kx_sipush 7 F dX12_anAutomaton_4 (by decide) rfl ?_
  refine kx_iald 8 F hk_3 rfl rfl (by omega) (by decide) dX12_anAutomaton_7 (v := (M (M c0 0) 1091)) rfl rfl ?_
  have ha_4 : atlo 1091 = 0 ∧ athi 1091 = 2 := at_c 1091 4 (o := 3) (lo := 0) (hi := 2) (by omega) (by decide) (by decide) (by decide)
  have h_5 := Inv.g hI_M hk_3 rfl 1091 (a := 0) (b := 2) ha_4.1 ha_4.2
  refine kx_istore_n 9 F 1 (lo' := [some (vR G c0), some (vI (M (M c0 0) 1091)), none]) dX12_anAutomaton_8 rfl (by decide) rfl rfl rfl ?_
  refine kx_iload_n 10 F 1 dX12_anAutomaton_9 rfl rfl rfl ?_
  refine kx_iconst 11 F dX12_anAutomaton_10 rfl ?_
  refine kx_icmp_ne 14 F 21 dX12_anAutomaton_11 (by decide) rfl (by omega) (by decide) (fun h_6 => ?_) (fun h_6 => ?_)
  · refine kx_sipush 24 F dX12_anAutomaton_21 (by decide) rfl ?_
    refine kx_iload_n 25 F 1 dX12_anAutomaton_24 rfl rfl rfl ?_
    refine kx_Si 28 F (As := [vI 1088, vI (M (M c0 0) 1091)]) (st := []) sd_X12_216 (c_X12_rowOf G l M 1088 (M (M c0 0) 1091) hI_M (by omega)) ⟨by decide, by decide⟩ rfl rfl (Nat.le_of_ble_eq_true rfl) dX12_anAutomaton_25 rfl ?_
    intro r_7 N_8 q_9
    obtain ⟨rfl, q_9c⟩ := q_9
    refine kx_topi (e' := 85 * (M (M c0 0) 1091) + 1188) (by omega) ?_
    refine kx_istore_n 29 F 2 (lo' := [some (vR G c0), some (vI (M (M c0 0) 1091)), some (vI (85 * (M (M c0 0) 1091) + 1188))]) dX12_anAutomaton_28 rfl (by decide) rfl rfl rfl ?_
    refine kx_aload_n 30 F 0 dX12_anAutomaton_29 rfl rfl rfl ?_
    refine kx_Vv 33 (ci := 0) F (As := []) (st := []) vd_X12_199 (c_X12_ahead G l M c0 hI_M hk_c0) hk_c0 rfl rfl rfl ⟨by decide, by decide⟩ rfl rfl (Nat.le_of_ble_eq_true rfl) dX12_anAutomaton_30 rfl ?_
    intro N_10 q_11
    obtain ⟨hI_N_10, hG_N_10, q_11c⟩ := q_11
    have hF_N_10 : Fr f_c_X12_anAutomaton M N_10 := Fr.c hF_M hG_N_10 rfl
    have h_12 := Inv.g hI_N_10 hk_c0 rfl 12 (a := 0) (b := 4) rfl rfl
    have h_13 := Inv.g hI_N_10 hk_c0 rfl 14 (a := 0) (b := 900) rfl rfl
    have h_14 := Inv.g hI_N_10 hk_c0 rfl 12 (a := 0) (b := 4) rfl rfl
    have h_15 := Inv.g hI_N_10 hk_c0 rfl 14 (a := 0) (b := 900) rfl rfl
    rcases q_11c with q_11c | q_11c
    · refine kx_aload_n 34 F 0 dX12_anAutomaton_33 rfl rfl rfl ?_
      refine kx_iload_n 35 F 2 dX12_anAutomaton_34 rfl rfl rfl ?_
      refine kx_iconst 36 F dX12_anAutomaton_35 rfl ?_
      refine kx_iconst 37 F dX12_anAutomaton_36 rfl ?_
      have ha_16 : atlo (85 * (M (M c0 0) 1091) + 1188) = 0 ∧ athi (85 * (M (M c0 0) 1091) + 1188) = 3 := at_a (85 * (M (M c0 0) 1091) + 1188) 4 (M (M c0 0) 1091) 0 (by omega) (by omega) (by decide)
      refine kx_Vi 40 (ci := 0) F (As := [vI (85 * (M (M c0 0) 1091) + 1188), vI 1, vI 3]) (st := []) vd_X12_231 (c_X12_number G l N_10 c0 (85 * (M (M c0 0) 1091) + 1188) 1 3 hI_N_10 hk_c0 (by omega)) hk_c0 rfl rfl rfl ⟨by decide, by decide⟩ rfl rfl (Nat.le_of_ble_eq_true rfl) dX12_anAutomaton_37 rfl ?_
      intro r_17 N_18 q_19
      obtain ⟨hI_N_18, hG_N_18, q_19c, hx_N_18⟩ := q_19
      have hF_N_18 : Fr f_c_X12_anAutomaton M N_18 := Fr.c hF_N_10 hG_N_18 rfl
      have hat_N_18 : ∀ j, ¬ j = 85 * (M (M c0 0) 1091) + 1188 → N_18 (M c0 0) j = N_10 (M c0 0) j := by
        intro j hj
        have hq := hx_N_18 j hj
        rw [show N_10 c0 0 = M c0 0 by rw [Fr.e hG_N_10 hk_c0 _ rfl]] at hq; exact hq
      have h_20 := Inv.g hI_N_18 hk_c0 rfl 14 (a := 0) (b := 900) rfl rfl
      have h_21 := Inv.g hI_N_18 hk_c0 rfl 12 (a := 0) (b := 4) rfl rfl
      have e_22 : (N_10 c0 0) = (M c0 0) := by rw [Fr.e hG_N_10 hk_c0 _ rfl]
      have e_23 : (N_18 (N_10 c0 0) (85 * (M (M c0 0) 1091) + 1188)) = (N_18 (M c0 0) (85 * (M (M c0 0) 1091) + 1188)) := by rw [e_22]
      have e_24 : (N_10 c0 0) = (M c0 0) := by rw [Fr.e hG_N_10 hk_c0 _ rfl]
      have e_25 : (N_18 (N_10 c0 0) (85 * (M (M c0 0) 1091) + 1188)) = (N_18 (M c0 0) (85 * (M (M c0 0) 1091) + 1188)) := by rw [e_24]
      have h_26 := Inv.g hI_N_18 hk_c0 rfl 14 (a := 0) (b := 900) rfl rfl
      have h_27 := Inv.g hI_N_18 hk_c0 rfl 12 (a := 0) (b := 4) rfl rfl
      rcases q_19c with q_19c | q_19c
      · refine kx_if_eq 43 F 66 dX12_anAutomaton_40 (by decide) rfl (by omega) (fun h_28 => (by exfalso; omega)) (fun h_28 => ?_)
        refine kx_aload_n 44 F 0 dX12_anAutomaton_43 rfl rfl rfl ?_
        refine kx_ldcS 46 F 11 (by decide) rfl rfl dX12_anAutomaton_44 rfl ?_
        refine kx_bipush 48 F dX12_anAutomaton_46 (by decide) rfl ?_
        refine kx_Vi 51 (ci := 0) F (As := [vT G 11, vI 7]) (st := []) vd_X12_235 (c_X12_wantWord G l N_18 c0 7 hI_N_18 hk_c0 (by omega)) hk_c0 rfl rfl rfl ⟨by decide, by decide⟩ rfl rfl (Nat.le_of_ble_eq_true rfl) dX12_anAutomaton_48 rfl ?_
        intro r_29 N_30 q_31
        obtain ⟨hI_N_30, hG_N_30, q_31c⟩ := q_31
        have hF_N_30 : Fr f_c_X12_anAutomaton M N_30 := Fr.c hF_N_18 hG_N_30 rfl
        have h_32 := Inv.g hI_N_30 hk_c0 rfl 14 (a := 0) (b := 900) rfl rfl
        have h_33 := Inv.g hI_N_30 hk_c0 rfl 12 (a := 0) (b := 4) rfl rfl
        have h_34 := Inv.g hI_N_30 hk_c0 rfl 14 (a := 0) (b := 900) rfl rfl
        have h_35 := Inv.g hI_N_30 hk_c0 rfl 12 (a := 0) (b := 4) rfl rfl
        rcases q_31c with q_31c | q_31c
        · refine kx_if_eq 54 F 66 dX12_anAutomaton_51 (by decide) rfl (by omega) (fun h_36 => (by exfalso; omega)) (fun h_36 => ?_)
          refine kx_aload_n 55 F 0 dX12_anAutomaton_54 rfl rfl rfl ?_
          refine kx_iload_n 56 F 2 dX12_anAutomaton_55 rfl rfl rfl ?_
          refine kx_iconst 57 F dX12_anAutomaton_56 rfl ?_
          refine kx_iadd 58 F (v := 85 * (M (M c0 0) 1091) + 1189) dX12_anAutomaton_57 (by omega) rfl ?_
          refine kx_iconst 59 F dX12_anAutomaton_58 rfl ?_
          refine kx_iconst 60 F dX12_anAutomaton_59 rfl ?_
          have ha_37 : atlo (85 * (M (M c0 0) 1091) + 1189) = 0 ∧ athi (85 * (M (M c0 0) 1091) + 1189) = 3 := at_a (85 * (M (M c0 0) 1091) + 1189) 4 (M (M c0 0) 1091) 1 (by omega) (by omega) (by decide)
          refine kx_Vi 63 (ci := 0) F (As := [vI (85 * (M (M c0 0) 1091) + 1189), vI 1, vI 3]) (st := []) vd_X12_231 (c_X12_number G l N_30 c0 (85 * (M (M c0 0) 1091) + 1189) 1 3 hI_N_30 hk_c0 (by omega)) hk_c0 rfl rfl rfl ⟨by decide, by decide⟩ rfl rfl (Nat.le_of_ble_eq_true rfl) dX12_anAutomaton_60 rfl ?_
          intro r_38 N_39 q_40
          obtain ⟨hI_N_39, hG_N_39, q_40c, hx_N_39⟩ := q_40
          have hF_N_39 : Fr f_c_X12_anAutomaton M N_39 := Fr.c hF_N_30 hG_N_39 rfl
          have hat_N_39 : ∀ j, ¬ j = 85 * (M (M c0 0) 1091) + 1189 → N_39 (M c0 0) j = N_30 (M c0 0) j := by
            intro j hj
            have hq := hx_N_39 j hj
            rw [show N_30 c0 0 = M c0 0 by rw [Fr.e hG_N_30 hk_c0 _ rfl, Fr.e hG_N_18 hk_c0 _ rfl, Fr.e hG_N_10 hk_c0 _ rfl]] at hq; exact hq
          have h_41 := Inv.g hI_N_39 hk_c0 rfl 14 (a := 0) (b := 900) rfl rfl
          have h_42 := Inv.g hI_N_39 hk_c0 rfl 12 (a := 0) (b := 4) rfl rfl
          have e_43 : (N_30 c0 0) = (M c0 0) := by rw [Fr.e hG_N_30 hk_c0 _ rfl, Fr.e hG_N_18 hk_c0 _ rfl, Fr.e hG_N_10 hk_c0 _ rfl]
          have e_44 : (N_39 (N_30 c0 0) (85 * (M (M c0 0) 1091) + 1189)) = (N_39 (M c0 0) (85 * (M (M c0 0) 1091) + 1189)) := by rw [e_43]
          have e_45 : (N_30 c0 0) = (M c0 0) := by rw [Fr.e hG_N_30 hk_c0 _ rfl, Fr.e hG_N_18 hk_c0 _ rfl, Fr.e hG_N_10 hk_c0 _ rfl]
          have e_46 : (N_39 (N_30 c0 0) (85 * (M (M c0 0) 1091) + 1189)) = (N_39 (M c0 0) (85 * (M (M c0 0) 1091) + 1189)) := by rw [e_45]
          have h_47 := Inv.g hI_N_39 hk_c0 rfl 14 (a := 0) (b := 900) rfl rfl
          have h_48 := Inv.g hI_N_39 hk_c0 rfl 12 (a := 0) (b := 4) rfl rfl
          rcases q_40c with q_40c | q_40c
          · refine kx_if_ne 66 F 68 dX12_anAutomaton_63 (by decide) rfl (by omega) (fun h_49 => ?_) (fun h_49 => (by exfalso; omega))
            refine kx_aload_n 69 F 0 dX12_anAutomaton_68 rfl rfl rfl ?_
            refine kx_getr 72 F fl_X12_7 hk_c0 rfl rfl (j := 0) rfl dX12_anAutomaton_69 (v := (M c0 0)) (by rw [Fr.e hG_N_39 hk_c0 _ rfl, Fr.e hG_N_30 hk_c0 _ rfl, Fr.e hG_N_18 hk_c0 _ rfl, Fr.e hG_N_10 hk_c0 _ rfl]) rfl ?_
            refine kx_iload_n 73 F 2 dX12_anAutomaton_72 rfl rfl rfl ?_
            refine kx_iconst 74 F dX12_anAutomaton_73 rfl ?_
            refine kx_iadd 75 F (v := 85 * (M (M c0 0) 1091) + 1190) dX12_anAutomaton_74 (by omega) rfl ?_
            refine kx_iconst 76 F dX12_anAutomaton_75 rfl ?_
            refine kx_iast 77 F hk_3 rfl rfl (by omega) (by decide) dX12_anAutomaton_76 rfl ?_
            intro N_50 hM_N_50
            have ha_51 : atlo (85 * (M (M c0 0) 1091) + 1190) = 0 ∧ athi (85 * (M (M c0 0) 1091) + 1190) = 7 := at_a (85 * (M (M c0 0) 1091) + 1190) 4 (M (M c0 0) 1091) 2 (by omega) (by omega) (by decide)
            have hI_N_50 : Inv true N_50 := Inv.u hI_N_39 hM_N_50 hk_3 (a := 0) (b := 7) ha_51.1 ha_51.2 rfl (by omega)
            have hF_N_50 : Fr f_c_X12_anAutomaton M N_50 := Fr.u hF_N_39 hM_N_50 hk_3 rfl
            refine kx_aload_n 78 F 0 dX12_anAutomaton_77 rfl rfl rfl ?_
            refine kx_getr 81 F fl_X12_7 hk_c0 rfl rfl (j := 0) rfl dX12_anAutomaton_78 (v := (M c0 0)) (by rw [hM_N_50, mu_k hk_c0 hk_3 rfl, Fr.e hG_N_39 hk_c0 _ rfl, Fr.e hG_N_30 hk_c0 _ rfl, Fr.e hG_N_18 hk_c0 _ rfl, Fr.e hG_N_10 hk_c0 _ rfl]) rfl ?_
            refine kx_iload_n 82 F 2 dX12_anAutomaton_81 rfl rfl rfl ?_
            refine kx_iconst 83 F dX12_anAutomaton_82 rfl ?_
            refine kx_iadd 84 F (v := 85 * (M (M c0 0) 1091) + 1191) dX12_anAutomaton_83 (by omega) rfl ?_
            refine kx_iconst 85 F dX12_anAutomaton_84 rfl ?_
            refine kx_iast 86 F hk_3 rfl rfl (by omega) (by decide) dX12_anAutomaton_85 rfl ?_
            intro N_52 hM_N_52
            have ha_53 : atlo (85 * (M (M c0 0) 1091) + 1191) = 0 ∧ athi (85 * (M (M c0 0) 1091) + 1191) = 7 := at_a (85 * (M (M c0 0) 1091) + 1191) 4 (M (M c0 0) 1091) 3 (by omega) (by omega) (by decide)
            have hI_N_52 : Inv true N_52 := Inv.u hI_N_50 hM_N_52 hk_3 (a := 0) (b := 7) ha_53.1 ha_53.2 rfl (by omega)
            have hF_N_52 : Fr f_c_X12_anAutomaton M N_52 := Fr.u hF_N_50 hM_N_52 hk_3 rfl
            refine kx_aload_n 87 F 0 dX12_anAutomaton_86 rfl rfl rfl ?_
            refine kx_getr 90 F fl_X12_7 hk_c0 rfl rfl (j := 0) rfl dX12_anAutomaton_87 (v := (M c0 0)) (by rw [hM_N_52, mu_k hk_c0 hk_3 rfl, hM_N_50, mu_k hk_c0 hk_3 rfl, Fr.e hG_N_39 hk_c0 _ rfl, Fr.e hG_N_30 hk_c0 _ rfl, Fr.e hG_N_18 hk_c0 _ rfl, Fr.e hG_N_10 hk_c0 _ rfl]) rfl ?_
            refine kx_iload_n 91 F 2 dX12_anAutomaton_90 rfl rfl rfl ?_
            refine kx_iconst 92 F dX12_anAutomaton_91 rfl ?_
            refine kx_iadd 93 F (v := 85 * (M (M c0 0) 1091) + 1192) dX12_anAutomaton_92 (by omega) rfl ?_
            refine kx_iconst 94 F dX12_anAutomaton_93 rfl ?_
            refine kx_iast 95 F hk_3 rfl rfl (by omega) (by decide) dX12_anAutomaton_94 rfl ?_
            intro N_54 hM_N_54
            have ha_55 : atlo (85 * (M (M c0 0) 1091) + 1192) = 0 ∧ athi (85 * (M (M c0 0) 1091) + 1192) = 20 := at_a (85 * (M (M c0 0) 1091) + 1192) 4 (M (M c0 0) 1091) 4 (by omega) (by omega) (by decide)
            have hI_N_54 : Inv true N_54 := Inv.u hI_N_52 hM_N_54 hk_3 (a := 0) (b := 20) ha_55.1 ha_55.2 rfl (by omega)
            have hF_N_54 : Fr f_c_X12_anAutomaton M N_54 := Fr.u hF_N_52 hM_N_54 hk_3 rfl
            refine kx_aload_n 96 F 0 dX12_anAutomaton_95 rfl rfl rfl ?_
            refine kx_getr 99 F fl_X12_7 hk_c0 rfl rfl (j := 0) rfl dX12_anAutomaton_96 (v := (M c0 0)) (by rw [hM_N_54, mu_k hk_c0 hk_3 rfl, hM_N_52, mu_k hk_c0 hk_3 rfl, hM_N_50, mu_k hk_c0 hk_3 rfl, Fr.e hG_N_39 hk_c0 _ rfl, Fr.e hG_N_30 hk_c0 _ rfl, Fr.e hG_N_18 hk_c0 _ rfl, Fr.e hG_N_10 hk_c0 _ rfl]) rfl ?_
            refine kx_sipush 102 F dX12_anAutomaton_99 (by decide) rfl ?_
            refine kx_dup2 103 F dX12_anAutomaton_102 rfl rfl rfl ?_
            refine kx_iald 104 F hk_3 rfl rfl (by omega) (by decide) dX12_anAutomaton_103 (v := (M (M c0 0) 1091)) (by rw [hM_N_54, mu_i (by omega), hM_N_52, mu_i (by omega), hM_N_50, mu_i (by omega), hat_N_39 _ (by omega), Fr.e hG_N_30 hk_3 _ rfl, hat_N_18 _ (by omega), Fr.e hG_N_10 hk_3 _ rfl]) rfl ?_
            refine kx_iconst 105 F dX12_anAutomaton_104 rfl ?_
            refine kx_iadd 106 F (v := (M (M c0 0) 1091) + 1) dX12_anAutomaton_105 rfl rfl ?_
            refine kx_iast 107 F hk_3 rfl rfl (by omega) (by decide) dX12_anAutomaton_106 rfl ?_
            intro N_56 hM_N_56
            have hI_N_56 : Inv true N_56 := Inv.u hI_N_54 hM_N_56 hk_3 (a := 0) (b := 2) ha_4.1 ha_4.2 rfl (by omega)
            have hF_N_56 : Fr f_c_X12_anAutomaton M N_56 := Fr.u hF_N_54 hM_N_56 hk_3 rfl
            refine kx_iconst 108 F dX12_anAutomaton_107 rfl ?_
            have e_57 : (N_56 c0 14) = (N_39 c0 14) := by rw [hM_N_56, mu_k hk_c0 hk_3 rfl, hM_N_54, mu_k hk_c0 hk_3 rfl, hM_N_52, mu_k hk_c0 hk_3 rfl, hM_N_50, mu_k hk_c0 hk_3 rfl]
            have e_58 : (N_56 c0 12) = (N_39 c0 12) := by rw [hM_N_56, mu_k hk_c0 hk_3 rfl, hM_N_54, mu_k hk_c0 hk_3 rfl, hM_N_52, mu_k hk_c0 hk_3 rfl, hM_N_50, mu_k hk_c0 hk_3 rfl]
            have e_59 : (N_56 c0 14) = (N_39 c0 14) := by rw [hM_N_56, mu_k hk_c0 hk_3 rfl, hM_N_54, mu_k hk_c0 hk_3 rfl, hM_N_52, mu_k hk_c0 hk_3 rfl, hM_N_50, mu_k hk_c0 hk_3 rfl]
            have e_60 : (N_56 c0 12) = (N_39 c0 12) := by rw [hM_N_56, mu_k hk_c0 hk_3 rfl, hM_N_54, mu_k hk_c0 hk_3 rfl, hM_N_52, mu_k hk_c0 hk_3 rfl, hM_N_50, mu_k hk_c0 hk_3 rfl]
            exact kx_zret F hQ (by omega) ⟨hI_N_56, hF_N_56, (by omega)⟩ dX12_anAutomaton_108
          · refine kx_if_ne 66 F 68 dX12_anAutomaton_63 (by decide) rfl (by omega) (fun h_61 => (by exfalso; omega)) (fun h_61 => ?_)
            refine kx_iconst 67 F dX12_anAutomaton_66 rfl ?_
            exact kx_zret F hQ (by omega) ⟨hI_N_39, hF_N_39, (by omega)⟩ dX12_anAutomaton_67
        · refine kx_if_eq 54 F 66 dX12_anAutomaton_51 (by decide) rfl (by omega) (fun h_62 => ?_) (fun h_62 => (by exfalso; omega))
          refine kx_iconst 67 F dX12_anAutomaton_66 rfl ?_
          exact kx_zret F hQ (by omega) ⟨hI_N_30, hF_N_30, (by omega)⟩ dX12_anAutomaton_67
      · refine kx_if_eq 43 F 66 dX12_anAutomaton_40 (by decide) rfl (by omega) (fun h_63 => ?_) (fun h_63 => (by exfalso; omega))
        refine kx_iconst 67 F dX12_anAutomaton_66 rfl ?_
        exact kx_zret F hQ (by omega) ⟨hI_N_18, hF_N_18, (by omega)⟩ dX12_anAutomaton_67
    · refine kx_aload_n 34 F 0 dX12_anAutomaton_33 rfl rfl rfl ?_
      refine kx_iload_n 35 F 2 dX12_anAutomaton_34 rfl rfl rfl ?_
      refine kx_iconst 36 F dX12_anAutomaton_35 rfl ?_
      refine kx_iconst 37 F dX12_anAutomaton_36 rfl ?_
      have ha_64 : atlo (85 * (M (M c0 0) 1091) + 1188) = 0 ∧ athi (85 * (M (M c0 0) 1091) + 1188) = 3 := at_a (85 * (M (M c0 0) 1091) + 1188) 4 (M (M c0 0) 1091) 0 (by omega) (by omega) (by decide)
      refine kx_Vi 40 (ci := 0) F (As := [vI (85 * (M (M c0 0) 1091) + 1188), vI 1, vI 3]) (st := []) vd_X12_231 (c_X12_number G l N_10 c0 (85 * (M (M c0 0) 1091) + 1188) 1 3 hI_N_10 hk_c0 (by omega)) hk_c0 rfl rfl rfl ⟨by decide, by decide⟩ rfl rfl (Nat.le_of_ble_eq_true rfl) dX12_anAutomaton_37 rfl ?_
      intro r_65 N_66 q_67
      obtain ⟨hI_N_66, hG_N_66, q_67c, hx_N_66⟩ := q_67
      have hF_N_66 : Fr f_c_X12_anAutomaton M N_66 := Fr.c hF_N_10 hG_N_66 rfl
      have hat_N_66 : ∀ j, ¬ j = 85 * (M (M c0 0) 1091) + 1188 → N_66 (M c0 0) j = N_10 (M c0 0) j := by
        intro j hj
        have hq := hx_N_66 j hj
        rw [show N_10 c0 0 = M c0 0 by rw [Fr.e hG_N_10 hk_c0 _ rfl]] at hq; exact hq
      have h_68 := Inv.g hI_N_66 hk_c0 rfl 14 (a := 0) (b := 900) rfl rfl
      have h_69 := Inv.g hI_N_66 hk_c0 rfl 12 (a := 0) (b := 4) rfl rfl
      have e_70 : (N_10 c0 0) = (M c0 0) := by rw [Fr.e hG_N_10 hk_c0 _ rfl]
      have e_71 : (N_66 (N_10 c0 0) (85 * (M (M c0 0) 1091) + 1188)) = (N_66 (M c0 0) (85 * (M (M c0 0) 1091) + 1188)) := by rw [e_70]
      have e_72 : (N_10 c0 0) = (M c0 0) := by rw [Fr.e hG_N_10 hk_c0 _ rfl]
      have e_73 : (N_66 (N_10 c0 0) (85 * (M (M c0 0) 1091) + 1188)) = (N_66 (M c0 0) (85 * (M (M c0 0) 1091) + 1188)) := by rw [e_72]
      have h_74 := Inv.g hI_N_66 hk_c0 rfl 14 (a := 0) (b := 900) rfl rfl
      have h_75 := Inv.g hI_N_66 hk_c0 rfl 12 (a := 0) (b := 4) rfl rfl
      rcases q_67c with q_67c | q_67c
      · refine kx_if_eq 43 F 66 dX12_anAutomaton_40 (by decide) rfl (by omega) (fun h_76 => (by exfalso; omega)) (fun h_76 => ?_)
        refine kx_aload_n 44 F 0 dX12_anAutomaton_43 rfl rfl rfl ?_
        refine kx_ldcS 46 F 11 (by decide) rfl rfl dX12_anAutomaton_44 rfl ?_
        refine kx_bipush 48 F dX12_anAutomaton_46 (by decide) rfl ?_
        refine kx_Vi 51 (ci := 0) F (As := [vT G 11, vI 7]) (st := []) vd_X12_235 (c_X12_wantWord G l N_66 c0 7 hI_N_66 hk_c0 (by omega)) hk_c0 rfl rfl rfl ⟨by decide, by decide⟩ rfl rfl (Nat.le_of_ble_eq_true rfl) dX12_anAutomaton_48 rfl ?_
        intro r_77 N_78 q_79
        obtain ⟨hI_N_78, hG_N_78, q_79c⟩ := q_79
        have hF_N_78 : Fr f_c_X12_anAutomaton M N_78 := Fr.c hF_N_66 hG_N_78 rfl
        have h_80 := Inv.g hI_N_78 hk_c0 rfl 14 (a := 0) (b := 900) rfl rfl
        have h_81 := Inv.g hI_N_78 hk_c0 rfl 12 (a := 0) (b := 4) rfl rfl
        have h_82 := Inv.g hI_N_78 hk_c0 rfl 14 (a := 0) (b := 900) rfl rfl
        have h_83 := Inv.g hI_N_78 hk_c0 rfl 12 (a := 0) (b := 4) rfl rfl
        rcases q_79c with q_79c | q_79c
        · refine kx_if_eq 54 F 66 dX12_anAutomaton_51 (by decide) rfl (by omega) (fun h_84 => (by exfalso; omega)) (fun h_84 => ?_)
          refine kx_aload_n 55 F 0 dX12_anAutomaton_54 rfl rfl rfl ?_
          refine kx_iload_n 56 F 2 dX12_anAutomaton_55 rfl rfl rfl ?_
          refine kx_iconst 57 F dX12_anAutomaton_56 rfl ?_
          refine kx_iadd 58 F (v := 85 * (M (M c0 0) 1091) + 1189) dX12_anAutomaton_57 (by omega) rfl ?_
          refine kx_iconst 59 F dX12_anAutomaton_58 rfl ?_
          refine kx_iconst 60 F dX12_anAutomaton_59 rfl ?_
          have ha_85 : atlo (85 * (M (M c0 0) 1091) + 1189) = 0 ∧ athi (85 * (M (M c0 0) 1091) + 1189) = 3 := at_a (85 * (M (M c0 0) 1091) + 1189) 4 (M (M c0 0) 1091) 1 (by omega) (by omega) (by decide)
          refine kx_Vi 63 (ci := 0) F (As := [vI (85 * (M (M c0 0) 1091) + 1189), vI 1, vI 3]) (st := []) vd_X12_231 (c_X12_number G l N_78 c0 (85 * (M (M c0 0) 1091) + 1189) 1 3 hI_N_78 hk_c0 (by omega)) hk_c0 rfl rfl rfl ⟨by decide, by decide⟩ rfl rfl (Nat.le_of_ble_eq_true rfl) dX12_anAutomaton_60 rfl ?_
          intro r_86 N_87 q_88
          obtain ⟨hI_N_87, hG_N_87, q_88c, hx_N_87⟩ := q_88
          have hF_N_87 : Fr f_c_X12_anAutomaton M N_87 := Fr.c hF_N_78 hG_N_87 rfl
          have hat_N_87 : ∀ j, ¬ j = 85 * (M (M c0 0) 1091) + 1189 → N_87 (M c0 0) j = N_78 (M c0 0) j := by
            intro j hj
            have hq := hx_N_87 j hj
            rw [show N_78 c0 0 = M c0 0 by rw [Fr.e hG_N_78 hk_c0 _ rfl, Fr.e hG_N_66 hk_c0 _ rfl, Fr.e hG_N_10 hk_c0 _ rfl]] at hq; exact hq
          have h_89 := Inv.g hI_N_87 hk_c0 rfl 14 (a := 0) (b := 900) rfl rfl
          have h_90 := Inv.g hI_N_87 hk_c0 rfl 12 (a := 0) (b := 4) rfl rfl
          have e_91 : (N_78 c0 0) = (M c0 0) := by rw [Fr.e hG_N_78 hk_c0 _ rfl, Fr.e hG_N_66 hk_c0 _ rfl, Fr.e hG_N_10 hk_c0 _ rfl]
          have e_92 : (N_87 (N_78 c0 0) (85 * (M (M c0 0) 1091) + 1189)) = (N_87 (M c0 0) (85 * (M (M c0 0) 1091) + 1189)) := by rw [e_91]
          have e_93 : (N_78 c0 0) = (M c0 0) := by rw [Fr.e hG_N_78 hk_c0 _ rfl, Fr.e hG_N_66 hk_c0 _ rfl, Fr.e hG_N_10 hk_c0 _ rfl]
          have e_94 : (N_87 (N_78 c0 0) (85 * (M (M c0 0) 1091) + 1189)) = (N_87 (M c0 0) (85 * (M (M c0 0) 1091) + 1189)) := by rw [e_93]
          have h_95 := Inv.g hI_N_87 hk_c0 rfl 14 (a := 0) (b := 900) rfl rfl
          have h_96 := Inv.g hI_N_87 hk_c0 rfl 12 (a := 0) (b := 4) rfl rfl
          rcases q_88c with q_88c | q_88c
          · refine kx_if_ne 66 F 68 dX12_anAutomaton_63 (by decide) rfl (by omega) (fun h_97 => ?_) (fun h_97 => (by exfalso; omega))
            refine kx_aload_n 69 F 0 dX12_anAutomaton_68 rfl rfl rfl ?_
            refine kx_getr 72 F fl_X12_7 hk_c0 rfl rfl (j := 0) rfl dX12_anAutomaton_69 (v := (M c0 0)) (by rw [Fr.e hG_N_87 hk_c0 _ rfl, Fr.e hG_N_78 hk_c0 _ rfl, Fr.e hG_N_66 hk_c0 _ rfl, Fr.e hG_N_10 hk_c0 _ rfl]) rfl ?_
            refine kx_iload_n 73 F 2 dX12_anAutomaton_72 rfl rfl rfl ?_
            refine kx_iconst 74 F dX12_anAutomaton_73 rfl ?_
            refine kx_iadd 75 F (v := 85 * (M (M c0 0) 1091) + 1190) dX12_anAutomaton_74 (by omega) rfl ?_
            refine kx_iconst 76 F dX12_anAutomaton_75 rfl ?_
            refine kx_iast 77 F hk_3 rfl rfl (by omega) (by decide) dX12_anAutomaton_76 rfl ?_
            intro N_98 hM_N_98
            have ha_99 : atlo (85 * (M (M c0 0) 1091) + 1190) = 0 ∧ athi (85 * (M (M c0 0) 1091) + 1190) = 7 := at_a (85 * (M (M c0 0) 1091) + 1190) 4 (M (M c0 0) 1091) 2 (by omega) (by omega) (by decide)
            have hI_N_98 : Inv true N_98 := Inv.u hI_N_87 hM_N_98 hk_3 (a := 0) (b := 7) ha_99.1 ha_99.2 rfl (by omega)
            have hF_N_98 : Fr f_c_X12_anAutomaton M N_98 := Fr.u hF_N_87 hM_N_98 hk_3 rfl
            refine kx_aload_n 78 F 0 dX12_anAutomaton_77 rfl rfl rfl ?_
            refine kx_getr 81 F fl_X12_7 hk_c0 rfl rfl (j := 0) rfl dX12_anAutomaton_78 (v := (M c0 0)) (by rw [hM_N_98, mu_k hk_c0 hk_3 rfl, Fr.e hG_N_87 hk_c0 _ rfl, Fr.e hG_N_78 hk_c0 _ rfl, Fr.e hG_N_66 hk_c0 _ rfl, Fr.e hG_N_10 hk_c0 _ rfl]) rfl ?_
            refine kx_iload_n 82 F 2 dX12_anAutomaton_81 rfl rfl rfl ?_
            refine kx_iconst 83 F dX12_anAutomaton_82 rfl ?_
            refine kx_iadd 84 F (v := 85 * (M (M c0 0) 1091) + 1191) dX12_anAutomaton_83 (by omega) rfl ?_
            refine kx_iconst 85 F dX12_anAutomaton_84 rfl ?_
            refine kx_iast 86 F hk_3 rfl rfl (by omega) (by decide) dX12_anAutomaton_85 rfl ?_
            intro N_100 hM_N_100
            have ha_101 : atlo (85 * (M (M c0 0) 1091) + 1191) = 0 ∧ athi (85 * (M (M c0 0) 1091) + 1191) = 7 := at_a (85 * (M (M c0 0) 1091) + 1191) 4 (M (M c0 0) 1091) 3 (by omega) (by omega) (by decide)
            have hI_N_100 : Inv true N_100 := Inv.u hI_N_98 hM_N_100 hk_3 (a := 0) (b := 7) ha_101.1 ha_101.2 rfl (by omega)
            have hF_N_100 : Fr f_c_X12_anAutomaton M N_100 := Fr.u hF_N_98 hM_N_100 hk_3 rfl
            refine kx_aload_n 87 F 0 dX12_anAutomaton_86 rfl rfl rfl ?_
            refine kx_getr 90 F fl_X12_7 hk_c0 rfl rfl (j := 0) rfl dX12_anAutomaton_87 (v := (M c0 0)) (by rw [hM_N_100, mu_k hk_c0 hk_3 rfl, hM_N_98, mu_k hk_c0 hk_3 rfl, Fr.e hG_N_87 hk_c0 _ rfl, Fr.e hG_N_78 hk_c0 _ rfl, Fr.e hG_N_66 hk_c0 _ rfl, Fr.e hG_N_10 hk_c0 _ rfl]) rfl ?_
            refine kx_iload_n 91 F 2 dX12_anAutomaton_90 rfl rfl rfl ?_
            refine kx_iconst 92 F dX12_anAutomaton_91 rfl ?_
            refine kx_iadd 93 F (v := 85 * (M (M c0 0) 1091) + 1192) dX12_anAutomaton_92 (by omega) rfl ?_
            refine kx_iconst 94 F dX12_anAutomaton_93 rfl ?_
            refine kx_iast 95 F hk_3 rfl rfl (by omega) (by decide) dX12_anAutomaton_94 rfl ?_
            intro N_102 hM_N_102
            have ha_103 : atlo (85 * (M (M c0 0) 1091) + 1192) = 0 ∧ athi (85 * (M (M c0 0) 1091) + 1192) = 20 := at_a (85 * (M (M c0 0) 1091) + 1192) 4 (M (M c0 0) 1091) 4 (by omega) (by omega) (by decide)
            have hI_N_102 : Inv true N_102 := Inv.u hI_N_100 hM_N_102 hk_3 (a := 0) (b := 20) ha_103.1 ha_103.2 rfl (by omega)
            have hF_N_102 : Fr f_c_X12_anAutomaton M N_102 := Fr.u hF_N_100 hM_N_102 hk_3 rfl
            refine kx_aload_n 96 F 0 dX12_anAutomaton_95 rfl rfl rfl ?_
            refine kx_getr 99 F fl_X12_7 hk_c0 rfl rfl (j := 0) rfl dX12_anAutomaton_96 (v := (M c0 0)) (by rw [hM_N_102, mu_k hk_c0 hk_3 rfl, hM_N_100, mu_k hk_c0 hk_3 rfl, hM_N_98, mu_k hk_c0 hk_3 rfl, Fr.e hG_N_87 hk_c0 _ rfl, Fr.e hG_N_78 hk_c0 _ rfl, Fr.e hG_N_66 hk_c0 _ rfl, Fr.e hG_N_10 hk_c0 _ rfl]) rfl ?_
            refine kx_sipush 102 F dX12_anAutomaton_99 (by decide) rfl ?_
            refine kx_dup2 103 F dX12_anAutomaton_102 rfl rfl rfl ?_
            refine kx_iald 104 F hk_3 rfl rfl (by omega) (by decide) dX12_anAutomaton_103 (v := (M (M c0 0) 1091)) (by rw [hM_N_102, mu_i (by omega), hM_N_100, mu_i (by omega), hM_N_98, mu_i (by omega), hat_N_87 _ (by omega), Fr.e hG_N_78 hk_3 _ rfl, hat_N_66 _ (by omega), Fr.e hG_N_10 hk_3 _ rfl]) rfl ?_
            refine kx_iconst 105 F dX12_anAutomaton_104 rfl ?_
            refine kx_iadd 106 F (v := (M (M c0 0) 1091) + 1) dX12_anAutomaton_105 rfl rfl ?_
            refine kx_iast 107 F hk_3 rfl rfl (by omega) (by decide) dX12_anAutomaton_106 rfl ?_
            intro N_104 hM_N_104
            have hI_N_104 : Inv true N_104 := Inv.u hI_N_102 hM_N_104 hk_3 (a := 0) (b := 2) ha_4.1 ha_4.2 rfl (by omega)
            have hF_N_104 : Fr f_c_X12_anAutomaton M N_104 := Fr.u hF_N_102 hM_N_104 hk_3 rfl
            refine kx_iconst 108 F dX12_anAutomaton_107 rfl ?_
            have e_105 : (N_104 c0 14) = (N_87 c0 14) := by rw [hM_N_104, mu_k hk_c0 hk_3 rfl, hM_N_102, mu_k hk_c0 hk_3 rfl, hM_N_100, mu_k hk_c0 hk_3 rfl, hM_N_98, mu_k hk_c0 hk_3 rfl]
            have e_106 : (N_104 c0 12) = (N_87 c0 12) := by rw [hM_N_104, mu_k hk_c0 hk_3 rfl, hM_N_102, mu_k hk_c0 hk_3 rfl, hM_N_100, mu_k hk_c0 hk_3 rfl, hM_N_98, mu_k hk_c0 hk_3 rfl]
            have e_107 : (N_104 c0 14) = (N_87 c0 14) := by rw [hM_N_104, mu_k hk_c0 hk_3 rfl, hM_N_102, mu_k hk_c0 hk_3 rfl, hM_N_100, mu_k hk_c0 hk_3 rfl, hM_N_98, mu_k hk_c0 hk_3 rfl]
            have e_108 : (N_104 c0 12) = (N_87 c0 12) := by rw [hM_N_104, mu_k hk_c0 hk_3 rfl, hM_N_102, mu_k hk_c0 hk_3 rfl, hM_N_100, mu_k hk_c0 hk_3 rfl, hM_N_98, mu_k hk_c0 hk_3 rfl]
            exact kx_zret F hQ (by omega) ⟨hI_N_104, hF_N_104, (by omega)⟩ dX12_anAutomaton_108
          · refine kx_if_ne 66 F 68 dX12_anAutomaton_63 (by decide) rfl (by omega) (fun h_109 => (by exfalso; omega)) (fun h_109 => ?_)
            refine kx_iconst 67 F dX12_anAutomaton_66 rfl ?_
            exact kx_zret F hQ (by omega) ⟨hI_N_87, hF_N_87, (by omega)⟩ dX12_anAutomaton_67
        · refine kx_if_eq 54 F 66 dX12_anAutomaton_51 (by decide) rfl (by omega) (fun h_110 => ?_) (fun h_110 => (by exfalso; omega))
          refine kx_iconst 67 F dX12_anAutomaton_66 rfl ?_
          exact kx_zret F hQ (by omega) ⟨hI_N_78, hF_N_78, (by omega)⟩ dX12_anAutomaton_67
      · refine kx_if_eq 43 F 66 dX12_anAutomaton_40 (by decide) rfl (by omega) (fun h_111 => ?_) (fun h_111 => (by exfalso; omega))
        refine kx_iconst 67 F dX12_anAutomaton_66 rfl ?_
        exact kx_zret F hQ (by omega) ⟨hI_N_66, hF_N_66, (by omega)⟩ dX12_anAutomaton_67
  · refine kx_aload_n 15 F 0 dX12_anAutomaton_14 rfl rfl rfl ?_
    refine kx_bipush 17 F dX12_anAutomaton_15 (by decide) rfl ?_
    refine kx_Vi 20 (ci := 0) F (As := [vI 6]) (st := []) vd_X12_205 (c_X12_fails G l M c0 6 hI_M hk_c0 (by omega)) hk_c0 rfl rfl rfl ⟨by decide, by decide⟩ rfl rfl (Nat.le_of_ble_eq_true rfl) dX12_anAutomaton_17 rfl ?_
    intro r_112 N_113 q_114
    obtain ⟨hI_N_113, hG_N_113, q_114c⟩ := q_114
    have hF_N_113 : Fr f_c_X12_anAutomaton M N_113 := Fr.c hF_M hG_N_113 rfl
    subst q_114c
    have e_115 : (N_113 c0 14) = (M c0 14) := by rw [Fr.e hG_N_113 hk_c0 _ rfl]
    have e_116 : (N_113 c0 12) = (M c0 12) := by rw [Fr.e hG_N_113 hk_c0 _ rfl]
    have e_117 : (N_113 c0 14) = (M c0 14) := by rw [Fr.e hG_N_113 hk_c0 _ rfl]
    have e_118 : (N_113 c0 12) = (M c0 12) := by rw [Fr.e hG_N_113 hk_c0 _ rfl]
    exact kx_zret F hQ (by omega) ⟨hI_N_113, hF_N_113, (by omega)⟩ dX12_anAutomaton_20
theorem dX12_isRule_0 : decode cX12_isRule 0 = .ok (.iconst 0, 1) := by decide +kernel
theorem dX12_isRule_1 : decode cX12_isRule 1 = .ok (.istore 8, 2) := by decide +kernel
theorem dX12_isRule_3 : decode cX12_isRule 3 = .ok (.iload 8, 2) := by decide +kernel
theorem dX12_isRule_5 : decode cX12_isRule 5 = .ok (.iload_n 3, 1) := by decide +kernel
theorem dX12_isRule_6 : decode cX12_isRule 6 = .ok (.if_icmp .ge 74, 3) := by decide +kernel
theorem dX12_isRule_9 : decode cX12_isRule 9 = .ok (.iload_n 1, 1) := by decide +kernel
theorem dX12_isRule_10 : decode cX12_isRule 10 = .ok (.iload_n 2, 1) := by decide +kernel
theorem dX12_isRule_11 : decode cX12_isRule 11 = .ok (.iload 8, 2) := by decide +kernel
theorem dX12_isRule_13 : decode cX12_isRule 13 = .ok (.invokestatic 243, 3) := by decide +kernel
theorem dX12_isRule_16 : decode cX12_isRule 16 = .ok (.istore 9, 2) := by decide +kernel
theorem dX12_isRule_18 : decode cX12_isRule 18 = .ok (.aload_n 0, 1) := by decide +kernel
theorem dX12_isRule_19 : decode cX12_isRule 19 = .ok (.getfield 7, 3) := by decide +kernel
theorem dX12_isRule_22 : decode cX12_isRule 22 = .ok (.iload 9, 2) := by decide +kernel
theorem dX12_isRule_24 : decode cX12_isRule 24 = .ok (.iaload, 1) := by decide +kernel
theorem dX12_isRule_25 : decode cX12_isRule 25 = .ok (.iload 4, 2) := by decide +kernel
theorem dX12_isRule_27 : decode cX12_isRule 27 = .ok (.if_icmp .ne 47, 3) := by decide +kernel
theorem dX12_isRule_30 : decode cX12_isRule 30 = .ok (.aload_n 0, 1) := by decide +kernel
theorem dX12_isRule_31 : decode cX12_isRule 31 = .ok (.getfield 7, 3) := by decide +kernel
theorem dX12_isRule_34 : decode cX12_isRule 34 = .ok (.iload 9, 2) := by decide +kernel
theorem dX12_isRule_36 : decode cX12_isRule 36 = .ok (.iconst 1, 1) := by decide +kernel
theorem dX12_isRule_37 : decode cX12_isRule 37 = .ok (.iadd, 1) := by decide +kernel
theorem dX12_isRule_38 : decode cX12_isRule 38 = .ok (.iaload, 1) := by decide +kernel
theorem dX12_isRule_39 : decode cX12_isRule 39 = .ok (.iload 5, 2) := by decide +kernel
theorem dX12_isRule_41 : decode cX12_isRule 41 = .ok (.if_icmp .ne 33, 3) := by decide +kernel
theorem dX12_isRule_44 : decode cX12_isRule 44 = .ok (.aload_n 0, 1) := by decide +kernel
theorem dX12_isRule_45 : decode cX12_isRule 45 = .ok (.getfield 7, 3) := by decide +kernel
theorem dX12_isRule_48 : decode cX12_isRule 48 = .ok (.iload 9, 2) := by decide +kernel
theorem dX12_isRule_50 : decode cX12_isRule 50 = .ok (.iconst 2, 1) := by decide +kernel
theorem dX12_isRule_51 : decode cX12_isRule 51 = .ok (.iadd, 1) := by decide +kernel
theorem dX12_isRule_52 : decode cX12_isRule 52 = .ok (.iaload, 1) := by decide +kernel
theorem dX12_isRule_53 : decode cX12_isRule 53 = .ok (.iload 6, 2) := by decide +kernel
theorem dX12_isRule_55 : decode cX12_isRule 55 = .ok (.if_icmp .ne 19, 3) := by decide +kernel
theorem dX12_isRule_58 : decode cX12_isRule 58 = .ok (.aload_n 0, 1) := by decide +kernel
theorem dX12_isRule_59 : decode cX12_isRule 59 = .ok (.getfield 7, 3) := by decide +kernel
theorem dX12_isRule_62 : decode cX12_isRule 62 = .ok (.iload 9, 2) := by decide +kernel
theorem dX12_isRule_64 : decode cX12_isRule 64 = .ok (.iconst 3, 1) := by decide +kernel
theorem dX12_isRule_65 : decode cX12_isRule 65 = .ok (.iadd, 1) := by decide +kernel
theorem dX12_isRule_66 : decode cX12_isRule 66 = .ok (.iaload, 1) := by decide +kernel
theorem dX12_isRule_67 : decode cX12_isRule 67 = .ok (.iload 7, 2) := by decide +kernel
theorem dX12_isRule_69 : decode cX12_isRule 69 = .ok (.if_icmp .ne 5, 3) := by decide +kernel
theorem dX12_isRule_72 : decode cX12_isRule 72 = .ok (.iconst 1, 1) := by decide +kernel
theorem dX12_isRule_73 : decode cX12_isRule 73 = .ok (.ireturn, 1) := by decide +kernel
theorem dX12_isRule_74 : decode cX12_isRule 74 = .ok (.iinc 8 1, 3) := by decide +kernel
theorem dX12_isRule_77 : decode cX12_isRule 77 = .ok (.goto (-74), 3) := by decide +kernel
theorem dX12_isRule_80 : decode cX12_isRule 80 = .ok (.iconst 0, 1) := by decide +kernel
theorem dX12_isRule_81 : decode cX12_isRule 81 = .ok (.ireturn, 1) := by decide +kernel
set_option maxHeartbeats 4000000 in
set_option maxRecDepth 100000 in
theorem c_isRule0 (G : KG) (l : Launch) (M : Mem) (c0 : Int) (a1 : Int) (a2 : Int) (a3 : Int) (a4 : Int) (a5 : Int) (a6 : Int) (a7 : Int) (hI_M : Inv true M) (hk_c0 : kd c0 = 64) (hpre : -2147483648 ≤ a1 ∧ a1 ≤ 2147483647 ∧ -2147483648 ≤ a2 ∧ a2 ≤ 2147483647 ∧ -2147483648 ≤ a3 ∧ a3 ≤ 2147483647 ∧ -2147483648 ≤ a4 ∧ a4 ≤ 2147483647 ∧ -2147483648 ≤ a5 ∧ a5 ≤ 2147483647 ∧ -2147483648 ≤ a6 ∧ a6 ≤ 2147483647 ∧ -2147483648 ≤ a7 ∧ a7 ≤ 2147483647 ∧ a1 = 0 ∧ 0 ≤ a2 ∧ a2 ≤ 1 ∧ 0 ≤ a3 ∧ a3 ≤ 20) : KC true G l yX12_isRule cX12_isRule 10 (some .boolean) (2, 43) [vR G c0, vI a1, vI a2, vI a3, vI a4, vI a5, vI a6, vI a7] M (fun A => kQi true G A (fun (r : Int) (N : Mem) => M = N ∧ (0 ≤ r ∧ r ≤ 1))) := by
  refine kx_met (lo := [some (vR G c0), some (vI a1), some (vI a2), some (vI a3), some (vI a4), some (vI a5), some (vI a6), some (vI a7), none, none]) (by decide) (Nat.le_of_ble_eq_true rfl) rfl ?_
  intro X F hQ
  refine kx_iconst 1 F dX12_isRule_0 rfl ?_
  refine kx_istore 3 F 8 (lo' := [some (vR G c0), some (vI a1), some (vI a2), some (vI a3), some (vI a4), some (vI a5), some (vI a6), some (vI a7), some (vI 0), none]) dX12_isRule_1 (by decide) rfl rfl rfl ?_
  have L_128 : ∀ (n_129 : Nat) (x8_127 : Int), 0 ≤ x8_127 ∧ x8_127 ≤ 20 → (20 - (x8_127)).toNat = n_129 → KJ true G X M 3 [some (vR G c0), some (vI a1), some (vI a2), some (vI a3), some (vI a4), some (vI a5), some (vI a6), some (vI a7), some (vI x8_127), none] [] := by
    intro n_129
    refine Nat.strongRecOn n_129 ?_
    intro n_129 ih_130 x8_127 h_131 hm_132
    refine kx_iload 5 F 8 dX12_isRule_3 rfl rfl ?_
    refine kx_iload_n 6 F 3 dX12_isRule_5 rfl rfl rfl ?_
    refine kx_icmp_ge 9 F 80 dX12_isRule_6 (by decide) rfl (by omega) (by omega) (fun h_133 => ?_) (fun h_133 => ?_)
    · refine kx_iconst 81 F dX12_isRule_80 rfl ?_
      exact kx_zret F hQ (by omega) ⟨rfl, (by omega)⟩ dX12_isRule_81
    · refine kx_iload_n 10 F 1 dX12_isRule_9 rfl rfl rfl ?_
      refine kx_iload_n 11 F 2 dX12_isRule_10 rfl rfl rfl ?_
      refine kx_iload 13 F 8 dX12_isRule_11 rfl rfl ?_
      refine kx_Si 16 F (As := [vI a1, vI a2, vI x8_127]) (st := []) sd_X12_243 (c_X12_ruleRow G l M a1 a2 x8_127 hI_M (by omega)) ⟨by decide, by decide⟩ rfl rfl (Nat.le_of_ble_eq_true rfl) dX12_isRule_13 rfl ?_
      intro r_134 N_135 q_136
      obtain ⟨rfl, q_136c⟩ := q_136
      refine kx_topi (e' := a1 + 85 * a2 + 4 * x8_127 + 105) (by omega) ?_
      refine kx_istore 18 F 9 (lo' := [some (vR G c0), some (vI a1), some (vI a2), some (vI a3), some (vI a4), some (vI a5), some (vI a6), some (vI a7), some (vI x8_127), some (vI (a1 + 85 * a2 + 4 * x8_127 + 105))]) dX12_isRule_16 (by decide) rfl rfl rfl ?_
      refine kx_aload_n 19 F 0 dX12_isRule_18 rfl rfl rfl ?_
      refine kx_getr 22 F fl_X12_7 hk_c0 rfl rfl (j := 0) rfl dX12_isRule_19 (v := (M c0 0)) rfl rfl ?_
      have hk_137 : kd (M c0 0) = 65 := Inv.r hI_M hk_c0 rfl 0 rfl rfl
      refine kx_iload 24 F 9 dX12_isRule_22 rfl rfl ?_
      refine kx_iald 25 F hk_137 rfl rfl (by omega) (by decide) dX12_isRule_24 (v := (M (M c0 0) (a1 + 85 * a2 + 4 * x8_127 + 105))) rfl rfl ?_
      have ha_138 : atlo (a1 + 85 * a2 + 4 * x8_127 + 105) = 0 ∧ athi (a1 + 85 * a2 + 4 * x8_127 + 105) = 5 := at_r (a1 + 85 * a2 + 4 * x8_127 + 105) 0 a2 x8_127 0 (by omega) (by omega) (by omega) (by decide)
      have h_139 := Inv.g hI_M hk_137 rfl (a1 + 85 * a2 + 4 * x8_127 + 105) (a := 0) (b := 5) ha_138.1 ha_138.2
      refine kx_iload 27 F 4 dX12_isRule_25 rfl rfl ?_
      have J_150 : KJ true G X M 74 [some (vR G c0), some (vI a1), some (vI a2), some (vI a3), some (vI a4), some (vI a5), some (vI a6), some (vI a7), some (vI x8_127), none] [] := by
        refine kx_iinc 77 F 8 (v := x8_127 + 1) (lo' := [some (vR G c0), some (vI a1), some (vI a2), some (vI a3), some (vI a4), some (vI a5), some (vI a6), some (vI a7), some (vI (x8_127 + 1)), none]) dX12_isRule_74 rfl (by omega) (by decide) rfl rfl rfl ?_
        refine kx_goto 3 F dX12_isRule_77 (by decide) ?_
        exact ih_130 _ (by omega) (x8_127 + 1) (by omega) rfl
      refine kx_icmp_ne 30 F 74 dX12_isRule_27 (by decide) rfl (by omega) (by omega) (fun h_152 => ?_) (fun h_152 => ?_)
      · refine kx_drop 9 (lo' := [some (vR G c0), some (vI a1), some (vI a2), some (vI a3), some (vI a4), some (vI a5), some (vI a6), some (vI a7), some (vI x8_127), none]) rfl ?_
        exact J_150 
      · refine kx_aload_n 31 F 0 dX12_isRule_30 rfl rfl rfl ?_
        refine kx_getr 34 F fl_X12_7 hk_c0 rfl rfl (j := 0) rfl dX12_isRule_31 (v := (M c0 0)) rfl rfl ?_
        refine kx_iload 36 F 9 dX12_isRule_34 rfl rfl ?_
        refine kx_iconst 37 F dX12_isRule_36 rfl ?_
        refine kx_iadd 38 F (v := a1 + 85 * a2 + 4 * x8_127 + 106) dX12_isRule_37 (by omega) rfl ?_
        refine kx_iald 39 F hk_137 rfl rfl (by omega) (by decide) dX12_isRule_38 (v := (M (M c0 0) (a1 + 85 * a2 + 4 * x8_127 + 106))) rfl rfl ?_
        have ha_153 : atlo (a1 + 85 * a2 + 4 * x8_127 + 106) = 0 ∧ athi (a1 + 85 * a2 + 4 * x8_127 + 106) = 2 := at_r (a1 + 85 * a2 + 4 * x8_127 + 106) 0 a2 x8_127 1 (by omega) (by omega) (by omega) (by decide)
        have h_154 := Inv.g hI_M hk_137 rfl (a1 + 85 * a2 + 4 * x8_127 + 106) (a := 0) (b := 2) ha_153.1 ha_153.2
        refine kx_iload 41 F 5 dX12_isRule_39 rfl rfl ?_
        refine kx_icmp_ne 44 F 74 dX12_isRule_41 (by decide) rfl (by omega) (by omega) (fun h_155 => ?_) (fun h_155 => ?_)
        · refine kx_drop 9 (lo' := [some (vR G c0), some (vI a1), some (vI a2), some (vI a3), some (vI a4), some (vI a5), some (vI a6), some (vI a7), some (vI x8_127), none]) rfl ?_
          exact J_150 
        · refine kx_aload_n 45 F 0 dX12_isRule_44 rfl rfl rfl ?_
          refine kx_getr 48 F fl_X12_7 hk_c0 rfl rfl (j := 0) rfl dX12_isRule_45 (v := (M c0 0)) rfl rfl ?_
          refine kx_iload 50 F 9 dX12_isRule_48 rfl rfl ?_
          refine kx_iconst 51 F dX12_isRule_50 rfl ?_
          refine kx_iadd 52 F (v := a1 + 85 * a2 + 4 * x8_127 + 107) dX12_isRule_51 (by omega) rfl ?_
          refine kx_iald 53 F hk_137 rfl rfl (by omega) (by decide) dX12_isRule_52 (v := (M (M c0 0) (a1 + 85 * a2 + 4 * x8_127 + 107))) rfl rfl ?_
          have ha_156 : atlo (a1 + 85 * a2 + 4 * x8_127 + 107) = 0 ∧ athi (a1 + 85 * a2 + 4 * x8_127 + 107) = 2 := at_r (a1 + 85 * a2 + 4 * x8_127 + 107) 0 a2 x8_127 2 (by omega) (by omega) (by omega) (by decide)
          have h_157 := Inv.g hI_M hk_137 rfl (a1 + 85 * a2 + 4 * x8_127 + 107) (a := 0) (b := 2) ha_156.1 ha_156.2
          refine kx_iload 55 F 6 dX12_isRule_53 rfl rfl ?_
          refine kx_icmp_ne 58 F 74 dX12_isRule_55 (by decide) rfl (by omega) (by omega) (fun h_158 => ?_) (fun h_158 => ?_)
          · refine kx_drop 9 (lo' := [some (vR G c0), some (vI a1), some (vI a2), some (vI a3), some (vI a4), some (vI a5), some (vI a6), some (vI a7), some (vI x8_127), none]) rfl ?_
            exact J_150 
          · refine kx_aload_n 59 F 0 dX12_isRule_58 rfl rfl rfl ?_
            refine kx_getr 62 F fl_X12_7 hk_c0 rfl rfl (j := 0) rfl dX12_isRule_59 (v := (M c0 0)) rfl rfl ?_
            refine kx_iload 64 F 9 dX12_isRule_62 rfl rfl ?_
            refine kx_iconst 65 F dX12_isRule_64 rfl ?_
            refine kx_iadd 66 F (v := a1 + 85 * a2 + 4 * x8_127 + 108) dX12_isRule_65 (by omega) rfl ?_
            refine kx_iald 67 F hk_137 rfl rfl (by omega) (by decide) dX12_isRule_66 (v := (M (M c0 0) (a1 + 85 * a2 + 4 * x8_127 + 108))) rfl rfl ?_
            have ha_159 : atlo (a1 + 85 * a2 + 4 * x8_127 + 108) = (-1) ∧ athi (a1 + 85 * a2 + 4 * x8_127 + 108) = 2 := at_r (a1 + 85 * a2 + 4 * x8_127 + 108) 0 a2 x8_127 3 (by omega) (by omega) (by omega) (by decide)
            have h_160 := Inv.g hI_M hk_137 rfl (a1 + 85 * a2 + 4 * x8_127 + 108) (a := (-1)) (b := 2) ha_159.1 ha_159.2
            refine kx_iload 69 F 7 dX12_isRule_67 rfl rfl ?_
            refine kx_icmp_ne 72 F 74 dX12_isRule_69 (by decide) rfl (by omega) (by omega) (fun h_161 => ?_) (fun h_161 => ?_)
            · refine kx_drop 9 (lo' := [some (vR G c0), some (vI a1), some (vI a2), some (vI a3), some (vI a4), some (vI a5), some (vI a6), some (vI a7), some (vI x8_127), none]) rfl ?_
              exact J_150 
            · refine kx_iconst 73 F dX12_isRule_72 rfl ?_
              exact kx_zret F hQ (by omega) ⟨rfl, (by omega)⟩ dX12_isRule_73
  exact L_128 _ 0 (by omega) rfl
set_option maxHeartbeats 4000000 in
set_option maxRecDepth 100000 in
theorem c_isRuleN (G : KG) (l : Launch) (M : Mem) (c0 : Int) (a1 : Int) (a2 : Int) (a3 : Int) (a4 : Int) (a5 : Int) (a6 : Int) (a7 : Int) (hI_M : Inv true M) (hk_c0 : kd c0 = 64) (hpre : -2147483648 ≤ a1 ∧ a1 ≤ 2147483647 ∧ -2147483648 ≤ a2 ∧ a2 ≤ 2147483647 ∧ -2147483648 ≤ a3 ∧ a3 ≤ 2147483647 ∧ -2147483648 ≤ a4 ∧ a4 ≤ 2147483647 ∧ -2147483648 ≤ a5 ∧ a5 ≤ 2147483647 ∧ -2147483648 ≤ a6 ∧ a6 ≤ 2147483647 ∧ -2147483648 ≤ a7 ∧ a7 ≤ 2147483647 ∧ a1 = 1088 ∧ 0 ≤ a2 ∧ a2 ≤ 1 ∧ 0 ≤ a3 ∧ a3 ≤ 20) : KC true G l yX12_isRule cX12_isRule 10 (some .boolean) (2, 43) [vR G c0, vI a1, vI a2, vI a3, vI a4, vI a5, vI a6, vI a7] M (fun A => kQi true G A (fun (r : Int) (N : Mem) => M = N ∧ (0 ≤ r ∧ r ≤ 1))) := by
  refine kx_met (lo := [some (vR G c0), some (vI a1), some (vI a2), some (vI a3), some (vI a4), some (vI a5), some (vI a6), some (vI a7), none, none]) (by decide) (Nat.le_of_ble_eq_true rfl) rfl ?_
  intro X F hQ
  refine kx_iconst 1 F dX12_isRule_0 rfl ?_
  refine kx_istore 3 F 8 (lo' := [some (vR G c0), some (vI a1), some (vI a2), some (vI a3), some (vI a4), some (vI a5), some (vI a6), some (vI a7), some (vI 0), none]) dX12_isRule_1 (by decide) rfl rfl rfl ?_
  have L_128 : ∀ (n_129 : Nat) (x8_127 : Int), 0 ≤ x8_127 ∧ x8_127 ≤ 20 → (20 - (x8_127)).toNat = n_129 → KJ true G X M 3 [some (vR G c0), some (vI a1), some (vI a2), some (vI a3), some (vI a4), some (vI a5), some (vI a6), some (vI a7), some (vI x8_127), none] [] := by
    intro n_129
    refine Nat.strongRecOn n_129 ?_
    intro n_129 ih_130 x8_127 h_131 hm_132
    refine kx_iload 5 F 8 dX12_isRule_3 rfl rfl ?_
    refine kx_iload_n 6 F 3 dX12_isRule_5 rfl rfl rfl ?_
    refine kx_icmp_ge 9 F 80 dX12_isRule_6 (by decide) rfl (by omega) (by omega) (fun h_133 => ?_) (fun h_133 => ?_)
    · refine kx_iconst 81 F dX12_isRule_80 rfl ?_
      exact kx_zret F hQ (by omega) ⟨rfl, (by omega)⟩ dX12_isRule_81
    · refine kx_iload_n 10 F 1 dX12_isRule_9 rfl rfl rfl ?_
      refine kx_iload_n 11 F 2 dX12_isRule_10 rfl rfl rfl ?_
      refine kx_iload 13 F 8 dX12_isRule_11 rfl rfl ?_
      refine kx_Si 16 F (As := [vI a1, vI a2, vI x8_127]) (st := []) sd_X12_243 (c_X12_ruleRow G l M a1 a2 x8_127 hI_M (by omega)) ⟨by decide, by decide⟩ rfl rfl (Nat.le_of_ble_eq_true rfl) dX12_isRule_13 rfl ?_
      intro r_134 N_135 q_136
      obtain ⟨rfl, q_136c⟩ := q_136
      refine kx_topi (e' := a1 + 85 * a2 + 4 * x8_127 + 105) (by omega) ?_
      refine kx_istore 18 F 9 (lo' := [some (vR G c0), some (vI a1), some (vI a2), some (vI a3), some (vI a4), some (vI a5), some (vI a6), some (vI a7), some (vI x8_127), some (vI (a1 + 85 * a2 + 4 * x8_127 + 105))]) dX12_isRule_16 (by decide) rfl rfl rfl ?_
      refine kx_aload_n 19 F 0 dX12_isRule_18 rfl rfl rfl ?_
      refine kx_getr 22 F fl_X12_7 hk_c0 rfl rfl (j := 0) rfl dX12_isRule_19 (v := (M c0 0)) rfl rfl ?_
      have hk_137 : kd (M c0 0) = 65 := Inv.r hI_M hk_c0 rfl 0 rfl rfl
      refine kx_iload 24 F 9 dX12_isRule_22 rfl rfl ?_
      refine kx_iald 25 F hk_137 rfl rfl (by omega) (by decide) dX12_isRule_24 (v := (M (M c0 0) (a1 + 85 * a2 + 4 * x8_127 + 105))) rfl rfl ?_
      have ha_138 : atlo (a1 + 85 * a2 + 4 * x8_127 + 105) = 0 ∧ athi (a1 + 85 * a2 + 4 * x8_127 + 105) = 5 := at_r (a1 + 85 * a2 + 4 * x8_127 + 105) 4 a2 x8_127 0 (by omega) (by omega) (by omega) (by decide)
      have h_139 := Inv.g hI_M hk_137 rfl (a1 + 85 * a2 + 4 * x8_127 + 105) (a := 0) (b := 5) ha_138.1 ha_138.2
      refine kx_iload 27 F 4 dX12_isRule_25 rfl rfl ?_
      have J_150 : KJ true G X M 74 [some (vR G c0), some (vI a1), some (vI a2), some (vI a3), some (vI a4), some (vI a5), some (vI a6), some (vI a7), some (vI x8_127), none] [] := by
        refine kx_iinc 77 F 8 (v := x8_127 + 1) (lo' := [some (vR G c0), some (vI a1), some (vI a2), some (vI a3), some (vI a4), some (vI a5), some (vI a6), some (vI a7), some (vI (x8_127 + 1)), none]) dX12_isRule_74 rfl (by omega) (by decide) rfl rfl rfl ?_
        refine kx_goto 3 F dX12_isRule_77 (by decide) ?_
        exact ih_130 _ (by omega) (x8_127 + 1) (by omega) rfl
      refine kx_icmp_ne 30 F 74 dX12_isRule_27 (by decide) rfl (by omega) (by omega) (fun h_152 => ?_) (fun h_152 => ?_)
      · refine kx_drop 9 (lo' := [some (vR G c0), some (vI a1), some (vI a2), some (vI a3), some (vI a4), some (vI a5), some (vI a6), some (vI a7), some (vI x8_127), none]) rfl ?_
        exact J_150 
      · refine kx_aload_n 31 F 0 dX12_isRule_30 rfl rfl rfl ?_
        refine kx_getr 34 F fl_X12_7 hk_c0 rfl rfl (j := 0) rfl dX12_isRule_31 (v := (M c0 0)) rfl rfl ?_
        refine kx_iload 36 F 9 dX12_isRule_34 rfl rfl ?_
        refine kx_iconst 37 F dX12_isRule_36 rfl ?_
        refine kx_iadd 38 F (v := a1 + 85 * a2 + 4 * x8_127 + 106) dX12_isRule_37 (by omega) rfl ?_
        refine kx_iald 39 F hk_137 rfl rfl (by omega) (by decide) dX12_isRule_38 (v := (M (M c0 0) (a1 + 85 * a2 + 4 * x8_127 + 106))) rfl rfl ?_
        have ha_153 : atlo (a1 + 85 * a2 + 4 * x8_127 + 106) = 0 ∧ athi (a1 + 85 * a2 + 4 * x8_127 + 106) = 2 := at_r (a1 + 85 * a2 + 4 * x8_127 + 106) 4 a2 x8_127 1 (by omega) (by omega) (by omega) (by decide)
        have h_154 := Inv.g hI_M hk_137 rfl (a1 + 85 * a2 + 4 * x8_127 + 106) (a := 0) (b := 2) ha_153.1 ha_153.2
        refine kx_iload 41 F 5 dX12_isRule_39 rfl rfl ?_
        refine kx_icmp_ne 44 F 74 dX12_isRule_41 (by decide) rfl (by omega) (by omega) (fun h_155 => ?_) (fun h_155 => ?_)
        · refine kx_drop 9 (lo' := [some (vR G c0), some (vI a1), some (vI a2), some (vI a3), some (vI a4), some (vI a5), some (vI a6), some (vI a7), some (vI x8_127), none]) rfl ?_
          exact J_150 
        · refine kx_aload_n 45 F 0 dX12_isRule_44 rfl rfl rfl ?_
          refine kx_getr 48 F fl_X12_7 hk_c0 rfl rfl (j := 0) rfl dX12_isRule_45 (v := (M c0 0)) rfl rfl ?_
          refine kx_iload 50 F 9 dX12_isRule_48 rfl rfl ?_
          refine kx_iconst 51 F dX12_isRule_50 rfl ?_
          refine kx_iadd 52 F (v := a1 + 85 * a2 + 4 * x8_127 + 107) dX12_isRule_51 (by omega) rfl ?_
          refine kx_iald 53 F hk_137 rfl rfl (by omega) (by decide) dX12_isRule_52 (v := (M (M c0 0) (a1 + 85 * a2 + 4 * x8_127 + 107))) rfl rfl ?_
          have ha_156 : atlo (a1 + 85 * a2 + 4 * x8_127 + 107) = 0 ∧ athi (a1 + 85 * a2 + 4 * x8_127 + 107) = 2 := at_r (a1 + 85 * a2 + 4 * x8_127 + 107) 4 a2 x8_127 2 (by omega) (by omega) (by omega) (by decide)
          have h_157 := Inv.g hI_M hk_137 rfl (a1 + 85 * a2 + 4 * x8_127 + 107) (a := 0) (b := 2) ha_156.1 ha_156.2
          refine kx_iload 55 F 6 dX12_isRule_53 rfl rfl ?_
          refine kx_icmp_ne 58 F 74 dX12_isRule_55 (by decide) rfl (by omega) (by omega) (fun h_158 => ?_) (fun h_158 => ?_)
          · refine kx_drop 9 (lo' := [some (vR G c0), some (vI a1), some (vI a2), some (vI a3), some (vI a4), some (vI a5), some (vI a6), some (vI a7), some (vI x8_127), none]) rfl ?_
            exact J_150 
          · refine kx_aload_n 59 F 0 dX12_isRule_58 rfl rfl rfl ?_
            refine kx_getr 62 F fl_X12_7 hk_c0 rfl rfl (j := 0) rfl dX12_isRule_59 (v := (M c0 0)) rfl rfl ?_
            refine kx_iload 64 F 9 dX12_isRule_62 rfl rfl ?_
            refine kx_iconst 65 F dX12_isRule_64 rfl ?_
            refine kx_iadd 66 F (v := a1 + 85 * a2 + 4 * x8_127 + 108) dX12_isRule_65 (by omega) rfl ?_
            refine kx_iald 67 F hk_137 rfl rfl (by omega) (by decide) dX12_isRule_66 (v := (M (M c0 0) (a1 + 85 * a2 + 4 * x8_127 + 108))) rfl rfl ?_
            have ha_159 : atlo (a1 + 85 * a2 + 4 * x8_127 + 108) = (-1) ∧ athi (a1 + 85 * a2 + 4 * x8_127 + 108) = 2 := at_r (a1 + 85 * a2 + 4 * x8_127 + 108) 4 a2 x8_127 3 (by omega) (by omega) (by omega) (by decide)
            have h_160 := Inv.g hI_M hk_137 rfl (a1 + 85 * a2 + 4 * x8_127 + 108) (a := (-1)) (b := 2) ha_159.1 ha_159.2
            refine kx_iload 69 F 7 dX12_isRule_67 rfl rfl ?_
            refine kx_icmp_ne 72 F 74 dX12_isRule_69 (by decide) rfl (by omega) (by omega) (fun h_161 => ?_) (fun h_161 => ?_)
            · refine kx_drop 9 (lo' := [some (vR G c0), some (vI a1), some (vI a2), some (vI a3), some (vI a4), some (vI a5), some (vI a6), some (vI a7), some (vI x8_127), none]) rfl ?_
              exact J_150 
            · refine kx_iconst 73 F dX12_isRule_72 rfl ?_
              exact kx_zret F hQ (by omega) ⟨rfl, (by omega)⟩ dX12_isRule_73
  exact L_128 _ 0 (by omega) rfl
theorem dX12_states_0 : decode cX12_states 0 = .ok (.sipush 1358, 3) := by decide +kernel
theorem dX12_states_3 : decode cX12_states 3 = .ok (.istore_n 3, 1) := by decide +kernel
theorem dX12_states_4 : decode cX12_states 4 = .ok (.aload_n 0, 1) := by decide +kernel
theorem dX12_states_5 : decode cX12_states 5 = .ok (.invokevirtual 199, 3) := by decide +kernel
theorem dX12_states_8 : decode cX12_states 8 = .ok (.aload_n 0, 1) := by decide +kernel
theorem dX12_states_9 : decode cX12_states 9 = .ok (.getfield 168, 3) := by decide +kernel
theorem dX12_states_12 : decode cX12_states 12 = .ok (.iconst 3, 1) := by decide +kernel
theorem dX12_states_13 : decode cX12_states 13 = .ok (.if_icmp .ne 85, 3) := by decide +kernel
theorem dX12_states_16 : decode cX12_states 16 = .ok (.aload_n 0, 1) := by decide +kernel
theorem dX12_states_17 : decode cX12_states 17 = .ok (.getfield 165, 3) := by decide +kernel
theorem dX12_states_20 : decode cX12_states 20 = .ok (.ifCond .lt 39, 3) := by decide +kernel
theorem dX12_states_23 : decode cX12_states 23 = .ok (.aload_n 0, 1) := by decide +kernel
theorem dX12_states_24 : decode cX12_states 24 = .ok (.getfield 165, 3) := by decide +kernel
theorem dX12_states_27 : decode cX12_states 27 = .ok (.aload_n 0, 1) := by decide +kernel
theorem dX12_states_28 : decode cX12_states 28 = .ok (.getfield 7, 3) := by decide +kernel
theorem dX12_states_31 : decode cX12_states 31 = .ok (.iload_n 1, 1) := by decide +kernel
theorem dX12_states_32 : decode cX12_states 32 = .ok (.iaload, 1) := by decide +kernel
theorem dX12_states_33 : decode cX12_states 33 = .ok (.if_icmp .ge 26, 3) := by decide +kernel
theorem dX12_states_36 : decode cX12_states 36 = .ok (.aload_n 0, 1) := by decide +kernel
theorem dX12_states_37 : decode cX12_states 37 = .ok (.aload_n 0, 1) := by decide +kernel
theorem dX12_states_38 : decode cX12_states 38 = .ok (.getfield 7, 3) := by decide +kernel
theorem dX12_states_41 : decode cX12_states 41 = .ok (.iload_n 2, 1) := by decide +kernel
theorem dX12_states_42 : decode cX12_states 42 = .ok (.iaload, 1) := by decide +kernel
theorem dX12_states_43 : decode cX12_states 43 = .ok (.aload_n 0, 1) := by decide +kernel
theorem dX12_states_44 : decode cX12_states 44 = .ok (.getfield 165, 3) := by decide +kernel
theorem dX12_states_47 : decode cX12_states 47 = .ok (.invokevirtual 239, 3) := by decide +kernel
theorem dX12_states_50 : decode cX12_states 50 = .ok (.ifCond .eq 9, 3) := by decide +kernel
theorem dX12_states_53 : decode cX12_states 53 = .ok (.aload_n 0, 1) := by decide +kernel
theorem dX12_states_54 : decode cX12_states 54 = .ok (.iconst 5, 1) := by decide +kernel
theorem dX12_states_55 : decode cX12_states 55 = .ok (.invokevirtual 205, 3) := by decide +kernel
theorem dX12_states_58 : decode cX12_states 58 = .ok (.ireturn, 1) := by decide +kernel
theorem dX12_states_59 : decode cX12_states 59 = .ok (.aload_n 0, 1) := by decide +kernel
theorem dX12_states_60 : decode cX12_states 60 = .ok (.iload_n 3, 1) := by decide +kernel
theorem dX12_states_61 : decode cX12_states 61 = .ok (.iconst 0, 1) := by decide +kernel
theorem dX12_states_62 : decode cX12_states 62 = .ok (.aload_n 0, 1) := by decide +kernel
theorem dX12_states_63 : decode cX12_states 63 = .ok (.getfield 7, 3) := by decide +kernel
theorem dX12_states_66 : decode cX12_states 66 = .ok (.iload_n 1, 1) := by decide +kernel
theorem dX12_states_67 : decode cX12_states 67 = .ok (.iaload, 1) := by decide +kernel
theorem dX12_states_68 : decode cX12_states 68 = .ok (.iconst 1, 1) := by decide +kernel
theorem dX12_states_69 : decode cX12_states 69 = .ok (.isub, 1) := by decide +kernel
theorem dX12_states_70 : decode cX12_states 70 = .ok (.invokevirtual 231, 3) := by decide +kernel
theorem dX12_states_73 : decode cX12_states 73 = .ok (.ifCond .ne 5, 3) := by decide +kernel
theorem dX12_states_76 : decode cX12_states 76 = .ok (.iconst 0, 1) := by decide +kernel
theorem dX12_states_77 : decode cX12_states 77 = .ok (.ireturn, 1) := by decide +kernel
theorem dX12_states_78 : decode cX12_states 78 = .ok (.aload_n 0, 1) := by decide +kernel
theorem dX12_states_79 : decode cX12_states 79 = .ok (.getfield 7, 3) := by decide +kernel
theorem dX12_states_82 : decode cX12_states 82 = .ok (.iload_n 2, 1) := by decide +kernel
theorem dX12_states_83 : decode cX12_states 83 = .ok (.dup2, 1) := by decide +kernel
theorem dX12_states_84 : decode cX12_states 84 = .ok (.iaload, 1) := by decide +kernel
theorem dX12_states_85 : decode cX12_states 85 = .ok (.iconst 1, 1) := by decide +kernel
theorem dX12_states_86 : decode cX12_states 86 = .ok (.aload_n 0, 1) := by decide +kernel
theorem dX12_states_87 : decode cX12_states 87 = .ok (.getfield 7, 3) := by decide +kernel
theorem dX12_states_90 : decode cX12_states 90 = .ok (.iload_n 3, 1) := by decide +kernel
theorem dX12_states_91 : decode cX12_states 91 = .ok (.iaload, 1) := by decide +kernel
theorem dX12_states_92 : decode cX12_states 92 = .ok (.ishl, 1) := by decide +kernel
theorem dX12_states_93 : decode cX12_states 93 = .ok (.ior, 1) := by decide +kernel
theorem dX12_states_94 : decode cX12_states 94 = .ok (.iastore, 1) := by decide +kernel
theorem dX12_states_95 : decode cX12_states 95 = .ok (.goto (-87), 3) := by decide +kernel
theorem dX12_states_98 : decode cX12_states 98 = .ok (.iconst 1, 1) := by decide +kernel
theorem dX12_states_99 : decode cX12_states 99 = .ok (.ireturn, 1) := by decide +kernel
abbrev f_c_X12_states : List (Nat × Int) := [(64, 12), (64, 13), (64, 14), (64, 15), (64, 17), (64, 18), (65, -1)]
set_option maxHeartbeats 4000000 in
set_option maxRecDepth 100000 in
theorem c_X12_states (G : KG) (l : Launch) (M : Mem) (c0 : Int) (a1 : Int) (a2 : Int) (hI_M : Inv true M) (hk_c0 : kd c0 = 64) (hpre : -2147483648 ≤ a1 ∧ a1 ≤ 2147483647 ∧ -2147483648 ≤ a2 ∧ a2 ≤ 2147483647 ∧ 0 ≤ a1 ∧ a1 ≤ 1359 ∧ 0 ≤ a2 ∧ a2 ≤ 1359 ∧ (atlo a1) ≥ 0 ∧ (athi a1) ≤ 3 ∧ (atlo a2) = 0 ∧ (athi a2) = 7) : KC true G l yX12_states cX12_states 4 (some .boolean) (3, 65) [vR G c0, vI a1, vI a2] M (fun A => kQi true G A (fun (r : Int) (N : Mem) => Inv true N ∧ Fr f_c_X12_states M N ∧ (5 * (N c0 14) - (N c0 12) ≥ 5 * (M c0 14) - (M c0 12) ∧ r ≥ 0 ∧ r ≤ 1))) := by
  refine kx_met (lo := [some (vR G c0), some (vI a1), some (vI a2), none]) (by decide) (Nat.le_of_ble_eq_true rfl) rfl ?_
  intro X F hQ
  have hF_M : Fr f_c_X12_states M M := Fr.rf _ _
  have h_1 := Inv.g hI_M hk_c0 rfl 14 (a := 0) (b := 900) rfl rfl
  have h_2 := Inv.g hI_M hk_c0 rfl 12 (a := 0) (b := 4) rfl rfl
  refine kx_sipush 3 F dX12_states_0 (by decide) rfl ?_
  refine kx_istore_n 4 F 3 (lo' := [some (vR G c0), some (vI a1), some (vI a2), some (vI 1358)]) dX12_states_3 rfl (by decide) rfl rfl rfl ?_
  refine kx_aload_n 5 F 0 dX12_states_4 rfl rfl rfl ?_
  refine kx_Vv 8 (ci := 0) F (As := []) (st := []) vd_X12_199 (c_X12_ahead G l M c0 hI_M hk_c0) hk_c0 rfl rfl rfl ⟨by decide, by decide⟩ rfl rfl (Nat.le_of_ble_eq_true rfl) dX12_states_5 rfl ?_
  intro N_3 q_4
  obtain ⟨hI_N_3, hG_N_3, q_4c⟩ := q_4
  have hF_N_3 : Fr f_c_X12_states M N_3 := Fr.c hF_M hG_N_3 rfl
  have h_5 := Inv.g hI_N_3 hk_c0 rfl 12 (a := 0) (b := 4) rfl rfl
  have h_6 := Inv.g hI_N_3 hk_c0 rfl 14 (a := 0) (b := 900) rfl rfl
  have h_7 := Inv.g hI_N_3 hk_c0 rfl 12 (a := 0) (b := 4) rfl rfl
  have h_8 := Inv.g hI_N_3 hk_c0 rfl 14 (a := 0) (b := 900) rfl rfl
  rcases q_4c with q_4c | q_4c
  · have L_107 : ∀ (n_108 : Nat) (N_106 : Mem), Inv true N_106 → Fr f_c_X12_states M N_106 → (N_106 c0 14) ≤ 900 ∧ 5 * (N_106 c0 14) - (N_106 c0 12) ≥ 5 * (M c0 14) - (M c0 12) ∧ (N_106 c0 12) ≥ 0 ∧ (N_106 c0 12) ≤ 4 → (5 * (900 - N_106 c0 14) + N_106 c0 12).toNat = n_108 → KJ true G X N_106 8 [some (vR G c0), some (vI a1), some (vI a2), some (vI 1358)] [] := by
      intro n_108
      refine Nat.strongRecOn n_108 ?_
      intro n_108 ih_109  N_106 hI_N_106 hF_N_106 h_110 hm_111
      refine kx_aload_n 9 F 0 dX12_states_8 rfl rfl rfl ?_
      refine kx_geti 12 F fl_X12_168 hk_c0 rfl rfl (j := 12) rfl dX12_states_9 (v := (N_106 c0 12)) rfl rfl ?_
      have h_112 := Inv.g hI_N_106 hk_c0 rfl 12 (a := 0) (b := 4) rfl rfl
      refine kx_iconst 13 F dX12_states_12 rfl ?_
      refine kx_icmp_ne 16 F 98 dX12_states_13 (by decide) rfl (by omega) (by decide) (fun h_113 => ?_) (fun h_113 => ?_)
      · refine kx_iconst 99 F dX12_states_98 rfl ?_
        have h_114 := Inv.g hI_N_106 hk_c0 rfl 14 (a := 0) (b := 900) rfl rfl
        exact kx_zret F hQ (by omega) ⟨hI_N_106, hF_N_106, (by omega)⟩ dX12_states_99
      · refine kx_aload_n 17 F 0 dX12_states_16 rfl rfl rfl ?_
        refine kx_geti 20 F fl_X12_165 hk_c0 rfl rfl (j := 15) rfl dX12_states_17 (v := (N_106 c0 15)) rfl rfl ?_
        have h_115 := Inv.g hI_N_106 hk_c0 rfl 15 (a := (-2147483648)) (b := 2147483647) rfl rfl
        refine kx_if_lt 23 F 59 dX12_states_20 (by decide) rfl (by omega) (fun h_116 => ?_) (fun h_116 => ?_)
        · refine kx_aload_n 60 F 0 dX12_states_59 rfl rfl rfl ?_
          refine kx_iload_n 61 F 3 dX12_states_60 rfl rfl rfl ?_
          refine kx_iconst 62 F dX12_states_61 rfl ?_
          refine kx_aload_n 63 F 0 dX12_states_62 rfl rfl rfl ?_
          refine kx_getr 66 F fl_X12_7 hk_c0 rfl rfl (j := 0) rfl dX12_states_63 (v := (M c0 0)) (by rw [Fr.e hF_N_106 hk_c0 _ rfl]) rfl ?_
          have hk_117 : kd (M c0 0) = 65 := Inv.r hI_M hk_c0 rfl 0 rfl rfl
          refine kx_iload_n 67 F 1 dX12_states_66 rfl rfl rfl ?_
          refine kx_iald 68 F hk_117 rfl rfl (by omega) (by decide) dX12_states_67 (v := (N_106 (M c0 0) a1)) rfl rfl ?_
          have h_118 := Inv.g hI_N_106 hk_117 rfl a1 (a := atlo a1) (b := athi a1) rfl rfl
          have h_119 := at_w a1
          refine kx_iconst 69 F dX12_states_68 rfl ?_
          refine kx_isub 70 F (v := (N_106 (M c0 0) a1) - 1) dX12_states_69 rfl rfl ?_
          have ha_120 : atlo 1358 = (-2147483648) ∧ athi 1358 = 2147483647 := at_c 1358 4 (o := 270) (lo := (-2147483648)) (hi := 2147483647) (by omega) (by decide) (by decide) (by decide)
          refine kx_Vi 73 (ci := 0) F (As := [vI 1358, vI 0, vI ((N_106 (M c0 0) a1) - 1)]) (st := []) vd_X12_231 (c_X12_number G l N_106 c0 1358 0 ((N_106 (M c0 0) a1) - 1) hI_N_106 hk_c0 (by omega)) hk_c0 rfl rfl rfl ⟨by decide, by decide⟩ rfl rfl (Nat.le_of_ble_eq_true rfl) dX12_states_70 rfl ?_
          intro r_121 N_122 q_123
          obtain ⟨hI_N_122, hG_N_122, q_123c, hx_N_122⟩ := q_123
          have hF_N_122 : Fr f_c_X12_states M N_122 := Fr.c hF_N_106 hG_N_122 rfl
          have hat_N_122 : ∀ j, ¬ j = 1358 → N_122 (M c0 0) j = N_106 (M c0 0) j := by
            intro j hj
            have hq := hx_N_122 j hj
            rw [show N_106 c0 0 = M c0 0 by rw [Fr.e hF_N_106 hk_c0 _ rfl]] at hq; exact hq
          have h_124 := Inv.g hI_N_106 hk_c0 rfl 14 (a := 0) (b := 900) rfl rfl
          have h_125 := Inv.g hI_N_122 hk_c0 rfl 14 (a := 0) (b := 900) rfl rfl
          have h_126 := Inv.g hI_N_122 hk_c0 rfl 12 (a := 0) (b := 4) rfl rfl
          have e_127 : (N_106 c0 0) = (M c0 0) := by rw [Fr.e hF_N_106 hk_c0 _ rfl]
          have e_128 : (N_122 (N_106 c0 0) 1358) = (N_122 (M c0 0) 1358) := by rw [e_127]
          have e_129 : (N_106 c0 0) = (M c0 0) := by rw [Fr.e hF_N_106 hk_c0 _ rfl]
          have e_130 : (N_122 (N_106 c0 0) 1358) = (N_122 (M c0 0) 1358) := by rw [e_129]
          have h_131 := Inv.g hI_N_106 hk_c0 rfl 14 (a := 0) (b := 900) rfl rfl
          have h_132 := Inv.g hI_N_122 hk_c0 rfl 14 (a := 0) (b := 900) rfl rfl
          have h_133 := Inv.g hI_N_122 hk_c0 rfl 12 (a := 0) (b := 4) rfl rfl
          rcases q_123c with q_123c | q_123c
          · refine kx_if_ne 76 F 78 dX12_states_73 (by decide) rfl (by omega) (fun h_134 => ?_) (fun h_134 => (by exfalso; omega))
            refine kx_aload_n 79 F 0 dX12_states_78 rfl rfl rfl ?_
            refine kx_getr 82 F fl_X12_7 hk_c0 rfl rfl (j := 0) rfl dX12_states_79 (v := (M c0 0)) (by rw [Fr.e hG_N_122 hk_c0 _ rfl, Fr.e hF_N_106 hk_c0 _ rfl]) rfl ?_
            refine kx_iload_n 83 F 2 dX12_states_82 rfl rfl rfl ?_
            refine kx_dup2 84 F dX12_states_83 rfl rfl rfl ?_
            refine kx_iald 85 F hk_117 rfl rfl (by omega) (by decide) dX12_states_84 (v := (N_122 (M c0 0) a2)) rfl rfl ?_
            have h_135 := Inv.g hI_N_122 hk_117 rfl a2 (a := atlo a2) (b := athi a2) rfl rfl
            have h_136 := at_w a2
            refine kx_iconst 86 F dX12_states_85 rfl ?_
            refine kx_aload_n 87 F 0 dX12_states_86 rfl rfl rfl ?_
            refine kx_getr 90 F fl_X12_7 hk_c0 rfl rfl (j := 0) rfl dX12_states_87 (v := (M c0 0)) (by rw [Fr.e hG_N_122 hk_c0 _ rfl, Fr.e hF_N_106 hk_c0 _ rfl]) rfl ?_
            refine kx_iload_n 91 F 3 dX12_states_90 rfl rfl rfl ?_
            refine kx_iald 92 F hk_117 rfl rfl (by omega) (by decide) dX12_states_91 (v := (N_122 (M c0 0) 1358)) rfl rfl ?_
            have h_137 := Inv.g hI_N_122 hk_117 rfl 1358 (a := (-2147483648)) (b := 2147483647) ha_120.1 ha_120.2
            refine kx_ishl 93 F (v := (zshl 1 (N_122 (M c0 0) 1358))) dX12_states_92 rfl rfl ?_
            have h_138 := zshl_1 (b := (N_122 (M c0 0) 1358)) 2 (by decide) (by omega)
            refine kx_ior 94 F (v := (zor (N_122 (M c0 0) a2) (zshl 1 (N_122 (M c0 0) 1358)))) dX12_states_93 rfl rfl ?_
            have h_139 : 0 ≤ (zor (N_122 (M c0 0) a2) (zshl 1 (N_122 (M c0 0) 1358))) ∧ (zor (N_122 (M c0 0) a2) (zshl 1 (N_122 (M c0 0) 1358))) < 8 := zor_lt (a := (N_122 (M c0 0) a2)) (b := (zshl 1 (N_122 (M c0 0) 1358))) 3 (by decide) (by omega) (by omega)
            refine kx_iast 95 F hk_117 rfl rfl (by omega) (by decide) dX12_states_94 rfl ?_
            intro N_140 hM_N_140
            have h_141 := at_0 a2
            have h_142 := at_q a2 a2 (by omega)
            have hI_N_140 : Inv true N_140 := Inv.u hI_N_122 hM_N_140 hk_117 (a := atlo a2) (b := athi a2) rfl rfl rfl (by omega)
            have hF_N_140 : Fr f_c_X12_states M N_140 := Fr.u hF_N_122 hM_N_140 hk_117 rfl
            refine kx_goto 8 F dX12_states_95 (by decide) ?_
            have e_143 : (N_140 c0 14) = (N_122 c0 14) := by rw [hM_N_140, mu_k hk_c0 hk_117 rfl]
            have e_144 : (N_140 c0 14) = (N_122 c0 14) := by rw [hM_N_140, mu_k hk_c0 hk_117 rfl]
            have e_145 : (N_140 c0 12) = (N_122 c0 12) := by rw [hM_N_140, mu_k hk_c0 hk_117 rfl]
            have e_146 : (N_140 c0 12) = (N_122 c0 12) := by rw [hM_N_140, mu_k hk_c0 hk_117 rfl]
            have e_147 : (N_140 c0 12) = (N_122 c0 12) := by rw [hM_N_140, mu_k hk_c0 hk_117 rfl]
            exact ih_109 _ (by omega) N_140 hI_N_140 hF_N_140 (by omega) rfl
          · refine kx_if_ne 76 F 78 dX12_states_73 (by decide) rfl (by omega) (fun h_148 => (by exfalso; omega)) (fun h_148 => ?_)
            refine kx_iconst 77 F dX12_states_76 rfl ?_
            exact kx_zret F hQ (by omega) ⟨hI_N_122, hF_N_122, (by omega)⟩ dX12_states_77
        · refine kx_aload_n 24 F 0 dX12_states_23 rfl rfl rfl ?_
          refine kx_geti 27 F fl_X12_165 hk_c0 rfl rfl (j := 15) rfl dX12_states_24 (v := (N_106 c0 15)) rfl rfl ?_
          refine kx_aload_n 28 F 0 dX12_states_27 rfl rfl rfl ?_
          refine kx_getr 31 F fl_X12_7 hk_c0 rfl rfl (j := 0) rfl dX12_states_28 (v := (M c0 0)) (by rw [Fr.e hF_N_106 hk_c0 _ rfl]) rfl ?_
          have hk_149 : kd (M c0 0) = 65 := Inv.r hI_M hk_c0 rfl 0 rfl rfl
          refine kx_iload_n 32 F 1 dX12_states_31 rfl rfl rfl ?_
          refine kx_iald 33 F hk_149 rfl rfl (by omega) (by decide) dX12_states_32 (v := (N_106 (M c0 0) a1)) rfl rfl ?_
          have h_150 := Inv.g hI_N_106 hk_149 rfl a1 (a := atlo a1) (b := athi a1) rfl rfl
          have h_151 := at_w a1
          refine kx_icmp_ge 36 F 59 dX12_states_33 (by decide) rfl (by omega) (by omega) (fun h_152 => ?_) (fun h_152 => ?_)
          · refine kx_aload_n 60 F 0 dX12_states_59 rfl rfl rfl ?_
            refine kx_iload_n 61 F 3 dX12_states_60 rfl rfl rfl ?_
            refine kx_iconst 62 F dX12_states_61 rfl ?_
            refine kx_aload_n 63 F 0 dX12_states_62 rfl rfl rfl ?_
            refine kx_getr 66 F fl_X12_7 hk_c0 rfl rfl (j := 0) rfl dX12_states_63 (v := (M c0 0)) (by rw [Fr.e hF_N_106 hk_c0 _ rfl]) rfl ?_
            refine kx_iload_n 67 F 1 dX12_states_66 rfl rfl rfl ?_
            refine kx_iald 68 F hk_149 rfl rfl (by omega) (by decide) dX12_states_67 (v := (N_106 (M c0 0) a1)) rfl rfl ?_
            refine kx_iconst 69 F dX12_states_68 rfl ?_
            refine kx_isub 70 F (v := (N_106 (M c0 0) a1) - 1) dX12_states_69 rfl rfl ?_
            have ha_153 : atlo 1358 = (-2147483648) ∧ athi 1358 = 2147483647 := at_c 1358 4 (o := 270) (lo := (-2147483648)) (hi := 2147483647) (by omega) (by decide) (by decide) (by decide)
            refine kx_Vi 73 (ci := 0) F (As := [vI 1358, vI 0, vI ((N_106 (M c0 0) a1) - 1)]) (st := []) vd_X12_231 (c_X12_number G l N_106 c0 1358 0 ((N_106 (M c0 0) a1) - 1) hI_N_106 hk_c0 (by omega)) hk_c0 rfl rfl rfl ⟨by decide, by decide⟩ rfl rfl (Nat.le_of_ble_eq_true rfl) dX12_states_70 rfl ?_
            intro r_154 N_155 q_156
            obtain ⟨hI_N_155, hG_N_155, q_156c, hx_N_155⟩ := q_156
            have hF_N_155 : Fr f_c_X12_states M N_155 := Fr.c hF_N_106 hG_N_155 rfl
            have hat_N_155 : ∀ j, ¬ j = 1358 → N_155 (M c0 0) j = N_106 (M c0 0) j := by
              intro j hj
              have hq := hx_N_155 j hj
              rw [show N_106 c0 0 = M c0 0 by rw [Fr.e hF_N_106 hk_c0 _ rfl]] at hq; exact hq
            have h_157 := Inv.g hI_N_106 hk_c0 rfl 14 (a := 0) (b := 900) rfl rfl
            have h_158 := Inv.g hI_N_155 hk_c0 rfl 14 (a := 0) (b := 900) rfl rfl
            have h_159 := Inv.g hI_N_155 hk_c0 rfl 12 (a := 0) (b := 4) rfl rfl
            have e_160 : (N_106 c0 0) = (M c0 0) := by rw [Fr.e hF_N_106 hk_c0 _ rfl]
            have e_161 : (N_155 (N_106 c0 0) 1358) = (N_155 (M c0 0) 1358) := by rw [e_160]
            have e_162 : (N_106 c0 0) = (M c0 0) := by rw [Fr.e hF_N_106 hk_c0 _ rfl]
            have e_163 : (N_155 (N_106 c0 0) 1358) = (N_155 (M c0 0) 1358) := by rw [e_162]
            have h_164 := Inv.g hI_N_106 hk_c0 rfl 14 (a := 0) (b := 900) rfl rfl
            have h_165 := Inv.g hI_N_155 hk_c0 rfl 14 (a := 0) (b := 900) rfl rfl
            have h_166 := Inv.g hI_N_155 hk_c0 rfl 12 (a := 0) (b := 4) rfl rfl
            rcases q_156c with q_156c | q_156c
            · refine kx_if_ne 76 F 78 dX12_states_73 (by decide) rfl (by omega) (fun h_167 => ?_) (fun h_167 => (by exfalso; omega))
              refine kx_aload_n 79 F 0 dX12_states_78 rfl rfl rfl ?_
              refine kx_getr 82 F fl_X12_7 hk_c0 rfl rfl (j := 0) rfl dX12_states_79 (v := (M c0 0)) (by rw [Fr.e hG_N_155 hk_c0 _ rfl, Fr.e hF_N_106 hk_c0 _ rfl]) rfl ?_
              refine kx_iload_n 83 F 2 dX12_states_82 rfl rfl rfl ?_
              refine kx_dup2 84 F dX12_states_83 rfl rfl rfl ?_
              refine kx_iald 85 F hk_149 rfl rfl (by omega) (by decide) dX12_states_84 (v := (N_155 (M c0 0) a2)) rfl rfl ?_
              have h_168 := Inv.g hI_N_155 hk_149 rfl a2 (a := atlo a2) (b := athi a2) rfl rfl
              have h_169 := at_w a2
              refine kx_iconst 86 F dX12_states_85 rfl ?_
              refine kx_aload_n 87 F 0 dX12_states_86 rfl rfl rfl ?_
              refine kx_getr 90 F fl_X12_7 hk_c0 rfl rfl (j := 0) rfl dX12_states_87 (v := (M c0 0)) (by rw [Fr.e hG_N_155 hk_c0 _ rfl, Fr.e hF_N_106 hk_c0 _ rfl]) rfl ?_
              refine kx_iload_n 91 F 3 dX12_states_90 rfl rfl rfl ?_
              refine kx_iald 92 F hk_149 rfl rfl (by omega) (by decide) dX12_states_91 (v := (N_155 (M c0 0) 1358)) rfl rfl ?_
              have h_170 := Inv.g hI_N_155 hk_149 rfl 1358 (a := (-2147483648)) (b := 2147483647) ha_153.1 ha_153.2
              refine kx_ishl 93 F (v := (zshl 1 (N_155 (M c0 0) 1358))) dX12_states_92 rfl rfl ?_
              have h_171 := zshl_1 (b := (N_155 (M c0 0) 1358)) 2 (by decide) (by omega)
              refine kx_ior 94 F (v := (zor (N_155 (M c0 0) a2) (zshl 1 (N_155 (M c0 0) 1358)))) dX12_states_93 rfl rfl ?_
              have h_172 : 0 ≤ (zor (N_155 (M c0 0) a2) (zshl 1 (N_155 (M c0 0) 1358))) ∧ (zor (N_155 (M c0 0) a2) (zshl 1 (N_155 (M c0 0) 1358))) < 8 := zor_lt (a := (N_155 (M c0 0) a2)) (b := (zshl 1 (N_155 (M c0 0) 1358))) 3 (by decide) (by omega) (by omega)
              refine kx_iast 95 F hk_149 rfl rfl (by omega) (by decide) dX12_states_94 rfl ?_
              intro N_173 hM_N_173
              have h_174 := at_0 a2
              have h_175 := at_q a2 a2 (by omega)
              have hI_N_173 : Inv true N_173 := Inv.u hI_N_155 hM_N_173 hk_149 (a := atlo a2) (b := athi a2) rfl rfl rfl (by omega)
              have hF_N_173 : Fr f_c_X12_states M N_173 := Fr.u hF_N_155 hM_N_173 hk_149 rfl
              refine kx_goto 8 F dX12_states_95 (by decide) ?_
              have e_176 : (N_173 c0 14) = (N_155 c0 14) := by rw [hM_N_173, mu_k hk_c0 hk_149 rfl]
              have e_177 : (N_173 c0 14) = (N_155 c0 14) := by rw [hM_N_173, mu_k hk_c0 hk_149 rfl]
              have e_178 : (N_173 c0 12) = (N_155 c0 12) := by rw [hM_N_173, mu_k hk_c0 hk_149 rfl]
              have e_179 : (N_173 c0 12) = (N_155 c0 12) := by rw [hM_N_173, mu_k hk_c0 hk_149 rfl]
              have e_180 : (N_173 c0 12) = (N_155 c0 12) := by rw [hM_N_173, mu_k hk_c0 hk_149 rfl]
              exact ih_109 _ (by omega) N_173 hI_N_173 hF_N_173 (by omega) rfl
            · refine kx_if_ne 76 F 78 dX12_states_73 (by decide) rfl (by omega) (fun h_181 => (by exfalso; omega)) (fun h_181 => ?_)
              refine kx_iconst 77 F dX12_states_76 rfl ?_
              exact kx_zret F hQ (by omega) ⟨hI_N_155, hF_N_155, (by omega)⟩ dX12_states_77
          · refine kx_aload_n 37 F 0 dX12_states_36 rfl rfl rfl ?_
            refine kx_aload_n 38 F 0 dX12_states_37 rfl rfl rfl ?_
            refine kx_getr 41 F fl_X12_7 hk_c0 rfl rfl (j := 0) rfl dX12_states_38 (v := (M c0 0)) (by rw [Fr.e hF_N_106 hk_c0 _ rfl]) rfl ?_
            refine kx_iload_n 42 F 2 dX12_states_41 rfl rfl rfl ?_
            refine kx_iald 43 F hk_149 rfl rfl (by omega) (by decide) dX12_states_42 (v := (N_106 (M c0 0) a2)) rfl rfl ?_
            have h_182 := Inv.g hI_N_106 hk_149 rfl a2 (a := atlo a2) (b := athi a2) rfl rfl
            have h_183 := at_w a2
            refine kx_aload_n 44 F 0 dX12_states_43 rfl rfl rfl ?_
            refine kx_geti 47 F fl_X12_165 hk_c0 rfl rfl (j := 15) rfl dX12_states_44 (v := (N_106 c0 15)) rfl rfl ?_
            refine kx_Vi 50 (ci := 0) F (As := [vI (N_106 (M c0 0) a2), vI (N_106 c0 15)]) (st := []) vd_X12_239 (c_X12_isIn G l N_106 c0 (N_106 (M c0 0) a2) (N_106 c0 15) hI_N_106 hk_c0 (by omega)) hk_c0 rfl rfl rfl ⟨by decide, by decide⟩ rfl rfl (Nat.le_of_ble_eq_true rfl) dX12_states_47 rfl ?_
            intro r_184 N_185 q_186
            obtain ⟨rfl, q_186c⟩ := q_186
            refine kx_if_eq 53 F 59 dX12_states_50 (by decide) rfl (by omega) (fun h_187 => ?_) (fun h_187 => ?_)
            · refine kx_aload_n 60 F 0 dX12_states_59 rfl rfl rfl ?_
              refine kx_iload_n 61 F 3 dX12_states_60 rfl rfl rfl ?_
              refine kx_iconst 62 F dX12_states_61 rfl ?_
              refine kx_aload_n 63 F 0 dX12_states_62 rfl rfl rfl ?_
              refine kx_getr 66 F fl_X12_7 hk_c0 rfl rfl (j := 0) rfl dX12_states_63 (v := (M c0 0)) (by rw [Fr.e hF_N_106 hk_c0 _ rfl]) rfl ?_
              refine kx_iload_n 67 F 1 dX12_states_66 rfl rfl rfl ?_
              refine kx_iald 68 F hk_149 rfl rfl (by omega) (by decide) dX12_states_67 (v := (N_106 (M c0 0) a1)) rfl rfl ?_
              refine kx_iconst 69 F dX12_states_68 rfl ?_
              refine kx_isub 70 F (v := (N_106 (M c0 0) a1) - 1) dX12_states_69 rfl rfl ?_
              have ha_188 : atlo 1358 = (-2147483648) ∧ athi 1358 = 2147483647 := at_c 1358 4 (o := 270) (lo := (-2147483648)) (hi := 2147483647) (by omega) (by decide) (by decide) (by decide)
              refine kx_Vi 73 (ci := 0) F (As := [vI 1358, vI 0, vI ((N_106 (M c0 0) a1) - 1)]) (st := []) vd_X12_231 (c_X12_number G l N_106 c0 1358 0 ((N_106 (M c0 0) a1) - 1) hI_N_106 hk_c0 (by omega)) hk_c0 rfl rfl rfl ⟨by decide, by decide⟩ rfl rfl (Nat.le_of_ble_eq_true rfl) dX12_states_70 rfl ?_
              intro r_189 N_190 q_191
              obtain ⟨hI_N_190, hG_N_190, q_191c, hx_N_190⟩ := q_191
              have hF_N_190 : Fr f_c_X12_states M N_190 := Fr.c hF_N_106 hG_N_190 rfl
              have hat_N_190 : ∀ j, ¬ j = 1358 → N_190 (M c0 0) j = N_106 (M c0 0) j := by
                intro j hj
                have hq := hx_N_190 j hj
                rw [show N_106 c0 0 = M c0 0 by rw [Fr.e hF_N_106 hk_c0 _ rfl]] at hq; exact hq
              have h_192 := Inv.g hI_N_106 hk_c0 rfl 14 (a := 0) (b := 900) rfl rfl
              have h_193 := Inv.g hI_N_190 hk_c0 rfl 14 (a := 0) (b := 900) rfl rfl
              have h_194 := Inv.g hI_N_190 hk_c0 rfl 12 (a := 0) (b := 4) rfl rfl
              have e_195 : (N_106 c0 0) = (M c0 0) := by rw [Fr.e hF_N_106 hk_c0 _ rfl]
              have e_196 : (N_190 (N_106 c0 0) 1358) = (N_190 (M c0 0) 1358) := by rw [e_195]
              have e_197 : (N_106 c0 0) = (M c0 0) := by rw [Fr.e hF_N_106 hk_c0 _ rfl]
              have e_198 : (N_190 (N_106 c0 0) 1358) = (N_190 (M c0 0) 1358) := by rw [e_197]
              have h_199 := Inv.g hI_N_106 hk_c0 rfl 14 (a := 0) (b := 900) rfl rfl
              have h_200 := Inv.g hI_N_190 hk_c0 rfl 14 (a := 0) (b := 900) rfl rfl
              have h_201 := Inv.g hI_N_190 hk_c0 rfl 12 (a := 0) (b := 4) rfl rfl
              rcases q_191c with q_191c | q_191c
              · refine kx_if_ne 76 F 78 dX12_states_73 (by decide) rfl (by omega) (fun h_202 => ?_) (fun h_202 => (by exfalso; omega))
                refine kx_aload_n 79 F 0 dX12_states_78 rfl rfl rfl ?_
                refine kx_getr 82 F fl_X12_7 hk_c0 rfl rfl (j := 0) rfl dX12_states_79 (v := (M c0 0)) (by rw [Fr.e hG_N_190 hk_c0 _ rfl, Fr.e hF_N_106 hk_c0 _ rfl]) rfl ?_
                refine kx_iload_n 83 F 2 dX12_states_82 rfl rfl rfl ?_
                refine kx_dup2 84 F dX12_states_83 rfl rfl rfl ?_
                refine kx_iald 85 F hk_149 rfl rfl (by omega) (by decide) dX12_states_84 (v := (N_190 (M c0 0) a2)) rfl rfl ?_
                have h_203 := Inv.g hI_N_190 hk_149 rfl a2 (a := atlo a2) (b := athi a2) rfl rfl
                have h_204 := at_w a2
                refine kx_iconst 86 F dX12_states_85 rfl ?_
                refine kx_aload_n 87 F 0 dX12_states_86 rfl rfl rfl ?_
                refine kx_getr 90 F fl_X12_7 hk_c0 rfl rfl (j := 0) rfl dX12_states_87 (v := (M c0 0)) (by rw [Fr.e hG_N_190 hk_c0 _ rfl, Fr.e hF_N_106 hk_c0 _ rfl]) rfl ?_
                refine kx_iload_n 91 F 3 dX12_states_90 rfl rfl rfl ?_
                refine kx_iald 92 F hk_149 rfl rfl (by omega) (by decide) dX12_states_91 (v := (N_190 (M c0 0) 1358)) rfl rfl ?_
                have h_205 := Inv.g hI_N_190 hk_149 rfl 1358 (a := (-2147483648)) (b := 2147483647) ha_188.1 ha_188.2
                refine kx_ishl 93 F (v := (zshl 1 (N_190 (M c0 0) 1358))) dX12_states_92 rfl rfl ?_
                have h_206 := zshl_1 (b := (N_190 (M c0 0) 1358)) 2 (by decide) (by omega)
                refine kx_ior 94 F (v := (zor (N_190 (M c0 0) a2) (zshl 1 (N_190 (M c0 0) 1358)))) dX12_states_93 rfl rfl ?_
                have h_207 : 0 ≤ (zor (N_190 (M c0 0) a2) (zshl 1 (N_190 (M c0 0) 1358))) ∧ (zor (N_190 (M c0 0) a2) (zshl 1 (N_190 (M c0 0) 1358))) < 8 := zor_lt (a := (N_190 (M c0 0) a2)) (b := (zshl 1 (N_190 (M c0 0) 1358))) 3 (by decide) (by omega) (by omega)
                refine kx_iast 95 F hk_149 rfl rfl (by omega) (by decide) dX12_states_94 rfl ?_
                intro N_208 hM_N_208
                have h_209 := at_0 a2
                have h_210 := at_q a2 a2 (by omega)
                have hI_N_208 : Inv true N_208 := Inv.u hI_N_190 hM_N_208 hk_149 (a := atlo a2) (b := athi a2) rfl rfl rfl (by omega)
                have hF_N_208 : Fr f_c_X12_states M N_208 := Fr.u hF_N_190 hM_N_208 hk_149 rfl
                refine kx_goto 8 F dX12_states_95 (by decide) ?_
                have e_211 : (N_208 c0 14) = (N_190 c0 14) := by rw [hM_N_208, mu_k hk_c0 hk_149 rfl]
                have e_212 : (N_208 c0 14) = (N_190 c0 14) := by rw [hM_N_208, mu_k hk_c0 hk_149 rfl]
                have e_213 : (N_208 c0 12) = (N_190 c0 12) := by rw [hM_N_208, mu_k hk_c0 hk_149 rfl]
                have e_214 : (N_208 c0 12) = (N_190 c0 12) := by rw [hM_N_208, mu_k hk_c0 hk_149 rfl]
                have e_215 : (N_208 c0 12) = (N_190 c0 12) := by rw [hM_N_208, mu_k hk_c0 hk_149 rfl]
                exact ih_109 _ (by omega) N_208 hI_N_208 hF_N_208 (by omega) rfl
              · refine kx_if_ne 76 F 78 dX12_states_73 (by decide) rfl (by omega) (fun h_216 => (by exfalso; omega)) (fun h_216 => ?_)
                refine kx_iconst 77 F dX12_states_76 rfl ?_
                exact kx_zret F hQ (by omega) ⟨hI_N_190, hF_N_190, (by omega)⟩ dX12_states_77
            · refine kx_aload_n 54 F 0 dX12_states_53 rfl rfl rfl ?_
              refine kx_iconst 55 F dX12_states_54 rfl ?_
              refine kx_Vi 58 (ci := 0) F (As := [vI 5]) (st := []) vd_X12_205 (c_X12_fails G l N_106 c0 5 hI_N_106 hk_c0 (by omega)) hk_c0 rfl rfl rfl ⟨by decide, by decide⟩ rfl rfl (Nat.le_of_ble_eq_true rfl) dX12_states_55 rfl ?_
              intro r_217 N_218 q_219
              obtain ⟨hI_N_218, hG_N_218, q_219c⟩ := q_219
              have hF_N_218 : Fr f_c_X12_states M N_218 := Fr.c hF_N_106 hG_N_218 rfl
              subst q_219c
              have e_220 : (N_218 c0 14) = (N_106 c0 14) := by rw [Fr.e hG_N_218 hk_c0 _ rfl]
              have h_221 := Inv.g hI_N_106 hk_c0 rfl 14 (a := 0) (b := 900) rfl rfl
              have e_222 : (N_218 c0 12) = (N_106 c0 12) := by rw [Fr.e hG_N_218 hk_c0 _ rfl]
              exact kx_zret F hQ (by omega) ⟨hI_N_218, hF_N_218, (by omega)⟩ dX12_states_58
    exact L_107 _ N_3 hI_N_3 hF_N_3 (by omega) rfl
  · have L_321 : ∀ (n_322 : Nat) (N_320 : Mem), Inv true N_320 → Fr f_c_X12_states M N_320 → (N_320 c0 14) ≤ 900 ∧ 5 * (N_320 c0 14) - (N_320 c0 12) ≥ 5 * (M c0 14) - (M c0 12) ∧ (N_320 c0 12) ≥ 0 ∧ (N_320 c0 12) ≤ 4 → (5 * (900 - N_320 c0 14) + N_320 c0 12).toNat = n_322 → KJ true G X N_320 8 [some (vR G c0), some (vI a1), some (vI a2), some (vI 1358)] [] := by
      intro n_322
      refine Nat.strongRecOn n_322 ?_
      intro n_322 ih_323  N_320 hI_N_320 hF_N_320 h_324 hm_325
      refine kx_aload_n 9 F 0 dX12_states_8 rfl rfl rfl ?_
      refine kx_geti 12 F fl_X12_168 hk_c0 rfl rfl (j := 12) rfl dX12_states_9 (v := (N_320 c0 12)) rfl rfl ?_
      have h_326 := Inv.g hI_N_320 hk_c0 rfl 12 (a := 0) (b := 4) rfl rfl
      refine kx_iconst 13 F dX12_states_12 rfl ?_
      refine kx_icmp_ne 16 F 98 dX12_states_13 (by decide) rfl (by omega) (by decide) (fun h_327 => ?_) (fun h_327 => ?_)
      · refine kx_iconst 99 F dX12_states_98 rfl ?_
        have h_328 := Inv.g hI_N_320 hk_c0 rfl 14 (a := 0) (b := 900) rfl rfl
        exact kx_zret F hQ (by omega) ⟨hI_N_320, hF_N_320, (by omega)⟩ dX12_states_99
      · refine kx_aload_n 17 F 0 dX12_states_16 rfl rfl rfl ?_
        refine kx_geti 20 F fl_X12_165 hk_c0 rfl rfl (j := 15) rfl dX12_states_17 (v := (N_320 c0 15)) rfl rfl ?_
        have h_329 := Inv.g hI_N_320 hk_c0 rfl 15 (a := (-2147483648)) (b := 2147483647) rfl rfl
        refine kx_if_lt 23 F 59 dX12_states_20 (by decide) rfl (by omega) (fun h_330 => ?_) (fun h_330 => ?_)
        · refine kx_aload_n 60 F 0 dX12_states_59 rfl rfl rfl ?_
          refine kx_iload_n 61 F 3 dX12_states_60 rfl rfl rfl ?_
          refine kx_iconst 62 F dX12_states_61 rfl ?_
          refine kx_aload_n 63 F 0 dX12_states_62 rfl rfl rfl ?_
          refine kx_getr 66 F fl_X12_7 hk_c0 rfl rfl (j := 0) rfl dX12_states_63 (v := (M c0 0)) (by rw [Fr.e hF_N_320 hk_c0 _ rfl]) rfl ?_
          have hk_331 : kd (M c0 0) = 65 := Inv.r hI_M hk_c0 rfl 0 rfl rfl
          refine kx_iload_n 67 F 1 dX12_states_66 rfl rfl rfl ?_
          refine kx_iald 68 F hk_331 rfl rfl (by omega) (by decide) dX12_states_67 (v := (N_320 (M c0 0) a1)) rfl rfl ?_
          have h_332 := Inv.g hI_N_320 hk_331 rfl a1 (a := atlo a1) (b := athi a1) rfl rfl
          have h_333 := at_w a1
          refine kx_iconst 69 F dX12_states_68 rfl ?_
          refine kx_isub 70 F (v := (N_320 (M c0 0) a1) - 1) dX12_states_69 rfl rfl ?_
          have ha_334 : atlo 1358 = (-2147483648) ∧ athi 1358 = 2147483647 := at_c 1358 4 (o := 270) (lo := (-2147483648)) (hi := 2147483647) (by omega) (by decide) (by decide) (by decide)
          refine kx_Vi 73 (ci := 0) F (As := [vI 1358, vI 0, vI ((N_320 (M c0 0) a1) - 1)]) (st := []) vd_X12_231 (c_X12_number G l N_320 c0 1358 0 ((N_320 (M c0 0) a1) - 1) hI_N_320 hk_c0 (by omega)) hk_c0 rfl rfl rfl ⟨by decide, by decide⟩ rfl rfl (Nat.le_of_ble_eq_true rfl) dX12_states_70 rfl ?_
          intro r_335 N_336 q_337
          obtain ⟨hI_N_336, hG_N_336, q_337c, hx_N_336⟩ := q_337
          have hF_N_336 : Fr f_c_X12_states M N_336 := Fr.c hF_N_320 hG_N_336 rfl
          have hat_N_336 : ∀ j, ¬ j = 1358 → N_336 (M c0 0) j = N_320 (M c0 0) j := by
            intro j hj
            have hq := hx_N_336 j hj
            rw [show N_320 c0 0 = M c0 0 by rw [Fr.e hF_N_320 hk_c0 _ rfl]] at hq; exact hq
          have h_338 := Inv.g hI_N_320 hk_c0 rfl 14 (a := 0) (b := 900) rfl rfl
          have h_339 := Inv.g hI_N_336 hk_c0 rfl 14 (a := 0) (b := 900) rfl rfl
          have h_340 := Inv.g hI_N_336 hk_c0 rfl 12 (a := 0) (b := 4) rfl rfl
          have e_341 : (N_320 c0 0) = (M c0 0) := by rw [Fr.e hF_N_320 hk_c0 _ rfl]
          have e_342 : (N_336 (N_320 c0 0) 1358) = (N_336 (M c0 0) 1358) := by rw [e_341]
          have e_343 : (N_320 c0 0) = (M c0 0) := by rw [Fr.e hF_N_320 hk_c0 _ rfl]
          have e_344 : (N_336 (N_320 c0 0) 1358) = (N_336 (M c0 0) 1358) := by rw [e_343]
          have h_345 := Inv.g hI_N_320 hk_c0 rfl 14 (a := 0) (b := 900) rfl rfl
          have h_346 := Inv.g hI_N_336 hk_c0 rfl 14 (a := 0) (b := 900) rfl rfl
          have h_347 := Inv.g hI_N_336 hk_c0 rfl 12 (a := 0) (b := 4) rfl rfl
          rcases q_337c with q_337c | q_337c
          · refine kx_if_ne 76 F 78 dX12_states_73 (by decide) rfl (by omega) (fun h_348 => ?_) (fun h_348 => (by exfalso; omega))
            refine kx_aload_n 79 F 0 dX12_states_78 rfl rfl rfl ?_
            refine kx_getr 82 F fl_X12_7 hk_c0 rfl rfl (j := 0) rfl dX12_states_79 (v := (M c0 0)) (by rw [Fr.e hG_N_336 hk_c0 _ rfl, Fr.e hF_N_320 hk_c0 _ rfl]) rfl ?_
            refine kx_iload_n 83 F 2 dX12_states_82 rfl rfl rfl ?_
            refine kx_dup2 84 F dX12_states_83 rfl rfl rfl ?_
            refine kx_iald 85 F hk_331 rfl rfl (by omega) (by decide) dX12_states_84 (v := (N_336 (M c0 0) a2)) rfl rfl ?_
            have h_349 := Inv.g hI_N_336 hk_331 rfl a2 (a := atlo a2) (b := athi a2) rfl rfl
            have h_350 := at_w a2
            refine kx_iconst 86 F dX12_states_85 rfl ?_
            refine kx_aload_n 87 F 0 dX12_states_86 rfl rfl rfl ?_
            refine kx_getr 90 F fl_X12_7 hk_c0 rfl rfl (j := 0) rfl dX12_states_87 (v := (M c0 0)) (by rw [Fr.e hG_N_336 hk_c0 _ rfl, Fr.e hF_N_320 hk_c0 _ rfl]) rfl ?_
            refine kx_iload_n 91 F 3 dX12_states_90 rfl rfl rfl ?_
            refine kx_iald 92 F hk_331 rfl rfl (by omega) (by decide) dX12_states_91 (v := (N_336 (M c0 0) 1358)) rfl rfl ?_
            have h_351 := Inv.g hI_N_336 hk_331 rfl 1358 (a := (-2147483648)) (b := 2147483647) ha_334.1 ha_334.2
            refine kx_ishl 93 F (v := (zshl 1 (N_336 (M c0 0) 1358))) dX12_states_92 rfl rfl ?_
            have h_352 := zshl_1 (b := (N_336 (M c0 0) 1358)) 2 (by decide) (by omega)
            refine kx_ior 94 F (v := (zor (N_336 (M c0 0) a2) (zshl 1 (N_336 (M c0 0) 1358)))) dX12_states_93 rfl rfl ?_
            have h_353 : 0 ≤ (zor (N_336 (M c0 0) a2) (zshl 1 (N_336 (M c0 0) 1358))) ∧ (zor (N_336 (M c0 0) a2) (zshl 1 (N_336 (M c0 0) 1358))) < 8 := zor_lt (a := (N_336 (M c0 0) a2)) (b := (zshl 1 (N_336 (M c0 0) 1358))) 3 (by decide) (by omega) (by omega)
            refine kx_iast 95 F hk_331 rfl rfl (by omega) (by decide) dX12_states_94 rfl ?_
            intro N_354 hM_N_354
            have h_355 := at_0 a2
            have h_356 := at_q a2 a2 (by omega)
            have hI_N_354 : Inv true N_354 := Inv.u hI_N_336 hM_N_354 hk_331 (a := atlo a2) (b := athi a2) rfl rfl rfl (by omega)
            have hF_N_354 : Fr f_c_X12_states M N_354 := Fr.u hF_N_336 hM_N_354 hk_331 rfl
            refine kx_goto 8 F dX12_states_95 (by decide) ?_
            have e_357 : (N_354 c0 14) = (N_336 c0 14) := by rw [hM_N_354, mu_k hk_c0 hk_331 rfl]
            have e_358 : (N_354 c0 14) = (N_336 c0 14) := by rw [hM_N_354, mu_k hk_c0 hk_331 rfl]
            have e_359 : (N_354 c0 12) = (N_336 c0 12) := by rw [hM_N_354, mu_k hk_c0 hk_331 rfl]
            have e_360 : (N_354 c0 12) = (N_336 c0 12) := by rw [hM_N_354, mu_k hk_c0 hk_331 rfl]
            have e_361 : (N_354 c0 12) = (N_336 c0 12) := by rw [hM_N_354, mu_k hk_c0 hk_331 rfl]
            exact ih_323 _ (by omega) N_354 hI_N_354 hF_N_354 (by omega) rfl
          · refine kx_if_ne 76 F 78 dX12_states_73 (by decide) rfl (by omega) (fun h_362 => (by exfalso; omega)) (fun h_362 => ?_)
            refine kx_iconst 77 F dX12_states_76 rfl ?_
            exact kx_zret F hQ (by omega) ⟨hI_N_336, hF_N_336, (by omega)⟩ dX12_states_77
        · refine kx_aload_n 24 F 0 dX12_states_23 rfl rfl rfl ?_
          refine kx_geti 27 F fl_X12_165 hk_c0 rfl rfl (j := 15) rfl dX12_states_24 (v := (N_320 c0 15)) rfl rfl ?_
          refine kx_aload_n 28 F 0 dX12_states_27 rfl rfl rfl ?_
          refine kx_getr 31 F fl_X12_7 hk_c0 rfl rfl (j := 0) rfl dX12_states_28 (v := (M c0 0)) (by rw [Fr.e hF_N_320 hk_c0 _ rfl]) rfl ?_
          have hk_363 : kd (M c0 0) = 65 := Inv.r hI_M hk_c0 rfl 0 rfl rfl
          refine kx_iload_n 32 F 1 dX12_states_31 rfl rfl rfl ?_
          refine kx_iald 33 F hk_363 rfl rfl (by omega) (by decide) dX12_states_32 (v := (N_320 (M c0 0) a1)) rfl rfl ?_
          have h_364 := Inv.g hI_N_320 hk_363 rfl a1 (a := atlo a1) (b := athi a1) rfl rfl
          have h_365 := at_w a1
          refine kx_icmp_ge 36 F 59 dX12_states_33 (by decide) rfl (by omega) (by omega) (fun h_366 => ?_) (fun h_366 => ?_)
          · refine kx_aload_n 60 F 0 dX12_states_59 rfl rfl rfl ?_
            refine kx_iload_n 61 F 3 dX12_states_60 rfl rfl rfl ?_
            refine kx_iconst 62 F dX12_states_61 rfl ?_
            refine kx_aload_n 63 F 0 dX12_states_62 rfl rfl rfl ?_
            refine kx_getr 66 F fl_X12_7 hk_c0 rfl rfl (j := 0) rfl dX12_states_63 (v := (M c0 0)) (by rw [Fr.e hF_N_320 hk_c0 _ rfl]) rfl ?_
            refine kx_iload_n 67 F 1 dX12_states_66 rfl rfl rfl ?_
            refine kx_iald 68 F hk_363 rfl rfl (by omega) (by decide) dX12_states_67 (v := (N_320 (M c0 0) a1)) rfl rfl ?_
            refine kx_iconst 69 F dX12_states_68 rfl ?_
            refine kx_isub 70 F (v := (N_320 (M c0 0) a1) - 1) dX12_states_69 rfl rfl ?_
            have ha_367 : atlo 1358 = (-2147483648) ∧ athi 1358 = 2147483647 := at_c 1358 4 (o := 270) (lo := (-2147483648)) (hi := 2147483647) (by omega) (by decide) (by decide) (by decide)
            refine kx_Vi 73 (ci := 0) F (As := [vI 1358, vI 0, vI ((N_320 (M c0 0) a1) - 1)]) (st := []) vd_X12_231 (c_X12_number G l N_320 c0 1358 0 ((N_320 (M c0 0) a1) - 1) hI_N_320 hk_c0 (by omega)) hk_c0 rfl rfl rfl ⟨by decide, by decide⟩ rfl rfl (Nat.le_of_ble_eq_true rfl) dX12_states_70 rfl ?_
            intro r_368 N_369 q_370
            obtain ⟨hI_N_369, hG_N_369, q_370c, hx_N_369⟩ := q_370
            have hF_N_369 : Fr f_c_X12_states M N_369 := Fr.c hF_N_320 hG_N_369 rfl
            have hat_N_369 : ∀ j, ¬ j = 1358 → N_369 (M c0 0) j = N_320 (M c0 0) j := by
              intro j hj
              have hq := hx_N_369 j hj
              rw [show N_320 c0 0 = M c0 0 by rw [Fr.e hF_N_320 hk_c0 _ rfl]] at hq; exact hq
            have h_371 := Inv.g hI_N_320 hk_c0 rfl 14 (a := 0) (b := 900) rfl rfl
            have h_372 := Inv.g hI_N_369 hk_c0 rfl 14 (a := 0) (b := 900) rfl rfl
            have h_373 := Inv.g hI_N_369 hk_c0 rfl 12 (a := 0) (b := 4) rfl rfl
            have e_374 : (N_320 c0 0) = (M c0 0) := by rw [Fr.e hF_N_320 hk_c0 _ rfl]
            have e_375 : (N_369 (N_320 c0 0) 1358) = (N_369 (M c0 0) 1358) := by rw [e_374]
            have e_376 : (N_320 c0 0) = (M c0 0) := by rw [Fr.e hF_N_320 hk_c0 _ rfl]
            have e_377 : (N_369 (N_320 c0 0) 1358) = (N_369 (M c0 0) 1358) := by rw [e_376]
            have h_378 := Inv.g hI_N_320 hk_c0 rfl 14 (a := 0) (b := 900) rfl rfl
            have h_379 := Inv.g hI_N_369 hk_c0 rfl 14 (a := 0) (b := 900) rfl rfl
            have h_380 := Inv.g hI_N_369 hk_c0 rfl 12 (a := 0) (b := 4) rfl rfl
            rcases q_370c with q_370c | q_370c
            · refine kx_if_ne 76 F 78 dX12_states_73 (by decide) rfl (by omega) (fun h_381 => ?_) (fun h_381 => (by exfalso; omega))
              refine kx_aload_n 79 F 0 dX12_states_78 rfl rfl rfl ?_
              refine kx_getr 82 F fl_X12_7 hk_c0 rfl rfl (j := 0) rfl dX12_states_79 (v := (M c0 0)) (by rw [Fr.e hG_N_369 hk_c0 _ rfl, Fr.e hF_N_320 hk_c0 _ rfl]) rfl ?_
              refine kx_iload_n 83 F 2 dX12_states_82 rfl rfl rfl ?_
              refine kx_dup2 84 F dX12_states_83 rfl rfl rfl ?_
              refine kx_iald 85 F hk_363 rfl rfl (by omega) (by decide) dX12_states_84 (v := (N_369 (M c0 0) a2)) rfl rfl ?_
              have h_382 := Inv.g hI_N_369 hk_363 rfl a2 (a := atlo a2) (b := athi a2) rfl rfl
              have h_383 := at_w a2
              refine kx_iconst 86 F dX12_states_85 rfl ?_
              refine kx_aload_n 87 F 0 dX12_states_86 rfl rfl rfl ?_
              refine kx_getr 90 F fl_X12_7 hk_c0 rfl rfl (j := 0) rfl dX12_states_87 (v := (M c0 0)) (by rw [Fr.e hG_N_369 hk_c0 _ rfl, Fr.e hF_N_320 hk_c0 _ rfl]) rfl ?_
              refine kx_iload_n 91 F 3 dX12_states_90 rfl rfl rfl ?_
              refine kx_iald 92 F hk_363 rfl rfl (by omega) (by decide) dX12_states_91 (v := (N_369 (M c0 0) 1358)) rfl rfl ?_
              have h_384 := Inv.g hI_N_369 hk_363 rfl 1358 (a := (-2147483648)) (b := 2147483647) ha_367.1 ha_367.2
              refine kx_ishl 93 F (v := (zshl 1 (N_369 (M c0 0) 1358))) dX12_states_92 rfl rfl ?_
              have h_385 := zshl_1 (b := (N_369 (M c0 0) 1358)) 2 (by decide) (by omega)
              refine kx_ior 94 F (v := (zor (N_369 (M c0 0) a2) (zshl 1 (N_369 (M c0 0) 1358)))) dX12_states_93 rfl rfl ?_
              have h_386 : 0 ≤ (zor (N_369 (M c0 0) a2) (zshl 1 (N_369 (M c0 0) 1358))) ∧ (zor (N_369 (M c0 0) a2) (zshl 1 (N_369 (M c0 0) 1358))) < 8 := zor_lt (a := (N_369 (M c0 0) a2)) (b := (zshl 1 (N_369 (M c0 0) 1358))) 3 (by decide) (by omega) (by omega)
              refine kx_iast 95 F hk_363 rfl rfl (by omega) (by decide) dX12_states_94 rfl ?_
              intro N_387 hM_N_387
              have h_388 := at_0 a2
              have h_389 := at_q a2 a2 (by omega)
              have hI_N_387 : Inv true N_387 := Inv.u hI_N_369 hM_N_387 hk_363 (a := atlo a2) (b := athi a2) rfl rfl rfl (by omega)
              have hF_N_387 : Fr f_c_X12_states M N_387 := Fr.u hF_N_369 hM_N_387 hk_363 rfl
              refine kx_goto 8 F dX12_states_95 (by decide) ?_
              have e_390 : (N_387 c0 14) = (N_369 c0 14) := by rw [hM_N_387, mu_k hk_c0 hk_363 rfl]
              have e_391 : (N_387 c0 14) = (N_369 c0 14) := by rw [hM_N_387, mu_k hk_c0 hk_363 rfl]
              have e_392 : (N_387 c0 12) = (N_369 c0 12) := by rw [hM_N_387, mu_k hk_c0 hk_363 rfl]
              have e_393 : (N_387 c0 12) = (N_369 c0 12) := by rw [hM_N_387, mu_k hk_c0 hk_363 rfl]
              have e_394 : (N_387 c0 12) = (N_369 c0 12) := by rw [hM_N_387, mu_k hk_c0 hk_363 rfl]
              exact ih_323 _ (by omega) N_387 hI_N_387 hF_N_387 (by omega) rfl
            · refine kx_if_ne 76 F 78 dX12_states_73 (by decide) rfl (by omega) (fun h_395 => (by exfalso; omega)) (fun h_395 => ?_)
              refine kx_iconst 77 F dX12_states_76 rfl ?_
              exact kx_zret F hQ (by omega) ⟨hI_N_369, hF_N_369, (by omega)⟩ dX12_states_77
          · refine kx_aload_n 37 F 0 dX12_states_36 rfl rfl rfl ?_
            refine kx_aload_n 38 F 0 dX12_states_37 rfl rfl rfl ?_
            refine kx_getr 41 F fl_X12_7 hk_c0 rfl rfl (j := 0) rfl dX12_states_38 (v := (M c0 0)) (by rw [Fr.e hF_N_320 hk_c0 _ rfl]) rfl ?_
            refine kx_iload_n 42 F 2 dX12_states_41 rfl rfl rfl ?_
            refine kx_iald 43 F hk_363 rfl rfl (by omega) (by decide) dX12_states_42 (v := (N_320 (M c0 0) a2)) rfl rfl ?_
            have h_396 := Inv.g hI_N_320 hk_363 rfl a2 (a := atlo a2) (b := athi a2) rfl rfl
            have h_397 := at_w a2
            refine kx_aload_n 44 F 0 dX12_states_43 rfl rfl rfl ?_
            refine kx_geti 47 F fl_X12_165 hk_c0 rfl rfl (j := 15) rfl dX12_states_44 (v := (N_320 c0 15)) rfl rfl ?_
            refine kx_Vi 50 (ci := 0) F (As := [vI (N_320 (M c0 0) a2), vI (N_320 c0 15)]) (st := []) vd_X12_239 (c_X12_isIn G l N_320 c0 (N_320 (M c0 0) a2) (N_320 c0 15) hI_N_320 hk_c0 (by omega)) hk_c0 rfl rfl rfl ⟨by decide, by decide⟩ rfl rfl (Nat.le_of_ble_eq_true rfl) dX12_states_47 rfl ?_
            intro r_398 N_399 q_400
            obtain ⟨rfl, q_400c⟩ := q_400
            refine kx_if_eq 53 F 59 dX12_states_50 (by decide) rfl (by omega) (fun h_401 => ?_) (fun h_401 => ?_)
            · refine kx_aload_n 60 F 0 dX12_states_59 rfl rfl rfl ?_
              refine kx_iload_n 61 F 3 dX12_states_60 rfl rfl rfl ?_
              refine kx_iconst 62 F dX12_states_61 rfl ?_
              refine kx_aload_n 63 F 0 dX12_states_62 rfl rfl rfl ?_
              refine kx_getr 66 F fl_X12_7 hk_c0 rfl rfl (j := 0) rfl dX12_states_63 (v := (M c0 0)) (by rw [Fr.e hF_N_320 hk_c0 _ rfl]) rfl ?_
              refine kx_iload_n 67 F 1 dX12_states_66 rfl rfl rfl ?_
              refine kx_iald 68 F hk_363 rfl rfl (by omega) (by decide) dX12_states_67 (v := (N_320 (M c0 0) a1)) rfl rfl ?_
              refine kx_iconst 69 F dX12_states_68 rfl ?_
              refine kx_isub 70 F (v := (N_320 (M c0 0) a1) - 1) dX12_states_69 rfl rfl ?_
              have ha_402 : atlo 1358 = (-2147483648) ∧ athi 1358 = 2147483647 := at_c 1358 4 (o := 270) (lo := (-2147483648)) (hi := 2147483647) (by omega) (by decide) (by decide) (by decide)
              refine kx_Vi 73 (ci := 0) F (As := [vI 1358, vI 0, vI ((N_320 (M c0 0) a1) - 1)]) (st := []) vd_X12_231 (c_X12_number G l N_320 c0 1358 0 ((N_320 (M c0 0) a1) - 1) hI_N_320 hk_c0 (by omega)) hk_c0 rfl rfl rfl ⟨by decide, by decide⟩ rfl rfl (Nat.le_of_ble_eq_true rfl) dX12_states_70 rfl ?_
              intro r_403 N_404 q_405
              obtain ⟨hI_N_404, hG_N_404, q_405c, hx_N_404⟩ := q_405
              have hF_N_404 : Fr f_c_X12_states M N_404 := Fr.c hF_N_320 hG_N_404 rfl
              have hat_N_404 : ∀ j, ¬ j = 1358 → N_404 (M c0 0) j = N_320 (M c0 0) j := by
                intro j hj
                have hq := hx_N_404 j hj
                rw [show N_320 c0 0 = M c0 0 by rw [Fr.e hF_N_320 hk_c0 _ rfl]] at hq; exact hq
              have h_406 := Inv.g hI_N_320 hk_c0 rfl 14 (a := 0) (b := 900) rfl rfl
              have h_407 := Inv.g hI_N_404 hk_c0 rfl 14 (a := 0) (b := 900) rfl rfl
              have h_408 := Inv.g hI_N_404 hk_c0 rfl 12 (a := 0) (b := 4) rfl rfl
              have e_409 : (N_320 c0 0) = (M c0 0) := by rw [Fr.e hF_N_320 hk_c0 _ rfl]
              have e_410 : (N_404 (N_320 c0 0) 1358) = (N_404 (M c0 0) 1358) := by rw [e_409]
              have e_411 : (N_320 c0 0) = (M c0 0) := by rw [Fr.e hF_N_320 hk_c0 _ rfl]
              have e_412 : (N_404 (N_320 c0 0) 1358) = (N_404 (M c0 0) 1358) := by rw [e_411]
              have h_413 := Inv.g hI_N_320 hk_c0 rfl 14 (a := 0) (b := 900) rfl rfl
              have h_414 := Inv.g hI_N_404 hk_c0 rfl 14 (a := 0) (b := 900) rfl rfl
              have h_415 := Inv.g hI_N_404 hk_c0 rfl 12 (a := 0) (b := 4) rfl rfl
              rcases q_405c with q_405c | q_405c
              · refine kx_if_ne 76 F 78 dX12_states_73 (by decide) rfl (by omega) (fun h_416 => ?_) (fun h_416 => (by exfalso; omega))
                refine kx_aload_n 79 F 0 dX12_states_78 rfl rfl rfl ?_
                refine kx_getr 82 F fl_X12_7 hk_c0 rfl rfl (j := 0) rfl dX12_states_79 (v := (M c0 0)) (by rw [Fr.e hG_N_404 hk_c0 _ rfl, Fr.e hF_N_320 hk_c0 _ rfl]) rfl ?_
                refine kx_iload_n 83 F 2 dX12_states_82 rfl rfl rfl ?_
                refine kx_dup2 84 F dX12_states_83 rfl rfl rfl ?_
                refine kx_iald 85 F hk_363 rfl rfl (by omega) (by decide) dX12_states_84 (v := (N_404 (M c0 0) a2)) rfl rfl ?_
                have h_417 := Inv.g hI_N_404 hk_363 rfl a2 (a := atlo a2) (b := athi a2) rfl rfl
                have h_418 := at_w a2
                refine kx_iconst 86 F dX12_states_85 rfl ?_
                refine kx_aload_n 87 F 0 dX12_states_86 rfl rfl rfl ?_
                refine kx_getr 90 F fl_X12_7 hk_c0 rfl rfl (j := 0) rfl dX12_states_87 (v := (M c0 0)) (by rw [Fr.e hG_N_404 hk_c0 _ rfl, Fr.e hF_N_320 hk_c0 _ rfl]) rfl ?_
                refine kx_iload_n 91 F 3 dX12_states_90 rfl rfl rfl ?_
                refine kx_iald 92 F hk_363 rfl rfl (by omega) (by decide) dX12_states_91 (v := (N_404 (M c0 0) 1358)) rfl rfl ?_
                have h_419 := Inv.g hI_N_404 hk_363 rfl 1358 (a := (-2147483648)) (b := 2147483647) ha_402.1 ha_402.2
                refine kx_ishl 93 F (v := (zshl 1 (N_404 (M c0 0) 1358))) dX12_states_92 rfl rfl ?_
                have h_420 := zshl_1 (b := (N_404 (M c0 0) 1358)) 2 (by decide) (by omega)
                refine kx_ior 94 F (v := (zor (N_404 (M c0 0) a2) (zshl 1 (N_404 (M c0 0) 1358)))) dX12_states_93 rfl rfl ?_
                have h_421 : 0 ≤ (zor (N_404 (M c0 0) a2) (zshl 1 (N_404 (M c0 0) 1358))) ∧ (zor (N_404 (M c0 0) a2) (zshl 1 (N_404 (M c0 0) 1358))) < 8 := zor_lt (a := (N_404 (M c0 0) a2)) (b := (zshl 1 (N_404 (M c0 0) 1358))) 3 (by decide) (by omega) (by omega)
                refine kx_iast 95 F hk_363 rfl rfl (by omega) (by decide) dX12_states_94 rfl ?_
                intro N_422 hM_N_422
                have h_423 := at_0 a2
                have h_424 := at_q a2 a2 (by omega)
                have hI_N_422 : Inv true N_422 := Inv.u hI_N_404 hM_N_422 hk_363 (a := atlo a2) (b := athi a2) rfl rfl rfl (by omega)
                have hF_N_422 : Fr f_c_X12_states M N_422 := Fr.u hF_N_404 hM_N_422 hk_363 rfl
                refine kx_goto 8 F dX12_states_95 (by decide) ?_
                have e_425 : (N_422 c0 14) = (N_404 c0 14) := by rw [hM_N_422, mu_k hk_c0 hk_363 rfl]
                have e_426 : (N_422 c0 14) = (N_404 c0 14) := by rw [hM_N_422, mu_k hk_c0 hk_363 rfl]
                have e_427 : (N_422 c0 12) = (N_404 c0 12) := by rw [hM_N_422, mu_k hk_c0 hk_363 rfl]
                have e_428 : (N_422 c0 12) = (N_404 c0 12) := by rw [hM_N_422, mu_k hk_c0 hk_363 rfl]
                have e_429 : (N_422 c0 12) = (N_404 c0 12) := by rw [hM_N_422, mu_k hk_c0 hk_363 rfl]
                exact ih_323 _ (by omega) N_422 hI_N_422 hF_N_422 (by omega) rfl
              · refine kx_if_ne 76 F 78 dX12_states_73 (by decide) rfl (by omega) (fun h_430 => (by exfalso; omega)) (fun h_430 => ?_)
                refine kx_iconst 77 F dX12_states_76 rfl ?_
                exact kx_zret F hQ (by omega) ⟨hI_N_404, hF_N_404, (by omega)⟩ dX12_states_77
            · refine kx_aload_n 54 F 0 dX12_states_53 rfl rfl rfl ?_
              refine kx_iconst 55 F dX12_states_54 rfl ?_
              refine kx_Vi 58 (ci := 0) F (As := [vI 5]) (st := []) vd_X12_205 (c_X12_fails G l N_320 c0 5 hI_N_320 hk_c0 (by omega)) hk_c0 rfl rfl rfl ⟨by decide, by decide⟩ rfl rfl (Nat.le_of_ble_eq_true rfl) dX12_states_55 rfl ?_
              intro r_431 N_432 q_433
              obtain ⟨hI_N_432, hG_N_432, q_433c⟩ := q_433
              have hF_N_432 : Fr f_c_X12_states M N_432 := Fr.c hF_N_320 hG_N_432 rfl
              subst q_433c
              have e_434 : (N_432 c0 14) = (N_320 c0 14) := by rw [Fr.e hG_N_432 hk_c0 _ rfl]
              have h_435 := Inv.g hI_N_320 hk_c0 rfl 14 (a := 0) (b := 900) rfl rfl
              have e_436 : (N_432 c0 12) = (N_320 c0 12) := by rw [Fr.e hG_N_432 hk_c0 _ rfl]
              exact kx_zret F hQ (by omega) ⟨hI_N_432, hF_N_432, (by omega)⟩ dX12_states_58
    exact L_321 _ N_3 hI_N_3 hF_N_3 (by omega) rfl
