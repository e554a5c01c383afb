theorem dX12_seen_0 : decode cX12_seen 0 = .ok (.iload_n 1, 1) := by decide +kernel
theorem dX12_seen_1 : decode cX12_seen 1 = .ok (.ifCond .lt 8, 3) := by decide +kernel
theorem dX12_seen_4 : decode cX12_seen 4 = .ok (.iload_n 1, 1) := by decide +kernel
theorem dX12_seen_5 : decode cX12_seen 5 = .ok (.iconst 4, 1) := by decide +kernel
theorem dX12_seen_6 : decode cX12_seen 6 = .ok (.if_icmp .le 9, 3) := by decide +kernel
theorem dX12_seen_9 : decode cX12_seen 9 = .ok (.aload_n 0, 1) := by decide +kernel
theorem dX12_seen_10 : decode cX12_seen 10 = .ok (.iconst 1, 1) := by decide +kernel
theorem dX12_seen_11 : decode cX12_seen 11 = .ok (.invokevirtual 123, 3) := by decide +kernel
theorem dX12_seen_14 : decode cX12_seen 14 = .ok (.ireturn, 1) := by decide +kernel
theorem dX12_seen_15 : decode cX12_seen 15 = .ok (.aload_n 0, 1) := by decide +kernel
theorem dX12_seen_16 : decode cX12_seen 16 = .ok (.getfield 7, 3) := by decide +kernel
theorem dX12_seen_19 : decode cX12_seen 19 = .ok (.iconst 4, 1) := by decide +kernel
theorem dX12_seen_20 : decode cX12_seen 20 = .ok (.iaload, 1) := by decide +kernel
theorem dX12_seen_21 : decode cX12_seen 21 = .ok (.iconst (-1), 1) := by decide +kernel
theorem dX12_seen_22 : decode cX12_seen 22 = .ok (.if_icmp .ne 10, 3) := by decide +kernel
theorem dX12_seen_25 : decode cX12_seen 25 = .ok (.aload_n 0, 1) := by decide +kernel
theorem dX12_seen_26 : decode cX12_seen 26 = .ok (.bipush 6, 2) := by decide +kernel
theorem dX12_seen_28 : decode cX12_seen 28 = .ok (.invokevirtual 123, 3) := by decide +kernel
theorem dX12_seen_31 : decode cX12_seen 31 = .ok (.ireturn, 1) := by decide +kernel
theorem dX12_seen_32 : decode cX12_seen 32 = .ok (.iload_n 1, 1) := by decide +kernel
theorem dX12_seen_33 : decode cX12_seen 33 = .ok (.tableswitch 77 0 3 #[31, 42, 53, 65], 31) := by decide +kernel
theorem dX12_seen_64 : decode cX12_seen 64 = .ok (.aload_n 0, 1) := by decide +kernel
theorem dX12_seen_65 : decode cX12_seen 65 = .ok (.aload_n 0, 1) := by decide +kernel
theorem dX12_seen_66 : decode cX12_seen 66 = .ok (.getfield 7, 3) := by decide +kernel
theorem dX12_seen_69 : decode cX12_seen 69 = .ok (.iconst 4, 1) := by decide +kernel
theorem dX12_seen_70 : decode cX12_seen 70 = .ok (.iaload, 1) := by decide +kernel
theorem dX12_seen_71 : decode cX12_seen 71 = .ok (.invokevirtual 127, 3) := by decide +kernel
theorem dX12_seen_74 : decode cX12_seen 74 = .ok (.ireturn, 1) := by decide +kernel
theorem dX12_seen_75 : decode cX12_seen 75 = .ok (.aload_n 0, 1) := by decide +kernel
theorem dX12_seen_76 : decode cX12_seen 76 = .ok (.aload_n 0, 1) := by decide +kernel
theorem dX12_seen_77 : decode cX12_seen 77 = .ok (.getfield 7, 3) := by decide +kernel
theorem dX12_seen_80 : decode cX12_seen 80 = .ok (.iconst 5, 1) := by decide +kernel
theorem dX12_seen_81 : decode cX12_seen 81 = .ok (.iaload, 1) := by decide +kernel
theorem dX12_seen_82 : decode cX12_seen 82 = .ok (.invokevirtual 127, 3) := by decide +kernel
theorem dX12_seen_85 : decode cX12_seen 85 = .ok (.ireturn, 1) := by decide +kernel
theorem dX12_seen_86 : decode cX12_seen 86 = .ok (.aload_n 0, 1) := by decide +kernel
theorem dX12_seen_87 : decode cX12_seen 87 = .ok (.aload_n 0, 1) := by decide +kernel
theorem dX12_seen_88 : decode cX12_seen 88 = .ok (.getfield 7, 3) := by decide +kernel
theorem dX12_seen_91 : decode cX12_seen 91 = .ok (.bipush 6, 2) := by decide +kernel
theorem dX12_seen_93 : decode cX12_seen 93 = .ok (.iaload, 1) := by decide +kernel
theorem dX12_seen_94 : decode cX12_seen 94 = .ok (.invokevirtual 127, 3) := by decide +kernel
theorem dX12_seen_97 : decode cX12_seen 97 = .ok (.ireturn, 1) := by decide +kernel
theorem dX12_seen_98 : decode cX12_seen 98 = .ok (.aload_n 0, 1) := by decide +kernel
theorem dX12_seen_99 : decode cX12_seen 99 = .ok (.aload_n 0, 1) := by decide +kernel
theorem dX12_seen_100 : decode cX12_seen 100 = .ok (.getfield 7, 3) := by decide +kernel
theorem dX12_seen_103 : decode cX12_seen 103 = .ok (.bipush 7, 2) := by decide +kernel
theorem dX12_seen_105 : decode cX12_seen 105 = .ok (.iaload, 1) := by decide +kernel
theorem dX12_seen_106 : decode cX12_seen 106 = .ok (.invokevirtual 127, 3) := by decide +kernel
theorem dX12_seen_109 : decode cX12_seen 109 = .ok (.ireturn, 1) := by decide +kernel
theorem dX12_seen_110 : decode cX12_seen 110 = .ok (.aload_n 0, 1) := by decide +kernel
theorem dX12_seen_111 : decode cX12_seen 111 = .ok (.aload_n 0, 1) := by decide +kernel
theorem dX12_seen_112 : decode cX12_seen 112 = .ok (.invokevirtual 522, 3) := by decide +kernel
theorem dX12_seen_115 : decode cX12_seen 115 = .ok (.invokevirtual 127, 3) := by decide +kernel
theorem dX12_seen_118 : decode cX12_seen 118 = .ok (.ireturn, 1) := by decide +kernel
abbrev f_c_X12_seen : List (Nat × Int) := [(64, 2)]
set_option maxHeartbeats 4000000 in
set_option maxRecDepth 100000 in
theorem c_X12_seen (G : KG) (l : Launch) (M : Mem) (a1 : Int) (hI_M : Inv true M) (hpre : -2147483648 ≤ a1 ∧ a1 ≤ 2147483647) : KC true G l yX12_seen cX12_seen 2 (some .int) (3, 63) [vR G 163, vI a1] M (fun A => kQi true G A (fun (r : Int) (N : Mem) => Inv true N ∧ Fr f_c_X12_seen M N ∧ (r ≥ -2147483648 ∧ r ≤ 2147483647))) := by
  refine kx_met (lo := [some (vR G 163), some (vI a1)]) (by decide) (Nat.le_of_ble_eq_true rfl) rfl ?_
  intro X F hQ
  have hF_M : Fr f_c_X12_seen M M := Fr.rf _ _
  refine kx_iload_n 1 F 1 dX12_seen_0 rfl rfl rfl ?_
  refine kx_if_lt 4 F 9 dX12_seen_1 (by decide) rfl (by omega) (fun h_1 => ?_) (fun h_1 => ?_)
  · refine kx_aload_n 10 F 0 dX12_seen_9 rfl rfl rfl ?_
    refine kx_iconst 11 F dX12_seen_10 rfl ?_
    refine kx_Vi 14 (ci := 0) F (As := [vI 1]) (st := []) vd_X12_123 (c_X12_refuse G l M 1 hI_M (by omega)) kd_163 rfl rfl rfl ⟨by decide, by decide⟩ rfl rfl (Nat.le_of_ble_eq_true rfl) dX12_seen_11 rfl ?_
    intro r_2 N_3 q_4
    obtain ⟨hI_N_3, hG_N_3, q_4c⟩ := q_4
    have hF_N_3 : Fr f_c_X12_seen M N_3 := Fr.c hF_M hG_N_3 rfl
    subst q_4c
    exact kx_iret F hQ ⟨hI_N_3, hF_N_3, (by omega)⟩ dX12_seen_14
  · refine kx_iload_n 5 F 1 dX12_seen_4 rfl rfl rfl ?_
    refine kx_iconst 6 F dX12_seen_5 rfl ?_
    refine kx_icmp_le 9 F 15 dX12_seen_6 (by decide) rfl (by omega) (by decide) (fun h_5 => ?_) (fun h_5 => ?_)
    · refine kx_aload_n 16 F 0 dX12_seen_15 rfl rfl rfl ?_
      refine kx_getr 19 F fl_X12_7 kd_163 rfl rfl (j := 0) rfl dX12_seen_16 (v := 164) (uq_164 (Inv.r hI_M kd_163 rfl 0 rfl rfl)) rfl ?_
      refine kx_iconst 20 F dX12_seen_19 rfl ?_
      refine kx_iald 21 F kd_164 rfl rfl (by omega) (by decide) dX12_seen_20 (v := (M 164 4)) rfl rfl ?_
      have ha_6 : atlo 4 = (-1) ∧ athi 4 = 1 := at_c 4 0 (o := 4) (lo := (-1)) (hi := 1) (by omega) (by decide) (by decide) (by decide)
      have h_7 := Inv.g hI_M kd_164 rfl 4 (a := (-1)) (b := 1) ha_6.1 ha_6.2
      refine kx_iconst 22 F dX12_seen_21 rfl ?_
      refine kx_icmp_ne 25 F 32 dX12_seen_22 (by decide) rfl (by omega) (by decide) (fun h_8 => ?_) (fun h_8 => ?_)
      · refine kx_iload_n 33 F 1 dX12_seen_32 rfl rfl rfl ?_
        have h_9 : a1 = 0 ∨ a1 = 1 ∨ a1 = 2 ∨ a1 = 3 ∨ (a1 < 0 ∨ 3 < a1) := by omega
        rcases h_9 with h_9 | h_9 | h_9 | h_9 | h_9
        · rw [show vI a1 = vI 0 by rw [h_9]]
          refine kx_tableIn 64 F (by decide) dX12_seen_33 (by decide) rfl (by decide) ?_
          refine kx_aload_n 65 F 0 dX12_seen_64 rfl rfl rfl ?_
          refine kx_aload_n 66 F 0 dX12_seen_65 rfl rfl rfl ?_
          refine kx_getr 69 F fl_X12_7 kd_163 rfl rfl (j := 0) rfl dX12_seen_66 (v := 164) (uq_164 (Inv.r hI_M kd_163 rfl 0 rfl rfl)) rfl ?_
          refine kx_iconst 70 F dX12_seen_69 rfl ?_
          refine kx_iald 71 F kd_164 rfl rfl (by omega) (by decide) dX12_seen_70 (v := (M 164 4)) rfl rfl ?_
          refine kx_Vi 74 (ci := 0) F (As := [vI (M 164 4)]) (st := []) vd_X12_127 (c_X12_gives G l M (M 164 4) hI_M (by omega)) kd_163 rfl rfl rfl ⟨by decide, by decide⟩ rfl rfl (Nat.le_of_ble_eq_true rfl) dX12_seen_71 rfl ?_
          intro r_10 N_11 q_12
          obtain ⟨hI_N_11, hG_N_11, q_12c⟩ := q_12
          have hF_N_11 : Fr f_c_X12_seen M N_11 := Fr.c hF_M hG_N_11 rfl
          refine kx_topi (e' := (M 164 4)) (by omega) ?_
          exact kx_iret F hQ ⟨hI_N_11, hF_N_11, (by omega)⟩ dX12_seen_74
        · rw [show vI a1 = vI 1 by rw [h_9]]
          refine kx_tableIn 75 F (by decide) dX12_seen_33 (by decide) rfl (by decide) ?_
          refine kx_aload_n 76 F 0 dX12_seen_75 rfl rfl rfl ?_
          refine kx_aload_n 77 F 0 dX12_seen_76 rfl rfl rfl ?_
          refine kx_getr 80 F fl_X12_7 kd_163 rfl rfl (j := 0) rfl dX12_seen_77 (v := 164) (uq_164 (Inv.r hI_M kd_163 rfl 0 rfl rfl)) rfl ?_
          refine kx_iconst 81 F dX12_seen_80 rfl ?_
          refine kx_iald 82 F kd_164 rfl rfl (by omega) (by decide) dX12_seen_81 (v := (M 164 5)) rfl rfl ?_
          have ha_13 : atlo 5 = (-2147483648) ∧ athi 5 = 2147483647 := at_c 5 0 (o := 5) (lo := (-2147483648)) (hi := 2147483647) (by omega) (by decide) (by decide) (by decide)
          have h_14 := Inv.g hI_M kd_164 rfl 5 (a := (-2147483648)) (b := 2147483647) ha_13.1 ha_13.2
          refine kx_Vi 85 (ci := 0) F (As := [vI (M 164 5)]) (st := []) vd_X12_127 (c_X12_gives G l M (M 164 5) hI_M (by omega)) kd_163 rfl rfl rfl ⟨by decide, by decide⟩ rfl rfl (Nat.le_of_ble_eq_true rfl) dX12_seen_82 rfl ?_
          intro r_15 N_16 q_17
          obtain ⟨hI_N_16, hG_N_16, q_17c⟩ := q_17
          have hF_N_16 : Fr f_c_X12_seen M N_16 := Fr.c hF_M hG_N_16 rfl
          refine kx_topi (e' := (M 164 5)) (by omega) ?_
          exact kx_iret F hQ ⟨hI_N_16, hF_N_16, (by omega)⟩ dX12_seen_85
        · rw [show vI a1 = vI 2 by rw [h_9]]
          refine kx_tableIn 86 F (by decide) dX12_seen_33 (by decide) rfl (by decide) ?_
          refine kx_aload_n 87 F 0 dX12_seen_86 rfl rfl rfl ?_
          refine kx_aload_n 88 F 0 dX12_seen_87 rfl rfl rfl ?_
          refine kx_getr 91 F fl_X12_7 kd_163 rfl rfl (j := 0) rfl dX12_seen_88 (v := 164) (uq_164 (Inv.r hI_M kd_163 rfl 0 rfl rfl)) rfl ?_
          refine kx_bipush 93 F dX12_seen_91 (by decide) rfl ?_
          refine kx_iald 94 F kd_164 rfl rfl (by omega) (by decide) dX12_seen_93 (v := (M 164 6)) rfl rfl ?_
          have ha_18 : atlo 6 = 0 ∧ athi 6 = 30 := at_c 6 0 (o := 6) (lo := 0) (hi := 30) (by omega) (by decide) (by decide) (by decide)
          have h_19 := Inv.g hI_M kd_164 rfl 6 (a := 0) (b := 30) ha_18.1 ha_18.2
          refine kx_Vi 97 (ci := 0) F (As := [vI (M 164 6)]) (st := []) vd_X12_127 (c_X12_gives G l M (M 164 6) hI_M (by omega)) kd_163 rfl rfl rfl ⟨by decide, by decide⟩ rfl rfl (Nat.le_of_ble_eq_true rfl) dX12_seen_94 rfl ?_
          intro r_20 N_21 q_22
          obtain ⟨hI_N_21, hG_N_21, q_22c⟩ := q_22
          have hF_N_21 : Fr f_c_X12_seen M N_21 := Fr.c hF_M hG_N_21 rfl
          refine kx_topi (e' := (M 164 6)) (by omega) ?_
          exact kx_iret F hQ ⟨hI_N_21, hF_N_21, (by omega)⟩ dX12_seen_97
        · rw [show vI a1 = vI 3 by rw [h_9]]
          refine kx_tableIn 98 F (by decide) dX12_seen_33 (by decide) rfl (by decide) ?_
          refine kx_aload_n 99 F 0 dX12_seen_98 rfl rfl rfl ?_
          refine kx_aload_n 100 F 0 dX12_seen_99 rfl rfl rfl ?_
          refine kx_getr 103 F fl_X12_7 kd_163 rfl rfl (j := 0) rfl dX12_seen_100 (v := 164) (uq_164 (Inv.r hI_M kd_163 rfl 0 rfl rfl)) rfl ?_
          refine kx_bipush 105 F dX12_seen_103 (by decide) rfl ?_
          refine kx_iald 106 F kd_164 rfl rfl (by omega) (by decide) dX12_seen_105 (v := (M 164 7)) rfl rfl ?_
          have ha_23 : atlo 7 = 0 ∧ athi 7 = 7 := at_c 7 0 (o := 7) (lo := 0) (hi := 7) (by omega) (by decide) (by decide) (by decide)
          have h_24 := Inv.g hI_M kd_164 rfl 7 (a := 0) (b := 7) ha_23.1 ha_23.2
          refine kx_Vi 109 (ci := 0) F (As := [vI (M 164 7)]) (st := []) vd_X12_127 (c_X12_gives G l M (M 164 7) hI_M (by omega)) kd_163 rfl rfl rfl ⟨by decide, by decide⟩ rfl rfl (Nat.le_of_ble_eq_true rfl) dX12_seen_106 rfl ?_
          intro r_25 N_26 q_27
          obtain ⟨hI_N_26, hG_N_26, q_27c⟩ := q_27
          have hF_N_26 : Fr f_c_X12_seen M N_26 := Fr.c hF_M hG_N_26 rfl
          refine kx_topi (e' := (M 164 7)) (by omega) ?_
          exact kx_iret F hQ ⟨hI_N_26, hF_N_26, (by omega)⟩ dX12_seen_109
        · refine kx_tableOut 110 F (by omega) dX12_seen_33 h_9 (by decide) ?_
          refine kx_aload_n 111 F 0 dX12_seen_110 rfl rfl rfl ?_
          refine kx_aload_n 112 F 0 dX12_seen_111 rfl rfl rfl ?_
          refine kx_Vi 115 (ci := 0) F (As := []) (st := [vR G 163]) vd_X12_522 (c_X12_isTakenNow G l M  hI_M (by omega)) kd_163 rfl rfl rfl ⟨by decide, by decide⟩ rfl rfl (Nat.le_of_ble_eq_true rfl) dX12_seen_112 rfl ?_
          intro r_28 N_29 q_30
          obtain ⟨rfl, q_30c⟩ := q_30
          refine kx_Vi 118 (ci := 0) F (As := [vI r_28]) (st := []) vd_X12_127 (c_X12_gives G l M r_28 hI_M (by omega)) kd_163 rfl rfl rfl ⟨by decide, by decide⟩ rfl rfl (Nat.le_of_ble_eq_true rfl) dX12_seen_115 rfl ?_
          intro r_31 N_32 q_33
          obtain ⟨hI_N_32, hG_N_32, q_33c⟩ := q_33
          have hF_N_32 : Fr f_c_X12_seen M N_32 := Fr.c hF_M hG_N_32 rfl
          refine kx_topi (e' := r_28) (by omega) ?_
          exact kx_iret F hQ ⟨hI_N_32, hF_N_32, (by omega)⟩ dX12_seen_118
      · refine kx_aload_n 26 F 0 dX12_seen_25 rfl rfl rfl ?_
        refine kx_bipush 28 F dX12_seen_26 (by decide) rfl ?_
        refine kx_Vi 31 (ci := 0) F (As := [vI 6]) (st := []) vd_X12_123 (c_X12_refuse G l M 6 hI_M (by omega)) kd_163 rfl rfl rfl ⟨by decide, by decide⟩ rfl rfl (Nat.le_of_ble_eq_true rfl) dX12_seen_28 rfl ?_
        intro r_34 N_35 q_36
        obtain ⟨hI_N_35, hG_N_35, q_36c⟩ := q_36
        have hF_N_35 : Fr f_c_X12_seen M N_35 := Fr.c hF_M hG_N_35 rfl
        subst q_36c
        exact kx_iret F hQ ⟨hI_N_35, hF_N_35, (by omega)⟩ dX12_seen_31
    · refine kx_aload_n 10 F 0 dX12_seen_9 rfl rfl rfl ?_
      refine kx_iconst 11 F dX12_seen_10 rfl ?_
      refine kx_Vi 14 (ci := 0) F (As := [vI 1]) (st := []) vd_X12_123 (c_X12_refuse G l M 1 hI_M (by omega)) kd_163 rfl rfl rfl ⟨by decide, by decide⟩ rfl rfl (Nat.le_of_ble_eq_true rfl) dX12_seen_11 rfl ?_
      intro r_37 N_38 q_39
      obtain ⟨hI_N_38, hG_N_38, q_39c⟩ := q_39
      have hF_N_38 : Fr f_c_X12_seen M N_38 := Fr.c hF_M hG_N_38 rfl
      subst q_39c
      exact kx_iret F hQ ⟨hI_N_38, hF_N_38, (by omega)⟩ dX12_seen_14
theorem dX12_checker_0 : decode cX12_checker 0 = .ok (.aload_n 0, 1) := by decide +kernel
theorem dX12_checker_1 : decode cX12_checker 1 = .ok (.iload_n 1, 1) := by decide +kernel
theorem dX12_checker_2 : decode cX12_checker 2 = .ok (.sipush 900, 3) := by decide +kernel
theorem dX12_checker_5 : decode cX12_checker 5 = .ok (.invokevirtual 273, 3) := by decide +kernel
theorem dX12_checker_8 : decode cX12_checker 8 = .ok (.ifCond .ne 9, 3) := by decide +kernel
theorem dX12_checker_11 : decode cX12_checker 11 = .ok (.aload_n 0, 1) := by decide +kernel
theorem dX12_checker_12 : decode cX12_checker 12 = .ok (.iconst 1, 1) := by decide +kernel
theorem dX12_checker_13 : decode cX12_checker 13 = .ok (.invokevirtual 123, 3) := by decide +kernel
theorem dX12_checker_16 : decode cX12_checker 16 = .ok (.ireturn, 1) := by decide +kernel
theorem dX12_checker_17 : decode cX12_checker 17 = .ok (.aload_n 0, 1) := by decide +kernel
theorem dX12_checker_18 : decode cX12_checker 18 = .ok (.sipush 1088, 3) := by decide +kernel
theorem dX12_checker_21 : decode cX12_checker 21 = .ok (.invokevirtual 113, 3) := by decide +kernel
theorem dX12_checker_24 : decode cX12_checker 24 = .ok (.iconst 1, 1) := by decide +kernel
theorem dX12_checker_25 : decode cX12_checker 25 = .ok (.istore_n 2, 1) := by decide +kernel
theorem dX12_checker_26 : decode cX12_checker 26 = .ok (.iload_n 2, 1) := by decide +kernel
theorem dX12_checker_27 : decode cX12_checker 27 = .ok (.ifCond .eq 18, 3) := by decide +kernel
theorem dX12_checker_30 : decode cX12_checker 30 = .ok (.aload_n 0, 1) := by decide +kernel
theorem dX12_checker_31 : decode cX12_checker 31 = .ok (.getfield 168, 3) := by decide +kernel
theorem dX12_checker_34 : decode cX12_checker 34 = .ok (.ifCond .eq 11, 3) := by decide +kernel
theorem dX12_checker_37 : decode cX12_checker 37 = .ok (.aload_n 0, 1) := by decide +kernel
theorem dX12_checker_38 : decode cX12_checker 38 = .ok (.invokevirtual 276, 3) := by decide +kernel
theorem dX12_checker_41 : decode cX12_checker 41 = .ok (.istore_n 2, 1) := by decide +kernel
theorem dX12_checker_42 : decode cX12_checker 42 = .ok (.goto (-16), 3) := by decide +kernel
theorem dX12_checker_45 : decode cX12_checker 45 = .ok (.aload_n 0, 1) := by decide +kernel
theorem dX12_checker_46 : decode cX12_checker 46 = .ok (.getfield 193, 3) := by decide +kernel
theorem dX12_checker_49 : decode cX12_checker 49 = .ok (.ifCond .ne 63, 3) := by decide +kernel
theorem dX12_checker_52 : decode cX12_checker 52 = .ok (.iconst 0, 1) := by decide +kernel
theorem dX12_checker_53 : decode cX12_checker 53 = .ok (.istore_n 3, 1) := by decide +kernel
theorem dX12_checker_54 : decode cX12_checker 54 = .ok (.iload_n 3, 1) := by decide +kernel
theorem dX12_checker_55 : decode cX12_checker 55 = .ok (.sipush 272, 3) := by decide +kernel
theorem dX12_checker_58 : decode cX12_checker 58 = .ok (.if_icmp .ge 25, 3) := by decide +kernel
theorem dX12_checker_61 : decode cX12_checker 61 = .ok (.aload_n 0, 1) := by decide +kernel
theorem dX12_checker_62 : decode cX12_checker 62 = .ok (.getfield 7, 3) := by decide +kernel
theorem dX12_checker_65 : decode cX12_checker 65 = .ok (.iload_n 3, 1) := by decide +kernel
theorem dX12_checker_66 : decode cX12_checker 66 = .ok (.aload_n 0, 1) := by decide +kernel
theorem dX12_checker_67 : decode cX12_checker 67 = .ok (.getfield 7, 3) := by decide +kernel
theorem dX12_checker_70 : decode cX12_checker 70 = .ok (.sipush 1088, 3) := by decide +kernel
theorem dX12_checker_73 : decode cX12_checker 73 = .ok (.iload_n 3, 1) := by decide +kernel
theorem dX12_checker_74 : decode cX12_checker 74 = .ok (.iadd, 1) := by decide +kernel
theorem dX12_checker_75 : decode cX12_checker 75 = .ok (.iaload, 1) := by decide +kernel
theorem dX12_checker_76 : decode cX12_checker 76 = .ok (.iastore, 1) := by decide +kernel
theorem dX12_checker_77 : decode cX12_checker 77 = .ok (.iinc 3 1, 3) := by decide +kernel
theorem dX12_checker_80 : decode cX12_checker 80 = .ok (.goto (-26), 3) := by decide +kernel
theorem dX12_checker_83 : decode cX12_checker 83 = .ok (.iconst 0, 1) := by decide +kernel
theorem dX12_checker_84 : decode cX12_checker 84 = .ok (.istore_n 3, 1) := by decide +kernel
theorem dX12_checker_85 : decode cX12_checker 85 = .ok (.iload_n 3, 1) := by decide +kernel
theorem dX12_checker_86 : decode cX12_checker 86 = .ok (.bipush 6, 2) := by decide +kernel
theorem dX12_checker_88 : decode cX12_checker 88 = .ok (.if_icmp .ge 24, 3) := by decide +kernel
theorem dX12_checker_91 : decode cX12_checker 91 = .ok (.aload_n 0, 1) := by decide +kernel
theorem dX12_checker_92 : decode cX12_checker 92 = .ok (.getfield 13, 3) := by decide +kernel
theorem dX12_checker_95 : decode cX12_checker 95 = .ok (.iload_n 3, 1) := by decide +kernel
theorem dX12_checker_96 : decode cX12_checker 96 = .ok (.aload_n 0, 1) := by decide +kernel
theorem dX12_checker_97 : decode cX12_checker 97 = .ok (.getfield 13, 3) := by decide +kernel
theorem dX12_checker_100 : decode cX12_checker 100 = .ok (.bipush 24, 2) := by decide +kernel
theorem dX12_checker_102 : decode cX12_checker 102 = .ok (.iload_n 3, 1) := by decide +kernel
theorem dX12_checker_103 : decode cX12_checker 103 = .ok (.iadd, 1) := by decide +kernel
theorem dX12_checker_104 : decode cX12_checker 104 = .ok (.laload, 1) := by decide +kernel
theorem dX12_checker_105 : decode cX12_checker 105 = .ok (.lastore, 1) := by decide +kernel
theorem dX12_checker_106 : decode cX12_checker 106 = .ok (.iinc 3 1, 3) := by decide +kernel
theorem dX12_checker_109 : decode cX12_checker 109 = .ok (.goto (-24), 3) := by decide +kernel
theorem dX12_checker_112 : decode cX12_checker 112 = .ok (.aload_n 0, 1) := by decide +kernel
theorem dX12_checker_113 : decode cX12_checker 113 = .ok (.aload_n 0, 1) := by decide +kernel
theorem dX12_checker_114 : decode cX12_checker 114 = .ok (.getfield 7, 3) := by decide +kernel
theorem dX12_checker_117 : decode cX12_checker 117 = .ok (.iconst 3, 1) := by decide +kernel
theorem dX12_checker_118 : decode cX12_checker 118 = .ok (.iaload, 1) := by decide +kernel
theorem dX12_checker_119 : decode cX12_checker 119 = .ok (.invokevirtual 279, 3) := by decide +kernel
theorem dX12_checker_122 : decode cX12_checker 122 = .ok (.ireturn, 1) := by decide +kernel
abbrev f_c_X12_checker : List (Nat × Int) := [(64, 2), (64, 10), (64, 11), (64, 12), (64, 13), (64, 14), (64, 15), (64, 16), (64, 17), (64, 18), (64, 19), (65, -1), (66, -1), (71, -1)]
set_option maxHeartbeats 4000000 in
set_option maxRecDepth 100000 in
theorem c_X12_checker (G : KG) (l : Launch) (M : Mem) (a1 : Int) (hI_M : Inv true M) (hpre : -2147483648 ≤ a1 ∧ a1 ≤ 2147483647) (hY : YY M) : KC true G l yX12_checker cX12_checker 4 (some .int) (8, 181) [vR G 163, vI a1] M (fun A => kQi true G A (fun (r : Int) (N : Mem) => Inv true N ∧ Fr f_c_X12_checker M N ∧ (r ≥ -2147483648 ∧ r ≤ 2147483647) ∧ (YY N))) := by
  refine kx_met (lo := [some (vR G 163), some (vI a1), none, none]) (by decide) (Nat.le_of_ble_eq_true rfl) rfl ?_
  intro X F hQ
  have hF_M : Fr f_c_X12_checker M M := Fr.rf _ _
  refine kx_aload_n 1 F 0 dX12_checker_0 rfl rfl rfl ?_
  refine kx_iload_n 2 F 1 dX12_checker_1 rfl rfl rfl ?_
  refine kx_sipush 5 F dX12_checker_2 (by decide) rfl ?_
  refine kx_Vi 8 (ci := 0) F (As := [vI a1, vI 900]) (st := []) vd_X12_273 (c_X12_begins G l M a1 900 hI_M (by omega)) kd_163 rfl rfl rfl ⟨by decide, by decide⟩ rfl rfl (Nat.le_of_ble_eq_true rfl) dX12_checker_5 rfl ?_
  intro r_1 N_2 q_3
  obtain ⟨hI_N_2, hG_N_2, q_3c⟩ := q_3
  have hF_N_2 : Fr f_c_X12_checker M N_2 := Fr.c hF_M hG_N_2 rfl
  refine kx_if_ne 11 F 17 dX12_checker_8 (by decide) rfl (by omega) (fun h_4 => ?_) (fun h_4 => ?_)
  · refine kx_aload_n 18 F 0 dX12_checker_17 rfl rfl rfl ?_
    refine kx_sipush 21 F dX12_checker_18 (by decide) rfl ?_
    refine kx_Vv 24 (ci := 0) F (As := [vI 1088]) (st := []) vd_X12_113 (c_plainN G l N_2 1088 hI_N_2 (by omega)) kd_163 rfl rfl rfl ⟨by decide, by decide⟩ rfl rfl (Nat.le_of_ble_eq_true rfl) dX12_checker_21 rfl ?_
    intro N_5 q_6
    obtain ⟨hI_N_5, hG_N_5, hl_N_5⟩ := q_6
    have hF_N_5 : Fr f_c_X12_checker M N_5 := Fr.c hF_N_2 hG_N_5 rfl
    refine kx_iconst 25 F dX12_checker_24 rfl ?_
    refine kx_istore_n 26 F 2 (lo' := [some (vR G 163), some (vI a1), some (vI 1), none]) dX12_checker_25 rfl (by decide) rfl rfl rfl ?_
    have L_536 : ∀ (n_537 : Nat) (x2_534 : Int) (N_535 : Mem), Inv true N_535 → Fr f_c_X12_checker M N_535 → LO N_535 M → GR N_535 x2_534 → 0 ≤ x2_534 ∧ x2_534 ≤ 1 ∧ (N_535 163 14) ≤ 900 ∧ (N_535 163 12) ≥ 0 ∧ (N_535 163 12) ≤ 4 → (5 * (900 - N_535 163 14) + N_535 163 12 + x2_534).toNat = n_537 → KJ true G X N_535 26 [some (vR G 163), none, some (vI x2_534), none] [] := by
      intro n_537
      refine Nat.strongRecOn n_537 ?_
      intro n_537 ih_538 x2_534 N_535 hI_N_535 hF_N_535 hp_541 hp_542 h_539 hm_540
      refine kx_iload_n 27 F 2 dX12_checker_26 rfl rfl rfl ?_
      refine kx_if_eq 30 F 45 dX12_checker_27 (by decide) rfl (by omega) (fun h_543 => ?_) (fun h_543 => ?_)
      · have h_544 : ¬ x2_534 = 1 → ¬ N_535 163 18 = 0 := hp_542.2
        refine kx_aload_n 46 F 0 dX12_checker_45 rfl rfl rfl ?_
        refine kx_geti 49 F fl_X12_193 kd_163 rfl rfl (j := 18) rfl dX12_checker_46 (v := (N_535 163 18)) rfl rfl ?_
        have h_545 := Inv.g hI_N_535 kd_163 rfl 18 (a := (-2147483648)) (b := 2147483647) rfl rfl
        refine kx_if_ne 52 F 112 dX12_checker_49 (by decide) rfl (by omega) (fun h_546 => ?_) (fun h_546 => ?_)
        · refine kx_aload_n 113 F 0 dX12_checker_112 rfl rfl rfl ?_
          refine kx_aload_n 114 F 0 dX12_checker_113 rfl rfl rfl ?_
          refine kx_getr 117 F fl_X12_7 kd_163 rfl rfl (j := 0) rfl dX12_checker_114 (v := 164) (uq_164 (Inv.r hI_N_535 kd_163 rfl 0 rfl rfl)) rfl ?_
          refine kx_iconst 118 F dX12_checker_117 rfl ?_
          refine kx_iald 119 F kd_164 rfl rfl (by omega) (by decide) dX12_checker_118 (v := (N_535 164 3)) rfl rfl ?_
          have ha_547 : atlo 3 = 0 ∧ athi 3 = 2 := at_c 3 0 (o := 3) (lo := 0) (hi := 2) (by omega) (by decide) (by decide) (by decide)
          have h_548 := Inv.g hI_N_535 kd_164 rfl 3 (a := 0) (b := 2) ha_547.1 ha_547.2
          refine kx_Vi 122 (ci := 0) F (As := [vI (N_535 164 3)]) (st := []) vd_X12_279 (c_X12_taken G l N_535 (N_535 164 3) hI_N_535 (by omega)) kd_163 rfl rfl rfl ⟨by decide, by decide⟩ rfl rfl (Nat.le_of_ble_eq_true rfl) dX12_checker_119 rfl ?_
          intro r_549 N_550 q_551
          obtain ⟨hI_N_550, hG_N_550, q_551c⟩ := q_551
          have hF_N_550 : Fr f_c_X12_checker M N_550 := Fr.c hF_N_535 hG_N_550 rfl
          exact kx_iret F hQ ⟨hI_N_550, hF_N_550, (by omega), (YY.fr (YY.lo hY hI_M hp_541) hG_N_550 rfl)⟩ dX12_checker_122
        · refine kx_iconst 53 F dX12_checker_52 rfl ?_
          refine kx_istore_n 54 F 3 (lo' := [some (vR G 163), none, some (vI x2_534), some (vI 0)]) dX12_checker_53 rfl (by decide) rfl rfl rfl ?_
          have L_728 : ∀ (n_729 : Nat) (x3_726 : Int) (N_727 : Mem), Inv true N_727 → Fr f_c_X12_checker M N_727 → CPk N_727 N_535 0 1088 x3_726 → 0 ≤ x3_726 ∧ x3_726 ≤ 272 → (272 - (x3_726)).toNat = n_729 → KJ true G X N_727 54 [some (vR G 163), none, none, some (vI x3_726)] [] := by
            intro n_729
            refine Nat.strongRecOn n_729 ?_
            intro n_729 ih_730 x3_726 N_727 hI_N_727 hF_N_727 hp_733 h_731 hm_732
            refine kx_iload_n 55 F 3 dX12_checker_54 rfl rfl rfl ?_
            refine kx_sipush 58 F dX12_checker_55 (by decide) rfl ?_
            refine kx_icmp_ge 61 F 83 dX12_checker_58 (by decide) rfl (by omega) (by decide) (fun h_734 => ?_) (fun h_734 => ?_)
            · refine kx_iconst 84 F dX12_checker_83 rfl ?_
              refine kx_istore_n 85 F 3 (lo' := [some (vR G 163), none, none, some (vI 0)]) dX12_checker_84 rfl (by decide) rfl rfl rfl ?_
              have L_782 : ∀ (n_783 : Nat) (x3_780 : Int) (N_781 : Mem), Inv true N_781 → Fr f_c_X12_checker M N_781 → YY N_781 → 0 ≤ x3_780 ∧ x3_780 ≤ 6 → (6 - (x3_780)).toNat = n_783 → KJ true G X N_781 85 [some (vR G 163), none, none, some (vI x3_780)] [] := by
                intro n_783
                refine Nat.strongRecOn n_783 ?_
                intro n_783 ih_784 x3_780 N_781 hI_N_781 hF_N_781 hp_787 h_785 hm_786
                refine kx_iload_n 86 F 3 dX12_checker_85 rfl rfl rfl ?_
                refine kx_bipush 88 F dX12_checker_86 (by decide) rfl ?_
                refine kx_icmp_ge 91 F 112 dX12_checker_88 (by decide) rfl (by omega) (by decide) (fun h_788 => ?_) (fun h_788 => ?_)
                · refine kx_aload_n 113 F 0 dX12_checker_112 rfl rfl rfl ?_
                  refine kx_aload_n 114 F 0 dX12_checker_113 rfl rfl rfl ?_
                  refine kx_getr 117 F fl_X12_7 kd_163 rfl rfl (j := 0) rfl dX12_checker_114 (v := 164) (uq_164 (Inv.r hI_N_781 kd_163 rfl 0 rfl rfl)) rfl ?_
                  refine kx_iconst 118 F dX12_checker_117 rfl ?_
                  refine kx_iald 119 F kd_164 rfl rfl (by omega) (by decide) dX12_checker_118 (v := (N_781 164 3)) rfl rfl ?_
                  have ha_789 : atlo 3 = 0 ∧ athi 3 = 2 := at_c 3 0 (o := 3) (lo := 0) (hi := 2) (by omega) (by decide) (by decide) (by decide)
                  have h_790 := Inv.g hI_N_781 kd_164 rfl 3 (a := 0) (b := 2) ha_789.1 ha_789.2
                  refine kx_Vi 122 (ci := 0) F (As := [vI (N_781 164 3)]) (st := []) vd_X12_279 (c_X12_taken G l N_781 (N_781 164 3) hI_N_781 (by omega)) kd_163 rfl rfl rfl ⟨by decide, by decide⟩ rfl rfl (Nat.le_of_ble_eq_true rfl) dX12_checker_119 rfl ?_
                  intro r_791 N_792 q_793
                  obtain ⟨hI_N_792, hG_N_792, q_793c⟩ := q_793
                  have hF_N_792 : Fr f_c_X12_checker M N_792 := Fr.c hF_N_781 hG_N_792 rfl
                  exact kx_iret F hQ ⟨hI_N_792, hF_N_792, (by omega), (YY.fr hp_787 hG_N_792 rfl)⟩ dX12_checker_122
                · refine kx_aload_n 92 F 0 dX12_checker_91 rfl rfl rfl ?_
                  refine kx_getr 95 F fl_X12_13 kd_163 rfl rfl (j := 1) rfl dX12_checker_92 (v := 165) (uq_165 (Inv.r hI_N_781 kd_163 rfl 1 rfl rfl)) rfl ?_
                  refine kx_iload_n 96 F 3 dX12_checker_95 rfl rfl rfl ?_
                  refine kx_aload_n 97 F 0 dX12_checker_96 rfl rfl rfl ?_
                  refine kx_getr 100 F fl_X12_13 kd_163 rfl rfl (j := 1) rfl dX12_checker_97 (v := 165) (uq_165 (Inv.r hI_N_781 kd_163 rfl 1 rfl rfl)) rfl ?_
                  refine kx_bipush 102 F dX12_checker_100 (by decide) rfl ?_
                  refine kx_iload_n 103 F 3 dX12_checker_102 rfl rfl rfl ?_
                  refine kx_iadd 104 F (v := x3_780 + 24) dX12_checker_103 (by omega) rfl ?_
                  refine kx_lald 105 F kd_165 rfl rfl (by omega) (by decide) dX12_checker_104 (v := (N_781 165 (x3_780 + 24))) rfl rfl ?_
                  have h_794 := Inv.g hI_N_781 kd_165 rfl (x3_780 + 24) (a := (-9223372036854775808)) (b := 9223372036854775807) rfl rfl
                  refine kx_last 106 F kd_165 rfl rfl (by omega) (by decide) dX12_checker_105 rfl ?_
                  intro N_795 hM_N_795
                  have hI_N_795 : Inv true N_795 := Inv.u hI_N_781 hM_N_795 kd_165 (a := (-9223372036854775808)) (b := 9223372036854775807) rfl rfl rfl (by omega)
                  have hF_N_795 : Fr f_c_X12_checker M N_795 := Fr.u hF_N_781 hM_N_795 kd_165 rfl
                  refine kx_iinc 109 F 3 (v := x3_780 + 1) (lo' := [some (vR G 163), none, none, some (vI (x3_780 + 1))]) dX12_checker_106 rfl (by omega) (by decide) rfl rfl rfl ?_
                  refine kx_goto 85 F dX12_checker_109 (by decide) ?_
                  exact ih_784 _ (by omega) (x3_780 + 1) N_795 hI_N_795 hF_N_795 (YY.st hp_787 hM_N_795 kd_165 rfl) (by omega) rfl
              exact L_782 _ 0 N_727 hI_N_727 hF_N_727 (YY.slot4 (YY.lo hY hI_M hp_541) hI_N_535 (hp_542.1 (by omega)) (hp_733.at (by omega))) (by omega) rfl
            · refine kx_aload_n 62 F 0 dX12_checker_61 rfl rfl rfl ?_
              refine kx_getr 65 F fl_X12_7 kd_163 rfl rfl (j := 0) rfl dX12_checker_62 (v := 164) (uq_164 (Inv.r hI_N_727 kd_163 rfl 0 rfl rfl)) rfl ?_
              refine kx_iload_n 66 F 3 dX12_checker_65 rfl rfl rfl ?_
              refine kx_aload_n 67 F 0 dX12_checker_66 rfl rfl rfl ?_
              refine kx_getr 70 F fl_X12_7 kd_163 rfl rfl (j := 0) rfl dX12_checker_67 (v := 164) (uq_164 (Inv.r hI_N_727 kd_163 rfl 0 rfl rfl)) rfl ?_
              refine kx_sipush 73 F dX12_checker_70 (by decide) rfl ?_
              refine kx_iload_n 74 F 3 dX12_checker_73 rfl rfl rfl ?_
              refine kx_iadd 75 F (v := x3_726 + 1088) dX12_checker_74 (by omega) rfl ?_
              refine kx_iald 76 F kd_164 rfl rfl (by omega) (by decide) dX12_checker_75 (v := (N_727 164 (x3_726 + 1088))) rfl rfl ?_
              have h_796 := Inv.g hI_N_727 kd_164 rfl (x3_726 + 1088) (a := atlo (x3_726 + 1088)) (b := athi (x3_726 + 1088)) rfl rfl
              have h_797 := at_w (x3_726 + 1088)
              refine kx_iast 77 F kd_164 rfl rfl (by omega) (by decide) dX12_checker_76 rfl ?_
              intro N_798 hM_N_798
              have h_799 := at_0 x3_726
              have h_800 := at_q x3_726 (x3_726 + 1088) (by omega)
              have hI_N_798 : Inv true N_798 := Inv.u hI_N_727 hM_N_798 kd_164 (a := atlo x3_726) (b := athi x3_726) rfl rfl rfl (by omega)
              have hF_N_798 : Fr f_c_X12_checker M N_798 := Fr.u hF_N_727 hM_N_798 kd_164 rfl
              refine kx_iinc 80 F 3 (v := x3_726 + 1) (lo' := [some (vR G 163), none, none, some (vI (x3_726 + 1))]) dX12_checker_77 rfl (by omega) (by decide) rfl rfl rfl ?_
              refine kx_goto 54 F dX12_checker_80 (by decide) ?_
              exact ih_730 _ (by omega) (x3_726 + 1) N_798 hI_N_798 hF_N_798 (CPk.step hp_733 (by omega) hM_N_798 (by omega) rfl (by omega) (by omega) (by omega)) (by omega) rfl
          refine kx_drop 2 (lo' := [some (vR G 163), none, none, some (vI 0)]) rfl ?_
          exact L_728 _ 0 N_535 hI_N_535 hF_N_535 ((CPk.nil _ _).at (by omega)) (by omega) rfl
      · refine kx_aload_n 31 F 0 dX12_checker_30 rfl rfl rfl ?_
        refine kx_geti 34 F fl_X12_168 kd_163 rfl rfl (j := 12) rfl dX12_checker_31 (v := (N_535 163 12)) rfl rfl ?_
        have h_801 := Inv.g hI_N_535 kd_163 rfl 12 (a := 0) (b := 4) rfl rfl
        refine kx_if_eq 37 F 45 dX12_checker_34 (by decide) rfl (by omega) (fun h_802 => ?_) (fun h_802 => ?_)
        · have h_803 : ¬ x2_534 = 1 → ¬ N_535 163 18 = 0 := hp_542.2
          refine kx_aload_n 46 F 0 dX12_checker_45 rfl rfl rfl ?_
          refine kx_geti 49 F fl_X12_193 kd_163 rfl rfl (j := 18) rfl dX12_checker_46 (v := (N_535 163 18)) rfl rfl ?_
          have h_804 := Inv.g hI_N_535 kd_163 rfl 18 (a := (-2147483648)) (b := 2147483647) rfl rfl
          refine kx_if_ne 52 F 112 dX12_checker_49 (by decide) rfl (by omega) (fun h_805 => ?_) (fun h_805 => ?_)
          · refine kx_aload_n 113 F 0 dX12_checker_112 rfl rfl rfl ?_
            refine kx_aload_n 114 F 0 dX12_checker_113 rfl rfl rfl ?_
            refine kx_getr 117 F fl_X12_7 kd_163 rfl rfl (j := 0) rfl dX12_checker_114 (v := 164) (uq_164 (Inv.r hI_N_535 kd_163 rfl 0 rfl rfl)) rfl ?_
            refine kx_iconst 118 F dX12_checker_117 rfl ?_
            refine kx_iald 119 F kd_164 rfl rfl (by omega) (by decide) dX12_checker_118 (v := (N_535 164 3)) rfl rfl ?_
            have ha_806 : atlo 3 = 0 ∧ athi 3 = 2 := at_c 3 0 (o := 3) (lo := 0) (hi := 2) (by omega) (by decide) (by decide) (by decide)
            have h_807 := Inv.g hI_N_535 kd_164 rfl 3 (a := 0) (b := 2) ha_806.1 ha_806.2
            refine kx_Vi 122 (ci := 0) F (As := [vI (N_535 164 3)]) (st := []) vd_X12_279 (c_X12_taken G l N_535 (N_535 164 3) hI_N_535 (by omega)) kd_163 rfl rfl rfl ⟨by decide, by decide⟩ rfl rfl (Nat.le_of_ble_eq_true rfl) dX12_checker_119 rfl ?_
            intro r_808 N_809 q_810
            obtain ⟨hI_N_809, hG_N_809, q_810c⟩ := q_810
            have hF_N_809 : Fr f_c_X12_checker M N_809 := Fr.c hF_N_535 hG_N_809 rfl
            exact kx_iret F hQ ⟨hI_N_809, hF_N_809, (by omega), (YY.fr (YY.lo hY hI_M hp_541) hG_N_809 rfl)⟩ dX12_checker_122
          · refine kx_iconst 53 F dX12_checker_52 rfl ?_
            refine kx_istore_n 54 F 3 (lo' := [some (vR G 163), none, some (vI x2_534), some (vI 0)]) dX12_checker_53 rfl (by decide) rfl rfl rfl ?_
            have L_987 : ∀ (n_988 : Nat) (x3_985 : Int) (N_986 : Mem), Inv true N_986 → Fr f_c_X12_checker M N_986 → CPk N_986 N_535 0 1088 x3_985 → 0 ≤ x3_985 ∧ x3_985 ≤ 272 → (272 - (x3_985)).toNat = n_988 → KJ true G X N_986 54 [some (vR G 163), none, none, some (vI x3_985)] [] := by
              intro n_988
              refine Nat.strongRecOn n_988 ?_
              intro n_988 ih_989 x3_985 N_986 hI_N_986 hF_N_986 hp_992 h_990 hm_991
              refine kx_iload_n 55 F 3 dX12_checker_54 rfl rfl rfl ?_
              refine kx_sipush 58 F dX12_checker_55 (by decide) rfl ?_
              refine kx_icmp_ge 61 F 83 dX12_checker_58 (by decide) rfl (by omega) (by decide) (fun h_993 => ?_) (fun h_993 => ?_)
              · refine kx_iconst 84 F dX12_checker_83 rfl ?_
                refine kx_istore_n 85 F 3 (lo' := [some (vR G 163), none, none, some (vI 0)]) dX12_checker_84 rfl (by decide) rfl rfl rfl ?_
                have L_1041 : ∀ (n_1042 : Nat) (x3_1039 : Int) (N_1040 : Mem), Inv true N_1040 → Fr f_c_X12_checker M N_1040 → YY N_1040 → 0 ≤ x3_1039 ∧ x3_1039 ≤ 6 → (6 - (x3_1039)).toNat = n_1042 → KJ true G X N_1040 85 [some (vR G 163), none, none, some (vI x3_1039)] [] := by
                  intro n_1042
                  refine Nat.strongRecOn n_1042 ?_
                  intro n_1042 ih_1043 x3_1039 N_1040 hI_N_1040 hF_N_1040 hp_1046 h_1044 hm_1045
                  refine kx_iload_n 86 F 3 dX12_checker_85 rfl rfl rfl ?_
                  refine kx_bipush 88 F dX12_checker_86 (by decide) rfl ?_
                  refine kx_icmp_ge 91 F 112 dX12_checker_88 (by decide) rfl (by omega) (by decide) (fun h_1047 => ?_) (fun h_1047 => ?_)
                  · refine kx_aload_n 113 F 0 dX12_checker_112 rfl rfl rfl ?_
                    refine kx_aload_n 114 F 0 dX12_checker_113 rfl rfl rfl ?_
                    refine kx_getr 117 F fl_X12_7 kd_163 rfl rfl (j := 0) rfl dX12_checker_114 (v := 164) (uq_164 (Inv.r hI_N_1040 kd_163 rfl 0 rfl rfl)) rfl ?_
                    refine kx_iconst 118 F dX12_checker_117 rfl ?_
                    refine kx_iald 119 F kd_164 rfl rfl (by omega) (by decide) dX12_checker_118 (v := (N_1040 164 3)) rfl rfl ?_
                    have ha_1048 : atlo 3 = 0 ∧ athi 3 = 2 := at_c 3 0 (o := 3) (lo := 0) (hi := 2) (by omega) (by decide) (by decide) (by decide)
                    have h_1049 := Inv.g hI_N_1040 kd_164 rfl 3 (a := 0) (b := 2) ha_1048.1 ha_1048.2
                    refine kx_Vi 122 (ci := 0) F (As := [vI (N_1040 164 3)]) (st := []) vd_X12_279 (c_X12_taken G l N_1040 (N_1040 164 3) hI_N_1040 (by omega)) kd_163 rfl rfl rfl ⟨by decide, by decide⟩ rfl rfl (Nat.le_of_ble_eq_true rfl) dX12_checker_119 rfl ?_
                    intro r_1050 N_1051 q_1052
                    obtain ⟨hI_N_1051, hG_N_1051, q_1052c⟩ := q_1052
                    have hF_N_1051 : Fr f_c_X12_checker M N_1051 := Fr.c hF_N_1040 hG_N_1051 rfl
                    exact kx_iret F hQ ⟨hI_N_1051, hF_N_1051, (by omega), (YY.fr hp_1046 hG_N_1051 rfl)⟩ dX12_checker_122
                  · refine kx_aload_n 92 F 0 dX12_checker_91 rfl rfl rfl ?_
                    refine kx_getr 95 F fl_X12_13 kd_163 rfl rfl (j := 1) rfl dX12_checker_92 (v := 165) (uq_165 (Inv.r hI_N_1040 kd_163 rfl 1 rfl rfl)) rfl ?_
                    refine kx_iload_n 96 F 3 dX12_checker_95 rfl rfl rfl ?_
                    refine kx_aload_n 97 F 0 dX12_checker_96 rfl rfl rfl ?_
                    refine kx_getr 100 F fl_X12_13 kd_163 rfl rfl (j := 1) rfl dX12_checker_97 (v := 165) (uq_165 (Inv.r hI_N_1040 kd_163 rfl 1 rfl rfl)) rfl ?_
                    refine kx_bipush 102 F dX12_checker_100 (by decide) rfl ?_
                    refine kx_iload_n 103 F 3 dX12_checker_102 rfl rfl rfl ?_
                    refine kx_iadd 104 F (v := x3_1039 + 24) dX12_checker_103 (by omega) rfl ?_
                    refine kx_lald 105 F kd_165 rfl rfl (by omega) (by decide) dX12_checker_104 (v := (N_1040 165 (x3_1039 + 24))) rfl rfl ?_
                    have h_1053 := Inv.g hI_N_1040 kd_165 rfl (x3_1039 + 24) (a := (-9223372036854775808)) (b := 9223372036854775807) rfl rfl
                    refine kx_last 106 F kd_165 rfl rfl (by omega) (by decide) dX12_checker_105 rfl ?_
                    intro N_1054 hM_N_1054
                    have hI_N_1054 : Inv true N_1054 := Inv.u hI_N_1040 hM_N_1054 kd_165 (a := (-9223372036854775808)) (b := 9223372036854775807) rfl rfl rfl (by omega)
                    have hF_N_1054 : Fr f_c_X12_checker M N_1054 := Fr.u hF_N_1040 hM_N_1054 kd_165 rfl
                    refine kx_iinc 109 F 3 (v := x3_1039 + 1) (lo' := [some (vR G 163), none, none, some (vI (x3_1039 + 1))]) dX12_checker_106 rfl (by omega) (by decide) rfl rfl rfl ?_
                    refine kx_goto 85 F dX12_checker_109 (by decide) ?_
                    exact ih_1043 _ (by omega) (x3_1039 + 1) N_1054 hI_N_1054 hF_N_1054 (YY.st hp_1046 hM_N_1054 kd_165 rfl) (by omega) rfl
                exact L_1041 _ 0 N_986 hI_N_986 hF_N_986 (YY.slot4 (YY.lo hY hI_M hp_541) hI_N_535 (hp_542.1 (by omega)) (hp_992.at (by omega))) (by omega) rfl
              · refine kx_aload_n 62 F 0 dX12_checker_61 rfl rfl rfl ?_
                refine kx_getr 65 F fl_X12_7 kd_163 rfl rfl (j := 0) rfl dX12_checker_62 (v := 164) (uq_164 (Inv.r hI_N_986 kd_163 rfl 0 rfl rfl)) rfl ?_
                refine kx_iload_n 66 F 3 dX12_checker_65 rfl rfl rfl ?_
                refine kx_aload_n 67 F 0 dX12_checker_66 rfl rfl rfl ?_
                refine kx_getr 70 F fl_X12_7 kd_163 rfl rfl (j := 0) rfl dX12_checker_67 (v := 164) (uq_164 (Inv.r hI_N_986 kd_163 rfl 0 rfl rfl)) rfl ?_
                refine kx_sipush 73 F dX12_checker_70 (by decide) rfl ?_
                refine kx_iload_n 74 F 3 dX12_checker_73 rfl rfl rfl ?_
                refine kx_iadd 75 F (v := x3_985 + 1088) dX12_checker_74 (by omega) rfl ?_
                refine kx_iald 76 F kd_164 rfl rfl (by omega) (by decide) dX12_checker_75 (v := (N_986 164 (x3_985 + 1088))) rfl rfl ?_
                have h_1055 := Inv.g hI_N_986 kd_164 rfl (x3_985 + 1088) (a := atlo (x3_985 + 1088)) (b := athi (x3_985 + 1088)) rfl rfl
                have h_1056 := at_w (x3_985 + 1088)
                refine kx_iast 77 F kd_164 rfl rfl (by omega) (by decide) dX12_checker_76 rfl ?_
                intro N_1057 hM_N_1057
                have h_1058 := at_0 x3_985
                have h_1059 := at_q x3_985 (x3_985 + 1088) (by omega)
                have hI_N_1057 : Inv true N_1057 := Inv.u hI_N_986 hM_N_1057 kd_164 (a := atlo x3_985) (b := athi x3_985) rfl rfl rfl (by omega)
                have hF_N_1057 : Fr f_c_X12_checker M N_1057 := Fr.u hF_N_986 hM_N_1057 kd_164 rfl
                refine kx_iinc 80 F 3 (v := x3_985 + 1) (lo' := [some (vR G 163), none, none, some (vI (x3_985 + 1))]) dX12_checker_77 rfl (by omega) (by decide) rfl rfl rfl ?_
                refine kx_goto 54 F dX12_checker_80 (by decide) ?_
                exact ih_989 _ (by omega) (x3_985 + 1) N_1057 hI_N_1057 hF_N_1057 (CPk.step hp_992 (by omega) hM_N_1057 (by omega) rfl (by omega) (by omega) (by omega)) (by omega) rfl
            refine kx_drop 2 (lo' := [some (vR G 163), none, none, some (vI 0)]) rfl ?_
            exact L_987 _ 0 N_535 hI_N_535 hF_N_535 ((CPk.nil _ _).at (by omega)) (by omega) rfl
        · refine kx_aload_n 38 F 0 dX12_checker_37 rfl rfl rfl ?_
          refine kx_Vi 41 (ci := 0) F (As := []) (st := []) vd_X12_276 (c_X12_checkerPart G l N_535  hI_N_535 (hp_542.1 (by omega))) kd_163 rfl rfl rfl ⟨by decide, by decide⟩ rfl rfl (Nat.le_of_ble_eq_true rfl) dX12_checker_38 rfl ?_
          intro r_1060 N_1061 q_1062
          obtain ⟨hI_N_1061, hG_N_1061, q_1062c, hl_N_1061⟩ := q_1062
          have hF_N_1061 : Fr f_c_X12_checker M N_1061 := Fr.c hF_N_535 hG_N_1061 rfl
          have h_1063 := Inv.g hI_N_535 kd_163 rfl 14 (a := 0) (b := 900) rfl rfl
          have h_1064 := Inv.g hI_N_1061 kd_163 rfl 14 (a := 0) (b := 900) rfl rfl
          have h_1065 := Inv.g hI_N_1061 kd_163 rfl 12 (a := 0) (b := 4) rfl rfl
          have h_1066 := Inv.g hI_N_535 kd_163 rfl 14 (a := 0) (b := 900) rfl rfl
          have h_1067 := Inv.g hI_N_1061 kd_163 rfl 14 (a := 0) (b := 900) rfl rfl
          have h_1068 := Inv.g hI_N_1061 kd_163 rfl 12 (a := 0) (b := 4) rfl rfl
          have h_1069 := Inv.g hI_N_1061 kd_163 rfl 18 (a := (-2147483648)) (b := 2147483647) rfl rfl
          rcases q_1062c with q_1062c | q_1062c
          · refine kx_istore_n 42 F 2 (lo' := [some (vR G 163), none, some (vI r_1060), none]) dX12_checker_41 rfl (by decide) rfl rfl rfl ?_
            refine kx_goto 26 F dX12_checker_42 (by decide) ?_
            exact ih_538 _ (by omega) r_1060 N_1061 hI_N_1061 hF_N_1061 (LO.trans hp_541 hl_N_1061.1) ⟨fun h => (hl_N_1061).2 h, fun h => by omega⟩ (by omega) rfl
          · refine kx_istore_n 42 F 2 (lo' := [some (vR G 163), none, some (vI r_1060), none]) dX12_checker_41 rfl (by decide) rfl rfl rfl ?_
            refine kx_goto 26 F dX12_checker_42 (by decide) ?_
            exact ih_538 _ (by omega) r_1060 N_1061 hI_N_1061 hF_N_1061 (LO.trans hp_541 hl_N_1061.1) ⟨fun h => (hl_N_1061).2 h, fun h => by omega⟩ (by omega) rfl
    refine kx_drop 1 (lo' := [some (vR G 163), none, some (vI 1), none]) rfl ?_
    have e_1070 : (N_5 163 14) = (N_2 163 14) := by rw [Fr.e hG_N_5 kd_163 _ rfl]
    have h_1071 := Inv.g hI_N_2 kd_163 rfl 14 (a := 0) (b := 900) rfl rfl
    have e_1072 : (N_5 163 12) = (N_2 163 12) := by rw [Fr.e hG_N_5 kd_163 _ rfl]
    have h_1073 := Inv.g hI_N_2 kd_163 rfl 12 (a := 0) (b := 4) rfl rfl
    have e_1074 : (N_5 163 12) = (N_2 163 12) := by rw [Fr.e hG_N_5 kd_163 _ rfl]
    exact L_536 _ 1 N_5 hI_N_5 hF_N_5 (LO.trans (LO.fr (LO.rf M) hG_N_2 rfl) hl_N_5.1) ⟨fun _ => hl_N_5.2, fun h => absurd rfl h⟩ (by omega) rfl
  · refine kx_aload_n 12 F 0 dX12_checker_11 rfl rfl rfl ?_
    refine kx_iconst 13 F dX12_checker_12 rfl ?_
    refine kx_Vi 16 (ci := 0) F (As := [vI 1]) (st := []) vd_X12_123 (c_X12_refuse G l N_2 1 hI_N_2 (by omega)) kd_163 rfl rfl rfl ⟨by decide, by decide⟩ rfl rfl (Nat.le_of_ble_eq_true rfl) dX12_checker_13 rfl ?_
    intro r_1075 N_1076 q_1077
    obtain ⟨hI_N_1076, hG_N_1076, q_1077c⟩ := q_1077
    have hF_N_1076 : Fr f_c_X12_checker M N_1076 := Fr.c hF_N_2 hG_N_1076 rfl
    subst q_1077c
    exact kx_iret F hQ ⟨hI_N_1076, hF_N_1076, (by omega), (YY.fr (YY.fr hY hG_N_2 rfl) hG_N_1076 rfl)⟩ dX12_checker_16
