theorem dX12_table_0 : decode cX12_table 0 = .ok (.aload_n 0, 1) := by decide +kernel
theorem dX12_table_1 : decode cX12_table 1 = .ok (.iload_n 1, 1) := by decide +kernel
theorem dX12_table_2 : decode cX12_table 2 = .ok (.invokevirtual 282, 3) := by decide +kernel
theorem dX12_table_5 : decode cX12_table 5 = .ok (.ifCond .ne 9, 3) := by decide +kernel
theorem dX12_table_8 : decode cX12_table 8 = .ok (.aload_n 0, 1) := by decide +kernel
theorem dX12_table_9 : decode cX12_table 9 = .ok (.iconst 1, 1) := by decide +kernel
theorem dX12_table_10 : decode cX12_table 10 = .ok (.invokevirtual 123, 3) := by decide +kernel
theorem dX12_table_13 : decode cX12_table 13 = .ok (.ireturn, 1) := by decide +kernel
theorem dX12_table_14 : decode cX12_table 14 = .ok (.aload_n 0, 1) := by decide +kernel
theorem dX12_table_15 : decode cX12_table 15 = .ok (.iload_n 1, 1) := by decide +kernel
theorem dX12_table_16 : decode cX12_table 16 = .ok (.invokevirtual 422, 3) := by decide +kernel
theorem dX12_table_19 : decode cX12_table 19 = .ok (.ifCond .eq 14, 3) := by decide +kernel
theorem dX12_table_22 : decode cX12_table 22 = .ok (.aload_n 0, 1) := by decide +kernel
theorem dX12_table_23 : decode cX12_table 23 = .ok (.aload_n 0, 1) := by decide +kernel
theorem dX12_table_24 : decode cX12_table 24 = .ok (.getfield 403, 3) := by decide +kernel
theorem dX12_table_27 : decode cX12_table 27 = .ok (.invokevirtual 127, 3) := by decide +kernel
theorem dX12_table_30 : decode cX12_table 30 = .ok (.goto 9, 3) := by decide +kernel
theorem dX12_table_33 : decode cX12_table 33 = .ok (.aload_n 0, 1) := by decide +kernel
theorem dX12_table_34 : decode cX12_table 34 = .ok (.bipush 7, 2) := by decide +kernel
theorem dX12_table_36 : decode cX12_table 36 = .ok (.invokevirtual 123, 3) := by decide +kernel
theorem dX12_table_39 : decode cX12_table 39 = .ok (.ireturn, 1) := by decide +kernel
abbrev f_e_table : List (Nat × Int) := [(64, 2), (64, 35), (72, -1), (81, -1), (82, -1)]
set_option maxHeartbeats 4000000 in
set_option maxRecDepth 100000 in
theorem e_table (G : KG) (l : Launch) (M : Mem) (a1 : Int) (hI_M : Inv true M) (hpre : -2147483648 ≤ a1 ∧ a1 ≤ 2147483647) (hY : YY M) : KC true G l yX12_table cX12_table 2 (some .int) (5, 126) [vR G 163, vI a1] M (fun A => kQi true G A (fun (r : Int) (N : Mem) => Inv true N ∧ Fr f_e_table M N ∧ (r ≥ -1 ∧ r ≤ 40) ∧ (YY N))) := by
  refine kx_met (lo := [some (vR G 163), some (vI a1)]) (by decide) (Nat.le_of_ble_eq_true rfl) rfl ?_
  intro X F hQ
  have hF_M : Fr f_e_table M M := Fr.rf _ _
  have h_1 := Inv.g hI_M kd_164 rfl 0 (a := 0) (b := 2) (at_c 0 0 (o := 0) (lo := 0) (hi := 2) (by omega) (by decide) (by decide) (by decide)).1 (at_c 0 0 (o := 0) (lo := 0) (hi := 2) (by omega) (by decide) (by decide) (by decide)).2
  have h_2 := Inv.g hI_M kd_164 rfl 1 (a := 0) (b := 2) (at_c 1 0 (o := 1) (lo := 0) (hi := 2) (by omega) (by decide) (by decide) (by decide)).1 (at_c 1 0 (o := 1) (lo := 0) (hi := 2) (by omega) (by decide) (by decide) (by decide)).2
  have h_3 := Inv.g hI_M kd_164 rfl 2 (a := 0) (b := 2) (at_c 2 0 (o := 2) (lo := 0) (hi := 2) (by omega) (by decide) (by decide) (by decide)).1 (at_c 2 0 (o := 2) (lo := 0) (hi := 2) (by omega) (by decide) (by decide) (by decide)).2
  refine kx_aload_n 1 F 0 dX12_table_0 rfl rfl rfl ?_
  refine kx_iload_n 2 F 1 dX12_table_1 rfl rfl rfl ?_
  refine kx_Vi 5 (ci := 0) F (As := [vI a1]) (st := []) vd_X12_282 (c_X12_isAutomaton G l M a1 hI_M (by omega)) kd_163 rfl rfl rfl ⟨by decide, by decide⟩ rfl rfl (Nat.le_of_ble_eq_true rfl) dX12_table_2 rfl ?_
  intro r_4 N_5 q_6
  obtain ⟨rfl, q_6c⟩ := q_6
  rcases q_6c with q_6c | q_6c
  · refine kx_if_ne 8 F 14 dX12_table_5 (by decide) rfl (by omega) (fun h_7 => ?_) (fun h_7 => (by exfalso; omega))
    refine kx_aload_n 15 F 0 dX12_table_14 rfl rfl rfl ?_
    refine kx_iload_n 16 F 1 dX12_table_15 rfl rfl rfl ?_
    refine kx_Vi 19 (ci := 0) F (As := [vI a1]) (st := []) vd_X12_422 (e_laysTable G l M a1 hI_M (by omega)) kd_163 rfl rfl rfl ⟨by decide, by decide⟩ rfl rfl (Nat.le_of_ble_eq_true rfl) dX12_table_16 rfl ?_
    intro r_8 N_9 q_10
    obtain ⟨hI_N_9, hG_N_9, q_10c, hc_N_9⟩ := q_10
    have hF_N_9 : Fr f_e_table M N_9 := Fr.c hF_M hG_N_9 rfl
    have h_11 := Inv.g hI_N_9 kd_163 rfl 35 (a := 0) (b := 41) rfl rfl
    rcases q_10c with q_10c | q_10c
    · refine kx_if_eq 22 F 33 dX12_table_19 (by decide) rfl (by omega) (fun h_12 => (by exfalso; omega)) (fun h_12 => ?_)
      refine kx_aload_n 23 F 0 dX12_table_22 rfl rfl rfl ?_
      refine kx_aload_n 24 F 0 dX12_table_23 rfl rfl rfl ?_
      refine kx_geti 27 F fl_X12_403 kd_163 rfl rfl (j := 35) rfl dX12_table_24 (v := (N_9 163 35)) rfl rfl ?_
      refine kx_Vi 30 (ci := 0) F (As := [vI (N_9 163 35)]) (st := []) vd_X12_127 (c_X12_gives G l N_9 (N_9 163 35) hI_N_9 (by omega)) kd_163 rfl rfl rfl ⟨by decide, by decide⟩ rfl rfl (Nat.le_of_ble_eq_true rfl) dX12_table_27 rfl ?_
      intro r_13 N_14 q_15
      obtain ⟨hI_N_14, hG_N_14, q_15c⟩ := q_15
      have hF_N_14 : Fr f_e_table M N_14 := Fr.c hF_N_9 hG_N_14 rfl
      refine kx_topi (e' := (N_9 163 35)) (by omega) ?_
      refine kx_goto 39 F dX12_table_30 (by decide) ?_
      exact kx_iret F hQ ⟨hI_N_14, hF_N_14, (by omega), (YY.fr (YY.fr hY hG_N_9 rfl) hG_N_14 rfl)⟩ dX12_table_39
    · refine kx_if_eq 22 F 33 dX12_table_19 (by decide) rfl (by omega) (fun h_16 => ?_) (fun h_16 => (by exfalso; omega))
      refine kx_aload_n 34 F 0 dX12_table_33 rfl rfl rfl ?_
      refine kx_bipush 36 F dX12_table_34 (by decide) rfl ?_
      refine kx_Vi 39 (ci := 0) F (As := [vI 7]) (st := []) vd_X12_123 (c_X12_refuse G l N_9 7 hI_N_9 (by omega)) kd_163 rfl rfl rfl ⟨by decide, by decide⟩ rfl rfl (Nat.le_of_ble_eq_true rfl) dX12_table_36 rfl ?_
      intro r_17 N_18 q_19
      obtain ⟨hI_N_18, hG_N_18, q_19c⟩ := q_19
      have hF_N_18 : Fr f_e_table M N_18 := Fr.c hF_N_9 hG_N_18 rfl
      subst q_19c
      exact kx_iret F hQ ⟨hI_N_18, hF_N_18, (by omega), (YY.fr (YY.fr hY hG_N_9 rfl) hG_N_18 rfl)⟩ dX12_table_39
  · refine kx_if_ne 8 F 14 dX12_table_5 (by decide) rfl (by omega) (fun h_20 => (by exfalso; omega)) (fun h_20 => ?_)
    refine kx_aload_n 9 F 0 dX12_table_8 rfl rfl rfl ?_
    refine kx_iconst 10 F dX12_table_9 rfl ?_
    refine kx_Vi 13 (ci := 0) F (As := [vI 1]) (st := []) vd_X12_123 (c_X12_refuse G l M 1 hI_M (by omega)) kd_163 rfl rfl rfl ⟨by decide, by decide⟩ rfl rfl (Nat.le_of_ble_eq_true rfl) dX12_table_10 rfl ?_
    intro r_21 N_22 q_23
    obtain ⟨hI_N_22, hG_N_22, q_23c⟩ := q_23
    have hF_N_22 : Fr f_e_table M N_22 := Fr.c hF_M hG_N_22 rfl
    subst q_23c
    exact kx_iret F hQ ⟨hI_N_22, hF_N_22, (by omega), (YY.fr hY hG_N_22 rfl)⟩ dX12_table_13
theorem dX12_summary_0 : decode cX12_summary 0 = .ok (.aload_n 0, 1) := by decide +kernel
theorem dX12_summary_1 : decode cX12_summary 1 = .ok (.iload_n 1, 1) := by decide +kernel
theorem dX12_summary_2 : decode cX12_summary 2 = .ok (.invokevirtual 282, 3) := by decide +kernel
theorem dX12_summary_5 : decode cX12_summary 5 = .ok (.ifCond .eq 12, 3) := by decide +kernel
theorem dX12_summary_8 : decode cX12_summary 8 = .ok (.iload_n 3, 1) := by decide +kernel
theorem dX12_summary_9 : decode cX12_summary 9 = .ok (.ifCond .lt 8, 3) := by decide +kernel
theorem dX12_summary_12 : decode cX12_summary 12 = .ok (.iload_n 3, 1) := by decide +kernel
theorem dX12_summary_13 : decode cX12_summary 13 = .ok (.iconst 2, 1) := by decide +kernel
theorem dX12_summary_14 : decode cX12_summary 14 = .ok (.if_icmp .le 9, 3) := by decide +kernel
theorem dX12_summary_17 : decode cX12_summary 17 = .ok (.aload_n 0, 1) := by decide +kernel
theorem dX12_summary_18 : decode cX12_summary 18 = .ok (.iconst 1, 1) := by decide +kernel
theorem dX12_summary_19 : decode cX12_summary 19 = .ok (.invokevirtual 123, 3) := by decide +kernel
theorem dX12_summary_22 : decode cX12_summary 22 = .ok (.ireturn, 1) := by decide +kernel
theorem dX12_summary_23 : decode cX12_summary 23 = .ok (.aload_n 0, 1) := by decide +kernel
theorem dX12_summary_24 : decode cX12_summary 24 = .ok (.iload_n 1, 1) := by decide +kernel
theorem dX12_summary_25 : decode cX12_summary 25 = .ok (.invokevirtual 422, 3) := by decide +kernel
theorem dX12_summary_28 : decode cX12_summary 28 = .ok (.ifCond .ne 10, 3) := by decide +kernel
theorem dX12_summary_31 : decode cX12_summary 31 = .ok (.aload_n 0, 1) := by decide +kernel
theorem dX12_summary_32 : decode cX12_summary 32 = .ok (.bipush 7, 2) := by decide +kernel
theorem dX12_summary_34 : decode cX12_summary 34 = .ok (.invokevirtual 123, 3) := by decide +kernel
theorem dX12_summary_37 : decode cX12_summary 37 = .ok (.ireturn, 1) := by decide +kernel
theorem dX12_summary_38 : decode cX12_summary 38 = .ok (.aload_n 0, 1) := by decide +kernel
theorem dX12_summary_39 : decode cX12_summary 39 = .ok (.iload_n 2, 1) := by decide +kernel
theorem dX12_summary_40 : decode cX12_summary 40 = .ok (.invokevirtual 425, 3) := by decide +kernel
theorem dX12_summary_43 : decode cX12_summary 43 = .ok (.ifCond .ne 10, 3) := by decide +kernel
theorem dX12_summary_46 : decode cX12_summary 46 = .ok (.aload_n 0, 1) := by decide +kernel
theorem dX12_summary_47 : decode cX12_summary 47 = .ok (.bipush 6, 2) := by decide +kernel
theorem dX12_summary_49 : decode cX12_summary 49 = .ok (.invokevirtual 123, 3) := by decide +kernel
theorem dX12_summary_52 : decode cX12_summary 52 = .ok (.ireturn, 1) := by decide +kernel
theorem dX12_summary_53 : decode cX12_summary 53 = .ok (.aload_n 0, 1) := by decide +kernel
theorem dX12_summary_54 : decode cX12_summary 54 = .ok (.iload_n 3, 1) := by decide +kernel
theorem dX12_summary_55 : decode cX12_summary 55 = .ok (.ifCond .ne 12, 3) := by decide +kernel
theorem dX12_summary_58 : decode cX12_summary 58 = .ok (.aload_n 0, 1) := by decide +kernel
theorem dX12_summary_59 : decode cX12_summary 59 = .ok (.getfield 74, 3) := by decide +kernel
theorem dX12_summary_62 : decode cX12_summary 62 = .ok (.iload_n 2, 1) := by decide +kernel
theorem dX12_summary_63 : decode cX12_summary 63 = .ok (.iaload, 1) := by decide +kernel
theorem dX12_summary_64 : decode cX12_summary 64 = .ok (.goto 38, 3) := by decide +kernel
theorem dX12_summary_67 : decode cX12_summary 67 = .ok (.iload_n 3, 1) := by decide +kernel
theorem dX12_summary_68 : decode cX12_summary 68 = .ok (.iconst 1, 1) := by decide +kernel
theorem dX12_summary_69 : decode cX12_summary 69 = .ok (.if_icmp .ne 12, 3) := by decide +kernel
theorem dX12_summary_72 : decode cX12_summary 72 = .ok (.aload_n 0, 1) := by decide +kernel
theorem dX12_summary_73 : decode cX12_summary 73 = .ok (.getfield 77, 3) := by decide +kernel
theorem dX12_summary_76 : decode cX12_summary 76 = .ok (.iload_n 2, 1) := by decide +kernel
theorem dX12_summary_77 : decode cX12_summary 77 = .ok (.iaload, 1) := by decide +kernel
theorem dX12_summary_78 : decode cX12_summary 78 = .ok (.goto 24, 3) := by decide +kernel
theorem dX12_summary_81 : decode cX12_summary 81 = .ok (.aload_n 0, 1) := by decide +kernel
theorem dX12_summary_82 : decode cX12_summary 82 = .ok (.getfield 74, 3) := by decide +kernel
theorem dX12_summary_85 : decode cX12_summary 85 = .ok (.iload_n 2, 1) := by decide +kernel
theorem dX12_summary_86 : decode cX12_summary 86 = .ok (.iaload, 1) := by decide +kernel
theorem dX12_summary_87 : decode cX12_summary 87 = .ok (.aload_n 0, 1) := by decide +kernel
theorem dX12_summary_88 : decode cX12_summary 88 = .ok (.iload_n 1, 1) := by decide +kernel
theorem dX12_summary_89 : decode cX12_summary 89 = .ok (.iconst 3, 1) := by decide +kernel
theorem dX12_summary_90 : decode cX12_summary 90 = .ok (.invokevirtual 288, 3) := by decide +kernel
theorem dX12_summary_93 : decode cX12_summary 93 = .ok (.iand, 1) := by decide +kernel
theorem dX12_summary_94 : decode cX12_summary 94 = .ok (.ifCond .eq 7, 3) := by decide +kernel
theorem dX12_summary_97 : decode cX12_summary 97 = .ok (.iconst 1, 1) := by decide +kernel
theorem dX12_summary_98 : decode cX12_summary 98 = .ok (.goto 4, 3) := by decide +kernel
theorem dX12_summary_101 : decode cX12_summary 101 = .ok (.iconst 0, 1) := by decide +kernel
theorem dX12_summary_102 : decode cX12_summary 102 = .ok (.invokevirtual 127, 3) := by decide +kernel
theorem dX12_summary_105 : decode cX12_summary 105 = .ok (.ireturn, 1) := by decide +kernel
abbrev f_e_summary : List (Nat × Int) := [(64, 2), (64, 35), (72, -1), (81, -1), (82, -1)]
set_option maxHeartbeats 4000000 in
set_option maxRecDepth 100000 in
theorem e_summary (G : KG) (l : Launch) (M : Mem) (a1 : Int) (a2 : Int) (a3 : Int) (hI_M : Inv true M) (hpre : -2147483648 ≤ a1 ∧ a1 ≤ 2147483647 ∧ -2147483648 ≤ a2 ∧ a2 ≤ 2147483647 ∧ -2147483648 ≤ a3 ∧ a3 ≤ 2147483647) (hY : YY M) : KC true G l yX12_summary cX12_summary 4 (some .int) (5, 126) [vR G 163, vI a1, vI a2, vI a3] M (fun A => kQi true G A (fun (r : Int) (N : Mem) => Inv true N ∧ Fr f_e_summary M N ∧ (r ≥ -1 ∧ r ≤ 511) ∧ (YY N))) := by
  refine kx_met (lo := [some (vR G 163), some (vI a1), some (vI a2), some (vI a3)]) (by decide) (Nat.le_of_ble_eq_true rfl) rfl ?_
  intro X F hQ
  have hF_M : Fr f_e_summary M M := Fr.rf _ _
  have h_1 := Inv.g hI_M kd_164 rfl 0 (a := 0) (b := 2) (at_c 0 0 (o := 0) (lo := 0) (hi := 2) (by omega) (by decide) (by decide) (by decide)).1 (at_c 0 0 (o := 0) (lo := 0) (hi := 2) (by omega) (by decide) (by decide) (by decide)).2
  have h_2 := Inv.g hI_M kd_164 rfl 1 (a := 0) (b := 2) (at_c 1 0 (o := 1) (lo := 0) (hi := 2) (by omega) (by decide) (by decide) (by decide)).1 (at_c 1 0 (o := 1) (lo := 0) (hi := 2) (by omega) (by decide) (by decide) (by decide)).2
  have h_3 := Inv.g hI_M kd_164 rfl 2 (a := 0) (b := 2) (at_c 2 0 (o := 2) (lo := 0) (hi := 2) (by omega) (by decide) (by decide) (by decide)).1 (at_c 2 0 (o := 2) (lo := 0) (hi := 2) (by omega) (by decide) (by decide) (by decide)).2
  refine kx_aload_n 1 F 0 dX12_summary_0 rfl rfl rfl ?_
  refine kx_iload_n 2 F 1 dX12_summary_1 rfl rfl rfl ?_
  refine kx_Vi 5 (ci := 0) F (As := [vI a1]) (st := []) vd_X12_282 (c_X12_isAutomaton G l M a1 hI_M (by omega)) kd_163 rfl rfl rfl ⟨by decide, by decide⟩ rfl rfl (Nat.le_of_ble_eq_true rfl) dX12_summary_2 rfl ?_
  intro r_4 N_5 q_6
  obtain ⟨rfl, q_6c⟩ := q_6
  rcases q_6c with q_6c | q_6c
  · refine kx_if_eq 8 F 17 dX12_summary_5 (by decide) rfl (by omega) (fun h_7 => (by exfalso; omega)) (fun h_7 => ?_)
    refine kx_iload_n 9 F 3 dX12_summary_8 rfl rfl rfl ?_
    refine kx_if_lt 12 F 17 dX12_summary_9 (by decide) rfl (by omega) (fun h_8 => ?_) (fun h_8 => ?_)
    · refine kx_aload_n 18 F 0 dX12_summary_17 rfl rfl rfl ?_
      refine kx_iconst 19 F dX12_summary_18 rfl ?_
      refine kx_Vi 22 (ci := 0) F (As := [vI 1]) (st := []) vd_X12_123 (c_X12_refuse G l M 1 hI_M (by omega)) kd_163 rfl rfl rfl ⟨by decide, by decide⟩ rfl rfl (Nat.le_of_ble_eq_true rfl) dX12_summary_19 rfl ?_
      intro r_9 N_10 q_11
      obtain ⟨hI_N_10, hG_N_10, q_11c⟩ := q_11
      have hF_N_10 : Fr f_e_summary M N_10 := Fr.c hF_M hG_N_10 rfl
      subst q_11c
      exact kx_iret F hQ ⟨hI_N_10, hF_N_10, (by omega), (YY.fr hY hG_N_10 rfl)⟩ dX12_summary_22
    · refine kx_iload_n 13 F 3 dX12_summary_12 rfl rfl rfl ?_
      refine kx_iconst 14 F dX12_summary_13 rfl ?_
      refine kx_icmp_le 17 F 23 dX12_summary_14 (by decide) rfl (by omega) (by decide) (fun h_12 => ?_) (fun h_12 => ?_)
      · refine kx_aload_n 24 F 0 dX12_summary_23 rfl rfl rfl ?_
        refine kx_iload_n 25 F 1 dX12_summary_24 rfl rfl rfl ?_
        refine kx_Vi 28 (ci := 0) F (As := [vI a1]) (st := []) vd_X12_422 (e_laysTable G l M a1 hI_M (by omega)) kd_163 rfl rfl rfl ⟨by decide, by decide⟩ rfl rfl (Nat.le_of_ble_eq_true rfl) dX12_summary_25 rfl ?_
        intro r_13 N_14 q_15
        obtain ⟨hI_N_14, hG_N_14, q_15c, hc_N_14⟩ := q_15
        have hF_N_14 : Fr f_e_summary M N_14 := Fr.c hF_M hG_N_14 rfl
        have h_16 := Inv.g hI_N_14 kd_163 rfl 35 (a := 0) (b := 41) rfl rfl
        rcases q_15c with q_15c | q_15c
        · refine kx_if_ne 31 F 38 dX12_summary_28 (by decide) rfl (by omega) (fun h_17 => ?_) (fun h_17 => (by exfalso; omega))
          refine kx_aload_n 39 F 0 dX12_summary_38 rfl rfl rfl ?_
          refine kx_iload_n 40 F 2 dX12_summary_39 rfl rfl rfl ?_
          refine kx_Vi 43 (ci := 0) F (As := [vI a2]) (st := []) vd_X12_425 (c_X12_isInTable G l N_14 a2 hI_N_14 (by omega)) kd_163 rfl rfl rfl ⟨by decide, by decide⟩ rfl rfl (Nat.le_of_ble_eq_true rfl) dX12_summary_40 rfl ?_
          intro r_18 N_19 q_20
          obtain ⟨rfl, q_20c⟩ := q_20
          rcases q_20c with q_20c | q_20c
          · refine kx_if_ne 46 F 53 dX12_summary_43 (by decide) rfl (by omega) (fun h_21 => ?_) (fun h_21 => (by exfalso; omega))
            refine kx_aload_n 54 F 0 dX12_summary_53 rfl rfl rfl ?_
            refine kx_iload_n 55 F 3 dX12_summary_54 rfl rfl rfl ?_
            refine kx_if_ne 58 F 67 dX12_summary_55 (by decide) rfl (by omega) (fun h_22 => ?_) (fun h_22 => ?_)
            · refine kx_iload_n 68 F 3 dX12_summary_67 rfl rfl rfl ?_
              refine kx_iconst 69 F dX12_summary_68 rfl ?_
              refine kx_icmp_ne 72 F 81 dX12_summary_69 (by decide) rfl (by omega) (by decide) (fun h_23 => ?_) (fun h_23 => ?_)
              · refine kx_aload_n 82 F 0 dX12_summary_81 rfl rfl rfl ?_
                refine kx_getr 85 F fl_X12_74 kd_163 rfl rfl (j := 33) rfl dX12_summary_82 (v := 181) (uq_181 (Inv.r hI_N_14 kd_163 rfl 33 rfl rfl)) rfl ?_
                refine kx_iload_n 86 F 2 dX12_summary_85 rfl rfl rfl ?_
                refine kx_iald 87 F kd_181 rfl rfl (by omega) (by decide) dX12_summary_86 (v := (N_14 181 a2)) rfl rfl ?_
                have h_24 := Inv.g hI_N_14 kd_181 rfl a2 (a := 0) (b := 7) rfl rfl
                refine kx_aload_n 88 F 0 dX12_summary_87 rfl rfl rfl ?_
                refine kx_iload_n 89 F 1 dX12_summary_88 rfl rfl rfl ?_
                refine kx_iconst 90 F dX12_summary_89 rfl ?_
                refine kx_Vi 93 (ci := 0) F (As := [vI a1, vI 3]) (st := [vI (N_14 181 a2), vR G 163]) vd_X12_288 (c_of3 G l N_14 a1 3 hI_N_14 (by omega)) kd_163 rfl rfl rfl ⟨by decide, by decide⟩ rfl rfl (Nat.le_of_ble_eq_true rfl) dX12_summary_90 rfl ?_
                intro r_25 N_26 q_27
                obtain ⟨rfl, q_27c⟩ := q_27
                refine kx_iand 94 F (v := (zand (N_14 181 a2) r_25)) dX12_summary_93 rfl rfl ?_
                have h_28 := zand_r (a := (N_14 181 a2)) (b := r_25) (by omega)
                refine kx_if_eq 97 F 101 dX12_summary_94 (by decide) rfl (by omega) (fun h_29 => ?_) (fun h_29 => ?_)
                · refine kx_iconst 102 F dX12_summary_101 rfl ?_
                  refine kx_Vi 105 (ci := 0) F (As := [vI 0]) (st := []) vd_X12_127 (c_X12_gives G l N_14 0 hI_N_14 (by omega)) kd_163 rfl rfl rfl ⟨by decide, by decide⟩ rfl rfl (Nat.le_of_ble_eq_true rfl) dX12_summary_102 rfl ?_
                  intro r_30 N_31 q_32
                  obtain ⟨hI_N_31, hG_N_31, q_32c⟩ := q_32
                  have hF_N_31 : Fr f_e_summary M N_31 := Fr.c hF_N_14 hG_N_31 rfl
                  refine kx_topi (e' := 0) (by omega) ?_
                  exact kx_iret F hQ ⟨hI_N_31, hF_N_31, (by omega), (YY.fr (YY.fr hY hG_N_14 rfl) hG_N_31 rfl)⟩ dX12_summary_105
                · refine kx_iconst 98 F dX12_summary_97 rfl ?_
                  refine kx_goto 102 F dX12_summary_98 (by decide) ?_
                  refine kx_Vi 105 (ci := 0) F (As := [vI 1]) (st := []) vd_X12_127 (c_X12_gives G l N_14 1 hI_N_14 (by omega)) kd_163 rfl rfl rfl ⟨by decide, by decide⟩ rfl rfl (Nat.le_of_ble_eq_true rfl) dX12_summary_102 rfl ?_
                  intro r_33 N_34 q_35
                  obtain ⟨hI_N_34, hG_N_34, q_35c⟩ := q_35
                  have hF_N_34 : Fr f_e_summary M N_34 := Fr.c hF_N_14 hG_N_34 rfl
                  refine kx_topi (e' := 1) (by omega) ?_
                  exact kx_iret F hQ ⟨hI_N_34, hF_N_34, (by omega), (YY.fr (YY.fr hY hG_N_14 rfl) hG_N_34 rfl)⟩ dX12_summary_105
              · refine kx_aload_n 73 F 0 dX12_summary_72 rfl rfl rfl ?_
                refine kx_getr 76 F fl_X12_77 kd_163 rfl rfl (j := 34) rfl dX12_summary_73 (v := 182) (uq_182 (Inv.r hI_N_14 kd_163 rfl 34 rfl rfl)) rfl ?_
                refine kx_iload_n 77 F 2 dX12_summary_76 rfl rfl rfl ?_
                refine kx_iald 78 F kd_182 rfl rfl (by omega) (by decide) dX12_summary_77 (v := (N_14 182 a2)) rfl rfl ?_
                have h_36 := Inv.g hI_N_14 kd_182 rfl a2 (a := 0) (b := 511) rfl rfl
                refine kx_goto 102 F dX12_summary_78 (by decide) ?_
                refine kx_Vi 105 (ci := 0) F (As := [vI (N_14 182 a2)]) (st := []) vd_X12_127 (c_X12_gives G l N_14 (N_14 182 a2) hI_N_14 (by omega)) kd_163 rfl rfl rfl ⟨by decide, by decide⟩ rfl rfl (Nat.le_of_ble_eq_true rfl) dX12_summary_102 rfl ?_
                intro r_37 N_38 q_39
                obtain ⟨hI_N_38, hG_N_38, q_39c⟩ := q_39
                have hF_N_38 : Fr f_e_summary M N_38 := Fr.c hF_N_14 hG_N_38 rfl
                refine kx_topi (e' := (N_14 182 a2)) (by omega) ?_
                exact kx_iret F hQ ⟨hI_N_38, hF_N_38, (by omega), (YY.fr (YY.fr hY hG_N_14 rfl) hG_N_38 rfl)⟩ dX12_summary_105
            · refine kx_aload_n 59 F 0 dX12_summary_58 rfl rfl rfl ?_
              refine kx_getr 62 F fl_X12_74 kd_163 rfl rfl (j := 33) rfl dX12_summary_59 (v := 181) (uq_181 (Inv.r hI_N_14 kd_163 rfl 33 rfl rfl)) rfl ?_
              refine kx_iload_n 63 F 2 dX12_summary_62 rfl rfl rfl ?_
              refine kx_iald 64 F kd_181 rfl rfl (by omega) (by decide) dX12_summary_63 (v := (N_14 181 a2)) rfl rfl ?_
              have h_40 := Inv.g hI_N_14 kd_181 rfl a2 (a := 0) (b := 7) rfl rfl
              refine kx_goto 102 F dX12_summary_64 (by decide) ?_
              refine kx_Vi 105 (ci := 0) F (As := [vI (N_14 181 a2)]) (st := []) vd_X12_127 (c_X12_gives G l N_14 (N_14 181 a2) hI_N_14 (by omega)) kd_163 rfl rfl rfl ⟨by decide, by decide⟩ rfl rfl (Nat.le_of_ble_eq_true rfl) dX12_summary_102 rfl ?_
              intro r_41 N_42 q_43
              obtain ⟨hI_N_42, hG_N_42, q_43c⟩ := q_43
              have hF_N_42 : Fr f_e_summary M N_42 := Fr.c hF_N_14 hG_N_42 rfl
              refine kx_topi (e' := (N_14 181 a2)) (by omega) ?_
              exact kx_iret F hQ ⟨hI_N_42, hF_N_42, (by omega), (YY.fr (YY.fr hY hG_N_14 rfl) hG_N_42 rfl)⟩ dX12_summary_105
          · refine kx_if_ne 46 F 53 dX12_summary_43 (by decide) rfl (by omega) (fun h_44 => (by exfalso; omega)) (fun h_44 => ?_)
            refine kx_aload_n 47 F 0 dX12_summary_46 rfl rfl rfl ?_
            refine kx_bipush 49 F dX12_summary_47 (by decide) rfl ?_
            refine kx_Vi 52 (ci := 0) F (As := [vI 6]) (st := []) vd_X12_123 (c_X12_refuse G l N_14 6 hI_N_14 (by omega)) kd_163 rfl rfl rfl ⟨by decide, by decide⟩ rfl rfl (Nat.le_of_ble_eq_true rfl) dX12_summary_49 rfl ?_
            intro r_45 N_46 q_47
            obtain ⟨hI_N_46, hG_N_46, q_47c⟩ := q_47
            have hF_N_46 : Fr f_e_summary M N_46 := Fr.c hF_N_14 hG_N_46 rfl
            subst q_47c
            exact kx_iret F hQ ⟨hI_N_46, hF_N_46, (by omega), (YY.fr (YY.fr hY hG_N_14 rfl) hG_N_46 rfl)⟩ dX12_summary_52
        · refine kx_if_ne 31 F 38 dX12_summary_28 (by decide) rfl (by omega) (fun h_48 => (by exfalso; omega)) (fun h_48 => ?_)
          refine kx_aload_n 32 F 0 dX12_summary_31 rfl rfl rfl ?_
          refine kx_bipush 34 F dX12_summary_32 (by decide) rfl ?_
          refine kx_Vi 37 (ci := 0) F (As := [vI 7]) (st := []) vd_X12_123 (c_X12_refuse G l N_14 7 hI_N_14 (by omega)) kd_163 rfl rfl rfl ⟨by decide, by decide⟩ rfl rfl (Nat.le_of_ble_eq_true rfl) dX12_summary_34 rfl ?_
          intro r_49 N_50 q_51
          obtain ⟨hI_N_50, hG_N_50, q_51c⟩ := q_51
          have hF_N_50 : Fr f_e_summary M N_50 := Fr.c hF_N_14 hG_N_50 rfl
          subst q_51c
          exact kx_iret F hQ ⟨hI_N_50, hF_N_50, (by omega), (YY.fr (YY.fr hY hG_N_14 rfl) hG_N_50 rfl)⟩ dX12_summary_37
      · refine kx_aload_n 18 F 0 dX12_summary_17 rfl rfl rfl ?_
        refine kx_iconst 19 F dX12_summary_18 rfl ?_
        refine kx_Vi 22 (ci := 0) F (As := [vI 1]) (st := []) vd_X12_123 (c_X12_refuse G l M 1 hI_M (by omega)) kd_163 rfl rfl rfl ⟨by decide, by decide⟩ rfl rfl (Nat.le_of_ble_eq_true rfl) dX12_summary_19 rfl ?_
        intro r_52 N_53 q_54
        obtain ⟨hI_N_53, hG_N_53, q_54c⟩ := q_54
        have hF_N_53 : Fr f_e_summary M N_53 := Fr.c hF_M hG_N_53 rfl
        subst q_54c
        exact kx_iret F hQ ⟨hI_N_53, hF_N_53, (by omega), (YY.fr hY hG_N_53 rfl)⟩ dX12_summary_22
  · refine kx_if_eq 8 F 17 dX12_summary_5 (by decide) rfl (by omega) (fun h_55 => ?_) (fun h_55 => (by exfalso; omega))
    refine kx_aload_n 18 F 0 dX12_summary_17 rfl rfl rfl ?_
    refine kx_iconst 19 F dX12_summary_18 rfl ?_
    refine kx_Vi 22 (ci := 0) F (As := [vI 1]) (st := []) vd_X12_123 (c_X12_refuse G l M 1 hI_M (by omega)) kd_163 rfl rfl rfl ⟨by decide, by decide⟩ rfl rfl (Nat.le_of_ble_eq_true rfl) dX12_summary_19 rfl ?_
    intro r_56 N_57 q_58
    obtain ⟨hI_N_57, hG_N_57, q_58c⟩ := q_58
    have hF_N_57 : Fr f_e_summary M N_57 := Fr.c hF_M hG_N_57 rfl
    subst q_58c
    exact kx_iret F hQ ⟨hI_N_57, hF_N_57, (by omega), (YY.fr hY hG_N_57 rfl)⟩ dX12_summary_22
theorem dX12_next_0 : decode cX12_next 0 = .ok (.aload_n 0, 1) := by decide +kernel
theorem dX12_next_1 : decode cX12_next 1 = .ok (.iload_n 1, 1) := by decide +kernel
theorem dX12_next_2 : decode cX12_next 2 = .ok (.invokevirtual 282, 3) := by decide +kernel
theorem dX12_next_5 : decode cX12_next 5 = .ok (.ifCond .eq 11, 3) := by decide +kernel
theorem dX12_next_8 : decode cX12_next 8 = .ok (.aload_n 0, 1) := by decide +kernel
theorem dX12_next_9 : decode cX12_next 9 = .ok (.iload_n 3, 1) := by decide +kernel
theorem dX12_next_10 : decode cX12_next 10 = .ok (.invokevirtual 300, 3) := by decide +kernel
theorem dX12_next_13 : decode cX12_next 13 = .ok (.ifCond .ne 9, 3) := by decide +kernel
theorem dX12_next_16 : decode cX12_next 16 = .ok (.aload_n 0, 1) := by decide +kernel
theorem dX12_next_17 : decode cX12_next 17 = .ok (.iconst 1, 1) := by decide +kernel
theorem dX12_next_18 : decode cX12_next 18 = .ok (.invokevirtual 123, 3) := by decide +kernel
theorem dX12_next_21 : decode cX12_next 21 = .ok (.ireturn, 1) := by decide +kernel
theorem dX12_next_22 : decode cX12_next 22 = .ok (.aload_n 0, 1) := by decide +kernel
theorem dX12_next_23 : decode cX12_next 23 = .ok (.iload_n 1, 1) := by decide +kernel
theorem dX12_next_24 : decode cX12_next 24 = .ok (.invokevirtual 422, 3) := by decide +kernel
theorem dX12_next_27 : decode cX12_next 27 = .ok (.ifCond .ne 10, 3) := by decide +kernel
theorem dX12_next_30 : decode cX12_next 30 = .ok (.aload_n 0, 1) := by decide +kernel
theorem dX12_next_31 : decode cX12_next 31 = .ok (.bipush 7, 2) := by decide +kernel
theorem dX12_next_33 : decode cX12_next 33 = .ok (.invokevirtual 123, 3) := by decide +kernel
theorem dX12_next_36 : decode cX12_next 36 = .ok (.ireturn, 1) := by decide +kernel
theorem dX12_next_37 : decode cX12_next 37 = .ok (.aload_n 0, 1) := by decide +kernel
theorem dX12_next_38 : decode cX12_next 38 = .ok (.iload_n 2, 1) := by decide +kernel
theorem dX12_next_39 : decode cX12_next 39 = .ok (.invokevirtual 425, 3) := by decide +kernel
theorem dX12_next_42 : decode cX12_next 42 = .ok (.ifCond .ne 10, 3) := by decide +kernel
theorem dX12_next_45 : decode cX12_next 45 = .ok (.aload_n 0, 1) := by decide +kernel
theorem dX12_next_46 : decode cX12_next 46 = .ok (.bipush 6, 2) := by decide +kernel
theorem dX12_next_48 : decode cX12_next 48 = .ok (.invokevirtual 123, 3) := by decide +kernel
theorem dX12_next_51 : decode cX12_next 51 = .ok (.ireturn, 1) := by decide +kernel
theorem dX12_next_52 : decode cX12_next 52 = .ok (.aload_n 0, 1) := by decide +kernel
theorem dX12_next_53 : decode cX12_next 53 = .ok (.aload_n 0, 1) := by decide +kernel
theorem dX12_next_54 : decode cX12_next 54 = .ok (.aload_n 0, 1) := by decide +kernel
theorem dX12_next_55 : decode cX12_next 55 = .ok (.iload_n 1, 1) := by decide +kernel
theorem dX12_next_56 : decode cX12_next 56 = .ok (.iload_n 2, 1) := by decide +kernel
theorem dX12_next_57 : decode cX12_next 57 = .ok (.iload_n 3, 1) := by decide +kernel
theorem dX12_next_58 : decode cX12_next 58 = .ok (.invokevirtual 412, 3) := by decide +kernel
theorem dX12_next_61 : decode cX12_next 61 = .ok (.aload_n 0, 1) := by decide +kernel
theorem dX12_next_62 : decode cX12_next 62 = .ok (.iload_n 1, 1) := by decide +kernel
theorem dX12_next_63 : decode cX12_next 63 = .ok (.iload_n 2, 1) := by decide +kernel
theorem dX12_next_64 : decode cX12_next 64 = .ok (.iload_n 3, 1) := by decide +kernel
theorem dX12_next_65 : decode cX12_next 65 = .ok (.invokevirtual 415, 3) := by decide +kernel
theorem dX12_next_68 : decode cX12_next 68 = .ok (.invokevirtual 406, 3) := by decide +kernel
theorem dX12_next_71 : decode cX12_next 71 = .ok (.invokevirtual 127, 3) := by decide +kernel
theorem dX12_next_74 : decode cX12_next 74 = .ok (.ireturn, 1) := by decide +kernel
abbrev f_e_next : List (Nat × Int) := [(64, 2), (64, 35), (72, -1), (81, -1), (82, -1)]
set_option maxHeartbeats 4000000 in
set_option maxRecDepth 100000 in
theorem e_next (G : KG) (l : Launch) (M : Mem) (a1 : Int) (a2 : Int) (a3 : Int) (hI_M : Inv true M) (hpre : -2147483648 ≤ a1 ∧ a1 ≤ 2147483647 ∧ -2147483648 ≤ a2 ∧ a2 ≤ 2147483647 ∧ -2147483648 ≤ a3 ∧ a3 ≤ 2147483647) (hY : YY M) : KC true G l yX12_next cX12_next 4 (some .int) (5, 126) [vR G 163, vI a1, vI a2, vI a3] M (fun A => kQi true G A (fun (r : Int) (N : Mem) => Inv true N ∧ Fr f_e_next M N ∧ (r ≥ -1 ∧ r ≤ 39) ∧ (YY N))) := by
  refine kx_met (lo := [some (vR G 163), some (vI a1), some (vI a2), some (vI a3)]) (by decide) (Nat.le_of_ble_eq_true rfl) rfl ?_
  intro X F hQ
  have hF_M : Fr f_e_next M M := Fr.rf _ _
  have h_1 := Inv.g hI_M kd_164 rfl 0 (a := 0) (b := 2) (at_c 0 0 (o := 0) (lo := 0) (hi := 2) (by omega) (by decide) (by decide) (by decide)).1 (at_c 0 0 (o := 0) (lo := 0) (hi := 2) (by omega) (by decide) (by decide) (by decide)).2
  have h_2 := Inv.g hI_M kd_164 rfl 1 (a := 0) (b := 2) (at_c 1 0 (o := 1) (lo := 0) (hi := 2) (by omega) (by decide) (by decide) (by decide)).1 (at_c 1 0 (o := 1) (lo := 0) (hi := 2) (by omega) (by decide) (by decide) (by decide)).2
  have h_3 := Inv.g hI_M kd_164 rfl 2 (a := 0) (b := 2) (at_c 2 0 (o := 2) (lo := 0) (hi := 2) (by omega) (by decide) (by decide) (by decide)).1 (at_c 2 0 (o := 2) (lo := 0) (hi := 2) (by omega) (by decide) (by decide) (by decide)).2
  refine kx_aload_n 1 F 0 dX12_next_0 rfl rfl rfl ?_
  refine kx_iload_n 2 F 1 dX12_next_1 rfl rfl rfl ?_
  refine kx_Vi 5 (ci := 0) F (As := [vI a1]) (st := []) vd_X12_282 (c_X12_isAutomaton G l M a1 hI_M (by omega)) kd_163 rfl rfl rfl ⟨by decide, by decide⟩ rfl rfl (Nat.le_of_ble_eq_true rfl) dX12_next_2 rfl ?_
  intro r_4 N_5 q_6
  obtain ⟨rfl, q_6c⟩ := q_6
  rcases q_6c with q_6c | q_6c
  · refine kx_if_eq 8 F 16 dX12_next_5 (by decide) rfl (by omega) (fun h_7 => (by exfalso; omega)) (fun h_7 => ?_)
    refine kx_aload_n 9 F 0 dX12_next_8 rfl rfl rfl ?_
    refine kx_iload_n 10 F 3 dX12_next_9 rfl rfl rfl ?_
    refine kx_Vi 13 (ci := 0) F (As := [vI a3]) (st := []) vd_X12_300 (c_isLetterE G l M a3 hI_M (by omega)) kd_163 rfl rfl rfl ⟨by decide, by decide⟩ rfl rfl (Nat.le_of_ble_eq_true rfl) dX12_next_10 rfl ?_
    intro r_8 N_9 q_10
    obtain ⟨rfl, q_10c⟩ := q_10
    rcases q_10c with q_10c | q_10c
    · refine kx_if_ne 16 F 22 dX12_next_13 (by decide) rfl (by omega) (fun h_11 => ?_) (fun h_11 => (by exfalso; omega))
      refine kx_aload_n 23 F 0 dX12_next_22 rfl rfl rfl ?_
      refine kx_iload_n 24 F 1 dX12_next_23 rfl rfl rfl ?_
      refine kx_Vi 27 (ci := 0) F (As := [vI a1]) (st := []) vd_X12_422 (e_laysTable G l M a1 hI_M (by omega)) kd_163 rfl rfl rfl ⟨by decide, by decide⟩ rfl rfl (Nat.le_of_ble_eq_true rfl) dX12_next_24 rfl ?_
      intro r_12 N_13 q_14
      obtain ⟨hI_N_13, hG_N_13, q_14c, hc_N_13⟩ := q_14
      have hF_N_13 : Fr f_e_next M N_13 := Fr.c hF_M hG_N_13 rfl
      have h_15 := Inv.g hI_N_13 kd_163 rfl 35 (a := 0) (b := 41) rfl rfl
      rcases q_14c with q_14c | q_14c
      · refine kx_if_ne 30 F 37 dX12_next_27 (by decide) rfl (by omega) (fun h_16 => ?_) (fun h_16 => (by exfalso; omega))
        refine kx_aload_n 38 F 0 dX12_next_37 rfl rfl rfl ?_
        refine kx_iload_n 39 F 2 dX12_next_38 rfl rfl rfl ?_
        refine kx_Vi 42 (ci := 0) F (As := [vI a2]) (st := []) vd_X12_425 (c_X12_isInTable G l N_13 a2 hI_N_13 (by omega)) kd_163 rfl rfl rfl ⟨by decide, by decide⟩ rfl rfl (Nat.le_of_ble_eq_true rfl) dX12_next_39 rfl ?_
        intro r_17 N_18 q_19
        obtain ⟨rfl, q_19c⟩ := q_19
        rcases q_19c with q_19c | q_19c
        · refine kx_if_ne 45 F 52 dX12_next_42 (by decide) rfl (by omega) (fun h_20 => ?_) (fun h_20 => (by exfalso; omega))
          refine kx_aload_n 53 F 0 dX12_next_52 rfl rfl rfl ?_
          refine kx_aload_n 54 F 0 dX12_next_53 rfl rfl rfl ?_
          refine kx_aload_n 55 F 0 dX12_next_54 rfl rfl rfl ?_
          refine kx_iload_n 56 F 1 dX12_next_55 rfl rfl rfl ?_
          refine kx_iload_n 57 F 2 dX12_next_56 rfl rfl rfl ?_
          refine kx_iload_n 58 F 3 dX12_next_57 rfl rfl rfl ?_
          refine kx_Vi 61 (ci := 0) F (As := [vI a1, vI a2, vI a3]) (st := [vR G 163, vR G 163]) vd_X12_412 (c_X12_nextR G l N_13 a1 a2 a3 hI_N_13 (by omega)) kd_163 rfl rfl rfl ⟨by decide, by decide⟩ rfl rfl (Nat.le_of_ble_eq_true rfl) dX12_next_58 rfl ?_
          intro r_21 N_22 q_23
          obtain ⟨rfl, q_23c⟩ := q_23
          refine kx_aload_n 62 F 0 dX12_next_61 rfl rfl rfl ?_
          refine kx_iload_n 63 F 1 dX12_next_62 rfl rfl rfl ?_
          refine kx_iload_n 64 F 2 dX12_next_63 rfl rfl rfl ?_
          refine kx_iload_n 65 F 3 dX12_next_64 rfl rfl rfl ?_
          refine kx_Vi 68 (ci := 0) F (As := [vI a1, vI a2, vI a3]) (st := [vI r_21, vR G 163, vR G 163]) vd_X12_415 (e_nextS G l N_13 a1 a2 a3 hI_N_13 (by omega)) kd_163 rfl rfl rfl ⟨by decide, by decide⟩ rfl rfl (Nat.le_of_ble_eq_true rfl) dX12_next_65 rfl ?_
          intro r_24 N_25 q_26
          obtain ⟨rfl, q_26c, hz_N_25⟩ := q_26
          refine kx_Vi 71 (ci := 0) F (As := [vI r_21, vI r_24]) (st := [vR G 163]) vd_X12_406 (e_foundIn G l N_13 r_21 r_24 hI_N_13 (by omega)) kd_163 rfl rfl rfl ⟨by decide, by decide⟩ rfl rfl (Nat.le_of_ble_eq_true rfl) dX12_next_68 rfl ?_
          intro r_27 N_28 q_29
          obtain ⟨rfl, q_29c⟩ := q_29
          rcases q_29c with q_29c | q_29c
          · refine kx_Vi 74 (ci := 0) F (As := [vI r_27]) (st := []) vd_X12_127 (c_X12_gives G l N_13 r_27 hI_N_13 (by omega)) kd_163 rfl rfl rfl ⟨by decide, by decide⟩ rfl rfl (Nat.le_of_ble_eq_true rfl) dX12_next_71 rfl ?_
            intro r_30 N_31 q_32
            obtain ⟨hI_N_31, hG_N_31, q_32c⟩ := q_32
            have hF_N_31 : Fr f_e_next M N_31 := Fr.c hF_N_13 hG_N_31 rfl
            refine kx_topi (e' := r_27) (by omega) ?_
            exact kx_iret F hQ ⟨hI_N_31, hF_N_31, (by omega), (YY.fr (YY.fr hY hG_N_13 rfl) hG_N_31 rfl)⟩ dX12_next_74
          · refine kx_Vi 74 (ci := 0) F (As := [vI r_27]) (st := []) vd_X12_127 (c_X12_gives G l N_13 r_27 hI_N_13 (by omega)) kd_163 rfl rfl rfl ⟨by decide, by decide⟩ rfl rfl (Nat.le_of_ble_eq_true rfl) dX12_next_71 rfl ?_
            intro r_33 N_34 q_35
            obtain ⟨hI_N_34, hG_N_34, q_35c⟩ := q_35
            have hF_N_34 : Fr f_e_next M N_34 := Fr.c hF_N_13 hG_N_34 rfl
            refine kx_topi (e' := r_27) (by omega) ?_
            exact kx_iret F hQ ⟨hI_N_34, hF_N_34, (by omega), (YY.fr (YY.fr hY hG_N_13 rfl) hG_N_34 rfl)⟩ dX12_next_74
        · refine kx_if_ne 45 F 52 dX12_next_42 (by decide) rfl (by omega) (fun h_36 => (by exfalso; omega)) (fun h_36 => ?_)
          refine kx_aload_n 46 F 0 dX12_next_45 rfl rfl rfl ?_
          refine kx_bipush 48 F dX12_next_46 (by decide) rfl ?_
          refine kx_Vi 51 (ci := 0) F (As := [vI 6]) (st := []) vd_X12_123 (c_X12_refuse G l N_13 6 hI_N_13 (by omega)) kd_163 rfl rfl rfl ⟨by decide, by decide⟩ rfl rfl (Nat.le_of_ble_eq_true rfl) dX12_next_48 rfl ?_
          intro r_37 N_38 q_39
          obtain ⟨hI_N_38, hG_N_38, q_39c⟩ := q_39
          have hF_N_38 : Fr f_e_next M N_38 := Fr.c hF_N_13 hG_N_38 rfl
          subst q_39c
          exact kx_iret F hQ ⟨hI_N_38, hF_N_38, (by omega), (YY.fr (YY.fr hY hG_N_13 rfl) hG_N_38 rfl)⟩ dX12_next_51
      · refine kx_if_ne 30 F 37 dX12_next_27 (by decide) rfl (by omega) (fun h_40 => (by exfalso; omega)) (fun h_40 => ?_)
        refine kx_aload_n 31 F 0 dX12_next_30 rfl rfl rfl ?_
        refine kx_bipush 33 F dX12_next_31 (by decide) rfl ?_
        refine kx_Vi 36 (ci := 0) F (As := [vI 7]) (st := []) vd_X12_123 (c_X12_refuse G l N_13 7 hI_N_13 (by omega)) kd_163 rfl rfl rfl ⟨by decide, by decide⟩ rfl rfl (Nat.le_of_ble_eq_true rfl) dX12_next_33 rfl ?_
        intro r_41 N_42 q_43
        obtain ⟨hI_N_42, hG_N_42, q_43c⟩ := q_43
        have hF_N_42 : Fr f_e_next M N_42 := Fr.c hF_N_13 hG_N_42 rfl
        subst q_43c
        exact kx_iret F hQ ⟨hI_N_42, hF_N_42, (by omega), (YY.fr (YY.fr hY hG_N_13 rfl) hG_N_42 rfl)⟩ dX12_next_36
    · refine kx_if_ne 16 F 22 dX12_next_13 (by decide) rfl (by omega) (fun h_44 => (by exfalso; omega)) (fun h_44 => ?_)
      refine kx_aload_n 17 F 0 dX12_next_16 rfl rfl rfl ?_
      refine kx_iconst 18 F dX12_next_17 rfl ?_
      refine kx_Vi 21 (ci := 0) F (As := [vI 1]) (st := []) vd_X12_123 (c_X12_refuse G l M 1 hI_M (by omega)) kd_163 rfl rfl rfl ⟨by decide, by decide⟩ rfl rfl (Nat.le_of_ble_eq_true rfl) dX12_next_18 rfl ?_
      intro r_45 N_46 q_47
      obtain ⟨hI_N_46, hG_N_46, q_47c⟩ := q_47
      have hF_N_46 : Fr f_e_next M N_46 := Fr.c hF_M hG_N_46 rfl
      subst q_47c
      exact kx_iret F hQ ⟨hI_N_46, hF_N_46, (by omega), (YY.fr hY hG_N_46 rfl)⟩ dX12_next_21
  · refine kx_if_eq 8 F 16 dX12_next_5 (by decide) rfl (by omega) (fun h_48 => ?_) (fun h_48 => (by exfalso; omega))
    refine kx_aload_n 17 F 0 dX12_next_16 rfl rfl rfl ?_
    refine kx_iconst 18 F dX12_next_17 rfl ?_
    refine kx_Vi 21 (ci := 0) F (As := [vI 1]) (st := []) vd_X12_123 (c_X12_refuse G l M 1 hI_M (by omega)) kd_163 rfl rfl rfl ⟨by decide, by decide⟩ rfl rfl (Nat.le_of_ble_eq_true rfl) dX12_next_18 rfl ?_
    intro r_49 N_50 q_51
    obtain ⟨hI_N_50, hG_N_50, q_51c⟩ := q_51
    have hF_N_50 : Fr f_e_next M N_50 := Fr.c hF_M hG_N_50 rfl
    subst q_51c
    exact kx_iret F hQ ⟨hI_N_50, hF_N_50, (by omega), (YY.fr hY hG_N_50 rfl)⟩ dX12_next_21
theorem dX12_nextBack_0 : decode cX12_nextBack 0 = .ok (.aload_n 0, 1) := by decide +kernel
theorem dX12_nextBack_1 : decode cX12_nextBack 1 = .ok (.iload_n 1, 1) := by decide +kernel
theorem dX12_nextBack_2 : decode cX12_nextBack 2 = .ok (.invokevirtual 282, 3) := by decide +kernel
theorem dX12_nextBack_5 : decode cX12_nextBack 5 = .ok (.ifCond .eq 38, 3) := by decide +kernel
theorem dX12_nextBack_8 : decode cX12_nextBack 8 = .ok (.aload_n 0, 1) := by decide +kernel
theorem dX12_nextBack_9 : decode cX12_nextBack 9 = .ok (.iload_n 3, 1) := by decide +kernel
theorem dX12_nextBack_10 : decode cX12_nextBack 10 = .ok (.invokevirtual 300, 3) := by decide +kernel
theorem dX12_nextBack_13 : decode cX12_nextBack 13 = .ok (.ifCond .eq 30, 3) := by decide +kernel
theorem dX12_nextBack_16 : decode cX12_nextBack 16 = .ok (.aload_n 0, 1) := by decide +kernel
theorem dX12_nextBack_17 : decode cX12_nextBack 17 = .ok (.iload 5, 2) := by decide +kernel
theorem dX12_nextBack_19 : decode cX12_nextBack 19 = .ok (.invokevirtual 300, 3) := by decide +kernel
theorem dX12_nextBack_22 : decode cX12_nextBack 22 = .ok (.ifCond .eq 21, 3) := by decide +kernel
theorem dX12_nextBack_25 : decode cX12_nextBack 25 = .ok (.aload_n 0, 1) := by decide +kernel
theorem dX12_nextBack_26 : decode cX12_nextBack 26 = .ok (.iload_n 3, 1) := by decide +kernel
theorem dX12_nextBack_27 : decode cX12_nextBack 27 = .ok (.invokevirtual 297, 3) := by decide +kernel
theorem dX12_nextBack_30 : decode cX12_nextBack 30 = .ok (.iconst 1, 1) := by decide +kernel
theorem dX12_nextBack_31 : decode cX12_nextBack 31 = .ok (.if_icmp .ne 12, 3) := by decide +kernel
theorem dX12_nextBack_34 : decode cX12_nextBack 34 = .ok (.aload_n 0, 1) := by decide +kernel
theorem dX12_nextBack_35 : decode cX12_nextBack 35 = .ok (.iload 5, 2) := by decide +kernel
theorem dX12_nextBack_37 : decode cX12_nextBack 37 = .ok (.invokevirtual 297, 3) := by decide +kernel
theorem dX12_nextBack_40 : decode cX12_nextBack 40 = .ok (.ifCond .eq 9, 3) := by decide +kernel
theorem dX12_nextBack_43 : decode cX12_nextBack 43 = .ok (.aload_n 0, 1) := by decide +kernel
theorem dX12_nextBack_44 : decode cX12_nextBack 44 = .ok (.iconst 1, 1) := by decide +kernel
theorem dX12_nextBack_45 : decode cX12_nextBack 45 = .ok (.invokevirtual 123, 3) := by decide +kernel
theorem dX12_nextBack_48 : decode cX12_nextBack 48 = .ok (.ireturn, 1) := by decide +kernel
theorem dX12_nextBack_49 : decode cX12_nextBack 49 = .ok (.aload_n 0, 1) := by decide +kernel
theorem dX12_nextBack_50 : decode cX12_nextBack 50 = .ok (.iload_n 1, 1) := by decide +kernel
theorem dX12_nextBack_51 : decode cX12_nextBack 51 = .ok (.invokevirtual 422, 3) := by decide +kernel
theorem dX12_nextBack_54 : decode cX12_nextBack 54 = .ok (.ifCond .ne 10, 3) := by decide +kernel
theorem dX12_nextBack_57 : decode cX12_nextBack 57 = .ok (.aload_n 0, 1) := by decide +kernel
theorem dX12_nextBack_58 : decode cX12_nextBack 58 = .ok (.bipush 7, 2) := by decide +kernel
theorem dX12_nextBack_60 : decode cX12_nextBack 60 = .ok (.invokevirtual 123, 3) := by decide +kernel
theorem dX12_nextBack_63 : decode cX12_nextBack 63 = .ok (.ireturn, 1) := by decide +kernel
theorem dX12_nextBack_64 : decode cX12_nextBack 64 = .ok (.aload_n 0, 1) := by decide +kernel
theorem dX12_nextBack_65 : decode cX12_nextBack 65 = .ok (.iload_n 2, 1) := by decide +kernel
theorem dX12_nextBack_66 : decode cX12_nextBack 66 = .ok (.invokevirtual 425, 3) := by decide +kernel
theorem dX12_nextBack_69 : decode cX12_nextBack 69 = .ok (.ifCond .eq 12, 3) := by decide +kernel
theorem dX12_nextBack_72 : decode cX12_nextBack 72 = .ok (.aload_n 0, 1) := by decide +kernel
theorem dX12_nextBack_73 : decode cX12_nextBack 73 = .ok (.iload 4, 2) := by decide +kernel
theorem dX12_nextBack_75 : decode cX12_nextBack 75 = .ok (.invokevirtual 425, 3) := by decide +kernel
theorem dX12_nextBack_78 : decode cX12_nextBack 78 = .ok (.ifCond .ne 10, 3) := by decide +kernel
theorem dX12_nextBack_81 : decode cX12_nextBack 81 = .ok (.aload_n 0, 1) := by decide +kernel
theorem dX12_nextBack_82 : decode cX12_nextBack 82 = .ok (.bipush 6, 2) := by decide +kernel
theorem dX12_nextBack_84 : decode cX12_nextBack 84 = .ok (.invokevirtual 123, 3) := by decide +kernel
theorem dX12_nextBack_87 : decode cX12_nextBack 87 = .ok (.ireturn, 1) := by decide +kernel
theorem dX12_nextBack_88 : decode cX12_nextBack 88 = .ok (.aload_n 0, 1) := by decide +kernel
theorem dX12_nextBack_89 : decode cX12_nextBack 89 = .ok (.iload_n 1, 1) := by decide +kernel
theorem dX12_nextBack_90 : decode cX12_nextBack 90 = .ok (.aload_n 0, 1) := by decide +kernel
theorem dX12_nextBack_91 : decode cX12_nextBack 91 = .ok (.getfield 77, 3) := by decide +kernel
theorem dX12_nextBack_94 : decode cX12_nextBack 94 = .ok (.iload_n 2, 1) := by decide +kernel
theorem dX12_nextBack_95 : decode cX12_nextBack 95 = .ok (.iaload, 1) := by decide +kernel
theorem dX12_nextBack_96 : decode cX12_nextBack 96 = .ok (.iload 5, 2) := by decide +kernel
theorem dX12_nextBack_98 : decode cX12_nextBack 98 = .ok (.iload_n 3, 1) := by decide +kernel
theorem dX12_nextBack_99 : decode cX12_nextBack 99 = .ok (.invokevirtual 335, 3) := by decide +kernel
theorem dX12_nextBack_102 : decode cX12_nextBack 102 = .ok (.istore 6, 2) := by decide +kernel
theorem dX12_nextBack_104 : decode cX12_nextBack 104 = .ok (.aload_n 0, 1) := by decide +kernel
theorem dX12_nextBack_105 : decode cX12_nextBack 105 = .ok (.aload_n 0, 1) := by decide +kernel
theorem dX12_nextBack_106 : decode cX12_nextBack 106 = .ok (.aload_n 0, 1) := by decide +kernel
theorem dX12_nextBack_107 : decode cX12_nextBack 107 = .ok (.getfield 74, 3) := by decide +kernel
theorem dX12_nextBack_110 : decode cX12_nextBack 110 = .ok (.iload 4, 2) := by decide +kernel
theorem dX12_nextBack_112 : decode cX12_nextBack 112 = .ok (.iaload, 1) := by decide +kernel
theorem dX12_nextBack_113 : decode cX12_nextBack 113 = .ok (.iload 6, 2) := by decide +kernel
theorem dX12_nextBack_115 : decode cX12_nextBack 115 = .ok (.invokestatic 332, 3) := by decide +kernel
theorem dX12_nextBack_118 : decode cX12_nextBack 118 = .ok (.aload_n 0, 1) := by decide +kernel
theorem dX12_nextBack_119 : decode cX12_nextBack 119 = .ok (.getfield 77, 3) := by decide +kernel
theorem dX12_nextBack_122 : decode cX12_nextBack 122 = .ok (.iload 4, 2) := by decide +kernel
theorem dX12_nextBack_124 : decode cX12_nextBack 124 = .ok (.iaload, 1) := by decide +kernel
theorem dX12_nextBack_125 : decode cX12_nextBack 125 = .ok (.iload 6, 2) := by decide +kernel
theorem dX12_nextBack_127 : decode cX12_nextBack 127 = .ok (.invokestatic 326, 3) := by decide +kernel
theorem dX12_nextBack_130 : decode cX12_nextBack 130 = .ok (.invokevirtual 406, 3) := by decide +kernel
theorem dX12_nextBack_133 : decode cX12_nextBack 133 = .ok (.invokevirtual 127, 3) := by decide +kernel
theorem dX12_nextBack_136 : decode cX12_nextBack 136 = .ok (.ireturn, 1) := by decide +kernel
abbrev f_e_nextBack : List (Nat × Int) := [(64, 2), (64, 35), (72, -1), (81, -1), (82, -1)]
set_option maxHeartbeats 4000000 in
set_option maxRecDepth 100000 in
theorem e_nextBack (G : KG) (l : Launch) (M : Mem) (a1 : Int) (a2 : Int) (a3 : Int) (a4 : Int) (a5 : Int) (hI_M : Inv true M) (hpre : -2147483648 ≤ a1 ∧ a1 ≤ 2147483647 ∧ -2147483648 ≤ a2 ∧ a2 ≤ 2147483647 ∧ -2147483648 ≤ a3 ∧ a3 ≤ 2147483647 ∧ -2147483648 ≤ a4 ∧ a4 ≤ 2147483647 ∧ -2147483648 ≤ a5 ∧ a5 ≤ 2147483647) (hY : YY M) : KC true G l yX12_nextBack cX12_nextBack 7 (some .int) (5, 126) [vR G 163, vI a1, vI a2, vI a3, vI a4, vI a5] M (fun A => kQi true G A (fun (r : Int) (N : Mem) => Inv true N ∧ Fr f_e_nextBack M N ∧ (r ≥ -1 ∧ r ≤ 39) ∧ (YY N))) := by
  refine kx_met (lo := [some (vR G 163), some (vI a1), some (vI a2), some (vI a3), some (vI a4), some (vI a5), none]) (by decide) (Nat.le_of_ble_eq_true rfl) rfl ?_
  intro X F hQ
  have hF_M : Fr f_e_nextBack M M := Fr.rf _ _
  have h_1 := Inv.g hI_M kd_164 rfl 0 (a := 0) (b := 2) (at_c 0 0 (o := 0) (lo := 0) (hi := 2) (by omega) (by decide) (by decide) (by decide)).1 (at_c 0 0 (o := 0) (lo := 0) (hi := 2) (by omega) (by decide) (by decide) (by decide)).2
  have h_2 := Inv.g hI_M kd_164 rfl 1 (a := 0) (b := 2) (at_c 1 0 (o := 1) (lo := 0) (hi := 2) (by omega) (by decide) (by decide) (by decide)).1 (at_c 1 0 (o := 1) (lo := 0) (hi := 2) (by omega) (by decide) (by decide) (by decide)).2
  have h_3 := Inv.g hI_M kd_164 rfl 2 (a := 0) (b := 2) (at_c 2 0 (o := 2) (lo := 0) (hi := 2) (by omega) (by decide) (by decide) (by decide)).1 (at_c 2 0 (o := 2) (lo := 0) (hi := 2) (by omega) (by decide) (by decide) (by decide)).2
  refine kx_aload_n 1 F 0 dX12_nextBack_0 rfl rfl rfl ?_
  refine kx_iload_n 2 F 1 dX12_nextBack_1 rfl rfl rfl ?_
  refine kx_Vi 5 (ci := 0) F (As := [vI a1]) (st := []) vd_X12_282 (c_X12_isAutomaton G l M a1 hI_M (by omega)) kd_163 rfl rfl rfl ⟨by decide, by decide⟩ rfl rfl (Nat.le_of_ble_eq_true rfl) dX12_nextBack_2 rfl ?_
  intro r_4 N_5 q_6
  obtain ⟨rfl, q_6c⟩ := q_6
  rcases q_6c with q_6c | q_6c
  · refine kx_if_eq 8 F 43 dX12_nextBack_5 (by decide) rfl (by omega) (fun h_7 => (by exfalso; omega)) (fun h_7 => ?_)
    refine kx_aload_n 9 F 0 dX12_nextBack_8 rfl rfl rfl ?_
    refine kx_iload_n 10 F 3 dX12_nextBack_9 rfl rfl rfl ?_
    refine kx_Vi 13 (ci := 0) F (As := [vI a3]) (st := []) vd_X12_300 (c_isLetterE G l M a3 hI_M (by omega)) kd_163 rfl rfl rfl ⟨by decide, by decide⟩ rfl rfl (Nat.le_of_ble_eq_true rfl) dX12_nextBack_10 rfl ?_
    intro r_8 N_9 q_10
    obtain ⟨rfl, q_10c⟩ := q_10
    rcases q_10c with q_10c | q_10c
    · refine kx_if_eq 16 F 43 dX12_nextBack_13 (by decide) rfl (by omega) (fun h_11 => (by exfalso; omega)) (fun h_11 => ?_)
      refine kx_aload_n 17 F 0 dX12_nextBack_16 rfl rfl rfl ?_
      refine kx_iload 19 F 5 dX12_nextBack_17 rfl rfl ?_
      refine kx_Vi 22 (ci := 0) F (As := [vI a5]) (st := []) vd_X12_300 (c_isLetterE G l M a5 hI_M (by omega)) kd_163 rfl rfl rfl ⟨by decide, by decide⟩ rfl rfl (Nat.le_of_ble_eq_true rfl) dX12_nextBack_19 rfl ?_
      intro r_12 N_13 q_14
      obtain ⟨rfl, q_14c⟩ := q_14
      rcases q_14c with q_14c | q_14c
      · refine kx_if_eq 25 F 43 dX12_nextBack_22 (by decide) rfl (by omega) (fun h_15 => (by exfalso; omega)) (fun h_15 => ?_)
        refine kx_aload_n 26 F 0 dX12_nextBack_25 rfl rfl rfl ?_
        refine kx_iload_n 27 F 3 dX12_nextBack_26 rfl rfl rfl ?_
        refine kx_Vi 30 (ci := 0) F (As := [vI a3]) (st := []) vd_X12_297 (c_sortNowE G l M a3 hI_M (by omega)) kd_163 rfl rfl rfl ⟨by decide, by decide⟩ rfl rfl (Nat.le_of_ble_eq_true rfl) dX12_nextBack_27 rfl ?_
        intro r_16 N_17 q_18
        obtain ⟨rfl, q_18c⟩ := q_18
        rcases q_18c with q_18c | q_18c | q_18c
        · refine kx_iconst 31 F dX12_nextBack_30 rfl ?_
          refine kx_icmp_ne 34 F 43 dX12_nextBack_31 (by decide) rfl (by omega) (by decide) (fun h_19 => ?_) (fun h_19 => (by exfalso; omega))
          refine kx_aload_n 44 F 0 dX12_nextBack_43 rfl rfl rfl ?_
          refine kx_iconst 45 F dX12_nextBack_44 rfl ?_
          refine kx_Vi 48 (ci := 0) F (As := [vI 1]) (st := []) vd_X12_123 (c_X12_refuse G l M 1 hI_M (by omega)) kd_163 rfl rfl rfl ⟨by decide, by decide⟩ rfl rfl (Nat.le_of_ble_eq_true rfl) dX12_nextBack_45 rfl ?_
          intro r_20 N_21 q_22
          obtain ⟨hI_N_21, hG_N_21, q_22c⟩ := q_22
          have hF_N_21 : Fr f_e_nextBack M N_21 := Fr.c hF_M hG_N_21 rfl
          subst q_22c
          exact kx_iret F hQ ⟨hI_N_21, hF_N_21, (by omega), (YY.fr hY hG_N_21 rfl)⟩ dX12_nextBack_48
        · refine kx_iconst 31 F dX12_nextBack_30 rfl ?_
          refine kx_icmp_ne 34 F 43 dX12_nextBack_31 (by decide) rfl (by omega) (by decide) (fun h_23 => (by exfalso; omega)) (fun h_23 => ?_)
          refine kx_aload_n 35 F 0 dX12_nextBack_34 rfl rfl rfl ?_
          refine kx_iload 37 F 5 dX12_nextBack_35 rfl rfl ?_
          refine kx_Vi 40 (ci := 0) F (As := [vI a5]) (st := []) vd_X12_297 (c_sortNowE G l M a5 hI_M (by omega)) kd_163 rfl rfl rfl ⟨by decide, by decide⟩ rfl rfl (Nat.le_of_ble_eq_true rfl) dX12_nextBack_37 rfl ?_
          intro r_24 N_25 q_26
          obtain ⟨rfl, q_26c⟩ := q_26
          rcases q_26c with q_26c | q_26c | q_26c
          · refine kx_if_eq 43 F 49 dX12_nextBack_40 (by decide) rfl (by omega) (fun h_27 => ?_) (fun h_27 => (by exfalso; omega))
            refine kx_aload_n 50 F 0 dX12_nextBack_49 rfl rfl rfl ?_
            refine kx_iload_n 51 F 1 dX12_nextBack_50 rfl rfl rfl ?_
            refine kx_Vi 54 (ci := 0) F (As := [vI a1]) (st := []) vd_X12_422 (e_laysTable G l M a1 hI_M (by omega)) kd_163 rfl rfl rfl ⟨by decide, by decide⟩ rfl rfl (Nat.le_of_ble_eq_true rfl) dX12_nextBack_51 rfl ?_
            intro r_28 N_29 q_30
            obtain ⟨hI_N_29, hG_N_29, q_30c, hc_N_29⟩ := q_30
            have hF_N_29 : Fr f_e_nextBack M N_29 := Fr.c hF_M hG_N_29 rfl
            have h_31 := Inv.g hI_N_29 kd_163 rfl 35 (a := 0) (b := 41) rfl rfl
            rcases q_30c with q_30c | q_30c
            · refine kx_if_ne 57 F 64 dX12_nextBack_54 (by decide) rfl (by omega) (fun h_32 => ?_) (fun h_32 => (by exfalso; omega))
              refine kx_aload_n 65 F 0 dX12_nextBack_64 rfl rfl rfl ?_
              refine kx_iload_n 66 F 2 dX12_nextBack_65 rfl rfl rfl ?_
              refine kx_Vi 69 (ci := 0) F (As := [vI a2]) (st := []) vd_X12_425 (c_X12_isInTable G l N_29 a2 hI_N_29 (by omega)) kd_163 rfl rfl rfl ⟨by decide, by decide⟩ rfl rfl (Nat.le_of_ble_eq_true rfl) dX12_nextBack_66 rfl ?_
              intro r_33 N_34 q_35
              obtain ⟨rfl, q_35c⟩ := q_35
              rcases q_35c with q_35c | q_35c
              · refine kx_if_eq 72 F 81 dX12_nextBack_69 (by decide) rfl (by omega) (fun h_36 => (by exfalso; omega)) (fun h_36 => ?_)
                refine kx_aload_n 73 F 0 dX12_nextBack_72 rfl rfl rfl ?_
                refine kx_iload 75 F 4 dX12_nextBack_73 rfl rfl ?_
                refine kx_Vi 78 (ci := 0) F (As := [vI a4]) (st := []) vd_X12_425 (c_X12_isInTable G l N_29 a4 hI_N_29 (by omega)) kd_163 rfl rfl rfl ⟨by decide, by decide⟩ rfl rfl (Nat.le_of_ble_eq_true rfl) dX12_nextBack_75 rfl ?_
                intro r_37 N_38 q_39
                obtain ⟨rfl, q_39c⟩ := q_39
                rcases q_39c with q_39c | q_39c
                · refine kx_if_ne 81 F 88 dX12_nextBack_78 (by decide) rfl (by omega) (fun h_40 => ?_) (fun h_40 => (by exfalso; omega))
                  refine kx_aload_n 89 F 0 dX12_nextBack_88 rfl rfl rfl ?_
                  refine kx_iload_n 90 F 1 dX12_nextBack_89 rfl rfl rfl ?_
                  refine kx_aload_n 91 F 0 dX12_nextBack_90 rfl rfl rfl ?_
                  refine kx_getr 94 F fl_X12_77 kd_163 rfl rfl (j := 34) rfl dX12_nextBack_91 (v := 182) (uq_182 (Inv.r hI_N_29 kd_163 rfl 34 rfl rfl)) rfl ?_
                  refine kx_iload_n 95 F 2 dX12_nextBack_94 rfl rfl rfl ?_
                  refine kx_iald 96 F kd_182 rfl rfl (by omega) (by decide) dX12_nextBack_95 (v := (N_29 182 a2)) rfl rfl ?_
                  have h_41 := Inv.g hI_N_29 kd_182 rfl a2 (a := 0) (b := 511) rfl rfl
                  refine kx_iload 98 F 5 dX12_nextBack_96 rfl rfl ?_
                  refine kx_iload_n 99 F 3 dX12_nextBack_98 rfl rfl rfl ?_
                  refine kx_Vi 102 (ci := 0) F (As := [vI a1, vI (N_29 182 a2), vI a5, vI a3]) (st := []) vd_X12_335 (e_over G l N_29 a1 (N_29 182 a2) a5 a3 hI_N_29 (by omega)) kd_163 rfl rfl rfl ⟨by decide, by decide⟩ rfl rfl (Nat.le_of_ble_eq_true rfl) dX12_nextBack_99 rfl ?_
                  intro r_42 N_43 q_44
                  obtain ⟨rfl, q_44c, hz_N_43⟩ := q_44
                  refine kx_istore 104 F 6 (lo' := [some (vR G 163), some (vI a1), some (vI a2), some (vI a3), some (vI a4), some (vI a5), some (vI r_42)]) dX12_nextBack_102 (by decide) rfl rfl rfl ?_
                  refine kx_aload_n 105 F 0 dX12_nextBack_104 rfl rfl rfl ?_
                  refine kx_aload_n 106 F 0 dX12_nextBack_105 rfl rfl rfl ?_
                  refine kx_aload_n 107 F 0 dX12_nextBack_106 rfl rfl rfl ?_
                  refine kx_getr 110 F fl_X12_74 kd_163 rfl rfl (j := 33) rfl dX12_nextBack_107 (v := 181) (uq_181 (Inv.r hI_N_29 kd_163 rfl 33 rfl rfl)) rfl ?_
                  refine kx_iload 112 F 4 dX12_nextBack_110 rfl rfl ?_
                  refine kx_iald 113 F kd_181 rfl rfl (by omega) (by decide) dX12_nextBack_112 (v := (N_29 181 a4)) rfl rfl ?_
                  have h_45 := Inv.g hI_N_29 kd_181 rfl a4 (a := 0) (b := 7) rfl rfl
                  refine kx_iload 115 F 6 dX12_nextBack_113 rfl rfl ?_
                  refine kx_Si 118 F (As := [vI (N_29 181 a4), vI r_42]) (st := [vR G 163, vR G 163]) sd_X12_332 (c_X12_image G l N_29 (N_29 181 a4) r_42 hI_N_29 (by omega)) ⟨by decide, by decide⟩ rfl rfl (Nat.le_of_ble_eq_true rfl) dX12_nextBack_115 rfl ?_
                  intro r_46 N_47 q_48
                  obtain ⟨rfl, q_48c⟩ := q_48
                  refine kx_aload_n 119 F 0 dX12_nextBack_118 rfl rfl rfl ?_
                  refine kx_getr 122 F fl_X12_77 kd_163 rfl rfl (j := 34) rfl dX12_nextBack_119 (v := 182) (uq_182 (Inv.r hI_N_29 kd_163 rfl 34 rfl rfl)) rfl ?_
                  refine kx_iload 124 F 4 dX12_nextBack_122 rfl rfl ?_
                  refine kx_iald 125 F kd_182 rfl rfl (by omega) (by decide) dX12_nextBack_124 (v := (N_29 182 a4)) rfl rfl ?_
                  have h_49 := Inv.g hI_N_29 kd_182 rfl a4 (a := 0) (b := 511) rfl rfl
                  refine kx_iload 127 F 6 dX12_nextBack_125 rfl rfl ?_
                  refine kx_Si 130 F (As := [vI (N_29 182 a4), vI r_42]) (st := [vI r_46, vR G 163, vR G 163]) sd_X12_326 (e_then G l N_29 (N_29 182 a4) r_42 hI_N_29 (by omega)) ⟨by decide, by decide⟩ rfl rfl (Nat.le_of_ble_eq_true rfl) dX12_nextBack_127 rfl ?_
                  intro r_50 N_51 q_52
                  obtain ⟨rfl, q_52c, hz_N_51⟩ := q_52
                  refine kx_Vi 133 (ci := 0) F (As := [vI r_46, vI r_50]) (st := [vR G 163]) vd_X12_406 (e_foundIn G l N_29 r_46 r_50 hI_N_29 (by omega)) kd_163 rfl rfl rfl ⟨by decide, by decide⟩ rfl rfl (Nat.le_of_ble_eq_true rfl) dX12_nextBack_130 rfl ?_
                  intro r_53 N_54 q_55
                  obtain ⟨rfl, q_55c⟩ := q_55
                  rcases q_55c with q_55c | q_55c
                  · refine kx_Vi 136 (ci := 0) F (As := [vI r_53]) (st := []) vd_X12_127 (c_X12_gives G l N_29 r_53 hI_N_29 (by omega)) kd_163 rfl rfl rfl ⟨by decide, by decide⟩ rfl rfl (Nat.le_of_ble_eq_true rfl) dX12_nextBack_133 rfl ?_
                    intro r_56 N_57 q_58
                    obtain ⟨hI_N_57, hG_N_57, q_58c⟩ := q_58
                    have hF_N_57 : Fr f_e_nextBack M N_57 := Fr.c hF_N_29 hG_N_57 rfl
                    refine kx_topi (e' := r_53) (by omega) ?_
                    exact kx_iret F hQ ⟨hI_N_57, hF_N_57, (by omega), (YY.fr (YY.fr hY hG_N_29 rfl) hG_N_57 rfl)⟩ dX12_nextBack_136
                  · refine kx_Vi 136 (ci := 0) F (As := [vI r_53]) (st := []) vd_X12_127 (c_X12_gives G l N_29 r_53 hI_N_29 (by omega)) kd_163 rfl rfl rfl ⟨by decide, by decide⟩ rfl rfl (Nat.le_of_ble_eq_true rfl) dX12_nextBack_133 rfl ?_
                    intro r_59 N_60 q_61
                    obtain ⟨hI_N_60, hG_N_60, q_61c⟩ := q_61
                    have hF_N_60 : Fr f_e_nextBack M N_60 := Fr.c hF_N_29 hG_N_60 rfl
                    refine kx_topi (e' := r_53) (by omega) ?_
                    exact kx_iret F hQ ⟨hI_N_60, hF_N_60, (by omega), (YY.fr (YY.fr hY hG_N_29 rfl) hG_N_60 rfl)⟩ dX12_nextBack_136
                · refine kx_if_ne 81 F 88 dX12_nextBack_78 (by decide) rfl (by omega) (fun h_62 => (by exfalso; omega)) (fun h_62 => ?_)
                  refine kx_aload_n 82 F 0 dX12_nextBack_81 rfl rfl rfl ?_
                  refine kx_bipush 84 F dX12_nextBack_82 (by decide) rfl ?_
                  refine kx_Vi 87 (ci := 0) F (As := [vI 6]) (st := []) vd_X12_123 (c_X12_refuse G l N_29 6 hI_N_29 (by omega)) kd_163 rfl rfl rfl ⟨by decide, by decide⟩ rfl rfl (Nat.le_of_ble_eq_true rfl) dX12_nextBack_84 rfl ?_
                  intro r_63 N_64 q_65
                  obtain ⟨hI_N_64, hG_N_64, q_65c⟩ := q_65
                  have hF_N_64 : Fr f_e_nextBack M N_64 := Fr.c hF_N_29 hG_N_64 rfl
                  subst q_65c
                  exact kx_iret F hQ ⟨hI_N_64, hF_N_64, (by omega), (YY.fr (YY.fr hY hG_N_29 rfl) hG_N_64 rfl)⟩ dX12_nextBack_87
              · refine kx_if_eq 72 F 81 dX12_nextBack_69 (by decide) rfl (by omega) (fun h_66 => ?_) (fun h_66 => (by exfalso; omega))
                refine kx_aload_n 82 F 0 dX12_nextBack_81 rfl rfl rfl ?_
                refine kx_bipush 84 F dX12_nextBack_82 (by decide) rfl ?_
                refine kx_Vi 87 (ci := 0) F (As := [vI 6]) (st := []) vd_X12_123 (c_X12_refuse G l N_29 6 hI_N_29 (by omega)) kd_163 rfl rfl rfl ⟨by decide, by decide⟩ rfl rfl (Nat.le_of_ble_eq_true rfl) dX12_nextBack_84 rfl ?_
                intro r_67 N_68 q_69
                obtain ⟨hI_N_68, hG_N_68, q_69c⟩ := q_69
                have hF_N_68 : Fr f_e_nextBack M N_68 := Fr.c hF_N_29 hG_N_68 rfl
                subst q_69c
                exact kx_iret F hQ ⟨hI_N_68, hF_N_68, (by omega), (YY.fr (YY.fr hY hG_N_29 rfl) hG_N_68 rfl)⟩ dX12_nextBack_87
            · refine kx_if_ne 57 F 64 dX12_nextBack_54 (by decide) rfl (by omega) (fun h_70 => (by exfalso; omega)) (fun h_70 => ?_)
              refine kx_aload_n 58 F 0 dX12_nextBack_57 rfl rfl rfl ?_
              refine kx_bipush 60 F dX12_nextBack_58 (by decide) rfl ?_
              refine kx_Vi 63 (ci := 0) F (As := [vI 7]) (st := []) vd_X12_123 (c_X12_refuse G l N_29 7 hI_N_29 (by omega)) kd_163 rfl rfl rfl ⟨by decide, by decide⟩ rfl rfl (Nat.le_of_ble_eq_true rfl) dX12_nextBack_60 rfl ?_
              intro r_71 N_72 q_73
              obtain ⟨hI_N_72, hG_N_72, q_73c⟩ := q_73
              have hF_N_72 : Fr f_e_nextBack M N_72 := Fr.c hF_N_29 hG_N_72 rfl
              subst q_73c
              exact kx_iret F hQ ⟨hI_N_72, hF_N_72, (by omega), (YY.fr (YY.fr hY hG_N_29 rfl) hG_N_72 rfl)⟩ dX12_nextBack_63
          · refine kx_if_eq 43 F 49 dX12_nextBack_40 (by decide) rfl (by omega) (fun h_74 => (by exfalso; omega)) (fun h_74 => ?_)
            refine kx_aload_n 44 F 0 dX12_nextBack_43 rfl rfl rfl ?_
            refine kx_iconst 45 F dX12_nextBack_44 rfl ?_
            refine kx_Vi 48 (ci := 0) F (As := [vI 1]) (st := []) vd_X12_123 (c_X12_refuse G l M 1 hI_M (by omega)) kd_163 rfl rfl rfl ⟨by decide, by decide⟩ rfl rfl (Nat.le_of_ble_eq_true rfl) dX12_nextBack_45 rfl ?_
            intro r_75 N_76 q_77
            obtain ⟨hI_N_76, hG_N_76, q_77c⟩ := q_77
            have hF_N_76 : Fr f_e_nextBack M N_76 := Fr.c hF_M hG_N_76 rfl
            subst q_77c
            exact kx_iret F hQ ⟨hI_N_76, hF_N_76, (by omega), (YY.fr hY hG_N_76 rfl)⟩ dX12_nextBack_48
          · refine kx_if_eq 43 F 49 dX12_nextBack_40 (by decide) rfl (by omega) (fun h_78 => (by exfalso; omega)) (fun h_78 => ?_)
            refine kx_aload_n 44 F 0 dX12_nextBack_43 rfl rfl rfl ?_
            refine kx_iconst 45 F dX12_nextBack_44 rfl ?_
            refine kx_Vi 48 (ci := 0) F (As := [vI 1]) (st := []) vd_X12_123 (c_X12_refuse G l M 1 hI_M (by omega)) kd_163 rfl rfl rfl ⟨by decide, by decide⟩ rfl rfl (Nat.le_of_ble_eq_true rfl) dX12_nextBack_45 rfl ?_
            intro r_79 N_80 q_81
            obtain ⟨hI_N_80, hG_N_80, q_81c⟩ := q_81
            have hF_N_80 : Fr f_e_nextBack M N_80 := Fr.c hF_M hG_N_80 rfl
            subst q_81c
            exact kx_iret F hQ ⟨hI_N_80, hF_N_80, (by omega), (YY.fr hY hG_N_80 rfl)⟩ dX12_nextBack_48
        · refine kx_iconst 31 F dX12_nextBack_30 rfl ?_
          refine kx_icmp_ne 34 F 43 dX12_nextBack_31 (by decide) rfl (by omega) (by decide) (fun h_82 => ?_) (fun h_82 => (by exfalso; omega))
          refine kx_aload_n 44 F 0 dX12_nextBack_43 rfl rfl rfl ?_
          refine kx_iconst 45 F dX12_nextBack_44 rfl ?_
          refine kx_Vi 48 (ci := 0) F (As := [vI 1]) (st := []) vd_X12_123 (c_X12_refuse G l M 1 hI_M (by omega)) kd_163 rfl rfl rfl ⟨by decide, by decide⟩ rfl rfl (Nat.le_of_ble_eq_true rfl) dX12_nextBack_45 rfl ?_
          intro r_83 N_84 q_85
          obtain ⟨hI_N_84, hG_N_84, q_85c⟩ := q_85
          have hF_N_84 : Fr f_e_nextBack M N_84 := Fr.c hF_M hG_N_84 rfl
          subst q_85c
          exact kx_iret F hQ ⟨hI_N_84, hF_N_84, (by omega), (YY.fr hY hG_N_84 rfl)⟩ dX12_nextBack_48
      · refine kx_if_eq 25 F 43 dX12_nextBack_22 (by decide) rfl (by omega) (fun h_86 => ?_) (fun h_86 => (by exfalso; omega))
        refine kx_aload_n 44 F 0 dX12_nextBack_43 rfl rfl rfl ?_
        refine kx_iconst 45 F dX12_nextBack_44 rfl ?_
        refine kx_Vi 48 (ci := 0) F (As := [vI 1]) (st := []) vd_X12_123 (c_X12_refuse G l M 1 hI_M (by omega)) kd_163 rfl rfl rfl ⟨by decide, by decide⟩ rfl rfl (Nat.le_of_ble_eq_true rfl) dX12_nextBack_45 rfl ?_
        intro r_87 N_88 q_89
        obtain ⟨hI_N_88, hG_N_88, q_89c⟩ := q_89
        have hF_N_88 : Fr f_e_nextBack M N_88 := Fr.c hF_M hG_N_88 rfl
        subst q_89c
        exact kx_iret F hQ ⟨hI_N_88, hF_N_88, (by omega), (YY.fr hY hG_N_88 rfl)⟩ dX12_nextBack_48
    · refine kx_if_eq 16 F 43 dX12_nextBack_13 (by decide) rfl (by omega) (fun h_90 => ?_) (fun h_90 => (by exfalso; omega))
      refine kx_aload_n 44 F 0 dX12_nextBack_43 rfl rfl rfl ?_
      refine kx_iconst 45 F dX12_nextBack_44 rfl ?_
      refine kx_Vi 48 (ci := 0) F (As := [vI 1]) (st := []) vd_X12_123 (c_X12_refuse G l M 1 hI_M (by omega)) kd_163 rfl rfl rfl ⟨by decide, by decide⟩ rfl rfl (Nat.le_of_ble_eq_true rfl) dX12_nextBack_45 rfl ?_
      intro r_91 N_92 q_93
      obtain ⟨hI_N_92, hG_N_92, q_93c⟩ := q_93
      have hF_N_92 : Fr f_e_nextBack M N_92 := Fr.c hF_M hG_N_92 rfl
      subst q_93c
      exact kx_iret F hQ ⟨hI_N_92, hF_N_92, (by omega), (YY.fr hY hG_N_92 rfl)⟩ dX12_nextBack_48
  · refine kx_if_eq 8 F 43 dX12_nextBack_5 (by decide) rfl (by omega) (fun h_94 => ?_) (fun h_94 => (by exfalso; omega))
    refine kx_aload_n 44 F 0 dX12_nextBack_43 rfl rfl rfl ?_
    refine kx_iconst 45 F dX12_nextBack_44 rfl ?_
    refine kx_Vi 48 (ci := 0) F (As := [vI 1]) (st := []) vd_X12_123 (c_X12_refuse G l M 1 hI_M (by omega)) kd_163 rfl rfl rfl ⟨by decide, by decide⟩ rfl rfl (Nat.le_of_ble_eq_true rfl) dX12_nextBack_45 rfl ?_
    intro r_95 N_96 q_97
    obtain ⟨hI_N_96, hG_N_96, q_97c⟩ := q_97
    have hF_N_96 : Fr f_e_nextBack M N_96 := Fr.c hF_M hG_N_96 rfl
    subst q_97c
    exact kx_iret F hQ ⟨hI_N_96, hF_N_96, (by omega), (YY.fr hY hG_N_96 rfl)⟩ dX12_nextBack_48
theorem dX12_parting_0 : decode cX12_parting 0 = .ok (.aload_n 0, 1) := by decide +kernel
theorem dX12_parting_1 : decode cX12_parting 1 = .ok (.iload_n 1, 1) := by decide +kernel
theorem dX12_parting_2 : decode cX12_parting 2 = .ok (.iload_n 2, 1) := by decide +kernel
theorem dX12_parting_3 : decode cX12_parting 3 = .ok (.invokevirtual 313, 3) := by decide +kernel
theorem dX12_parting_6 : decode cX12_parting 6 = .ok (.ifCond .ne 9, 3) := by decide +kernel
theorem dX12_parting_9 : decode cX12_parting 9 = .ok (.aload_n 0, 1) := by decide +kernel
theorem dX12_parting_10 : decode cX12_parting 10 = .ok (.iconst 1, 1) := by decide +kernel
theorem dX12_parting_11 : decode cX12_parting 11 = .ok (.invokevirtual 123, 3) := by decide +kernel
theorem dX12_parting_14 : decode cX12_parting 14 = .ok (.ireturn, 1) := by decide +kernel
theorem dX12_parting_15 : decode cX12_parting 15 = .ok (.aload_n 0, 1) := by decide +kernel
theorem dX12_parting_16 : decode cX12_parting 16 = .ok (.iload_n 2, 1) := by decide +kernel
theorem dX12_parting_17 : decode cX12_parting 17 = .ok (.invokevirtual 422, 3) := by decide +kernel
theorem dX12_parting_20 : decode cX12_parting 20 = .ok (.ifCond .eq 16, 3) := by decide +kernel
theorem dX12_parting_23 : decode cX12_parting 23 = .ok (.aload_n 0, 1) := by decide +kernel
theorem dX12_parting_24 : decode cX12_parting 24 = .ok (.aload_n 0, 1) := by decide +kernel
theorem dX12_parting_25 : decode cX12_parting 25 = .ok (.iload_n 1, 1) := by decide +kernel
theorem dX12_parting_26 : decode cX12_parting 26 = .ok (.iload_n 2, 1) := by decide +kernel
theorem dX12_parting_27 : decode cX12_parting 27 = .ok (.invokevirtual 503, 3) := by decide +kernel
theorem dX12_parting_30 : decode cX12_parting 30 = .ok (.invokevirtual 294, 3) := by decide +kernel
theorem dX12_parting_33 : decode cX12_parting 33 = .ok (.goto 9, 3) := by decide +kernel
theorem dX12_parting_36 : decode cX12_parting 36 = .ok (.aload_n 0, 1) := by decide +kernel
theorem dX12_parting_37 : decode cX12_parting 37 = .ok (.bipush 7, 2) := by decide +kernel
theorem dX12_parting_39 : decode cX12_parting 39 = .ok (.invokevirtual 123, 3) := by decide +kernel
theorem dX12_parting_42 : decode cX12_parting 42 = .ok (.ireturn, 1) := by decide +kernel
abbrev f_e_parting : List (Nat × Int) := [(64, 2), (64, 35), (64, 45), (72, -1), (81, -1), (82, -1), (86, -1), (87, -1), (88, -1)]
set_option maxHeartbeats 4000000 in
set_option maxRecDepth 100000 in
theorem e_parting (G : KG) (l : Launch) (M : Mem) (a1 : Int) (a2 : Int) (hI_M : Inv true M) (hpre : -2147483648 ≤ a1 ∧ a1 ≤ 2147483647 ∧ -2147483648 ≤ a2 ∧ a2 ≤ 2147483647) (hY : YY M) : KC true G l yX12_parting cX12_parting 3 (some .int) (6, 156) [vR G 163, vI a1, vI a2] M (fun A => kQi true G A (fun (r : Int) (N : Mem) => Inv true N ∧ Fr f_e_parting M N ∧ (r ≥ -2147483648 ∧ r ≤ 2147483647) ∧ (YY N))) := by
  refine kx_met (lo := [some (vR G 163), some (vI a1), some (vI a2)]) (by decide) (Nat.le_of_ble_eq_true rfl) rfl ?_
  intro X F hQ
  have hF_M : Fr f_e_parting M M := Fr.rf _ _
  have h_1 := Inv.g hI_M kd_164 rfl 0 (a := 0) (b := 2) (at_c 0 0 (o := 0) (lo := 0) (hi := 2) (by omega) (by decide) (by decide) (by decide)).1 (at_c 0 0 (o := 0) (lo := 0) (hi := 2) (by omega) (by decide) (by decide) (by decide)).2
  have h_2 := Inv.g hI_M kd_164 rfl 1 (a := 0) (b := 2) (at_c 1 0 (o := 1) (lo := 0) (hi := 2) (by omega) (by decide) (by decide) (by decide)).1 (at_c 1 0 (o := 1) (lo := 0) (hi := 2) (by omega) (by decide) (by decide) (by decide)).2
  have h_3 := Inv.g hI_M kd_164 rfl 2 (a := 0) (b := 2) (at_c 2 0 (o := 2) (lo := 0) (hi := 2) (by omega) (by decide) (by decide) (by decide)).1 (at_c 2 0 (o := 2) (lo := 0) (hi := 2) (by omega) (by decide) (by decide) (by decide)).2
  refine kx_aload_n 1 F 0 dX12_parting_0 rfl rfl rfl ?_
  refine kx_iload_n 2 F 1 dX12_parting_1 rfl rfl rfl ?_
  refine kx_iload_n 3 F 2 dX12_parting_2 rfl rfl rfl ?_
  refine kx_Vi 6 (ci := 0) F (As := [vI a1, vI a2]) (st := []) vd_X12_313 (c_X12_areTwo G l M a1 a2 hI_M (by omega)) kd_163 rfl rfl rfl ⟨by decide, by decide⟩ rfl rfl (Nat.le_of_ble_eq_true rfl) dX12_parting_3 rfl ?_
  intro r_4 N_5 q_6
  obtain ⟨rfl, q_6c⟩ := q_6
  rcases q_6c with q_6c | q_6c
  · refine kx_if_ne 9 F 15 dX12_parting_6 (by decide) rfl (by omega) (fun h_7 => ?_) (fun h_7 => (by exfalso; omega))
    refine kx_aload_n 16 F 0 dX12_parting_15 rfl rfl rfl ?_
    refine kx_iload_n 17 F 2 dX12_parting_16 rfl rfl rfl ?_
    refine kx_Vi 20 (ci := 0) F (As := [vI a2]) (st := []) vd_X12_422 (e_laysTable G l M a2 hI_M (by omega)) kd_163 rfl rfl rfl ⟨by decide, by decide⟩ rfl rfl (Nat.le_of_ble_eq_true rfl) dX12_parting_17 rfl ?_
    intro r_8 N_9 q_10
    obtain ⟨hI_N_9, hG_N_9, q_10c, hc_N_9⟩ := q_10
    have hF_N_9 : Fr f_e_parting M N_9 := Fr.c hF_M hG_N_9 rfl
    have h_11 := Inv.g hI_N_9 kd_163 rfl 35 (a := 0) (b := 41) rfl rfl
    rcases q_10c with q_10c | q_10c
    · refine kx_if_eq 23 F 36 dX12_parting_20 (by decide) rfl (by omega) (fun h_12 => (by exfalso; omega)) (fun h_12 => ?_)
      refine kx_aload_n 24 F 0 dX12_parting_23 rfl rfl rfl ?_
      refine kx_aload_n 25 F 0 dX12_parting_24 rfl rfl rfl ?_
      refine kx_iload_n 26 F 1 dX12_parting_25 rfl rfl rfl ?_
      refine kx_iload_n 27 F 2 dX12_parting_26 rfl rfl rfl ?_
      have hb_13 : Clo (N_9 164) a2 := by rw [show N_9 164 = M 164 from funext (fun j => by rw [Fr.e hG_N_9 kd_164 _ rfl])]; exact hc_N_9 (by omega)
      refine kx_Vi 30 (ci := 0) F (As := [vI a1, vI a2]) (st := [vR G 163]) vd_X12_503 (e_partingOf G l N_9 a1 a2 hI_N_9 (by omega) (YY.fr hY hG_N_9 rfl) hb_13) kd_163 rfl rfl rfl ⟨by decide, by decide⟩ rfl rfl (Nat.le_of_ble_eq_true rfl) dX12_parting_27 rfl ?_
      intro r_14 N_15 q_16
      obtain ⟨hI_N_15, hG_N_15, q_16c⟩ := q_16
      have hF_N_15 : Fr f_e_parting M N_15 := Fr.c hF_N_9 hG_N_15 rfl
      refine kx_Vi 33 (ci := 0) F (As := [vI r_14]) (st := []) vd_X12_294 (c_X12_orNone G l N_15 r_14 hI_N_15 (by omega)) kd_163 rfl rfl rfl ⟨by decide, by decide⟩ rfl rfl (Nat.le_of_ble_eq_true rfl) dX12_parting_30 rfl ?_
      intro r_17 N_18 q_19
      obtain ⟨hI_N_18, hG_N_18, q_19c⟩ := q_19
      have hF_N_18 : Fr f_e_parting M N_18 := Fr.c hF_N_15 hG_N_18 rfl
      refine kx_goto 42 F dX12_parting_33 (by decide) ?_
      exact kx_iret F hQ ⟨hI_N_18, hF_N_18, (by omega), (YY.fr (YY.fr (YY.fr hY hG_N_9 rfl) hG_N_15 rfl) hG_N_18 rfl)⟩ dX12_parting_42
    · refine kx_if_eq 23 F 36 dX12_parting_20 (by decide) rfl (by omega) (fun h_20 => ?_) (fun h_20 => (by exfalso; omega))
      refine kx_aload_n 37 F 0 dX12_parting_36 rfl rfl rfl ?_
      refine kx_bipush 39 F dX12_parting_37 (by decide) rfl ?_
      refine kx_Vi 42 (ci := 0) F (As := [vI 7]) (st := []) vd_X12_123 (c_X12_refuse G l N_9 7 hI_N_9 (by omega)) kd_163 rfl rfl rfl ⟨by decide, by decide⟩ rfl rfl (Nat.le_of_ble_eq_true rfl) dX12_parting_39 rfl ?_
      intro r_21 N_22 q_23
      obtain ⟨hI_N_22, hG_N_22, q_23c⟩ := q_23
      have hF_N_22 : Fr f_e_parting M N_22 := Fr.c hF_N_9 hG_N_22 rfl
      subst q_23c
      exact kx_iret F hQ ⟨hI_N_22, hF_N_22, (by omega), (YY.fr (YY.fr hY hG_N_9 rfl) hG_N_22 rfl)⟩ dX12_parting_42
  · refine kx_if_ne 9 F 15 dX12_parting_6 (by decide) rfl (by omega) (fun h_24 => (by exfalso; omega)) (fun h_24 => ?_)
    refine kx_aload_n 10 F 0 dX12_parting_9 rfl rfl rfl ?_
    refine kx_iconst 11 F dX12_parting_10 rfl ?_
    refine kx_Vi 14 (ci := 0) F (As := [vI 1]) (st := []) vd_X12_123 (c_X12_refuse G l M 1 hI_M (by omega)) kd_163 rfl rfl rfl ⟨by decide, by decide⟩ rfl rfl (Nat.le_of_ble_eq_true rfl) dX12_parting_11 rfl ?_
    intro r_25 N_26 q_27
    obtain ⟨hI_N_26, hG_N_26, q_27c⟩ := q_27
    have hF_N_26 : Fr f_e_parting M N_26 := Fr.c hF_M hG_N_26 rfl
    subst q_27c
    exact kx_iret F hQ ⟨hI_N_26, hF_N_26, (by omega), (YY.fr hY hG_N_26 rfl)⟩ dX12_parting_14
theorem dX12_partingAt_0 : decode cX12_partingAt 0 = .ok (.aload_n 0, 1) := by decide +kernel
theorem dX12_partingAt_1 : decode cX12_partingAt 1 = .ok (.iload_n 1, 1) := by decide +kernel
theorem dX12_partingAt_2 : decode cX12_partingAt 2 = .ok (.iload_n 2, 1) := by decide +kernel
theorem dX12_partingAt_3 : decode cX12_partingAt 3 = .ok (.invokevirtual 313, 3) := by decide +kernel
theorem dX12_partingAt_6 : decode cX12_partingAt 6 = .ok (.ifCond .eq 7, 3) := by decide +kernel
theorem dX12_partingAt_9 : decode cX12_partingAt 9 = .ok (.iload_n 3, 1) := by decide +kernel
theorem dX12_partingAt_10 : decode cX12_partingAt 10 = .ok (.ifCond .ge 9, 3) := by decide +kernel
theorem dX12_partingAt_13 : decode cX12_partingAt 13 = .ok (.aload_n 0, 1) := by decide +kernel
theorem dX12_partingAt_14 : decode cX12_partingAt 14 = .ok (.iconst 1, 1) := by decide +kernel
theorem dX12_partingAt_15 : decode cX12_partingAt 15 = .ok (.invokevirtual 123, 3) := by decide +kernel
theorem dX12_partingAt_18 : decode cX12_partingAt 18 = .ok (.ireturn, 1) := by decide +kernel
theorem dX12_partingAt_19 : decode cX12_partingAt 19 = .ok (.aload_n 0, 1) := by decide +kernel
theorem dX12_partingAt_20 : decode cX12_partingAt 20 = .ok (.iload_n 2, 1) := by decide +kernel
theorem dX12_partingAt_21 : decode cX12_partingAt 21 = .ok (.invokevirtual 422, 3) := by decide +kernel
theorem dX12_partingAt_24 : decode cX12_partingAt 24 = .ok (.ifCond .eq 20, 3) := by decide +kernel
theorem dX12_partingAt_27 : decode cX12_partingAt 27 = .ok (.aload_n 0, 1) := by decide +kernel
theorem dX12_partingAt_28 : decode cX12_partingAt 28 = .ok (.iload_n 1, 1) := by decide +kernel
theorem dX12_partingAt_29 : decode cX12_partingAt 29 = .ok (.iload_n 2, 1) := by decide +kernel
theorem dX12_partingAt_30 : decode cX12_partingAt 30 = .ok (.aload_n 0, 1) := by decide +kernel
theorem dX12_partingAt_31 : decode cX12_partingAt 31 = .ok (.iload_n 1, 1) := by decide +kernel
theorem dX12_partingAt_32 : decode cX12_partingAt 32 = .ok (.iload_n 2, 1) := by decide +kernel
theorem dX12_partingAt_33 : decode cX12_partingAt 33 = .ok (.invokevirtual 503, 3) := by decide +kernel
theorem dX12_partingAt_36 : decode cX12_partingAt 36 = .ok (.iconst 0, 1) := by decide +kernel
theorem dX12_partingAt_37 : decode cX12_partingAt 37 = .ok (.iload_n 3, 1) := by decide +kernel
theorem dX12_partingAt_38 : decode cX12_partingAt 38 = .ok (.invokevirtual 499, 3) := by decide +kernel
theorem dX12_partingAt_41 : decode cX12_partingAt 41 = .ok (.goto 9, 3) := by decide +kernel
theorem dX12_partingAt_44 : decode cX12_partingAt 44 = .ok (.aload_n 0, 1) := by decide +kernel
theorem dX12_partingAt_45 : decode cX12_partingAt 45 = .ok (.bipush 7, 2) := by decide +kernel
theorem dX12_partingAt_47 : decode cX12_partingAt 47 = .ok (.invokevirtual 123, 3) := by decide +kernel
theorem dX12_partingAt_50 : decode cX12_partingAt 50 = .ok (.ireturn, 1) := by decide +kernel
abbrev f_e_partingAt : List (Nat × Int) := [(64, 2), (64, 35), (64, 45), (64, 48), (72, -1), (73, -1), (74, -1), (75, -1), (76, -1), (81, -1), (82, -1), (86, -1), (87, -1), (88, -1), (89, -1), (90, -1)]
set_option maxHeartbeats 4000000 in
set_option maxRecDepth 100000 in
theorem e_partingAt (G : KG) (l : Launch) (M : Mem) (a1 : Int) (a2 : Int) (a3 : Int) (hI_M : Inv true M) (hpre : -2147483648 ≤ a1 ∧ a1 ≤ 2147483647 ∧ -2147483648 ≤ a2 ∧ a2 ≤ 2147483647 ∧ -2147483648 ≤ a3 ∧ a3 ≤ 2147483647) (hY : YY M) : KC true G l yX12_partingAt cX12_partingAt 4 (some .int) (6, 157) [vR G 163, vI a1, vI a2, vI a3] M (fun A => kQi true G A (fun (r : Int) (N : Mem) => Inv true N ∧ Fr f_e_partingAt M N ∧ (r ≥ -1 ∧ r ≤ 5) ∧ (YY N))) := by
  refine kx_met (lo := [some (vR G 163), some (vI a1), some (vI a2), some (vI a3)]) (by decide) (Nat.le_of_ble_eq_true rfl) rfl ?_
  intro X F hQ
  have hF_M : Fr f_e_partingAt M M := Fr.rf _ _
  have h_1 := Inv.g hI_M kd_164 rfl 0 (a := 0) (b := 2) (at_c 0 0 (o := 0) (lo := 0) (hi := 2) (by omega) (by decide) (by decide) (by decide)).1 (at_c 0 0 (o := 0) (lo := 0) (hi := 2) (by omega) (by decide) (by decide) (by decide)).2
  have h_2 := Inv.g hI_M kd_164 rfl 1 (a := 0) (b := 2) (at_c 1 0 (o := 1) (lo := 0) (hi := 2) (by omega) (by decide) (by decide) (by decide)).1 (at_c 1 0 (o := 1) (lo := 0) (hi := 2) (by omega) (by decide) (by decide) (by decide)).2
  have h_3 := Inv.g hI_M kd_164 rfl 2 (a := 0) (b := 2) (at_c 2 0 (o := 2) (lo := 0) (hi := 2) (by omega) (by decide) (by decide) (by decide)).1 (at_c 2 0 (o := 2) (lo := 0) (hi := 2) (by omega) (by decide) (by decide) (by decide)).2
  refine kx_aload_n 1 F 0 dX12_partingAt_0 rfl rfl rfl ?_
  refine kx_iload_n 2 F 1 dX12_partingAt_1 rfl rfl rfl ?_
  refine kx_iload_n 3 F 2 dX12_partingAt_2 rfl rfl rfl ?_
  refine kx_Vi 6 (ci := 0) F (As := [vI a1, vI a2]) (st := []) vd_X12_313 (c_X12_areTwo G l M a1 a2 hI_M (by omega)) kd_163 rfl rfl rfl ⟨by decide, by decide⟩ rfl rfl (Nat.le_of_ble_eq_true rfl) dX12_partingAt_3 rfl ?_
  intro r_4 N_5 q_6
  obtain ⟨rfl, q_6c⟩ := q_6
  rcases q_6c with q_6c | q_6c
  · refine kx_if_eq 9 F 13 dX12_partingAt_6 (by decide) rfl (by omega) (fun h_7 => (by exfalso; omega)) (fun h_7 => ?_)
    refine kx_iload_n 10 F 3 dX12_partingAt_9 rfl rfl rfl ?_
    refine kx_if_ge 13 F 19 dX12_partingAt_10 (by decide) rfl (by omega) (fun h_8 => ?_) (fun h_8 => ?_)
    · refine kx_aload_n 20 F 0 dX12_partingAt_19 rfl rfl rfl ?_
      refine kx_iload_n 21 F 2 dX12_partingAt_20 rfl rfl rfl ?_
      refine kx_Vi 24 (ci := 0) F (As := [vI a2]) (st := []) vd_X12_422 (e_laysTable G l M a2 hI_M (by omega)) kd_163 rfl rfl rfl ⟨by decide, by decide⟩ rfl rfl (Nat.le_of_ble_eq_true rfl) dX12_partingAt_21 rfl ?_
      intro r_9 N_10 q_11
      obtain ⟨hI_N_10, hG_N_10, q_11c, hc_N_10⟩ := q_11
      have hF_N_10 : Fr f_e_partingAt M N_10 := Fr.c hF_M hG_N_10 rfl
      have h_12 := Inv.g hI_N_10 kd_163 rfl 35 (a := 0) (b := 41) rfl rfl
      rcases q_11c with q_11c | q_11c
      · refine kx_if_eq 27 F 44 dX12_partingAt_24 (by decide) rfl (by omega) (fun h_13 => (by exfalso; omega)) (fun h_13 => ?_)
        refine kx_aload_n 28 F 0 dX12_partingAt_27 rfl rfl rfl ?_
        refine kx_iload_n 29 F 1 dX12_partingAt_28 rfl rfl rfl ?_
        refine kx_iload_n 30 F 2 dX12_partingAt_29 rfl rfl rfl ?_
        refine kx_aload_n 31 F 0 dX12_partingAt_30 rfl rfl rfl ?_
        refine kx_iload_n 32 F 1 dX12_partingAt_31 rfl rfl rfl ?_
        refine kx_iload_n 33 F 2 dX12_partingAt_32 rfl rfl rfl ?_
        have hb_14 : Clo (N_10 164) a2 := by rw [show N_10 164 = M 164 from funext (fun j => by rw [Fr.e hG_N_10 kd_164 _ rfl])]; exact hc_N_10 (by omega)
        refine kx_Vi 36 (ci := 0) F (As := [vI a1, vI a2]) (st := [vI a2, vI a1, vR G 163]) vd_X12_503 (e_partingOf G l N_10 a1 a2 hI_N_10 (by omega) (YY.fr hY hG_N_10 rfl) hb_14) kd_163 rfl rfl rfl ⟨by decide, by decide⟩ rfl rfl (Nat.le_of_ble_eq_true rfl) dX12_partingAt_33 rfl ?_
        intro r_15 N_16 q_17
        obtain ⟨hI_N_16, hG_N_16, q_17c⟩ := q_17
        have hF_N_16 : Fr f_e_partingAt M N_16 := Fr.c hF_N_10 hG_N_16 rfl
        refine kx_iconst 37 F dX12_partingAt_36 rfl ?_
        refine kx_iload_n 38 F 3 dX12_partingAt_37 rfl rfl rfl ?_
        refine kx_Vi 41 (ci := 0) F (As := [vI a1, vI a2, vI r_15, vI 0, vI a3]) (st := []) vd_X12_499 (c_X12_wordAt G l N_16 a1 a2 r_15 0 a3 hI_N_16 (by omega)) kd_163 rfl rfl rfl ⟨by decide, by decide⟩ rfl rfl (Nat.le_of_ble_eq_true rfl) dX12_partingAt_38 rfl ?_
        intro r_18 N_19 q_20
        obtain ⟨hI_N_19, hG_N_19, q_20c⟩ := q_20
        have hF_N_19 : Fr f_e_partingAt M N_19 := Fr.c hF_N_16 hG_N_19 rfl
        refine kx_goto 50 F dX12_partingAt_41 (by decide) ?_
        exact kx_iret F hQ ⟨hI_N_19, hF_N_19, (by omega), (YY.fr (YY.fr (YY.fr hY hG_N_10 rfl) hG_N_16 rfl) hG_N_19 rfl)⟩ dX12_partingAt_50
      · refine kx_if_eq 27 F 44 dX12_partingAt_24 (by decide) rfl (by omega) (fun h_21 => ?_) (fun h_21 => (by exfalso; omega))
        refine kx_aload_n 45 F 0 dX12_partingAt_44 rfl rfl rfl ?_
        refine kx_bipush 47 F dX12_partingAt_45 (by decide) rfl ?_
        refine kx_Vi 50 (ci := 0) F (As := [vI 7]) (st := []) vd_X12_123 (c_X12_refuse G l N_10 7 hI_N_10 (by omega)) kd_163 rfl rfl rfl ⟨by decide, by decide⟩ rfl rfl (Nat.le_of_ble_eq_true rfl) dX12_partingAt_47 rfl ?_
        intro r_22 N_23 q_24
        obtain ⟨hI_N_23, hG_N_23, q_24c⟩ := q_24
        have hF_N_23 : Fr f_e_partingAt M N_23 := Fr.c hF_N_10 hG_N_23 rfl
        subst q_24c
        exact kx_iret F hQ ⟨hI_N_23, hF_N_23, (by omega), (YY.fr (YY.fr hY hG_N_10 rfl) hG_N_23 rfl)⟩ dX12_partingAt_50
    · refine kx_aload_n 14 F 0 dX12_partingAt_13 rfl rfl rfl ?_
      refine kx_iconst 15 F dX12_partingAt_14 rfl ?_
      refine kx_Vi 18 (ci := 0) F (As := [vI 1]) (st := []) vd_X12_123 (c_X12_refuse G l M 1 hI_M (by omega)) kd_163 rfl rfl rfl ⟨by decide, by decide⟩ rfl rfl (Nat.le_of_ble_eq_true rfl) dX12_partingAt_15 rfl ?_
      intro r_25 N_26 q_27
      obtain ⟨hI_N_26, hG_N_26, q_27c⟩ := q_27
      have hF_N_26 : Fr f_e_partingAt M N_26 := Fr.c hF_M hG_N_26 rfl
      subst q_27c
      exact kx_iret F hQ ⟨hI_N_26, hF_N_26, (by omega), (YY.fr hY hG_N_26 rfl)⟩ dX12_partingAt_18
  · refine kx_if_eq 9 F 13 dX12_partingAt_6 (by decide) rfl (by omega) (fun h_28 => ?_) (fun h_28 => (by exfalso; omega))
    refine kx_aload_n 14 F 0 dX12_partingAt_13 rfl rfl rfl ?_
    refine kx_iconst 15 F dX12_partingAt_14 rfl ?_
    refine kx_Vi 18 (ci := 0) F (As := [vI 1]) (st := []) vd_X12_123 (c_X12_refuse G l M 1 hI_M (by omega)) kd_163 rfl rfl rfl ⟨by decide, by decide⟩ rfl rfl (Nat.le_of_ble_eq_true rfl) dX12_partingAt_15 rfl ?_
    intro r_29 N_30 q_31
    obtain ⟨hI_N_30, hG_N_30, q_31c⟩ := q_31
    have hF_N_30 : Fr f_e_partingAt M N_30 := Fr.c hF_M hG_N_30 rfl
    subst q_31c
    exact kx_iret F hQ ⟨hI_N_30, hF_N_30, (by omega), (YY.fr hY hG_N_30 rfl)⟩ dX12_partingAt_18
theorem dX12_missing_0 : decode cX12_missing 0 = .ok (.aload_n 0, 1) := by decide +kernel
theorem dX12_missing_1 : decode cX12_missing 1 = .ok (.iload_n 1, 1) := by decide +kernel
theorem dX12_missing_2 : decode cX12_missing 2 = .ok (.invokevirtual 282, 3) := by decide +kernel
theorem dX12_missing_5 : decode cX12_missing 5 = .ok (.ifCond .ne 9, 3) := by decide +kernel
theorem dX12_missing_8 : decode cX12_missing 8 = .ok (.aload_n 0, 1) := by decide +kernel
theorem dX12_missing_9 : decode cX12_missing 9 = .ok (.iconst 1, 1) := by decide +kernel
theorem dX12_missing_10 : decode cX12_missing 10 = .ok (.invokevirtual 123, 3) := by decide +kernel
theorem dX12_missing_13 : decode cX12_missing 13 = .ok (.ireturn, 1) := by decide +kernel
theorem dX12_missing_14 : decode cX12_missing 14 = .ok (.aload_n 0, 1) := by decide +kernel
theorem dX12_missing_15 : decode cX12_missing 15 = .ok (.iload_n 1, 1) := by decide +kernel
theorem dX12_missing_16 : decode cX12_missing 16 = .ok (.invokevirtual 422, 3) := by decide +kernel
theorem dX12_missing_19 : decode cX12_missing 19 = .ok (.ifCond .eq 16, 3) := by decide +kernel
theorem dX12_missing_22 : decode cX12_missing 22 = .ok (.aload_n 0, 1) := by decide +kernel
theorem dX12_missing_23 : decode cX12_missing 23 = .ok (.aload_n 0, 1) := by decide +kernel
theorem dX12_missing_24 : decode cX12_missing 24 = .ok (.iconst 2, 1) := by decide +kernel
theorem dX12_missing_25 : decode cX12_missing 25 = .ok (.iload_n 1, 1) := by decide +kernel
theorem dX12_missing_26 : decode cX12_missing 26 = .ok (.invokevirtual 503, 3) := by decide +kernel
theorem dX12_missing_29 : decode cX12_missing 29 = .ok (.invokevirtual 294, 3) := by decide +kernel
theorem dX12_missing_32 : decode cX12_missing 32 = .ok (.goto 9, 3) := by decide +kernel
theorem dX12_missing_35 : decode cX12_missing 35 = .ok (.aload_n 0, 1) := by decide +kernel
theorem dX12_missing_36 : decode cX12_missing 36 = .ok (.bipush 7, 2) := by decide +kernel
theorem dX12_missing_38 : decode cX12_missing 38 = .ok (.invokevirtual 123, 3) := by decide +kernel
theorem dX12_missing_41 : decode cX12_missing 41 = .ok (.ireturn, 1) := by decide +kernel
abbrev f_e_missing : List (Nat × Int) := [(64, 2), (64, 35), (64, 45), (72, -1), (81, -1), (82, -1), (86, -1), (87, -1), (88, -1)]
set_option maxHeartbeats 4000000 in
set_option maxRecDepth 100000 in
theorem e_missing (G : KG) (l : Launch) (M : Mem) (a1 : Int) (hI_M : Inv true M) (hpre : -2147483648 ≤ a1 ∧ a1 ≤ 2147483647) (hY : YY M) : KC true G l yX12_missing cX12_missing 2 (some .int) (6, 156) [vR G 163, vI a1] M (fun A => kQi true G A (fun (r : Int) (N : Mem) => Inv true N ∧ Fr f_e_missing M N ∧ (r ≥ -2147483648 ∧ r ≤ 2147483647) ∧ (YY N))) := by
  refine kx_met (lo := [some (vR G 163), some (vI a1)]) (by decide) (Nat.le_of_ble_eq_true rfl) rfl ?_
  intro X F hQ
  have hF_M : Fr f_e_missing M M := Fr.rf _ _
  have h_1 := Inv.g hI_M kd_164 rfl 0 (a := 0) (b := 2) (at_c 0 0 (o := 0) (lo := 0) (hi := 2) (by omega) (by decide) (by decide) (by decide)).1 (at_c 0 0 (o := 0) (lo := 0) (hi := 2) (by omega) (by decide) (by decide) (by decide)).2
  have h_2 := Inv.g hI_M kd_164 rfl 1 (a := 0) (b := 2) (at_c 1 0 (o := 1) (lo := 0) (hi := 2) (by omega) (by decide) (by decide) (by decide)).1 (at_c 1 0 (o := 1) (lo := 0) (hi := 2) (by omega) (by decide) (by decide) (by decide)).2
  have h_3 := Inv.g hI_M kd_164 rfl 2 (a := 0) (b := 2) (at_c 2 0 (o := 2) (lo := 0) (hi := 2) (by omega) (by decide) (by decide) (by decide)).1 (at_c 2 0 (o := 2) (lo := 0) (hi := 2) (by omega) (by decide) (by decide) (by decide)).2
  refine kx_aload_n 1 F 0 dX12_missing_0 rfl rfl rfl ?_
  refine kx_iload_n 2 F 1 dX12_missing_1 rfl rfl rfl ?_
  refine kx_Vi 5 (ci := 0) F (As := [vI a1]) (st := []) vd_X12_282 (c_X12_isAutomaton G l M a1 hI_M (by omega)) kd_163 rfl rfl rfl ⟨by decide, by decide⟩ rfl rfl (Nat.le_of_ble_eq_true rfl) dX12_missing_2 rfl ?_
  intro r_4 N_5 q_6
  obtain ⟨rfl, q_6c⟩ := q_6
  rcases q_6c with q_6c | q_6c
  · refine kx_if_ne 8 F 14 dX12_missing_5 (by decide) rfl (by omega) (fun h_7 => ?_) (fun h_7 => (by exfalso; omega))
    refine kx_aload_n 15 F 0 dX12_missing_14 rfl rfl rfl ?_
    refine kx_iload_n 16 F 1 dX12_missing_15 rfl rfl rfl ?_
    refine kx_Vi 19 (ci := 0) F (As := [vI a1]) (st := []) vd_X12_422 (e_laysTable G l M a1 hI_M (by omega)) kd_163 rfl rfl rfl ⟨by decide, by decide⟩ rfl rfl (Nat.le_of_ble_eq_true rfl) dX12_missing_16 rfl ?_
    intro r_8 N_9 q_10
    obtain ⟨hI_N_9, hG_N_9, q_10c, hc_N_9⟩ := q_10
    have hF_N_9 : Fr f_e_missing M N_9 := Fr.c hF_M hG_N_9 rfl
    have h_11 := Inv.g hI_N_9 kd_163 rfl 35 (a := 0) (b := 41) rfl rfl
    rcases q_10c with q_10c | q_10c
    · refine kx_if_eq 22 F 35 dX12_missing_19 (by decide) rfl (by omega) (fun h_12 => (by exfalso; omega)) (fun h_12 => ?_)
      refine kx_aload_n 23 F 0 dX12_missing_22 rfl rfl rfl ?_
      refine kx_aload_n 24 F 0 dX12_missing_23 rfl rfl rfl ?_
      refine kx_iconst 25 F dX12_missing_24 rfl ?_
      refine kx_iload_n 26 F 1 dX12_missing_25 rfl rfl rfl ?_
      have hb_13 : Clo (N_9 164) a1 := by rw [show N_9 164 = M 164 from funext (fun j => by rw [Fr.e hG_N_9 kd_164 _ rfl])]; exact hc_N_9 (by omega)
      refine kx_Vi 29 (ci := 0) F (As := [vI 2, vI a1]) (st := [vR G 163]) vd_X12_503 (e_partingOf G l N_9 2 a1 hI_N_9 (by omega) (YY.fr hY hG_N_9 rfl) hb_13) kd_163 rfl rfl rfl ⟨by decide, by decide⟩ rfl rfl (Nat.le_of_ble_eq_true rfl) dX12_missing_26 rfl ?_
      intro r_14 N_15 q_16
      obtain ⟨hI_N_15, hG_N_15, q_16c⟩ := q_16
      have hF_N_15 : Fr f_e_missing M N_15 := Fr.c hF_N_9 hG_N_15 rfl
      refine kx_Vi 32 (ci := 0) F (As := [vI r_14]) (st := []) vd_X12_294 (c_X12_orNone G l N_15 r_14 hI_N_15 (by omega)) kd_163 rfl rfl rfl ⟨by decide, by decide⟩ rfl rfl (Nat.le_of_ble_eq_true rfl) dX12_missing_29 rfl ?_
      intro r_17 N_18 q_19
      obtain ⟨hI_N_18, hG_N_18, q_19c⟩ := q_19
      have hF_N_18 : Fr f_e_missing M N_18 := Fr.c hF_N_15 hG_N_18 rfl
      refine kx_goto 41 F dX12_missing_32 (by decide) ?_
      exact kx_iret F hQ ⟨hI_N_18, hF_N_18, (by omega), (YY.fr (YY.fr (YY.fr hY hG_N_9 rfl) hG_N_15 rfl) hG_N_18 rfl)⟩ dX12_missing_41
    · refine kx_if_eq 22 F 35 dX12_missing_19 (by decide) rfl (by omega) (fun h_20 => ?_) (fun h_20 => (by exfalso; omega))
      refine kx_aload_n 36 F 0 dX12_missing_35 rfl rfl rfl ?_
      refine kx_bipush 38 F dX12_missing_36 (by decide) rfl ?_
      refine kx_Vi 41 (ci := 0) F (As := [vI 7]) (st := []) vd_X12_123 (c_X12_refuse G l N_9 7 hI_N_9 (by omega)) kd_163 rfl rfl rfl ⟨by decide, by decide⟩ rfl rfl (Nat.le_of_ble_eq_true rfl) dX12_missing_38 rfl ?_
      intro r_21 N_22 q_23
      obtain ⟨hI_N_22, hG_N_22, q_23c⟩ := q_23
      have hF_N_22 : Fr f_e_missing M N_22 := Fr.c hF_N_9 hG_N_22 rfl
      subst q_23c
      exact kx_iret F hQ ⟨hI_N_22, hF_N_22, (by omega), (YY.fr (YY.fr hY hG_N_9 rfl) hG_N_22 rfl)⟩ dX12_missing_41
  · refine kx_if_ne 8 F 14 dX12_missing_5 (by decide) rfl (by omega) (fun h_24 => (by exfalso; omega)) (fun h_24 => ?_)
    refine kx_aload_n 9 F 0 dX12_missing_8 rfl rfl rfl ?_
    refine kx_iconst 10 F dX12_missing_9 rfl ?_
    refine kx_Vi 13 (ci := 0) F (As := [vI 1]) (st := []) vd_X12_123 (c_X12_refuse G l M 1 hI_M (by omega)) kd_163 rfl rfl rfl ⟨by decide, by decide⟩ rfl rfl (Nat.le_of_ble_eq_true rfl) dX12_missing_10 rfl ?_
    intro r_25 N_26 q_27
    obtain ⟨hI_N_26, hG_N_26, q_27c⟩ := q_27
    have hF_N_26 : Fr f_e_missing M N_26 := Fr.c hF_M hG_N_26 rfl
    subst q_27c
    exact kx_iret F hQ ⟨hI_N_26, hF_N_26, (by omega), (YY.fr hY hG_N_26 rfl)⟩ dX12_missing_13
theorem dX12_missingAt_0 : decode cX12_missingAt 0 = .ok (.aload_n 0, 1) := by decide +kernel
theorem dX12_missingAt_1 : decode cX12_missingAt 1 = .ok (.iload_n 1, 1) := by decide +kernel
theorem dX12_missingAt_2 : decode cX12_missingAt 2 = .ok (.invokevirtual 282, 3) := by decide +kernel
theorem dX12_missingAt_5 : decode cX12_missingAt 5 = .ok (.ifCond .eq 7, 3) := by decide +kernel
theorem dX12_missingAt_8 : decode cX12_missingAt 8 = .ok (.iload_n 2, 1) := by decide +kernel
theorem dX12_missingAt_9 : decode cX12_missingAt 9 = .ok (.ifCond .ge 9, 3) := by decide +kernel
theorem dX12_missingAt_12 : decode cX12_missingAt 12 = .ok (.aload_n 0, 1) := by decide +kernel
theorem dX12_missingAt_13 : decode cX12_missingAt 13 = .ok (.iconst 1, 1) := by decide +kernel
theorem dX12_missingAt_14 : decode cX12_missingAt 14 = .ok (.invokevirtual 123, 3) := by decide +kernel
theorem dX12_missingAt_17 : decode cX12_missingAt 17 = .ok (.ireturn, 1) := by decide +kernel
theorem dX12_missingAt_18 : decode cX12_missingAt 18 = .ok (.aload_n 0, 1) := by decide +kernel
theorem dX12_missingAt_19 : decode cX12_missingAt 19 = .ok (.iload_n 1, 1) := by decide +kernel
theorem dX12_missingAt_20 : decode cX12_missingAt 20 = .ok (.invokevirtual 422, 3) := by decide +kernel
theorem dX12_missingAt_23 : decode cX12_missingAt 23 = .ok (.ifCond .eq 20, 3) := by decide +kernel
theorem dX12_missingAt_26 : decode cX12_missingAt 26 = .ok (.aload_n 0, 1) := by decide +kernel
theorem dX12_missingAt_27 : decode cX12_missingAt 27 = .ok (.iconst 2, 1) := by decide +kernel
theorem dX12_missingAt_28 : decode cX12_missingAt 28 = .ok (.iload_n 1, 1) := by decide +kernel
theorem dX12_missingAt_29 : decode cX12_missingAt 29 = .ok (.aload_n 0, 1) := by decide +kernel
theorem dX12_missingAt_30 : decode cX12_missingAt 30 = .ok (.iconst 2, 1) := by decide +kernel
theorem dX12_missingAt_31 : decode cX12_missingAt 31 = .ok (.iload_n 1, 1) := by decide +kernel
theorem dX12_missingAt_32 : decode cX12_missingAt 32 = .ok (.invokevirtual 503, 3) := by decide +kernel
theorem dX12_missingAt_35 : decode cX12_missingAt 35 = .ok (.iconst 0, 1) := by decide +kernel
theorem dX12_missingAt_36 : decode cX12_missingAt 36 = .ok (.iload_n 2, 1) := by decide +kernel
theorem dX12_missingAt_37 : decode cX12_missingAt 37 = .ok (.invokevirtual 499, 3) := by decide +kernel
theorem dX12_missingAt_40 : decode cX12_missingAt 40 = .ok (.goto 9, 3) := by decide +kernel
theorem dX12_missingAt_43 : decode cX12_missingAt 43 = .ok (.aload_n 0, 1) := by decide +kernel
theorem dX12_missingAt_44 : decode cX12_missingAt 44 = .ok (.bipush 7, 2) := by decide +kernel
theorem dX12_missingAt_46 : decode cX12_missingAt 46 = .ok (.invokevirtual 123, 3) := by decide +kernel
theorem dX12_missingAt_49 : decode cX12_missingAt 49 = .ok (.ireturn, 1) := by decide +kernel
abbrev f_e_missingAt : List (Nat × Int) := [(64, 2), (64, 35), (64, 45), (64, 48), (72, -1), (73, -1), (74, -1), (75, -1), (76, -1), (81, -1), (82, -1), (86, -1), (87, -1), (88, -1), (89, -1), (90, -1)]
set_option maxHeartbeats 4000000 in
set_option maxRecDepth 100000 in
theorem e_missingAt (G : KG) (l : Launch) (M : Mem) (a1 : Int) (a2 : Int) (hI_M : Inv true M) (hpre : -2147483648 ≤ a1 ∧ a1 ≤ 2147483647 ∧ -2147483648 ≤ a2 ∧ a2 ≤ 2147483647) (hY : YY M) : KC true G l yX12_missingAt cX12_missingAt 3 (some .int) (6, 157) [vR G 163, vI a1, vI a2] M (fun A => kQi true G A (fun (r : Int) (N : Mem) => Inv true N ∧ Fr f_e_missingAt M N ∧ (r ≥ -1 ∧ r ≤ 5) ∧ (YY N))) := by
  refine kx_met (lo := [some (vR G 163), some (vI a1), some (vI a2)]) (by decide) (Nat.le_of_ble_eq_true rfl) rfl ?_
  intro X F hQ
  have hF_M : Fr f_e_missingAt M M := Fr.rf _ _
  have h_1 := Inv.g hI_M kd_164 rfl 0 (a := 0) (b := 2) (at_c 0 0 (o := 0) (lo := 0) (hi := 2) (by omega) (by decide) (by decide) (by decide)).1 (at_c 0 0 (o := 0) (lo := 0) (hi := 2) (by omega) (by decide) (by decide) (by decide)).2
  have h_2 := Inv.g hI_M kd_164 rfl 1 (a := 0) (b := 2) (at_c 1 0 (o := 1) (lo := 0) (hi := 2) (by omega) (by decide) (by decide) (by decide)).1 (at_c 1 0 (o := 1) (lo := 0) (hi := 2) (by omega) (by decide) (by decide) (by decide)).2
  have h_3 := Inv.g hI_M kd_164 rfl 2 (a := 0) (b := 2) (at_c 2 0 (o := 2) (lo := 0) (hi := 2) (by omega) (by decide) (by decide) (by decide)).1 (at_c 2 0 (o := 2) (lo := 0) (hi := 2) (by omega) (by decide) (by decide) (by decide)).2
  refine kx_aload_n 1 F 0 dX12_missingAt_0 rfl rfl rfl ?_
  refine kx_iload_n 2 F 1 dX12_missingAt_1 rfl rfl rfl ?_
  refine kx_Vi 5 (ci := 0) F (As := [vI a1]) (st := []) vd_X12_282 (c_X12_isAutomaton G l M a1 hI_M (by omega)) kd_163 rfl rfl rfl ⟨by decide, by decide⟩ rfl rfl (Nat.le_of_ble_eq_true rfl) dX12_missingAt_2 rfl ?_
  intro r_4 N_5 q_6
  obtain ⟨rfl, q_6c⟩ := q_6
  rcases q_6c with q_6c | q_6c
  · refine kx_if_eq 8 F 12 dX12_missingAt_5 (by decide) rfl (by omega) (fun h_7 => (by exfalso; omega)) (fun h_7 => ?_)
    refine kx_iload_n 9 F 2 dX12_missingAt_8 rfl rfl rfl ?_
    refine kx_if_ge 12 F 18 dX12_missingAt_9 (by decide) rfl (by omega) (fun h_8 => ?_) (fun h_8 => ?_)
    · refine kx_aload_n 19 F 0 dX12_missingAt_18 rfl rfl rfl ?_
      refine kx_iload_n 20 F 1 dX12_missingAt_19 rfl rfl rfl ?_
      refine kx_Vi 23 (ci := 0) F (As := [vI a1]) (st := []) vd_X12_422 (e_laysTable G l M a1 hI_M (by omega)) kd_163 rfl rfl rfl ⟨by decide, by decide⟩ rfl rfl (Nat.le_of_ble_eq_true rfl) dX12_missingAt_20 rfl ?_
      intro r_9 N_10 q_11
      obtain ⟨hI_N_10, hG_N_10, q_11c, hc_N_10⟩ := q_11
      have hF_N_10 : Fr f_e_missingAt M N_10 := Fr.c hF_M hG_N_10 rfl
      have h_12 := Inv.g hI_N_10 kd_163 rfl 35 (a := 0) (b := 41) rfl rfl
      rcases q_11c with q_11c | q_11c
      · refine kx_if_eq 26 F 43 dX12_missingAt_23 (by decide) rfl (by omega) (fun h_13 => (by exfalso; omega)) (fun h_13 => ?_)
        refine kx_aload_n 27 F 0 dX12_missingAt_26 rfl rfl rfl ?_
        refine kx_iconst 28 F dX12_missingAt_27 rfl ?_
        refine kx_iload_n 29 F 1 dX12_missingAt_28 rfl rfl rfl ?_
        refine kx_aload_n 30 F 0 dX12_missingAt_29 rfl rfl rfl ?_
        refine kx_iconst 31 F dX12_missingAt_30 rfl ?_
        refine kx_iload_n 32 F 1 dX12_missingAt_31 rfl rfl rfl ?_
        have hb_14 : Clo (N_10 164) a1 := by rw [show N_10 164 = M 164 from funext (fun j => by rw [Fr.e hG_N_10 kd_164 _ rfl])]; exact hc_N_10 (by omega)
        refine kx_Vi 35 (ci := 0) F (As := [vI 2, vI a1]) (st := [vI a1, vI 2, vR G 163]) vd_X12_503 (e_partingOf G l N_10 2 a1 hI_N_10 (by omega) (YY.fr hY hG_N_10 rfl) hb_14) kd_163 rfl rfl rfl ⟨by decide, by decide⟩ rfl rfl (Nat.le_of_ble_eq_true rfl) dX12_missingAt_32 rfl ?_
        intro r_15 N_16 q_17
        obtain ⟨hI_N_16, hG_N_16, q_17c⟩ := q_17
        have hF_N_16 : Fr f_e_missingAt M N_16 := Fr.c hF_N_10 hG_N_16 rfl
        refine kx_iconst 36 F dX12_missingAt_35 rfl ?_
        refine kx_iload_n 37 F 2 dX12_missingAt_36 rfl rfl rfl ?_
        refine kx_Vi 40 (ci := 0) F (As := [vI 2, vI a1, vI r_15, vI 0, vI a2]) (st := []) vd_X12_499 (c_X12_wordAt G l N_16 2 a1 r_15 0 a2 hI_N_16 (by omega)) kd_163 rfl rfl rfl ⟨by decide, by decide⟩ rfl rfl (Nat.le_of_ble_eq_true rfl) dX12_missingAt_37 rfl ?_
        intro r_18 N_19 q_20
        obtain ⟨hI_N_19, hG_N_19, q_20c⟩ := q_20
        have hF_N_19 : Fr f_e_missingAt M N_19 := Fr.c hF_N_16 hG_N_19 rfl
        refine kx_goto 49 F dX12_missingAt_40 (by decide) ?_
        exact kx_iret F hQ ⟨hI_N_19, hF_N_19, (by omega), (YY.fr (YY.fr (YY.fr hY hG_N_10 rfl) hG_N_16 rfl) hG_N_19 rfl)⟩ dX12_missingAt_49
      · refine kx_if_eq 26 F 43 dX12_missingAt_23 (by decide) rfl (by omega) (fun h_21 => ?_) (fun h_21 => (by exfalso; omega))
        refine kx_aload_n 44 F 0 dX12_missingAt_43 rfl rfl rfl ?_
        refine kx_bipush 46 F dX12_missingAt_44 (by decide) rfl ?_
        refine kx_Vi 49 (ci := 0) F (As := [vI 7]) (st := []) vd_X12_123 (c_X12_refuse G l N_10 7 hI_N_10 (by omega)) kd_163 rfl rfl rfl ⟨by decide, by decide⟩ rfl rfl (Nat.le_of_ble_eq_true rfl) dX12_missingAt_46 rfl ?_
        intro r_22 N_23 q_24
        obtain ⟨hI_N_23, hG_N_23, q_24c⟩ := q_24
        have hF_N_23 : Fr f_e_missingAt M N_23 := Fr.c hF_N_10 hG_N_23 rfl
        subst q_24c
        exact kx_iret F hQ ⟨hI_N_23, hF_N_23, (by omega), (YY.fr (YY.fr hY hG_N_10 rfl) hG_N_23 rfl)⟩ dX12_missingAt_49
    · refine kx_aload_n 13 F 0 dX12_missingAt_12 rfl rfl rfl ?_
      refine kx_iconst 14 F dX12_missingAt_13 rfl ?_
      refine kx_Vi 17 (ci := 0) F (As := [vI 1]) (st := []) vd_X12_123 (c_X12_refuse G l M 1 hI_M (by omega)) kd_163 rfl rfl rfl ⟨by decide, by decide⟩ rfl rfl (Nat.le_of_ble_eq_true rfl) dX12_missingAt_14 rfl ?_
      intro r_25 N_26 q_27
      obtain ⟨hI_N_26, hG_N_26, q_27c⟩ := q_27
      have hF_N_26 : Fr f_e_missingAt M N_26 := Fr.c hF_M hG_N_26 rfl
      subst q_27c
      exact kx_iret F hQ ⟨hI_N_26, hF_N_26, (by omega), (YY.fr hY hG_N_26 rfl)⟩ dX12_missingAt_17
  · refine kx_if_eq 8 F 12 dX12_missingAt_5 (by decide) rfl (by omega) (fun h_28 => ?_) (fun h_28 => (by exfalso; omega))
    refine kx_aload_n 13 F 0 dX12_missingAt_12 rfl rfl rfl ?_
    refine kx_iconst 14 F dX12_missingAt_13 rfl ?_
    refine kx_Vi 17 (ci := 0) F (As := [vI 1]) (st := []) vd_X12_123 (c_X12_refuse G l M 1 hI_M (by omega)) kd_163 rfl rfl rfl ⟨by decide, by decide⟩ rfl rfl (Nat.le_of_ble_eq_true rfl) dX12_missingAt_14 rfl ?_
    intro r_29 N_30 q_31
    obtain ⟨hI_N_30, hG_N_30, q_31c⟩ := q_31
    have hF_N_30 : Fr f_e_missingAt M N_30 := Fr.c hF_M hG_N_30 rfl
    subst q_31c
    exact kx_iret F hQ ⟨hI_N_30, hF_N_30, (by omega), (YY.fr hY hG_N_30 rfl)⟩ dX12_missingAt_17
theorem dX12_includes_0 : decode cX12_includes 0 = .ok (.aload_n 0, 1) := by decide +kernel
theorem dX12_includes_1 : decode cX12_includes 1 = .ok (.iload_n 1, 1) := by decide +kernel
theorem dX12_includes_2 : decode cX12_includes 2 = .ok (.iload_n 2, 1) := by decide +kernel
theorem dX12_includes_3 : decode cX12_includes 3 = .ok (.invokevirtual 313, 3) := by decide +kernel
theorem dX12_includes_6 : decode cX12_includes 6 = .ok (.ifCond .ne 9, 3) := by decide +kernel
theorem dX12_includes_9 : decode cX12_includes 9 = .ok (.aload_n 0, 1) := by decide +kernel
theorem dX12_includes_10 : decode cX12_includes 10 = .ok (.iconst 1, 1) := by decide +kernel
theorem dX12_includes_11 : decode cX12_includes 11 = .ok (.invokevirtual 123, 3) := by decide +kernel
theorem dX12_includes_14 : decode cX12_includes 14 = .ok (.ireturn, 1) := by decide +kernel
theorem dX12_includes_15 : decode cX12_includes 15 = .ok (.aload_n 0, 1) := by decide +kernel
theorem dX12_includes_16 : decode cX12_includes 16 = .ok (.iload_n 2, 1) := by decide +kernel
theorem dX12_includes_17 : decode cX12_includes 17 = .ok (.invokevirtual 422, 3) := by decide +kernel
theorem dX12_includes_20 : decode cX12_includes 20 = .ok (.ifCond .eq 25, 3) := by decide +kernel
theorem dX12_includes_23 : decode cX12_includes 23 = .ok (.aload_n 0, 1) := by decide +kernel
theorem dX12_includes_24 : decode cX12_includes 24 = .ok (.aload_n 0, 1) := by decide +kernel
theorem dX12_includes_25 : decode cX12_includes 25 = .ok (.iload_n 1, 1) := by decide +kernel
theorem dX12_includes_26 : decode cX12_includes 26 = .ok (.iload_n 2, 1) := by decide +kernel
theorem dX12_includes_27 : decode cX12_includes 27 = .ok (.invokevirtual 503, 3) := by decide +kernel
theorem dX12_includes_30 : decode cX12_includes 30 = .ok (.iconst (-1), 1) := by decide +kernel
theorem dX12_includes_31 : decode cX12_includes 31 = .ok (.if_icmp .ne 7, 3) := by decide +kernel
theorem dX12_includes_34 : decode cX12_includes 34 = .ok (.iconst 1, 1) := by decide +kernel
theorem dX12_includes_35 : decode cX12_includes 35 = .ok (.goto 4, 3) := by decide +kernel
theorem dX12_includes_38 : decode cX12_includes 38 = .ok (.iconst 0, 1) := by decide +kernel
theorem dX12_includes_39 : decode cX12_includes 39 = .ok (.invokevirtual 127, 3) := by decide +kernel
theorem dX12_includes_42 : decode cX12_includes 42 = .ok (.goto 9, 3) := by decide +kernel
theorem dX12_includes_45 : decode cX12_includes 45 = .ok (.aload_n 0, 1) := by decide +kernel
theorem dX12_includes_46 : decode cX12_includes 46 = .ok (.bipush 7, 2) := by decide +kernel
theorem dX12_includes_48 : decode cX12_includes 48 = .ok (.invokevirtual 123, 3) := by decide +kernel
theorem dX12_includes_51 : decode cX12_includes 51 = .ok (.ireturn, 1) := by decide +kernel
abbrev f_e_includes : List (Nat × Int) := [(64, 2), (64, 35), (64, 45), (72, -1), (81, -1), (82, -1), (86, -1), (87, -1), (88, -1)]
set_option maxHeartbeats 4000000 in
set_option maxRecDepth 100000 in
theorem e_includes (G : KG) (l : Launch) (M : Mem) (a1 : Int) (a2 : Int) (hI_M : Inv true M) (hpre : -2147483648 ≤ a1 ∧ a1 ≤ 2147483647 ∧ -2147483648 ≤ a2 ∧ a2 ≤ 2147483647) (hY : YY M) : KC true G l yX12_includes cX12_includes 3 (some .int) (6, 156) [vR G 163, vI a1, vI a2] M (fun A => kQi true G A (fun (r : Int) (N : Mem) => Inv true N ∧ Fr f_e_includes M N ∧ (r ≥ -1 ∧ r ≤ 1) ∧ (YY N))) := by
  refine kx_met (lo := [some (vR G 163), some (vI a1), some (vI a2)]) (by decide) (Nat.le_of_ble_eq_true rfl) rfl ?_
  intro X F hQ
  have hF_M : Fr f_e_includes M M := Fr.rf _ _
  have h_1 := Inv.g hI_M kd_164 rfl 0 (a := 0) (b := 2) (at_c 0 0 (o := 0) (lo := 0) (hi := 2) (by omega) (by decide) (by decide) (by decide)).1 (at_c 0 0 (o := 0) (lo := 0) (hi := 2) (by omega) (by decide) (by decide) (by decide)).2
  have h_2 := Inv.g hI_M kd_164 rfl 1 (a := 0) (b := 2) (at_c 1 0 (o := 1) (lo := 0) (hi := 2) (by omega) (by decide) (by decide) (by decide)).1 (at_c 1 0 (o := 1) (lo := 0) (hi := 2) (by omega) (by decide) (by decide) (by decide)).2
  have h_3 := Inv.g hI_M kd_164 rfl 2 (a := 0) (b := 2) (at_c 2 0 (o := 2) (lo := 0) (hi := 2) (by omega) (by decide) (by decide) (by decide)).1 (at_c 2 0 (o := 2) (lo := 0) (hi := 2) (by omega) (by decide) (by decide) (by decide)).2
  refine kx_aload_n 1 F 0 dX12_includes_0 rfl rfl rfl ?_
  refine kx_iload_n 2 F 1 dX12_includes_1 rfl rfl rfl ?_
  refine kx_iload_n 3 F 2 dX12_includes_2 rfl rfl rfl ?_
  refine kx_Vi 6 (ci := 0) F (As := [vI a1, vI a2]) (st := []) vd_X12_313 (c_X12_areTwo G l M a1 a2 hI_M (by omega)) kd_163 rfl rfl rfl ⟨by decide, by decide⟩ rfl rfl (Nat.le_of_ble_eq_true rfl) dX12_includes_3 rfl ?_
  intro r_4 N_5 q_6
  obtain ⟨rfl, q_6c⟩ := q_6
  rcases q_6c with q_6c | q_6c
  · refine kx_if_ne 9 F 15 dX12_includes_6 (by decide) rfl (by omega) (fun h_7 => ?_) (fun h_7 => (by exfalso; omega))
    refine kx_aload_n 16 F 0 dX12_includes_15 rfl rfl rfl ?_
    refine kx_iload_n 17 F 2 dX12_includes_16 rfl rfl rfl ?_
    refine kx_Vi 20 (ci := 0) F (As := [vI a2]) (st := []) vd_X12_422 (e_laysTable G l M a2 hI_M (by omega)) kd_163 rfl rfl rfl ⟨by decide, by decide⟩ rfl rfl (Nat.le_of_ble_eq_true rfl) dX12_includes_17 rfl ?_
    intro r_8 N_9 q_10
    obtain ⟨hI_N_9, hG_N_9, q_10c, hc_N_9⟩ := q_10
    have hF_N_9 : Fr f_e_includes M N_9 := Fr.c hF_M hG_N_9 rfl
    have h_11 := Inv.g hI_N_9 kd_163 rfl 35 (a := 0) (b := 41) rfl rfl
    rcases q_10c with q_10c | q_10c
    · refine kx_if_eq 23 F 45 dX12_includes_20 (by decide) rfl (by omega) (fun h_12 => (by exfalso; omega)) (fun h_12 => ?_)
      refine kx_aload_n 24 F 0 dX12_includes_23 rfl rfl rfl ?_
      refine kx_aload_n 25 F 0 dX12_includes_24 rfl rfl rfl ?_
      refine kx_iload_n 26 F 1 dX12_includes_25 rfl rfl rfl ?_
      refine kx_iload_n 27 F 2 dX12_includes_26 rfl rfl rfl ?_
      have hb_13 : Clo (N_9 164) a2 := by rw [show N_9 164 = M 164 from funext (fun j => by rw [Fr.e hG_N_9 kd_164 _ rfl])]; exact hc_N_9 (by omega)
      refine kx_Vi 30 (ci := 0) F (As := [vI a1, vI a2]) (st := [vR G 163]) vd_X12_503 (e_partingOf G l N_9 a1 a2 hI_N_9 (by omega) (YY.fr hY hG_N_9 rfl) hb_13) kd_163 rfl rfl rfl ⟨by decide, by decide⟩ rfl rfl (Nat.le_of_ble_eq_true rfl) dX12_includes_27 rfl ?_
      intro r_14 N_15 q_16
      obtain ⟨hI_N_15, hG_N_15, q_16c⟩ := q_16
      have hF_N_15 : Fr f_e_includes M N_15 := Fr.c hF_N_9 hG_N_15 rfl
      refine kx_iconst 31 F dX12_includes_30 rfl ?_
      refine kx_icmp_ne 34 F 38 dX12_includes_31 (by decide) rfl (by omega) (by decide) (fun h_17 => ?_) (fun h_17 => ?_)
      · refine kx_iconst 39 F dX12_includes_38 rfl ?_
        refine kx_Vi 42 (ci := 0) F (As := [vI 0]) (st := []) vd_X12_127 (c_X12_gives G l N_15 0 hI_N_15 (by omega)) kd_163 rfl rfl rfl ⟨by decide, by decide⟩ rfl rfl (Nat.le_of_ble_eq_true rfl) dX12_includes_39 rfl ?_
        intro r_18 N_19 q_20
        obtain ⟨hI_N_19, hG_N_19, q_20c⟩ := q_20
        have hF_N_19 : Fr f_e_includes M N_19 := Fr.c hF_N_15 hG_N_19 rfl
        refine kx_topi (e' := 0) (by omega) ?_
        refine kx_goto 51 F dX12_includes_42 (by decide) ?_
        exact kx_iret F hQ ⟨hI_N_19, hF_N_19, (by omega), (YY.fr (YY.fr (YY.fr hY hG_N_9 rfl) hG_N_15 rfl) hG_N_19 rfl)⟩ dX12_includes_51
      · refine kx_iconst 35 F dX12_includes_34 rfl ?_
        refine kx_goto 39 F dX12_includes_35 (by decide) ?_
        refine kx_Vi 42 (ci := 0) F (As := [vI 1]) (st := []) vd_X12_127 (c_X12_gives G l N_15 1 hI_N_15 (by omega)) kd_163 rfl rfl rfl ⟨by decide, by decide⟩ rfl rfl (Nat.le_of_ble_eq_true rfl) dX12_includes_39 rfl ?_
        intro r_21 N_22 q_23
        obtain ⟨hI_N_22, hG_N_22, q_23c⟩ := q_23
        have hF_N_22 : Fr f_e_includes M N_22 := Fr.c hF_N_15 hG_N_22 rfl
        refine kx_topi (e' := 1) (by omega) ?_
        refine kx_goto 51 F dX12_includes_42 (by decide) ?_
        exact kx_iret F hQ ⟨hI_N_22, hF_N_22, (by omega), (YY.fr (YY.fr (YY.fr hY hG_N_9 rfl) hG_N_15 rfl) hG_N_22 rfl)⟩ dX12_includes_51
    · refine kx_if_eq 23 F 45 dX12_includes_20 (by decide) rfl (by omega) (fun h_24 => ?_) (fun h_24 => (by exfalso; omega))
      refine kx_aload_n 46 F 0 dX12_includes_45 rfl rfl rfl ?_
      refine kx_bipush 48 F dX12_includes_46 (by decide) rfl ?_
      refine kx_Vi 51 (ci := 0) F (As := [vI 7]) (st := []) vd_X12_123 (c_X12_refuse G l N_9 7 hI_N_9 (by omega)) kd_163 rfl rfl rfl ⟨by decide, by decide⟩ rfl rfl (Nat.le_of_ble_eq_true rfl) dX12_includes_48 rfl ?_
      intro r_25 N_26 q_27
      obtain ⟨hI_N_26, hG_N_26, q_27c⟩ := q_27
      have hF_N_26 : Fr f_e_includes M N_26 := Fr.c hF_N_9 hG_N_26 rfl
      subst q_27c
      exact kx_iret F hQ ⟨hI_N_26, hF_N_26, (by omega), (YY.fr (YY.fr hY hG_N_9 rfl) hG_N_26 rfl)⟩ dX12_includes_51
  · refine kx_if_ne 9 F 15 dX12_includes_6 (by decide) rfl (by omega) (fun h_28 => (by exfalso; omega)) (fun h_28 => ?_)
    refine kx_aload_n 10 F 0 dX12_includes_9 rfl rfl rfl ?_
    refine kx_iconst 11 F dX12_includes_10 rfl ?_
    refine kx_Vi 14 (ci := 0) F (As := [vI 1]) (st := []) vd_X12_123 (c_X12_refuse G l M 1 hI_M (by omega)) kd_163 rfl rfl rfl ⟨by decide, by decide⟩ rfl rfl (Nat.le_of_ble_eq_true rfl) dX12_includes_11 rfl ?_
    intro r_29 N_30 q_31
    obtain ⟨hI_N_30, hG_N_30, q_31c⟩ := q_31
    have hF_N_30 : Fr f_e_includes M N_30 := Fr.c hF_M hG_N_30 rfl
    subst q_31c
    exact kx_iret F hQ ⟨hI_N_30, hF_N_30, (by omega), (YY.fr hY hG_N_30 rfl)⟩ dX12_includes_14
theorem dX12_equal_0 : decode cX12_equal 0 = .ok (.aload_n 0, 1) := by decide +kernel
theorem dX12_equal_1 : decode cX12_equal 1 = .ok (.iload_n 1, 1) := by decide +kernel
theorem dX12_equal_2 : decode cX12_equal 2 = .ok (.iload_n 2, 1) := by decide +kernel
theorem dX12_equal_3 : decode cX12_equal 3 = .ok (.invokevirtual 313, 3) := by decide +kernel
theorem dX12_equal_6 : decode cX12_equal 6 = .ok (.ifCond .ne 9, 3) := by decide +kernel
theorem dX12_equal_9 : decode cX12_equal 9 = .ok (.aload_n 0, 1) := by decide +kernel
theorem dX12_equal_10 : decode cX12_equal 10 = .ok (.iconst 1, 1) := by decide +kernel
theorem dX12_equal_11 : decode cX12_equal 11 = .ok (.invokevirtual 123, 3) := by decide +kernel
theorem dX12_equal_14 : decode cX12_equal 14 = .ok (.ireturn, 1) := by decide +kernel
theorem dX12_equal_15 : decode cX12_equal 15 = .ok (.aload_n 0, 1) := by decide +kernel
theorem dX12_equal_16 : decode cX12_equal 16 = .ok (.iload_n 1, 1) := by decide +kernel
theorem dX12_equal_17 : decode cX12_equal 17 = .ok (.invokevirtual 422, 3) := by decide +kernel
theorem dX12_equal_20 : decode cX12_equal 20 = .ok (.ifCond .eq 11, 3) := by decide +kernel
theorem dX12_equal_23 : decode cX12_equal 23 = .ok (.aload_n 0, 1) := by decide +kernel
theorem dX12_equal_24 : decode cX12_equal 24 = .ok (.iload_n 2, 1) := by decide +kernel
theorem dX12_equal_25 : decode cX12_equal 25 = .ok (.invokevirtual 422, 3) := by decide +kernel
theorem dX12_equal_28 : decode cX12_equal 28 = .ok (.ifCond .ne 10, 3) := by decide +kernel
theorem dX12_equal_31 : decode cX12_equal 31 = .ok (.aload_n 0, 1) := by decide +kernel
theorem dX12_equal_32 : decode cX12_equal 32 = .ok (.bipush 7, 2) := by decide +kernel
theorem dX12_equal_34 : decode cX12_equal 34 = .ok (.invokevirtual 123, 3) := by decide +kernel
theorem dX12_equal_37 : decode cX12_equal 37 = .ok (.ireturn, 1) := by decide +kernel
theorem dX12_equal_38 : decode cX12_equal 38 = .ok (.aload_n 0, 1) := by decide +kernel
theorem dX12_equal_39 : decode cX12_equal 39 = .ok (.aload_n 0, 1) := by decide +kernel
theorem dX12_equal_40 : decode cX12_equal 40 = .ok (.iload_n 1, 1) := by decide +kernel
theorem dX12_equal_41 : decode cX12_equal 41 = .ok (.iload_n 2, 1) := by decide +kernel
theorem dX12_equal_42 : decode cX12_equal 42 = .ok (.invokevirtual 503, 3) := by decide +kernel
theorem dX12_equal_45 : decode cX12_equal 45 = .ok (.iconst (-1), 1) := by decide +kernel
theorem dX12_equal_46 : decode cX12_equal 46 = .ok (.if_icmp .ne 17, 3) := by decide +kernel
theorem dX12_equal_49 : decode cX12_equal 49 = .ok (.aload_n 0, 1) := by decide +kernel
theorem dX12_equal_50 : decode cX12_equal 50 = .ok (.iload_n 2, 1) := by decide +kernel
theorem dX12_equal_51 : decode cX12_equal 51 = .ok (.iload_n 1, 1) := by decide +kernel
theorem dX12_equal_52 : decode cX12_equal 52 = .ok (.invokevirtual 503, 3) := by decide +kernel
theorem dX12_equal_55 : decode cX12_equal 55 = .ok (.iconst (-1), 1) := by decide +kernel
theorem dX12_equal_56 : decode cX12_equal 56 = .ok (.if_icmp .ne 7, 3) := by decide +kernel
theorem dX12_equal_59 : decode cX12_equal 59 = .ok (.iconst 1, 1) := by decide +kernel
theorem dX12_equal_60 : decode cX12_equal 60 = .ok (.goto 4, 3) := by decide +kernel
theorem dX12_equal_63 : decode cX12_equal 63 = .ok (.iconst 0, 1) := by decide +kernel
theorem dX12_equal_64 : decode cX12_equal 64 = .ok (.invokevirtual 127, 3) := by decide +kernel
theorem dX12_equal_67 : decode cX12_equal 67 = .ok (.ireturn, 1) := by decide +kernel
abbrev f_e_equal : List (Nat × Int) := [(64, 2), (64, 35), (64, 45), (72, -1), (81, -1), (82, -1), (86, -1), (87, -1), (88, -1)]
set_option maxHeartbeats 4000000 in
set_option maxRecDepth 100000 in
theorem e_equal (G : KG) (l : Launch) (M : Mem) (a1 : Int) (a2 : Int) (hI_M : Inv true M) (hpre : -2147483648 ≤ a1 ∧ a1 ≤ 2147483647 ∧ -2147483648 ≤ a2 ∧ a2 ≤ 2147483647) (hY : YY M) : KC true G l yX12_equal cX12_equal 3 (some .int) (6, 156) [vR G 163, vI a1, vI a2] M (fun A => kQi true G A (fun (r : Int) (N : Mem) => Inv true N ∧ Fr f_e_equal M N ∧ (r ≥ -1 ∧ r ≤ 1) ∧ (YY N))) := by
  refine kx_met (lo := [some (vR G 163), some (vI a1), some (vI a2)]) (by decide) (Nat.le_of_ble_eq_true rfl) rfl ?_
  intro X F hQ
  have hF_M : Fr f_e_equal M M := Fr.rf _ _
  have h_1 := Inv.g hI_M kd_164 rfl 0 (a := 0) (b := 2) (at_c 0 0 (o := 0) (lo := 0) (hi := 2) (by omega) (by decide) (by decide) (by decide)).1 (at_c 0 0 (o := 0) (lo := 0) (hi := 2) (by omega) (by decide) (by decide) (by decide)).2
  have h_2 := Inv.g hI_M kd_164 rfl 1 (a := 0) (b := 2) (at_c 1 0 (o := 1) (lo := 0) (hi := 2) (by omega) (by decide) (by decide) (by decide)).1 (at_c 1 0 (o := 1) (lo := 0) (hi := 2) (by omega) (by decide) (by decide) (by decide)).2
  have h_3 := Inv.g hI_M kd_164 rfl 2 (a := 0) (b := 2) (at_c 2 0 (o := 2) (lo := 0) (hi := 2) (by omega) (by decide) (by decide) (by decide)).1 (at_c 2 0 (o := 2) (lo := 0) (hi := 2) (by omega) (by decide) (by decide) (by decide)).2
  refine kx_aload_n 1 F 0 dX12_equal_0 rfl rfl rfl ?_
  refine kx_iload_n 2 F 1 dX12_equal_1 rfl rfl rfl ?_
  refine kx_iload_n 3 F 2 dX12_equal_2 rfl rfl rfl ?_
  refine kx_Vi 6 (ci := 0) F (As := [vI a1, vI a2]) (st := []) vd_X12_313 (c_X12_areTwo G l M a1 a2 hI_M (by omega)) kd_163 rfl rfl rfl ⟨by decide, by decide⟩ rfl rfl (Nat.le_of_ble_eq_true rfl) dX12_equal_3 rfl ?_
  intro r_4 N_5 q_6
  obtain ⟨rfl, q_6c⟩ := q_6
  rcases q_6c with q_6c | q_6c
  · refine kx_if_ne 9 F 15 dX12_equal_6 (by decide) rfl (by omega) (fun h_7 => ?_) (fun h_7 => (by exfalso; omega))
    refine kx_aload_n 16 F 0 dX12_equal_15 rfl rfl rfl ?_
    refine kx_iload_n 17 F 1 dX12_equal_16 rfl rfl rfl ?_
    refine kx_Vi 20 (ci := 0) F (As := [vI a1]) (st := []) vd_X12_422 (e_laysTable G l M a1 hI_M (by omega)) kd_163 rfl rfl rfl ⟨by decide, by decide⟩ rfl rfl (Nat.le_of_ble_eq_true rfl) dX12_equal_17 rfl ?_
    intro r_8 N_9 q_10
    obtain ⟨hI_N_9, hG_N_9, q_10c, hc_N_9⟩ := q_10
    have hF_N_9 : Fr f_e_equal M N_9 := Fr.c hF_M hG_N_9 rfl
    have h_11 := Inv.g hI_N_9 kd_163 rfl 35 (a := 0) (b := 41) rfl rfl
    rcases q_10c with q_10c | q_10c
    · refine kx_if_eq 23 F 31 dX12_equal_20 (by decide) rfl (by omega) (fun h_12 => (by exfalso; omega)) (fun h_12 => ?_)
      refine kx_aload_n 24 F 0 dX12_equal_23 rfl rfl rfl ?_
      refine kx_iload_n 25 F 2 dX12_equal_24 rfl rfl rfl ?_
      refine kx_Vi 28 (ci := 0) F (As := [vI a2]) (st := []) vd_X12_422 (e_laysTable G l N_9 a2 hI_N_9 (by omega)) kd_163 rfl rfl rfl ⟨by decide, by decide⟩ rfl rfl (Nat.le_of_ble_eq_true rfl) dX12_equal_25 rfl ?_
      intro r_13 N_14 q_15
      obtain ⟨hI_N_14, hG_N_14, q_15c, hc_N_14⟩ := q_15
      have hF_N_14 : Fr f_e_equal M N_14 := Fr.c hF_N_9 hG_N_14 rfl
      have h_16 := Inv.g hI_N_14 kd_163 rfl 35 (a := 0) (b := 41) rfl rfl
      rcases q_15c with q_15c | q_15c
      · refine kx_if_ne 31 F 38 dX12_equal_28 (by decide) rfl (by omega) (fun h_17 => ?_) (fun h_17 => (by exfalso; omega))
        refine kx_aload_n 39 F 0 dX12_equal_38 rfl rfl rfl ?_
        refine kx_aload_n 40 F 0 dX12_equal_39 rfl rfl rfl ?_
        refine kx_iload_n 41 F 1 dX12_equal_40 rfl rfl rfl ?_
        refine kx_iload_n 42 F 2 dX12_equal_41 rfl rfl rfl ?_
        have hb_18 : Clo (N_14 164) a2 := by rw [show N_14 164 = N_9 164 from funext (fun j => by rw [Fr.e hG_N_14 kd_164 _ rfl])]; exact hc_N_14 (by omega)
        refine kx_Vi 45 (ci := 0) F (As := [vI a1, vI a2]) (st := [vR G 163]) vd_X12_503 (e_partingOf G l N_14 a1 a2 hI_N_14 (by omega) (YY.fr (YY.fr hY hG_N_9 rfl) hG_N_14 rfl) hb_18) kd_163 rfl rfl rfl ⟨by decide, by decide⟩ rfl rfl (Nat.le_of_ble_eq_true rfl) dX12_equal_42 rfl ?_
        intro r_19 N_20 q_21
        obtain ⟨hI_N_20, hG_N_20, q_21c⟩ := q_21
        have hF_N_20 : Fr f_e_equal M N_20 := Fr.c hF_N_14 hG_N_20 rfl
        refine kx_iconst 46 F dX12_equal_45 rfl ?_
        refine kx_icmp_ne 49 F 63 dX12_equal_46 (by decide) rfl (by omega) (by decide) (fun h_22 => ?_) (fun h_22 => ?_)
        · refine kx_iconst 64 F dX12_equal_63 rfl ?_
          refine kx_Vi 67 (ci := 0) F (As := [vI 0]) (st := []) vd_X12_127 (c_X12_gives G l N_20 0 hI_N_20 (by omega)) kd_163 rfl rfl rfl ⟨by decide, by decide⟩ rfl rfl (Nat.le_of_ble_eq_true rfl) dX12_equal_64 rfl ?_
          intro r_23 N_24 q_25
          obtain ⟨hI_N_24, hG_N_24, q_25c⟩ := q_25
          have hF_N_24 : Fr f_e_equal M N_24 := Fr.c hF_N_20 hG_N_24 rfl
          refine kx_topi (e' := 0) (by omega) ?_
          exact kx_iret F hQ ⟨hI_N_24, hF_N_24, (by omega), (YY.fr (YY.fr (YY.fr (YY.fr hY hG_N_9 rfl) hG_N_14 rfl) hG_N_20 rfl) hG_N_24 rfl)⟩ dX12_equal_67
        · refine kx_aload_n 50 F 0 dX12_equal_49 rfl rfl rfl ?_
          refine kx_iload_n 51 F 2 dX12_equal_50 rfl rfl rfl ?_
          refine kx_iload_n 52 F 1 dX12_equal_51 rfl rfl rfl ?_
          have hb_26 : Clo (N_20 164) a1 := by rw [show N_20 164 = M 164 from funext (fun j => by rw [Fr.e hG_N_20 kd_164 _ rfl, Fr.e hG_N_14 kd_164 _ rfl, Fr.e hG_N_9 kd_164 _ rfl])]; exact hc_N_9 (by omega)
          refine kx_Vi 55 (ci := 0) F (As := [vI a2, vI a1]) (st := [vR G 163]) vd_X12_503 (e_partingOf G l N_20 a2 a1 hI_N_20 (by omega) (YY.fr (YY.fr (YY.fr hY hG_N_9 rfl) hG_N_14 rfl) hG_N_20 rfl) hb_26) kd_163 rfl rfl rfl ⟨by decide, by decide⟩ rfl rfl (Nat.le_of_ble_eq_true rfl) dX12_equal_52 rfl ?_
          intro r_27 N_28 q_29
          obtain ⟨hI_N_28, hG_N_28, q_29c⟩ := q_29
          have hF_N_28 : Fr f_e_equal M N_28 := Fr.c hF_N_20 hG_N_28 rfl
          refine kx_iconst 56 F dX12_equal_55 rfl ?_
          refine kx_icmp_ne 59 F 63 dX12_equal_56 (by decide) rfl (by omega) (by decide) (fun h_30 => ?_) (fun h_30 => ?_)
          · refine kx_iconst 64 F dX12_equal_63 rfl ?_
            refine kx_Vi 67 (ci := 0) F (As := [vI 0]) (st := []) vd_X12_127 (c_X12_gives G l N_28 0 hI_N_28 (by omega)) kd_163 rfl rfl rfl ⟨by decide, by decide⟩ rfl rfl (Nat.le_of_ble_eq_true rfl) dX12_equal_64 rfl ?_
            intro r_31 N_32 q_33
            obtain ⟨hI_N_32, hG_N_32, q_33c⟩ := q_33
            have hF_N_32 : Fr f_e_equal M N_32 := Fr.c hF_N_28 hG_N_32 rfl
            refine kx_topi (e' := 0) (by omega) ?_
            exact kx_iret F hQ ⟨hI_N_32, hF_N_32, (by omega), (YY.fr (YY.fr (YY.fr (YY.fr (YY.fr hY hG_N_9 rfl) hG_N_14 rfl) hG_N_20 rfl) hG_N_28 rfl) hG_N_32 rfl)⟩ dX12_equal_67
          · refine kx_iconst 60 F dX12_equal_59 rfl ?_
            refine kx_goto 64 F dX12_equal_60 (by decide) ?_
            refine kx_Vi 67 (ci := 0) F (As := [vI 1]) (st := []) vd_X12_127 (c_X12_gives G l N_28 1 hI_N_28 (by omega)) kd_163 rfl rfl rfl ⟨by decide, by decide⟩ rfl rfl (Nat.le_of_ble_eq_true rfl) dX12_equal_64 rfl ?_
            intro r_34 N_35 q_36
            obtain ⟨hI_N_35, hG_N_35, q_36c⟩ := q_36
            have hF_N_35 : Fr f_e_equal M N_35 := Fr.c hF_N_28 hG_N_35 rfl
            refine kx_topi (e' := 1) (by omega) ?_
            exact kx_iret F hQ ⟨hI_N_35, hF_N_35, (by omega), (YY.fr (YY.fr (YY.fr (YY.fr (YY.fr hY hG_N_9 rfl) hG_N_14 rfl) hG_N_20 rfl) hG_N_28 rfl) hG_N_35 rfl)⟩ dX12_equal_67
      · refine kx_if_ne 31 F 38 dX12_equal_28 (by decide) rfl (by omega) (fun h_37 => (by exfalso; omega)) (fun h_37 => ?_)
        refine kx_aload_n 32 F 0 dX12_equal_31 rfl rfl rfl ?_
        refine kx_bipush 34 F dX12_equal_32 (by decide) rfl ?_
        refine kx_Vi 37 (ci := 0) F (As := [vI 7]) (st := []) vd_X12_123 (c_X12_refuse G l N_14 7 hI_N_14 (by omega)) kd_163 rfl rfl rfl ⟨by decide, by decide⟩ rfl rfl (Nat.le_of_ble_eq_true rfl) dX12_equal_34 rfl ?_
        intro r_38 N_39 q_40
        obtain ⟨hI_N_39, hG_N_39, q_40c⟩ := q_40
        have hF_N_39 : Fr f_e_equal M N_39 := Fr.c hF_N_14 hG_N_39 rfl
        subst q_40c
        exact kx_iret F hQ ⟨hI_N_39, hF_N_39, (by omega), (YY.fr (YY.fr (YY.fr hY hG_N_9 rfl) hG_N_14 rfl) hG_N_39 rfl)⟩ dX12_equal_37
    · refine kx_if_eq 23 F 31 dX12_equal_20 (by decide) rfl (by omega) (fun h_41 => ?_) (fun h_41 => (by exfalso; omega))
      refine kx_aload_n 32 F 0 dX12_equal_31 rfl rfl rfl ?_
      refine kx_bipush 34 F dX12_equal_32 (by decide) rfl ?_
      refine kx_Vi 37 (ci := 0) F (As := [vI 7]) (st := []) vd_X12_123 (c_X12_refuse G l N_9 7 hI_N_9 (by omega)) kd_163 rfl rfl rfl ⟨by decide, by decide⟩ rfl rfl (Nat.le_of_ble_eq_true rfl) dX12_equal_34 rfl ?_
      intro r_42 N_43 q_44
      obtain ⟨hI_N_43, hG_N_43, q_44c⟩ := q_44
      have hF_N_43 : Fr f_e_equal M N_43 := Fr.c hF_N_9 hG_N_43 rfl
      subst q_44c
      exact kx_iret F hQ ⟨hI_N_43, hF_N_43, (by omega), (YY.fr (YY.fr hY hG_N_9 rfl) hG_N_43 rfl)⟩ dX12_equal_37
  · refine kx_if_ne 9 F 15 dX12_equal_6 (by decide) rfl (by omega) (fun h_45 => (by exfalso; omega)) (fun h_45 => ?_)
    refine kx_aload_n 10 F 0 dX12_equal_9 rfl rfl rfl ?_
    refine kx_iconst 11 F dX12_equal_10 rfl ?_
    refine kx_Vi 14 (ci := 0) F (As := [vI 1]) (st := []) vd_X12_123 (c_X12_refuse G l M 1 hI_M (by omega)) kd_163 rfl rfl rfl ⟨by decide, by decide⟩ rfl rfl (Nat.le_of_ble_eq_true rfl) dX12_equal_11 rfl ?_
    intro r_46 N_47 q_48
    obtain ⟨hI_N_47, hG_N_47, q_48c⟩ := q_48
    have hF_N_47 : Fr f_e_equal M N_47 := Fr.c hF_M hG_N_47 rfl
    subst q_48c
    exact kx_iret F hQ ⟨hI_N_47, hF_N_47, (by omega), (YY.fr hY hG_N_47 rfl)⟩ dX12_equal_14
