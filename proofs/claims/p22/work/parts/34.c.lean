theorem dX12_rule_0 : decode cX12_rule 0 = .ok (.aload_n 0, 1) := by decide +kernel
theorem dX12_rule_1 : decode cX12_rule 1 = .ok (.iload_n 1, 1) := by decide +kernel
theorem dX12_rule_2 : decode cX12_rule 2 = .ok (.iload_n 2, 1) := by decide +kernel
theorem dX12_rule_3 : decode cX12_rule 3 = .ok (.invokevirtual 291, 3) := by decide +kernel
theorem dX12_rule_6 : decode cX12_rule 6 = .ok (.ifCond .eq 12, 3) := by decide +kernel
theorem dX12_rule_9 : decode cX12_rule 9 = .ok (.iload_n 3, 1) := by decide +kernel
theorem dX12_rule_10 : decode cX12_rule 10 = .ok (.ifCond .lt 8, 3) := by decide +kernel
theorem dX12_rule_13 : decode cX12_rule 13 = .ok (.iload_n 3, 1) := by decide +kernel
theorem dX12_rule_14 : decode cX12_rule 14 = .ok (.iconst 3, 1) := by decide +kernel
theorem dX12_rule_15 : decode cX12_rule 15 = .ok (.if_icmp .le 9, 3) := by decide +kernel
theorem dX12_rule_18 : decode cX12_rule 18 = .ok (.aload_n 0, 1) := by decide +kernel
theorem dX12_rule_19 : decode cX12_rule 19 = .ok (.iconst 1, 1) := by decide +kernel
theorem dX12_rule_20 : decode cX12_rule 20 = .ok (.invokevirtual 123, 3) := by decide +kernel
theorem dX12_rule_23 : decode cX12_rule 23 = .ok (.ireturn, 1) := by decide +kernel
theorem dX12_rule_24 : decode cX12_rule 24 = .ok (.aload_n 0, 1) := by decide +kernel
theorem dX12_rule_25 : decode cX12_rule 25 = .ok (.aload_n 0, 1) := by decide +kernel
theorem dX12_rule_26 : decode cX12_rule 26 = .ok (.getfield 7, 3) := by decide +kernel
theorem dX12_rule_29 : decode cX12_rule 29 = .ok (.iconst 0, 1) := by decide +kernel
theorem dX12_rule_30 : decode cX12_rule 30 = .ok (.iload_n 1, 1) := by decide +kernel
theorem dX12_rule_31 : decode cX12_rule 31 = .ok (.iload_n 2, 1) := by decide +kernel
theorem dX12_rule_32 : decode cX12_rule 32 = .ok (.invokestatic 243, 3) := by decide +kernel
theorem dX12_rule_35 : decode cX12_rule 35 = .ok (.iload_n 3, 1) := by decide +kernel
theorem dX12_rule_36 : decode cX12_rule 36 = .ok (.iadd, 1) := by decide +kernel
theorem dX12_rule_37 : decode cX12_rule 37 = .ok (.iaload, 1) := by decide +kernel
theorem dX12_rule_38 : decode cX12_rule 38 = .ok (.invokevirtual 294, 3) := by decide +kernel
theorem dX12_rule_41 : decode cX12_rule 41 = .ok (.ireturn, 1) := by decide +kernel
abbrev f_c_X12_rule : List (Nat × Int) := [(64, 2)]
set_option maxHeartbeats 4000000 in
set_option maxRecDepth 100000 in
theorem c_X12_rule (G : KG) (l : Launch) (M : Mem) (a1 : Int) (a2 : Int) (a3 : Int) (hI_M : Inv true M) (hpre : -2147483648 ≤ a1 ∧ a1 ≤ 2147483647 ∧ -2147483648 ≤ a2 ∧ a2 ≤ 2147483647 ∧ -2147483648 ≤ a3 ∧ a3 ≤ 2147483647) : KC true G l yX12_rule cX12_rule 4 (some .int) (3, 65) [vR G 163, vI a1, vI a2, vI a3] M (fun A => kQi true G A (fun (r : Int) (N : Mem) => Inv true N ∧ Fr f_c_X12_rule M N ∧ (r ≥ -2147483648 ∧ r ≤ 2147483647))) := by
  refine kx_met (lo := [some (vR G 163), some (vI a1), some (vI a2), some (vI a3)]) (by decide) (Nat.le_of_ble_eq_true rfl) rfl ?_
  intro X F hQ
  have hF_M : Fr f_c_X12_rule M M := Fr.rf _ _
  refine kx_aload_n 1 F 0 dX12_rule_0 rfl rfl rfl ?_
  refine kx_iload_n 2 F 1 dX12_rule_1 rfl rfl rfl ?_
  refine kx_iload_n 3 F 2 dX12_rule_2 rfl rfl rfl ?_
  refine kx_Vi 6 (ci := 0) F (As := [vI a1, vI a2]) (st := []) vd_X12_291 (c_X12_isRuleAt G l M a1 a2 hI_M (by omega)) kd_163 rfl rfl rfl ⟨by decide, by decide⟩ rfl rfl (Nat.le_of_ble_eq_true rfl) dX12_rule_3 rfl ?_
  intro r_1 N_2 q_3
  obtain ⟨rfl, q_3c⟩ := q_3
  rcases q_3c with q_3c | q_3c
  · refine kx_if_eq 9 F 18 dX12_rule_6 (by decide) rfl (by omega) (fun h_4 => (by exfalso; omega)) (fun h_4 => ?_)
    refine kx_iload_n 10 F 3 dX12_rule_9 rfl rfl rfl ?_
    refine kx_if_lt 13 F 18 dX12_rule_10 (by decide) rfl (by omega) (fun h_5 => ?_) (fun h_5 => ?_)
    · refine kx_aload_n 19 F 0 dX12_rule_18 rfl rfl rfl ?_
      refine kx_iconst 20 F dX12_rule_19 rfl ?_
      refine kx_Vi 23 (ci := 0) F (As := [vI 1]) (st := []) vd_X12_123 (c_X12_refuse G l M 1 hI_M (by omega)) kd_163 rfl rfl rfl ⟨by decide, by decide⟩ rfl rfl (Nat.le_of_ble_eq_true rfl) dX12_rule_20 rfl ?_
      intro r_6 N_7 q_8
      obtain ⟨hI_N_7, hG_N_7, q_8c⟩ := q_8
      have hF_N_7 : Fr f_c_X12_rule M N_7 := Fr.c hF_M hG_N_7 rfl
      subst q_8c
      exact kx_iret F hQ ⟨hI_N_7, hF_N_7, (by omega)⟩ dX12_rule_23
    · refine kx_iload_n 14 F 3 dX12_rule_13 rfl rfl rfl ?_
      refine kx_iconst 15 F dX12_rule_14 rfl ?_
      refine kx_icmp_le 18 F 24 dX12_rule_15 (by decide) rfl (by omega) (by decide) (fun h_9 => ?_) (fun h_9 => ?_)
      · refine kx_aload_n 25 F 0 dX12_rule_24 rfl rfl rfl ?_
        refine kx_aload_n 26 F 0 dX12_rule_25 rfl rfl rfl ?_
        refine kx_getr 29 F fl_X12_7 kd_163 rfl rfl (j := 0) rfl dX12_rule_26 (v := 164) (uq_164 (Inv.r hI_M kd_163 rfl 0 rfl rfl)) rfl ?_
        refine kx_iconst 30 F dX12_rule_29 rfl ?_
        refine kx_iload_n 31 F 1 dX12_rule_30 rfl rfl rfl ?_
        refine kx_iload_n 32 F 2 dX12_rule_31 rfl rfl rfl ?_
        refine kx_Si 35 F (As := [vI 0, vI a1, vI a2]) (st := [vR G 164, vR G 163]) sd_X12_243 (c_X12_ruleRow G l M 0 a1 a2 hI_M (by omega)) ⟨by decide, by decide⟩ rfl rfl (Nat.le_of_ble_eq_true rfl) dX12_rule_32 rfl ?_
        intro r_10 N_11 q_12
        obtain ⟨rfl, q_12c⟩ := q_12
        refine kx_topi (e' := 85 * a1 + 4 * a2 + 105) (by omega) ?_
        refine kx_iload_n 36 F 3 dX12_rule_35 rfl rfl rfl ?_
        refine kx_iadd 37 F (v := 85 * a1 + 4 * a2 + a3 + 105) dX12_rule_36 (by omega) rfl ?_
        refine kx_iald 38 F kd_164 rfl rfl (by omega) (by decide) dX12_rule_37 (v := (M 164 (85 * a1 + 4 * a2 + a3 + 105))) rfl rfl ?_
        have h_13 := Inv.g hI_M kd_164 rfl (85 * a1 + 4 * a2 + a3 + 105) (a := atlo (85 * a1 + 4 * a2 + a3 + 105)) (b := athi (85 * a1 + 4 * a2 + a3 + 105)) rfl rfl
        have h_14 := at_w (85 * a1 + 4 * a2 + a3 + 105)
        refine kx_Vi 41 (ci := 0) F (As := [vI (M 164 (85 * a1 + 4 * a2 + a3 + 105))]) (st := []) vd_X12_294 (c_X12_orNone G l M (M 164 (85 * a1 + 4 * a2 + a3 + 105)) hI_M (by omega)) kd_163 rfl rfl rfl ⟨by decide, by decide⟩ rfl rfl (Nat.le_of_ble_eq_true rfl) dX12_rule_38 rfl ?_
        intro r_15 N_16 q_17
        obtain ⟨hI_N_16, hG_N_16, q_17c⟩ := q_17
        have hF_N_16 : Fr f_c_X12_rule M N_16 := Fr.c hF_M hG_N_16 rfl
        exact kx_iret F hQ ⟨hI_N_16, hF_N_16, (by omega)⟩ dX12_rule_41
      · refine kx_aload_n 19 F 0 dX12_rule_18 rfl rfl rfl ?_
        refine kx_iconst 20 F dX12_rule_19 rfl ?_
        refine kx_Vi 23 (ci := 0) F (As := [vI 1]) (st := []) vd_X12_123 (c_X12_refuse G l M 1 hI_M (by omega)) kd_163 rfl rfl rfl ⟨by decide, by decide⟩ rfl rfl (Nat.le_of_ble_eq_true rfl) dX12_rule_20 rfl ?_
        intro r_18 N_19 q_20
        obtain ⟨hI_N_19, hG_N_19, q_20c⟩ := q_20
        have hF_N_19 : Fr f_c_X12_rule M N_19 := Fr.c hF_M hG_N_19 rfl
        subst q_20c
        exact kx_iret F hQ ⟨hI_N_19, hF_N_19, (by omega)⟩ dX12_rule_23
  · refine kx_if_eq 9 F 18 dX12_rule_6 (by decide) rfl (by omega) (fun h_21 => ?_) (fun h_21 => (by exfalso; omega))
    refine kx_aload_n 19 F 0 dX12_rule_18 rfl rfl rfl ?_
    refine kx_iconst 20 F dX12_rule_19 rfl ?_
    refine kx_Vi 23 (ci := 0) F (As := [vI 1]) (st := []) vd_X12_123 (c_X12_refuse G l M 1 hI_M (by omega)) kd_163 rfl rfl rfl ⟨by decide, by decide⟩ rfl rfl (Nat.le_of_ble_eq_true rfl) dX12_rule_20 rfl ?_
    intro r_22 N_23 q_24
    obtain ⟨hI_N_23, hG_N_23, q_24c⟩ := q_24
    have hF_N_23 : Fr f_c_X12_rule M N_23 := Fr.c hF_M hG_N_23 rfl
    subst q_24c
    exact kx_iret F hQ ⟨hI_N_23, hF_N_23, (by omega)⟩ dX12_rule_23
theorem dX12_add_0 : decode cX12_add 0 = .ok (.aload_n 0, 1) := by decide +kernel
theorem dX12_add_1 : decode cX12_add 1 = .ok (.iload_n 1, 1) := by decide +kernel
theorem dX12_add_2 : decode cX12_add 2 = .ok (.invokevirtual 282, 3) := by decide +kernel
theorem dX12_add_5 : decode cX12_add 5 = .ok (.ifCond .eq 41, 3) := by decide +kernel
theorem dX12_add_8 : decode cX12_add 8 = .ok (.aload_n 0, 1) := by decide +kernel
theorem dX12_add_9 : decode cX12_add 9 = .ok (.iload_n 2, 1) := by decide +kernel
theorem dX12_add_10 : decode cX12_add 10 = .ok (.invokevirtual 300, 3) := by decide +kernel
theorem dX12_add_13 : decode cX12_add 13 = .ok (.ifCond .eq 33, 3) := by decide +kernel
theorem dX12_add_16 : decode cX12_add 16 = .ok (.aload_n 0, 1) := by decide +kernel
theorem dX12_add_17 : decode cX12_add 17 = .ok (.iload_n 1, 1) := by decide +kernel
theorem dX12_add_18 : decode cX12_add 18 = .ok (.iload_n 3, 1) := by decide +kernel
theorem dX12_add_19 : decode cX12_add 19 = .ok (.invokevirtual 303, 3) := by decide +kernel
theorem dX12_add_22 : decode cX12_add 22 = .ok (.ifCond .eq 24, 3) := by decide +kernel
theorem dX12_add_25 : decode cX12_add 25 = .ok (.aload_n 0, 1) := by decide +kernel
theorem dX12_add_26 : decode cX12_add 26 = .ok (.iload_n 1, 1) := by decide +kernel
theorem dX12_add_27 : decode cX12_add 27 = .ok (.iload 4, 2) := by decide +kernel
theorem dX12_add_29 : decode cX12_add 29 = .ok (.invokevirtual 303, 3) := by decide +kernel
theorem dX12_add_32 : decode cX12_add 32 = .ok (.ifCond .eq 14, 3) := by decide +kernel
theorem dX12_add_35 : decode cX12_add 35 = .ok (.aload_n 0, 1) := by decide +kernel
theorem dX12_add_36 : decode cX12_add 36 = .ok (.iload_n 1, 1) := by decide +kernel
theorem dX12_add_37 : decode cX12_add 37 = .ok (.iload_n 2, 1) := by decide +kernel
theorem dX12_add_38 : decode cX12_add 38 = .ok (.iload 5, 2) := by decide +kernel
theorem dX12_add_40 : decode cX12_add 40 = .ok (.invokevirtual 306, 3) := by decide +kernel
theorem dX12_add_43 : decode cX12_add 43 = .ok (.ifCond .ne 9, 3) := by decide +kernel
theorem dX12_add_46 : decode cX12_add 46 = .ok (.aload_n 0, 1) := by decide +kernel
theorem dX12_add_47 : decode cX12_add 47 = .ok (.iconst 1, 1) := by decide +kernel
theorem dX12_add_48 : decode cX12_add 48 = .ok (.invokevirtual 123, 3) := by decide +kernel
theorem dX12_add_51 : decode cX12_add 51 = .ok (.ireturn, 1) := by decide +kernel
theorem dX12_add_52 : decode cX12_add 52 = .ok (.aload_n 0, 1) := by decide +kernel
theorem dX12_add_53 : decode cX12_add 53 = .ok (.iload_n 1, 1) := by decide +kernel
theorem dX12_add_54 : decode cX12_add 54 = .ok (.iconst 4, 1) := by decide +kernel
theorem dX12_add_55 : decode cX12_add 55 = .ok (.invokevirtual 288, 3) := by decide +kernel
theorem dX12_add_58 : decode cX12_add 58 = .ok (.istore 6, 2) := by decide +kernel
theorem dX12_add_60 : decode cX12_add 60 = .ok (.iload 6, 2) := by decide +kernel
theorem dX12_add_62 : decode cX12_add 62 = .ok (.bipush 20, 2) := by decide +kernel
theorem dX12_add_64 : decode cX12_add 64 = .ok (.if_icmp .ne 9, 3) := by decide +kernel
theorem dX12_add_67 : decode cX12_add 67 = .ok (.aload_n 0, 1) := by decide +kernel
theorem dX12_add_68 : decode cX12_add 68 = .ok (.iconst 4, 1) := by decide +kernel
theorem dX12_add_69 : decode cX12_add 69 = .ok (.invokevirtual 123, 3) := by decide +kernel
theorem dX12_add_72 : decode cX12_add 72 = .ok (.ireturn, 1) := by decide +kernel
theorem dX12_add_73 : decode cX12_add 73 = .ok (.aload_n 0, 1) := by decide +kernel
theorem dX12_add_74 : decode cX12_add 74 = .ok (.iconst 0, 1) := by decide +kernel
theorem dX12_add_75 : decode cX12_add 75 = .ok (.iload_n 1, 1) := by decide +kernel
theorem dX12_add_76 : decode cX12_add 76 = .ok (.iload 6, 2) := by decide +kernel
theorem dX12_add_78 : decode cX12_add 78 = .ok (.iload_n 2, 1) := by decide +kernel
theorem dX12_add_79 : decode cX12_add 79 = .ok (.iload_n 3, 1) := by decide +kernel
theorem dX12_add_80 : decode cX12_add 80 = .ok (.iload 4, 2) := by decide +kernel
theorem dX12_add_82 : decode cX12_add 82 = .ok (.iload 5, 2) := by decide +kernel
theorem dX12_add_84 : decode cX12_add 84 = .ok (.invokevirtual 253, 3) := by decide +kernel
theorem dX12_add_87 : decode cX12_add 87 = .ok (.ifCond .eq 10, 3) := by decide +kernel
theorem dX12_add_90 : decode cX12_add 90 = .ok (.aload_n 0, 1) := by decide +kernel
theorem dX12_add_91 : decode cX12_add 91 = .ok (.bipush 7, 2) := by decide +kernel
theorem dX12_add_93 : decode cX12_add 93 = .ok (.invokevirtual 123, 3) := by decide +kernel
theorem dX12_add_96 : decode cX12_add 96 = .ok (.ireturn, 1) := by decide +kernel
theorem dX12_add_97 : decode cX12_add 97 = .ok (.iconst 0, 1) := by decide +kernel
theorem dX12_add_98 : decode cX12_add 98 = .ok (.iload_n 1, 1) := by decide +kernel
theorem dX12_add_99 : decode cX12_add 99 = .ok (.iload 6, 2) := by decide +kernel
theorem dX12_add_101 : decode cX12_add 101 = .ok (.invokestatic 243, 3) := by decide +kernel
theorem dX12_add_104 : decode cX12_add 104 = .ok (.istore 7, 2) := by decide +kernel
theorem dX12_add_106 : decode cX12_add 106 = .ok (.aload_n 0, 1) := by decide +kernel
theorem dX12_add_107 : decode cX12_add 107 = .ok (.getfield 7, 3) := by decide +kernel
theorem dX12_add_110 : decode cX12_add 110 = .ok (.iload 7, 2) := by decide +kernel
theorem dX12_add_112 : decode cX12_add 112 = .ok (.iload_n 2, 1) := by decide +kernel
theorem dX12_add_113 : decode cX12_add 113 = .ok (.iastore, 1) := by decide +kernel
theorem dX12_add_114 : decode cX12_add 114 = .ok (.aload_n 0, 1) := by decide +kernel
theorem dX12_add_115 : decode cX12_add 115 = .ok (.getfield 7, 3) := by decide +kernel
theorem dX12_add_118 : decode cX12_add 118 = .ok (.iload 7, 2) := by decide +kernel
theorem dX12_add_120 : decode cX12_add 120 = .ok (.iconst 1, 1) := by decide +kernel
theorem dX12_add_121 : decode cX12_add 121 = .ok (.iadd, 1) := by decide +kernel
theorem dX12_add_122 : decode cX12_add 122 = .ok (.iload_n 3, 1) := by decide +kernel
theorem dX12_add_123 : decode cX12_add 123 = .ok (.iastore, 1) := by decide +kernel
theorem dX12_add_124 : decode cX12_add 124 = .ok (.aload_n 0, 1) := by decide +kernel
theorem dX12_add_125 : decode cX12_add 125 = .ok (.getfield 7, 3) := by decide +kernel
theorem dX12_add_128 : decode cX12_add 128 = .ok (.iload 7, 2) := by decide +kernel
theorem dX12_add_130 : decode cX12_add 130 = .ok (.iconst 2, 1) := by decide +kernel
theorem dX12_add_131 : decode cX12_add 131 = .ok (.iadd, 1) := by decide +kernel
theorem dX12_add_132 : decode cX12_add 132 = .ok (.iload 4, 2) := by decide +kernel
theorem dX12_add_134 : decode cX12_add 134 = .ok (.iastore, 1) := by decide +kernel
theorem dX12_add_135 : decode cX12_add 135 = .ok (.aload_n 0, 1) := by decide +kernel
theorem dX12_add_136 : decode cX12_add 136 = .ok (.getfield 7, 3) := by decide +kernel
theorem dX12_add_139 : decode cX12_add 139 = .ok (.iload 7, 2) := by decide +kernel
theorem dX12_add_141 : decode cX12_add 141 = .ok (.iconst 3, 1) := by decide +kernel
theorem dX12_add_142 : decode cX12_add 142 = .ok (.iadd, 1) := by decide +kernel
theorem dX12_add_143 : decode cX12_add 143 = .ok (.iload 5, 2) := by decide +kernel
theorem dX12_add_145 : decode cX12_add 145 = .ok (.iastore, 1) := by decide +kernel
theorem dX12_add_146 : decode cX12_add 146 = .ok (.aload_n 0, 1) := by decide +kernel
theorem dX12_add_147 : decode cX12_add 147 = .ok (.getfield 7, 3) := by decide +kernel
theorem dX12_add_150 : decode cX12_add 150 = .ok (.iconst 0, 1) := by decide +kernel
theorem dX12_add_151 : decode cX12_add 151 = .ok (.iload_n 1, 1) := by decide +kernel
theorem dX12_add_152 : decode cX12_add 152 = .ok (.invokestatic 216, 3) := by decide +kernel
theorem dX12_add_155 : decode cX12_add 155 = .ok (.iconst 4, 1) := by decide +kernel
theorem dX12_add_156 : decode cX12_add 156 = .ok (.iadd, 1) := by decide +kernel
theorem dX12_add_157 : decode cX12_add 157 = .ok (.dup2, 1) := by decide +kernel
theorem dX12_add_158 : decode cX12_add 158 = .ok (.iaload, 1) := by decide +kernel
theorem dX12_add_159 : decode cX12_add 159 = .ok (.iconst 1, 1) := by decide +kernel
theorem dX12_add_160 : decode cX12_add 160 = .ok (.iadd, 1) := by decide +kernel
theorem dX12_add_161 : decode cX12_add 161 = .ok (.iastore, 1) := by decide +kernel
theorem dX12_add_162 : decode cX12_add 162 = .ok (.aload_n 0, 1) := by decide +kernel
theorem dX12_add_163 : decode cX12_add 163 = .ok (.iload 6, 2) := by decide +kernel
theorem dX12_add_165 : decode cX12_add 165 = .ok (.iconst 1, 1) := by decide +kernel
theorem dX12_add_166 : decode cX12_add 166 = .ok (.iadd, 1) := by decide +kernel
theorem dX12_add_167 : decode cX12_add 167 = .ok (.invokevirtual 127, 3) := by decide +kernel
theorem dX12_add_170 : decode cX12_add 170 = .ok (.ireturn, 1) := by decide +kernel
abbrev f_c_X12_add : List (Nat × Int) := [(64, 2), (65, -1)]
set_option maxHeartbeats 4000000 in
set_option maxRecDepth 100000 in
theorem c_X12_add (G : KG) (l : Launch) (M : Mem) (a1 : Int) (a2 : Int) (a3 : Int) (a4 : Int) (a5 : Int) (hI_M : Inv true M) (hpre : -2147483648 ≤ a1 ∧ a1 ≤ 2147483647 ∧ -2147483648 ≤ a2 ∧ a2 ≤ 2147483647 ∧ -2147483648 ≤ a3 ∧ a3 ≤ 2147483647 ∧ -2147483648 ≤ a4 ∧ a4 ≤ 2147483647 ∧ -2147483648 ≤ a5 ∧ a5 ≤ 2147483647) (hY : YY M) : KC true G l yX12_add cX12_add 8 (some .int) (3, 72) [vR G 163, vI a1, vI a2, vI a3, vI a4, vI a5] M (fun A => kQi true G A (fun (r : Int) (N : Mem) => Inv true N ∧ Fr f_c_X12_add M N ∧ (r ≥ -1 ∧ r ≤ 20) ∧ (YY N))) := by
  refine kx_met (lo := [some (vR G 163), some (vI a1), some (vI a2), some (vI a3), some (vI a4), some (vI a5), none, none]) (by decide) (Nat.le_of_ble_eq_true rfl) rfl ?_
  intro X F hQ
  have hF_M : Fr f_c_X12_add M M := Fr.rf _ _
  have h_1 := Inv.g hI_M kd_164 rfl 0 (a := 0) (b := 2) (at_c 0 0 (o := 0) (lo := 0) (hi := 2) (by omega) (by decide) (by decide) (by decide)).1 (at_c 0 0 (o := 0) (lo := 0) (hi := 2) (by omega) (by decide) (by decide) (by decide)).2
  have h_2 := Inv.g hI_M kd_164 rfl 1 (a := 0) (b := 2) (at_c 1 0 (o := 1) (lo := 0) (hi := 2) (by omega) (by decide) (by decide) (by decide)).1 (at_c 1 0 (o := 1) (lo := 0) (hi := 2) (by omega) (by decide) (by decide) (by decide)).2
  have h_3 := Inv.g hI_M kd_164 rfl 2 (a := 0) (b := 2) (at_c 2 0 (o := 2) (lo := 0) (hi := 2) (by omega) (by decide) (by decide) (by decide)).1 (at_c 2 0 (o := 2) (lo := 0) (hi := 2) (by omega) (by decide) (by decide) (by decide)).2
  refine kx_aload_n 1 F 0 dX12_add_0 rfl rfl rfl ?_
  refine kx_iload_n 2 F 1 dX12_add_1 rfl rfl rfl ?_
  refine kx_Vi 5 (ci := 0) F (As := [vI a1]) (st := []) vd_X12_282 (c_X12_isAutomaton G l M a1 hI_M (by omega)) kd_163 rfl rfl rfl ⟨by decide, by decide⟩ rfl rfl (Nat.le_of_ble_eq_true rfl) dX12_add_2 rfl ?_
  intro r_4 N_5 q_6
  obtain ⟨rfl, q_6c⟩ := q_6
  rcases q_6c with q_6c | q_6c
  · refine kx_if_eq 8 F 46 dX12_add_5 (by decide) rfl (by omega) (fun h_7 => (by exfalso; omega)) (fun h_7 => ?_)
    refine kx_aload_n 9 F 0 dX12_add_8 rfl rfl rfl ?_
    refine kx_iload_n 10 F 2 dX12_add_9 rfl rfl rfl ?_
    refine kx_Vi 13 (ci := 0) F (As := [vI a2]) (st := []) vd_X12_300 (c_isLetterE G l M a2 hI_M (by omega)) kd_163 rfl rfl rfl ⟨by decide, by decide⟩ rfl rfl (Nat.le_of_ble_eq_true rfl) dX12_add_10 rfl ?_
    intro r_8 N_9 q_10
    obtain ⟨rfl, q_10c⟩ := q_10
    rcases q_10c with q_10c | q_10c
    · refine kx_if_eq 16 F 46 dX12_add_13 (by decide) rfl (by omega) (fun h_11 => (by exfalso; omega)) (fun h_11 => ?_)
      refine kx_aload_n 17 F 0 dX12_add_16 rfl rfl rfl ?_
      refine kx_iload_n 18 F 1 dX12_add_17 rfl rfl rfl ?_
      refine kx_iload_n 19 F 3 dX12_add_18 rfl rfl rfl ?_
      refine kx_Vi 22 (ci := 0) F (As := [vI a1, vI a3]) (st := []) vd_X12_303 (c_X12_isState G l M a1 a3 hI_M (by omega)) kd_163 rfl rfl rfl ⟨by decide, by decide⟩ rfl rfl (Nat.le_of_ble_eq_true rfl) dX12_add_19 rfl ?_
      intro r_12 N_13 q_14
      obtain ⟨rfl, q_14c⟩ := q_14
      rcases q_14c with q_14c | q_14c | q_14c
      · refine kx_if_eq 25 F 46 dX12_add_22 (by decide) rfl (by omega) (fun h_15 => (by exfalso; omega)) (fun h_15 => ?_)
        refine kx_aload_n 26 F 0 dX12_add_25 rfl rfl rfl ?_
        refine kx_iload_n 27 F 1 dX12_add_26 rfl rfl rfl ?_
        refine kx_iload 29 F 4 dX12_add_27 rfl rfl ?_
        refine kx_Vi 32 (ci := 0) F (As := [vI a1, vI a4]) (st := []) vd_X12_303 (c_X12_isState G l M a1 a4 hI_M (by omega)) kd_163 rfl rfl rfl ⟨by decide, by decide⟩ rfl rfl (Nat.le_of_ble_eq_true rfl) dX12_add_29 rfl ?_
        intro r_16 N_17 q_18
        obtain ⟨rfl, q_18c⟩ := q_18
        rcases q_18c with q_18c | q_18c | q_18c
        · refine kx_if_eq 35 F 46 dX12_add_32 (by decide) rfl (by omega) (fun h_19 => (by exfalso; omega)) (fun h_19 => ?_)
          refine kx_aload_n 36 F 0 dX12_add_35 rfl rfl rfl ?_
          refine kx_iload_n 37 F 1 dX12_add_36 rfl rfl rfl ?_
          refine kx_iload_n 38 F 2 dX12_add_37 rfl rfl rfl ?_
          refine kx_iload 40 F 5 dX12_add_38 rfl rfl ?_
          refine kx_Vi 43 (ci := 0) F (As := [vI a1, vI a2, vI a5]) (st := []) vd_X12_306 (c_X12_isSymbol G l M a1 a2 a5 hI_M (by omega)) kd_163 rfl rfl rfl ⟨by decide, by decide⟩ rfl rfl (Nat.le_of_ble_eq_true rfl) dX12_add_40 rfl ?_
          intro r_20 N_21 q_22
          obtain ⟨rfl, q_22c⟩ := q_22
          rcases q_22c with q_22c | q_22c
          · refine kx_if_ne 46 F 52 dX12_add_43 (by decide) rfl (by omega) (fun h_23 => ?_) (fun h_23 => (by exfalso; omega))
            refine kx_aload_n 53 F 0 dX12_add_52 rfl rfl rfl ?_
            refine kx_iload_n 54 F 1 dX12_add_53 rfl rfl rfl ?_
            refine kx_iconst 55 F dX12_add_54 rfl ?_
            refine kx_Vi 58 (ci := 0) F (As := [vI a1, vI 4]) (st := []) vd_X12_288 (c_of4 G l M a1 4 hI_M (by omega)) kd_163 rfl rfl rfl ⟨by decide, by decide⟩ rfl rfl (Nat.le_of_ble_eq_true rfl) dX12_add_55 rfl ?_
            intro r_24 N_25 q_26
            obtain ⟨rfl, q_26c⟩ := q_26
            rcases q_26c with q_26c | q_26c
            · exfalso; omega
            · refine kx_istore 60 F 6 (lo' := [some (vR G 163), some (vI a1), some (vI a2), some (vI a3), some (vI a4), some (vI a5), some (vI r_24), none]) dX12_add_58 (by decide) rfl rfl rfl ?_
              refine kx_iload 62 F 6 dX12_add_60 rfl rfl ?_
              refine kx_bipush 64 F dX12_add_62 (by decide) rfl ?_
              refine kx_icmp_ne 67 F 73 dX12_add_64 (by decide) rfl (by omega) (by decide) (fun h_27 => ?_) (fun h_27 => ?_)
              · refine kx_aload_n 74 F 0 dX12_add_73 rfl rfl rfl ?_
                refine kx_iconst 75 F dX12_add_74 rfl ?_
                refine kx_iload_n 76 F 1 dX12_add_75 rfl rfl rfl ?_
                refine kx_iload 78 F 6 dX12_add_76 rfl rfl ?_
                refine kx_iload_n 79 F 2 dX12_add_78 rfl rfl rfl ?_
                refine kx_iload_n 80 F 3 dX12_add_79 rfl rfl rfl ?_
                refine kx_iload 82 F 4 dX12_add_80 rfl rfl ?_
                refine kx_iload 84 F 5 dX12_add_82 rfl rfl ?_
                refine kx_Vi 87 (ci := 0) F (As := [vI 0, vI a1, vI r_24, vI a2, vI a3, vI a4, vI a5]) (st := []) vd_X12_253 (c_isRule0 G l M 0 a1 r_24 a2 a3 a4 a5 hI_M (by omega)) kd_163 rfl rfl rfl ⟨by decide, by decide⟩ rfl rfl (Nat.le_of_ble_eq_true rfl) dX12_add_84 rfl ?_
                intro r_28 N_29 q_30
                obtain ⟨rfl, q_30c⟩ := q_30
                refine kx_if_eq 90 F 97 dX12_add_87 (by decide) rfl (by omega) (fun h_31 => ?_) (fun h_31 => ?_)
                · refine kx_iconst 98 F dX12_add_97 rfl ?_
                  refine kx_iload_n 99 F 1 dX12_add_98 rfl rfl rfl ?_
                  refine kx_iload 101 F 6 dX12_add_99 rfl rfl ?_
                  refine kx_Si 104 F (As := [vI 0, vI a1, vI r_24]) (st := []) sd_X12_243 (c_X12_ruleRow G l M 0 a1 r_24 hI_M (by omega)) ⟨by decide, by decide⟩ rfl rfl (Nat.le_of_ble_eq_true rfl) dX12_add_101 rfl ?_
                  intro r_32 N_33 q_34
                  obtain ⟨rfl, q_34c⟩ := q_34
                  refine kx_topi (e' := 85 * a1 + 4 * r_24 + 105) (by omega) ?_
                  refine kx_istore 106 F 7 (lo' := [some (vR G 163), some (vI a1), some (vI a2), some (vI a3), some (vI a4), some (vI a5), some (vI r_24), some (vI (85 * a1 + 4 * r_24 + 105))]) dX12_add_104 (by decide) rfl rfl rfl ?_
                  refine kx_aload_n 107 F 0 dX12_add_106 rfl rfl rfl ?_
                  refine kx_getr 110 F fl_X12_7 kd_163 rfl rfl (j := 0) rfl dX12_add_107 (v := 164) (uq_164 (Inv.r hI_M kd_163 rfl 0 rfl rfl)) rfl ?_
                  refine kx_iload 112 F 7 dX12_add_110 rfl rfl ?_
                  refine kx_iload_n 113 F 2 dX12_add_112 rfl rfl rfl ?_
                  refine kx_iast 114 F kd_164 rfl rfl (by omega) (by decide) dX12_add_113 rfl ?_
                  intro N_35 hM_N_35
                  have ha_36 : atlo (85 * a1 + 4 * r_24 + 105) = 0 ∧ athi (85 * a1 + 4 * r_24 + 105) = 5 := at_r (85 * a1 + 4 * r_24 + 105) 0 a1 r_24 0 (by omega) (by omega) (by omega) (by decide)
                  have hI_N_35 : Inv true N_35 := Inv.u hI_M hM_N_35 kd_164 (a := 0) (b := 5) ha_36.1 ha_36.2 rfl (by omega)
                  have hF_N_35 : Fr f_c_X12_add M N_35 := Fr.u hF_M hM_N_35 kd_164 rfl
                  refine kx_aload_n 115 F 0 dX12_add_114 rfl rfl rfl ?_
                  refine kx_getr 118 F fl_X12_7 kd_163 rfl rfl (j := 0) rfl dX12_add_115 (v := 164) (uq_164 (Inv.r hI_N_35 kd_163 rfl 0 rfl rfl)) rfl ?_
                  refine kx_iload 120 F 7 dX12_add_118 rfl rfl ?_
                  refine kx_iconst 121 F dX12_add_120 rfl ?_
                  refine kx_iadd 122 F (v := 85 * a1 + 4 * r_24 + 106) dX12_add_121 (by omega) rfl ?_
                  refine kx_iload_n 123 F 3 dX12_add_122 rfl rfl rfl ?_
                  refine kx_iast 124 F kd_164 rfl rfl (by omega) (by decide) dX12_add_123 rfl ?_
                  intro N_37 hM_N_37
                  have ha_38 : atlo (85 * a1 + 4 * r_24 + 106) = 0 ∧ athi (85 * a1 + 4 * r_24 + 106) = 2 := at_r (85 * a1 + 4 * r_24 + 106) 0 a1 r_24 1 (by omega) (by omega) (by omega) (by decide)
                  have hI_N_37 : Inv true N_37 := Inv.u hI_N_35 hM_N_37 kd_164 (a := 0) (b := 2) ha_38.1 ha_38.2 rfl (by omega)
                  have hF_N_37 : Fr f_c_X12_add M N_37 := Fr.u hF_N_35 hM_N_37 kd_164 rfl
                  refine kx_aload_n 125 F 0 dX12_add_124 rfl rfl rfl ?_
                  refine kx_getr 128 F fl_X12_7 kd_163 rfl rfl (j := 0) rfl dX12_add_125 (v := 164) (uq_164 (Inv.r hI_N_37 kd_163 rfl 0 rfl rfl)) rfl ?_
                  refine kx_iload 130 F 7 dX12_add_128 rfl rfl ?_
                  refine kx_iconst 131 F dX12_add_130 rfl ?_
                  refine kx_iadd 132 F (v := 85 * a1 + 4 * r_24 + 107) dX12_add_131 (by omega) rfl ?_
                  refine kx_iload 134 F 4 dX12_add_132 rfl rfl ?_
                  refine kx_iast 135 F kd_164 rfl rfl (by omega) (by decide) dX12_add_134 rfl ?_
                  intro N_39 hM_N_39
                  have ha_40 : atlo (85 * a1 + 4 * r_24 + 107) = 0 ∧ athi (85 * a1 + 4 * r_24 + 107) = 2 := at_r (85 * a1 + 4 * r_24 + 107) 0 a1 r_24 2 (by omega) (by omega) (by omega) (by decide)
                  have hI_N_39 : Inv true N_39 := Inv.u hI_N_37 hM_N_39 kd_164 (a := 0) (b := 2) ha_40.1 ha_40.2 rfl (by omega)
                  have hF_N_39 : Fr f_c_X12_add M N_39 := Fr.u hF_N_37 hM_N_39 kd_164 rfl
                  refine kx_aload_n 136 F 0 dX12_add_135 rfl rfl rfl ?_
                  refine kx_getr 139 F fl_X12_7 kd_163 rfl rfl (j := 0) rfl dX12_add_136 (v := 164) (uq_164 (Inv.r hI_N_39 kd_163 rfl 0 rfl rfl)) rfl ?_
                  refine kx_iload 141 F 7 dX12_add_139 rfl rfl ?_
                  refine kx_iconst 142 F dX12_add_141 rfl ?_
                  refine kx_iadd 143 F (v := 85 * a1 + 4 * r_24 + 108) dX12_add_142 (by omega) rfl ?_
                  refine kx_iload 145 F 5 dX12_add_143 rfl rfl ?_
                  refine kx_iast 146 F kd_164 rfl rfl (by omega) (by decide) dX12_add_145 rfl ?_
                  intro N_41 hM_N_41
                  have ha_42 : atlo (85 * a1 + 4 * r_24 + 108) = (-1) ∧ athi (85 * a1 + 4 * r_24 + 108) = 2 := at_r (85 * a1 + 4 * r_24 + 108) 0 a1 r_24 3 (by omega) (by omega) (by omega) (by decide)
                  have hI_N_41 : Inv true N_41 := Inv.u hI_N_39 hM_N_41 kd_164 (a := (-1)) (b := 2) ha_42.1 ha_42.2 rfl (by omega)
                  have hF_N_41 : Fr f_c_X12_add M N_41 := Fr.u hF_N_39 hM_N_41 kd_164 rfl
                  refine kx_aload_n 147 F 0 dX12_add_146 rfl rfl rfl ?_
                  refine kx_getr 150 F fl_X12_7 kd_163 rfl rfl (j := 0) rfl dX12_add_147 (v := 164) (uq_164 (Inv.r hI_N_41 kd_163 rfl 0 rfl rfl)) rfl ?_
                  refine kx_iconst 151 F dX12_add_150 rfl ?_
                  refine kx_iload_n 152 F 1 dX12_add_151 rfl rfl rfl ?_
                  refine kx_Si 155 F (As := [vI 0, vI a1]) (st := [vR G 164]) sd_X12_216 (c_X12_rowOf G l N_41 0 a1 hI_N_41 (by omega)) ⟨by decide, by decide⟩ rfl rfl (Nat.le_of_ble_eq_true rfl) dX12_add_152 rfl ?_
                  intro r_43 N_44 q_45
                  obtain ⟨rfl, q_45c⟩ := q_45
                  refine kx_topi (e' := 85 * a1 + 100) (by omega) ?_
                  refine kx_iconst 156 F dX12_add_155 rfl ?_
                  refine kx_iadd 157 F (v := 85 * a1 + 104) dX12_add_156 (by omega) rfl ?_
                  refine kx_dup2 158 F dX12_add_157 rfl rfl rfl ?_
                  refine kx_iald 159 F kd_164 rfl rfl (by omega) (by decide) dX12_add_158 (v := (M 164 (85 * a1 + 104))) (by rw [hM_N_41, mu_i (by omega), hM_N_39, mu_i (by omega), hM_N_37, mu_i (by omega), hM_N_35, mu_i (by omega)]) rfl ?_
                  have ha_46 : atlo (85 * a1 + 104) = 0 ∧ athi (85 * a1 + 104) = 20 := at_a (85 * a1 + 104) 0 a1 4 (by omega) (by omega) (by decide)
                  have h_47 := Inv.g hI_M kd_164 rfl (85 * a1 + 104) (a := 0) (b := 20) ha_46.1 ha_46.2
                  refine kx_iconst 160 F dX12_add_159 rfl ?_
                  refine kx_iadd 161 F (v := (M 164 (85 * a1 + 104)) + 1) dX12_add_160 rfl rfl ?_
                  refine kx_iast 162 F kd_164 rfl rfl (by omega) (by decide) dX12_add_161 rfl ?_
                  intro N_48 hM_N_48
                  have hI_N_48 : Inv true N_48 := Inv.u hI_N_41 hM_N_48 kd_164 (a := 0) (b := 20) ha_46.1 ha_46.2 rfl (by omega)
                  have hF_N_48 : Fr f_c_X12_add M N_48 := Fr.u hF_N_41 hM_N_48 kd_164 rfl
                  refine kx_aload_n 163 F 0 dX12_add_162 rfl rfl rfl ?_
                  refine kx_iload 165 F 6 dX12_add_163 rfl rfl ?_
                  refine kx_iconst 166 F dX12_add_165 rfl ?_
                  refine kx_iadd 167 F (v := r_24 + 1) dX12_add_166 rfl rfl ?_
                  refine kx_Vi 170 (ci := 0) F (As := [vI (r_24 + 1)]) (st := []) vd_X12_127 (c_X12_gives G l N_48 (r_24 + 1) hI_N_48 (by omega)) kd_163 rfl rfl rfl ⟨by decide, by decide⟩ rfl rfl (Nat.le_of_ble_eq_true rfl) dX12_add_167 rfl ?_
                  intro r_49 N_50 q_51
                  obtain ⟨hI_N_50, hG_N_50, q_51c⟩ := q_51
                  have hF_N_50 : Fr f_c_X12_add M N_50 := Fr.c hF_N_48 hG_N_50 rfl
                  refine kx_topi (e' := r_24 + 1) (by omega) ?_
                  have e_52 : M 164 (104 + 85 * a1) = M 164 (85 * a1 + 104) := by rw [show 104 + 85 * a1 = 85 * a1 + 104 by omega]
                  have e_53 : M 164 (100 + 85 * a1) = M 164 (85 * a1 + 100) := by rw [show 100 + 85 * a1 = 85 * a1 + 100 by omega]
                  have e_54 : N_50 164 (104 + 85 * a1) = (M 164 (85 * a1 + 104)) + 1 := by rw [show 104 + 85 * a1 = 85 * a1 + 104 by omega, Fr.e hG_N_50 kd_164 _ rfl, hM_N_48, mu_s]
                  have e_55 : N_50 164 (106 + 85 * a1 + 4 * r_24) = a3 := by rw [show 106 + 85 * a1 + 4 * r_24 = 85 * a1 + 4 * r_24 + 106 by omega, Fr.e hG_N_50 kd_164 _ rfl, hM_N_48, mu_i (by omega), hM_N_41, mu_i (by omega), hM_N_39, mu_i (by omega), hM_N_37, mu_s]
                  have e_56 : N_50 164 (107 + 85 * a1 + 4 * r_24) = a4 := by rw [show 107 + 85 * a1 + 4 * r_24 = 85 * a1 + 4 * r_24 + 107 by omega, Fr.e hG_N_50 kd_164 _ rfl, hM_N_48, mu_i (by omega), hM_N_41, mu_i (by omega), hM_N_39, mu_s]
                  exact kx_iret F hQ ⟨hI_N_50, hF_N_50, (by omega), (YY.rule hY hI_M a1 r_24 (by omega) (by omega) (fun j hj h0 => by rw [Fr.e hG_N_50 kd_164 _ rfl, hM_N_48, mu_i (by omega), hM_N_41, mu_i (by omega), hM_N_39, mu_i (by omega), hM_N_37, mu_i (by omega), hM_N_35, mu_i (by omega)]) (by omega) (by omega) (by omega))⟩ dX12_add_170
                · refine kx_aload_n 91 F 0 dX12_add_90 rfl rfl rfl ?_
                  refine kx_bipush 93 F dX12_add_91 (by decide) rfl ?_
                  refine kx_Vi 96 (ci := 0) F (As := [vI 7]) (st := []) vd_X12_123 (c_X12_refuse G l M 7 hI_M (by omega)) kd_163 rfl rfl rfl ⟨by decide, by decide⟩ rfl rfl (Nat.le_of_ble_eq_true rfl) dX12_add_93 rfl ?_
                  intro r_57 N_58 q_59
                  obtain ⟨hI_N_58, hG_N_58, q_59c⟩ := q_59
                  have hF_N_58 : Fr f_c_X12_add M N_58 := Fr.c hF_M hG_N_58 rfl
                  subst q_59c
                  exact kx_iret F hQ ⟨hI_N_58, hF_N_58, (by omega), (YY.fr hY hG_N_58 rfl)⟩ dX12_add_96
              · refine kx_aload_n 68 F 0 dX12_add_67 rfl rfl rfl ?_
                refine kx_iconst 69 F dX12_add_68 rfl ?_
                refine kx_Vi 72 (ci := 0) F (As := [vI 4]) (st := []) vd_X12_123 (c_X12_refuse G l M 4 hI_M (by omega)) kd_163 rfl rfl rfl ⟨by decide, by decide⟩ rfl rfl (Nat.le_of_ble_eq_true rfl) dX12_add_69 rfl ?_
                intro r_60 N_61 q_62
                obtain ⟨hI_N_61, hG_N_61, q_62c⟩ := q_62
                have hF_N_61 : Fr f_c_X12_add M N_61 := Fr.c hF_M hG_N_61 rfl
                subst q_62c
                exact kx_iret F hQ ⟨hI_N_61, hF_N_61, (by omega), (YY.fr hY hG_N_61 rfl)⟩ dX12_add_72
          · refine kx_if_ne 46 F 52 dX12_add_43 (by decide) rfl (by omega) (fun h_63 => (by exfalso; omega)) (fun h_63 => ?_)
            refine kx_aload_n 47 F 0 dX12_add_46 rfl rfl rfl ?_
            refine kx_iconst 48 F dX12_add_47 rfl ?_
            refine kx_Vi 51 (ci := 0) F (As := [vI 1]) (st := []) vd_X12_123 (c_X12_refuse G l M 1 hI_M (by omega)) kd_163 rfl rfl rfl ⟨by decide, by decide⟩ rfl rfl (Nat.le_of_ble_eq_true rfl) dX12_add_48 rfl ?_
            intro r_64 N_65 q_66
            obtain ⟨hI_N_65, hG_N_65, q_66c⟩ := q_66
            have hF_N_65 : Fr f_c_X12_add M N_65 := Fr.c hF_M hG_N_65 rfl
            subst q_66c
            exact kx_iret F hQ ⟨hI_N_65, hF_N_65, (by omega), (YY.fr hY hG_N_65 rfl)⟩ dX12_add_51
        · exfalso; omega
        · refine kx_if_eq 35 F 46 dX12_add_32 (by decide) rfl (by omega) (fun h_67 => ?_) (fun h_67 => (by exfalso; omega))
          refine kx_aload_n 47 F 0 dX12_add_46 rfl rfl rfl ?_
          refine kx_iconst 48 F dX12_add_47 rfl ?_
          refine kx_Vi 51 (ci := 0) F (As := [vI 1]) (st := []) vd_X12_123 (c_X12_refuse G l M 1 hI_M (by omega)) kd_163 rfl rfl rfl ⟨by decide, by decide⟩ rfl rfl (Nat.le_of_ble_eq_true rfl) dX12_add_48 rfl ?_
          intro r_68 N_69 q_70
          obtain ⟨hI_N_69, hG_N_69, q_70c⟩ := q_70
          have hF_N_69 : Fr f_c_X12_add M N_69 := Fr.c hF_M hG_N_69 rfl
          subst q_70c
          exact kx_iret F hQ ⟨hI_N_69, hF_N_69, (by omega), (YY.fr hY hG_N_69 rfl)⟩ dX12_add_51
      · exfalso; omega
      · refine kx_if_eq 25 F 46 dX12_add_22 (by decide) rfl (by omega) (fun h_71 => ?_) (fun h_71 => (by exfalso; omega))
        refine kx_aload_n 47 F 0 dX12_add_46 rfl rfl rfl ?_
        refine kx_iconst 48 F dX12_add_47 rfl ?_
        refine kx_Vi 51 (ci := 0) F (As := [vI 1]) (st := []) vd_X12_123 (c_X12_refuse G l M 1 hI_M (by omega)) kd_163 rfl rfl rfl ⟨by decide, by decide⟩ rfl rfl (Nat.le_of_ble_eq_true rfl) dX12_add_48 rfl ?_
        intro r_72 N_73 q_74
        obtain ⟨hI_N_73, hG_N_73, q_74c⟩ := q_74
        have hF_N_73 : Fr f_c_X12_add M N_73 := Fr.c hF_M hG_N_73 rfl
        subst q_74c
        exact kx_iret F hQ ⟨hI_N_73, hF_N_73, (by omega), (YY.fr hY hG_N_73 rfl)⟩ dX12_add_51
    · refine kx_if_eq 16 F 46 dX12_add_13 (by decide) rfl (by omega) (fun h_75 => ?_) (fun h_75 => (by exfalso; omega))
      refine kx_aload_n 47 F 0 dX12_add_46 rfl rfl rfl ?_
      refine kx_iconst 48 F dX12_add_47 rfl ?_
      refine kx_Vi 51 (ci := 0) F (As := [vI 1]) (st := []) vd_X12_123 (c_X12_refuse G l M 1 hI_M (by omega)) kd_163 rfl rfl rfl ⟨by decide, by decide⟩ rfl rfl (Nat.le_of_ble_eq_true rfl) dX12_add_48 rfl ?_
      intro r_76 N_77 q_78
      obtain ⟨hI_N_77, hG_N_77, q_78c⟩ := q_78
      have hF_N_77 : Fr f_c_X12_add M N_77 := Fr.c hF_M hG_N_77 rfl
      subst q_78c
      exact kx_iret F hQ ⟨hI_N_77, hF_N_77, (by omega), (YY.fr hY hG_N_77 rfl)⟩ dX12_add_51
  · refine kx_if_eq 8 F 46 dX12_add_5 (by decide) rfl (by omega) (fun h_79 => ?_) (fun h_79 => (by exfalso; omega))
    refine kx_aload_n 47 F 0 dX12_add_46 rfl rfl rfl ?_
    refine kx_iconst 48 F dX12_add_47 rfl ?_
    refine kx_Vi 51 (ci := 0) F (As := [vI 1]) (st := []) vd_X12_123 (c_X12_refuse G l M 1 hI_M (by omega)) kd_163 rfl rfl rfl ⟨by decide, by decide⟩ rfl rfl (Nat.le_of_ble_eq_true rfl) dX12_add_48 rfl ?_
    intro r_80 N_81 q_82
    obtain ⟨hI_N_81, hG_N_81, q_82c⟩ := q_82
    have hF_N_81 : Fr f_c_X12_add M N_81 := Fr.c hF_M hG_N_81 rfl
    subst q_82c
    exact kx_iret F hQ ⟨hI_N_81, hF_N_81, (by omega), (YY.fr hY hG_N_81 rfl)⟩ dX12_add_51
theorem dX12_drop_0 : decode cX12_drop 0 = .ok (.aload_n 0, 1) := by decide +kernel
theorem dX12_drop_1 : decode cX12_drop 1 = .ok (.iload_n 1, 1) := by decide +kernel
theorem dX12_drop_2 : decode cX12_drop 2 = .ok (.iload_n 2, 1) := by decide +kernel
theorem dX12_drop_3 : decode cX12_drop 3 = .ok (.invokevirtual 291, 3) := by decide +kernel
theorem dX12_drop_6 : decode cX12_drop 6 = .ok (.ifCond .ne 9, 3) := by decide +kernel
theorem dX12_drop_9 : decode cX12_drop 9 = .ok (.aload_n 0, 1) := by decide +kernel
theorem dX12_drop_10 : decode cX12_drop 10 = .ok (.iconst 1, 1) := by decide +kernel
theorem dX12_drop_11 : decode cX12_drop 11 = .ok (.invokevirtual 123, 3) := by decide +kernel
theorem dX12_drop_14 : decode cX12_drop 14 = .ok (.ireturn, 1) := by decide +kernel
theorem dX12_drop_15 : decode cX12_drop 15 = .ok (.aload_n 0, 1) := by decide +kernel
theorem dX12_drop_16 : decode cX12_drop 16 = .ok (.iload_n 1, 1) := by decide +kernel
theorem dX12_drop_17 : decode cX12_drop 17 = .ok (.iconst 4, 1) := by decide +kernel
theorem dX12_drop_18 : decode cX12_drop 18 = .ok (.invokevirtual 288, 3) := by decide +kernel
theorem dX12_drop_21 : decode cX12_drop 21 = .ok (.iconst 1, 1) := by decide +kernel
theorem dX12_drop_22 : decode cX12_drop 22 = .ok (.isub, 1) := by decide +kernel
theorem dX12_drop_23 : decode cX12_drop 23 = .ok (.istore_n 3, 1) := by decide +kernel
theorem dX12_drop_24 : decode cX12_drop 24 = .ok (.iconst 0, 1) := by decide +kernel
theorem dX12_drop_25 : decode cX12_drop 25 = .ok (.iload_n 1, 1) := by decide +kernel
theorem dX12_drop_26 : decode cX12_drop 26 = .ok (.iload_n 2, 1) := by decide +kernel
theorem dX12_drop_27 : decode cX12_drop 27 = .ok (.invokestatic 243, 3) := by decide +kernel
theorem dX12_drop_30 : decode cX12_drop 30 = .ok (.istore 4, 2) := by decide +kernel
theorem dX12_drop_32 : decode cX12_drop 32 = .ok (.iload 4, 2) := by decide +kernel
theorem dX12_drop_34 : decode cX12_drop 34 = .ok (.iconst 0, 1) := by decide +kernel
theorem dX12_drop_35 : decode cX12_drop 35 = .ok (.iload_n 1, 1) := by decide +kernel
theorem dX12_drop_36 : decode cX12_drop 36 = .ok (.iload_n 3, 1) := by decide +kernel
theorem dX12_drop_37 : decode cX12_drop 37 = .ok (.invokestatic 243, 3) := by decide +kernel
theorem dX12_drop_40 : decode cX12_drop 40 = .ok (.if_icmp .ge 25, 3) := by decide +kernel
theorem dX12_drop_43 : decode cX12_drop 43 = .ok (.aload_n 0, 1) := by decide +kernel
theorem dX12_drop_44 : decode cX12_drop 44 = .ok (.getfield 7, 3) := by decide +kernel
theorem dX12_drop_47 : decode cX12_drop 47 = .ok (.iload 4, 2) := by decide +kernel
theorem dX12_drop_49 : decode cX12_drop 49 = .ok (.aload_n 0, 1) := by decide +kernel
theorem dX12_drop_50 : decode cX12_drop 50 = .ok (.getfield 7, 3) := by decide +kernel
theorem dX12_drop_53 : decode cX12_drop 53 = .ok (.iload 4, 2) := by decide +kernel
theorem dX12_drop_55 : decode cX12_drop 55 = .ok (.iconst 4, 1) := by decide +kernel
theorem dX12_drop_56 : decode cX12_drop 56 = .ok (.iadd, 1) := by decide +kernel
theorem dX12_drop_57 : decode cX12_drop 57 = .ok (.iaload, 1) := by decide +kernel
theorem dX12_drop_58 : decode cX12_drop 58 = .ok (.iastore, 1) := by decide +kernel
theorem dX12_drop_59 : decode cX12_drop 59 = .ok (.iinc 4 1, 3) := by decide +kernel
theorem dX12_drop_62 : decode cX12_drop 62 = .ok (.goto (-30), 3) := by decide +kernel
theorem dX12_drop_65 : decode cX12_drop 65 = .ok (.aload_n 0, 1) := by decide +kernel
theorem dX12_drop_66 : decode cX12_drop 66 = .ok (.getfield 7, 3) := by decide +kernel
theorem dX12_drop_69 : decode cX12_drop 69 = .ok (.iconst 0, 1) := by decide +kernel
theorem dX12_drop_70 : decode cX12_drop 70 = .ok (.iload_n 1, 1) := by decide +kernel
theorem dX12_drop_71 : decode cX12_drop 71 = .ok (.invokestatic 216, 3) := by decide +kernel
theorem dX12_drop_74 : decode cX12_drop 74 = .ok (.iconst 4, 1) := by decide +kernel
theorem dX12_drop_75 : decode cX12_drop 75 = .ok (.iadd, 1) := by decide +kernel
theorem dX12_drop_76 : decode cX12_drop 76 = .ok (.iload_n 3, 1) := by decide +kernel
theorem dX12_drop_77 : decode cX12_drop 77 = .ok (.iastore, 1) := by decide +kernel
theorem dX12_drop_78 : decode cX12_drop 78 = .ok (.aload_n 0, 1) := by decide +kernel
theorem dX12_drop_79 : decode cX12_drop 79 = .ok (.iload_n 3, 1) := by decide +kernel
theorem dX12_drop_80 : decode cX12_drop 80 = .ok (.invokevirtual 127, 3) := by decide +kernel
theorem dX12_drop_83 : decode cX12_drop 83 = .ok (.ireturn, 1) := by decide +kernel
abbrev f_c_X12_drop : List (Nat × Int) := [(64, 2), (65, -1)]
set_option maxHeartbeats 4000000 in
set_option maxRecDepth 100000 in
theorem c_X12_drop (G : KG) (l : Launch) (M : Mem) (a1 : Int) (a2 : Int) (hI_M : Inv true M) (hpre : -2147483648 ≤ a1 ∧ a1 ≤ 2147483647 ∧ -2147483648 ≤ a2 ∧ a2 ≤ 2147483647) (hY : YY M) : KC true G l yX12_drop cX12_drop 5 (some .int) (3, 65) [vR G 163, vI a1, vI a2] M (fun A => kQi true G A (fun (r : Int) (N : Mem) => Inv true N ∧ Fr f_c_X12_drop M N ∧ (r ≥ -1 ∧ r ≤ 19) ∧ (YY N))) := by
  refine kx_met (lo := [some (vR G 163), some (vI a1), some (vI a2), none, none]) (by decide) (Nat.le_of_ble_eq_true rfl) rfl ?_
  intro X F hQ
  have hF_M : Fr f_c_X12_drop M M := Fr.rf _ _
  refine kx_aload_n 1 F 0 dX12_drop_0 rfl rfl rfl ?_
  refine kx_iload_n 2 F 1 dX12_drop_1 rfl rfl rfl ?_
  refine kx_iload_n 3 F 2 dX12_drop_2 rfl rfl rfl ?_
  refine kx_Vi 6 (ci := 0) F (As := [vI a1, vI a2]) (st := []) vd_X12_291 (c_X12_isRuleAt G l M a1 a2 hI_M (by omega)) kd_163 rfl rfl rfl ⟨by decide, by decide⟩ rfl rfl (Nat.le_of_ble_eq_true rfl) dX12_drop_3 rfl ?_
  intro r_1 N_2 q_3
  obtain ⟨rfl, q_3c⟩ := q_3
  rcases q_3c with q_3c | q_3c
  · refine kx_if_ne 9 F 15 dX12_drop_6 (by decide) rfl (by omega) (fun h_4 => ?_) (fun h_4 => (by exfalso; omega))
    refine kx_aload_n 16 F 0 dX12_drop_15 rfl rfl rfl ?_
    refine kx_iload_n 17 F 1 dX12_drop_16 rfl rfl rfl ?_
    refine kx_iconst 18 F dX12_drop_17 rfl ?_
    refine kx_Vi 21 (ci := 0) F (As := [vI a1, vI 4]) (st := []) vd_X12_288 (c_of4 G l M a1 4 hI_M (by omega)) kd_163 rfl rfl rfl ⟨by decide, by decide⟩ rfl rfl (Nat.le_of_ble_eq_true rfl) dX12_drop_18 rfl ?_
    intro r_5 N_6 q_7
    obtain ⟨rfl, q_7c⟩ := q_7
    rcases q_7c with q_7c | q_7c
    · exfalso; omega
    · refine kx_iconst 22 F dX12_drop_21 rfl ?_
      refine kx_isub 23 F (v := r_5 - 1) dX12_drop_22 rfl rfl ?_
      refine kx_istore_n 24 F 3 (lo' := [some (vR G 163), some (vI a1), some (vI a2), some (vI (r_5 - 1)), none]) dX12_drop_23 rfl (by decide) rfl rfl rfl ?_
      refine kx_iconst 25 F dX12_drop_24 rfl ?_
      refine kx_iload_n 26 F 1 dX12_drop_25 rfl rfl rfl ?_
      refine kx_iload_n 27 F 2 dX12_drop_26 rfl rfl rfl ?_
      refine kx_Si 30 F (As := [vI 0, vI a1, vI a2]) (st := []) sd_X12_243 (c_X12_ruleRow G l M 0 a1 a2 hI_M (by omega)) ⟨by decide, by decide⟩ rfl rfl (Nat.le_of_ble_eq_true rfl) dX12_drop_27 rfl ?_
      intro r_8 N_9 q_10
      obtain ⟨rfl, q_10c⟩ := q_10
      refine kx_topi (e' := 85 * a1 + 4 * a2 + 105) (by omega) ?_
      refine kx_istore 32 F 4 (lo' := [some (vR G 163), some (vI a1), some (vI a2), some (vI (r_5 - 1)), some (vI (85 * a1 + 4 * a2 + 105))]) dX12_drop_30 (by decide) rfl rfl rfl ?_
      have L_32 : ∀ (n_33 : Nat) (x4_30 : Int) (N_31 : Mem), Inv true N_31 → Fr f_c_X12_drop M N_31 → CPk N_31 M (105 + 85 * a1 + 4 * a2) (109 + 85 * a1 + 4 * a2) (x4_30 - (105 + 85 * a1 + 4 * a2)) → 105 ≤ x4_30 ∧ x4_30 ≤ 266 ∧ x4_30 ≤ 85 * a1 + 4 * r_5 + 101 ∧ 85 * a1 + 4 * a2 + 105 ≤ x4_30 → (266 - (x4_30)).toNat = n_33 → KJ true G X N_31 32 [some (vR G 163), some (vI a1), none, some (vI (r_5 - 1)), some (vI x4_30)] [] := by
        intro n_33
        refine Nat.strongRecOn n_33 ?_
        intro n_33 ih_34 x4_30 N_31 hI_N_31 hF_N_31 hp_37 h_35 hm_36
        refine kx_iload 34 F 4 dX12_drop_32 rfl rfl ?_
        refine kx_iconst 35 F dX12_drop_34 rfl ?_
        refine kx_iload_n 36 F 1 dX12_drop_35 rfl rfl rfl ?_
        refine kx_iload_n 37 F 3 dX12_drop_36 rfl rfl rfl ?_
        refine kx_Si 40 F (As := [vI 0, vI a1, vI (r_5 - 1)]) (st := [vI x4_30]) sd_X12_243 (c_X12_ruleRow G l N_31 0 a1 (r_5 - 1) hI_N_31 (by omega)) ⟨by decide, by decide⟩ rfl rfl (Nat.le_of_ble_eq_true rfl) dX12_drop_37 rfl ?_
        intro r_38 N_39 q_40
        obtain ⟨rfl, q_40c⟩ := q_40
        refine kx_topi (e' := 85 * a1 + 4 * r_5 + 101) (by omega) ?_
        refine kx_icmp_ge 43 F 65 dX12_drop_40 (by decide) rfl (by omega) (by omega) (fun h_41 => ?_) (fun h_41 => ?_)
        · refine kx_aload_n 66 F 0 dX12_drop_65 rfl rfl rfl ?_
          refine kx_getr 69 F fl_X12_7 kd_163 rfl rfl (j := 0) rfl dX12_drop_66 (v := 164) (uq_164 (Inv.r hI_N_31 kd_163 rfl 0 rfl rfl)) rfl ?_
          refine kx_iconst 70 F dX12_drop_69 rfl ?_
          refine kx_iload_n 71 F 1 dX12_drop_70 rfl rfl rfl ?_
          refine kx_Si 74 F (As := [vI 0, vI a1]) (st := [vR G 164]) sd_X12_216 (c_X12_rowOf G l N_31 0 a1 hI_N_31 (by omega)) ⟨by decide, by decide⟩ rfl rfl (Nat.le_of_ble_eq_true rfl) dX12_drop_71 rfl ?_
          intro r_42 N_43 q_44
          obtain ⟨rfl, q_44c⟩ := q_44
          refine kx_topi (e' := 85 * a1 + 100) (by omega) ?_
          refine kx_iconst 75 F dX12_drop_74 rfl ?_
          refine kx_iadd 76 F (v := 85 * a1 + 104) dX12_drop_75 (by omega) rfl ?_
          refine kx_iload_n 77 F 3 dX12_drop_76 rfl rfl rfl ?_
          refine kx_iast 78 F kd_164 rfl rfl (by omega) (by decide) dX12_drop_77 rfl ?_
          intro N_45 hM_N_45
          have ha_46 : atlo (85 * a1 + 104) = 0 ∧ athi (85 * a1 + 104) = 20 := at_a (85 * a1 + 104) 0 a1 4 (by omega) (by omega) (by decide)
          have hI_N_45 : Inv true N_45 := Inv.u hI_N_31 hM_N_45 kd_164 (a := 0) (b := 20) ha_46.1 ha_46.2 rfl (by omega)
          have hF_N_45 : Fr f_c_X12_drop M N_45 := Fr.u hF_N_31 hM_N_45 kd_164 rfl
          refine kx_aload_n 79 F 0 dX12_drop_78 rfl rfl rfl ?_
          refine kx_iload_n 80 F 3 dX12_drop_79 rfl rfl rfl ?_
          refine kx_Vi 83 (ci := 0) F (As := [vI (r_5 - 1)]) (st := []) vd_X12_127 (c_X12_gives G l N_45 (r_5 - 1) hI_N_45 (by omega)) kd_163 rfl rfl rfl ⟨by decide, by decide⟩ rfl rfl (Nat.le_of_ble_eq_true rfl) dX12_drop_80 rfl ?_
          intro r_47 N_48 q_49
          obtain ⟨hI_N_48, hG_N_48, q_49c⟩ := q_49
          have hF_N_48 : Fr f_c_X12_drop M N_48 := Fr.c hF_N_45 hG_N_48 rfl
          refine kx_topi (e' := r_5 - 1) (by omega) ?_
          have e_50 : M 164 (104 + 85 * a1) = M 164 (85 * a1 + 104) := by rw [show 104 + 85 * a1 = 85 * a1 + 104 by omega]
          have e_51 : N_48 164 (104 + 85 * a1) = r_5 - 1 := by rw [show 104 + 85 * a1 = 85 * a1 + 104 by omega, Fr.e hG_N_48 kd_164 _ rfl, hM_N_45, mu_s]
          exact kx_iret F hQ ⟨hI_N_48, hF_N_48, (by omega), (YY.drop hY hI_M a1 a2 (r_5 - 1) (by omega) (by omega) (by omega) (fun j hj h0 => by rw [Fr.e hG_N_48 kd_164 _ rfl, hM_N_45, mu_i (by omega)]; exact hp_37.2 j (by omega)) (fun j h0 h1 => by rw [Fr.e hG_N_48 kd_164 _ rfl, hM_N_45, mu_i (by omega)]; have q := hp_37.1 (j - (105 + 85 * a1 + 4 * a2)) (by omega) (by omega); rw [show 105 + 85 * a1 + 4 * a2 + (j - (105 + 85 * a1 + 4 * a2)) = j by omega, show 109 + 85 * a1 + 4 * a2 + (j - (105 + 85 * a1 + 4 * a2)) = j + 4 by omega] at q; exact q) (by omega))⟩ dX12_drop_83
        · refine kx_aload_n 44 F 0 dX12_drop_43 rfl rfl rfl ?_
          refine kx_getr 47 F fl_X12_7 kd_163 rfl rfl (j := 0) rfl dX12_drop_44 (v := 164) (uq_164 (Inv.r hI_N_31 kd_163 rfl 0 rfl rfl)) rfl ?_
          refine kx_iload 49 F 4 dX12_drop_47 rfl rfl ?_
          refine kx_aload_n 50 F 0 dX12_drop_49 rfl rfl rfl ?_
          refine kx_getr 53 F fl_X12_7 kd_163 rfl rfl (j := 0) rfl dX12_drop_50 (v := 164) (uq_164 (Inv.r hI_N_31 kd_163 rfl 0 rfl rfl)) rfl ?_
          refine kx_iload 55 F 4 dX12_drop_53 rfl rfl ?_
          refine kx_iconst 56 F dX12_drop_55 rfl ?_
          refine kx_iadd 57 F (v := x4_30 + 4) dX12_drop_56 rfl rfl ?_
          refine kx_iald 58 F kd_164 rfl rfl (by omega) (by decide) dX12_drop_57 (v := (N_31 164 (x4_30 + 4))) rfl rfl ?_
          have h_52 := Inv.g hI_N_31 kd_164 rfl (x4_30 + 4) (a := atlo (x4_30 + 4)) (b := athi (x4_30 + 4)) rfl rfl
          have h_53 := at_w (x4_30 + 4)
          refine kx_iast 59 F kd_164 rfl rfl (by omega) (by decide) dX12_drop_58 rfl ?_
          intro N_54 hM_N_54
          have h_55 := at_0 x4_30
          have h_56 := at_4 x4_30 a1 0 (by omega) (by omega)
          have hI_N_54 : Inv true N_54 := Inv.u hI_N_31 hM_N_54 kd_164 (a := atlo x4_30) (b := athi x4_30) rfl rfl rfl (by omega)
          have hF_N_54 : Fr f_c_X12_drop M N_54 := Fr.u hF_N_31 hM_N_54 kd_164 rfl
          refine kx_iinc 62 F 4 (v := x4_30 + 1) (lo' := [some (vR G 163), some (vI a1), none, some (vI (r_5 - 1)), some (vI (x4_30 + 1))]) dX12_drop_59 rfl (by omega) (by decide) rfl rfl rfl ?_
          refine kx_goto 32 F dX12_drop_62 (by decide) ?_
          exact ih_34 _ (by omega) (x4_30 + 1) N_54 hI_N_54 hF_N_54 (CPk.step hp_37 (by omega) hM_N_54 (by omega) rfl (by omega) (by omega) (by omega)) (by omega) rfl
      refine kx_drop 2 (lo' := [some (vR G 163), some (vI a1), none, some (vI (r_5 - 1)), some (vI (85 * a1 + 4 * a2 + 105))]) rfl ?_
      exact L_32 _ (85 * a1 + 4 * a2 + 105) M hI_M hF_M ((CPk.nil _ _).at (by omega)) (by omega) rfl
  · refine kx_if_ne 9 F 15 dX12_drop_6 (by decide) rfl (by omega) (fun h_57 => (by exfalso; omega)) (fun h_57 => ?_)
    refine kx_aload_n 10 F 0 dX12_drop_9 rfl rfl rfl ?_
    refine kx_iconst 11 F dX12_drop_10 rfl ?_
    refine kx_Vi 14 (ci := 0) F (As := [vI 1]) (st := []) vd_X12_123 (c_X12_refuse G l M 1 hI_M (by omega)) kd_163 rfl rfl rfl ⟨by decide, by decide⟩ rfl rfl (Nat.le_of_ble_eq_true rfl) dX12_drop_11 rfl ?_
    intro r_58 N_59 q_60
    obtain ⟨hI_N_59, hG_N_59, q_60c⟩ := q_60
    have hF_N_59 : Fr f_c_X12_drop M N_59 := Fr.c hF_M hG_N_59 rfl
    subst q_60c
    exact kx_iret F hQ ⟨hI_N_59, hF_N_59, (by omega), (YY.fr hY hG_N_59 rfl)⟩ dX12_drop_14
theorem dX12_setsState_0 : decode cX12_setsState 0 = .ok (.aload_n 0, 1) := by decide +kernel
theorem dX12_setsState_1 : decode cX12_setsState 1 = .ok (.iload_n 1, 1) := by decide +kernel
theorem dX12_setsState_2 : decode cX12_setsState 2 = .ok (.invokevirtual 282, 3) := by decide +kernel
theorem dX12_setsState_5 : decode cX12_setsState 5 = .ok (.ifCond .eq 12, 3) := by decide +kernel
theorem dX12_setsState_8 : decode cX12_setsState 8 = .ok (.aload_n 0, 1) := by decide +kernel
theorem dX12_setsState_9 : decode cX12_setsState 9 = .ok (.iload_n 1, 1) := by decide +kernel
theorem dX12_setsState_10 : decode cX12_setsState 10 = .ok (.iload_n 2, 1) := by decide +kernel
theorem dX12_setsState_11 : decode cX12_setsState 11 = .ok (.invokevirtual 303, 3) := by decide +kernel
theorem dX12_setsState_14 : decode cX12_setsState 14 = .ok (.ifCond .ne 9, 3) := by decide +kernel
theorem dX12_setsState_17 : decode cX12_setsState 17 = .ok (.aload_n 0, 1) := by decide +kernel
theorem dX12_setsState_18 : decode cX12_setsState 18 = .ok (.iconst 1, 1) := by decide +kernel
theorem dX12_setsState_19 : decode cX12_setsState 19 = .ok (.invokevirtual 123, 3) := by decide +kernel
theorem dX12_setsState_22 : decode cX12_setsState 22 = .ok (.ireturn, 1) := by decide +kernel
theorem dX12_setsState_23 : decode cX12_setsState 23 = .ok (.aload_n 0, 1) := by decide +kernel
theorem dX12_setsState_24 : decode cX12_setsState 24 = .ok (.aload_n 0, 1) := by decide +kernel
theorem dX12_setsState_25 : decode cX12_setsState 25 = .ok (.iload_n 1, 1) := by decide +kernel
theorem dX12_setsState_26 : decode cX12_setsState 26 = .ok (.iload 4, 2) := by decide +kernel
theorem dX12_setsState_28 : decode cX12_setsState 28 = .ok (.invokevirtual 288, 3) := by decide +kernel
theorem dX12_setsState_31 : decode cX12_setsState 31 = .ok (.iload_n 2, 1) := by decide +kernel
theorem dX12_setsState_32 : decode cX12_setsState 32 = .ok (.invokevirtual 239, 3) := by decide +kernel
theorem dX12_setsState_35 : decode cX12_setsState 35 = .ok (.iload_n 3, 1) := by decide +kernel
theorem dX12_setsState_36 : decode cX12_setsState 36 = .ok (.if_icmp .ne 10, 3) := by decide +kernel
theorem dX12_setsState_39 : decode cX12_setsState 39 = .ok (.aload_n 0, 1) := by decide +kernel
theorem dX12_setsState_40 : decode cX12_setsState 40 = .ok (.bipush 7, 2) := by decide +kernel
theorem dX12_setsState_42 : decode cX12_setsState 42 = .ok (.invokevirtual 123, 3) := by decide +kernel
theorem dX12_setsState_45 : decode cX12_setsState 45 = .ok (.ireturn, 1) := by decide +kernel
theorem dX12_setsState_46 : decode cX12_setsState 46 = .ok (.aload_n 0, 1) := by decide +kernel
theorem dX12_setsState_47 : decode cX12_setsState 47 = .ok (.getfield 7, 3) := by decide +kernel
theorem dX12_setsState_50 : decode cX12_setsState 50 = .ok (.iconst 0, 1) := by decide +kernel
theorem dX12_setsState_51 : decode cX12_setsState 51 = .ok (.iload_n 1, 1) := by decide +kernel
theorem dX12_setsState_52 : decode cX12_setsState 52 = .ok (.invokestatic 216, 3) := by decide +kernel
theorem dX12_setsState_55 : decode cX12_setsState 55 = .ok (.iload 4, 2) := by decide +kernel
theorem dX12_setsState_57 : decode cX12_setsState 57 = .ok (.iadd, 1) := by decide +kernel
theorem dX12_setsState_58 : decode cX12_setsState 58 = .ok (.dup2, 1) := by decide +kernel
theorem dX12_setsState_59 : decode cX12_setsState 59 = .ok (.iaload, 1) := by decide +kernel
theorem dX12_setsState_60 : decode cX12_setsState 60 = .ok (.iconst 1, 1) := by decide +kernel
theorem dX12_setsState_61 : decode cX12_setsState 61 = .ok (.iload_n 2, 1) := by decide +kernel
theorem dX12_setsState_62 : decode cX12_setsState 62 = .ok (.ishl, 1) := by decide +kernel
theorem dX12_setsState_63 : decode cX12_setsState 63 = .ok (.ixor, 1) := by decide +kernel
theorem dX12_setsState_64 : decode cX12_setsState 64 = .ok (.iastore, 1) := by decide +kernel
theorem dX12_setsState_65 : decode cX12_setsState 65 = .ok (.aload_n 0, 1) := by decide +kernel
theorem dX12_setsState_66 : decode cX12_setsState 66 = .ok (.aload_n 0, 1) := by decide +kernel
theorem dX12_setsState_67 : decode cX12_setsState 67 = .ok (.iload_n 1, 1) := by decide +kernel
theorem dX12_setsState_68 : decode cX12_setsState 68 = .ok (.iload 4, 2) := by decide +kernel
theorem dX12_setsState_70 : decode cX12_setsState 70 = .ok (.invokevirtual 288, 3) := by decide +kernel
theorem dX12_setsState_73 : decode cX12_setsState 73 = .ok (.invokevirtual 127, 3) := by decide +kernel
theorem dX12_setsState_76 : decode cX12_setsState 76 = .ok (.ireturn, 1) := by decide +kernel
abbrev f_c_set2 : List (Nat × Int) := [(64, 2), (65, -1)]
set_option maxHeartbeats 4000000 in
set_option maxRecDepth 100000 in
theorem c_set2 (G : KG) (l : Launch) (M : Mem) (a1 : Int) (a2 : Int) (a3 : Int) (a4 : Int) (hI_M : Inv true M) (hpre : -2147483648 ≤ a1 ∧ a1 ≤ 2147483647 ∧ -2147483648 ≤ a2 ∧ a2 ≤ 2147483647 ∧ 0 ≤ a3 ∧ a3 ≤ 1 ∧ -2147483648 ≤ a4 ∧ a4 ≤ 2147483647 ∧ a4 = 2) (hY : YY M) : KC true G l yX12_setsState cX12_setsState 5 (some .int) (3, 65) [vR G 163, vI a1, vI a2, vI a3, vI a4] M (fun A => kQi true G A (fun (r : Int) (N : Mem) => Inv true N ∧ Fr f_c_set2 M N ∧ (r ≥ -2147483648 ∧ r ≤ 2147483647) ∧ (YY N))) := by
  refine kx_met (lo := [some (vR G 163), some (vI a1), some (vI a2), some (vI a3), some (vI a4)]) (by decide) (Nat.le_of_ble_eq_true rfl) rfl ?_
  intro X F hQ
  have hF_M : Fr f_c_set2 M M := Fr.rf _ _
  refine kx_aload_n 1 F 0 dX12_setsState_0 rfl rfl rfl ?_
  refine kx_iload_n 2 F 1 dX12_setsState_1 rfl rfl rfl ?_
  refine kx_Vi 5 (ci := 0) F (As := [vI a1]) (st := []) vd_X12_282 (c_X12_isAutomaton G l M a1 hI_M (by omega)) kd_163 rfl rfl rfl ⟨by decide, by decide⟩ rfl rfl (Nat.le_of_ble_eq_true rfl) dX12_setsState_2 rfl ?_
  intro r_1 N_2 q_3
  obtain ⟨rfl, q_3c⟩ := q_3
  rcases q_3c with q_3c | q_3c
  · refine kx_if_eq 8 F 17 dX12_setsState_5 (by decide) rfl (by omega) (fun h_4 => (by exfalso; omega)) (fun h_4 => ?_)
    refine kx_aload_n 9 F 0 dX12_setsState_8 rfl rfl rfl ?_
    refine kx_iload_n 10 F 1 dX12_setsState_9 rfl rfl rfl ?_
    refine kx_iload_n 11 F 2 dX12_setsState_10 rfl rfl rfl ?_
    refine kx_Vi 14 (ci := 0) F (As := [vI a1, vI a2]) (st := []) vd_X12_303 (c_X12_isState G l M a1 a2 hI_M (by omega)) kd_163 rfl rfl rfl ⟨by decide, by decide⟩ rfl rfl (Nat.le_of_ble_eq_true rfl) dX12_setsState_11 rfl ?_
    intro r_5 N_6 q_7
    obtain ⟨rfl, q_7c⟩ := q_7
    rcases q_7c with q_7c | q_7c | q_7c
    · refine kx_if_ne 17 F 23 dX12_setsState_14 (by decide) rfl (by omega) (fun h_8 => ?_) (fun h_8 => (by exfalso; omega))
      refine kx_aload_n 24 F 0 dX12_setsState_23 rfl rfl rfl ?_
      refine kx_aload_n 25 F 0 dX12_setsState_24 rfl rfl rfl ?_
      refine kx_iload_n 26 F 1 dX12_setsState_25 rfl rfl rfl ?_
      refine kx_iload 28 F 4 dX12_setsState_26 rfl rfl ?_
      refine kx_Vi 31 (ci := 0) F (As := [vI a1, vI a4]) (st := [vR G 163]) vd_X12_288 (c_ofX G l M a1 a4 hI_M (by omega)) kd_163 rfl rfl rfl ⟨by decide, by decide⟩ rfl rfl (Nat.le_of_ble_eq_true rfl) dX12_setsState_28 rfl ?_
      intro r_9 N_10 q_11
      obtain ⟨rfl, q_11c⟩ := q_11
      refine kx_iload_n 32 F 2 dX12_setsState_31 rfl rfl rfl ?_
      refine kx_Vi 35 (ci := 0) F (As := [vI r_9, vI a2]) (st := []) vd_X12_239 (c_X12_isIn G l M r_9 a2 hI_M (by omega)) kd_163 rfl rfl rfl ⟨by decide, by decide⟩ rfl rfl (Nat.le_of_ble_eq_true rfl) dX12_setsState_32 rfl ?_
      intro r_12 N_13 q_14
      obtain ⟨rfl, q_14c⟩ := q_14
      refine kx_iload_n 36 F 3 dX12_setsState_35 rfl rfl rfl ?_
      refine kx_icmp_ne 39 F 46 dX12_setsState_36 (by decide) rfl (by omega) (by omega) (fun h_15 => ?_) (fun h_15 => ?_)
      · refine kx_aload_n 47 F 0 dX12_setsState_46 rfl rfl rfl ?_
        refine kx_getr 50 F fl_X12_7 kd_163 rfl rfl (j := 0) rfl dX12_setsState_47 (v := 164) (uq_164 (Inv.r hI_M kd_163 rfl 0 rfl rfl)) rfl ?_
        refine kx_iconst 51 F dX12_setsState_50 rfl ?_
        refine kx_iload_n 52 F 1 dX12_setsState_51 rfl rfl rfl ?_
        refine kx_Si 55 F (As := [vI 0, vI a1]) (st := [vR G 164]) sd_X12_216 (c_X12_rowOf G l M 0 a1 hI_M (by omega)) ⟨by decide, by decide⟩ rfl rfl (Nat.le_of_ble_eq_true rfl) dX12_setsState_52 rfl ?_
        intro r_16 N_17 q_18
        obtain ⟨rfl, q_18c⟩ := q_18
        refine kx_topi (e' := 85 * a1 + 100) (by omega) ?_
        refine kx_iload 57 F 4 dX12_setsState_55 rfl rfl ?_
        refine kx_iadd 58 F (v := 85 * a1 + a4 + 100) dX12_setsState_57 (by omega) rfl ?_
        refine kx_dup2 59 F dX12_setsState_58 rfl rfl rfl ?_
        refine kx_iald 60 F kd_164 rfl rfl (by omega) (by decide) dX12_setsState_59 (v := (M 164 (85 * a1 + a4 + 100))) rfl rfl ?_
        have ha_19 : atlo (85 * a1 + a4 + 100) = 0 ∧ athi (85 * a1 + a4 + 100) = 7 := at_a (85 * a1 + a4 + 100) 0 a1 2 (by omega) (by omega) (by decide)
        have h_20 := Inv.g hI_M kd_164 rfl (85 * a1 + a4 + 100) (a := 0) (b := 7) ha_19.1 ha_19.2
        refine kx_iconst 61 F dX12_setsState_60 rfl ?_
        refine kx_iload_n 62 F 2 dX12_setsState_61 rfl rfl rfl ?_
        refine kx_ishl 63 F (v := (zshl 1 a2)) dX12_setsState_62 rfl rfl ?_
        have h_21 := zshl_1 (b := a2) 2 (by decide) (by omega)
        refine kx_ixor 64 F (v := (zxor (M 164 (85 * a1 + a4 + 100)) (zshl 1 a2))) dX12_setsState_63 rfl rfl ?_
        have h_22 : 0 ≤ (zxor (M 164 (85 * a1 + a4 + 100)) (zshl 1 a2)) ∧ (zxor (M 164 (85 * a1 + a4 + 100)) (zshl 1 a2)) < 8 := zxor_lt (a := (M 164 (85 * a1 + a4 + 100))) (b := (zshl 1 a2)) 3 (by decide) (by omega) (by omega)
        refine kx_iast 65 F kd_164 rfl rfl (by omega) (by decide) dX12_setsState_64 rfl ?_
        intro N_23 hM_N_23
        have hI_N_23 : Inv true N_23 := Inv.u hI_M hM_N_23 kd_164 (a := 0) (b := 7) ha_19.1 ha_19.2 rfl (by omega)
        have hF_N_23 : Fr f_c_set2 M N_23 := Fr.u hF_M hM_N_23 kd_164 rfl
        refine kx_aload_n 66 F 0 dX12_setsState_65 rfl rfl rfl ?_
        refine kx_aload_n 67 F 0 dX12_setsState_66 rfl rfl rfl ?_
        refine kx_iload_n 68 F 1 dX12_setsState_67 rfl rfl rfl ?_
        refine kx_iload 70 F 4 dX12_setsState_68 rfl rfl ?_
        refine kx_Vi 73 (ci := 0) F (As := [vI a1, vI a4]) (st := [vR G 163]) vd_X12_288 (c_ofX G l N_23 a1 a4 hI_N_23 (by omega)) kd_163 rfl rfl rfl ⟨by decide, by decide⟩ rfl rfl (Nat.le_of_ble_eq_true rfl) dX12_setsState_70 rfl ?_
        intro r_24 N_25 q_26
        obtain ⟨rfl, q_26c⟩ := q_26
        refine kx_Vi 76 (ci := 0) F (As := [vI r_24]) (st := []) vd_X12_127 (c_X12_gives G l N_23 r_24 hI_N_23 (by omega)) kd_163 rfl rfl rfl ⟨by decide, by decide⟩ rfl rfl (Nat.le_of_ble_eq_true rfl) dX12_setsState_73 rfl ?_
        intro r_27 N_28 q_29
        obtain ⟨hI_N_28, hG_N_28, q_29c⟩ := q_29
        have hF_N_28 : Fr f_c_set2 M N_28 := Fr.c hF_N_23 hG_N_28 rfl
        refine kx_topi (e' := r_24) (by omega) ?_
        exact kx_iret F hQ ⟨hI_N_28, hF_N_28, (by omega), (YY.fr (YY.sta hY hI_M hM_N_23 (by omega)) hG_N_28 rfl)⟩ dX12_setsState_76
      · refine kx_aload_n 40 F 0 dX12_setsState_39 rfl rfl rfl ?_
        refine kx_bipush 42 F dX12_setsState_40 (by decide) rfl ?_
        refine kx_Vi 45 (ci := 0) F (As := [vI 7]) (st := []) vd_X12_123 (c_X12_refuse G l M 7 hI_M (by omega)) kd_163 rfl rfl rfl ⟨by decide, by decide⟩ rfl rfl (Nat.le_of_ble_eq_true rfl) dX12_setsState_42 rfl ?_
        intro r_30 N_31 q_32
        obtain ⟨hI_N_31, hG_N_31, q_32c⟩ := q_32
        have hF_N_31 : Fr f_c_set2 M N_31 := Fr.c hF_M hG_N_31 rfl
        subst q_32c
        exact kx_iret F hQ ⟨hI_N_31, hF_N_31, (by omega), (YY.fr hY hG_N_31 rfl)⟩ dX12_setsState_45
    · exfalso; omega
    · refine kx_if_ne 17 F 23 dX12_setsState_14 (by decide) rfl (by omega) (fun h_33 => (by exfalso; omega)) (fun h_33 => ?_)
      refine kx_aload_n 18 F 0 dX12_setsState_17 rfl rfl rfl ?_
      refine kx_iconst 19 F dX12_setsState_18 rfl ?_
      refine kx_Vi 22 (ci := 0) F (As := [vI 1]) (st := []) vd_X12_123 (c_X12_refuse G l M 1 hI_M (by omega)) kd_163 rfl rfl rfl ⟨by decide, by decide⟩ rfl rfl (Nat.le_of_ble_eq_true rfl) dX12_setsState_19 rfl ?_
      intro r_34 N_35 q_36
      obtain ⟨hI_N_35, hG_N_35, q_36c⟩ := q_36
      have hF_N_35 : Fr f_c_set2 M N_35 := Fr.c hF_M hG_N_35 rfl
      subst q_36c
      exact kx_iret F hQ ⟨hI_N_35, hF_N_35, (by omega), (YY.fr hY hG_N_35 rfl)⟩ dX12_setsState_22
  · refine kx_if_eq 8 F 17 dX12_setsState_5 (by decide) rfl (by omega) (fun h_37 => ?_) (fun h_37 => (by exfalso; omega))
    refine kx_aload_n 18 F 0 dX12_setsState_17 rfl rfl rfl ?_
    refine kx_iconst 19 F dX12_setsState_18 rfl ?_
    refine kx_Vi 22 (ci := 0) F (As := [vI 1]) (st := []) vd_X12_123 (c_X12_refuse G l M 1 hI_M (by omega)) kd_163 rfl rfl rfl ⟨by decide, by decide⟩ rfl rfl (Nat.le_of_ble_eq_true rfl) dX12_setsState_19 rfl ?_
    intro r_38 N_39 q_40
    obtain ⟨hI_N_39, hG_N_39, q_40c⟩ := q_40
    have hF_N_39 : Fr f_c_set2 M N_39 := Fr.c hF_M hG_N_39 rfl
    subst q_40c
    exact kx_iret F hQ ⟨hI_N_39, hF_N_39, (by omega), (YY.fr hY hG_N_39 rfl)⟩ dX12_setsState_22
abbrev f_c_set3 : List (Nat × Int) := [(64, 2), (65, -1)]
set_option maxHeartbeats 4000000 in
set_option maxRecDepth 100000 in
theorem c_set3 (G : KG) (l : Launch) (M : Mem) (a1 : Int) (a2 : Int) (a3 : Int) (a4 : Int) (hI_M : Inv true M) (hpre : -2147483648 ≤ a1 ∧ a1 ≤ 2147483647 ∧ -2147483648 ≤ a2 ∧ a2 ≤ 2147483647 ∧ 0 ≤ a3 ∧ a3 ≤ 1 ∧ -2147483648 ≤ a4 ∧ a4 ≤ 2147483647 ∧ a4 = 3) (hY : YY M) : KC true G l yX12_setsState cX12_setsState 5 (some .int) (3, 65) [vR G 163, vI a1, vI a2, vI a3, vI a4] M (fun A => kQi true G A (fun (r : Int) (N : Mem) => Inv true N ∧ Fr f_c_set3 M N ∧ (r ≥ -2147483648 ∧ r ≤ 2147483647) ∧ (YY N))) := by
  refine kx_met (lo := [some (vR G 163), some (vI a1), some (vI a2), some (vI a3), some (vI a4)]) (by decide) (Nat.le_of_ble_eq_true rfl) rfl ?_
  intro X F hQ
  have hF_M : Fr f_c_set3 M M := Fr.rf _ _
  refine kx_aload_n 1 F 0 dX12_setsState_0 rfl rfl rfl ?_
  refine kx_iload_n 2 F 1 dX12_setsState_1 rfl rfl rfl ?_
  refine kx_Vi 5 (ci := 0) F (As := [vI a1]) (st := []) vd_X12_282 (c_X12_isAutomaton G l M a1 hI_M (by omega)) kd_163 rfl rfl rfl ⟨by decide, by decide⟩ rfl rfl (Nat.le_of_ble_eq_true rfl) dX12_setsState_2 rfl ?_
  intro r_1 N_2 q_3
  obtain ⟨rfl, q_3c⟩ := q_3
  rcases q_3c with q_3c | q_3c
  · refine kx_if_eq 8 F 17 dX12_setsState_5 (by decide) rfl (by omega) (fun h_4 => (by exfalso; omega)) (fun h_4 => ?_)
    refine kx_aload_n 9 F 0 dX12_setsState_8 rfl rfl rfl ?_
    refine kx_iload_n 10 F 1 dX12_setsState_9 rfl rfl rfl ?_
    refine kx_iload_n 11 F 2 dX12_setsState_10 rfl rfl rfl ?_
    refine kx_Vi 14 (ci := 0) F (As := [vI a1, vI a2]) (st := []) vd_X12_303 (c_X12_isState G l M a1 a2 hI_M (by omega)) kd_163 rfl rfl rfl ⟨by decide, by decide⟩ rfl rfl (Nat.le_of_ble_eq_true rfl) dX12_setsState_11 rfl ?_
    intro r_5 N_6 q_7
    obtain ⟨rfl, q_7c⟩ := q_7
    rcases q_7c with q_7c | q_7c | q_7c
    · refine kx_if_ne 17 F 23 dX12_setsState_14 (by decide) rfl (by omega) (fun h_8 => ?_) (fun h_8 => (by exfalso; omega))
      refine kx_aload_n 24 F 0 dX12_setsState_23 rfl rfl rfl ?_
      refine kx_aload_n 25 F 0 dX12_setsState_24 rfl rfl rfl ?_
      refine kx_iload_n 26 F 1 dX12_setsState_25 rfl rfl rfl ?_
      refine kx_iload 28 F 4 dX12_setsState_26 rfl rfl ?_
      refine kx_Vi 31 (ci := 0) F (As := [vI a1, vI a4]) (st := [vR G 163]) vd_X12_288 (c_ofX G l M a1 a4 hI_M (by omega)) kd_163 rfl rfl rfl ⟨by decide, by decide⟩ rfl rfl (Nat.le_of_ble_eq_true rfl) dX12_setsState_28 rfl ?_
      intro r_9 N_10 q_11
      obtain ⟨rfl, q_11c⟩ := q_11
      refine kx_iload_n 32 F 2 dX12_setsState_31 rfl rfl rfl ?_
      refine kx_Vi 35 (ci := 0) F (As := [vI r_9, vI a2]) (st := []) vd_X12_239 (c_X12_isIn G l M r_9 a2 hI_M (by omega)) kd_163 rfl rfl rfl ⟨by decide, by decide⟩ rfl rfl (Nat.le_of_ble_eq_true rfl) dX12_setsState_32 rfl ?_
      intro r_12 N_13 q_14
      obtain ⟨rfl, q_14c⟩ := q_14
      refine kx_iload_n 36 F 3 dX12_setsState_35 rfl rfl rfl ?_
      refine kx_icmp_ne 39 F 46 dX12_setsState_36 (by decide) rfl (by omega) (by omega) (fun h_15 => ?_) (fun h_15 => ?_)
      · refine kx_aload_n 47 F 0 dX12_setsState_46 rfl rfl rfl ?_
        refine kx_getr 50 F fl_X12_7 kd_163 rfl rfl (j := 0) rfl dX12_setsState_47 (v := 164) (uq_164 (Inv.r hI_M kd_163 rfl 0 rfl rfl)) rfl ?_
        refine kx_iconst 51 F dX12_setsState_50 rfl ?_
        refine kx_iload_n 52 F 1 dX12_setsState_51 rfl rfl rfl ?_
        refine kx_Si 55 F (As := [vI 0, vI a1]) (st := [vR G 164]) sd_X12_216 (c_X12_rowOf G l M 0 a1 hI_M (by omega)) ⟨by decide, by decide⟩ rfl rfl (Nat.le_of_ble_eq_true rfl) dX12_setsState_52 rfl ?_
        intro r_16 N_17 q_18
        obtain ⟨rfl, q_18c⟩ := q_18
        refine kx_topi (e' := 85 * a1 + 100) (by omega) ?_
        refine kx_iload 57 F 4 dX12_setsState_55 rfl rfl ?_
        refine kx_iadd 58 F (v := 85 * a1 + a4 + 100) dX12_setsState_57 (by omega) rfl ?_
        refine kx_dup2 59 F dX12_setsState_58 rfl rfl rfl ?_
        refine kx_iald 60 F kd_164 rfl rfl (by omega) (by decide) dX12_setsState_59 (v := (M 164 (85 * a1 + a4 + 100))) rfl rfl ?_
        have ha_19 : atlo (85 * a1 + a4 + 100) = 0 ∧ athi (85 * a1 + a4 + 100) = 7 := at_a (85 * a1 + a4 + 100) 0 a1 3 (by omega) (by omega) (by decide)
        have h_20 := Inv.g hI_M kd_164 rfl (85 * a1 + a4 + 100) (a := 0) (b := 7) ha_19.1 ha_19.2
        refine kx_iconst 61 F dX12_setsState_60 rfl ?_
        refine kx_iload_n 62 F 2 dX12_setsState_61 rfl rfl rfl ?_
        refine kx_ishl 63 F (v := (zshl 1 a2)) dX12_setsState_62 rfl rfl ?_
        have h_21 := zshl_1 (b := a2) 2 (by decide) (by omega)
        refine kx_ixor 64 F (v := (zxor (M 164 (85 * a1 + a4 + 100)) (zshl 1 a2))) dX12_setsState_63 rfl rfl ?_
        have h_22 : 0 ≤ (zxor (M 164 (85 * a1 + a4 + 100)) (zshl 1 a2)) ∧ (zxor (M 164 (85 * a1 + a4 + 100)) (zshl 1 a2)) < 8 := zxor_lt (a := (M 164 (85 * a1 + a4 + 100))) (b := (zshl 1 a2)) 3 (by decide) (by omega) (by omega)
        refine kx_iast 65 F kd_164 rfl rfl (by omega) (by decide) dX12_setsState_64 rfl ?_
        intro N_23 hM_N_23
        have hI_N_23 : Inv true N_23 := Inv.u hI_M hM_N_23 kd_164 (a := 0) (b := 7) ha_19.1 ha_19.2 rfl (by omega)
        have hF_N_23 : Fr f_c_set3 M N_23 := Fr.u hF_M hM_N_23 kd_164 rfl
        refine kx_aload_n 66 F 0 dX12_setsState_65 rfl rfl rfl ?_
        refine kx_aload_n 67 F 0 dX12_setsState_66 rfl rfl rfl ?_
        refine kx_iload_n 68 F 1 dX12_setsState_67 rfl rfl rfl ?_
        refine kx_iload 70 F 4 dX12_setsState_68 rfl rfl ?_
        refine kx_Vi 73 (ci := 0) F (As := [vI a1, vI a4]) (st := [vR G 163]) vd_X12_288 (c_ofX G l N_23 a1 a4 hI_N_23 (by omega)) kd_163 rfl rfl rfl ⟨by decide, by decide⟩ rfl rfl (Nat.le_of_ble_eq_true rfl) dX12_setsState_70 rfl ?_
        intro r_24 N_25 q_26
        obtain ⟨rfl, q_26c⟩ := q_26
        refine kx_Vi 76 (ci := 0) F (As := [vI r_24]) (st := []) vd_X12_127 (c_X12_gives G l N_23 r_24 hI_N_23 (by omega)) kd_163 rfl rfl rfl ⟨by decide, by decide⟩ rfl rfl (Nat.le_of_ble_eq_true rfl) dX12_setsState_73 rfl ?_
        intro r_27 N_28 q_29
        obtain ⟨hI_N_28, hG_N_28, q_29c⟩ := q_29
        have hF_N_28 : Fr f_c_set3 M N_28 := Fr.c hF_N_23 hG_N_28 rfl
        refine kx_topi (e' := r_24) (by omega) ?_
        exact kx_iret F hQ ⟨hI_N_28, hF_N_28, (by omega), (YY.fr (YY.sta hY hI_M hM_N_23 (by omega)) hG_N_28 rfl)⟩ dX12_setsState_76
      · refine kx_aload_n 40 F 0 dX12_setsState_39 rfl rfl rfl ?_
        refine kx_bipush 42 F dX12_setsState_40 (by decide) rfl ?_
        refine kx_Vi 45 (ci := 0) F (As := [vI 7]) (st := []) vd_X12_123 (c_X12_refuse G l M 7 hI_M (by omega)) kd_163 rfl rfl rfl ⟨by decide, by decide⟩ rfl rfl (Nat.le_of_ble_eq_true rfl) dX12_setsState_42 rfl ?_
        intro r_30 N_31 q_32
        obtain ⟨hI_N_31, hG_N_31, q_32c⟩ := q_32
        have hF_N_31 : Fr f_c_set3 M N_31 := Fr.c hF_M hG_N_31 rfl
        subst q_32c
        exact kx_iret F hQ ⟨hI_N_31, hF_N_31, (by omega), (YY.fr hY hG_N_31 rfl)⟩ dX12_setsState_45
    · exfalso; omega
    · refine kx_if_ne 17 F 23 dX12_setsState_14 (by decide) rfl (by omega) (fun h_33 => (by exfalso; omega)) (fun h_33 => ?_)
      refine kx_aload_n 18 F 0 dX12_setsState_17 rfl rfl rfl ?_
      refine kx_iconst 19 F dX12_setsState_18 rfl ?_
      refine kx_Vi 22 (ci := 0) F (As := [vI 1]) (st := []) vd_X12_123 (c_X12_refuse G l M 1 hI_M (by omega)) kd_163 rfl rfl rfl ⟨by decide, by decide⟩ rfl rfl (Nat.le_of_ble_eq_true rfl) dX12_setsState_19 rfl ?_
      intro r_34 N_35 q_36
      obtain ⟨hI_N_35, hG_N_35, q_36c⟩ := q_36
      have hF_N_35 : Fr f_c_set3 M N_35 := Fr.c hF_M hG_N_35 rfl
      subst q_36c
      exact kx_iret F hQ ⟨hI_N_35, hF_N_35, (by omega), (YY.fr hY hG_N_35 rfl)⟩ dX12_setsState_22
  · refine kx_if_eq 8 F 17 dX12_setsState_5 (by decide) rfl (by omega) (fun h_37 => ?_) (fun h_37 => (by exfalso; omega))
    refine kx_aload_n 18 F 0 dX12_setsState_17 rfl rfl rfl ?_
    refine kx_iconst 19 F dX12_setsState_18 rfl ?_
    refine kx_Vi 22 (ci := 0) F (As := [vI 1]) (st := []) vd_X12_123 (c_X12_refuse G l M 1 hI_M (by omega)) kd_163 rfl rfl rfl ⟨by decide, by decide⟩ rfl rfl (Nat.le_of_ble_eq_true rfl) dX12_setsState_19 rfl ?_
    intro r_38 N_39 q_40
    obtain ⟨hI_N_39, hG_N_39, q_40c⟩ := q_40
    have hF_N_39 : Fr f_c_set3 M N_39 := Fr.c hF_M hG_N_39 rfl
    subst q_40c
    exact kx_iret F hQ ⟨hI_N_39, hF_N_39, (by omega), (YY.fr hY hG_N_39 rfl)⟩ dX12_setsState_22
theorem dX12_start_0 : decode cX12_start 0 = .ok (.aload_n 0, 1) := by decide +kernel
theorem dX12_start_1 : decode cX12_start 1 = .ok (.iload_n 1, 1) := by decide +kernel
theorem dX12_start_2 : decode cX12_start 2 = .ok (.iload_n 2, 1) := by decide +kernel
theorem dX12_start_3 : decode cX12_start 3 = .ok (.iload_n 3, 1) := by decide +kernel
theorem dX12_start_4 : decode cX12_start 4 = .ok (.iconst 2, 1) := by decide +kernel
theorem dX12_start_5 : decode cX12_start 5 = .ok (.invokevirtual 309, 3) := by decide +kernel
theorem dX12_start_8 : decode cX12_start 8 = .ok (.ireturn, 1) := by decide +kernel
abbrev f_c_X12_start : List (Nat × Int) := [(64, 2), (65, -1)]
set_option maxHeartbeats 4000000 in
set_option maxRecDepth 100000 in
theorem c_X12_start (G : KG) (l : Launch) (M : Mem) (a1 : Int) (a2 : Int) (a3 : Int) (hI_M : Inv true M) (hpre : -2147483648 ≤ a1 ∧ a1 ≤ 2147483647 ∧ -2147483648 ≤ a2 ∧ a2 ≤ 2147483647 ∧ 0 ≤ a3 ∧ a3 ≤ 1) (hY : YY M) : KC true G l yX12_start cX12_start 4 (some .int) (4, 89) [vR G 163, vI a1, vI a2, vI a3] M (fun A => kQi true G A (fun (r : Int) (N : Mem) => Inv true N ∧ Fr f_c_X12_start M N ∧ (r ≥ -2147483648 ∧ r ≤ 2147483647) ∧ (YY N))) := by
  refine kx_met (lo := [some (vR G 163), some (vI a1), some (vI a2), some (vI a3)]) (by decide) (Nat.le_of_ble_eq_true rfl) rfl ?_
  intro X F hQ
  have hF_M : Fr f_c_X12_start M M := Fr.rf _ _
  refine kx_aload_n 1 F 0 dX12_start_0 rfl rfl rfl ?_
  refine kx_iload_n 2 F 1 dX12_start_1 rfl rfl rfl ?_
  refine kx_iload_n 3 F 2 dX12_start_2 rfl rfl rfl ?_
  refine kx_iload_n 4 F 3 dX12_start_3 rfl rfl rfl ?_
  refine kx_iconst 5 F dX12_start_4 rfl ?_
  refine kx_Vi 8 (ci := 0) F (As := [vI a1, vI a2, vI a3, vI 2]) (st := []) vd_X12_309 (c_set2 G l M a1 a2 a3 2 hI_M (by omega) hY) kd_163 rfl rfl rfl ⟨by decide, by decide⟩ rfl rfl (Nat.le_of_ble_eq_true rfl) dX12_start_5 rfl ?_
  intro r_1 N_2 q_3
  obtain ⟨hI_N_2, hG_N_2, q_3c, hy_N_2⟩ := q_3
  have hF_N_2 : Fr f_c_X12_start M N_2 := Fr.c hF_M hG_N_2 rfl
  exact kx_iret F hQ ⟨hI_N_2, hF_N_2, (by omega), hy_N_2⟩ dX12_start_8
theorem dX12_accept_0 : decode cX12_accept 0 = .ok (.aload_n 0, 1) := by decide +kernel
theorem dX12_accept_1 : decode cX12_accept 1 = .ok (.iload_n 1, 1) := by decide +kernel
theorem dX12_accept_2 : decode cX12_accept 2 = .ok (.iload_n 2, 1) := by decide +kernel
theorem dX12_accept_3 : decode cX12_accept 3 = .ok (.iload_n 3, 1) := by decide +kernel
theorem dX12_accept_4 : decode cX12_accept 4 = .ok (.iconst 3, 1) := by decide +kernel
theorem dX12_accept_5 : decode cX12_accept 5 = .ok (.invokevirtual 309, 3) := by decide +kernel
theorem dX12_accept_8 : decode cX12_accept 8 = .ok (.ireturn, 1) := by decide +kernel
abbrev f_c_X12_accept : List (Nat × Int) := [(64, 2), (65, -1)]
set_option maxHeartbeats 4000000 in
set_option maxRecDepth 100000 in
theorem c_X12_accept (G : KG) (l : Launch) (M : Mem) (a1 : Int) (a2 : Int) (a3 : Int) (hI_M : Inv true M) (hpre : -2147483648 ≤ a1 ∧ a1 ≤ 2147483647 ∧ -2147483648 ≤ a2 ∧ a2 ≤ 2147483647 ∧ 0 ≤ a3 ∧ a3 ≤ 1) (hY : YY M) : KC true G l yX12_accept cX12_accept 4 (some .int) (4, 89) [vR G 163, vI a1, vI a2, vI a3] M (fun A => kQi true G A (fun (r : Int) (N : Mem) => Inv true N ∧ Fr f_c_X12_accept M N ∧ (r ≥ -2147483648 ∧ r ≤ 2147483647) ∧ (YY N))) := by
  refine kx_met (lo := [some (vR G 163), some (vI a1), some (vI a2), some (vI a3)]) (by decide) (Nat.le_of_ble_eq_true rfl) rfl ?_
  intro X F hQ
  have hF_M : Fr f_c_X12_accept M M := Fr.rf _ _
  refine kx_aload_n 1 F 0 dX12_accept_0 rfl rfl rfl ?_
  refine kx_iload_n 2 F 1 dX12_accept_1 rfl rfl rfl ?_
  refine kx_iload_n 3 F 2 dX12_accept_2 rfl rfl rfl ?_
  refine kx_iload_n 4 F 3 dX12_accept_3 rfl rfl rfl ?_
  refine kx_iconst 5 F dX12_accept_4 rfl ?_
  refine kx_Vi 8 (ci := 0) F (As := [vI a1, vI a2, vI a3, vI 3]) (st := []) vd_X12_309 (c_set3 G l M a1 a2 a3 3 hI_M (by omega) hY) kd_163 rfl rfl rfl ⟨by decide, by decide⟩ rfl rfl (Nat.le_of_ble_eq_true rfl) dX12_accept_5 rfl ?_
  intro r_1 N_2 q_3
  obtain ⟨hI_N_2, hG_N_2, q_3c, hy_N_2⟩ := q_3
  have hF_N_2 : Fr f_c_X12_accept M N_2 := Fr.c hF_M hG_N_2 rfl
  exact kx_iret F hQ ⟨hI_N_2, hF_N_2, (by omega), hy_N_2⟩ dX12_accept_8
theorem dX12_copy_0 : decode cX12_copy 0 = .ok (.aload_n 0, 1) := by decide +kernel
theorem dX12_copy_1 : decode cX12_copy 1 = .ok (.iload_n 1, 1) := by decide +kernel
theorem dX12_copy_2 : decode cX12_copy 2 = .ok (.iload_n 2, 1) := by decide +kernel
theorem dX12_copy_3 : decode cX12_copy 3 = .ok (.invokevirtual 313, 3) := by decide +kernel
theorem dX12_copy_6 : decode cX12_copy 6 = .ok (.ifCond .ne 9, 3) := by decide +kernel
theorem dX12_copy_9 : decode cX12_copy 9 = .ok (.aload_n 0, 1) := by decide +kernel
theorem dX12_copy_10 : decode cX12_copy 10 = .ok (.iconst 1, 1) := by decide +kernel
theorem dX12_copy_11 : decode cX12_copy 11 = .ok (.invokevirtual 130, 3) := by decide +kernel
theorem dX12_copy_14 : decode cX12_copy 14 = .ok (.ireturn, 1) := by decide +kernel
theorem dX12_copy_15 : decode cX12_copy 15 = .ok (.iconst 0, 1) := by decide +kernel
theorem dX12_copy_16 : decode cX12_copy 16 = .ok (.istore_n 3, 1) := by decide +kernel
theorem dX12_copy_17 : decode cX12_copy 17 = .ok (.iload_n 3, 1) := by decide +kernel
theorem dX12_copy_18 : decode cX12_copy 18 = .ok (.bipush 85, 2) := by decide +kernel
theorem dX12_copy_20 : decode cX12_copy 20 = .ok (.if_icmp .ge 33, 3) := by decide +kernel
theorem dX12_copy_23 : decode cX12_copy 23 = .ok (.aload_n 0, 1) := by decide +kernel
theorem dX12_copy_24 : decode cX12_copy 24 = .ok (.getfield 7, 3) := by decide +kernel
theorem dX12_copy_27 : decode cX12_copy 27 = .ok (.iconst 0, 1) := by decide +kernel
theorem dX12_copy_28 : decode cX12_copy 28 = .ok (.iload_n 2, 1) := by decide +kernel
theorem dX12_copy_29 : decode cX12_copy 29 = .ok (.invokestatic 216, 3) := by decide +kernel
theorem dX12_copy_32 : decode cX12_copy 32 = .ok (.iload_n 3, 1) := by decide +kernel
theorem dX12_copy_33 : decode cX12_copy 33 = .ok (.iadd, 1) := by decide +kernel
theorem dX12_copy_34 : decode cX12_copy 34 = .ok (.aload_n 0, 1) := by decide +kernel
theorem dX12_copy_35 : decode cX12_copy 35 = .ok (.getfield 7, 3) := by decide +kernel
theorem dX12_copy_38 : decode cX12_copy 38 = .ok (.iconst 0, 1) := by decide +kernel
theorem dX12_copy_39 : decode cX12_copy 39 = .ok (.iload_n 1, 1) := by decide +kernel
theorem dX12_copy_40 : decode cX12_copy 40 = .ok (.invokestatic 216, 3) := by decide +kernel
theorem dX12_copy_43 : decode cX12_copy 43 = .ok (.iload_n 3, 1) := by decide +kernel
theorem dX12_copy_44 : decode cX12_copy 44 = .ok (.iadd, 1) := by decide +kernel
theorem dX12_copy_45 : decode cX12_copy 45 = .ok (.iaload, 1) := by decide +kernel
theorem dX12_copy_46 : decode cX12_copy 46 = .ok (.iastore, 1) := by decide +kernel
theorem dX12_copy_47 : decode cX12_copy 47 = .ok (.iinc 3 1, 3) := by decide +kernel
theorem dX12_copy_50 : decode cX12_copy 50 = .ok (.goto (-33), 3) := by decide +kernel
theorem dX12_copy_53 : decode cX12_copy 53 = .ok (.aload_n 0, 1) := by decide +kernel
theorem dX12_copy_54 : decode cX12_copy 54 = .ok (.iconst 0, 1) := by decide +kernel
theorem dX12_copy_55 : decode cX12_copy 55 = .ok (.invokevirtual 130, 3) := by decide +kernel
theorem dX12_copy_58 : decode cX12_copy 58 = .ok (.ireturn, 1) := by decide +kernel
abbrev f_c_X12_copy : List (Nat × Int) := [(64, 2), (65, -1)]
set_option maxHeartbeats 4000000 in
set_option maxRecDepth 100000 in
theorem c_X12_copy (G : KG) (l : Launch) (M : Mem) (a1 : Int) (a2 : Int) (hI_M : Inv true M) (hpre : -2147483648 ≤ a1 ∧ a1 ≤ 2147483647 ∧ -2147483648 ≤ a2 ∧ a2 ≤ 2147483647) (hY : YY M) : KC true G l yX12_copy cX12_copy 4 (some .boolean) (2, 43) [vR G 163, vI a1, vI a2] M (fun A => kQi true G A (fun (r : Int) (N : Mem) => Inv true N ∧ Fr f_c_X12_copy M N ∧ (0 ≤ r ∧ r ≤ 1) ∧ (YY N))) := by
  refine kx_met (lo := [some (vR G 163), some (vI a1), some (vI a2), none]) (by decide) (Nat.le_of_ble_eq_true rfl) rfl ?_
  intro X F hQ
  have hF_M : Fr f_c_X12_copy M M := Fr.rf _ _
  refine kx_aload_n 1 F 0 dX12_copy_0 rfl rfl rfl ?_
  refine kx_iload_n 2 F 1 dX12_copy_1 rfl rfl rfl ?_
  refine kx_iload_n 3 F 2 dX12_copy_2 rfl rfl rfl ?_
  refine kx_Vi 6 (ci := 0) F (As := [vI a1, vI a2]) (st := []) vd_X12_313 (c_X12_areTwo G l M a1 a2 hI_M (by omega)) kd_163 rfl rfl rfl ⟨by decide, by decide⟩ rfl rfl (Nat.le_of_ble_eq_true rfl) dX12_copy_3 rfl ?_
  intro r_1 N_2 q_3
  obtain ⟨rfl, q_3c⟩ := q_3
  rcases q_3c with q_3c | q_3c
  · refine kx_if_ne 9 F 15 dX12_copy_6 (by decide) rfl (by omega) (fun h_4 => ?_) (fun h_4 => (by exfalso; omega))
    refine kx_iconst 16 F dX12_copy_15 rfl ?_
    refine kx_istore_n 17 F 3 (lo' := [some (vR G 163), some (vI a1), some (vI a2), some (vI 0)]) dX12_copy_16 rfl (by decide) rfl rfl rfl ?_
    have L_110 : ∀ (n_111 : Nat) (x3_108 : Int) (N_109 : Mem), Inv true N_109 → Fr f_c_X12_copy M N_109 → CPk N_109 M (100 + 85 * a2) (100 + 85 * a1) x3_108 → 0 ≤ x3_108 ∧ x3_108 ≤ 85 → (85 - (x3_108)).toNat = n_111 → KJ true G X N_109 17 [some (vR G 163), some (vI a1), some (vI a2), some (vI x3_108)] [] := by
      intro n_111
      refine Nat.strongRecOn n_111 ?_
      intro n_111 ih_112 x3_108 N_109 hI_N_109 hF_N_109 hp_115 h_113 hm_114
      refine kx_iload_n 18 F 3 dX12_copy_17 rfl rfl rfl ?_
      refine kx_bipush 20 F dX12_copy_18 (by decide) rfl ?_
      refine kx_icmp_ge 23 F 53 dX12_copy_20 (by decide) rfl (by omega) (by decide) (fun h_116 => ?_) (fun h_116 => ?_)
      · refine kx_aload_n 54 F 0 dX12_copy_53 rfl rfl rfl ?_
        refine kx_iconst 55 F dX12_copy_54 rfl ?_
        refine kx_Vi 58 (ci := 0) F (As := [vI 0]) (st := []) vd_X12_130 (c_X12_is G l N_109 0 hI_N_109 (by omega)) kd_163 rfl rfl rfl ⟨by decide, by decide⟩ rfl rfl (Nat.le_of_ble_eq_true rfl) dX12_copy_55 rfl ?_
        intro r_117 N_118 q_119
        obtain ⟨hI_N_118, hG_N_118, q_119c⟩ := q_119
        have hF_N_118 : Fr f_c_X12_copy M N_118 := Fr.c hF_N_109 hG_N_118 rfl
        rcases q_119c with q_119c | q_119c
        · exact kx_zret F hQ (by omega) ⟨hI_N_118, hF_N_118, (by omega), (YY.fr (YY.copy hY hI_M a1 a2 (by omega) (by omega) (hp_115.at (by omega))) hG_N_118 rfl)⟩ dX12_copy_58
        · exact kx_zret F hQ (by omega) ⟨hI_N_118, hF_N_118, (by omega), (YY.fr (YY.copy hY hI_M a1 a2 (by omega) (by omega) (hp_115.at (by omega))) hG_N_118 rfl)⟩ dX12_copy_58
      · refine kx_aload_n 24 F 0 dX12_copy_23 rfl rfl rfl ?_
        refine kx_getr 27 F fl_X12_7 kd_163 rfl rfl (j := 0) rfl dX12_copy_24 (v := 164) (uq_164 (Inv.r hI_N_109 kd_163 rfl 0 rfl rfl)) rfl ?_
        refine kx_iconst 28 F dX12_copy_27 rfl ?_
        refine kx_iload_n 29 F 2 dX12_copy_28 rfl rfl rfl ?_
        refine kx_Si 32 F (As := [vI 0, vI a2]) (st := [vR G 164]) sd_X12_216 (c_X12_rowOf G l N_109 0 a2 hI_N_109 (by omega)) ⟨by decide, by decide⟩ rfl rfl (Nat.le_of_ble_eq_true rfl) dX12_copy_29 rfl ?_
        intro r_120 N_121 q_122
        obtain ⟨rfl, q_122c⟩ := q_122
        refine kx_topi (e' := 85 * a2 + 100) (by omega) ?_
        refine kx_iload_n 33 F 3 dX12_copy_32 rfl rfl rfl ?_
        refine kx_iadd 34 F (v := 85 * a2 + x3_108 + 100) dX12_copy_33 (by omega) rfl ?_
        refine kx_aload_n 35 F 0 dX12_copy_34 rfl rfl rfl ?_
        refine kx_getr 38 F fl_X12_7 kd_163 rfl rfl (j := 0) rfl dX12_copy_35 (v := 164) (uq_164 (Inv.r hI_N_109 kd_163 rfl 0 rfl rfl)) rfl ?_
        refine kx_iconst 39 F dX12_copy_38 rfl ?_
        refine kx_iload_n 40 F 1 dX12_copy_39 rfl rfl rfl ?_
        refine kx_Si 43 F (As := [vI 0, vI a1]) (st := [vR G 164, vI (85 * a2 + x3_108 + 100), vR G 164]) sd_X12_216 (c_X12_rowOf G l N_109 0 a1 hI_N_109 (by omega)) ⟨by decide, by decide⟩ rfl rfl (Nat.le_of_ble_eq_true rfl) dX12_copy_40 rfl ?_
        intro r_123 N_124 q_125
        obtain ⟨rfl, q_125c⟩ := q_125
        refine kx_topi (e' := 85 * a1 + 100) (by omega) ?_
        refine kx_iload_n 44 F 3 dX12_copy_43 rfl rfl rfl ?_
        refine kx_iadd 45 F (v := 85 * a1 + x3_108 + 100) dX12_copy_44 (by omega) rfl ?_
        refine kx_iald 46 F kd_164 rfl rfl (by omega) (by decide) dX12_copy_45 (v := (N_109 164 (85 * a1 + x3_108 + 100))) rfl rfl ?_
        have h_126 := Inv.g hI_N_109 kd_164 rfl (85 * a1 + x3_108 + 100) (a := atlo (85 * a1 + x3_108 + 100)) (b := athi (85 * a1 + x3_108 + 100)) rfl rfl
        have h_127 := at_w (85 * a1 + x3_108 + 100)
        refine kx_iast 47 F kd_164 rfl rfl (by omega) (by decide) dX12_copy_46 rfl ?_
        intro N_128 hM_N_128
        have h_129 := at_0 (85 * a2 + x3_108 + 100)
        have h_130 := at_85 (85 * a2 + x3_108 + 100) (85 * a1 + x3_108 + 100) a2 a1 x3_108 (by omega) (by omega) (by omega) (by omega) (by omega)
        have hI_N_128 : Inv true N_128 := Inv.u hI_N_109 hM_N_128 kd_164 (a := atlo (85 * a2 + x3_108 + 100)) (b := athi (85 * a2 + x3_108 + 100)) rfl rfl rfl (by omega)
        have hF_N_128 : Fr f_c_X12_copy M N_128 := Fr.u hF_N_109 hM_N_128 kd_164 rfl
        refine kx_iinc 50 F 3 (v := x3_108 + 1) (lo' := [some (vR G 163), some (vI a1), some (vI a2), some (vI (x3_108 + 1))]) dX12_copy_47 rfl (by omega) (by decide) rfl rfl rfl ?_
        refine kx_goto 17 F dX12_copy_50 (by decide) ?_
        exact ih_112 _ (by omega) (x3_108 + 1) N_128 hI_N_128 hF_N_128 (CPk.step hp_115 (by omega) hM_N_128 (by omega) rfl (by omega) (by omega) (by omega)) (by omega) rfl
    exact L_110 _ 0 M hI_M hF_M ((CPk.nil _ _).at (by omega)) (by omega) rfl
  · refine kx_if_ne 9 F 15 dX12_copy_6 (by decide) rfl (by omega) (fun h_131 => (by exfalso; omega)) (fun h_131 => ?_)
    refine kx_aload_n 10 F 0 dX12_copy_9 rfl rfl rfl ?_
    refine kx_iconst 11 F dX12_copy_10 rfl ?_
    refine kx_Vi 14 (ci := 0) F (As := [vI 1]) (st := []) vd_X12_130 (c_X12_is G l M 1 hI_M (by omega)) kd_163 rfl rfl rfl ⟨by decide, by decide⟩ rfl rfl (Nat.le_of_ble_eq_true rfl) dX12_copy_11 rfl ?_
    intro r_132 N_133 q_134
    obtain ⟨hI_N_133, hG_N_133, q_134c⟩ := q_134
    have hF_N_133 : Fr f_c_X12_copy M N_133 := Fr.c hF_M hG_N_133 rfl
    rcases q_134c with q_134c | q_134c
    · exfalso; omega
    · exact kx_zret F hQ (by omega) ⟨hI_N_133, hF_N_133, (by omega), (YY.fr hY hG_N_133 rfl)⟩ dX12_copy_14
theorem dX12_copies_0 : decode cX12_copies 0 = .ok (.iconst 0, 1) := by decide +kernel
theorem dX12_copies_1 : decode cX12_copies 1 = .ok (.istore_n 3, 1) := by decide +kernel
theorem dX12_copies_2 : decode cX12_copies 2 = .ok (.iload_n 3, 1) := by decide +kernel
theorem dX12_copies_3 : decode cX12_copies 3 = .ok (.sipush 272, 3) := by decide +kernel
theorem dX12_copies_6 : decode cX12_copies 6 = .ok (.if_icmp .ge 33, 3) := by decide +kernel
theorem dX12_copies_9 : decode cX12_copies 9 = .ok (.aload_n 0, 1) := by decide +kernel
theorem dX12_copies_10 : decode cX12_copies 10 = .ok (.getfield 7, 3) := by decide +kernel
theorem dX12_copies_13 : decode cX12_copies 13 = .ok (.sipush 272, 3) := by decide +kernel
theorem dX12_copies_16 : decode cX12_copies 16 = .ok (.iload_n 2, 1) := by decide +kernel
theorem dX12_copies_17 : decode cX12_copies 17 = .ok (.imul, 1) := by decide +kernel
theorem dX12_copies_18 : decode cX12_copies 18 = .ok (.iload_n 3, 1) := by decide +kernel
theorem dX12_copies_19 : decode cX12_copies 19 = .ok (.iadd, 1) := by decide +kernel
theorem dX12_copies_20 : decode cX12_copies 20 = .ok (.aload_n 0, 1) := by decide +kernel
theorem dX12_copies_21 : decode cX12_copies 21 = .ok (.getfield 7, 3) := by decide +kernel
theorem dX12_copies_24 : decode cX12_copies 24 = .ok (.sipush 272, 3) := by decide +kernel
theorem dX12_copies_27 : decode cX12_copies 27 = .ok (.iload_n 1, 1) := by decide +kernel
theorem dX12_copies_28 : decode cX12_copies 28 = .ok (.imul, 1) := by decide +kernel
theorem dX12_copies_29 : decode cX12_copies 29 = .ok (.iload_n 3, 1) := by decide +kernel
theorem dX12_copies_30 : decode cX12_copies 30 = .ok (.iadd, 1) := by decide +kernel
theorem dX12_copies_31 : decode cX12_copies 31 = .ok (.iaload, 1) := by decide +kernel
theorem dX12_copies_32 : decode cX12_copies 32 = .ok (.iastore, 1) := by decide +kernel
theorem dX12_copies_33 : decode cX12_copies 33 = .ok (.iinc 3 1, 3) := by decide +kernel
theorem dX12_copies_36 : decode cX12_copies 36 = .ok (.goto (-34), 3) := by decide +kernel
theorem dX12_copies_39 : decode cX12_copies 39 = .ok (.iconst 0, 1) := by decide +kernel
theorem dX12_copies_40 : decode cX12_copies 40 = .ok (.istore_n 3, 1) := by decide +kernel
theorem dX12_copies_41 : decode cX12_copies 41 = .ok (.iload_n 3, 1) := by decide +kernel
theorem dX12_copies_42 : decode cX12_copies 42 = .ok (.bipush 6, 2) := by decide +kernel
theorem dX12_copies_44 : decode cX12_copies 44 = .ok (.if_icmp .ge 31, 3) := by decide +kernel
theorem dX12_copies_47 : decode cX12_copies 47 = .ok (.aload_n 0, 1) := by decide +kernel
theorem dX12_copies_48 : decode cX12_copies 48 = .ok (.getfield 13, 3) := by decide +kernel
theorem dX12_copies_51 : decode cX12_copies 51 = .ok (.bipush 6, 2) := by decide +kernel
theorem dX12_copies_53 : decode cX12_copies 53 = .ok (.iload_n 2, 1) := by decide +kernel
theorem dX12_copies_54 : decode cX12_copies 54 = .ok (.imul, 1) := by decide +kernel
theorem dX12_copies_55 : decode cX12_copies 55 = .ok (.iload_n 3, 1) := by decide +kernel
theorem dX12_copies_56 : decode cX12_copies 56 = .ok (.iadd, 1) := by decide +kernel
theorem dX12_copies_57 : decode cX12_copies 57 = .ok (.aload_n 0, 1) := by decide +kernel
theorem dX12_copies_58 : decode cX12_copies 58 = .ok (.getfield 13, 3) := by decide +kernel
theorem dX12_copies_61 : decode cX12_copies 61 = .ok (.bipush 6, 2) := by decide +kernel
theorem dX12_copies_63 : decode cX12_copies 63 = .ok (.iload_n 1, 1) := by decide +kernel
theorem dX12_copies_64 : decode cX12_copies 64 = .ok (.imul, 1) := by decide +kernel
theorem dX12_copies_65 : decode cX12_copies 65 = .ok (.iload_n 3, 1) := by decide +kernel
theorem dX12_copies_66 : decode cX12_copies 66 = .ok (.iadd, 1) := by decide +kernel
theorem dX12_copies_67 : decode cX12_copies 67 = .ok (.laload, 1) := by decide +kernel
theorem dX12_copies_68 : decode cX12_copies 68 = .ok (.lastore, 1) := by decide +kernel
theorem dX12_copies_69 : decode cX12_copies 69 = .ok (.iinc 3 1, 3) := by decide +kernel
theorem dX12_copies_72 : decode cX12_copies 72 = .ok (.goto (-31), 3) := by decide +kernel
theorem dX12_copies_75 : decode cX12_copies 75 = .ok (.return_, 1) := by decide +kernel
abbrev f_c_X12_copies : List (Nat × Int) := [(65, -1), (66, -1)]
set_option maxHeartbeats 4000000 in
set_option maxRecDepth 100000 in
theorem c_X12_copies (G : KG) (l : Launch) (M : Mem) (a1 : Int) (a2 : Int) (hI_M : Inv true M) (hpre : -2147483648 ≤ a1 ∧ a1 ≤ 2147483647 ∧ -2147483648 ≤ a2 ∧ a2 ≤ 2147483647 ∧ 0 ≤ a1 ∧ a1 ≤ 3 ∧ 0 ≤ a2 ∧ a2 ≤ 3 ∧ a1 ≠ a2) : KC true G l yX12_copies cX12_copies 4 none (0, 0) [vR G 163, vI a1, vI a2] M (fun A => kQv true G A (fun (N : Mem) => Inv true N ∧ Fr f_c_X12_copies M N ∧ (CPk N M (272 * a2) (272 * a1) 272))) := by
  refine kx_met (lo := [some (vR G 163), some (vI a1), some (vI a2), none]) (by decide) (Nat.le_of_ble_eq_true rfl) rfl ?_
  intro X F hQ
  have hF_M : Fr f_c_X12_copies M M := Fr.rf _ _
  refine kx_iconst 1 F dX12_copies_0 rfl ?_
  refine kx_istore_n 2 F 3 (lo' := [some (vR G 163), some (vI a1), some (vI a2), some (vI 0)]) dX12_copies_1 rfl (by decide) rfl rfl rfl ?_
  have L_151 : ∀ (n_152 : Nat) (x3_149 : Int) (N_150 : Mem), Inv true N_150 → Fr f_c_X12_copies M N_150 → CPk N_150 M (272 * a2) (272 * a1) x3_149 → 0 ≤ x3_149 ∧ x3_149 ≤ 272 → (272 - (x3_149)).toNat = n_152 → KJ true G X N_150 2 [some (vR G 163), some (vI a1), some (vI a2), some (vI x3_149)] [] := by
    intro n_152
    refine Nat.strongRecOn n_152 ?_
    intro n_152 ih_153 x3_149 N_150 hI_N_150 hF_N_150 hp_156 h_154 hm_155
    refine kx_iload_n 3 F 3 dX12_copies_2 rfl rfl rfl ?_
    refine kx_sipush 6 F dX12_copies_3 (by decide) rfl ?_
    refine kx_icmp_ge 9 F 39 dX12_copies_6 (by decide) rfl (by omega) (by decide) (fun h_157 => ?_) (fun h_157 => ?_)
    · refine kx_iconst 40 F dX12_copies_39 rfl ?_
      refine kx_istore_n 41 F 3 (lo' := [some (vR G 163), some (vI a1), some (vI a2), some (vI 0)]) dX12_copies_40 rfl (by decide) rfl rfl rfl ?_
      have L_195 : ∀ (n_196 : Nat) (x3_193 : Int) (N_194 : Mem), Inv true N_194 → Fr f_c_X12_copies M N_194 → CPk N_194 M (272 * a2) (272 * a1) 272 → 0 ≤ x3_193 ∧ x3_193 ≤ 6 → (6 - (x3_193)).toNat = n_196 → KJ true G X N_194 41 [some (vR G 163), some (vI a1), some (vI a2), some (vI x3_193)] [] := by
        intro n_196
        refine Nat.strongRecOn n_196 ?_
        intro n_196 ih_197 x3_193 N_194 hI_N_194 hF_N_194 hp_200 h_198 hm_199
        refine kx_iload_n 42 F 3 dX12_copies_41 rfl rfl rfl ?_
        refine kx_bipush 44 F dX12_copies_42 (by decide) rfl ?_
        refine kx_icmp_ge 47 F 75 dX12_copies_44 (by decide) rfl (by omega) (by decide) (fun h_201 => ?_) (fun h_201 => ?_)
        · exact kx_vret F hQ ⟨hI_N_194, hF_N_194, hp_200⟩ dX12_copies_75
        · refine kx_aload_n 48 F 0 dX12_copies_47 rfl rfl rfl ?_
          refine kx_getr 51 F fl_X12_13 kd_163 rfl rfl (j := 1) rfl dX12_copies_48 (v := 165) (uq_165 (Inv.r hI_N_194 kd_163 rfl 1 rfl rfl)) rfl ?_
          refine kx_bipush 53 F dX12_copies_51 (by decide) rfl ?_
          refine kx_iload_n 54 F 2 dX12_copies_53 rfl rfl rfl ?_
          refine kx_imul 55 F (v := 6 * a2) dX12_copies_54 (by omega) rfl ?_
          refine kx_iload_n 56 F 3 dX12_copies_55 rfl rfl rfl ?_
          refine kx_iadd 57 F (v := 6 * a2 + x3_193) dX12_copies_56 rfl rfl ?_
          refine kx_aload_n 58 F 0 dX12_copies_57 rfl rfl rfl ?_
          refine kx_getr 61 F fl_X12_13 kd_163 rfl rfl (j := 1) rfl dX12_copies_58 (v := 165) (uq_165 (Inv.r hI_N_194 kd_163 rfl 1 rfl rfl)) rfl ?_
          refine kx_bipush 63 F dX12_copies_61 (by decide) rfl ?_
          refine kx_iload_n 64 F 1 dX12_copies_63 rfl rfl rfl ?_
          refine kx_imul 65 F (v := 6 * a1) dX12_copies_64 (by omega) rfl ?_
          refine kx_iload_n 66 F 3 dX12_copies_65 rfl rfl rfl ?_
          refine kx_iadd 67 F (v := 6 * a1 + x3_193) dX12_copies_66 rfl rfl ?_
          refine kx_lald 68 F kd_165 rfl rfl (by omega) (by decide) dX12_copies_67 (v := (N_194 165 (6 * a1 + x3_193))) rfl rfl ?_
          have h_202 := Inv.g hI_N_194 kd_165 rfl (6 * a1 + x3_193) (a := (-9223372036854775808)) (b := 9223372036854775807) rfl rfl
          refine kx_last 69 F kd_165 rfl rfl (by omega) (by decide) dX12_copies_68 rfl ?_
          intro N_203 hM_N_203
          have hI_N_203 : Inv true N_203 := Inv.u hI_N_194 hM_N_203 kd_165 (a := (-9223372036854775808)) (b := 9223372036854775807) rfl rfl rfl (by omega)
          have hF_N_203 : Fr f_c_X12_copies M N_203 := Fr.u hF_N_194 hM_N_203 kd_165 rfl
          refine kx_iinc 72 F 3 (v := x3_193 + 1) (lo' := [some (vR G 163), some (vI a1), some (vI a2), some (vI (x3_193 + 1))]) dX12_copies_69 rfl (by omega) (by decide) rfl rfl rfl ?_
          refine kx_goto 41 F dX12_copies_72 (by decide) ?_
          have hp_204 : CPk N_203 M (272 * a2) (272 * a1) 272 := CPk.st hp_200 hM_N_203 kd_165 rfl
          exact ih_197 _ (by omega) (x3_193 + 1) N_203 hI_N_203 hF_N_203 (hp_204.at (by omega)) (by omega) rfl
      exact L_195 _ 0 N_150 hI_N_150 hF_N_150 (hp_156.at (by omega)) (by omega) rfl
    · refine kx_aload_n 10 F 0 dX12_copies_9 rfl rfl rfl ?_
      refine kx_getr 13 F fl_X12_7 kd_163 rfl rfl (j := 0) rfl dX12_copies_10 (v := 164) (uq_164 (Inv.r hI_N_150 kd_163 rfl 0 rfl rfl)) rfl ?_
      refine kx_sipush 16 F dX12_copies_13 (by decide) rfl ?_
      refine kx_iload_n 17 F 2 dX12_copies_16 rfl rfl rfl ?_
      refine kx_imul 18 F (v := 272 * a2) dX12_copies_17 (by omega) rfl ?_
      refine kx_iload_n 19 F 3 dX12_copies_18 rfl rfl rfl ?_
      refine kx_iadd 20 F (v := 272 * a2 + x3_149) dX12_copies_19 rfl rfl ?_
      refine kx_aload_n 21 F 0 dX12_copies_20 rfl rfl rfl ?_
      refine kx_getr 24 F fl_X12_7 kd_163 rfl rfl (j := 0) rfl dX12_copies_21 (v := 164) (uq_164 (Inv.r hI_N_150 kd_163 rfl 0 rfl rfl)) rfl ?_
      refine kx_sipush 27 F dX12_copies_24 (by decide) rfl ?_
      refine kx_iload_n 28 F 1 dX12_copies_27 rfl rfl rfl ?_
      refine kx_imul 29 F (v := 272 * a1) dX12_copies_28 (by omega) rfl ?_
      refine kx_iload_n 30 F 3 dX12_copies_29 rfl rfl rfl ?_
      refine kx_iadd 31 F (v := 272 * a1 + x3_149) dX12_copies_30 rfl rfl ?_
      refine kx_iald 32 F kd_164 rfl rfl (by omega) (by decide) dX12_copies_31 (v := (N_150 164 (272 * a1 + x3_149))) rfl rfl ?_
      have h_205 := Inv.g hI_N_150 kd_164 rfl (272 * a1 + x3_149) (a := atlo (272 * a1 + x3_149)) (b := athi (272 * a1 + x3_149)) rfl rfl
      have h_206 := at_w (272 * a1 + x3_149)
      refine kx_iast 33 F kd_164 rfl rfl (by omega) (by decide) dX12_copies_32 rfl ?_
      intro N_207 hM_N_207
      have h_208 := at_0 (272 * a2 + x3_149)
      have h_209 := at_q (272 * a2 + x3_149) (272 * a1 + x3_149) (by omega)
      have hI_N_207 : Inv true N_207 := Inv.u hI_N_150 hM_N_207 kd_164 (a := atlo (272 * a2 + x3_149)) (b := athi (272 * a2 + x3_149)) rfl rfl rfl (by omega)
      have hF_N_207 : Fr f_c_X12_copies M N_207 := Fr.u hF_N_150 hM_N_207 kd_164 rfl
      refine kx_iinc 36 F 3 (v := x3_149 + 1) (lo' := [some (vR G 163), some (vI a1), some (vI a2), some (vI (x3_149 + 1))]) dX12_copies_33 rfl (by omega) (by decide) rfl rfl rfl ?_
      refine kx_goto 2 F dX12_copies_36 (by decide) ?_
      exact ih_153 _ (by omega) (x3_149 + 1) N_207 hI_N_207 hF_N_207 (CPk.step hp_156 (by omega) hM_N_207 (by omega) rfl (by omega) (by omega) (by omega)) (by omega) rfl
  exact L_151 _ 0 M hI_M hF_M ((CPk.nil _ _).at (by omega)) (by omega) rfl
theorem dX12_mark_0 : decode cX12_mark 0 = .ok (.aload_n 0, 1) := by decide +kernel
theorem dX12_mark_1 : decode cX12_mark 1 = .ok (.getfield 535, 3) := by decide +kernel
theorem dX12_mark_4 : decode cX12_mark 4 = .ok (.iconst 3, 1) := by decide +kernel
theorem dX12_mark_5 : decode cX12_mark 5 = .ok (.if_icmp .ne 9, 3) := by decide +kernel
theorem dX12_mark_8 : decode cX12_mark 8 = .ok (.aload_n 0, 1) := by decide +kernel
theorem dX12_mark_9 : decode cX12_mark 9 = .ok (.iconst 4, 1) := by decide +kernel
theorem dX12_mark_10 : decode cX12_mark 10 = .ok (.invokevirtual 123, 3) := by decide +kernel
theorem dX12_mark_13 : decode cX12_mark 13 = .ok (.ireturn, 1) := by decide +kernel
theorem dX12_mark_14 : decode cX12_mark 14 = .ok (.aload_n 0, 1) := by decide +kernel
theorem dX12_mark_15 : decode cX12_mark 15 = .ok (.dup, 1) := by decide +kernel
theorem dX12_mark_16 : decode cX12_mark 16 = .ok (.getfield 535, 3) := by decide +kernel
theorem dX12_mark_19 : decode cX12_mark 19 = .ok (.iconst 1, 1) := by decide +kernel
theorem dX12_mark_20 : decode cX12_mark 20 = .ok (.iadd, 1) := by decide +kernel
theorem dX12_mark_21 : decode cX12_mark 21 = .ok (.putfield 535, 3) := by decide +kernel
theorem dX12_mark_24 : decode cX12_mark 24 = .ok (.aload_n 0, 1) := by decide +kernel
theorem dX12_mark_25 : decode cX12_mark 25 = .ok (.iconst 0, 1) := by decide +kernel
theorem dX12_mark_26 : decode cX12_mark 26 = .ok (.aload_n 0, 1) := by decide +kernel
theorem dX12_mark_27 : decode cX12_mark 27 = .ok (.getfield 535, 3) := by decide +kernel
theorem dX12_mark_30 : decode cX12_mark 30 = .ok (.invokevirtual 538, 3) := by decide +kernel
theorem dX12_mark_33 : decode cX12_mark 33 = .ok (.aload_n 0, 1) := by decide +kernel
theorem dX12_mark_34 : decode cX12_mark 34 = .ok (.aload_n 0, 1) := by decide +kernel
theorem dX12_mark_35 : decode cX12_mark 35 = .ok (.getfield 535, 3) := by decide +kernel
theorem dX12_mark_38 : decode cX12_mark 38 = .ok (.invokevirtual 127, 3) := by decide +kernel
theorem dX12_mark_41 : decode cX12_mark 41 = .ok (.ireturn, 1) := by decide +kernel
abbrev f_c_X12_mark : List (Nat × Int) := [(64, 2), (64, 50), (65, -1), (66, -1)]
set_option maxHeartbeats 4000000 in
set_option maxRecDepth 100000 in
theorem c_X12_mark (G : KG) (l : Launch) (M : Mem) (hI_M : Inv true M) (hY : YY M) : KC true G l yX12_mark cX12_mark 1 (some .int) (1, 23) [vR G 163] M (fun A => kQi true G A (fun (r : Int) (N : Mem) => Inv true N ∧ Fr f_c_X12_mark M N ∧ (((M 163 50) = 3 ∧ r = -1 ∧ (N 163 50) = 3) ∨ ((M 163 50) ≤ 2 ∧ (N 163 50) = (M 163 50) + 1 ∧ r = (M 163 50) + 1)) ∧ (YY N))) := by
  refine kx_met (lo := [some (vR G 163)]) (by decide) (Nat.le_of_ble_eq_true rfl) rfl ?_
  intro X F hQ
  have hF_M : Fr f_c_X12_mark M M := Fr.rf _ _
  refine kx_aload_n 1 F 0 dX12_mark_0 rfl rfl rfl ?_
  refine kx_geti 4 F fl_X12_535 kd_163 rfl rfl (j := 50) rfl dX12_mark_1 (v := (M 163 50)) rfl rfl ?_
  have h_1 := Inv.g hI_M kd_163 rfl 50 (a := 0) (b := 3) rfl rfl
  refine kx_iconst 5 F dX12_mark_4 rfl ?_
  refine kx_icmp_ne 8 F 14 dX12_mark_5 (by decide) rfl (by omega) (by decide) (fun h_2 => ?_) (fun h_2 => ?_)
  · refine kx_aload_n 15 F 0 dX12_mark_14 rfl rfl rfl ?_
    refine kx_dup 16 F dX12_mark_15 rfl rfl ?_
    refine kx_geti 19 F fl_X12_535 kd_163 rfl rfl (j := 50) rfl dX12_mark_16 (v := (M 163 50)) rfl rfl ?_
    refine kx_iconst 20 F dX12_mark_19 rfl ?_
    refine kx_iadd 21 F (v := (M 163 50) + 1) dX12_mark_20 rfl rfl ?_
    refine kx_puti 24 F fw_X12_535 rfl kd_163 rfl rfl (j := 50) rfl dX12_mark_21 rfl ?_
    intro N_3 hM_N_3
    have hI_N_3 : Inv true N_3 := Inv.u hI_M hM_N_3 kd_163 (a := 0) (b := 3) rfl rfl rfl (by omega)
    have hF_N_3 : Fr f_c_X12_mark M N_3 := Fr.u hF_M hM_N_3 kd_163 rfl
    refine kx_aload_n 25 F 0 dX12_mark_24 rfl rfl rfl ?_
    refine kx_iconst 26 F dX12_mark_25 rfl ?_
    refine kx_aload_n 27 F 0 dX12_mark_26 rfl rfl rfl ?_
    refine kx_geti 30 F fl_X12_535 kd_163 rfl rfl (j := 50) rfl dX12_mark_27 (v := (M 163 50) + 1) (by rw [hM_N_3, mu_s]) rfl ?_
    refine kx_Vv 33 (ci := 0) F (As := [vI 0, vI ((M 163 50) + 1)]) (st := []) vd_X12_538 (c_X12_copies G l N_3 0 ((M 163 50) + 1) hI_N_3 (by omega)) kd_163 rfl rfl rfl ⟨by decide, by decide⟩ rfl rfl (Nat.le_of_ble_eq_true rfl) dX12_mark_30 rfl ?_
    intro N_4 q_5
    obtain ⟨hI_N_4, hG_N_4, hc_N_4⟩ := q_5
    have hF_N_4 : Fr f_c_X12_mark M N_4 := Fr.c hF_N_3 hG_N_4 rfl
    refine kx_aload_n 34 F 0 dX12_mark_33 rfl rfl rfl ?_
    refine kx_aload_n 35 F 0 dX12_mark_34 rfl rfl rfl ?_
    refine kx_geti 38 F fl_X12_535 kd_163 rfl rfl (j := 50) rfl dX12_mark_35 (v := (M 163 50) + 1) (by rw [Fr.e hG_N_4 kd_163 _ rfl, hM_N_3, mu_s]) rfl ?_
    refine kx_Vi 41 (ci := 0) F (As := [vI ((M 163 50) + 1)]) (st := []) vd_X12_127 (c_X12_gives G l N_4 ((M 163 50) + 1) hI_N_4 (by omega)) kd_163 rfl rfl rfl ⟨by decide, by decide⟩ rfl rfl (Nat.le_of_ble_eq_true rfl) dX12_mark_38 rfl ?_
    intro r_6 N_7 q_8
    obtain ⟨hI_N_7, hG_N_7, q_8c⟩ := q_8
    have hF_N_7 : Fr f_c_X12_mark M N_7 := Fr.c hF_N_4 hG_N_7 rfl
    refine kx_topi (e' := (M 163 50) + 1) (by omega) ?_
    have e_9 : (N_7 163 50) = (M 163 50) + 1 := by rw [Fr.e hG_N_7 kd_163 _ rfl, Fr.e hG_N_4 kd_163 _ rfl, hM_N_3, mu_s]
    have e_10 : (N_7 163 50) = (M 163 50) + 1 := by rw [Fr.e hG_N_7 kd_163 _ rfl, Fr.e hG_N_4 kd_163 _ rfl, hM_N_3, mu_s]
    exact kx_iret F hQ ⟨hI_N_7, hF_N_7, (by omega), (YY.fr (YY.slot0 (YY.st hY hM_N_3 kd_163 rfl) hI_N_3 (by omega) hc_N_4) hG_N_7 rfl)⟩ dX12_mark_41
  · refine kx_aload_n 9 F 0 dX12_mark_8 rfl rfl rfl ?_
    refine kx_iconst 10 F dX12_mark_9 rfl ?_
    refine kx_Vi 13 (ci := 0) F (As := [vI 4]) (st := []) vd_X12_123 (c_X12_refuse G l M 4 hI_M (by omega)) kd_163 rfl rfl rfl ⟨by decide, by decide⟩ rfl rfl (Nat.le_of_ble_eq_true rfl) dX12_mark_10 rfl ?_
    intro r_11 N_12 q_13
    obtain ⟨hI_N_12, hG_N_12, q_13c⟩ := q_13
    have hF_N_12 : Fr f_c_X12_mark M N_12 := Fr.c hF_M hG_N_12 rfl
    subst q_13c
    have e_14 : (N_12 163 50) = (M 163 50) := by rw [Fr.e hG_N_12 kd_163 _ rfl]
    have e_15 : (N_12 163 50) = (M 163 50) := by rw [Fr.e hG_N_12 kd_163 _ rfl]
    exact kx_iret F hQ ⟨hI_N_12, hF_N_12, (by omega), (YY.fr hY hG_N_12 rfl)⟩ dX12_mark_13
theorem dX12_undo_0 : decode cX12_undo 0 = .ok (.aload_n 0, 1) := by decide +kernel
theorem dX12_undo_1 : decode cX12_undo 1 = .ok (.getfield 535, 3) := by decide +kernel
theorem dX12_undo_4 : decode cX12_undo 4 = .ok (.ifCond .ne 10, 3) := by decide +kernel
theorem dX12_undo_7 : decode cX12_undo 7 = .ok (.aload_n 0, 1) := by decide +kernel
theorem dX12_undo_8 : decode cX12_undo 8 = .ok (.bipush 6, 2) := by decide +kernel
theorem dX12_undo_10 : decode cX12_undo 10 = .ok (.invokevirtual 123, 3) := by decide +kernel
theorem dX12_undo_13 : decode cX12_undo 13 = .ok (.ireturn, 1) := by decide +kernel
theorem dX12_undo_14 : decode cX12_undo 14 = .ok (.aload_n 0, 1) := by decide +kernel
theorem dX12_undo_15 : decode cX12_undo 15 = .ok (.aload_n 0, 1) := by decide +kernel
theorem dX12_undo_16 : decode cX12_undo 16 = .ok (.getfield 535, 3) := by decide +kernel
theorem dX12_undo_19 : decode cX12_undo 19 = .ok (.iconst 0, 1) := by decide +kernel
theorem dX12_undo_20 : decode cX12_undo 20 = .ok (.invokevirtual 538, 3) := by decide +kernel
theorem dX12_undo_23 : decode cX12_undo 23 = .ok (.aload_n 0, 1) := by decide +kernel
theorem dX12_undo_24 : decode cX12_undo 24 = .ok (.dup, 1) := by decide +kernel
theorem dX12_undo_25 : decode cX12_undo 25 = .ok (.getfield 535, 3) := by decide +kernel
theorem dX12_undo_28 : decode cX12_undo 28 = .ok (.iconst 1, 1) := by decide +kernel
theorem dX12_undo_29 : decode cX12_undo 29 = .ok (.isub, 1) := by decide +kernel
theorem dX12_undo_30 : decode cX12_undo 30 = .ok (.putfield 535, 3) := by decide +kernel
theorem dX12_undo_33 : decode cX12_undo 33 = .ok (.aload_n 0, 1) := by decide +kernel
theorem dX12_undo_34 : decode cX12_undo 34 = .ok (.aload_n 0, 1) := by decide +kernel
theorem dX12_undo_35 : decode cX12_undo 35 = .ok (.getfield 535, 3) := by decide +kernel
theorem dX12_undo_38 : decode cX12_undo 38 = .ok (.invokevirtual 127, 3) := by decide +kernel
theorem dX12_undo_41 : decode cX12_undo 41 = .ok (.ireturn, 1) := by decide +kernel
abbrev f_c_X12_undo : List (Nat × Int) := [(64, 2), (64, 50), (65, -1), (66, -1)]
set_option maxHeartbeats 4000000 in
set_option maxRecDepth 100000 in
theorem c_X12_undo (G : KG) (l : Launch) (M : Mem) (hI_M : Inv true M) (hY : YY M) : KC true G l yX12_undo cX12_undo 1 (some .int) (1, 23) [vR G 163] M (fun A => kQi true G A (fun (r : Int) (N : Mem) => Inv true N ∧ Fr f_c_X12_undo M N ∧ (((M 163 50) = 0 ∧ r = -1 ∧ (N 163 50) = 0) ∨ ((M 163 50) ≥ 1 ∧ (N 163 50) = (M 163 50) - 1 ∧ r = (M 163 50) - 1)) ∧ (YY N))) := by
  refine kx_met (lo := [some (vR G 163)]) (by decide) (Nat.le_of_ble_eq_true rfl) rfl ?_
  intro X F hQ
  have hF_M : Fr f_c_X12_undo M M := Fr.rf _ _
  refine kx_aload_n 1 F 0 dX12_undo_0 rfl rfl rfl ?_
  refine kx_geti 4 F fl_X12_535 kd_163 rfl rfl (j := 50) rfl dX12_undo_1 (v := (M 163 50)) rfl rfl ?_
  have h_1 := Inv.g hI_M kd_163 rfl 50 (a := 0) (b := 3) rfl rfl
  refine kx_if_ne 7 F 14 dX12_undo_4 (by decide) rfl (by omega) (fun h_2 => ?_) (fun h_2 => ?_)
  · refine kx_aload_n 15 F 0 dX12_undo_14 rfl rfl rfl ?_
    refine kx_aload_n 16 F 0 dX12_undo_15 rfl rfl rfl ?_
    refine kx_geti 19 F fl_X12_535 kd_163 rfl rfl (j := 50) rfl dX12_undo_16 (v := (M 163 50)) rfl rfl ?_
    refine kx_iconst 20 F dX12_undo_19 rfl ?_
    refine kx_Vv 23 (ci := 0) F (As := [vI (M 163 50), vI 0]) (st := []) vd_X12_538 (c_X12_copies G l M (M 163 50) 0 hI_M (by omega)) kd_163 rfl rfl rfl ⟨by decide, by decide⟩ rfl rfl (Nat.le_of_ble_eq_true rfl) dX12_undo_20 rfl ?_
    intro N_3 q_4
    obtain ⟨hI_N_3, hG_N_3, hc_N_3⟩ := q_4
    have hF_N_3 : Fr f_c_X12_undo M N_3 := Fr.c hF_M hG_N_3 rfl
    refine kx_aload_n 24 F 0 dX12_undo_23 rfl rfl rfl ?_
    refine kx_dup 25 F dX12_undo_24 rfl rfl ?_
    refine kx_geti 28 F fl_X12_535 kd_163 rfl rfl (j := 50) rfl dX12_undo_25 (v := (M 163 50)) (by rw [Fr.e hG_N_3 kd_163 _ rfl]) rfl ?_
    refine kx_iconst 29 F dX12_undo_28 rfl ?_
    refine kx_isub 30 F (v := (M 163 50) - 1) dX12_undo_29 rfl rfl ?_
    refine kx_puti 33 F fw_X12_535 rfl kd_163 rfl rfl (j := 50) rfl dX12_undo_30 rfl ?_
    intro N_5 hM_N_5
    have hI_N_5 : Inv true N_5 := Inv.u hI_N_3 hM_N_5 kd_163 (a := 0) (b := 3) rfl rfl rfl (by omega)
    have hF_N_5 : Fr f_c_X12_undo M N_5 := Fr.u hF_N_3 hM_N_5 kd_163 rfl
    refine kx_aload_n 34 F 0 dX12_undo_33 rfl rfl rfl ?_
    refine kx_aload_n 35 F 0 dX12_undo_34 rfl rfl rfl ?_
    refine kx_geti 38 F fl_X12_535 kd_163 rfl rfl (j := 50) rfl dX12_undo_35 (v := (M 163 50) - 1) (by rw [hM_N_5, mu_s]) rfl ?_
    refine kx_Vi 41 (ci := 0) F (As := [vI ((M 163 50) - 1)]) (st := []) vd_X12_127 (c_X12_gives G l N_5 ((M 163 50) - 1) hI_N_5 (by omega)) kd_163 rfl rfl rfl ⟨by decide, by decide⟩ rfl rfl (Nat.le_of_ble_eq_true rfl) dX12_undo_38 rfl ?_
    intro r_6 N_7 q_8
    obtain ⟨hI_N_7, hG_N_7, q_8c⟩ := q_8
    have hF_N_7 : Fr f_c_X12_undo M N_7 := Fr.c hF_N_5 hG_N_7 rfl
    refine kx_topi (e' := (M 163 50) - 1) (by omega) ?_
    have e_9 : (N_7 163 50) = (M 163 50) - 1 := by rw [Fr.e hG_N_7 kd_163 _ rfl, hM_N_5, mu_s]
    have e_10 : (N_7 163 50) = (M 163 50) - 1 := by rw [Fr.e hG_N_7 kd_163 _ rfl, hM_N_5, mu_s]
    exact kx_iret F hQ ⟨hI_N_7, hF_N_7, (by omega), (YY.fr (YY.st (YY.slotB hY hI_M (by omega) hc_N_3) hM_N_5 kd_163 rfl) hG_N_7 rfl)⟩ dX12_undo_41
  · refine kx_aload_n 8 F 0 dX12_undo_7 rfl rfl rfl ?_
    refine kx_bipush 10 F dX12_undo_8 (by decide) rfl ?_
    refine kx_Vi 13 (ci := 0) F (As := [vI 6]) (st := []) vd_X12_123 (c_X12_refuse G l M 6 hI_M (by omega)) kd_163 rfl rfl rfl ⟨by decide, by decide⟩ rfl rfl (Nat.le_of_ble_eq_true rfl) dX12_undo_10 rfl ?_
    intro r_11 N_12 q_13
    obtain ⟨hI_N_12, hG_N_12, q_13c⟩ := q_13
    have hF_N_12 : Fr f_c_X12_undo M N_12 := Fr.c hF_M hG_N_12 rfl
    subst q_13c
    have e_14 : (N_12 163 50) = (M 163 50) := by rw [Fr.e hG_N_12 kd_163 _ rfl]
    have e_15 : (N_12 163 50) = (M 163 50) := by rw [Fr.e hG_N_12 kd_163 _ rfl]
    exact kx_iret F hQ ⟨hI_N_12, hF_N_12, (by omega), (YY.fr hY hG_N_12 rfl)⟩ dX12_undo_13
theorem dX12_isTakenNow_0 : decode cX12_isTakenNow 0 = .ok (.aload_n 0, 1) := by decide +kernel
theorem dX12_isTakenNow_1 : decode cX12_isTakenNow 1 = .ok (.getfield 7, 3) := by decide +kernel
theorem dX12_isTakenNow_4 : decode cX12_isTakenNow 4 = .ok (.bipush 7, 2) := by decide +kernel
theorem dX12_isTakenNow_6 : decode cX12_isTakenNow 6 = .ok (.iaload, 1) := by decide +kernel
theorem dX12_isTakenNow_7 : decode cX12_isTakenNow 7 = .ok (.aload_n 0, 1) := by decide +kernel
theorem dX12_isTakenNow_8 : decode cX12_isTakenNow 8 = .ok (.aload_n 0, 1) := by decide +kernel
theorem dX12_isTakenNow_9 : decode cX12_isTakenNow 9 = .ok (.getfield 7, 3) := by decide +kernel
theorem dX12_isTakenNow_12 : decode cX12_isTakenNow 12 = .ok (.iconst 4, 1) := by decide +kernel
theorem dX12_isTakenNow_13 : decode cX12_isTakenNow 13 = .ok (.iaload, 1) := by decide +kernel
theorem dX12_isTakenNow_14 : decode cX12_isTakenNow 14 = .ok (.iconst 3, 1) := by decide +kernel
theorem dX12_isTakenNow_15 : decode cX12_isTakenNow 15 = .ok (.invokevirtual 288, 3) := by decide +kernel
theorem dX12_isTakenNow_18 : decode cX12_isTakenNow 18 = .ok (.iand, 1) := by decide +kernel
theorem dX12_isTakenNow_19 : decode cX12_isTakenNow 19 = .ok (.ifCond .eq 7, 3) := by decide +kernel
theorem dX12_isTakenNow_22 : decode cX12_isTakenNow 22 = .ok (.iconst 1, 1) := by decide +kernel
theorem dX12_isTakenNow_23 : decode cX12_isTakenNow 23 = .ok (.goto 4, 3) := by decide +kernel
theorem dX12_isTakenNow_26 : decode cX12_isTakenNow 26 = .ok (.iconst 0, 1) := by decide +kernel
theorem dX12_isTakenNow_27 : decode cX12_isTakenNow 27 = .ok (.ireturn, 1) := by decide +kernel
set_option maxHeartbeats 4000000 in
set_option maxRecDepth 100000 in
theorem c_X12_isTakenNow (G : KG) (l : Launch) (M : Mem) (hI_M : Inv true M) (hpre : (M 164 4) ≥ 0) : KC true G l yX12_isTakenNow cX12_isTakenNow 1 (some .int) (2, 43) [vR G 163] M (fun A => kQi true G A (fun (r : Int) (N : Mem) => M = N ∧ (0 ≤ r ∧ r ≤ 1))) := by
  refine kx_met (lo := [some (vR G 163)]) (by decide) (Nat.le_of_ble_eq_true rfl) rfl ?_
  intro X F hQ
  refine kx_aload_n 1 F 0 dX12_isTakenNow_0 rfl rfl rfl ?_
  refine kx_getr 4 F fl_X12_7 kd_163 rfl rfl (j := 0) rfl dX12_isTakenNow_1 (v := 164) (uq_164 (Inv.r hI_M kd_163 rfl 0 rfl rfl)) rfl ?_
  refine kx_bipush 6 F dX12_isTakenNow_4 (by decide) rfl ?_
  refine kx_iald 7 F kd_164 rfl rfl (by omega) (by decide) dX12_isTakenNow_6 (v := (M 164 7)) rfl rfl ?_
  have ha_1 : atlo 7 = 0 ∧ athi 7 = 7 := at_c 7 0 (o := 7) (lo := 0) (hi := 7) (by omega) (by decide) (by decide) (by decide)
  have h_2 := Inv.g hI_M kd_164 rfl 7 (a := 0) (b := 7) ha_1.1 ha_1.2
  refine kx_aload_n 8 F 0 dX12_isTakenNow_7 rfl rfl rfl ?_
  refine kx_aload_n 9 F 0 dX12_isTakenNow_8 rfl rfl rfl ?_
  refine kx_getr 12 F fl_X12_7 kd_163 rfl rfl (j := 0) rfl dX12_isTakenNow_9 (v := 164) (uq_164 (Inv.r hI_M kd_163 rfl 0 rfl rfl)) rfl ?_
  refine kx_iconst 13 F dX12_isTakenNow_12 rfl ?_
  refine kx_iald 14 F kd_164 rfl rfl (by omega) (by decide) dX12_isTakenNow_13 (v := (M 164 4)) rfl rfl ?_
  have ha_3 : atlo 4 = (-1) ∧ athi 4 = 1 := at_c 4 0 (o := 4) (lo := (-1)) (hi := 1) (by omega) (by decide) (by decide) (by decide)
  have h_4 := Inv.g hI_M kd_164 rfl 4 (a := (-1)) (b := 1) ha_3.1 ha_3.2
  refine kx_iconst 15 F dX12_isTakenNow_14 rfl ?_
  refine kx_Vi 18 (ci := 0) F (As := [vI (M 164 4), vI 3]) (st := [vI (M 164 7)]) vd_X12_288 (c_of3 G l M (M 164 4) 3 hI_M (by omega)) kd_163 rfl rfl rfl ⟨by decide, by decide⟩ rfl rfl (Nat.le_of_ble_eq_true rfl) dX12_isTakenNow_15 rfl ?_
  intro r_5 N_6 q_7
  obtain ⟨rfl, q_7c⟩ := q_7
  refine kx_iand 19 F (v := (zand (M 164 7) r_5)) dX12_isTakenNow_18 rfl rfl ?_
  have h_8 := zand_r (a := (M 164 7)) (b := r_5) (by omega)
  refine kx_if_eq 22 F 26 dX12_isTakenNow_19 (by decide) rfl (by omega) (fun h_9 => ?_) (fun h_9 => ?_)
  · refine kx_iconst 27 F dX12_isTakenNow_26 rfl ?_
    exact kx_iret F hQ ⟨rfl, (by omega)⟩ dX12_isTakenNow_27
  · refine kx_iconst 23 F dX12_isTakenNow_22 rfl ?_
    refine kx_goto 27 F dX12_isTakenNow_23 (by decide) ?_
    exact kx_iret F hQ ⟨rfl, (by omega)⟩ dX12_isTakenNow_27
theorem dX12_watch_0 : decode cX12_watch 0 = .ok (.aload_n 0, 1) := by decide +kernel
theorem dX12_watch_1 : decode cX12_watch 1 = .ok (.iload_n 1, 1) := by decide +kernel
theorem dX12_watch_2 : decode cX12_watch 2 = .ok (.invokevirtual 282, 3) := by decide +kernel
theorem dX12_watch_5 : decode cX12_watch 5 = .ok (.ifCond .ne 9, 3) := by decide +kernel
theorem dX12_watch_8 : decode cX12_watch 8 = .ok (.aload_n 0, 1) := by decide +kernel
theorem dX12_watch_9 : decode cX12_watch 9 = .ok (.iconst 1, 1) := by decide +kernel
theorem dX12_watch_10 : decode cX12_watch 10 = .ok (.invokevirtual 123, 3) := by decide +kernel
theorem dX12_watch_13 : decode cX12_watch 13 = .ok (.ireturn, 1) := by decide +kernel
theorem dX12_watch_14 : decode cX12_watch 14 = .ok (.aload_n 0, 1) := by decide +kernel
theorem dX12_watch_15 : decode cX12_watch 15 = .ok (.getfield 7, 3) := by decide +kernel
theorem dX12_watch_18 : decode cX12_watch 18 = .ok (.iconst 4, 1) := by decide +kernel
theorem dX12_watch_19 : decode cX12_watch 19 = .ok (.iload_n 1, 1) := by decide +kernel
theorem dX12_watch_20 : decode cX12_watch 20 = .ok (.iastore, 1) := by decide +kernel
theorem dX12_watch_21 : decode cX12_watch 21 = .ok (.aload_n 0, 1) := by decide +kernel
theorem dX12_watch_22 : decode cX12_watch 22 = .ok (.getfield 7, 3) := by decide +kernel
theorem dX12_watch_25 : decode cX12_watch 25 = .ok (.iconst 5, 1) := by decide +kernel
theorem dX12_watch_26 : decode cX12_watch 26 = .ok (.iconst 0, 1) := by decide +kernel
theorem dX12_watch_27 : decode cX12_watch 27 = .ok (.iastore, 1) := by decide +kernel
theorem dX12_watch_28 : decode cX12_watch 28 = .ok (.aload_n 0, 1) := by decide +kernel
theorem dX12_watch_29 : decode cX12_watch 29 = .ok (.getfield 7, 3) := by decide +kernel
theorem dX12_watch_32 : decode cX12_watch 32 = .ok (.bipush 6, 2) := by decide +kernel
theorem dX12_watch_34 : decode cX12_watch 34 = .ok (.iconst 0, 1) := by decide +kernel
theorem dX12_watch_35 : decode cX12_watch 35 = .ok (.iastore, 1) := by decide +kernel
theorem dX12_watch_36 : decode cX12_watch 36 = .ok (.aload_n 0, 1) := by decide +kernel
theorem dX12_watch_37 : decode cX12_watch 37 = .ok (.getfield 7, 3) := by decide +kernel
theorem dX12_watch_40 : decode cX12_watch 40 = .ok (.bipush 7, 2) := by decide +kernel
theorem dX12_watch_42 : decode cX12_watch 42 = .ok (.aload_n 0, 1) := by decide +kernel
theorem dX12_watch_43 : decode cX12_watch 43 = .ok (.iload_n 1, 1) := by decide +kernel
theorem dX12_watch_44 : decode cX12_watch 44 = .ok (.iconst 2, 1) := by decide +kernel
theorem dX12_watch_45 : decode cX12_watch 45 = .ok (.invokevirtual 288, 3) := by decide +kernel
theorem dX12_watch_48 : decode cX12_watch 48 = .ok (.iastore, 1) := by decide +kernel
theorem dX12_watch_49 : decode cX12_watch 49 = .ok (.aload_n 0, 1) := by decide +kernel
theorem dX12_watch_50 : decode cX12_watch 50 = .ok (.getfield 7, 3) := by decide +kernel
theorem dX12_watch_53 : decode cX12_watch 53 = .ok (.bipush 8, 2) := by decide +kernel
theorem dX12_watch_55 : decode cX12_watch 55 = .ok (.aload_n 0, 1) := by decide +kernel
theorem dX12_watch_56 : decode cX12_watch 56 = .ok (.iload_n 1, 1) := by decide +kernel
theorem dX12_watch_57 : decode cX12_watch 57 = .ok (.invokevirtual 329, 3) := by decide +kernel
theorem dX12_watch_60 : decode cX12_watch 60 = .ok (.iastore, 1) := by decide +kernel
theorem dX12_watch_61 : decode cX12_watch 61 = .ok (.aload_n 0, 1) := by decide +kernel
theorem dX12_watch_62 : decode cX12_watch 62 = .ok (.aload_n 0, 1) := by decide +kernel
theorem dX12_watch_63 : decode cX12_watch 63 = .ok (.invokevirtual 522, 3) := by decide +kernel
theorem dX12_watch_66 : decode cX12_watch 66 = .ok (.invokevirtual 127, 3) := by decide +kernel
theorem dX12_watch_69 : decode cX12_watch 69 = .ok (.ireturn, 1) := by decide +kernel
abbrev f_c_X12_watch : List (Nat × Int) := [(64, 2), (65, -1)]
set_option maxHeartbeats 4000000 in
set_option maxRecDepth 100000 in
theorem c_X12_watch (G : KG) (l : Launch) (M : Mem) (a1 : Int) (hI_M : Inv true M) (hpre : -2147483648 ≤ a1 ∧ a1 ≤ 2147483647) (hY : YY M) : KC true G l yX12_watch cX12_watch 2 (some .int) (3, 66) [vR G 163, vI a1] M (fun A => kQi true G A (fun (r : Int) (N : Mem) => Inv true N ∧ Fr f_c_X12_watch M N ∧ (r ≥ -1 ∧ r ≤ 1) ∧ (YY N))) := by
  refine kx_met (lo := [some (vR G 163), some (vI a1)]) (by decide) (Nat.le_of_ble_eq_true rfl) rfl ?_
  intro X F hQ
  have hF_M : Fr f_c_X12_watch M M := Fr.rf _ _
  refine kx_aload_n 1 F 0 dX12_watch_0 rfl rfl rfl ?_
  refine kx_iload_n 2 F 1 dX12_watch_1 rfl rfl rfl ?_
  refine kx_Vi 5 (ci := 0) F (As := [vI a1]) (st := []) vd_X12_282 (c_X12_isAutomaton G l M a1 hI_M (by omega)) kd_163 rfl rfl rfl ⟨by decide, by decide⟩ rfl rfl (Nat.le_of_ble_eq_true rfl) dX12_watch_2 rfl ?_
  intro r_1 N_2 q_3
  obtain ⟨rfl, q_3c⟩ := q_3
  rcases q_3c with q_3c | q_3c
  · refine kx_if_ne 8 F 14 dX12_watch_5 (by decide) rfl (by omega) (fun h_4 => ?_) (fun h_4 => (by exfalso; omega))
    refine kx_aload_n 15 F 0 dX12_watch_14 rfl rfl rfl ?_
    refine kx_getr 18 F fl_X12_7 kd_163 rfl rfl (j := 0) rfl dX12_watch_15 (v := 164) (uq_164 (Inv.r hI_M kd_163 rfl 0 rfl rfl)) rfl ?_
    refine kx_iconst 19 F dX12_watch_18 rfl ?_
    refine kx_iload_n 20 F 1 dX12_watch_19 rfl rfl rfl ?_
    refine kx_iast 21 F kd_164 rfl rfl (by omega) (by decide) dX12_watch_20 rfl ?_
    intro N_5 hM_N_5
    have ha_6 : atlo 4 = (-1) ∧ athi 4 = 1 := at_c 4 0 (o := 4) (lo := (-1)) (hi := 1) (by omega) (by decide) (by decide) (by decide)
    have hI_N_5 : Inv true N_5 := Inv.u hI_M hM_N_5 kd_164 (a := (-1)) (b := 1) ha_6.1 ha_6.2 rfl (by omega)
    have hF_N_5 : Fr f_c_X12_watch M N_5 := Fr.u hF_M hM_N_5 kd_164 rfl
    refine kx_aload_n 22 F 0 dX12_watch_21 rfl rfl rfl ?_
    refine kx_getr 25 F fl_X12_7 kd_163 rfl rfl (j := 0) rfl dX12_watch_22 (v := 164) (uq_164 (Inv.r hI_N_5 kd_163 rfl 0 rfl rfl)) rfl ?_
    refine kx_iconst 26 F dX12_watch_25 rfl ?_
    refine kx_iconst 27 F dX12_watch_26 rfl ?_
    refine kx_iast 28 F kd_164 rfl rfl (by omega) (by decide) dX12_watch_27 rfl ?_
    intro N_7 hM_N_7
    have ha_8 : atlo 5 = (-2147483648) ∧ athi 5 = 2147483647 := at_c 5 0 (o := 5) (lo := (-2147483648)) (hi := 2147483647) (by omega) (by decide) (by decide) (by decide)
    have hI_N_7 : Inv true N_7 := Inv.u hI_N_5 hM_N_7 kd_164 (a := (-2147483648)) (b := 2147483647) ha_8.1 ha_8.2 rfl (by omega)
    have hF_N_7 : Fr f_c_X12_watch M N_7 := Fr.u hF_N_5 hM_N_7 kd_164 rfl
    refine kx_aload_n 29 F 0 dX12_watch_28 rfl rfl rfl ?_
    refine kx_getr 32 F fl_X12_7 kd_163 rfl rfl (j := 0) rfl dX12_watch_29 (v := 164) (uq_164 (Inv.r hI_N_7 kd_163 rfl 0 rfl rfl)) rfl ?_
    refine kx_bipush 34 F dX12_watch_32 (by decide) rfl ?_
    refine kx_iconst 35 F dX12_watch_34 rfl ?_
    refine kx_iast 36 F kd_164 rfl rfl (by omega) (by decide) dX12_watch_35 rfl ?_
    intro N_9 hM_N_9
    have ha_10 : atlo 6 = 0 ∧ athi 6 = 30 := at_c 6 0 (o := 6) (lo := 0) (hi := 30) (by omega) (by decide) (by decide) (by decide)
    have hI_N_9 : Inv true N_9 := Inv.u hI_N_7 hM_N_9 kd_164 (a := 0) (b := 30) ha_10.1 ha_10.2 rfl (by omega)
    have hF_N_9 : Fr f_c_X12_watch M N_9 := Fr.u hF_N_7 hM_N_9 kd_164 rfl
    refine kx_aload_n 37 F 0 dX12_watch_36 rfl rfl rfl ?_
    refine kx_getr 40 F fl_X12_7 kd_163 rfl rfl (j := 0) rfl dX12_watch_37 (v := 164) (uq_164 (Inv.r hI_N_9 kd_163 rfl 0 rfl rfl)) rfl ?_
    refine kx_bipush 42 F dX12_watch_40 (by decide) rfl ?_
    refine kx_aload_n 43 F 0 dX12_watch_42 rfl rfl rfl ?_
    refine kx_iload_n 44 F 1 dX12_watch_43 rfl rfl rfl ?_
    refine kx_iconst 45 F dX12_watch_44 rfl ?_
    refine kx_Vi 48 (ci := 0) F (As := [vI a1, vI 2]) (st := [vI 7, vR G 164]) vd_X12_288 (c_of2 G l N_9 a1 2 hI_N_9 (by omega)) kd_163 rfl rfl rfl ⟨by decide, by decide⟩ rfl rfl (Nat.le_of_ble_eq_true rfl) dX12_watch_45 rfl ?_
    intro r_11 N_12 q_13
    obtain ⟨rfl, q_13c⟩ := q_13
    refine kx_iast 49 F kd_164 rfl rfl (by omega) (by decide) dX12_watch_48 rfl ?_
    intro N_14 hM_N_14
    have ha_15 : atlo 7 = 0 ∧ athi 7 = 7 := at_c 7 0 (o := 7) (lo := 0) (hi := 7) (by omega) (by decide) (by decide) (by decide)
    have hI_N_14 : Inv true N_14 := Inv.u hI_N_9 hM_N_14 kd_164 (a := 0) (b := 7) ha_15.1 ha_15.2 rfl (by omega)
    have hF_N_14 : Fr f_c_X12_watch M N_14 := Fr.u hF_N_9 hM_N_14 kd_164 rfl
    refine kx_aload_n 50 F 0 dX12_watch_49 rfl rfl rfl ?_
    refine kx_getr 53 F fl_X12_7 kd_163 rfl rfl (j := 0) rfl dX12_watch_50 (v := 164) (uq_164 (Inv.r hI_N_14 kd_163 rfl 0 rfl rfl)) rfl ?_
    refine kx_bipush 55 F dX12_watch_53 (by decide) rfl ?_
    refine kx_aload_n 56 F 0 dX12_watch_55 rfl rfl rfl ?_
    refine kx_iload_n 57 F 1 dX12_watch_56 rfl rfl rfl ?_
    refine kx_Vi 60 (ci := 0) F (As := [vI a1]) (st := [vI 8, vR G 164]) vd_X12_329 (c_X12_same G l N_14 a1 hI_N_14 (by omega)) kd_163 rfl rfl rfl ⟨by decide, by decide⟩ rfl rfl (Nat.le_of_ble_eq_true rfl) dX12_watch_57 rfl ?_
    intro r_16 N_17 q_18
    obtain ⟨rfl, q_18c⟩ := q_18
    refine kx_iast 61 F kd_164 rfl rfl (by omega) (by decide) dX12_watch_60 rfl ?_
    intro N_19 hM_N_19
    have ha_20 : atlo 8 = 0 ∧ athi 8 = 511 := at_c 8 0 (o := 8) (lo := 0) (hi := 511) (by omega) (by decide) (by decide) (by decide)
    have hI_N_19 : Inv true N_19 := Inv.u hI_N_14 hM_N_19 kd_164 (a := 0) (b := 511) ha_20.1 ha_20.2 rfl (by omega)
    have hF_N_19 : Fr f_c_X12_watch M N_19 := Fr.u hF_N_14 hM_N_19 kd_164 rfl
    refine kx_aload_n 62 F 0 dX12_watch_61 rfl rfl rfl ?_
    refine kx_aload_n 63 F 0 dX12_watch_62 rfl rfl rfl ?_
    have e_21 : (N_19 164 4) = a1 := by rw [hM_N_19, mu_i (by omega), hM_N_14, mu_i (by omega), hM_N_9, mu_i (by omega), hM_N_7, mu_i (by omega), hM_N_5, mu_s]
    refine kx_Vi 66 (ci := 0) F (As := []) (st := [vR G 163]) vd_X12_522 (c_X12_isTakenNow G l N_19  hI_N_19 (by omega)) kd_163 rfl rfl rfl ⟨by decide, by decide⟩ rfl rfl (Nat.le_of_ble_eq_true rfl) dX12_watch_63 rfl ?_
    intro r_22 N_23 q_24
    obtain ⟨rfl, q_24c⟩ := q_24
    refine kx_Vi 69 (ci := 0) F (As := [vI r_22]) (st := []) vd_X12_127 (c_X12_gives G l N_19 r_22 hI_N_19 (by omega)) kd_163 rfl rfl rfl ⟨by decide, by decide⟩ rfl rfl (Nat.le_of_ble_eq_true rfl) dX12_watch_66 rfl ?_
    intro r_25 N_26 q_27
    obtain ⟨hI_N_26, hG_N_26, q_27c⟩ := q_27
    have hF_N_26 : Fr f_c_X12_watch M N_26 := Fr.c hF_N_19 hG_N_26 rfl
    refine kx_topi (e' := r_22) (by omega) ?_
    exact kx_iret F hQ ⟨hI_N_26, hF_N_26, (by omega), (YY.fr (YY.sta (YY.sta (YY.sta (YY.sta (YY.sta hY hI_M hM_N_5 (by omega)) hI_N_5 hM_N_7 (by omega)) hI_N_7 hM_N_9 (by omega)) hI_N_9 hM_N_14 (by omega)) hI_N_14 hM_N_19 (by omega)) hG_N_26 rfl)⟩ dX12_watch_69
  · refine kx_if_ne 8 F 14 dX12_watch_5 (by decide) rfl (by omega) (fun h_28 => (by exfalso; omega)) (fun h_28 => ?_)
    refine kx_aload_n 9 F 0 dX12_watch_8 rfl rfl rfl ?_
    refine kx_iconst 10 F dX12_watch_9 rfl ?_
    refine kx_Vi 13 (ci := 0) F (As := [vI 1]) (st := []) vd_X12_123 (c_X12_refuse G l M 1 hI_M (by omega)) kd_163 rfl rfl rfl ⟨by decide, by decide⟩ rfl rfl (Nat.le_of_ble_eq_true rfl) dX12_watch_10 rfl ?_
    intro r_29 N_30 q_31
    obtain ⟨hI_N_30, hG_N_30, q_31c⟩ := q_31
    have hF_N_30 : Fr f_c_X12_watch M N_30 := Fr.c hF_M hG_N_30 rfl
    subst q_31c
    exact kx_iret F hQ ⟨hI_N_30, hF_N_30, (by omega), (YY.fr hY hG_N_30 rfl)⟩ dX12_watch_13
theorem dX12_comesBack_0 : decode cX12_comesBack 0 = .ok (.aload_n 0, 1) := by decide +kernel
theorem dX12_comesBack_1 : decode cX12_comesBack 1 = .ok (.getfield 7, 3) := by decide +kernel
theorem dX12_comesBack_4 : decode cX12_comesBack 4 = .ok (.bipush 6, 2) := by decide +kernel
theorem dX12_comesBack_6 : decode cX12_comesBack 6 = .ok (.iaload, 1) := by decide +kernel
theorem dX12_comesBack_7 : decode cX12_comesBack 7 = .ok (.ifCond .ne 54, 3) := by decide +kernel
theorem dX12_comesBack_10 : decode cX12_comesBack 10 = .ok (.aload_n 0, 1) := by decide +kernel
theorem dX12_comesBack_11 : decode cX12_comesBack 11 = .ok (.getfield 7, 3) := by decide +kernel
theorem dX12_comesBack_14 : decode cX12_comesBack 14 = .ok (.bipush 7, 2) := by decide +kernel
theorem dX12_comesBack_16 : decode cX12_comesBack 16 = .ok (.aload_n 0, 1) := by decide +kernel
theorem dX12_comesBack_17 : decode cX12_comesBack 17 = .ok (.getfield 7, 3) := by decide +kernel
theorem dX12_comesBack_20 : decode cX12_comesBack 20 = .ok (.bipush 7, 2) := by decide +kernel
theorem dX12_comesBack_22 : decode cX12_comesBack 22 = .ok (.iaload, 1) := by decide +kernel
theorem dX12_comesBack_23 : decode cX12_comesBack 23 = .ok (.aload_n 0, 1) := by decide +kernel
theorem dX12_comesBack_24 : decode cX12_comesBack 24 = .ok (.iload_n 1, 1) := by decide +kernel
theorem dX12_comesBack_25 : decode cX12_comesBack 25 = .ok (.iload_n 2, 1) := by decide +kernel
theorem dX12_comesBack_26 : decode cX12_comesBack 26 = .ok (.bipush 8, 2) := by decide +kernel
theorem dX12_comesBack_28 : decode cX12_comesBack 28 = .ok (.invokevirtual 323, 3) := by decide +kernel
theorem dX12_comesBack_31 : decode cX12_comesBack 31 = .ok (.invokestatic 332, 3) := by decide +kernel
theorem dX12_comesBack_34 : decode cX12_comesBack 34 = .ok (.iastore, 1) := by decide +kernel
theorem dX12_comesBack_35 : decode cX12_comesBack 35 = .ok (.aload_n 0, 1) := by decide +kernel
theorem dX12_comesBack_36 : decode cX12_comesBack 36 = .ok (.getfield 7, 3) := by decide +kernel
theorem dX12_comesBack_39 : decode cX12_comesBack 39 = .ok (.bipush 8, 2) := by decide +kernel
theorem dX12_comesBack_41 : decode cX12_comesBack 41 = .ok (.aload_n 0, 1) := by decide +kernel
theorem dX12_comesBack_42 : decode cX12_comesBack 42 = .ok (.getfield 7, 3) := by decide +kernel
theorem dX12_comesBack_45 : decode cX12_comesBack 45 = .ok (.bipush 8, 2) := by decide +kernel
theorem dX12_comesBack_47 : decode cX12_comesBack 47 = .ok (.iaload, 1) := by decide +kernel
theorem dX12_comesBack_48 : decode cX12_comesBack 48 = .ok (.aload_n 0, 1) := by decide +kernel
theorem dX12_comesBack_49 : decode cX12_comesBack 49 = .ok (.iload_n 1, 1) := by decide +kernel
theorem dX12_comesBack_50 : decode cX12_comesBack 50 = .ok (.iload_n 2, 1) := by decide +kernel
theorem dX12_comesBack_51 : decode cX12_comesBack 51 = .ok (.bipush 8, 2) := by decide +kernel
theorem dX12_comesBack_53 : decode cX12_comesBack 53 = .ok (.invokevirtual 323, 3) := by decide +kernel
theorem dX12_comesBack_56 : decode cX12_comesBack 56 = .ok (.invokestatic 326, 3) := by decide +kernel
theorem dX12_comesBack_59 : decode cX12_comesBack 59 = .ok (.iastore, 1) := by decide +kernel
theorem dX12_comesBack_60 : decode cX12_comesBack 60 = .ok (.return_, 1) := by decide +kernel
theorem dX12_comesBack_61 : decode cX12_comesBack 61 = .ok (.aload_n 0, 1) := by decide +kernel
theorem dX12_comesBack_62 : decode cX12_comesBack 62 = .ok (.getfield 7, 3) := by decide +kernel
theorem dX12_comesBack_65 : decode cX12_comesBack 65 = .ok (.bipush 6, 2) := by decide +kernel
theorem dX12_comesBack_67 : decode cX12_comesBack 67 = .ok (.dup2, 1) := by decide +kernel
theorem dX12_comesBack_68 : decode cX12_comesBack 68 = .ok (.iaload, 1) := by decide +kernel
theorem dX12_comesBack_69 : decode cX12_comesBack 69 = .ok (.iconst 1, 1) := by decide +kernel
theorem dX12_comesBack_70 : decode cX12_comesBack 70 = .ok (.isub, 1) := by decide +kernel
theorem dX12_comesBack_71 : decode cX12_comesBack 71 = .ok (.iastore, 1) := by decide +kernel
theorem dX12_comesBack_72 : decode cX12_comesBack 72 = .ok (.aload_n 0, 1) := by decide +kernel
theorem dX12_comesBack_73 : decode cX12_comesBack 73 = .ok (.aload_n 0, 1) := by decide +kernel
theorem dX12_comesBack_74 : decode cX12_comesBack 74 = .ok (.getfield 7, 3) := by decide +kernel
theorem dX12_comesBack_77 : decode cX12_comesBack 77 = .ok (.bipush 6, 2) := by decide +kernel
theorem dX12_comesBack_79 : decode cX12_comesBack 79 = .ok (.iaload, 1) := by decide +kernel
theorem dX12_comesBack_80 : decode cX12_comesBack 80 = .ok (.invokevirtual 525, 3) := by decide +kernel
theorem dX12_comesBack_83 : decode cX12_comesBack 83 = .ok (.istore_n 3, 1) := by decide +kernel
theorem dX12_comesBack_84 : decode cX12_comesBack 84 = .ok (.aload_n 0, 1) := by decide +kernel
theorem dX12_comesBack_85 : decode cX12_comesBack 85 = .ok (.iload_n 1, 1) := by decide +kernel
theorem dX12_comesBack_86 : decode cX12_comesBack 86 = .ok (.aload_n 0, 1) := by decide +kernel
theorem dX12_comesBack_87 : decode cX12_comesBack 87 = .ok (.getfield 7, 3) := by decide +kernel
theorem dX12_comesBack_90 : decode cX12_comesBack 90 = .ok (.bipush 8, 2) := by decide +kernel
theorem dX12_comesBack_92 : decode cX12_comesBack 92 = .ok (.iaload, 1) := by decide +kernel
theorem dX12_comesBack_93 : decode cX12_comesBack 93 = .ok (.aload_n 0, 1) := by decide +kernel
theorem dX12_comesBack_94 : decode cX12_comesBack 94 = .ok (.getfield 7, 3) := by decide +kernel
theorem dX12_comesBack_97 : decode cX12_comesBack 97 = .ok (.iload_n 3, 1) := by decide +kernel
theorem dX12_comesBack_98 : decode cX12_comesBack 98 = .ok (.iconst 2, 1) := by decide +kernel
theorem dX12_comesBack_99 : decode cX12_comesBack 99 = .ok (.iadd, 1) := by decide +kernel
theorem dX12_comesBack_100 : decode cX12_comesBack 100 = .ok (.iaload, 1) := by decide +kernel
theorem dX12_comesBack_101 : decode cX12_comesBack 101 = .ok (.iload_n 2, 1) := by decide +kernel
theorem dX12_comesBack_102 : decode cX12_comesBack 102 = .ok (.invokevirtual 335, 3) := by decide +kernel
theorem dX12_comesBack_105 : decode cX12_comesBack 105 = .ok (.istore 4, 2) := by decide +kernel
theorem dX12_comesBack_107 : decode cX12_comesBack 107 = .ok (.aload_n 0, 1) := by decide +kernel
theorem dX12_comesBack_108 : decode cX12_comesBack 108 = .ok (.getfield 7, 3) := by decide +kernel
theorem dX12_comesBack_111 : decode cX12_comesBack 111 = .ok (.bipush 7, 2) := by decide +kernel
theorem dX12_comesBack_113 : decode cX12_comesBack 113 = .ok (.aload_n 0, 1) := by decide +kernel
theorem dX12_comesBack_114 : decode cX12_comesBack 114 = .ok (.getfield 7, 3) := by decide +kernel
theorem dX12_comesBack_117 : decode cX12_comesBack 117 = .ok (.iload_n 3, 1) := by decide +kernel
theorem dX12_comesBack_118 : decode cX12_comesBack 118 = .ok (.iaload, 1) := by decide +kernel
theorem dX12_comesBack_119 : decode cX12_comesBack 119 = .ok (.iload 4, 2) := by decide +kernel
theorem dX12_comesBack_121 : decode cX12_comesBack 121 = .ok (.invokestatic 332, 3) := by decide +kernel
theorem dX12_comesBack_124 : decode cX12_comesBack 124 = .ok (.iastore, 1) := by decide +kernel
theorem dX12_comesBack_125 : decode cX12_comesBack 125 = .ok (.aload_n 0, 1) := by decide +kernel
theorem dX12_comesBack_126 : decode cX12_comesBack 126 = .ok (.getfield 7, 3) := by decide +kernel
theorem dX12_comesBack_129 : decode cX12_comesBack 129 = .ok (.bipush 8, 2) := by decide +kernel
theorem dX12_comesBack_131 : decode cX12_comesBack 131 = .ok (.aload_n 0, 1) := by decide +kernel
theorem dX12_comesBack_132 : decode cX12_comesBack 132 = .ok (.getfield 7, 3) := by decide +kernel
theorem dX12_comesBack_135 : decode cX12_comesBack 135 = .ok (.iload_n 3, 1) := by decide +kernel
theorem dX12_comesBack_136 : decode cX12_comesBack 136 = .ok (.iconst 1, 1) := by decide +kernel
theorem dX12_comesBack_137 : decode cX12_comesBack 137 = .ok (.iadd, 1) := by decide +kernel
theorem dX12_comesBack_138 : decode cX12_comesBack 138 = .ok (.iaload, 1) := by decide +kernel
theorem dX12_comesBack_139 : decode cX12_comesBack 139 = .ok (.iload 4, 2) := by decide +kernel
theorem dX12_comesBack_141 : decode cX12_comesBack 141 = .ok (.invokestatic 326, 3) := by decide +kernel
theorem dX12_comesBack_144 : decode cX12_comesBack 144 = .ok (.iastore, 1) := by decide +kernel
theorem dX12_comesBack_145 : decode cX12_comesBack 145 = .ok (.return_, 1) := by decide +kernel
abbrev f_c_X12_comesBack : List (Nat × Int) := [(65, -1)]
set_option maxHeartbeats 4000000 in
set_option maxRecDepth 100000 in
theorem c_X12_comesBack (G : KG) (l : Launch) (M : Mem) (a1 : Int) (a2 : Int) (hI_M : Inv true M) (hpre : -2147483648 ≤ a1 ∧ a1 ≤ 2147483647 ∧ -2147483648 ≤ a2 ∧ a2 ≤ 2147483647 ∧ 0 ≤ a1 ∧ a1 ≤ 1 ∧ 0 ≤ a2 ∧ a2 ≤ 5) (hY : YY M) : KC true G l yX12_comesBack cX12_comesBack 5 none (3, 75) [vR G 163, vI a1, vI a2] M (fun A => kQv true G A (fun (N : Mem) => Inv true N ∧ Fr f_c_X12_comesBack M N ∧ ((N 164 4) = (M 164 4)) ∧ (YY N))) := by
  refine kx_met (lo := [some (vR G 163), some (vI a1), some (vI a2), none, none]) (by decide) (Nat.le_of_ble_eq_true rfl) rfl ?_
  intro X F hQ
  have hF_M : Fr f_c_X12_comesBack M M := Fr.rf _ _
  refine kx_aload_n 1 F 0 dX12_comesBack_0 rfl rfl rfl ?_
  refine kx_getr 4 F fl_X12_7 kd_163 rfl rfl (j := 0) rfl dX12_comesBack_1 (v := 164) (uq_164 (Inv.r hI_M kd_163 rfl 0 rfl rfl)) rfl ?_
  refine kx_bipush 6 F dX12_comesBack_4 (by decide) rfl ?_
  refine kx_iald 7 F kd_164 rfl rfl (by omega) (by decide) dX12_comesBack_6 (v := (M 164 6)) rfl rfl ?_
  have ha_1 : atlo 6 = 0 ∧ athi 6 = 30 := at_c 6 0 (o := 6) (lo := 0) (hi := 30) (by omega) (by decide) (by decide) (by decide)
  have h_2 := Inv.g hI_M kd_164 rfl 6 (a := 0) (b := 30) ha_1.1 ha_1.2
  refine kx_if_ne 10 F 61 dX12_comesBack_7 (by decide) rfl (by omega) (fun h_3 => ?_) (fun h_3 => ?_)
  · refine kx_aload_n 62 F 0 dX12_comesBack_61 rfl rfl rfl ?_
    refine kx_getr 65 F fl_X12_7 kd_163 rfl rfl (j := 0) rfl dX12_comesBack_62 (v := 164) (uq_164 (Inv.r hI_M kd_163 rfl 0 rfl rfl)) rfl ?_
    refine kx_bipush 67 F dX12_comesBack_65 (by decide) rfl ?_
    refine kx_dup2 68 F dX12_comesBack_67 rfl rfl rfl ?_
    refine kx_iald 69 F kd_164 rfl rfl (by omega) (by decide) dX12_comesBack_68 (v := (M 164 6)) rfl rfl ?_
    refine kx_iconst 70 F dX12_comesBack_69 rfl ?_
    refine kx_isub 71 F (v := (M 164 6) - 1) dX12_comesBack_70 rfl rfl ?_
    refine kx_iast 72 F kd_164 rfl rfl (by omega) (by decide) dX12_comesBack_71 rfl ?_
    intro N_4 hM_N_4
    have hI_N_4 : Inv true N_4 := Inv.u hI_M hM_N_4 kd_164 (a := 0) (b := 30) ha_1.1 ha_1.2 rfl (by omega)
    have hF_N_4 : Fr f_c_X12_comesBack M N_4 := Fr.u hF_M hM_N_4 kd_164 rfl
    refine kx_aload_n 73 F 0 dX12_comesBack_72 rfl rfl rfl ?_
    refine kx_aload_n 74 F 0 dX12_comesBack_73 rfl rfl rfl ?_
    refine kx_getr 77 F fl_X12_7 kd_163 rfl rfl (j := 0) rfl dX12_comesBack_74 (v := 164) (uq_164 (Inv.r hI_N_4 kd_163 rfl 0 rfl rfl)) rfl ?_
    refine kx_bipush 79 F dX12_comesBack_77 (by decide) rfl ?_
    refine kx_iald 80 F kd_164 rfl rfl (by omega) (by decide) dX12_comesBack_79 (v := (M 164 6) - 1) (by rw [hM_N_4, mu_s]) rfl ?_
    refine kx_Vi 83 (ci := 0) F (As := [vI ((M 164 6) - 1)]) (st := []) vd_X12_525 (c_belowRowE G l N_4 ((M 164 6) - 1) hI_N_4 (by omega)) kd_163 rfl rfl rfl ⟨by decide, by decide⟩ rfl rfl (Nat.le_of_ble_eq_true rfl) dX12_comesBack_80 rfl ?_
    intro r_5 N_6 q_7
    obtain ⟨rfl, q_7c⟩ := q_7
    refine kx_topi (e' := 3 * (M 164 6) + 7) (by omega) ?_
    refine kx_istore_n 84 F 3 (lo' := [some (vR G 163), some (vI a1), some (vI a2), some (vI (3 * (M 164 6) + 7)), none]) dX12_comesBack_83 rfl (by decide) rfl rfl rfl ?_
    refine kx_aload_n 85 F 0 dX12_comesBack_84 rfl rfl rfl ?_
    refine kx_iload_n 86 F 1 dX12_comesBack_85 rfl rfl rfl ?_
    refine kx_aload_n 87 F 0 dX12_comesBack_86 rfl rfl rfl ?_
    refine kx_getr 90 F fl_X12_7 kd_163 rfl rfl (j := 0) rfl dX12_comesBack_87 (v := 164) (uq_164 (Inv.r hI_N_4 kd_163 rfl 0 rfl rfl)) rfl ?_
    refine kx_bipush 92 F dX12_comesBack_90 (by decide) rfl ?_
    refine kx_iald 93 F kd_164 rfl rfl (by omega) (by decide) dX12_comesBack_92 (v := (M 164 8)) (by rw [hM_N_4, mu_i (by omega)]) rfl ?_
    have ha_8 : atlo 8 = 0 ∧ athi 8 = 511 := at_c 8 0 (o := 8) (lo := 0) (hi := 511) (by omega) (by decide) (by decide) (by decide)
    have h_9 := Inv.g hI_M kd_164 rfl 8 (a := 0) (b := 511) ha_8.1 ha_8.2
    refine kx_aload_n 94 F 0 dX12_comesBack_93 rfl rfl rfl ?_
    refine kx_getr 97 F fl_X12_7 kd_163 rfl rfl (j := 0) rfl dX12_comesBack_94 (v := 164) (uq_164 (Inv.r hI_N_4 kd_163 rfl 0 rfl rfl)) rfl ?_
    refine kx_iload_n 98 F 3 dX12_comesBack_97 rfl rfl rfl ?_
    refine kx_iconst 99 F dX12_comesBack_98 rfl ?_
    refine kx_iadd 100 F (v := 3 * (M 164 6) + 9) dX12_comesBack_99 (by omega) rfl ?_
    refine kx_iald 101 F kd_164 rfl rfl (by omega) (by decide) dX12_comesBack_100 (v := (M 164 (3 * (M 164 6) + 9))) (by rw [hM_N_4, mu_i (by omega)]) rfl ?_
    have ha_10 : atlo (3 * (M 164 6) + 9) = 0 ∧ athi (3 * (M 164 6) + 9) = 5 := at_b (3 * (M 164 6) + 9) 0 ((M 164 6) - 1) 2 (by omega) (by omega) (by decide)
    have h_11 := Inv.g hI_M kd_164 rfl (3 * (M 164 6) + 9) (a := 0) (b := 5) ha_10.1 ha_10.2
    refine kx_iload_n 102 F 2 dX12_comesBack_101 rfl rfl rfl ?_
    refine kx_Vi 105 (ci := 0) F (As := [vI a1, vI (M 164 8), vI (M 164 (3 * (M 164 6) + 9)), vI a2]) (st := []) vd_X12_335 (c_X12_over G l N_4 a1 (M 164 8) (M 164 (3 * (M 164 6) + 9)) a2 hI_N_4 (by omega)) kd_163 rfl rfl rfl ⟨by decide, by decide⟩ rfl rfl (Nat.le_of_ble_eq_true rfl) dX12_comesBack_102 rfl ?_
    intro r_12 N_13 q_14
    obtain ⟨rfl, q_14c⟩ := q_14
    refine kx_istore 107 F 4 (lo' := [some (vR G 163), some (vI a1), some (vI a2), some (vI (3 * (M 164 6) + 7)), some (vI r_12)]) dX12_comesBack_105 (by decide) rfl rfl rfl ?_
    refine kx_aload_n 108 F 0 dX12_comesBack_107 rfl rfl rfl ?_
    refine kx_getr 111 F fl_X12_7 kd_163 rfl rfl (j := 0) rfl dX12_comesBack_108 (v := 164) (uq_164 (Inv.r hI_N_4 kd_163 rfl 0 rfl rfl)) rfl ?_
    refine kx_bipush 113 F dX12_comesBack_111 (by decide) rfl ?_
    refine kx_aload_n 114 F 0 dX12_comesBack_113 rfl rfl rfl ?_
    refine kx_getr 117 F fl_X12_7 kd_163 rfl rfl (j := 0) rfl dX12_comesBack_114 (v := 164) (uq_164 (Inv.r hI_N_4 kd_163 rfl 0 rfl rfl)) rfl ?_
    refine kx_iload_n 118 F 3 dX12_comesBack_117 rfl rfl rfl ?_
    refine kx_iald 119 F kd_164 rfl rfl (by omega) (by decide) dX12_comesBack_118 (v := (M 164 (3 * (M 164 6) + 7))) (by rw [hM_N_4, mu_i (by omega)]) rfl ?_
    have ha_15 : atlo (3 * (M 164 6) + 7) = 0 ∧ athi (3 * (M 164 6) + 7) = 7 := at_b (3 * (M 164 6) + 7) 0 ((M 164 6) - 1) 0 (by omega) (by omega) (by decide)
    have h_16 := Inv.g hI_M kd_164 rfl (3 * (M 164 6) + 7) (a := 0) (b := 7) ha_15.1 ha_15.2
    refine kx_iload 121 F 4 dX12_comesBack_119 rfl rfl ?_
    refine kx_Si 124 F (As := [vI (M 164 (3 * (M 164 6) + 7)), vI r_12]) (st := [vI 7, vR G 164]) sd_X12_332 (c_X12_image G l N_4 (M 164 (3 * (M 164 6) + 7)) r_12 hI_N_4 (by omega)) ⟨by decide, by decide⟩ rfl rfl (Nat.le_of_ble_eq_true rfl) dX12_comesBack_121 rfl ?_
    intro r_17 N_18 q_19
    obtain ⟨rfl, q_19c⟩ := q_19
    refine kx_iast 125 F kd_164 rfl rfl (by omega) (by decide) dX12_comesBack_124 rfl ?_
    intro N_20 hM_N_20
    have ha_21 : atlo 7 = 0 ∧ athi 7 = 7 := at_c 7 0 (o := 7) (lo := 0) (hi := 7) (by omega) (by decide) (by decide) (by decide)
    have hI_N_20 : Inv true N_20 := Inv.u hI_N_4 hM_N_20 kd_164 (a := 0) (b := 7) ha_21.1 ha_21.2 rfl (by omega)
    have hF_N_20 : Fr f_c_X12_comesBack M N_20 := Fr.u hF_N_4 hM_N_20 kd_164 rfl
    refine kx_aload_n 126 F 0 dX12_comesBack_125 rfl rfl rfl ?_
    refine kx_getr 129 F fl_X12_7 kd_163 rfl rfl (j := 0) rfl dX12_comesBack_126 (v := 164) (uq_164 (Inv.r hI_N_20 kd_163 rfl 0 rfl rfl)) rfl ?_
    refine kx_bipush 131 F dX12_comesBack_129 (by decide) rfl ?_
    refine kx_aload_n 132 F 0 dX12_comesBack_131 rfl rfl rfl ?_
    refine kx_getr 135 F fl_X12_7 kd_163 rfl rfl (j := 0) rfl dX12_comesBack_132 (v := 164) (uq_164 (Inv.r hI_N_20 kd_163 rfl 0 rfl rfl)) rfl ?_
    refine kx_iload_n 136 F 3 dX12_comesBack_135 rfl rfl rfl ?_
    refine kx_iconst 137 F dX12_comesBack_136 rfl ?_
    refine kx_iadd 138 F (v := 3 * (M 164 6) + 8) dX12_comesBack_137 (by omega) rfl ?_
    refine kx_iald 139 F kd_164 rfl rfl (by omega) (by decide) dX12_comesBack_138 (v := (M 164 (3 * (M 164 6) + 8))) (by rw [hM_N_20, mu_i (by omega), hM_N_4, mu_i (by omega)]) rfl ?_
    have ha_22 : atlo (3 * (M 164 6) + 8) = 0 ∧ athi (3 * (M 164 6) + 8) = 511 := at_b (3 * (M 164 6) + 8) 0 ((M 164 6) - 1) 1 (by omega) (by omega) (by decide)
    have h_23 := Inv.g hI_M kd_164 rfl (3 * (M 164 6) + 8) (a := 0) (b := 511) ha_22.1 ha_22.2
    refine kx_iload 141 F 4 dX12_comesBack_139 rfl rfl ?_
    refine kx_Si 144 F (As := [vI (M 164 (3 * (M 164 6) + 8)), vI r_12]) (st := [vI 8, vR G 164]) sd_X12_326 (c_X12_then G l N_20 (M 164 (3 * (M 164 6) + 8)) r_12 hI_N_20 (by omega)) ⟨by decide, by decide⟩ rfl rfl (Nat.le_of_ble_eq_true rfl) dX12_comesBack_141 rfl ?_
    intro r_24 N_25 q_26
    obtain ⟨rfl, q_26c⟩ := q_26
    refine kx_iast 145 F kd_164 rfl rfl (by omega) (by decide) dX12_comesBack_144 rfl ?_
    intro N_27 hM_N_27
    have hI_N_27 : Inv true N_27 := Inv.u hI_N_20 hM_N_27 kd_164 (a := 0) (b := 511) ha_8.1 ha_8.2 rfl (by omega)
    have hF_N_27 : Fr f_c_X12_comesBack M N_27 := Fr.u hF_N_20 hM_N_27 kd_164 rfl
    have e_28 : (N_27 164 4) = (M 164 4) := by rw [hM_N_27, mu_i (by omega), hM_N_20, mu_i (by omega), hM_N_4, mu_i (by omega)]
    exact kx_vret F hQ ⟨hI_N_27, hF_N_27, (by omega), (YY.sta (YY.sta (YY.sta hY hI_M hM_N_4 (by omega)) hI_N_4 hM_N_20 (by omega)) hI_N_20 hM_N_27 (by omega))⟩ dX12_comesBack_145
  · refine kx_aload_n 11 F 0 dX12_comesBack_10 rfl rfl rfl ?_
    refine kx_getr 14 F fl_X12_7 kd_163 rfl rfl (j := 0) rfl dX12_comesBack_11 (v := 164) (uq_164 (Inv.r hI_M kd_163 rfl 0 rfl rfl)) rfl ?_
    refine kx_bipush 16 F dX12_comesBack_14 (by decide) rfl ?_
    refine kx_aload_n 17 F 0 dX12_comesBack_16 rfl rfl rfl ?_
    refine kx_getr 20 F fl_X12_7 kd_163 rfl rfl (j := 0) rfl dX12_comesBack_17 (v := 164) (uq_164 (Inv.r hI_M kd_163 rfl 0 rfl rfl)) rfl ?_
    refine kx_bipush 22 F dX12_comesBack_20 (by decide) rfl ?_
    refine kx_iald 23 F kd_164 rfl rfl (by omega) (by decide) dX12_comesBack_22 (v := (M 164 7)) rfl rfl ?_
    have ha_29 : atlo 7 = 0 ∧ athi 7 = 7 := at_c 7 0 (o := 7) (lo := 0) (hi := 7) (by omega) (by decide) (by decide) (by decide)
    have h_30 := Inv.g hI_M kd_164 rfl 7 (a := 0) (b := 7) ha_29.1 ha_29.2
    refine kx_aload_n 24 F 0 dX12_comesBack_23 rfl rfl rfl ?_
    refine kx_iload_n 25 F 1 dX12_comesBack_24 rfl rfl rfl ?_
    refine kx_iload_n 26 F 2 dX12_comesBack_25 rfl rfl rfl ?_
    refine kx_bipush 28 F dX12_comesBack_26 (by decide) rfl ?_
    refine kx_Vi 31 (ci := 0) F (As := [vI a1, vI a2, vI 8]) (st := [vI (M 164 7), vI 7, vR G 164]) vd_X12_323 (c_X12_leads G l M a1 a2 8 hI_M (by omega)) kd_163 rfl rfl rfl ⟨by decide, by decide⟩ rfl rfl (Nat.le_of_ble_eq_true rfl) dX12_comesBack_28 rfl ?_
    intro r_31 N_32 q_33
    obtain ⟨rfl, q_33c⟩ := q_33
    refine kx_Si 34 F (As := [vI (M 164 7), vI r_31]) (st := [vI 7, vR G 164]) sd_X12_332 (c_X12_image G l M (M 164 7) r_31 hI_M (by omega)) ⟨by decide, by decide⟩ rfl rfl (Nat.le_of_ble_eq_true rfl) dX12_comesBack_31 rfl ?_
    intro r_34 N_35 q_36
    obtain ⟨rfl, q_36c⟩ := q_36
    refine kx_iast 35 F kd_164 rfl rfl (by omega) (by decide) dX12_comesBack_34 rfl ?_
    intro N_37 hM_N_37
    have hI_N_37 : Inv true N_37 := Inv.u hI_M hM_N_37 kd_164 (a := 0) (b := 7) ha_29.1 ha_29.2 rfl (by omega)
    have hF_N_37 : Fr f_c_X12_comesBack M N_37 := Fr.u hF_M hM_N_37 kd_164 rfl
    refine kx_aload_n 36 F 0 dX12_comesBack_35 rfl rfl rfl ?_
    refine kx_getr 39 F fl_X12_7 kd_163 rfl rfl (j := 0) rfl dX12_comesBack_36 (v := 164) (uq_164 (Inv.r hI_N_37 kd_163 rfl 0 rfl rfl)) rfl ?_
    refine kx_bipush 41 F dX12_comesBack_39 (by decide) rfl ?_
    refine kx_aload_n 42 F 0 dX12_comesBack_41 rfl rfl rfl ?_
    refine kx_getr 45 F fl_X12_7 kd_163 rfl rfl (j := 0) rfl dX12_comesBack_42 (v := 164) (uq_164 (Inv.r hI_N_37 kd_163 rfl 0 rfl rfl)) rfl ?_
    refine kx_bipush 47 F dX12_comesBack_45 (by decide) rfl ?_
    refine kx_iald 48 F kd_164 rfl rfl (by omega) (by decide) dX12_comesBack_47 (v := (M 164 8)) (by rw [hM_N_37, mu_i (by omega)]) rfl ?_
    have ha_38 : atlo 8 = 0 ∧ athi 8 = 511 := at_c 8 0 (o := 8) (lo := 0) (hi := 511) (by omega) (by decide) (by decide) (by decide)
    have h_39 := Inv.g hI_M kd_164 rfl 8 (a := 0) (b := 511) ha_38.1 ha_38.2
    refine kx_aload_n 49 F 0 dX12_comesBack_48 rfl rfl rfl ?_
    refine kx_iload_n 50 F 1 dX12_comesBack_49 rfl rfl rfl ?_
    refine kx_iload_n 51 F 2 dX12_comesBack_50 rfl rfl rfl ?_
    refine kx_bipush 53 F dX12_comesBack_51 (by decide) rfl ?_
    refine kx_Vi 56 (ci := 0) F (As := [vI a1, vI a2, vI 8]) (st := [vI (M 164 8), vI 8, vR G 164]) vd_X12_323 (c_X12_leads G l N_37 a1 a2 8 hI_N_37 (by omega)) kd_163 rfl rfl rfl ⟨by decide, by decide⟩ rfl rfl (Nat.le_of_ble_eq_true rfl) dX12_comesBack_53 rfl ?_
    intro r_40 N_41 q_42
    obtain ⟨rfl, q_42c⟩ := q_42
    refine kx_Si 59 F (As := [vI (M 164 8), vI r_40]) (st := [vI 8, vR G 164]) sd_X12_326 (c_X12_then G l N_37 (M 164 8) r_40 hI_N_37 (by omega)) ⟨by decide, by decide⟩ rfl rfl (Nat.le_of_ble_eq_true rfl) dX12_comesBack_56 rfl ?_
    intro r_43 N_44 q_45
    obtain ⟨rfl, q_45c⟩ := q_45
    refine kx_iast 60 F kd_164 rfl rfl (by omega) (by decide) dX12_comesBack_59 rfl ?_
    intro N_46 hM_N_46
    have hI_N_46 : Inv true N_46 := Inv.u hI_N_37 hM_N_46 kd_164 (a := 0) (b := 511) ha_38.1 ha_38.2 rfl (by omega)
    have hF_N_46 : Fr f_c_X12_comesBack M N_46 := Fr.u hF_N_37 hM_N_46 kd_164 rfl
    have e_47 : (N_46 164 4) = (M 164 4) := by rw [hM_N_46, mu_i (by omega), hM_N_37, mu_i (by omega)]
    exact kx_vret F hQ ⟨hI_N_46, hF_N_46, (by omega), (YY.sta (YY.sta hY hI_M hM_N_37 (by omega)) hI_N_37 hM_N_46 (by omega))⟩ dX12_comesBack_60
set_option maxHeartbeats 4000000 in
set_option maxRecDepth 100000 in
theorem c_sortOf0E (G : KG) (l : Launch) (M : Mem) (a1 : Int) (a2 : Int) (hI_M : Inv true M) (hpre : -2147483648 ≤ a1 ∧ a1 ≤ 2147483647 ∧ -2147483648 ≤ a2 ∧ a2 ≤ 2147483647 ∧ a1 = 0) : KC true G l yX12_sortOf cX12_sortOf 3 (some .int) (0, 0) [vR G 163, vI a1, vI a2] M (fun A => kQi true G A (fun (r : Int) (N : Mem) => M = N ∧ ((r = 0 ∧ a2 < (M 164 0)) ∨ (r = 1 ∧ a2 ≥ (M 164 0) ∧ a2 < (M 164 0) + (M 164 1)) ∨ (r = 2 ∧ a2 ≥ (M 164 0) + (M 164 1))))) := by
  refine kx_met (lo := [some (vR G 163), some (vI a1), some (vI a2)]) (by decide) (Nat.le_of_ble_eq_true rfl) rfl ?_
  intro X F hQ
  have e_1 : M 164 a1 = M 164 0 := by rw [show a1 = 0 by omega]
  have e_2 : M 164 (a1 + 1) = M 164 1 := by rw [show a1 + 1 = 1 by omega]
  refine kx_iload_n 1 F 2 dX12_sortOf_0 rfl rfl rfl ?_
  refine kx_aload_n 2 F 0 dX12_sortOf_1 rfl rfl rfl ?_
  refine kx_getr 5 F fl_X12_7 kd_163 rfl rfl (j := 0) rfl dX12_sortOf_2 (v := 164) (uq_164 (Inv.r hI_M kd_163 rfl 0 rfl rfl)) rfl ?_
  refine kx_iload_n 6 F 1 dX12_sortOf_5 rfl rfl rfl ?_
  refine kx_iald 7 F kd_164 rfl rfl (by omega) (by decide) dX12_sortOf_6 (v := (M 164 a1)) rfl rfl ?_
  have ha_3 : atlo a1 = 0 ∧ athi a1 = 2 := at_c a1 0 (o := 0) (lo := 0) (hi := 2) (by omega) (by decide) (by decide) (by decide)
  have h_4 := Inv.g hI_M kd_164 rfl a1 (a := 0) (b := 2) ha_3.1 ha_3.2
  refine kx_icmp_ge 10 F 14 dX12_sortOf_7 (by decide) rfl (by omega) (by omega) (fun h_5 => ?_) (fun h_5 => ?_)
  · refine kx_iload_n 15 F 2 dX12_sortOf_14 rfl rfl rfl ?_
    refine kx_aload_n 16 F 0 dX12_sortOf_15 rfl rfl rfl ?_
    refine kx_getr 19 F fl_X12_7 kd_163 rfl rfl (j := 0) rfl dX12_sortOf_16 (v := 164) (uq_164 (Inv.r hI_M kd_163 rfl 0 rfl rfl)) rfl ?_
    refine kx_iload_n 20 F 1 dX12_sortOf_19 rfl rfl rfl ?_
    refine kx_iald 21 F kd_164 rfl rfl (by omega) (by decide) dX12_sortOf_20 (v := (M 164 a1)) rfl rfl ?_
    refine kx_aload_n 22 F 0 dX12_sortOf_21 rfl rfl rfl ?_
    refine kx_getr 25 F fl_X12_7 kd_163 rfl rfl (j := 0) rfl dX12_sortOf_22 (v := 164) (uq_164 (Inv.r hI_M kd_163 rfl 0 rfl rfl)) rfl ?_
    refine kx_iload_n 26 F 1 dX12_sortOf_25 rfl rfl rfl ?_
    refine kx_iconst 27 F dX12_sortOf_26 rfl ?_
    refine kx_iadd 28 F (v := a1 + 1) dX12_sortOf_27 rfl rfl ?_
    refine kx_iald 29 F kd_164 rfl rfl (by omega) (by decide) dX12_sortOf_28 (v := (M 164 (a1 + 1))) rfl rfl ?_
    have ha_6 : atlo (a1 + 1) = 0 ∧ athi (a1 + 1) = 2 := at_c (a1 + 1) 0 (o := 1) (lo := 0) (hi := 2) (by omega) (by decide) (by decide) (by decide)
    have h_7 := Inv.g hI_M kd_164 rfl (a1 + 1) (a := 0) (b := 2) ha_6.1 ha_6.2
    refine kx_iadd 30 F (v := (M 164 a1) + (M 164 (a1 + 1))) dX12_sortOf_29 rfl rfl ?_
    refine kx_icmp_ge 33 F 37 dX12_sortOf_30 (by decide) rfl (by omega) (by omega) (fun h_8 => ?_) (fun h_8 => ?_)
    · refine kx_iconst 38 F dX12_sortOf_37 rfl ?_
      exact kx_iret F hQ ⟨rfl, (Or.inr (Or.inr (by omega)))⟩ dX12_sortOf_38
    · refine kx_iconst 34 F dX12_sortOf_33 rfl ?_
      refine kx_goto 38 F dX12_sortOf_34 (by decide) ?_
      exact kx_iret F hQ ⟨rfl, (Or.inr (Or.inl (by omega)))⟩ dX12_sortOf_38
  · refine kx_iconst 11 F dX12_sortOf_10 rfl ?_
    refine kx_goto 38 F dX12_sortOf_11 (by decide) ?_
    exact kx_iret F hQ ⟨rfl, (Or.inl (by omega))⟩ dX12_sortOf_38
set_option maxHeartbeats 4000000 in
set_option maxRecDepth 100000 in
theorem c_sortNowE (G : KG) (l : Launch) (M : Mem) (a1 : Int) (hI_M : Inv true M) (hpre : -2147483648 ≤ a1 ∧ a1 ≤ 2147483647) : KC true G l yX12_sortNow cX12_sortNow 2 (some .int) (1, 22) [vR G 163, vI a1] M (fun A => kQi true G A (fun (r : Int) (N : Mem) => M = N ∧ ((r = 0 ∧ a1 < (M 164 0)) ∨ (r = 1 ∧ a1 ≥ (M 164 0) ∧ a1 < (M 164 0) + (M 164 1)) ∨ (r = 2 ∧ a1 ≥ (M 164 0) + (M 164 1))))) := by
  refine kx_met (lo := [some (vR G 163), some (vI a1)]) (by decide) (Nat.le_of_ble_eq_true rfl) rfl ?_
  intro X F hQ
  refine kx_aload_n 1 F 0 dX12_sortNow_0 rfl rfl rfl ?_
  refine kx_iconst 2 F dX12_sortNow_1 rfl ?_
  refine kx_iload_n 3 F 1 dX12_sortNow_2 rfl rfl rfl ?_
  refine kx_Vi 6 (ci := 0) F (As := [vI 0, vI a1]) (st := []) vd_X12_247 (c_sortOf0E G l M 0 a1 hI_M (by omega)) kd_163 rfl rfl rfl ⟨by decide, by decide⟩ rfl rfl (Nat.le_of_ble_eq_true rfl) dX12_sortNow_3 rfl ?_
  intro r_1 N_2 q_3
  obtain ⟨rfl, q_3c⟩ := q_3
  rcases q_3c with q_3c | q_3c | q_3c
  · exact kx_iret F hQ ⟨rfl, (Or.inl (by omega))⟩ dX12_sortNow_6
  · exact kx_iret F hQ ⟨rfl, (Or.inr (Or.inl (by omega)))⟩ dX12_sortNow_6
  · exact kx_iret F hQ ⟨rfl, (Or.inr (Or.inr (by omega)))⟩ dX12_sortNow_6
theorem dX12_see_0 : decode cX12_see 0 = .ok (.aload_n 0, 1) := by decide +kernel
theorem dX12_see_1 : decode cX12_see 1 = .ok (.getfield 7, 3) := by decide +kernel
theorem dX12_see_4 : decode cX12_see 4 = .ok (.iconst 4, 1) := by decide +kernel
theorem dX12_see_5 : decode cX12_see 5 = .ok (.iaload, 1) := by decide +kernel
theorem dX12_see_6 : decode cX12_see 6 = .ok (.istore_n 2, 1) := by decide +kernel
theorem dX12_see_7 : decode cX12_see 7 = .ok (.aload_n 0, 1) := by decide +kernel
theorem dX12_see_8 : decode cX12_see 8 = .ok (.iload_n 1, 1) := by decide +kernel
theorem dX12_see_9 : decode cX12_see 9 = .ok (.invokevirtual 300, 3) := by decide +kernel
theorem dX12_see_12 : decode cX12_see 12 = .ok (.ifCond .ne 9, 3) := by decide +kernel
theorem dX12_see_15 : decode cX12_see 15 = .ok (.aload_n 0, 1) := by decide +kernel
theorem dX12_see_16 : decode cX12_see 16 = .ok (.iconst 1, 1) := by decide +kernel
theorem dX12_see_17 : decode cX12_see 17 = .ok (.invokevirtual 123, 3) := by decide +kernel
theorem dX12_see_20 : decode cX12_see 20 = .ok (.ireturn, 1) := by decide +kernel
theorem dX12_see_21 : decode cX12_see 21 = .ok (.iload_n 2, 1) := by decide +kernel
theorem dX12_see_22 : decode cX12_see 22 = .ok (.iconst (-1), 1) := by decide +kernel
theorem dX12_see_23 : decode cX12_see 23 = .ok (.if_icmp .ne 10, 3) := by decide +kernel
theorem dX12_see_26 : decode cX12_see 26 = .ok (.aload_n 0, 1) := by decide +kernel
theorem dX12_see_27 : decode cX12_see 27 = .ok (.bipush 6, 2) := by decide +kernel
theorem dX12_see_29 : decode cX12_see 29 = .ok (.invokevirtual 123, 3) := by decide +kernel
theorem dX12_see_32 : decode cX12_see 32 = .ok (.ireturn, 1) := by decide +kernel
theorem dX12_see_33 : decode cX12_see 33 = .ok (.aload_n 0, 1) := by decide +kernel
theorem dX12_see_34 : decode cX12_see 34 = .ok (.iload_n 1, 1) := by decide +kernel
theorem dX12_see_35 : decode cX12_see 35 = .ok (.invokevirtual 297, 3) := by decide +kernel
theorem dX12_see_38 : decode cX12_see 38 = .ok (.ifCond .ne 21, 3) := by decide +kernel
theorem dX12_see_41 : decode cX12_see 41 = .ok (.aload_n 0, 1) := by decide +kernel
theorem dX12_see_42 : decode cX12_see 42 = .ok (.getfield 7, 3) := by decide +kernel
theorem dX12_see_45 : decode cX12_see 45 = .ok (.bipush 6, 2) := by decide +kernel
theorem dX12_see_47 : decode cX12_see 47 = .ok (.iaload, 1) := by decide +kernel
theorem dX12_see_48 : decode cX12_see 48 = .ok (.bipush 30, 2) := by decide +kernel
theorem dX12_see_50 : decode cX12_see 50 = .ok (.if_icmp .ne 9, 3) := by decide +kernel
theorem dX12_see_53 : decode cX12_see 53 = .ok (.aload_n 0, 1) := by decide +kernel
theorem dX12_see_54 : decode cX12_see 54 = .ok (.iconst 4, 1) := by decide +kernel
theorem dX12_see_55 : decode cX12_see 55 = .ok (.invokevirtual 123, 3) := by decide +kernel
theorem dX12_see_58 : decode cX12_see 58 = .ok (.ireturn, 1) := by decide +kernel
theorem dX12_see_59 : decode cX12_see 59 = .ok (.aload_n 0, 1) := by decide +kernel
theorem dX12_see_60 : decode cX12_see 60 = .ok (.invokevirtual 342, 3) := by decide +kernel
theorem dX12_see_63 : decode cX12_see 63 = .ok (.aload_n 0, 1) := by decide +kernel
theorem dX12_see_64 : decode cX12_see 64 = .ok (.iload_n 1, 1) := by decide +kernel
theorem dX12_see_65 : decode cX12_see 65 = .ok (.invokevirtual 297, 3) := by decide +kernel
theorem dX12_see_68 : decode cX12_see 68 = .ok (.lookupswitch 137 #[(0, 28), (1, 128)], 28) := by decide +kernel
theorem dX12_see_96 : decode cX12_see 96 = .ok (.aload_n 0, 1) := by decide +kernel
theorem dX12_see_97 : decode cX12_see 97 = .ok (.aload_n 0, 1) := by decide +kernel
theorem dX12_see_98 : decode cX12_see 98 = .ok (.getfield 7, 3) := by decide +kernel
theorem dX12_see_101 : decode cX12_see 101 = .ok (.bipush 6, 2) := by decide +kernel
theorem dX12_see_103 : decode cX12_see 103 = .ok (.iaload, 1) := by decide +kernel
theorem dX12_see_104 : decode cX12_see 104 = .ok (.invokevirtual 525, 3) := by decide +kernel
theorem dX12_see_107 : decode cX12_see 107 = .ok (.istore_n 3, 1) := by decide +kernel
theorem dX12_see_108 : decode cX12_see 108 = .ok (.aload_n 0, 1) := by decide +kernel
theorem dX12_see_109 : decode cX12_see 109 = .ok (.getfield 7, 3) := by decide +kernel
theorem dX12_see_112 : decode cX12_see 112 = .ok (.iload_n 3, 1) := by decide +kernel
theorem dX12_see_113 : decode cX12_see 113 = .ok (.aload_n 0, 1) := by decide +kernel
theorem dX12_see_114 : decode cX12_see 114 = .ok (.getfield 7, 3) := by decide +kernel
theorem dX12_see_117 : decode cX12_see 117 = .ok (.bipush 7, 2) := by decide +kernel
theorem dX12_see_119 : decode cX12_see 119 = .ok (.iaload, 1) := by decide +kernel
theorem dX12_see_120 : decode cX12_see 120 = .ok (.iastore, 1) := by decide +kernel
theorem dX12_see_121 : decode cX12_see 121 = .ok (.aload_n 0, 1) := by decide +kernel
theorem dX12_see_122 : decode cX12_see 122 = .ok (.getfield 7, 3) := by decide +kernel
theorem dX12_see_125 : decode cX12_see 125 = .ok (.iload_n 3, 1) := by decide +kernel
theorem dX12_see_126 : decode cX12_see 126 = .ok (.iconst 1, 1) := by decide +kernel
theorem dX12_see_127 : decode cX12_see 127 = .ok (.iadd, 1) := by decide +kernel
theorem dX12_see_128 : decode cX12_see 128 = .ok (.aload_n 0, 1) := by decide +kernel
theorem dX12_see_129 : decode cX12_see 129 = .ok (.getfield 7, 3) := by decide +kernel
theorem dX12_see_132 : decode cX12_see 132 = .ok (.bipush 8, 2) := by decide +kernel
theorem dX12_see_134 : decode cX12_see 134 = .ok (.iaload, 1) := by decide +kernel
theorem dX12_see_135 : decode cX12_see 135 = .ok (.iastore, 1) := by decide +kernel
theorem dX12_see_136 : decode cX12_see 136 = .ok (.aload_n 0, 1) := by decide +kernel
theorem dX12_see_137 : decode cX12_see 137 = .ok (.getfield 7, 3) := by decide +kernel
theorem dX12_see_140 : decode cX12_see 140 = .ok (.iload_n 3, 1) := by decide +kernel
theorem dX12_see_141 : decode cX12_see 141 = .ok (.iconst 2, 1) := by decide +kernel
theorem dX12_see_142 : decode cX12_see 142 = .ok (.iadd, 1) := by decide +kernel
theorem dX12_see_143 : decode cX12_see 143 = .ok (.iload_n 1, 1) := by decide +kernel
theorem dX12_see_144 : decode cX12_see 144 = .ok (.iastore, 1) := by decide +kernel
theorem dX12_see_145 : decode cX12_see 145 = .ok (.aload_n 0, 1) := by decide +kernel
theorem dX12_see_146 : decode cX12_see 146 = .ok (.getfield 7, 3) := by decide +kernel
theorem dX12_see_149 : decode cX12_see 149 = .ok (.bipush 6, 2) := by decide +kernel
theorem dX12_see_151 : decode cX12_see 151 = .ok (.dup2, 1) := by decide +kernel
theorem dX12_see_152 : decode cX12_see 152 = .ok (.iaload, 1) := by decide +kernel
theorem dX12_see_153 : decode cX12_see 153 = .ok (.iconst 1, 1) := by decide +kernel
theorem dX12_see_154 : decode cX12_see 154 = .ok (.iadd, 1) := by decide +kernel
theorem dX12_see_155 : decode cX12_see 155 = .ok (.iastore, 1) := by decide +kernel
theorem dX12_see_156 : decode cX12_see 156 = .ok (.aload_n 0, 1) := by decide +kernel
theorem dX12_see_157 : decode cX12_see 157 = .ok (.getfield 7, 3) := by decide +kernel
theorem dX12_see_160 : decode cX12_see 160 = .ok (.bipush 7, 2) := by decide +kernel
theorem dX12_see_162 : decode cX12_see 162 = .ok (.aload_n 0, 1) := by decide +kernel
theorem dX12_see_163 : decode cX12_see 163 = .ok (.getfield 7, 3) := by decide +kernel
theorem dX12_see_166 : decode cX12_see 166 = .ok (.bipush 7, 2) := by decide +kernel
theorem dX12_see_168 : decode cX12_see 168 = .ok (.iaload, 1) := by decide +kernel
theorem dX12_see_169 : decode cX12_see 169 = .ok (.aload_n 0, 1) := by decide +kernel
theorem dX12_see_170 : decode cX12_see 170 = .ok (.iload_n 2, 1) := by decide +kernel
theorem dX12_see_171 : decode cX12_see 171 = .ok (.iload_n 1, 1) := by decide +kernel
theorem dX12_see_172 : decode cX12_see 172 = .ok (.bipush 7, 2) := by decide +kernel
theorem dX12_see_174 : decode cX12_see 174 = .ok (.invokevirtual 323, 3) := by decide +kernel
theorem dX12_see_177 : decode cX12_see 177 = .ok (.invokestatic 332, 3) := by decide +kernel
theorem dX12_see_180 : decode cX12_see 180 = .ok (.iastore, 1) := by decide +kernel
theorem dX12_see_181 : decode cX12_see 181 = .ok (.aload_n 0, 1) := by decide +kernel
theorem dX12_see_182 : decode cX12_see 182 = .ok (.getfield 7, 3) := by decide +kernel
theorem dX12_see_185 : decode cX12_see 185 = .ok (.bipush 8, 2) := by decide +kernel
theorem dX12_see_187 : decode cX12_see 187 = .ok (.aload_n 0, 1) := by decide +kernel
theorem dX12_see_188 : decode cX12_see 188 = .ok (.iload_n 2, 1) := by decide +kernel
theorem dX12_see_189 : decode cX12_see 189 = .ok (.invokevirtual 329, 3) := by decide +kernel
theorem dX12_see_192 : decode cX12_see 192 = .ok (.iastore, 1) := by decide +kernel
theorem dX12_see_193 : decode cX12_see 193 = .ok (.goto 62, 3) := by decide +kernel
theorem dX12_see_196 : decode cX12_see 196 = .ok (.aload_n 0, 1) := by decide +kernel
theorem dX12_see_197 : decode cX12_see 197 = .ok (.iload_n 2, 1) := by decide +kernel
theorem dX12_see_198 : decode cX12_see 198 = .ok (.iload_n 1, 1) := by decide +kernel
theorem dX12_see_199 : decode cX12_see 199 = .ok (.invokevirtual 528, 3) := by decide +kernel
theorem dX12_see_202 : decode cX12_see 202 = .ok (.goto 53, 3) := by decide +kernel
theorem dX12_see_205 : decode cX12_see 205 = .ok (.aload_n 0, 1) := by decide +kernel
theorem dX12_see_206 : decode cX12_see 206 = .ok (.getfield 7, 3) := by decide +kernel
theorem dX12_see_209 : decode cX12_see 209 = .ok (.bipush 7, 2) := by decide +kernel
theorem dX12_see_211 : decode cX12_see 211 = .ok (.aload_n 0, 1) := by decide +kernel
theorem dX12_see_212 : decode cX12_see 212 = .ok (.getfield 7, 3) := by decide +kernel
theorem dX12_see_215 : decode cX12_see 215 = .ok (.bipush 7, 2) := by decide +kernel
theorem dX12_see_217 : decode cX12_see 217 = .ok (.iaload, 1) := by decide +kernel
theorem dX12_see_218 : decode cX12_see 218 = .ok (.aload_n 0, 1) := by decide +kernel
theorem dX12_see_219 : decode cX12_see 219 = .ok (.iload_n 2, 1) := by decide +kernel
theorem dX12_see_220 : decode cX12_see 220 = .ok (.iload_n 1, 1) := by decide +kernel
theorem dX12_see_221 : decode cX12_see 221 = .ok (.bipush 8, 2) := by decide +kernel
theorem dX12_see_223 : decode cX12_see 223 = .ok (.invokevirtual 323, 3) := by decide +kernel
theorem dX12_see_226 : decode cX12_see 226 = .ok (.invokestatic 332, 3) := by decide +kernel
theorem dX12_see_229 : decode cX12_see 229 = .ok (.iastore, 1) := by decide +kernel
theorem dX12_see_230 : decode cX12_see 230 = .ok (.aload_n 0, 1) := by decide +kernel
theorem dX12_see_231 : decode cX12_see 231 = .ok (.getfield 7, 3) := by decide +kernel
theorem dX12_see_234 : decode cX12_see 234 = .ok (.bipush 8, 2) := by decide +kernel
theorem dX12_see_236 : decode cX12_see 236 = .ok (.aload_n 0, 1) := by decide +kernel
theorem dX12_see_237 : decode cX12_see 237 = .ok (.getfield 7, 3) := by decide +kernel
theorem dX12_see_240 : decode cX12_see 240 = .ok (.bipush 8, 2) := by decide +kernel
theorem dX12_see_242 : decode cX12_see 242 = .ok (.iaload, 1) := by decide +kernel
theorem dX12_see_243 : decode cX12_see 243 = .ok (.aload_n 0, 1) := by decide +kernel
theorem dX12_see_244 : decode cX12_see 244 = .ok (.iload_n 2, 1) := by decide +kernel
theorem dX12_see_245 : decode cX12_see 245 = .ok (.iload_n 1, 1) := by decide +kernel
theorem dX12_see_246 : decode cX12_see 246 = .ok (.bipush 8, 2) := by decide +kernel
theorem dX12_see_248 : decode cX12_see 248 = .ok (.invokevirtual 323, 3) := by decide +kernel
theorem dX12_see_251 : decode cX12_see 251 = .ok (.invokestatic 326, 3) := by decide +kernel
theorem dX12_see_254 : decode cX12_see 254 = .ok (.iastore, 1) := by decide +kernel
theorem dX12_see_255 : decode cX12_see 255 = .ok (.aload_n 0, 1) := by decide +kernel
theorem dX12_see_256 : decode cX12_see 256 = .ok (.getfield 7, 3) := by decide +kernel
theorem dX12_see_259 : decode cX12_see 259 = .ok (.iconst 5, 1) := by decide +kernel
theorem dX12_see_260 : decode cX12_see 260 = .ok (.dup2, 1) := by decide +kernel
theorem dX12_see_261 : decode cX12_see 261 = .ok (.iaload, 1) := by decide +kernel
theorem dX12_see_262 : decode cX12_see 262 = .ok (.iconst 1, 1) := by decide +kernel
theorem dX12_see_263 : decode cX12_see 263 = .ok (.iadd, 1) := by decide +kernel
theorem dX12_see_264 : decode cX12_see 264 = .ok (.iastore, 1) := by decide +kernel
theorem dX12_see_265 : decode cX12_see 265 = .ok (.aload_n 0, 1) := by decide +kernel
theorem dX12_see_266 : decode cX12_see 266 = .ok (.aload_n 0, 1) := by decide +kernel
theorem dX12_see_267 : decode cX12_see 267 = .ok (.invokevirtual 522, 3) := by decide +kernel
theorem dX12_see_270 : decode cX12_see 270 = .ok (.invokevirtual 127, 3) := by decide +kernel
theorem dX12_see_273 : decode cX12_see 273 = .ok (.ireturn, 1) := by decide +kernel
abbrev f_c_X12_see : List (Nat × Int) := [(64, 2), (65, -1), (72, -1)]
set_option maxHeartbeats 4000000 in
set_option maxRecDepth 100000 in
theorem c_X12_see (G : KG) (l : Launch) (M : Mem) (a1 : Int) (hI_M : Inv true M) (hpre : -2147483648 ≤ a1 ∧ a1 ≤ 2147483647) (hY : YY M) : KC true G l yX12_see cX12_see 4 (some .int) (4, 99) [vR G 163, vI a1] M (fun A => kQi true G A (fun (r : Int) (N : Mem) => Inv true N ∧ Fr f_c_X12_see M N ∧ (r ≥ -1 ∧ r ≤ 1) ∧ (YY N))) := by
  refine kx_met (lo := [some (vR G 163), some (vI a1), none, none]) (by decide) (Nat.le_of_ble_eq_true rfl) rfl ?_
  intro X F hQ
  have hF_M : Fr f_c_X12_see M M := Fr.rf _ _
  have h_1 := Inv.g hI_M kd_164 rfl 0 (a := 0) (b := 2) (at_c 0 0 (o := 0) (lo := 0) (hi := 2) (by omega) (by decide) (by decide) (by decide)).1 (at_c 0 0 (o := 0) (lo := 0) (hi := 2) (by omega) (by decide) (by decide) (by decide)).2
  have h_2 := Inv.g hI_M kd_164 rfl 1 (a := 0) (b := 2) (at_c 1 0 (o := 1) (lo := 0) (hi := 2) (by omega) (by decide) (by decide) (by decide)).1 (at_c 1 0 (o := 1) (lo := 0) (hi := 2) (by omega) (by decide) (by decide) (by decide)).2
  have h_3 := Inv.g hI_M kd_164 rfl 2 (a := 0) (b := 2) (at_c 2 0 (o := 2) (lo := 0) (hi := 2) (by omega) (by decide) (by decide) (by decide)).1 (at_c 2 0 (o := 2) (lo := 0) (hi := 2) (by omega) (by decide) (by decide) (by decide)).2
  refine kx_aload_n 1 F 0 dX12_see_0 rfl rfl rfl ?_
  refine kx_getr 4 F fl_X12_7 kd_163 rfl rfl (j := 0) rfl dX12_see_1 (v := 164) (uq_164 (Inv.r hI_M kd_163 rfl 0 rfl rfl)) rfl ?_
  refine kx_iconst 5 F dX12_see_4 rfl ?_
  refine kx_iald 6 F kd_164 rfl rfl (by omega) (by decide) dX12_see_5 (v := (M 164 4)) rfl rfl ?_
  have ha_4 : atlo 4 = (-1) ∧ athi 4 = 1 := at_c 4 0 (o := 4) (lo := (-1)) (hi := 1) (by omega) (by decide) (by decide) (by decide)
  have h_5 := Inv.g hI_M kd_164 rfl 4 (a := (-1)) (b := 1) ha_4.1 ha_4.2
  refine kx_istore_n 7 F 2 (lo' := [some (vR G 163), some (vI a1), some (vI (M 164 4)), none]) dX12_see_6 rfl (by decide) rfl rfl rfl ?_
  refine kx_aload_n 8 F 0 dX12_see_7 rfl rfl rfl ?_
  refine kx_iload_n 9 F 1 dX12_see_8 rfl rfl rfl ?_
  refine kx_Vi 12 (ci := 0) F (As := [vI a1]) (st := []) vd_X12_300 (c_isLetterE G l M a1 hI_M (by omega)) kd_163 rfl rfl rfl ⟨by decide, by decide⟩ rfl rfl (Nat.le_of_ble_eq_true rfl) dX12_see_9 rfl ?_
  intro r_6 N_7 q_8
  obtain ⟨rfl, q_8c⟩ := q_8
  rcases q_8c with q_8c | q_8c
  · refine kx_if_ne 15 F 21 dX12_see_12 (by decide) rfl (by omega) (fun h_9 => ?_) (fun h_9 => (by exfalso; omega))
    refine kx_iload_n 22 F 2 dX12_see_21 rfl rfl rfl ?_
    refine kx_iconst 23 F dX12_see_22 rfl ?_
    refine kx_icmp_ne 26 F 33 dX12_see_23 (by decide) rfl (by omega) (by decide) (fun h_10 => ?_) (fun h_10 => ?_)
    · refine kx_aload_n 34 F 0 dX12_see_33 rfl rfl rfl ?_
      refine kx_iload_n 35 F 1 dX12_see_34 rfl rfl rfl ?_
      refine kx_Vi 38 (ci := 0) F (As := [vI a1]) (st := []) vd_X12_297 (c_sortNowE G l M a1 hI_M (by omega)) kd_163 rfl rfl rfl ⟨by decide, by decide⟩ rfl rfl (Nat.le_of_ble_eq_true rfl) dX12_see_35 rfl ?_
      intro r_11 N_12 q_13
      obtain ⟨rfl, q_13c⟩ := q_13
      rcases q_13c with q_13c | q_13c | q_13c
      · refine kx_if_ne 41 F 59 dX12_see_38 (by decide) rfl (by omega) (fun h_14 => (by exfalso; omega)) (fun h_14 => ?_)
        refine kx_aload_n 42 F 0 dX12_see_41 rfl rfl rfl ?_
        refine kx_getr 45 F fl_X12_7 kd_163 rfl rfl (j := 0) rfl dX12_see_42 (v := 164) (uq_164 (Inv.r hI_M kd_163 rfl 0 rfl rfl)) rfl ?_
        refine kx_bipush 47 F dX12_see_45 (by decide) rfl ?_
        refine kx_iald 48 F kd_164 rfl rfl (by omega) (by decide) dX12_see_47 (v := (M 164 6)) rfl rfl ?_
        have ha_15 : atlo 6 = 0 ∧ athi 6 = 30 := at_c 6 0 (o := 6) (lo := 0) (hi := 30) (by omega) (by decide) (by decide) (by decide)
        have h_16 := Inv.g hI_M kd_164 rfl 6 (a := 0) (b := 30) ha_15.1 ha_15.2
        refine kx_bipush 50 F dX12_see_48 (by decide) rfl ?_
        refine kx_icmp_ne 53 F 59 dX12_see_50 (by decide) rfl (by omega) (by decide) (fun h_17 => ?_) (fun h_17 => ?_)
        · refine kx_aload_n 60 F 0 dX12_see_59 rfl rfl rfl ?_
          refine kx_Vv 63 (ci := 0) F (As := []) (st := []) vd_X12_342 (c_X12_laysRules G l M  hI_M) kd_163 rfl rfl rfl ⟨by decide, by decide⟩ rfl rfl (Nat.le_of_ble_eq_true rfl) dX12_see_60 rfl ?_
          intro N_18 q_19
          obtain ⟨hI_N_18, hG_N_18⟩ := q_19
          have hF_N_18 : Fr f_c_X12_see M N_18 := Fr.c hF_M hG_N_18 rfl
          refine kx_aload_n 64 F 0 dX12_see_63 rfl rfl rfl ?_
          refine kx_iload_n 65 F 1 dX12_see_64 rfl rfl rfl ?_
          refine kx_Vi 68 (ci := 0) F (As := [vI a1]) (st := []) vd_X12_297 (c_sortNowE G l N_18 a1 hI_N_18 (by omega)) kd_163 rfl rfl rfl ⟨by decide, by decide⟩ rfl rfl (Nat.le_of_ble_eq_true rfl) dX12_see_65 rfl ?_
          intro r_20 N_21 q_22
          obtain ⟨rfl, q_22c⟩ := q_22
          have e_23 : (N_18 164 0) = (M 164 0) := by rw [Fr.e hG_N_18 kd_164 _ rfl]
          have e_24 : (N_18 164 0) = (M 164 0) := by rw [Fr.e hG_N_18 kd_164 _ rfl]
          have e_25 : (N_18 164 0) = (M 164 0) := by rw [Fr.e hG_N_18 kd_164 _ rfl]
          have e_26 : (N_18 164 0) = (M 164 0) := by rw [Fr.e hG_N_18 kd_164 _ rfl]
          have e_27 : (N_18 164 0) = (M 164 0) := by rw [Fr.e hG_N_18 kd_164 _ rfl]
          have e_28 : (N_18 164 1) = (M 164 1) := by rw [Fr.e hG_N_18 kd_164 _ rfl]
          have e_29 : (N_18 164 0) = (M 164 0) := by rw [Fr.e hG_N_18 kd_164 _ rfl]
          have e_30 : (N_18 164 1) = (M 164 1) := by rw [Fr.e hG_N_18 kd_164 _ rfl]
          have e_31 : (N_18 164 0) = (M 164 0) := by rw [Fr.e hG_N_18 kd_164 _ rfl]
          have e_32 : (N_18 164 1) = (M 164 1) := by rw [Fr.e hG_N_18 kd_164 _ rfl]
          have e_33 : (N_18 164 0) = (M 164 0) := by rw [Fr.e hG_N_18 kd_164 _ rfl]
          have e_34 : (N_18 164 1) = (M 164 1) := by rw [Fr.e hG_N_18 kd_164 _ rfl]
          rcases q_22c with q_22c | q_22c | q_22c
          · have h_35 : r_20 = 0 := by omega
            · rw [show vI r_20 = vI 0 by rw [h_35]]
              refine kx_look 96 F (by decide) dX12_see_68 (by decide) rfl (by decide) ?_
              refine kx_aload_n 97 F 0 dX12_see_96 rfl rfl rfl ?_
              refine kx_aload_n 98 F 0 dX12_see_97 rfl rfl rfl ?_
              refine kx_getr 101 F fl_X12_7 kd_163 rfl rfl (j := 0) rfl dX12_see_98 (v := 164) (uq_164 (Inv.r hI_N_18 kd_163 rfl 0 rfl rfl)) rfl ?_
              refine kx_bipush 103 F dX12_see_101 (by decide) rfl ?_
              refine kx_iald 104 F kd_164 rfl rfl (by omega) (by decide) dX12_see_103 (v := (M 164 6)) (by rw [Fr.e hG_N_18 kd_164 _ rfl]) rfl ?_
              refine kx_Vi 107 (ci := 0) F (As := [vI (M 164 6)]) (st := []) vd_X12_525 (c_belowRowE G l N_18 (M 164 6) hI_N_18 (by omega)) kd_163 rfl rfl rfl ⟨by decide, by decide⟩ rfl rfl (Nat.le_of_ble_eq_true rfl) dX12_see_104 rfl ?_
              intro r_36 N_37 q_38
              obtain ⟨rfl, q_38c⟩ := q_38
              refine kx_topi (e' := 3 * (M 164 6) + 10) (by omega) ?_
              refine kx_istore_n 108 F 3 (lo' := [some (vR G 163), some (vI a1), some (vI (M 164 4)), some (vI (3 * (M 164 6) + 10))]) dX12_see_107 rfl (by decide) rfl rfl rfl ?_
              refine kx_aload_n 109 F 0 dX12_see_108 rfl rfl rfl ?_
              refine kx_getr 112 F fl_X12_7 kd_163 rfl rfl (j := 0) rfl dX12_see_109 (v := 164) (uq_164 (Inv.r hI_N_18 kd_163 rfl 0 rfl rfl)) rfl ?_
              refine kx_iload_n 113 F 3 dX12_see_112 rfl rfl rfl ?_
              refine kx_aload_n 114 F 0 dX12_see_113 rfl rfl rfl ?_
              refine kx_getr 117 F fl_X12_7 kd_163 rfl rfl (j := 0) rfl dX12_see_114 (v := 164) (uq_164 (Inv.r hI_N_18 kd_163 rfl 0 rfl rfl)) rfl ?_
              refine kx_bipush 119 F dX12_see_117 (by decide) rfl ?_
              refine kx_iald 120 F kd_164 rfl rfl (by omega) (by decide) dX12_see_119 (v := (M 164 7)) (by rw [Fr.e hG_N_18 kd_164 _ rfl]) rfl ?_
              have ha_39 : atlo 7 = 0 ∧ athi 7 = 7 := at_c 7 0 (o := 7) (lo := 0) (hi := 7) (by omega) (by decide) (by decide) (by decide)
              have h_40 := Inv.g hI_M kd_164 rfl 7 (a := 0) (b := 7) ha_39.1 ha_39.2
              refine kx_iast 121 F kd_164 rfl rfl (by omega) (by decide) dX12_see_120 rfl ?_
              intro N_41 hM_N_41
              have ha_42 : atlo (3 * (M 164 6) + 10) = 0 ∧ athi (3 * (M 164 6) + 10) = 7 := at_b (3 * (M 164 6) + 10) 0 (M 164 6) 0 (by omega) (by omega) (by decide)
              have hI_N_41 : Inv true N_41 := Inv.u hI_N_18 hM_N_41 kd_164 (a := 0) (b := 7) ha_42.1 ha_42.2 rfl (by omega)
              have hF_N_41 : Fr f_c_X12_see M N_41 := Fr.u hF_N_18 hM_N_41 kd_164 rfl
              refine kx_aload_n 122 F 0 dX12_see_121 rfl rfl rfl ?_
              refine kx_getr 125 F fl_X12_7 kd_163 rfl rfl (j := 0) rfl dX12_see_122 (v := 164) (uq_164 (Inv.r hI_N_41 kd_163 rfl 0 rfl rfl)) rfl ?_
              refine kx_iload_n 126 F 3 dX12_see_125 rfl rfl rfl ?_
              refine kx_iconst 127 F dX12_see_126 rfl ?_
              refine kx_iadd 128 F (v := 3 * (M 164 6) + 11) dX12_see_127 (by omega) rfl ?_
              refine kx_aload_n 129 F 0 dX12_see_128 rfl rfl rfl ?_
              refine kx_getr 132 F fl_X12_7 kd_163 rfl rfl (j := 0) rfl dX12_see_129 (v := 164) (uq_164 (Inv.r hI_N_41 kd_163 rfl 0 rfl rfl)) rfl ?_
              refine kx_bipush 134 F dX12_see_132 (by decide) rfl ?_
              refine kx_iald 135 F kd_164 rfl rfl (by omega) (by decide) dX12_see_134 (v := (M 164 8)) (by rw [hM_N_41, mu_i (by omega), Fr.e hG_N_18 kd_164 _ rfl]) rfl ?_
              have ha_43 : atlo 8 = 0 ∧ athi 8 = 511 := at_c 8 0 (o := 8) (lo := 0) (hi := 511) (by omega) (by decide) (by decide) (by decide)
              have h_44 := Inv.g hI_M kd_164 rfl 8 (a := 0) (b := 511) ha_43.1 ha_43.2
              refine kx_iast 136 F kd_164 rfl rfl (by omega) (by decide) dX12_see_135 rfl ?_
              intro N_45 hM_N_45
              have ha_46 : atlo (3 * (M 164 6) + 11) = 0 ∧ athi (3 * (M 164 6) + 11) = 511 := at_b (3 * (M 164 6) + 11) 0 (M 164 6) 1 (by omega) (by omega) (by decide)
              have hI_N_45 : Inv true N_45 := Inv.u hI_N_41 hM_N_45 kd_164 (a := 0) (b := 511) ha_46.1 ha_46.2 rfl (by omega)
              have hF_N_45 : Fr f_c_X12_see M N_45 := Fr.u hF_N_41 hM_N_45 kd_164 rfl
              refine kx_aload_n 137 F 0 dX12_see_136 rfl rfl rfl ?_
              refine kx_getr 140 F fl_X12_7 kd_163 rfl rfl (j := 0) rfl dX12_see_137 (v := 164) (uq_164 (Inv.r hI_N_45 kd_163 rfl 0 rfl rfl)) rfl ?_
              refine kx_iload_n 141 F 3 dX12_see_140 rfl rfl rfl ?_
              refine kx_iconst 142 F dX12_see_141 rfl ?_
              refine kx_iadd 143 F (v := 3 * (M 164 6) + 12) dX12_see_142 (by omega) rfl ?_
              refine kx_iload_n 144 F 1 dX12_see_143 rfl rfl rfl ?_
              refine kx_iast 145 F kd_164 rfl rfl (by omega) (by decide) dX12_see_144 rfl ?_
              intro N_47 hM_N_47
              have ha_48 : atlo (3 * (M 164 6) + 12) = 0 ∧ athi (3 * (M 164 6) + 12) = 5 := at_b (3 * (M 164 6) + 12) 0 (M 164 6) 2 (by omega) (by omega) (by decide)
              have hI_N_47 : Inv true N_47 := Inv.u hI_N_45 hM_N_47 kd_164 (a := 0) (b := 5) ha_48.1 ha_48.2 rfl (by omega)
              have hF_N_47 : Fr f_c_X12_see M N_47 := Fr.u hF_N_45 hM_N_47 kd_164 rfl
              refine kx_aload_n 146 F 0 dX12_see_145 rfl rfl rfl ?_
              refine kx_getr 149 F fl_X12_7 kd_163 rfl rfl (j := 0) rfl dX12_see_146 (v := 164) (uq_164 (Inv.r hI_N_47 kd_163 rfl 0 rfl rfl)) rfl ?_
              refine kx_bipush 151 F dX12_see_149 (by decide) rfl ?_
              refine kx_dup2 152 F dX12_see_151 rfl rfl rfl ?_
              refine kx_iald 153 F kd_164 rfl rfl (by omega) (by decide) dX12_see_152 (v := (M 164 6)) (by rw [hM_N_47, mu_i (by omega), hM_N_45, mu_i (by omega), hM_N_41, mu_i (by omega), Fr.e hG_N_18 kd_164 _ rfl]) rfl ?_
              refine kx_iconst 154 F dX12_see_153 rfl ?_
              refine kx_iadd 155 F (v := (M 164 6) + 1) dX12_see_154 rfl rfl ?_
              refine kx_iast 156 F kd_164 rfl rfl (by omega) (by decide) dX12_see_155 rfl ?_
              intro N_49 hM_N_49
              have hI_N_49 : Inv true N_49 := Inv.u hI_N_47 hM_N_49 kd_164 (a := 0) (b := 30) ha_15.1 ha_15.2 rfl (by omega)
              have hF_N_49 : Fr f_c_X12_see M N_49 := Fr.u hF_N_47 hM_N_49 kd_164 rfl
              refine kx_aload_n 157 F 0 dX12_see_156 rfl rfl rfl ?_
              refine kx_getr 160 F fl_X12_7 kd_163 rfl rfl (j := 0) rfl dX12_see_157 (v := 164) (uq_164 (Inv.r hI_N_49 kd_163 rfl 0 rfl rfl)) rfl ?_
              refine kx_bipush 162 F dX12_see_160 (by decide) rfl ?_
              refine kx_aload_n 163 F 0 dX12_see_162 rfl rfl rfl ?_
              refine kx_getr 166 F fl_X12_7 kd_163 rfl rfl (j := 0) rfl dX12_see_163 (v := 164) (uq_164 (Inv.r hI_N_49 kd_163 rfl 0 rfl rfl)) rfl ?_
              refine kx_bipush 168 F dX12_see_166 (by decide) rfl ?_
              refine kx_iald 169 F kd_164 rfl rfl (by omega) (by decide) dX12_see_168 (v := (M 164 7)) (by rw [hM_N_49, mu_i (by omega), hM_N_47, mu_i (by omega), hM_N_45, mu_i (by omega), hM_N_41, mu_i (by omega), Fr.e hG_N_18 kd_164 _ rfl]) rfl ?_
              refine kx_aload_n 170 F 0 dX12_see_169 rfl rfl rfl ?_
              refine kx_iload_n 171 F 2 dX12_see_170 rfl rfl rfl ?_
              refine kx_iload_n 172 F 1 dX12_see_171 rfl rfl rfl ?_
              refine kx_bipush 174 F dX12_see_172 (by decide) rfl ?_
              refine kx_Vi 177 (ci := 0) F (As := [vI (M 164 4), vI a1, vI 7]) (st := [vI (M 164 7), vI 7, vR G 164]) vd_X12_323 (c_X12_leads G l N_49 (M 164 4) a1 7 hI_N_49 (by omega)) kd_163 rfl rfl rfl ⟨by decide, by decide⟩ rfl rfl (Nat.le_of_ble_eq_true rfl) dX12_see_174 rfl ?_
              intro r_50 N_51 q_52
              obtain ⟨rfl, q_52c⟩ := q_52
              refine kx_Si 180 F (As := [vI (M 164 7), vI r_50]) (st := [vI 7, vR G 164]) sd_X12_332 (c_X12_image G l N_49 (M 164 7) r_50 hI_N_49 (by omega)) ⟨by decide, by decide⟩ rfl rfl (Nat.le_of_ble_eq_true rfl) dX12_see_177 rfl ?_
              intro r_53 N_54 q_55
              obtain ⟨rfl, q_55c⟩ := q_55
              refine kx_iast 181 F kd_164 rfl rfl (by omega) (by decide) dX12_see_180 rfl ?_
              intro N_56 hM_N_56
              have hI_N_56 : Inv true N_56 := Inv.u hI_N_49 hM_N_56 kd_164 (a := 0) (b := 7) ha_39.1 ha_39.2 rfl (by omega)
              have hF_N_56 : Fr f_c_X12_see M N_56 := Fr.u hF_N_49 hM_N_56 kd_164 rfl
              refine kx_aload_n 182 F 0 dX12_see_181 rfl rfl rfl ?_
              refine kx_getr 185 F fl_X12_7 kd_163 rfl rfl (j := 0) rfl dX12_see_182 (v := 164) (uq_164 (Inv.r hI_N_56 kd_163 rfl 0 rfl rfl)) rfl ?_
              refine kx_bipush 187 F dX12_see_185 (by decide) rfl ?_
              refine kx_aload_n 188 F 0 dX12_see_187 rfl rfl rfl ?_
              refine kx_iload_n 189 F 2 dX12_see_188 rfl rfl rfl ?_
              refine kx_Vi 192 (ci := 0) F (As := [vI (M 164 4)]) (st := [vI 8, vR G 164]) vd_X12_329 (c_X12_same G l N_56 (M 164 4) hI_N_56 (by omega)) kd_163 rfl rfl rfl ⟨by decide, by decide⟩ rfl rfl (Nat.le_of_ble_eq_true rfl) dX12_see_189 rfl ?_
              intro r_57 N_58 q_59
              obtain ⟨rfl, q_59c⟩ := q_59
              refine kx_iast 193 F kd_164 rfl rfl (by omega) (by decide) dX12_see_192 rfl ?_
              intro N_60 hM_N_60
              have hI_N_60 : Inv true N_60 := Inv.u hI_N_56 hM_N_60 kd_164 (a := 0) (b := 511) ha_43.1 ha_43.2 rfl (by omega)
              have hF_N_60 : Fr f_c_X12_see M N_60 := Fr.u hF_N_56 hM_N_60 kd_164 rfl
              refine kx_goto 255 F dX12_see_193 (by decide) ?_
              refine kx_aload_n 256 F 0 dX12_see_255 rfl rfl rfl ?_
              refine kx_getr 259 F fl_X12_7 kd_163 rfl rfl (j := 0) rfl dX12_see_256 (v := 164) (uq_164 (Inv.r hI_N_60 kd_163 rfl 0 rfl rfl)) rfl ?_
              refine kx_iconst 260 F dX12_see_259 rfl ?_
              refine kx_dup2 261 F dX12_see_260 rfl rfl rfl ?_
              refine kx_iald 262 F kd_164 rfl rfl (by omega) (by decide) dX12_see_261 (v := (M 164 5)) (by rw [hM_N_60, mu_i (by omega), hM_N_56, mu_i (by omega), hM_N_49, mu_i (by omega), hM_N_47, mu_i (by omega), hM_N_45, mu_i (by omega), hM_N_41, mu_i (by omega), Fr.e hG_N_18 kd_164 _ rfl]) rfl ?_
              have ha_61 : atlo 5 = (-2147483648) ∧ athi 5 = 2147483647 := at_c 5 0 (o := 5) (lo := (-2147483648)) (hi := 2147483647) (by omega) (by decide) (by decide) (by decide)
              have h_62 := Inv.g hI_M kd_164 rfl 5 (a := (-2147483648)) (b := 2147483647) ha_61.1 ha_61.2
              refine kx_iconst 263 F dX12_see_262 rfl ?_
              refine kx_iadd 264 F (v := (M 164 5) + 1) dX12_see_263 rfl rfl ?_
              refine kx_wrapi (fun w_63 h_64 _ => ?_)
              refine kx_iast 265 F kd_164 rfl rfl (by omega) (by decide) dX12_see_264 rfl ?_
              intro N_65 hM_N_65
              have hI_N_65 : Inv true N_65 := Inv.u hI_N_60 hM_N_65 kd_164 (a := (-2147483648)) (b := 2147483647) ha_61.1 ha_61.2 rfl (by omega)
              have hF_N_65 : Fr f_c_X12_see M N_65 := Fr.u hF_N_60 hM_N_65 kd_164 rfl
              refine kx_aload_n 266 F 0 dX12_see_265 rfl rfl rfl ?_
              refine kx_aload_n 267 F 0 dX12_see_266 rfl rfl rfl ?_
              have e_66 : (N_65 164 4) = (M 164 4) := by rw [hM_N_65, mu_i (by omega), hM_N_60, mu_i (by omega), hM_N_56, mu_i (by omega), hM_N_49, mu_i (by omega), hM_N_47, mu_i (by omega), hM_N_45, mu_i (by omega), hM_N_41, mu_i (by omega), Fr.e hG_N_18 kd_164 _ rfl]
              refine kx_Vi 270 (ci := 0) F (As := []) (st := [vR G 163]) vd_X12_522 (c_X12_isTakenNow G l N_65  hI_N_65 (by omega)) kd_163 rfl rfl rfl ⟨by decide, by decide⟩ rfl rfl (Nat.le_of_ble_eq_true rfl) dX12_see_267 rfl ?_
              intro r_67 N_68 q_69
              obtain ⟨rfl, q_69c⟩ := q_69
              refine kx_Vi 273 (ci := 0) F (As := [vI r_67]) (st := []) vd_X12_127 (c_X12_gives G l N_65 r_67 hI_N_65 (by omega)) kd_163 rfl rfl rfl ⟨by decide, by decide⟩ rfl rfl (Nat.le_of_ble_eq_true rfl) dX12_see_270 rfl ?_
              intro r_70 N_71 q_72
              obtain ⟨hI_N_71, hG_N_71, q_72c⟩ := q_72
              have hF_N_71 : Fr f_c_X12_see M N_71 := Fr.c hF_N_65 hG_N_71 rfl
              refine kx_topi (e' := r_67) (by omega) ?_
              exact kx_iret F hQ ⟨hI_N_71, hF_N_71, (by omega), (YY.fr (YY.sta (YY.sta (YY.sta (YY.sta (YY.sta (YY.sta (YY.sta (YY.fr hY hG_N_18 rfl) hI_N_18 hM_N_41 (by omega)) hI_N_41 hM_N_45 (by omega)) hI_N_45 hM_N_47 (by omega)) hI_N_47 hM_N_49 (by omega)) hI_N_49 hM_N_56 (by omega)) hI_N_56 hM_N_60 (by omega)) hI_N_60 hM_N_65 (by omega)) hG_N_71 rfl)⟩ dX12_see_273
          · exfalso; omega
          · exfalso; omega
        · refine kx_aload_n 54 F 0 dX12_see_53 rfl rfl rfl ?_
          refine kx_iconst 55 F dX12_see_54 rfl ?_
          refine kx_Vi 58 (ci := 0) F (As := [vI 4]) (st := []) vd_X12_123 (c_X12_refuse G l M 4 hI_M (by omega)) kd_163 rfl rfl rfl ⟨by decide, by decide⟩ rfl rfl (Nat.le_of_ble_eq_true rfl) dX12_see_55 rfl ?_
          intro r_73 N_74 q_75
          obtain ⟨hI_N_74, hG_N_74, q_75c⟩ := q_75
          have hF_N_74 : Fr f_c_X12_see M N_74 := Fr.c hF_M hG_N_74 rfl
          subst q_75c
          exact kx_iret F hQ ⟨hI_N_74, hF_N_74, (by omega), (YY.fr hY hG_N_74 rfl)⟩ dX12_see_58
      · refine kx_if_ne 41 F 59 dX12_see_38 (by decide) rfl (by omega) (fun h_76 => ?_) (fun h_76 => (by exfalso; omega))
        refine kx_aload_n 60 F 0 dX12_see_59 rfl rfl rfl ?_
        refine kx_Vv 63 (ci := 0) F (As := []) (st := []) vd_X12_342 (c_X12_laysRules G l M  hI_M) kd_163 rfl rfl rfl ⟨by decide, by decide⟩ rfl rfl (Nat.le_of_ble_eq_true rfl) dX12_see_60 rfl ?_
        intro N_77 q_78
        obtain ⟨hI_N_77, hG_N_77⟩ := q_78
        have hF_N_77 : Fr f_c_X12_see M N_77 := Fr.c hF_M hG_N_77 rfl
        refine kx_aload_n 64 F 0 dX12_see_63 rfl rfl rfl ?_
        refine kx_iload_n 65 F 1 dX12_see_64 rfl rfl rfl ?_
        refine kx_Vi 68 (ci := 0) F (As := [vI a1]) (st := []) vd_X12_297 (c_sortNowE G l N_77 a1 hI_N_77 (by omega)) kd_163 rfl rfl rfl ⟨by decide, by decide⟩ rfl rfl (Nat.le_of_ble_eq_true rfl) dX12_see_65 rfl ?_
        intro r_79 N_80 q_81
        obtain ⟨rfl, q_81c⟩ := q_81
        have e_82 : (N_77 164 0) = (M 164 0) := by rw [Fr.e hG_N_77 kd_164 _ rfl]
        have e_83 : (N_77 164 0) = (M 164 0) := by rw [Fr.e hG_N_77 kd_164 _ rfl]
        have e_84 : (N_77 164 0) = (M 164 0) := by rw [Fr.e hG_N_77 kd_164 _ rfl]
        have e_85 : (N_77 164 0) = (M 164 0) := by rw [Fr.e hG_N_77 kd_164 _ rfl]
        have e_86 : (N_77 164 0) = (M 164 0) := by rw [Fr.e hG_N_77 kd_164 _ rfl]
        have e_87 : (N_77 164 1) = (M 164 1) := by rw [Fr.e hG_N_77 kd_164 _ rfl]
        have e_88 : (N_77 164 0) = (M 164 0) := by rw [Fr.e hG_N_77 kd_164 _ rfl]
        have e_89 : (N_77 164 1) = (M 164 1) := by rw [Fr.e hG_N_77 kd_164 _ rfl]
        have e_90 : (N_77 164 0) = (M 164 0) := by rw [Fr.e hG_N_77 kd_164 _ rfl]
        have e_91 : (N_77 164 1) = (M 164 1) := by rw [Fr.e hG_N_77 kd_164 _ rfl]
        have e_92 : (N_77 164 0) = (M 164 0) := by rw [Fr.e hG_N_77 kd_164 _ rfl]
        have e_93 : (N_77 164 1) = (M 164 1) := by rw [Fr.e hG_N_77 kd_164 _ rfl]
        rcases q_81c with q_81c | q_81c | q_81c
        · exfalso; omega
        · have h_94 : r_79 = 1 := by omega
          · rw [show vI r_79 = vI 1 by rw [h_94]]
            refine kx_look 196 F (by decide) dX12_see_68 (by decide) rfl (by decide) ?_
            refine kx_aload_n 197 F 0 dX12_see_196 rfl rfl rfl ?_
            refine kx_iload_n 198 F 2 dX12_see_197 rfl rfl rfl ?_
            refine kx_iload_n 199 F 1 dX12_see_198 rfl rfl rfl ?_
            refine kx_Vv 202 (ci := 0) F (As := [vI (M 164 4), vI a1]) (st := []) vd_X12_528 (c_X12_comesBack G l N_77 (M 164 4) a1 hI_N_77 (by omega) (YY.fr hY hG_N_77 rfl)) kd_163 rfl rfl rfl ⟨by decide, by decide⟩ rfl rfl (Nat.le_of_ble_eq_true rfl) dX12_see_199 rfl ?_
            intro N_95 q_96
            obtain ⟨hI_N_95, hG_N_95, q_96c, hy_N_95⟩ := q_96
            have hF_N_95 : Fr f_c_X12_see M N_95 := Fr.c hF_N_77 hG_N_95 rfl
            have e_97 : (N_77 164 4) = (M 164 4) := by rw [Fr.e hG_N_77 kd_164 _ rfl]
            refine kx_goto 255 F dX12_see_202 (by decide) ?_
            refine kx_aload_n 256 F 0 dX12_see_255 rfl rfl rfl ?_
            refine kx_getr 259 F fl_X12_7 kd_163 rfl rfl (j := 0) rfl dX12_see_256 (v := 164) (uq_164 (Inv.r hI_N_95 kd_163 rfl 0 rfl rfl)) rfl ?_
            refine kx_iconst 260 F dX12_see_259 rfl ?_
            refine kx_dup2 261 F dX12_see_260 rfl rfl rfl ?_
            refine kx_iald 262 F kd_164 rfl rfl (by omega) (by decide) dX12_see_261 (v := (N_95 164 5)) rfl rfl ?_
            have ha_98 : atlo 5 = (-2147483648) ∧ athi 5 = 2147483647 := at_c 5 0 (o := 5) (lo := (-2147483648)) (hi := 2147483647) (by omega) (by decide) (by decide) (by decide)
            have h_99 := Inv.g hI_N_95 kd_164 rfl 5 (a := (-2147483648)) (b := 2147483647) ha_98.1 ha_98.2
            refine kx_iconst 263 F dX12_see_262 rfl ?_
            refine kx_iadd 264 F (v := (N_95 164 5) + 1) dX12_see_263 rfl rfl ?_
            refine kx_wrapi (fun w_100 h_101 _ => ?_)
            refine kx_iast 265 F kd_164 rfl rfl (by omega) (by decide) dX12_see_264 rfl ?_
            intro N_102 hM_N_102
            have hI_N_102 : Inv true N_102 := Inv.u hI_N_95 hM_N_102 kd_164 (a := (-2147483648)) (b := 2147483647) ha_98.1 ha_98.2 rfl (by omega)
            have hF_N_102 : Fr f_c_X12_see M N_102 := Fr.u hF_N_95 hM_N_102 kd_164 rfl
            refine kx_aload_n 266 F 0 dX12_see_265 rfl rfl rfl ?_
            refine kx_aload_n 267 F 0 dX12_see_266 rfl rfl rfl ?_
            have e_103 : (N_102 164 4) = (N_95 164 4) := by rw [hM_N_102, mu_i (by omega)]
            refine kx_Vi 270 (ci := 0) F (As := []) (st := [vR G 163]) vd_X12_522 (c_X12_isTakenNow G l N_102  hI_N_102 (by omega)) kd_163 rfl rfl rfl ⟨by decide, by decide⟩ rfl rfl (Nat.le_of_ble_eq_true rfl) dX12_see_267 rfl ?_
            intro r_104 N_105 q_106
            obtain ⟨rfl, q_106c⟩ := q_106
            refine kx_Vi 273 (ci := 0) F (As := [vI r_104]) (st := []) vd_X12_127 (c_X12_gives G l N_102 r_104 hI_N_102 (by omega)) kd_163 rfl rfl rfl ⟨by decide, by decide⟩ rfl rfl (Nat.le_of_ble_eq_true rfl) dX12_see_270 rfl ?_
            intro r_107 N_108 q_109
            obtain ⟨hI_N_108, hG_N_108, q_109c⟩ := q_109
            have hF_N_108 : Fr f_c_X12_see M N_108 := Fr.c hF_N_102 hG_N_108 rfl
            refine kx_topi (e' := r_104) (by omega) ?_
            exact kx_iret F hQ ⟨hI_N_108, hF_N_108, (by omega), (YY.fr (YY.sta hy_N_95 hI_N_95 hM_N_102 (by omega)) hG_N_108 rfl)⟩ dX12_see_273
        · have h_110 : r_79 = 2 := by omega
          · rw [show vI r_79 = vI 2 by rw [h_110]]
            refine kx_look 205 F (by decide) dX12_see_68 (by decide) rfl (by decide) ?_
            refine kx_aload_n 206 F 0 dX12_see_205 rfl rfl rfl ?_
            refine kx_getr 209 F fl_X12_7 kd_163 rfl rfl (j := 0) rfl dX12_see_206 (v := 164) (uq_164 (Inv.r hI_N_77 kd_163 rfl 0 rfl rfl)) rfl ?_
            refine kx_bipush 211 F dX12_see_209 (by decide) rfl ?_
            refine kx_aload_n 212 F 0 dX12_see_211 rfl rfl rfl ?_
            refine kx_getr 215 F fl_X12_7 kd_163 rfl rfl (j := 0) rfl dX12_see_212 (v := 164) (uq_164 (Inv.r hI_N_77 kd_163 rfl 0 rfl rfl)) rfl ?_
            refine kx_bipush 217 F dX12_see_215 (by decide) rfl ?_
            refine kx_iald 218 F kd_164 rfl rfl (by omega) (by decide) dX12_see_217 (v := (M 164 7)) (by rw [Fr.e hG_N_77 kd_164 _ rfl]) rfl ?_
            have ha_111 : atlo 7 = 0 ∧ athi 7 = 7 := at_c 7 0 (o := 7) (lo := 0) (hi := 7) (by omega) (by decide) (by decide) (by decide)
            have h_112 := Inv.g hI_M kd_164 rfl 7 (a := 0) (b := 7) ha_111.1 ha_111.2
            refine kx_aload_n 219 F 0 dX12_see_218 rfl rfl rfl ?_
            refine kx_iload_n 220 F 2 dX12_see_219 rfl rfl rfl ?_
            refine kx_iload_n 221 F 1 dX12_see_220 rfl rfl rfl ?_
            refine kx_bipush 223 F dX12_see_221 (by decide) rfl ?_
            refine kx_Vi 226 (ci := 0) F (As := [vI (M 164 4), vI a1, vI 8]) (st := [vI (M 164 7), vI 7, vR G 164]) vd_X12_323 (c_X12_leads G l N_77 (M 164 4) a1 8 hI_N_77 (by omega)) kd_163 rfl rfl rfl ⟨by decide, by decide⟩ rfl rfl (Nat.le_of_ble_eq_true rfl) dX12_see_223 rfl ?_
            intro r_113 N_114 q_115
            obtain ⟨rfl, q_115c⟩ := q_115
            refine kx_Si 229 F (As := [vI (M 164 7), vI r_113]) (st := [vI 7, vR G 164]) sd_X12_332 (c_X12_image G l N_77 (M 164 7) r_113 hI_N_77 (by omega)) ⟨by decide, by decide⟩ rfl rfl (Nat.le_of_ble_eq_true rfl) dX12_see_226 rfl ?_
            intro r_116 N_117 q_118
            obtain ⟨rfl, q_118c⟩ := q_118
            refine kx_iast 230 F kd_164 rfl rfl (by omega) (by decide) dX12_see_229 rfl ?_
            intro N_119 hM_N_119
            have hI_N_119 : Inv true N_119 := Inv.u hI_N_77 hM_N_119 kd_164 (a := 0) (b := 7) ha_111.1 ha_111.2 rfl (by omega)
            have hF_N_119 : Fr f_c_X12_see M N_119 := Fr.u hF_N_77 hM_N_119 kd_164 rfl
            refine kx_aload_n 231 F 0 dX12_see_230 rfl rfl rfl ?_
            refine kx_getr 234 F fl_X12_7 kd_163 rfl rfl (j := 0) rfl dX12_see_231 (v := 164) (uq_164 (Inv.r hI_N_119 kd_163 rfl 0 rfl rfl)) rfl ?_
            refine kx_bipush 236 F dX12_see_234 (by decide) rfl ?_
            refine kx_aload_n 237 F 0 dX12_see_236 rfl rfl rfl ?_
            refine kx_getr 240 F fl_X12_7 kd_163 rfl rfl (j := 0) rfl dX12_see_237 (v := 164) (uq_164 (Inv.r hI_N_119 kd_163 rfl 0 rfl rfl)) rfl ?_
            refine kx_bipush 242 F dX12_see_240 (by decide) rfl ?_
            refine kx_iald 243 F kd_164 rfl rfl (by omega) (by decide) dX12_see_242 (v := (M 164 8)) (by rw [hM_N_119, mu_i (by omega), Fr.e hG_N_77 kd_164 _ rfl]) rfl ?_
            have ha_120 : atlo 8 = 0 ∧ athi 8 = 511 := at_c 8 0 (o := 8) (lo := 0) (hi := 511) (by omega) (by decide) (by decide) (by decide)
            have h_121 := Inv.g hI_M kd_164 rfl 8 (a := 0) (b := 511) ha_120.1 ha_120.2
            refine kx_aload_n 244 F 0 dX12_see_243 rfl rfl rfl ?_
            refine kx_iload_n 245 F 2 dX12_see_244 rfl rfl rfl ?_
            refine kx_iload_n 246 F 1 dX12_see_245 rfl rfl rfl ?_
            refine kx_bipush 248 F dX12_see_246 (by decide) rfl ?_
            refine kx_Vi 251 (ci := 0) F (As := [vI (M 164 4), vI a1, vI 8]) (st := [vI (M 164 8), vI 8, vR G 164]) vd_X12_323 (c_X12_leads G l N_119 (M 164 4) a1 8 hI_N_119 (by omega)) kd_163 rfl rfl rfl ⟨by decide, by decide⟩ rfl rfl (Nat.le_of_ble_eq_true rfl) dX12_see_248 rfl ?_
            intro r_122 N_123 q_124
            obtain ⟨rfl, q_124c⟩ := q_124
            refine kx_Si 254 F (As := [vI (M 164 8), vI r_122]) (st := [vI 8, vR G 164]) sd_X12_326 (c_X12_then G l N_119 (M 164 8) r_122 hI_N_119 (by omega)) ⟨by decide, by decide⟩ rfl rfl (Nat.le_of_ble_eq_true rfl) dX12_see_251 rfl ?_
            intro r_125 N_126 q_127
            obtain ⟨rfl, q_127c⟩ := q_127
            refine kx_iast 255 F kd_164 rfl rfl (by omega) (by decide) dX12_see_254 rfl ?_
            intro N_128 hM_N_128
            have hI_N_128 : Inv true N_128 := Inv.u hI_N_119 hM_N_128 kd_164 (a := 0) (b := 511) ha_120.1 ha_120.2 rfl (by omega)
            have hF_N_128 : Fr f_c_X12_see M N_128 := Fr.u hF_N_119 hM_N_128 kd_164 rfl
            refine kx_aload_n 256 F 0 dX12_see_255 rfl rfl rfl ?_
            refine kx_getr 259 F fl_X12_7 kd_163 rfl rfl (j := 0) rfl dX12_see_256 (v := 164) (uq_164 (Inv.r hI_N_128 kd_163 rfl 0 rfl rfl)) rfl ?_
            refine kx_iconst 260 F dX12_see_259 rfl ?_
            refine kx_dup2 261 F dX12_see_260 rfl rfl rfl ?_
            refine kx_iald 262 F kd_164 rfl rfl (by omega) (by decide) dX12_see_261 (v := (M 164 5)) (by rw [hM_N_128, mu_i (by omega), hM_N_119, mu_i (by omega), Fr.e hG_N_77 kd_164 _ rfl]) rfl ?_
            have ha_129 : atlo 5 = (-2147483648) ∧ athi 5 = 2147483647 := at_c 5 0 (o := 5) (lo := (-2147483648)) (hi := 2147483647) (by omega) (by decide) (by decide) (by decide)
            have h_130 := Inv.g hI_M kd_164 rfl 5 (a := (-2147483648)) (b := 2147483647) ha_129.1 ha_129.2
            refine kx_iconst 263 F dX12_see_262 rfl ?_
            refine kx_iadd 264 F (v := (M 164 5) + 1) dX12_see_263 rfl rfl ?_
            refine kx_wrapi (fun w_131 h_132 _ => ?_)
            refine kx_iast 265 F kd_164 rfl rfl (by omega) (by decide) dX12_see_264 rfl ?_
            intro N_133 hM_N_133
            have hI_N_133 : Inv true N_133 := Inv.u hI_N_128 hM_N_133 kd_164 (a := (-2147483648)) (b := 2147483647) ha_129.1 ha_129.2 rfl (by omega)
            have hF_N_133 : Fr f_c_X12_see M N_133 := Fr.u hF_N_128 hM_N_133 kd_164 rfl
            refine kx_aload_n 266 F 0 dX12_see_265 rfl rfl rfl ?_
            refine kx_aload_n 267 F 0 dX12_see_266 rfl rfl rfl ?_
            have e_134 : (N_133 164 4) = (M 164 4) := by rw [hM_N_133, mu_i (by omega), hM_N_128, mu_i (by omega), hM_N_119, mu_i (by omega), Fr.e hG_N_77 kd_164 _ rfl]
            refine kx_Vi 270 (ci := 0) F (As := []) (st := [vR G 163]) vd_X12_522 (c_X12_isTakenNow G l N_133  hI_N_133 (by omega)) kd_163 rfl rfl rfl ⟨by decide, by decide⟩ rfl rfl (Nat.le_of_ble_eq_true rfl) dX12_see_267 rfl ?_
            intro r_135 N_136 q_137
            obtain ⟨rfl, q_137c⟩ := q_137
            refine kx_Vi 273 (ci := 0) F (As := [vI r_135]) (st := []) vd_X12_127 (c_X12_gives G l N_133 r_135 hI_N_133 (by omega)) kd_163 rfl rfl rfl ⟨by decide, by decide⟩ rfl rfl (Nat.le_of_ble_eq_true rfl) dX12_see_270 rfl ?_
            intro r_138 N_139 q_140
            obtain ⟨hI_N_139, hG_N_139, q_140c⟩ := q_140
            have hF_N_139 : Fr f_c_X12_see M N_139 := Fr.c hF_N_133 hG_N_139 rfl
            refine kx_topi (e' := r_135) (by omega) ?_
            exact kx_iret F hQ ⟨hI_N_139, hF_N_139, (by omega), (YY.fr (YY.sta (YY.sta (YY.sta (YY.fr hY hG_N_77 rfl) hI_N_77 hM_N_119 (by omega)) hI_N_119 hM_N_128 (by omega)) hI_N_128 hM_N_133 (by omega)) hG_N_139 rfl)⟩ dX12_see_273
      · refine kx_if_ne 41 F 59 dX12_see_38 (by decide) rfl (by omega) (fun h_141 => ?_) (fun h_141 => (by exfalso; omega))
        refine kx_aload_n 60 F 0 dX12_see_59 rfl rfl rfl ?_
        refine kx_Vv 63 (ci := 0) F (As := []) (st := []) vd_X12_342 (c_X12_laysRules G l M  hI_M) kd_163 rfl rfl rfl ⟨by decide, by decide⟩ rfl rfl (Nat.le_of_ble_eq_true rfl) dX12_see_60 rfl ?_
        intro N_142 q_143
        obtain ⟨hI_N_142, hG_N_142⟩ := q_143
        have hF_N_142 : Fr f_c_X12_see M N_142 := Fr.c hF_M hG_N_142 rfl
        refine kx_aload_n 64 F 0 dX12_see_63 rfl rfl rfl ?_
        refine kx_iload_n 65 F 1 dX12_see_64 rfl rfl rfl ?_
        refine kx_Vi 68 (ci := 0) F (As := [vI a1]) (st := []) vd_X12_297 (c_sortNowE G l N_142 a1 hI_N_142 (by omega)) kd_163 rfl rfl rfl ⟨by decide, by decide⟩ rfl rfl (Nat.le_of_ble_eq_true rfl) dX12_see_65 rfl ?_
        intro r_144 N_145 q_146
        obtain ⟨rfl, q_146c⟩ := q_146
        have e_147 : (N_142 164 0) = (M 164 0) := by rw [Fr.e hG_N_142 kd_164 _ rfl]
        have e_148 : (N_142 164 0) = (M 164 0) := by rw [Fr.e hG_N_142 kd_164 _ rfl]
        have e_149 : (N_142 164 0) = (M 164 0) := by rw [Fr.e hG_N_142 kd_164 _ rfl]
        have e_150 : (N_142 164 0) = (M 164 0) := by rw [Fr.e hG_N_142 kd_164 _ rfl]
        have e_151 : (N_142 164 0) = (M 164 0) := by rw [Fr.e hG_N_142 kd_164 _ rfl]
        have e_152 : (N_142 164 1) = (M 164 1) := by rw [Fr.e hG_N_142 kd_164 _ rfl]
        have e_153 : (N_142 164 0) = (M 164 0) := by rw [Fr.e hG_N_142 kd_164 _ rfl]
        have e_154 : (N_142 164 1) = (M 164 1) := by rw [Fr.e hG_N_142 kd_164 _ rfl]
        have e_155 : (N_142 164 0) = (M 164 0) := by rw [Fr.e hG_N_142 kd_164 _ rfl]
        have e_156 : (N_142 164 1) = (M 164 1) := by rw [Fr.e hG_N_142 kd_164 _ rfl]
        have e_157 : (N_142 164 0) = (M 164 0) := by rw [Fr.e hG_N_142 kd_164 _ rfl]
        have e_158 : (N_142 164 1) = (M 164 1) := by rw [Fr.e hG_N_142 kd_164 _ rfl]
        rcases q_146c with q_146c | q_146c | q_146c
        · exfalso; omega
        · have h_159 : r_144 = 1 := by omega
          · rw [show vI r_144 = vI 1 by rw [h_159]]
            refine kx_look 196 F (by decide) dX12_see_68 (by decide) rfl (by decide) ?_
            refine kx_aload_n 197 F 0 dX12_see_196 rfl rfl rfl ?_
            refine kx_iload_n 198 F 2 dX12_see_197 rfl rfl rfl ?_
            refine kx_iload_n 199 F 1 dX12_see_198 rfl rfl rfl ?_
            refine kx_Vv 202 (ci := 0) F (As := [vI (M 164 4), vI a1]) (st := []) vd_X12_528 (c_X12_comesBack G l N_142 (M 164 4) a1 hI_N_142 (by omega) (YY.fr hY hG_N_142 rfl)) kd_163 rfl rfl rfl ⟨by decide, by decide⟩ rfl rfl (Nat.le_of_ble_eq_true rfl) dX12_see_199 rfl ?_
            intro N_160 q_161
            obtain ⟨hI_N_160, hG_N_160, q_161c, hy_N_160⟩ := q_161
            have hF_N_160 : Fr f_c_X12_see M N_160 := Fr.c hF_N_142 hG_N_160 rfl
            have e_162 : (N_142 164 4) = (M 164 4) := by rw [Fr.e hG_N_142 kd_164 _ rfl]
            refine kx_goto 255 F dX12_see_202 (by decide) ?_
            refine kx_aload_n 256 F 0 dX12_see_255 rfl rfl rfl ?_
            refine kx_getr 259 F fl_X12_7 kd_163 rfl rfl (j := 0) rfl dX12_see_256 (v := 164) (uq_164 (Inv.r hI_N_160 kd_163 rfl 0 rfl rfl)) rfl ?_
            refine kx_iconst 260 F dX12_see_259 rfl ?_
            refine kx_dup2 261 F dX12_see_260 rfl rfl rfl ?_
            refine kx_iald 262 F kd_164 rfl rfl (by omega) (by decide) dX12_see_261 (v := (N_160 164 5)) rfl rfl ?_
            have ha_163 : atlo 5 = (-2147483648) ∧ athi 5 = 2147483647 := at_c 5 0 (o := 5) (lo := (-2147483648)) (hi := 2147483647) (by omega) (by decide) (by decide) (by decide)
            have h_164 := Inv.g hI_N_160 kd_164 rfl 5 (a := (-2147483648)) (b := 2147483647) ha_163.1 ha_163.2
            refine kx_iconst 263 F dX12_see_262 rfl ?_
            refine kx_iadd 264 F (v := (N_160 164 5) + 1) dX12_see_263 rfl rfl ?_
            refine kx_wrapi (fun w_165 h_166 _ => ?_)
            refine kx_iast 265 F kd_164 rfl rfl (by omega) (by decide) dX12_see_264 rfl ?_
            intro N_167 hM_N_167
            have hI_N_167 : Inv true N_167 := Inv.u hI_N_160 hM_N_167 kd_164 (a := (-2147483648)) (b := 2147483647) ha_163.1 ha_163.2 rfl (by omega)
            have hF_N_167 : Fr f_c_X12_see M N_167 := Fr.u hF_N_160 hM_N_167 kd_164 rfl
            refine kx_aload_n 266 F 0 dX12_see_265 rfl rfl rfl ?_
            refine kx_aload_n 267 F 0 dX12_see_266 rfl rfl rfl ?_
            have e_168 : (N_167 164 4) = (N_160 164 4) := by rw [hM_N_167, mu_i (by omega)]
            refine kx_Vi 270 (ci := 0) F (As := []) (st := [vR G 163]) vd_X12_522 (c_X12_isTakenNow G l N_167  hI_N_167 (by omega)) kd_163 rfl rfl rfl ⟨by decide, by decide⟩ rfl rfl (Nat.le_of_ble_eq_true rfl) dX12_see_267 rfl ?_
            intro r_169 N_170 q_171
            obtain ⟨rfl, q_171c⟩ := q_171
            refine kx_Vi 273 (ci := 0) F (As := [vI r_169]) (st := []) vd_X12_127 (c_X12_gives G l N_167 r_169 hI_N_167 (by omega)) kd_163 rfl rfl rfl ⟨by decide, by decide⟩ rfl rfl (Nat.le_of_ble_eq_true rfl) dX12_see_270 rfl ?_
            intro r_172 N_173 q_174
            obtain ⟨hI_N_173, hG_N_173, q_174c⟩ := q_174
            have hF_N_173 : Fr f_c_X12_see M N_173 := Fr.c hF_N_167 hG_N_173 rfl
            refine kx_topi (e' := r_169) (by omega) ?_
            exact kx_iret F hQ ⟨hI_N_173, hF_N_173, (by omega), (YY.fr (YY.sta hy_N_160 hI_N_160 hM_N_167 (by omega)) hG_N_173 rfl)⟩ dX12_see_273
        · have h_175 : r_144 = 2 := by omega
          · rw [show vI r_144 = vI 2 by rw [h_175]]
            refine kx_look 205 F (by decide) dX12_see_68 (by decide) rfl (by decide) ?_
            refine kx_aload_n 206 F 0 dX12_see_205 rfl rfl rfl ?_
            refine kx_getr 209 F fl_X12_7 kd_163 rfl rfl (j := 0) rfl dX12_see_206 (v := 164) (uq_164 (Inv.r hI_N_142 kd_163 rfl 0 rfl rfl)) rfl ?_
            refine kx_bipush 211 F dX12_see_209 (by decide) rfl ?_
            refine kx_aload_n 212 F 0 dX12_see_211 rfl rfl rfl ?_
            refine kx_getr 215 F fl_X12_7 kd_163 rfl rfl (j := 0) rfl dX12_see_212 (v := 164) (uq_164 (Inv.r hI_N_142 kd_163 rfl 0 rfl rfl)) rfl ?_
            refine kx_bipush 217 F dX12_see_215 (by decide) rfl ?_
            refine kx_iald 218 F kd_164 rfl rfl (by omega) (by decide) dX12_see_217 (v := (M 164 7)) (by rw [Fr.e hG_N_142 kd_164 _ rfl]) rfl ?_
            have ha_176 : atlo 7 = 0 ∧ athi 7 = 7 := at_c 7 0 (o := 7) (lo := 0) (hi := 7) (by omega) (by decide) (by decide) (by decide)
            have h_177 := Inv.g hI_M kd_164 rfl 7 (a := 0) (b := 7) ha_176.1 ha_176.2
            refine kx_aload_n 219 F 0 dX12_see_218 rfl rfl rfl ?_
            refine kx_iload_n 220 F 2 dX12_see_219 rfl rfl rfl ?_
            refine kx_iload_n 221 F 1 dX12_see_220 rfl rfl rfl ?_
            refine kx_bipush 223 F dX12_see_221 (by decide) rfl ?_
            refine kx_Vi 226 (ci := 0) F (As := [vI (M 164 4), vI a1, vI 8]) (st := [vI (M 164 7), vI 7, vR G 164]) vd_X12_323 (c_X12_leads G l N_142 (M 164 4) a1 8 hI_N_142 (by omega)) kd_163 rfl rfl rfl ⟨by decide, by decide⟩ rfl rfl (Nat.le_of_ble_eq_true rfl) dX12_see_223 rfl ?_
            intro r_178 N_179 q_180
            obtain ⟨rfl, q_180c⟩ := q_180
            refine kx_Si 229 F (As := [vI (M 164 7), vI r_178]) (st := [vI 7, vR G 164]) sd_X12_332 (c_X12_image G l N_142 (M 164 7) r_178 hI_N_142 (by omega)) ⟨by decide, by decide⟩ rfl rfl (Nat.le_of_ble_eq_true rfl) dX12_see_226 rfl ?_
            intro r_181 N_182 q_183
            obtain ⟨rfl, q_183c⟩ := q_183
            refine kx_iast 230 F kd_164 rfl rfl (by omega) (by decide) dX12_see_229 rfl ?_
            intro N_184 hM_N_184
            have hI_N_184 : Inv true N_184 := Inv.u hI_N_142 hM_N_184 kd_164 (a := 0) (b := 7) ha_176.1 ha_176.2 rfl (by omega)
            have hF_N_184 : Fr f_c_X12_see M N_184 := Fr.u hF_N_142 hM_N_184 kd_164 rfl
            refine kx_aload_n 231 F 0 dX12_see_230 rfl rfl rfl ?_
            refine kx_getr 234 F fl_X12_7 kd_163 rfl rfl (j := 0) rfl dX12_see_231 (v := 164) (uq_164 (Inv.r hI_N_184 kd_163 rfl 0 rfl rfl)) rfl ?_
            refine kx_bipush 236 F dX12_see_234 (by decide) rfl ?_
            refine kx_aload_n 237 F 0 dX12_see_236 rfl rfl rfl ?_
            refine kx_getr 240 F fl_X12_7 kd_163 rfl rfl (j := 0) rfl dX12_see_237 (v := 164) (uq_164 (Inv.r hI_N_184 kd_163 rfl 0 rfl rfl)) rfl ?_
            refine kx_bipush 242 F dX12_see_240 (by decide) rfl ?_
            refine kx_iald 243 F kd_164 rfl rfl (by omega) (by decide) dX12_see_242 (v := (M 164 8)) (by rw [hM_N_184, mu_i (by omega), Fr.e hG_N_142 kd_164 _ rfl]) rfl ?_
            have ha_185 : atlo 8 = 0 ∧ athi 8 = 511 := at_c 8 0 (o := 8) (lo := 0) (hi := 511) (by omega) (by decide) (by decide) (by decide)
            have h_186 := Inv.g hI_M kd_164 rfl 8 (a := 0) (b := 511) ha_185.1 ha_185.2
            refine kx_aload_n 244 F 0 dX12_see_243 rfl rfl rfl ?_
            refine kx_iload_n 245 F 2 dX12_see_244 rfl rfl rfl ?_
            refine kx_iload_n 246 F 1 dX12_see_245 rfl rfl rfl ?_
            refine kx_bipush 248 F dX12_see_246 (by decide) rfl ?_
            refine kx_Vi 251 (ci := 0) F (As := [vI (M 164 4), vI a1, vI 8]) (st := [vI (M 164 8), vI 8, vR G 164]) vd_X12_323 (c_X12_leads G l N_184 (M 164 4) a1 8 hI_N_184 (by omega)) kd_163 rfl rfl rfl ⟨by decide, by decide⟩ rfl rfl (Nat.le_of_ble_eq_true rfl) dX12_see_248 rfl ?_
            intro r_187 N_188 q_189
            obtain ⟨rfl, q_189c⟩ := q_189
            refine kx_Si 254 F (As := [vI (M 164 8), vI r_187]) (st := [vI 8, vR G 164]) sd_X12_326 (c_X12_then G l N_184 (M 164 8) r_187 hI_N_184 (by omega)) ⟨by decide, by decide⟩ rfl rfl (Nat.le_of_ble_eq_true rfl) dX12_see_251 rfl ?_
            intro r_190 N_191 q_192
            obtain ⟨rfl, q_192c⟩ := q_192
            refine kx_iast 255 F kd_164 rfl rfl (by omega) (by decide) dX12_see_254 rfl ?_
            intro N_193 hM_N_193
            have hI_N_193 : Inv true N_193 := Inv.u hI_N_184 hM_N_193 kd_164 (a := 0) (b := 511) ha_185.1 ha_185.2 rfl (by omega)
            have hF_N_193 : Fr f_c_X12_see M N_193 := Fr.u hF_N_184 hM_N_193 kd_164 rfl
            refine kx_aload_n 256 F 0 dX12_see_255 rfl rfl rfl ?_
            refine kx_getr 259 F fl_X12_7 kd_163 rfl rfl (j := 0) rfl dX12_see_256 (v := 164) (uq_164 (Inv.r hI_N_193 kd_163 rfl 0 rfl rfl)) rfl ?_
            refine kx_iconst 260 F dX12_see_259 rfl ?_
            refine kx_dup2 261 F dX12_see_260 rfl rfl rfl ?_
            refine kx_iald 262 F kd_164 rfl rfl (by omega) (by decide) dX12_see_261 (v := (M 164 5)) (by rw [hM_N_193, mu_i (by omega), hM_N_184, mu_i (by omega), Fr.e hG_N_142 kd_164 _ rfl]) rfl ?_
            have ha_194 : atlo 5 = (-2147483648) ∧ athi 5 = 2147483647 := at_c 5 0 (o := 5) (lo := (-2147483648)) (hi := 2147483647) (by omega) (by decide) (by decide) (by decide)
            have h_195 := Inv.g hI_M kd_164 rfl 5 (a := (-2147483648)) (b := 2147483647) ha_194.1 ha_194.2
            refine kx_iconst 263 F dX12_see_262 rfl ?_
            refine kx_iadd 264 F (v := (M 164 5) + 1) dX12_see_263 rfl rfl ?_
            refine kx_wrapi (fun w_196 h_197 _ => ?_)
            refine kx_iast 265 F kd_164 rfl rfl (by omega) (by decide) dX12_see_264 rfl ?_
            intro N_198 hM_N_198
            have hI_N_198 : Inv true N_198 := Inv.u hI_N_193 hM_N_198 kd_164 (a := (-2147483648)) (b := 2147483647) ha_194.1 ha_194.2 rfl (by omega)
            have hF_N_198 : Fr f_c_X12_see M N_198 := Fr.u hF_N_193 hM_N_198 kd_164 rfl
            refine kx_aload_n 266 F 0 dX12_see_265 rfl rfl rfl ?_
            refine kx_aload_n 267 F 0 dX12_see_266 rfl rfl rfl ?_
            have e_199 : (N_198 164 4) = (M 164 4) := by rw [hM_N_198, mu_i (by omega), hM_N_193, mu_i (by omega), hM_N_184, mu_i (by omega), Fr.e hG_N_142 kd_164 _ rfl]
            refine kx_Vi 270 (ci := 0) F (As := []) (st := [vR G 163]) vd_X12_522 (c_X12_isTakenNow G l N_198  hI_N_198 (by omega)) kd_163 rfl rfl rfl ⟨by decide, by decide⟩ rfl rfl (Nat.le_of_ble_eq_true rfl) dX12_see_267 rfl ?_
            intro r_200 N_201 q_202
            obtain ⟨rfl, q_202c⟩ := q_202
            refine kx_Vi 273 (ci := 0) F (As := [vI r_200]) (st := []) vd_X12_127 (c_X12_gives G l N_198 r_200 hI_N_198 (by omega)) kd_163 rfl rfl rfl ⟨by decide, by decide⟩ rfl rfl (Nat.le_of_ble_eq_true rfl) dX12_see_270 rfl ?_
            intro r_203 N_204 q_205
            obtain ⟨hI_N_204, hG_N_204, q_205c⟩ := q_205
            have hF_N_204 : Fr f_c_X12_see M N_204 := Fr.c hF_N_198 hG_N_204 rfl
            refine kx_topi (e' := r_200) (by omega) ?_
            exact kx_iret F hQ ⟨hI_N_204, hF_N_204, (by omega), (YY.fr (YY.sta (YY.sta (YY.sta (YY.fr hY hG_N_142 rfl) hI_N_142 hM_N_184 (by omega)) hI_N_184 hM_N_193 (by omega)) hI_N_193 hM_N_198 (by omega)) hG_N_204 rfl)⟩ dX12_see_273
    · refine kx_aload_n 27 F 0 dX12_see_26 rfl rfl rfl ?_
      refine kx_bipush 29 F dX12_see_27 (by decide) rfl ?_
      refine kx_Vi 32 (ci := 0) F (As := [vI 6]) (st := []) vd_X12_123 (c_X12_refuse G l M 6 hI_M (by omega)) kd_163 rfl rfl rfl ⟨by decide, by decide⟩ rfl rfl (Nat.le_of_ble_eq_true rfl) dX12_see_29 rfl ?_
      intro r_206 N_207 q_208
      obtain ⟨hI_N_207, hG_N_207, q_208c⟩ := q_208
      have hF_N_207 : Fr f_c_X12_see M N_207 := Fr.c hF_M hG_N_207 rfl
      subst q_208c
      exact kx_iret F hQ ⟨hI_N_207, hF_N_207, (by omega), (YY.fr hY hG_N_207 rfl)⟩ dX12_see_32
  · refine kx_if_ne 15 F 21 dX12_see_12 (by decide) rfl (by omega) (fun h_209 => (by exfalso; omega)) (fun h_209 => ?_)
    refine kx_aload_n 16 F 0 dX12_see_15 rfl rfl rfl ?_
    refine kx_iconst 17 F dX12_see_16 rfl ?_
    refine kx_Vi 20 (ci := 0) F (As := [vI 1]) (st := []) vd_X12_123 (c_X12_refuse G l M 1 hI_M (by omega)) kd_163 rfl rfl rfl ⟨by decide, by decide⟩ rfl rfl (Nat.le_of_ble_eq_true rfl) dX12_see_17 rfl ?_
    intro r_210 N_211 q_212
    obtain ⟨hI_N_211, hG_N_211, q_212c⟩ := q_212
    have hF_N_211 : Fr f_c_X12_see M N_211 := Fr.c hF_M hG_N_211 rfl
    subst q_212c
    exact kx_iret F hQ ⟨hI_N_211, hF_N_211, (by omega), (YY.fr hY hG_N_211 rfl)⟩ dX12_see_20
