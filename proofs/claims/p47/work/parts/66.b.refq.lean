set_option maxHeartbeats 4000000 in
set_option maxRecDepth 100000 in
theorem e_X12_isIn (G : KG) (l : Launch) (M : Mem) (a1 : Int) (a2 : Int) (hI_M : Inv true M) (hpre : -2147483648 ≤ a1 ∧ a1 ≤ 2147483647 ∧ -2147483648 ≤ a2 ∧ a2 ≤ 2147483647) : KC true G l yX12_isIn cX12_isIn 3 (some .boolean) (0, 0) [vR G 163, vI a1, vI a2] M (fun A => kQi true G A (fun (r : Int) (N : Mem) => M = N ∧ ((r = 1 ∧ (zand (zshr a1 a2) 1) = 1) ∨ (r = 0 ∧ (zand (zshr a1 a2) 1) = 0)))) := by
  refine kx_met (lo := [some (vR G 163), some (vI a1), some (vI a2)]) (by decide) (Nat.le_of_ble_eq_true rfl) rfl ?_
  intro X F hQ
  refine kx_iload_n 1 F 1 dX12_isIn_0 rfl rfl rfl ?_
  refine kx_iload_n 2 F 2 dX12_isIn_1 rfl rfl rfl ?_
  refine kx_ishr 3 F (v := (zshr a1 a2)) dX12_isIn_2 rfl rfl ?_
  have h_1 := zshr_rng a1 a2
  refine kx_iconst 4 F dX12_isIn_3 rfl ?_
  refine kx_iand 5 F (v := (zand (zshr a1 a2) 1)) dX12_isIn_4 rfl rfl ?_
  have h_2 := zand_r (a := (zshr a1 a2)) (b := 1) (by omega)
  refine kx_iconst 6 F dX12_isIn_5 rfl ?_
  refine kx_icmp_ne 9 F 13 dX12_isIn_6 (by decide) rfl (by omega) (by decide) (fun h_3 => ?_) (fun h_3 => ?_)
  · refine kx_iconst 14 F dX12_isIn_13 rfl ?_
    exact kx_zret F hQ (by omega) ⟨rfl, (by omega)⟩ dX12_isIn_14
  · refine kx_iconst 10 F dX12_isIn_9 rfl ?_
    refine kx_goto 14 F dX12_isIn_10 (by decide) ?_
    exact kx_zret F hQ (by omega) ⟨rfl, (by omega)⟩ dX12_isIn_14
set_option maxHeartbeats 4000000 in
set_option maxRecDepth 100000 in
theorem e_X12_sortOfN (G : KG) (l : Launch) (M : Mem) (a1 : Int) (a2 : Int) (hI_M : Inv true M) (hpre : -2147483648 ≤ a1 ∧ a1 ≤ 2147483647 ∧ -2147483648 ≤ a2 ∧ a2 ≤ 2147483647 ∧ a1 = 1088) : KC true G l yX12_sortOf cX12_sortOf 3 (some .int) (0, 0) [vR G 163, vI a1, vI a2] M (fun A => kQi true G A (fun (r : Int) (N : Mem) => M = N ∧ ((r = 0 ∧ a2 < (M 164 1088)) ∨ (r = 1 ∧ a2 ≥ (M 164 1088) ∧ a2 < (M 164 1088) + (M 164 1089)) ∨ (r = 2 ∧ a2 ≥ (M 164 1088) + (M 164 1089))))) := by
  refine kx_met (lo := [some (vR G 163), some (vI a1), some (vI a2)]) (by decide) (Nat.le_of_ble_eq_true rfl) rfl ?_
  intro X F hQ
  have e_1 : M 164 a1 = M 164 1088 := by rw [show a1 = 1088 by omega]
  have e_2 : M 164 (a1 + 1) = M 164 1089 := by rw [show a1 + 1 = 1089 by omega]
  refine kx_iload_n 1 F 2 dX12_sortOf_0 rfl rfl rfl ?_
  refine kx_aload_n 2 F 0 dX12_sortOf_1 rfl rfl rfl ?_
  refine kx_getr 5 F fl_X12_7 kd_163 rfl rfl (j := 0) rfl dX12_sortOf_2 (v := 164) (uq_164 (Inv.r hI_M kd_163 rfl 0 rfl rfl)) rfl ?_
  refine kx_iload_n 6 F 1 dX12_sortOf_5 rfl rfl rfl ?_
  refine kx_iald 7 F kd_164 rfl rfl (by omega) (by decide) dX12_sortOf_6 (v := (M 164 a1)) rfl rfl ?_
  have ha_3 : atlo a1 = 0 ∧ athi a1 = 2 := at_c a1 4 (o := 0) (lo := 0) (hi := 2) (by omega) (by decide) (by decide) (by decide)
  have h_4 := Inv.g hI_M kd_164 rfl a1 (a := 0) (b := 2) ha_3.1 ha_3.2
  refine kx_icmp_ge 10 F 14 dX12_sortOf_7 (by decide) rfl (by omega) (by omega) (fun h_5 => ?_) (fun h_5 => ?_)
  · refine kx_iload_n 15 F 2 dX12_sortOf_14 rfl rfl rfl ?_
    refine kx_aload_n 16 F 0 dX12_sortOf_15 rfl rfl rfl ?_
    refine kx_getr 19 F fl_X12_7 kd_163 rfl rfl (j := 0) rfl dX12_sortOf_16 (v := 164) (uq_164 (Inv.r hI_M kd_163 rfl 0 rfl rfl)) rfl ?_
    refine kx_iload_n 20 F 1 dX12_sortOf_19 rfl rfl rfl ?_
    refine kx_iald 21 F kd_164 rfl rfl (by omega) (by decide) dX12_sortOf_20 (v := (M 164 a1)) rfl rfl ?_
    refine kx_aload_n 22 F 0 dX12_sortOf_21 rfl rfl rfl ?_
    refine kx_getr 25 F fl_X12_7 kd_163 rfl rfl (j := 0) rfl dX12_sortOf_22 (v := 164) (uq_164 (Inv.r hI_M kd_163 rfl 0 rfl rfl)) rfl ?_
    refine kx_iload_n 26 F 1 dX12_sortOf_25 rfl rfl rfl ?_
    refine kx_iconst 27 F dX12_sortOf_26 rfl ?_
    refine kx_iadd 28 F (v := a1 + 1) dX12_sortOf_27 rfl rfl ?_
    refine kx_iald 29 F kd_164 rfl rfl (by omega) (by decide) dX12_sortOf_28 (v := (M 164 (a1 + 1))) rfl rfl ?_
    have ha_6 : atlo (a1 + 1) = 0 ∧ athi (a1 + 1) = 2 := at_c (a1 + 1) 4 (o := 1) (lo := 0) (hi := 2) (by omega) (by decide) (by decide) (by decide)
    have h_7 := Inv.g hI_M kd_164 rfl (a1 + 1) (a := 0) (b := 2) ha_6.1 ha_6.2
    refine kx_iadd 30 F (v := (M 164 a1) + (M 164 (a1 + 1))) dX12_sortOf_29 rfl rfl ?_
    refine kx_icmp_ge 33 F 37 dX12_sortOf_30 (by decide) rfl (by omega) (by omega) (fun h_8 => ?_) (fun h_8 => ?_)
    · refine kx_iconst 38 F dX12_sortOf_37 rfl ?_
      exact kx_iret F hQ ⟨rfl, (Or.inr (Or.inr (by omega)))⟩ dX12_sortOf_38
    · refine kx_iconst 34 F dX12_sortOf_33 rfl ?_
      refine kx_goto 38 F dX12_sortOf_34 (by decide) ?_
      exact kx_iret F hQ ⟨rfl, (Or.inr (Or.inl (by omega)))⟩ dX12_sortOf_38
  · refine kx_iconst 11 F dX12_sortOf_10 rfl ?_
    refine kx_goto 38 F dX12_sortOf_11 (by decide) ?_
    exact kx_iret F hQ ⟨rfl, (Or.inl (by omega))⟩ dX12_sortOf_38
set_option maxHeartbeats 4000000 in
set_option maxRecDepth 100000 in
theorem e_X12_isRuleN (G : KG) (l : Launch) (M : Mem) (a1 : Int) (a2 : Int) (a3 : Int) (a4 : Int) (a5 : Int) (a6 : Int) (a7 : Int) (hI_M : Inv true M) (hpre : -2147483648 ≤ a1 ∧ a1 ≤ 2147483647 ∧ -2147483648 ≤ a2 ∧ a2 ≤ 2147483647 ∧ -2147483648 ≤ a3 ∧ a3 ≤ 2147483647 ∧ -2147483648 ≤ a4 ∧ a4 ≤ 2147483647 ∧ -2147483648 ≤ a5 ∧ a5 ≤ 2147483647 ∧ -2147483648 ≤ a6 ∧ a6 ≤ 2147483647 ∧ -2147483648 ≤ a7 ∧ a7 ≤ 2147483647 ∧ a1 = 1088 ∧ 0 ≤ a2 ∧ a2 ≤ 1 ∧ 0 ≤ a3 ∧ a3 ≤ 20) (q : Int → Int) (b : Int) (hT : BT M q b) (hb : b = 100 + 85 * a2) (hm : a3 = q (b + 4)) : KC true G l yX12_isRule cX12_isRule 10 (some .boolean) (2, 43) [vR G 163, vI a1, vI a2, vI a3, vI a4, vI a5, vI a6, vI a7] M (fun A => kQi true G A (fun (r : Int) (N : Mem) => M = N ∧ ((r = 1 ∧ (rq q b a4 a5 a6 a7) = 1) ∨ (r = 0 ∧ (rq q b a4 a5 a6 a7) = 0)))) := by
  refine kx_met (lo := [some (vR G 163), some (vI a1), some (vI a2), some (vI a3), some (vI a4), some (vI a5), some (vI a6), some (vI a7), none, none]) (by decide) (Nat.le_of_ble_eq_true rfl) rfl ?_
  intro X F hQ
  refine kx_iconst 1 F dX12_isRule_0 rfl ?_
  refine kx_istore 3 F 8 (lo' := [some (vR G 163), some (vI a1), some (vI a2), some (vI a3), some (vI a4), some (vI a5), some (vI a6), some (vI a7), some (vI 0), none]) dX12_isRule_1 (by decide) rfl rfl rfl ?_
  have L_142 : ∀ (n_143 : Nat) (x8_141 : Int), RN M q b a4 a5 a6 a7 x8_141 → 0 ≤ x8_141 ∧ x8_141 ≤ 20 → (20 - (x8_141)).toNat = n_143 → KJ true G X M 3 [some (vR G 163), some (vI a1), some (vI a2), some (vI a3), some (vI a4), some (vI a5), some (vI a6), some (vI a7), some (vI x8_141), none] [] := by
    intro n_143
    refine Nat.strongRecOn n_143 ?_
    intro n_143 ih_144 x8_141 hp_147 h_145 hm_146
    refine kx_iload 5 F 8 dX12_isRule_3 rfl rfl ?_
    refine kx_iload_n 6 F 3 dX12_isRule_5 rfl rfl rfl ?_
    refine kx_icmp_ge 9 F 80 dX12_isRule_6 (by decide) rfl (by omega) (by omega) (fun h_148 => ?_) (fun h_148 => ?_)
    · have hd_149 : rq q b a4 a5 a6 a7 = 0 := RN.fin hp_147 (by omega)
      refine kx_iconst 81 F dX12_isRule_80 rfl ?_
      exact kx_zret F hQ (by omega) ⟨rfl, (by omega)⟩ dX12_isRule_81
    · refine kx_iload_n 10 F 1 dX12_isRule_9 rfl rfl rfl ?_
      refine kx_iload_n 11 F 2 dX12_isRule_10 rfl rfl rfl ?_
      refine kx_iload 13 F 8 dX12_isRule_11 rfl rfl ?_
      refine kx_Si 16 F (As := [vI a1, vI a2, vI x8_141]) (st := []) sd_X12_243 (c_X12_ruleRow G l M a1 a2 x8_141 hI_M (by omega)) ⟨by decide, by decide⟩ rfl rfl (Nat.le_of_ble_eq_true rfl) dX12_isRule_13 rfl ?_
      intro r_150 N_151 q_152
      obtain ⟨rfl, q_152c⟩ := q_152
      refine kx_topi (e' := a1 + 85 * a2 + 4 * x8_141 + 105) (by omega) ?_
      refine kx_istore 18 F 9 (lo' := [some (vR G 163), some (vI a1), some (vI a2), some (vI a3), some (vI a4), some (vI a5), some (vI a6), some (vI a7), some (vI x8_141), some (vI (a1 + 85 * a2 + 4 * x8_141 + 105))]) dX12_isRule_16 (by decide) rfl rfl rfl ?_
      have hr_153 := BT.r (k := x8_141) (y0 := a1 + 85 * a2 + 4 * x8_141 + 105) (y1 := a1 + 85 * a2 + 4 * x8_141 + 106) (y2 := a1 + 85 * a2 + 4 * x8_141 + 107) (y3 := a1 + 85 * a2 + 4 * x8_141 + 108) hT (by omega) (by omega) (by omega) (by omega) (by omega) (by omega)
      refine kx_aload_n 19 F 0 dX12_isRule_18 rfl rfl rfl ?_
      refine kx_getr 22 F fl_X12_7 kd_163 rfl rfl (j := 0) rfl dX12_isRule_19 (v := 164) (uq_164 (Inv.r hI_M kd_163 rfl 0 rfl rfl)) rfl ?_
      refine kx_iload 24 F 9 dX12_isRule_22 rfl rfl ?_
      refine kx_iald 25 F kd_164 rfl rfl (by omega) (by decide) dX12_isRule_24 (v := (M 164 (a1 + 85 * a2 + 4 * x8_141 + 105))) rfl rfl ?_
      have ha_154 : atlo (a1 + 85 * a2 + 4 * x8_141 + 105) = 0 ∧ athi (a1 + 85 * a2 + 4 * x8_141 + 105) = 5 := at_r (a1 + 85 * a2 + 4 * x8_141 + 105) 4 a2 x8_141 0 (by omega) (by omega) (by omega) (by decide)
      have h_155 := Inv.g hI_M kd_164 rfl (a1 + 85 * a2 + 4 * x8_141 + 105) (a := 0) (b := 5) ha_154.1 ha_154.2
      refine kx_iload 27 F 4 dX12_isRule_25 rfl rfl ?_
      refine kx_icmp_ne 30 F 74 dX12_isRule_27 (by decide) rfl (by omega) (by omega) (fun h_156 => ?_) (fun h_156 => ?_)
      · refine kx_iinc 77 F 8 (v := x8_141 + 1) (lo' := [some (vR G 163), some (vI a1), some (vI a2), some (vI a3), some (vI a4), some (vI a5), some (vI a6), some (vI a7), some (vI (x8_141 + 1)), some (vI (a1 + 85 * a2 + 4 * x8_141 + 105))]) dX12_isRule_74 rfl (by omega) (by decide) rfl rfl rfl ?_
        refine kx_goto 3 F dX12_isRule_77 (by decide) ?_
        refine kx_drop 9 (lo' := [some (vR G 163), some (vI a1), some (vI a2), some (vI a3), some (vI a4), some (vI a5), some (vI a6), some (vI a7), some (vI (x8_141 + 1)), none]) rfl ?_
        exact ih_144 _ (by omega) (x8_141 + 1) (RN.step hp_147 (by omega)) (by omega) rfl
      · refine kx_aload_n 31 F 0 dX12_isRule_30 rfl rfl rfl ?_
        refine kx_getr 34 F fl_X12_7 kd_163 rfl rfl (j := 0) rfl dX12_isRule_31 (v := 164) (uq_164 (Inv.r hI_M kd_163 rfl 0 rfl rfl)) rfl ?_
        refine kx_iload 36 F 9 dX12_isRule_34 rfl rfl ?_
        refine kx_iconst 37 F dX12_isRule_36 rfl ?_
        refine kx_iadd 38 F (v := a1 + 85 * a2 + 4 * x8_141 + 106) dX12_isRule_37 (by omega) rfl ?_
        refine kx_iald 39 F kd_164 rfl rfl (by omega) (by decide) dX12_isRule_38 (v := (M 164 (a1 + 85 * a2 + 4 * x8_141 + 106))) rfl rfl ?_
        have ha_157 : atlo (a1 + 85 * a2 + 4 * x8_141 + 106) = 0 ∧ athi (a1 + 85 * a2 + 4 * x8_141 + 106) = 2 := at_r (a1 + 85 * a2 + 4 * x8_141 + 106) 4 a2 x8_141 1 (by omega) (by omega) (by omega) (by decide)
        have h_158 := Inv.g hI_M kd_164 rfl (a1 + 85 * a2 + 4 * x8_141 + 106) (a := 0) (b := 2) ha_157.1 ha_157.2
        refine kx_iload 41 F 5 dX12_isRule_39 rfl rfl ?_
        refine kx_icmp_ne 44 F 74 dX12_isRule_41 (by decide) rfl (by omega) (by omega) (fun h_159 => ?_) (fun h_159 => ?_)
        · refine kx_iinc 77 F 8 (v := x8_141 + 1) (lo' := [some (vR G 163), some (vI a1), some (vI a2), some (vI a3), some (vI a4), some (vI a5), some (vI a6), some (vI a7), some (vI (x8_141 + 1)), some (vI (a1 + 85 * a2 + 4 * x8_141 + 105))]) dX12_isRule_74 rfl (by omega) (by decide) rfl rfl rfl ?_
          refine kx_goto 3 F dX12_isRule_77 (by decide) ?_
          refine kx_drop 9 (lo' := [some (vR G 163), some (vI a1), some (vI a2), some (vI a3), some (vI a4), some (vI a5), some (vI a6), some (vI a7), some (vI (x8_141 + 1)), none]) rfl ?_
          exact ih_144 _ (by omega) (x8_141 + 1) (RN.step hp_147 (by omega)) (by omega) rfl
        · refine kx_aload_n 45 F 0 dX12_isRule_44 rfl rfl rfl ?_
          refine kx_getr 48 F fl_X12_7 kd_163 rfl rfl (j := 0) rfl dX12_isRule_45 (v := 164) (uq_164 (Inv.r hI_M kd_163 rfl 0 rfl rfl)) rfl ?_
          refine kx_iload 50 F 9 dX12_isRule_48 rfl rfl ?_
          refine kx_iconst 51 F dX12_isRule_50 rfl ?_
          refine kx_iadd 52 F (v := a1 + 85 * a2 + 4 * x8_141 + 107) dX12_isRule_51 (by omega) rfl ?_
          refine kx_iald 53 F kd_164 rfl rfl (by omega) (by decide) dX12_isRule_52 (v := (M 164 (a1 + 85 * a2 + 4 * x8_141 + 107))) rfl rfl ?_
          have ha_160 : atlo (a1 + 85 * a2 + 4 * x8_141 + 107) = 0 ∧ athi (a1 + 85 * a2 + 4 * x8_141 + 107) = 2 := at_r (a1 + 85 * a2 + 4 * x8_141 + 107) 4 a2 x8_141 2 (by omega) (by omega) (by omega) (by decide)
          have h_161 := Inv.g hI_M kd_164 rfl (a1 + 85 * a2 + 4 * x8_141 + 107) (a := 0) (b := 2) ha_160.1 ha_160.2
          refine kx_iload 55 F 6 dX12_isRule_53 rfl rfl ?_
          refine kx_icmp_ne 58 F 74 dX12_isRule_55 (by decide) rfl (by omega) (by omega) (fun h_162 => ?_) (fun h_162 => ?_)
          · refine kx_iinc 77 F 8 (v := x8_141 + 1) (lo' := [some (vR G 163), some (vI a1), some (vI a2), some (vI a3), some (vI a4), some (vI a5), some (vI a6), some (vI a7), some (vI (x8_141 + 1)), some (vI (a1 + 85 * a2 + 4 * x8_141 + 105))]) dX12_isRule_74 rfl (by omega) (by decide) rfl rfl rfl ?_
            refine kx_goto 3 F dX12_isRule_77 (by decide) ?_
            refine kx_drop 9 (lo' := [some (vR G 163), some (vI a1), some (vI a2), some (vI a3), some (vI a4), some (vI a5), some (vI a6), some (vI a7), some (vI (x8_141 + 1)), none]) rfl ?_
            exact ih_144 _ (by omega) (x8_141 + 1) (RN.step hp_147 (by omega)) (by omega) rfl
          · refine kx_aload_n 59 F 0 dX12_isRule_58 rfl rfl rfl ?_
            refine kx_getr 62 F fl_X12_7 kd_163 rfl rfl (j := 0) rfl dX12_isRule_59 (v := 164) (uq_164 (Inv.r hI_M kd_163 rfl 0 rfl rfl)) rfl ?_
            refine kx_iload 64 F 9 dX12_isRule_62 rfl rfl ?_
            refine kx_iconst 65 F dX12_isRule_64 rfl ?_
            refine kx_iadd 66 F (v := a1 + 85 * a2 + 4 * x8_141 + 108) dX12_isRule_65 (by omega) rfl ?_
            refine kx_iald 67 F kd_164 rfl rfl (by omega) (by decide) dX12_isRule_66 (v := (M 164 (a1 + 85 * a2 + 4 * x8_141 + 108))) rfl rfl ?_
            have ha_163 : atlo (a1 + 85 * a2 + 4 * x8_141 + 108) = (-1) ∧ athi (a1 + 85 * a2 + 4 * x8_141 + 108) = 2 := at_r (a1 + 85 * a2 + 4 * x8_141 + 108) 4 a2 x8_141 3 (by omega) (by omega) (by omega) (by decide)
            have h_164 := Inv.g hI_M kd_164 rfl (a1 + 85 * a2 + 4 * x8_141 + 108) (a := (-1)) (b := 2) ha_163.1 ha_163.2
            refine kx_iload 69 F 7 dX12_isRule_67 rfl rfl ?_
            refine kx_icmp_ne 72 F 74 dX12_isRule_69 (by decide) rfl (by omega) (by omega) (fun h_165 => ?_) (fun h_165 => ?_)
            · refine kx_iinc 77 F 8 (v := x8_141 + 1) (lo' := [some (vR G 163), some (vI a1), some (vI a2), some (vI a3), some (vI a4), some (vI a5), some (vI a6), some (vI a7), some (vI (x8_141 + 1)), some (vI (a1 + 85 * a2 + 4 * x8_141 + 105))]) dX12_isRule_74 rfl (by omega) (by decide) rfl rfl rfl ?_
              refine kx_goto 3 F dX12_isRule_77 (by decide) ?_
              refine kx_drop 9 (lo' := [some (vR G 163), some (vI a1), some (vI a2), some (vI a3), some (vI a4), some (vI a5), some (vI a6), some (vI a7), some (vI (x8_141 + 1)), none]) rfl ?_
              exact ih_144 _ (by omega) (x8_141 + 1) (RN.step hp_147 (by omega)) (by omega) rfl
            · have hd_166 : rq q b a4 a5 a6 a7 = 1 := RN.hit (x := x8_141) (by omega) (by omega) (by omega) (by omega) (by omega)
              refine kx_iconst 73 F dX12_isRule_72 rfl ?_
              exact kx_zret F hQ (by omega) ⟨rfl, (by omega)⟩ dX12_isRule_73
  exact L_142 _ 0 RN.nil (by omega) rfl
