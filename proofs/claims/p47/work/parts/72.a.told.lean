abbrev f_e_X11_told : List (Nat × Int) := [(62, 0)]
set_option maxHeartbeats 4000000 in
set_option maxRecDepth 100000 in
theorem e_X11_told (G : KG) (l : Launch) (M : Mem) (c0 : Int) (a1 : Int) (hI_M : Inv false M) (hk_c0 : kd c0 = 62) (hpre : -2147483648 ≤ a1 ∧ a1 ≤ 2147483647) (q : Int → Int) (hS : zSN M (M c0 5) q) (hU : zSU M (M c0 5) q) : KC false G l yX11_told cX11_told 2 (some .int) (1, 21) [vR G c0, vI a1] M (fun A => kQi false G A (fun (r : Int) (N : Mem) => Inv false N ∧ Fr f_e_X11_told M N ∧ (r ≥ -1 ∧ r ≤ 4) ∧ (zTD q a1 r))) := by
  refine kx_met (lo := [some (vR G c0), some (vI a1)]) (by decide) (Nat.le_of_ble_eq_true rfl) rfl ?_
  intro X F hQ
  have hF_M : Fr f_e_X11_told M M := Fr.rf _ _
  have hk_1 : kd (M c0 5) = 12 := Inv.r hI_M hk_c0 rfl 5 rfl rfl
  have hSn := hS.u
  refine kx_iload_n 1 F 1 dX11_told_0 rfl rfl rfl ?_
  have h_2 : a1 = 0 ∨ a1 = 1 ∨ a1 = 2 ∨ a1 = 3 ∨ (a1 < 0 ∨ 3 < a1) := by omega
  rcases h_2 with h_2 | h_2 | h_2 | h_2 | h_2
  · rw [show vI a1 = vI 0 by rw [h_2]]
    refine kx_tableIn 32 F (by decide) dX11_told_1 (by decide) rfl (by decide) ?_
    refine kx_aload_n 33 F 0 dX11_told_32 rfl rfl rfl ?_
    refine kx_aload_n 34 F 0 dX11_told_33 rfl rfl rfl ?_
    refine kx_getr 37 F fl_X11_26 hk_c0 rfl rfl (j := 5) rfl dX11_told_34 (v := (M c0 5)) rfl rfl ?_
    refine kx_geti 40 F fl_X11_154 hk_1 rfl rfl (j := 0) rfl dX11_told_37 (v := (M (M c0 5) 0)) rfl rfl ?_
    have h_3 := Inv.g hI_M hk_1 rfl 0 (a := 0) (b := 2) rfl rfl
    refine kx_Vi 43 (ci := 0) F (As := [vI (M (M c0 5) 0)]) (st := []) vd_X11_145 (c_X11_answer G l M c0 (M (M c0 5) 0) hI_M hk_c0 (by omega)) hk_c0 rfl rfl rfl ⟨by decide, by decide⟩ rfl rfl (Nat.le_of_ble_eq_true rfl) dX11_told_40 rfl ?_
    intro r_4 N_5 q_6
    obtain ⟨hI_N_5, hG_N_5, q_6c⟩ := q_6
    have hF_N_5 : Fr f_e_X11_told M N_5 := Fr.c hF_M hG_N_5 rfl
    have hqa : q a1 = q 0 := by rw [show a1 = 0 by omega]
    exact kx_iret F hQ ⟨hI_N_5, hF_N_5, (by omega), (Or.inl ⟨by omega, by omega⟩)⟩ dX11_told_43
  · rw [show vI a1 = vI 1 by rw [h_2]]
    refine kx_tableIn 44 F (by decide) dX11_told_1 (by decide) rfl (by decide) ?_
    refine kx_aload_n 45 F 0 dX11_told_44 rfl rfl rfl ?_
    refine kx_aload_n 46 F 0 dX11_told_45 rfl rfl rfl ?_
    refine kx_getr 49 F fl_X11_26 hk_c0 rfl rfl (j := 5) rfl dX11_told_46 (v := (M c0 5)) rfl rfl ?_
    refine kx_geti 52 F fl_X11_157 hk_1 rfl rfl (j := 1) rfl dX11_told_49 (v := (M (M c0 5) 1)) rfl rfl ?_
    have h_7 := Inv.g hI_M hk_1 rfl 1 (a := 0) (b := 4) rfl rfl
    refine kx_aload_n 53 F 0 dX11_told_52 rfl rfl rfl ?_
    refine kx_getr 56 F fl_X11_26 hk_c0 rfl rfl (j := 5) rfl dX11_told_53 (v := (M c0 5)) rfl rfl ?_
    refine kx_geti 59 F fl_X11_154 hk_1 rfl rfl (j := 0) rfl dX11_told_56 (v := (M (M c0 5) 0)) rfl rfl ?_
    have h_8 := Inv.g hI_M hk_1 rfl 0 (a := 0) (b := 2) rfl rfl
    refine kx_isub 60 F (v := (M (M c0 5) 1) - (M (M c0 5) 0)) dX11_told_59 rfl rfl ?_
    refine kx_Vi 63 (ci := 0) F (As := [vI ((M (M c0 5) 1) - (M (M c0 5) 0))]) (st := []) vd_X11_145 (c_X11_answer G l M c0 ((M (M c0 5) 1) - (M (M c0 5) 0)) hI_M hk_c0 (by omega)) hk_c0 rfl rfl rfl ⟨by decide, by decide⟩ rfl rfl (Nat.le_of_ble_eq_true rfl) dX11_told_60 rfl ?_
    intro r_9 N_10 q_11
    obtain ⟨hI_N_10, hG_N_10, q_11c⟩ := q_11
    have hF_N_10 : Fr f_e_X11_told M N_10 := Fr.c hF_M hG_N_10 rfl
    have hqa : q a1 = q 1 := by rw [show a1 = 1 by omega]
    exact kx_iret F hQ ⟨hI_N_10, hF_N_10, (by omega), (Or.inl ⟨by omega, by omega⟩)⟩ dX11_told_63
  · rw [show vI a1 = vI 2 by rw [h_2]]
    refine kx_tableIn 64 F (by decide) dX11_told_1 (by decide) rfl (by decide) ?_
    refine kx_aload_n 65 F 0 dX11_told_64 rfl rfl rfl ?_
    refine kx_aload_n 66 F 0 dX11_told_65 rfl rfl rfl ?_
    refine kx_getr 69 F fl_X11_26 hk_c0 rfl rfl (j := 5) rfl dX11_told_66 (v := (M c0 5)) rfl rfl ?_
    refine kx_geti 72 F fl_X11_160 hk_1 rfl rfl (j := 2) rfl dX11_told_69 (v := (M (M c0 5) 2)) rfl rfl ?_
    have h_12 := Inv.g hI_M hk_1 rfl 2 (a := 0) (b := 6) rfl rfl
    refine kx_aload_n 73 F 0 dX11_told_72 rfl rfl rfl ?_
    refine kx_getr 76 F fl_X11_26 hk_c0 rfl rfl (j := 5) rfl dX11_told_73 (v := (M c0 5)) rfl rfl ?_
    refine kx_geti 79 F fl_X11_157 hk_1 rfl rfl (j := 1) rfl dX11_told_76 (v := (M (M c0 5) 1)) rfl rfl ?_
    have h_13 := Inv.g hI_M hk_1 rfl 1 (a := 0) (b := 4) rfl rfl
    refine kx_isub 80 F (v := (M (M c0 5) 2) - (M (M c0 5) 1)) dX11_told_79 rfl rfl ?_
    refine kx_Vi 83 (ci := 0) F (As := [vI ((M (M c0 5) 2) - (M (M c0 5) 1))]) (st := []) vd_X11_145 (c_X11_answer G l M c0 ((M (M c0 5) 2) - (M (M c0 5) 1)) hI_M hk_c0 (by omega)) hk_c0 rfl rfl rfl ⟨by decide, by decide⟩ rfl rfl (Nat.le_of_ble_eq_true rfl) dX11_told_80 rfl ?_
    intro r_14 N_15 q_16
    obtain ⟨hI_N_15, hG_N_15, q_16c⟩ := q_16
    have hF_N_15 : Fr f_e_X11_told M N_15 := Fr.c hF_M hG_N_15 rfl
    have hqa : q a1 = q 2 := by rw [show a1 = 2 by omega]
    exact kx_iret F hQ ⟨hI_N_15, hF_N_15, (by omega), (Or.inl ⟨by omega, by omega⟩)⟩ dX11_told_83
  · rw [show vI a1 = vI 3 by rw [h_2]]
    refine kx_tableIn 84 F (by decide) dX11_told_1 (by decide) rfl (by decide) ?_
    refine kx_aload_n 85 F 0 dX11_told_84 rfl rfl rfl ?_
    refine kx_aload_n 86 F 0 dX11_told_85 rfl rfl rfl ?_
    refine kx_getr 89 F fl_X11_26 hk_c0 rfl rfl (j := 5) rfl dX11_told_86 (v := (M c0 5)) rfl rfl ?_
    refine kx_geti 92 F fl_X11_142 hk_1 rfl rfl (j := 3) rfl dX11_told_89 (v := (M (M c0 5) 3)) rfl rfl ?_
    have h_17 := Inv.g hI_M hk_1 rfl 3 (a := 0) (b := 2) rfl rfl
    refine kx_Vi 95 (ci := 0) F (As := [vI (M (M c0 5) 3)]) (st := []) vd_X11_145 (c_X11_answer G l M c0 (M (M c0 5) 3) hI_M hk_c0 (by omega)) hk_c0 rfl rfl rfl ⟨by decide, by decide⟩ rfl rfl (Nat.le_of_ble_eq_true rfl) dX11_told_92 rfl ?_
    intro r_18 N_19 q_20
    obtain ⟨hI_N_19, hG_N_19, q_20c⟩ := q_20
    have hF_N_19 : Fr f_e_X11_told M N_19 := Fr.c hF_M hG_N_19 rfl
    have hqa : q a1 = q 3 := by rw [show a1 = 3 by omega]
    exact kx_iret F hQ ⟨hI_N_19, hF_N_19, (by omega), (Or.inl ⟨by omega, by omega⟩)⟩ dX11_told_95
  · refine kx_tableOut 96 F (by omega) dX11_told_1 h_2 (by decide) ?_
    refine kx_aload_n 97 F 0 dX11_told_96 rfl rfl rfl ?_
    refine kx_iconst 98 F dX11_told_97 rfl ?_
    refine kx_Vi 101 (ci := 0) F (As := [vI 1]) (st := []) vd_X11_110 (c_X11_refuse G l M c0 1 hI_M hk_c0 (by omega)) hk_c0 rfl rfl rfl ⟨by decide, by decide⟩ rfl rfl (Nat.le_of_ble_eq_true rfl) dX11_told_98 rfl ?_
    intro r_21 N_22 q_23
    obtain ⟨hI_N_22, hG_N_22, q_23c⟩ := q_23
    have hF_N_22 : Fr f_e_X11_told M N_22 := Fr.c hF_M hG_N_22 rfl
    subst q_23c
    exact kx_iret F hQ ⟨hI_N_22, hF_N_22, (by omega), (Or.inr ⟨fun h => by omega, by omega⟩)⟩ dX11_told_101
set_option maxHeartbeats 4000000 in
set_option maxRecDepth 100000 in
theorem e_X5_has (G : KG) (l : Launch) (M : Mem) (c0 : Int) (a1 : Int) (hI_M : Inv false M) (hk_c0 : kd c0 = 12) (hpre : -2147483648 ≤ a1 ∧ a1 ≤ 2147483647) : KC false G l yX5_has cX5_has 2 (some .boolean) (0, 0) [vR G c0, vI a1] M (fun A => kQi false G A (fun (r : Int) (N : Mem) => M = N ∧ ((r = 1 ∧ 0 ≤ a1 ∧ a1 < (M c0 3)) ∨ (r = 0 ∧ a1 < 0) ∨ (r = 0 ∧ a1 ≥ (M c0 3))))) := by
  refine kx_met (lo := [some (vR G c0), some (vI a1)]) (by decide) (Nat.le_of_ble_eq_true rfl) rfl ?_
  intro X F hQ
  refine kx_iload_n 1 F 1 dX5_has_0 rfl rfl rfl ?_
  refine kx_if_lt 4 F 16 dX5_has_1 (by decide) rfl (by omega) (fun h_1 => ?_) (fun h_1 => ?_)
  · refine kx_iconst 17 F dX5_has_16 rfl ?_
    have h_2 := Inv.g hI_M hk_c0 rfl 3 (a := 0) (b := 2) rfl rfl
    exact kx_zret F hQ (by omega) ⟨rfl, (Or.inr (Or.inl (by omega)))⟩ dX5_has_17
  · refine kx_iload_n 5 F 1 dX5_has_4 rfl rfl rfl ?_
    refine kx_aload_n 6 F 0 dX5_has_5 rfl rfl rfl ?_
    refine kx_geti 9 F fl_X5_38 hk_c0 rfl rfl (j := 3) rfl dX5_has_6 (v := (M c0 3)) rfl rfl ?_
    have h_3 := Inv.g hI_M hk_c0 rfl 3 (a := 0) (b := 2) rfl rfl
    refine kx_icmp_ge 12 F 16 dX5_has_9 (by decide) rfl (by omega) (by omega) (fun h_4 => ?_) (fun h_4 => ?_)
    · refine kx_iconst 17 F dX5_has_16 rfl ?_
      exact kx_zret F hQ (by omega) ⟨rfl, (Or.inr (Or.inr (by omega)))⟩ dX5_has_17
    · refine kx_iconst 13 F dX5_has_12 rfl ?_
      refine kx_goto 17 F dX5_has_13 (by decide) ?_
      exact kx_zret F hQ (by omega) ⟨rfl, (Or.inl (by omega))⟩ dX5_has_17
set_option maxHeartbeats 4000000 in
set_option maxRecDepth 100000 in
theorem e_X0_hasState (G : KG) (l : Launch) (M : Mem) (c0 : Int) (a1 : Int) (hI_M : Inv false M) (hk_c0 : kd c0 = 1) (hpre : -2147483648 ≤ a1 ∧ a1 ≤ 2147483647) : KC false G l yX0_hasState cX0_hasState 2 (some .boolean) (0, 0) [vR G c0, vI a1] M (fun A => kQi false G A (fun (r : Int) (N : Mem) => M = N ∧ ((r = 1 ∧ 0 ≤ a1 ∧ a1 < (M c0 0)) ∨ (r = 0 ∧ a1 < 0) ∨ (r = 0 ∧ a1 ≥ (M c0 0))))) := by
  refine kx_met (lo := [some (vR G c0), some (vI a1)]) (by decide) (Nat.le_of_ble_eq_true rfl) rfl ?_
  intro X F hQ
  refine kx_iload_n 1 F 1 dX0_hasState_0 rfl rfl rfl ?_
  refine kx_if_lt 4 F 16 dX0_hasState_1 (by decide) rfl (by omega) (fun h_1 => ?_) (fun h_1 => ?_)
  · refine kx_iconst 17 F dX0_hasState_16 rfl ?_
    have h_2 := Inv.g hI_M hk_c0 rfl 0 (a := 0) (b := 3) rfl rfl
    exact kx_zret F hQ (by omega) ⟨rfl, (Or.inr (Or.inl (by omega)))⟩ dX0_hasState_17
  · refine kx_iload_n 5 F 1 dX0_hasState_4 rfl rfl rfl ?_
    refine kx_aload_n 6 F 0 dX0_hasState_5 rfl rfl rfl ?_
    refine kx_geti 9 F fl_X0_34 hk_c0 rfl rfl (j := 0) rfl dX0_hasState_6 (v := (M c0 0)) rfl rfl ?_
    have h_3 := Inv.g hI_M hk_c0 rfl 0 (a := 0) (b := 3) rfl rfl
    refine kx_icmp_ge 12 F 16 dX0_hasState_9 (by decide) rfl (by omega) (by omega) (fun h_4 => ?_) (fun h_4 => ?_)
    · refine kx_iconst 17 F dX0_hasState_16 rfl ?_
      exact kx_zret F hQ (by omega) ⟨rfl, (Or.inr (Or.inr (by omega)))⟩ dX0_hasState_17
    · refine kx_iconst 13 F dX0_hasState_12 rfl ?_
      refine kx_goto 17 F dX0_hasState_13 (by decide) ?_
      exact kx_zret F hQ (by omega) ⟨rfl, (Or.inl (by omega))⟩ dX0_hasState_17
set_option maxHeartbeats 4000000 in
set_option maxRecDepth 100000 in
theorem e_X0_hasSymbol (G : KG) (l : Launch) (M : Mem) (c0 : Int) (a1 : Int) (hI_M : Inv false M) (hk_c0 : kd c0 = 1) (hpre : -2147483648 ≤ a1 ∧ a1 ≤ 2147483647) : KC false G l yX0_hasSymbol cX0_hasSymbol 2 (some .boolean) (0, 0) [vR G c0, vI a1] M (fun A => kQi false G A (fun (r : Int) (N : Mem) => M = N ∧ ((r = 1 ∧ 0 ≤ a1 ∧ a1 < (M c0 1)) ∨ (r = 0 ∧ a1 < 0) ∨ (r = 0 ∧ a1 ≥ (M c0 1))))) := by
  refine kx_met (lo := [some (vR G c0), some (vI a1)]) (by decide) (Nat.le_of_ble_eq_true rfl) rfl ?_
  intro X F hQ
  refine kx_iload_n 1 F 1 dX0_hasSymbol_0 rfl rfl rfl ?_
  refine kx_if_lt 4 F 16 dX0_hasSymbol_1 (by decide) rfl (by omega) (fun h_1 => ?_) (fun h_1 => ?_)
  · refine kx_iconst 17 F dX0_hasSymbol_16 rfl ?_
    have h_2 := Inv.g hI_M hk_c0 rfl 1 (a := 0) (b := 3) rfl rfl
    exact kx_zret F hQ (by omega) ⟨rfl, (Or.inr (Or.inl (by omega)))⟩ dX0_hasSymbol_17
  · refine kx_iload_n 5 F 1 dX0_hasSymbol_4 rfl rfl rfl ?_
    refine kx_aload_n 6 F 0 dX0_hasSymbol_5 rfl rfl rfl ?_
    refine kx_geti 9 F fl_X0_37 hk_c0 rfl rfl (j := 1) rfl dX0_hasSymbol_6 (v := (M c0 1)) rfl rfl ?_
    have h_3 := Inv.g hI_M hk_c0 rfl 1 (a := 0) (b := 3) rfl rfl
    refine kx_icmp_ge 12 F 16 dX0_hasSymbol_9 (by decide) rfl (by omega) (by omega) (fun h_4 => ?_) (fun h_4 => ?_)
    · refine kx_iconst 17 F dX0_hasSymbol_16 rfl ?_
      exact kx_zret F hQ (by omega) ⟨rfl, (Or.inr (Or.inr (by omega)))⟩ dX0_hasSymbol_17
    · refine kx_iconst 13 F dX0_hasSymbol_12 rfl ?_
      refine kx_goto 17 F dX0_hasSymbol_13 (by decide) ?_
      exact kx_zret F hQ (by omega) ⟨rfl, (Or.inl (by omega))⟩ dX0_hasSymbol_17
set_option maxHeartbeats 4000000 in
set_option maxRecDepth 100000 in
theorem e_X0_hasRule (G : KG) (l : Launch) (M : Mem) (c0 : Int) (a1 : Int) (hI_M : Inv false M) (hk_c0 : kd c0 = 1) (hpre : -2147483648 ≤ a1 ∧ a1 ≤ 2147483647) : KC false G l yX0_hasRule cX0_hasRule 2 (some .boolean) (0, 0) [vR G c0, vI a1] M (fun A => kQi false G A (fun (r : Int) (N : Mem) => M = N ∧ ((r = 1 ∧ 0 ≤ a1 ∧ a1 < (M c0 4)) ∨ (r = 0 ∧ a1 < 0) ∨ (r = 0 ∧ a1 ≥ (M c0 4))))) := by
  refine kx_met (lo := [some (vR G c0), some (vI a1)]) (by decide) (Nat.le_of_ble_eq_true rfl) rfl ?_
  intro X F hQ
  refine kx_iload_n 1 F 1 dX0_hasRule_0 rfl rfl rfl ?_
  refine kx_if_lt 4 F 16 dX0_hasRule_1 (by decide) rfl (by omega) (fun h_1 => ?_) (fun h_1 => ?_)
  · refine kx_iconst 17 F dX0_hasRule_16 rfl ?_
    have h_2 := Inv.g hI_M hk_c0 rfl 4 (a := 0) (b := 20) rfl rfl
    exact kx_zret F hQ (by omega) ⟨rfl, (Or.inr (Or.inl (by omega)))⟩ dX0_hasRule_17
  · refine kx_iload_n 5 F 1 dX0_hasRule_4 rfl rfl rfl ?_
    refine kx_aload_n 6 F 0 dX0_hasRule_5 rfl rfl rfl ?_
    refine kx_geti 9 F fl_X0_46 hk_c0 rfl rfl (j := 4) rfl dX0_hasRule_6 (v := (M c0 4)) rfl rfl ?_
    have h_3 := Inv.g hI_M hk_c0 rfl 4 (a := 0) (b := 20) rfl rfl
    refine kx_icmp_ge 12 F 16 dX0_hasRule_9 (by decide) rfl (by omega) (by omega) (fun h_4 => ?_) (fun h_4 => ?_)
    · refine kx_iconst 17 F dX0_hasRule_16 rfl ?_
      exact kx_zret F hQ (by omega) ⟨rfl, (Or.inr (Or.inr (by omega)))⟩ dX0_hasRule_17
    · refine kx_iconst 13 F dX0_hasRule_12 rfl ?_
      refine kx_goto 17 F dX0_hasRule_13 (by decide) ?_
      exact kx_zret F hQ (by omega) ⟨rfl, (Or.inl (by omega))⟩ dX0_hasRule_17
abbrev f_e_X11_automaton : List (Nat × Int) := [(62, 0)]
set_option maxHeartbeats 4000000 in
set_option maxRecDepth 100000 in
theorem e_X11_automaton (G : KG) (l : Launch) (M : Mem) (c0 : Int) (a1 : Int) (a2 : Int) (hI_M : Inv false M) (hk_c0 : kd c0 = 62) (hpre : -2147483648 ≤ a1 ∧ a1 ≤ 2147483647 ∧ -2147483648 ≤ a2 ∧ a2 ≤ 2147483647) (q : Int → Int) (hS : zSN M (M c0 5) q) (hU : zSU M (M c0 5) q) : KC false G l yX11_automaton cX11_automaton 4 (some .int) (1, 21) [vR G c0, vI a1, vI a2] M (fun A => kQi false G A (fun (r : Int) (N : Mem) => Inv false N ∧ Fr f_e_X11_automaton M N ∧ (r ≥ -1 ∧ r ≤ 20) ∧ (zAU q a1 a2 r))) := by
  refine kx_met (lo := [some (vR G c0), some (vI a1), some (vI a2), none]) (by decide) (Nat.le_of_ble_eq_true rfl) rfl ?_
  intro X F hQ
  have hF_M : Fr f_e_X11_automaton M M := Fr.rf _ _
  have hk_1 : kd (M c0 5) = 12 := Inv.r hI_M hk_c0 rfl 5 rfl rfl
  have hSn := hS.u
  refine kx_aload_n 1 F 0 dX11_automaton_0 rfl rfl rfl ?_
  refine kx_getr 4 F fl_X11_26 hk_c0 rfl rfl (j := 5) rfl dX11_automaton_1 (v := (M c0 5)) rfl rfl ?_
  refine kx_iload_n 5 F 1 dX11_automaton_4 rfl rfl rfl ?_
  refine kx_Vi 8 (ci := 0) F (As := [vI a1]) (st := []) vd_X11_163 (e_X5_has G l M (M c0 5) a1 hI_M hk_1 (by omega)) hk_1 rfl rfl rfl ⟨by decide, by decide⟩ rfl rfl (Nat.le_of_ble_eq_true rfl) dX11_automaton_5 rfl ?_
  intro r_2 N_3 q_4
  obtain ⟨rfl, q_4c⟩ := q_4
  have h_5 := Inv.g hI_M hk_1 rfl 3 (a := 0) (b := 2) rfl rfl
  rcases q_4c with q_4c | q_4c | q_4c
  · refine kx_if_ne 11 F 17 dX11_automaton_8 (by decide) rfl (by omega) (fun h_7 => ?_) (fun h_7 => (by exfalso; omega))
    refine kx_aload_n 18 F 0 dX11_automaton_17 rfl rfl rfl ?_
    refine kx_getr 21 F fl_X11_26 hk_c0 rfl rfl (j := 5) rfl dX11_automaton_18 (v := (M c0 5)) rfl rfl ?_
    refine kx_iload_n 22 F 1 dX11_automaton_21 rfl rfl rfl ?_
    refine kx_Vr 25 (ci := 0) F (As := [vI a1]) (st := []) vd_X11_164 (c_X5_pickE G l M (M c0 5) a1 hI_M hk_1 (by omega)) hk_1 rfl rfl rfl ⟨by decide, by decide⟩ rfl rfl (Nat.le_of_ble_eq_true rfl) dX11_automaton_22 rfl ?_
    intro r_8 N_9 q_10
    obtain ⟨rfl, hk_11, q_10d⟩ := q_10
    rcases q_10d with ⟨q_10c, rfl⟩ | ⟨q_10c, rfl⟩
    · have hA := hU.1 (by omega)
      have hn0 : M (M (M c0 5) 4) 0 = q (85 * a1 + 100) := hA.n (by decide) (by omega)
      have hn1 : M (M (M c0 5) 4) 1 = q (85 * a1 + 101) := hA.n (by decide) (by omega)
      have hn2 : M (M (M c0 5) 4) 2 = q (85 * a1 + 102) := hA.n (by decide) (by omega)
      have hn3 : M (M (M c0 5) 4) 3 = q (85 * a1 + 103) := hA.n (by decide) (by omega)
      have hn4 : M (M (M c0 5) 4) 4 = q (85 * a1 + 104) := hA.n (by decide) (by omega)
      refine kx_astore_n 26 F 3 (lo' := [some (vR G c0), some (vI a1), some (vI a2), some (vR G (M (M c0 5) 4))]) dX11_automaton_25 rfl (by decide) rfl rfl rfl ?_
      refine kx_iload_n 27 F 2 dX11_automaton_26 rfl rfl rfl ?_
      have h_12 : a2 = 0 ∨ a2 = 1 ∨ a2 = 2 ∨ a2 = 3 ∨ a2 = 4 ∨ (a2 < 0 ∨ 4 < a2) := by omega
      rcases h_12 with h_12 | h_12 | h_12 | h_12 | h_12 | h_12
      · rw [show vI a2 = vI 0 by rw [h_12]]
        refine kx_tableIn 60 F (by decide) dX11_automaton_27 (by decide) rfl (by decide) ?_
        refine kx_aload_n 61 F 0 dX11_automaton_60 rfl rfl rfl ?_
        refine kx_aload_n 62 F 3 dX11_automaton_61 rfl rfl rfl ?_
        refine kx_geti 65 F fl_X11_168 hk_11 rfl rfl (j := 0) rfl dX11_automaton_62 (v := (M (M (M c0 5) 4) 0)) rfl rfl ?_
        have h_13 := Inv.g hI_M hk_11 rfl 0 (a := 0) (b := 3) rfl rfl
        refine kx_Vi 68 (ci := 0) F (As := [vI (M (M (M c0 5) 4) 0)]) (st := []) vd_X11_145 (c_X11_answer G l M c0 (M (M (M c0 5) 4) 0) hI_M hk_c0 (by omega)) hk_c0 rfl rfl rfl ⟨by decide, by decide⟩ rfl rfl (Nat.le_of_ble_eq_true rfl) dX11_automaton_65 rfl ?_
        intro r_14 N_15 q_16
        obtain ⟨hI_N_15, hG_N_15, q_16c⟩ := q_16
        have hF_N_15 : Fr f_e_X11_automaton M N_15 := Fr.c hF_M hG_N_15 rfl
        have hqa : q (85 * a1 + a2 + 100) = q (85 * a1 + 100) := by rw [show 85 * a1 + a2 + 100 = 85 * a1 + 100 by omega]
        exact kx_iret F hQ ⟨hI_N_15, hF_N_15, (by omega), (Or.inl ⟨by omega, by omega⟩)⟩ dX11_automaton_68
      · rw [show vI a2 = vI 1 by rw [h_12]]
        refine kx_tableIn 69 F (by decide) dX11_automaton_27 (by decide) rfl (by decide) ?_
        refine kx_aload_n 70 F 0 dX11_automaton_69 rfl rfl rfl ?_
        refine kx_aload_n 71 F 3 dX11_automaton_70 rfl rfl rfl ?_
        refine kx_geti 74 F fl_X11_173 hk_11 rfl rfl (j := 1) rfl dX11_automaton_71 (v := (M (M (M c0 5) 4) 1)) rfl rfl ?_
        have h_17 := Inv.g hI_M hk_11 rfl 1 (a := 0) (b := 3) rfl rfl
        refine kx_Vi 77 (ci := 0) F (As := [vI (M (M (M c0 5) 4) 1)]) (st := []) vd_X11_145 (c_X11_answer G l M c0 (M (M (M c0 5) 4) 1) hI_M hk_c0 (by omega)) hk_c0 rfl rfl rfl ⟨by decide, by decide⟩ rfl rfl (Nat.le_of_ble_eq_true rfl) dX11_automaton_74 rfl ?_
        intro r_18 N_19 q_20
        obtain ⟨hI_N_19, hG_N_19, q_20c⟩ := q_20
        have hF_N_19 : Fr f_e_X11_automaton M N_19 := Fr.c hF_M hG_N_19 rfl
        have hqa : q (85 * a1 + a2 + 100) = q (85 * a1 + 101) := by rw [show 85 * a1 + a2 + 100 = 85 * a1 + 101 by omega]
        exact kx_iret F hQ ⟨hI_N_19, hF_N_19, (by omega), (Or.inl ⟨by omega, by omega⟩)⟩ dX11_automaton_77
      · rw [show vI a2 = vI 2 by rw [h_12]]
        refine kx_tableIn 78 F (by decide) dX11_automaton_27 (by decide) rfl (by decide) ?_
        refine kx_aload_n 79 F 0 dX11_automaton_78 rfl rfl rfl ?_
        refine kx_aload_n 80 F 3 dX11_automaton_79 rfl rfl rfl ?_
        refine kx_geti 83 F fl_X11_176 hk_11 rfl rfl (j := 2) rfl dX11_automaton_80 (v := (M (M (M c0 5) 4) 2)) rfl rfl ?_
        have h_21 := Inv.g hI_M hk_11 rfl 2 (a := 0) (b := 7) rfl rfl
        refine kx_Vi 86 (ci := 0) F (As := [vI (M (M (M c0 5) 4) 2)]) (st := []) vd_X11_145 (c_X11_answer G l M c0 (M (M (M c0 5) 4) 2) hI_M hk_c0 (by omega)) hk_c0 rfl rfl rfl ⟨by decide, by decide⟩ rfl rfl (Nat.le_of_ble_eq_true rfl) dX11_automaton_83 rfl ?_
        intro r_22 N_23 q_24
        obtain ⟨hI_N_23, hG_N_23, q_24c⟩ := q_24
        have hF_N_23 : Fr f_e_X11_automaton M N_23 := Fr.c hF_M hG_N_23 rfl
        have hqa : q (85 * a1 + a2 + 100) = q (85 * a1 + 102) := by rw [show 85 * a1 + a2 + 100 = 85 * a1 + 102 by omega]
        exact kx_iret F hQ ⟨hI_N_23, hF_N_23, (by omega), (Or.inl ⟨by omega, by omega⟩)⟩ dX11_automaton_86
      · rw [show vI a2 = vI 3 by rw [h_12]]
        refine kx_tableIn 87 F (by decide) dX11_automaton_27 (by decide) rfl (by decide) ?_
        refine kx_aload_n 88 F 0 dX11_automaton_87 rfl rfl rfl ?_
        refine kx_aload_n 89 F 3 dX11_automaton_88 rfl rfl rfl ?_
        refine kx_geti 92 F fl_X11_179 hk_11 rfl rfl (j := 3) rfl dX11_automaton_89 (v := (M (M (M c0 5) 4) 3)) rfl rfl ?_
        have h_25 := Inv.g hI_M hk_11 rfl 3 (a := 0) (b := 7) rfl rfl
        refine kx_Vi 95 (ci := 0) F (As := [vI (M (M (M c0 5) 4) 3)]) (st := []) vd_X11_145 (c_X11_answer G l M c0 (M (M (M c0 5) 4) 3) hI_M hk_c0 (by omega)) hk_c0 rfl rfl rfl ⟨by decide, by decide⟩ rfl rfl (Nat.le_of_ble_eq_true rfl) dX11_automaton_92 rfl ?_
        intro r_26 N_27 q_28
        obtain ⟨hI_N_27, hG_N_27, q_28c⟩ := q_28
        have hF_N_27 : Fr f_e_X11_automaton M N_27 := Fr.c hF_M hG_N_27 rfl
        have hqa : q (85 * a1 + a2 + 100) = q (85 * a1 + 103) := by rw [show 85 * a1 + a2 + 100 = 85 * a1 + 103 by omega]
        exact kx_iret F hQ ⟨hI_N_27, hF_N_27, (by omega), (Or.inl ⟨by omega, by omega⟩)⟩ dX11_automaton_95
      · rw [show vI a2 = vI 4 by rw [h_12]]
        refine kx_tableIn 96 F (by decide) dX11_automaton_27 (by decide) rfl (by decide) ?_
        refine kx_aload_n 97 F 0 dX11_automaton_96 rfl rfl rfl ?_
        refine kx_aload_n 98 F 3 dX11_automaton_97 rfl rfl rfl ?_
        refine kx_geti 101 F fl_X11_182 hk_11 rfl rfl (j := 4) rfl dX11_automaton_98 (v := (M (M (M c0 5) 4) 4)) rfl rfl ?_
        have h_29 := Inv.g hI_M hk_11 rfl 4 (a := 0) (b := 20) rfl rfl
        refine kx_Vi 104 (ci := 0) F (As := [vI (M (M (M c0 5) 4) 4)]) (st := []) vd_X11_145 (c_X11_answer G l M c0 (M (M (M c0 5) 4) 4) hI_M hk_c0 (by omega)) hk_c0 rfl rfl rfl ⟨by decide, by decide⟩ rfl rfl (Nat.le_of_ble_eq_true rfl) dX11_automaton_101 rfl ?_
        intro r_30 N_31 q_32
        obtain ⟨hI_N_31, hG_N_31, q_32c⟩ := q_32
        have hF_N_31 : Fr f_e_X11_automaton M N_31 := Fr.c hF_M hG_N_31 rfl
        have hqa : q (85 * a1 + a2 + 100) = q (85 * a1 + 104) := by rw [show 85 * a1 + a2 + 100 = 85 * a1 + 104 by omega]
        exact kx_iret F hQ ⟨hI_N_31, hF_N_31, (by omega), (Or.inl ⟨by omega, by omega⟩)⟩ dX11_automaton_104
      · refine kx_tableOut 105 F (by omega) dX11_automaton_27 h_12 (by decide) ?_
        refine kx_aload_n 106 F 0 dX11_automaton_105 rfl rfl rfl ?_
        refine kx_iconst 107 F dX11_automaton_106 rfl ?_
        refine kx_Vi 110 (ci := 0) F (As := [vI 1]) (st := []) vd_X11_110 (c_X11_refuse G l M c0 1 hI_M hk_c0 (by omega)) hk_c0 rfl rfl rfl ⟨by decide, by decide⟩ rfl rfl (Nat.le_of_ble_eq_true rfl) dX11_automaton_107 rfl ?_
        intro r_33 N_34 q_35
        obtain ⟨hI_N_34, hG_N_34, q_35c⟩ := q_35
        have hF_N_34 : Fr f_e_X11_automaton M N_34 := Fr.c hF_M hG_N_34 rfl
        subst q_35c
        exact kx_iret F hQ ⟨hI_N_34, hF_N_34, (by omega), (Or.inr ⟨fun h => by omega, by omega⟩)⟩ dX11_automaton_110
    · have hA := hU.2 (by omega)
      have hn0 : M (M (M c0 5) 5) 0 = q (85 * a1 + 100) := hA.n (by decide) (by omega)
      have hn1 : M (M (M c0 5) 5) 1 = q (85 * a1 + 101) := hA.n (by decide) (by omega)
      have hn2 : M (M (M c0 5) 5) 2 = q (85 * a1 + 102) := hA.n (by decide) (by omega)
      have hn3 : M (M (M c0 5) 5) 3 = q (85 * a1 + 103) := hA.n (by decide) (by omega)
      have hn4 : M (M (M c0 5) 5) 4 = q (85 * a1 + 104) := hA.n (by decide) (by omega)
      refine kx_astore_n 26 F 3 (lo' := [some (vR G c0), some (vI a1), some (vI a2), some (vR G (M (M c0 5) 5))]) dX11_automaton_25 rfl (by decide) rfl rfl rfl ?_
      refine kx_iload_n 27 F 2 dX11_automaton_26 rfl rfl rfl ?_
      have h_36 : a2 = 0 ∨ a2 = 1 ∨ a2 = 2 ∨ a2 = 3 ∨ a2 = 4 ∨ (a2 < 0 ∨ 4 < a2) := by omega
      rcases h_36 with h_36 | h_36 | h_36 | h_36 | h_36 | h_36
      · rw [show vI a2 = vI 0 by rw [h_36]]
        refine kx_tableIn 60 F (by decide) dX11_automaton_27 (by decide) rfl (by decide) ?_
        refine kx_aload_n 61 F 0 dX11_automaton_60 rfl rfl rfl ?_
        refine kx_aload_n 62 F 3 dX11_automaton_61 rfl rfl rfl ?_
        refine kx_geti 65 F fl_X11_168 hk_11 rfl rfl (j := 0) rfl dX11_automaton_62 (v := (M (M (M c0 5) 5) 0)) rfl rfl ?_
        have h_37 := Inv.g hI_M hk_11 rfl 0 (a := 0) (b := 3) rfl rfl
        refine kx_Vi 68 (ci := 0) F (As := [vI (M (M (M c0 5) 5) 0)]) (st := []) vd_X11_145 (c_X11_answer G l M c0 (M (M (M c0 5) 5) 0) hI_M hk_c0 (by omega)) hk_c0 rfl rfl rfl ⟨by decide, by decide⟩ rfl rfl (Nat.le_of_ble_eq_true rfl) dX11_automaton_65 rfl ?_
        intro r_38 N_39 q_40
        obtain ⟨hI_N_39, hG_N_39, q_40c⟩ := q_40
        have hF_N_39 : Fr f_e_X11_automaton M N_39 := Fr.c hF_M hG_N_39 rfl
        have hqa : q (85 * a1 + a2 + 100) = q (85 * a1 + 100) := by rw [show 85 * a1 + a2 + 100 = 85 * a1 + 100 by omega]
        exact kx_iret F hQ ⟨hI_N_39, hF_N_39, (by omega), (Or.inl ⟨by omega, by omega⟩)⟩ dX11_automaton_68
      · rw [show vI a2 = vI 1 by rw [h_36]]
        refine kx_tableIn 69 F (by decide) dX11_automaton_27 (by decide) rfl (by decide) ?_
        refine kx_aload_n 70 F 0 dX11_automaton_69 rfl rfl rfl ?_
        refine kx_aload_n 71 F 3 dX11_automaton_70 rfl rfl rfl ?_
        refine kx_geti 74 F fl_X11_173 hk_11 rfl rfl (j := 1) rfl dX11_automaton_71 (v := (M (M (M c0 5) 5) 1)) rfl rfl ?_
        have h_41 := Inv.g hI_M hk_11 rfl 1 (a := 0) (b := 3) rfl rfl
        refine kx_Vi 77 (ci := 0) F (As := [vI (M (M (M c0 5) 5) 1)]) (st := []) vd_X11_145 (c_X11_answer G l M c0 (M (M (M c0 5) 5) 1) hI_M hk_c0 (by omega)) hk_c0 rfl rfl rfl ⟨by decide, by decide⟩ rfl rfl (Nat.le_of_ble_eq_true rfl) dX11_automaton_74 rfl ?_
        intro r_42 N_43 q_44
        obtain ⟨hI_N_43, hG_N_43, q_44c⟩ := q_44
        have hF_N_43 : Fr f_e_X11_automaton M N_43 := Fr.c hF_M hG_N_43 rfl
        have hqa : q (85 * a1 + a2 + 100) = q (85 * a1 + 101) := by rw [show 85 * a1 + a2 + 100 = 85 * a1 + 101 by omega]
        exact kx_iret F hQ ⟨hI_N_43, hF_N_43, (by omega), (Or.inl ⟨by omega, by omega⟩)⟩ dX11_automaton_77
      · rw [show vI a2 = vI 2 by rw [h_36]]
        refine kx_tableIn 78 F (by decide) dX11_automaton_27 (by decide) rfl (by decide) ?_
        refine kx_aload_n 79 F 0 dX11_automaton_78 rfl rfl rfl ?_
        refine kx_aload_n 80 F 3 dX11_automaton_79 rfl rfl rfl ?_
        refine kx_geti 83 F fl_X11_176 hk_11 rfl rfl (j := 2) rfl dX11_automaton_80 (v := (M (M (M c0 5) 5) 2)) rfl rfl ?_
        have h_45 := Inv.g hI_M hk_11 rfl 2 (a := 0) (b := 7) rfl rfl
        refine kx_Vi 86 (ci := 0) F (As := [vI (M (M (M c0 5) 5) 2)]) (st := []) vd_X11_145 (c_X11_answer G l M c0 (M (M (M c0 5) 5) 2) hI_M hk_c0 (by omega)) hk_c0 rfl rfl rfl ⟨by decide, by decide⟩ rfl rfl (Nat.le_of_ble_eq_true rfl) dX11_automaton_83 rfl ?_
        intro r_46 N_47 q_48
        obtain ⟨hI_N_47, hG_N_47, q_48c⟩ := q_48
        have hF_N_47 : Fr f_e_X11_automaton M N_47 := Fr.c hF_M hG_N_47 rfl
        have hqa : q (85 * a1 + a2 + 100) = q (85 * a1 + 102) := by rw [show 85 * a1 + a2 + 100 = 85 * a1 + 102 by omega]
        exact kx_iret F hQ ⟨hI_N_47, hF_N_47, (by omega), (Or.inl ⟨by omega, by omega⟩)⟩ dX11_automaton_86
      · rw [show vI a2 = vI 3 by rw [h_36]]
        refine kx_tableIn 87 F (by decide) dX11_automaton_27 (by decide) rfl (by decide) ?_
        refine kx_aload_n 88 F 0 dX11_automaton_87 rfl rfl rfl ?_
        refine kx_aload_n 89 F 3 dX11_automaton_88 rfl rfl rfl ?_
        refine kx_geti 92 F fl_X11_179 hk_11 rfl rfl (j := 3) rfl dX11_automaton_89 (v := (M (M (M c0 5) 5) 3)) rfl rfl ?_
        have h_49 := Inv.g hI_M hk_11 rfl 3 (a := 0) (b := 7) rfl rfl
        refine kx_Vi 95 (ci := 0) F (As := [vI (M (M (M c0 5) 5) 3)]) (st := []) vd_X11_145 (c_X11_answer G l M c0 (M (M (M c0 5) 5) 3) hI_M hk_c0 (by omega)) hk_c0 rfl rfl rfl ⟨by decide, by decide⟩ rfl rfl (Nat.le_of_ble_eq_true rfl) dX11_automaton_92 rfl ?_
        intro r_50 N_51 q_52
        obtain ⟨hI_N_51, hG_N_51, q_52c⟩ := q_52
        have hF_N_51 : Fr f_e_X11_automaton M N_51 := Fr.c hF_M hG_N_51 rfl
        have hqa : q (85 * a1 + a2 + 100) = q (85 * a1 + 103) := by rw [show 85 * a1 + a2 + 100 = 85 * a1 + 103 by omega]
        exact kx_iret F hQ ⟨hI_N_51, hF_N_51, (by omega), (Or.inl ⟨by omega, by omega⟩)⟩ dX11_automaton_95
      · rw [show vI a2 = vI 4 by rw [h_36]]
        refine kx_tableIn 96 F (by decide) dX11_automaton_27 (by decide) rfl (by decide) ?_
        refine kx_aload_n 97 F 0 dX11_automaton_96 rfl rfl rfl ?_
        refine kx_aload_n 98 F 3 dX11_automaton_97 rfl rfl rfl ?_
        refine kx_geti 101 F fl_X11_182 hk_11 rfl rfl (j := 4) rfl dX11_automaton_98 (v := (M (M (M c0 5) 5) 4)) rfl rfl ?_
        have h_53 := Inv.g hI_M hk_11 rfl 4 (a := 0) (b := 20) rfl rfl
        refine kx_Vi 104 (ci := 0) F (As := [vI (M (M (M c0 5) 5) 4)]) (st := []) vd_X11_145 (c_X11_answer G l M c0 (M (M (M c0 5) 5) 4) hI_M hk_c0 (by omega)) hk_c0 rfl rfl rfl ⟨by decide, by decide⟩ rfl rfl (Nat.le_of_ble_eq_true rfl) dX11_automaton_101 rfl ?_
        intro r_54 N_55 q_56
        obtain ⟨hI_N_55, hG_N_55, q_56c⟩ := q_56
        have hF_N_55 : Fr f_e_X11_automaton M N_55 := Fr.c hF_M hG_N_55 rfl
        have hqa : q (85 * a1 + a2 + 100) = q (85 * a1 + 104) := by rw [show 85 * a1 + a2 + 100 = 85 * a1 + 104 by omega]
        exact kx_iret F hQ ⟨hI_N_55, hF_N_55, (by omega), (Or.inl ⟨by omega, by omega⟩)⟩ dX11_automaton_104
      · refine kx_tableOut 105 F (by omega) dX11_automaton_27 h_36 (by decide) ?_
        refine kx_aload_n 106 F 0 dX11_automaton_105 rfl rfl rfl ?_
        refine kx_iconst 107 F dX11_automaton_106 rfl ?_
        refine kx_Vi 110 (ci := 0) F (As := [vI 1]) (st := []) vd_X11_110 (c_X11_refuse G l M c0 1 hI_M hk_c0 (by omega)) hk_c0 rfl rfl rfl ⟨by decide, by decide⟩ rfl rfl (Nat.le_of_ble_eq_true rfl) dX11_automaton_107 rfl ?_
        intro r_57 N_58 q_59
        obtain ⟨hI_N_58, hG_N_58, q_59c⟩ := q_59
        have hF_N_58 : Fr f_e_X11_automaton M N_58 := Fr.c hF_M hG_N_58 rfl
        subst q_59c
        exact kx_iret F hQ ⟨hI_N_58, hF_N_58, (by omega), (Or.inr ⟨fun h => by omega, by omega⟩)⟩ dX11_automaton_110
  · refine kx_if_ne 11 F 17 dX11_automaton_8 (by decide) rfl (by omega) (fun h_60 => (by exfalso; omega)) (fun h_60 => ?_)
    refine kx_aload_n 12 F 0 dX11_automaton_11 rfl rfl rfl ?_
    refine kx_iconst 13 F dX11_automaton_12 rfl ?_
    refine kx_Vi 16 (ci := 0) F (As := [vI 1]) (st := []) vd_X11_110 (c_X11_refuse G l M c0 1 hI_M hk_c0 (by omega)) hk_c0 rfl rfl rfl ⟨by decide, by decide⟩ rfl rfl (Nat.le_of_ble_eq_true rfl) dX11_automaton_13 rfl ?_
    intro r_61 N_62 q_63
    obtain ⟨hI_N_62, hG_N_62, q_63c⟩ := q_63
    have hF_N_62 : Fr f_e_X11_automaton M N_62 := Fr.c hF_M hG_N_62 rfl
    subst q_63c
    exact kx_iret F hQ ⟨hI_N_62, hF_N_62, (by omega), (Or.inr ⟨fun h => by omega, by omega⟩)⟩ dX11_automaton_16
  · refine kx_if_ne 11 F 17 dX11_automaton_8 (by decide) rfl (by omega) (fun h_64 => (by exfalso; omega)) (fun h_64 => ?_)
    refine kx_aload_n 12 F 0 dX11_automaton_11 rfl rfl rfl ?_
    refine kx_iconst 13 F dX11_automaton_12 rfl ?_
    refine kx_Vi 16 (ci := 0) F (As := [vI 1]) (st := []) vd_X11_110 (c_X11_refuse G l M c0 1 hI_M hk_c0 (by omega)) hk_c0 rfl rfl rfl ⟨by decide, by decide⟩ rfl rfl (Nat.le_of_ble_eq_true rfl) dX11_automaton_13 rfl ?_
    intro r_65 N_66 q_67
    obtain ⟨hI_N_66, hG_N_66, q_67c⟩ := q_67
    have hF_N_66 : Fr f_e_X11_automaton M N_66 := Fr.c hF_M hG_N_66 rfl
    subst q_67c
    exact kx_iret F hQ ⟨hI_N_66, hF_N_66, (by omega), (Or.inr ⟨fun h => by omega, by omega⟩)⟩ dX11_automaton_16
abbrev f_e_X11_rule : List (Nat × Int) := [(62, 0)]
set_option maxHeartbeats 4000000 in
set_option maxRecDepth 100000 in
theorem e_X11_rule (G : KG) (l : Launch) (M : Mem) (c0 : Int) (a1 : Int) (a2 : Int) (a3 : Int) (hI_M : Inv false M) (hk_c0 : kd c0 = 62) (hpre : -2147483648 ≤ a1 ∧ a1 ≤ 2147483647 ∧ -2147483648 ≤ a2 ∧ a2 ≤ 2147483647 ∧ -2147483648 ≤ a3 ∧ a3 ≤ 2147483647) (q : Int → Int) (hS : zSN M (M c0 5) q) (hU : zSU M (M c0 5) q) : KC false G l yX11_rule cX11_rule 5 (some .int) (1, 21) [vR G c0, vI a1, vI a2, vI a3] M (fun A => kQi false G A (fun (r : Int) (N : Mem) => Inv false N ∧ Fr f_e_X11_rule M N ∧ (r ≥ -1 ∧ r ≤ 20) ∧ (zRL q a1 a2 a3 r))) := by
  refine kx_met (lo := [some (vR G c0), some (vI a1), some (vI a2), some (vI a3), none]) (by decide) (Nat.le_of_ble_eq_true rfl) rfl ?_
  intro X F hQ
  have hF_M : Fr f_e_X11_rule M M := Fr.rf _ _
  have hk_1 : kd (M c0 5) = 12 := Inv.r hI_M hk_c0 rfl 5 rfl rfl
  have hSn := hS.u
  refine kx_aload_n 1 F 0 dX11_rule_0 rfl rfl rfl ?_
  refine kx_getr 4 F fl_X11_26 hk_c0 rfl rfl (j := 5) rfl dX11_rule_1 (v := (M c0 5)) rfl rfl ?_
  refine kx_iload_n 5 F 1 dX11_rule_4 rfl rfl rfl ?_
  refine kx_Vi 8 (ci := 0) F (As := [vI a1]) (st := []) vd_X11_163 (e_X5_has G l M (M c0 5) a1 hI_M hk_1 (by omega)) hk_1 rfl rfl rfl ⟨by decide, by decide⟩ rfl rfl (Nat.le_of_ble_eq_true rfl) dX11_rule_5 rfl ?_
  intro r_2 N_3 q_4
  obtain ⟨rfl, q_4c⟩ := q_4
  have h_5 := Inv.g hI_M hk_1 rfl 3 (a := 0) (b := 2) rfl rfl
  rcases q_4c with q_4c | q_4c | q_4c
  · refine kx_if_eq 11 F 26 dX11_rule_8 (by decide) rfl (by omega) (fun h_7 => (by exfalso; omega)) (fun h_7 => ?_)
    refine kx_aload_n 12 F 0 dX11_rule_11 rfl rfl rfl ?_
    refine kx_getr 15 F fl_X11_26 hk_c0 rfl rfl (j := 5) rfl dX11_rule_12 (v := (M c0 5)) rfl rfl ?_
    refine kx_iload_n 16 F 1 dX11_rule_15 rfl rfl rfl ?_
    refine kx_Vr 19 (ci := 0) F (As := [vI a1]) (st := []) vd_X11_164 (c_X5_pickE G l M (M c0 5) a1 hI_M hk_1 (by omega)) hk_1 rfl rfl rfl ⟨by decide, by decide⟩ rfl rfl (Nat.le_of_ble_eq_true rfl) dX11_rule_16 rfl ?_
    intro r_8 N_9 q_10
    obtain ⟨rfl, hk_11, q_10d⟩ := q_10
    rcases q_10d with ⟨q_10c, rfl⟩ | ⟨q_10c, rfl⟩
    · have hA := hU.1 (by omega)
      have hn0 : M (M (M c0 5) 4) 0 = q (85 * a1 + 100) := hA.n (by decide) (by omega)
      have hn1 : M (M (M c0 5) 4) 1 = q (85 * a1 + 101) := hA.n (by decide) (by omega)
      have hn2 : M (M (M c0 5) 4) 2 = q (85 * a1 + 102) := hA.n (by decide) (by omega)
      have hn3 : M (M (M c0 5) 4) 3 = q (85 * a1 + 103) := hA.n (by decide) (by omega)
      have hn4 : M (M (M c0 5) 4) 4 = q (85 * a1 + 104) := hA.n (by decide) (by omega)
      refine kx_iload_n 20 F 2 dX11_rule_19 rfl rfl rfl ?_
      refine kx_Vi 23 (ci := 0) F (As := [vI a2]) (st := []) vd_X11_185 (e_X0_hasRule G l M (M (M c0 5) 4) a2 hI_M hk_11 (by omega)) hk_11 rfl rfl rfl ⟨by decide, by decide⟩ rfl rfl (Nat.le_of_ble_eq_true rfl) dX11_rule_20 rfl ?_
      intro r_12 N_13 q_14
      obtain ⟨rfl, q_14c⟩ := q_14
      have h_15 := Inv.g hI_M hk_11 rfl 4 (a := 0) (b := 20) rfl rfl
      rcases q_14c with q_14c | q_14c | q_14c
      · refine kx_if_ne 26 F 32 dX11_rule_23 (by decide) rfl (by omega) (fun h_17 => ?_) (fun h_17 => (by exfalso; omega))
        refine kx_aload_n 33 F 0 dX11_rule_32 rfl rfl rfl ?_
        refine kx_getr 36 F fl_X11_26 hk_c0 rfl rfl (j := 5) rfl dX11_rule_33 (v := (M c0 5)) rfl rfl ?_
        refine kx_iload_n 37 F 1 dX11_rule_36 rfl rfl rfl ?_
        refine kx_Vr 40 (ci := 0) F (As := [vI a1]) (st := []) vd_X11_164 (c_X5_pickE G l M (M c0 5) a1 hI_M hk_1 (by omega)) hk_1 rfl rfl rfl ⟨by decide, by decide⟩ rfl rfl (Nat.le_of_ble_eq_true rfl) dX11_rule_37 rfl ?_
        intro r_18 N_19 q_20
        obtain ⟨rfl, hk_21, q_20d⟩ := q_20
        rcases q_20d with ⟨q_20c, rfl⟩ | ⟨q_20c, rfl⟩
        · have hA := hU.1 (by omega)
          have hn0 : M (M (M c0 5) 4) 0 = q (85 * a1 + 100) := hA.n (by decide) (by omega)
          have hn1 : M (M (M c0 5) 4) 1 = q (85 * a1 + 101) := hA.n (by decide) (by omega)
          have hn2 : M (M (M c0 5) 4) 2 = q (85 * a1 + 102) := hA.n (by decide) (by omega)
          have hn3 : M (M (M c0 5) 4) 3 = q (85 * a1 + 103) := hA.n (by decide) (by omega)
          have hn4 : M (M (M c0 5) 4) 4 = q (85 * a1 + 104) := hA.n (by decide) (by omega)
          refine kx_astore 42 F 4 (lo' := [some (vR G c0), some (vI a1), some (vI a2), some (vI a3), some (vR G (M (M c0 5) 4))]) dX11_rule_40 (by decide) rfl rfl rfl ?_
          refine kx_iload_n 43 F 3 dX11_rule_42 rfl rfl rfl ?_
          have h_22 : a3 = 0 ∨ a3 = 1 ∨ a3 = 2 ∨ a3 = 3 ∨ (a3 < 0 ∨ 3 < a3) := by omega
          rcases h_22 with h_22 | h_22 | h_22 | h_22 | h_22
          · rw [show vI a3 = vI 0 by rw [h_22]]
            refine kx_tableIn 72 F (by decide) dX11_rule_43 (by decide) rfl (by decide) ?_
            refine kx_aload_n 73 F 0 dX11_rule_72 rfl rfl rfl ?_
            refine kx_aload 75 F 4 dX11_rule_73 rfl rfl ?_
            refine kx_getr 78 F fl_X11_188 hk_21 rfl rfl (j := 6) rfl dX11_rule_75 (v := (M (M (M c0 5) 4) 6)) rfl rfl ?_
            have hk_23 : kd (M (M (M c0 5) 4) 6) = 2 := Inv.r hI_M hk_21 rfl 6 rfl rfl
            refine kx_iload_n 79 F 2 dX11_rule_78 rfl rfl rfl ?_
            refine kx_iald 80 F hk_23 rfl rfl (by omega) (by decide) dX11_rule_79 (v := (M (M (M (M c0 5) 4) 6) a2)) rfl rfl ?_
            have h_24 := Inv.g hI_M hk_23 rfl a2 (a := 0) (b := 5) rfl rfl
            refine kx_Vi 83 (ci := 0) F (As := [vI (M (M (M (M c0 5) 4) 6) a2)]) (st := []) vd_X11_145 (c_X11_answer G l M c0 (M (M (M (M c0 5) 4) 6) a2) hI_M hk_c0 (by omega)) hk_c0 rfl rfl rfl ⟨by decide, by decide⟩ rfl rfl (Nat.le_of_ble_eq_true rfl) dX11_rule_80 rfl ?_
            intro r_25 N_26 q_27
            obtain ⟨hI_N_26, hG_N_26, q_27c⟩ := q_27
            have hF_N_26 : Fr f_e_X11_rule M N_26 := Fr.c hF_M hG_N_26 rfl
            have hqz : q (85 * a1 + 104) = q (100 + 4) := by rw [show 85 * a1 + 104 = 100 + 4 by omega]
            have hr := hA.r (k := a2) (y0 := (85 * a1 + 4 * a2 + 105)) (y1 := (85 * a1 + 4 * a2 + 106)) (y2 := (85 * a1 + 4 * a2 + 107)) (y3 := (85 * a1 + 4 * a2 + 108)) (by omega) (by omega) (by omega) (by omega) (by omega) (by omega)
            have hqa : q (85 * a1 + 4 * a2 + a3 + 105) = q (85 * a1 + 4 * a2 + 105) := by rw [show 85 * a1 + 4 * a2 + a3 + 105 = 85 * a1 + 4 * a2 + 105 by omega]
            exact kx_iret F hQ ⟨hI_N_26, hF_N_26, (by omega), (Or.inl ⟨by omega, by omega⟩)⟩ dX11_rule_83
          · rw [show vI a3 = vI 1 by rw [h_22]]
            refine kx_tableIn 84 F (by decide) dX11_rule_43 (by decide) rfl (by decide) ?_
            refine kx_aload_n 85 F 0 dX11_rule_84 rfl rfl rfl ?_
            refine kx_aload 87 F 4 dX11_rule_85 rfl rfl ?_
            refine kx_getr 90 F fl_X11_192 hk_21 rfl rfl (j := 7) rfl dX11_rule_87 (v := (M (M (M c0 5) 4) 7)) rfl rfl ?_
            have hk_28 : kd (M (M (M c0 5) 4) 7) = 3 := Inv.r hI_M hk_21 rfl 7 rfl rfl
            refine kx_iload_n 91 F 2 dX11_rule_90 rfl rfl rfl ?_
            refine kx_iald 92 F hk_28 rfl rfl (by omega) (by decide) dX11_rule_91 (v := (M (M (M (M c0 5) 4) 7) a2)) rfl rfl ?_
            have h_29 := Inv.g hI_M hk_28 rfl a2 (a := 0) (b := 2) rfl rfl
            refine kx_Vi 95 (ci := 0) F (As := [vI (M (M (M (M c0 5) 4) 7) a2)]) (st := []) vd_X11_145 (c_X11_answer G l M c0 (M (M (M (M c0 5) 4) 7) a2) hI_M hk_c0 (by omega)) hk_c0 rfl rfl rfl ⟨by decide, by decide⟩ rfl rfl (Nat.le_of_ble_eq_true rfl) dX11_rule_92 rfl ?_
            intro r_30 N_31 q_32
            obtain ⟨hI_N_31, hG_N_31, q_32c⟩ := q_32
            have hF_N_31 : Fr f_e_X11_rule M N_31 := Fr.c hF_M hG_N_31 rfl
            have hqz : q (85 * a1 + 104) = q (100 + 4) := by rw [show 85 * a1 + 104 = 100 + 4 by omega]
            have hr := hA.r (k := a2) (y0 := (85 * a1 + 4 * a2 + 105)) (y1 := (85 * a1 + 4 * a2 + 106)) (y2 := (85 * a1 + 4 * a2 + 107)) (y3 := (85 * a1 + 4 * a2 + 108)) (by omega) (by omega) (by omega) (by omega) (by omega) (by omega)
            have hqa : q (85 * a1 + 4 * a2 + a3 + 105) = q (85 * a1 + 4 * a2 + 106) := by rw [show 85 * a1 + 4 * a2 + a3 + 105 = 85 * a1 + 4 * a2 + 106 by omega]
            exact kx_iret F hQ ⟨hI_N_31, hF_N_31, (by omega), (Or.inl ⟨by omega, by omega⟩)⟩ dX11_rule_95
          · rw [show vI a3 = vI 2 by rw [h_22]]
            refine kx_tableIn 96 F (by decide) dX11_rule_43 (by decide) rfl (by decide) ?_
            refine kx_aload_n 97 F 0 dX11_rule_96 rfl rfl rfl ?_
            refine kx_aload 99 F 4 dX11_rule_97 rfl rfl ?_
            refine kx_getr 102 F fl_X11_195 hk_21 rfl rfl (j := 8) rfl dX11_rule_99 (v := (M (M (M c0 5) 4) 8)) rfl rfl ?_
            have hk_33 : kd (M (M (M c0 5) 4) 8) = 4 := Inv.r hI_M hk_21 rfl 8 rfl rfl
            refine kx_iload_n 103 F 2 dX11_rule_102 rfl rfl rfl ?_
            refine kx_iald 104 F hk_33 rfl rfl (by omega) (by decide) dX11_rule_103 (v := (M (M (M (M c0 5) 4) 8) a2)) rfl rfl ?_
            have h_34 := Inv.g hI_M hk_33 rfl a2 (a := 0) (b := 2) rfl rfl
            refine kx_Vi 107 (ci := 0) F (As := [vI (M (M (M (M c0 5) 4) 8) a2)]) (st := []) vd_X11_145 (c_X11_answer G l M c0 (M (M (M (M c0 5) 4) 8) a2) hI_M hk_c0 (by omega)) hk_c0 rfl rfl rfl ⟨by decide, by decide⟩ rfl rfl (Nat.le_of_ble_eq_true rfl) dX11_rule_104 rfl ?_
            intro r_35 N_36 q_37
            obtain ⟨hI_N_36, hG_N_36, q_37c⟩ := q_37
            have hF_N_36 : Fr f_e_X11_rule M N_36 := Fr.c hF_M hG_N_36 rfl
            have hqz : q (85 * a1 + 104) = q (100 + 4) := by rw [show 85 * a1 + 104 = 100 + 4 by omega]
            have hr := hA.r (k := a2) (y0 := (85 * a1 + 4 * a2 + 105)) (y1 := (85 * a1 + 4 * a2 + 106)) (y2 := (85 * a1 + 4 * a2 + 107)) (y3 := (85 * a1 + 4 * a2 + 108)) (by omega) (by omega) (by omega) (by omega) (by omega) (by omega)
            have hqa : q (85 * a1 + 4 * a2 + a3 + 105) = q (85 * a1 + 4 * a2 + 107) := by rw [show 85 * a1 + 4 * a2 + a3 + 105 = 85 * a1 + 4 * a2 + 107 by omega]
            exact kx_iret F hQ ⟨hI_N_36, hF_N_36, (by omega), (Or.inl ⟨by omega, by omega⟩)⟩ dX11_rule_107
          · rw [show vI a3 = vI 3 by rw [h_22]]
            refine kx_tableIn 108 F (by decide) dX11_rule_43 (by decide) rfl (by decide) ?_
            refine kx_aload 110 F 4 dX11_rule_108 rfl rfl ?_
            refine kx_getr 113 F fl_X11_198 hk_21 rfl rfl (j := 9) rfl dX11_rule_110 (v := (M (M (M c0 5) 4) 9)) rfl rfl ?_
            have hk_38 : kd (M (M (M c0 5) 4) 9) = 5 := Inv.r hI_M hk_21 rfl 9 rfl rfl
            refine kx_iload_n 114 F 2 dX11_rule_113 rfl rfl rfl ?_
            refine kx_iald 115 F hk_38 rfl rfl (by omega) (by decide) dX11_rule_114 (v := (M (M (M (M c0 5) 4) 9) a2)) rfl rfl ?_
            have h_39 := Inv.g hI_M hk_38 rfl a2 (a := (-1)) (b := 2) rfl rfl
            refine kx_iconst 116 F dX11_rule_115 rfl ?_
            refine kx_icmp_ne 119 F 128 dX11_rule_116 (by decide) rfl (by omega) (by decide) (fun h_40 => ?_) (fun h_40 => ?_)
            · refine kx_aload_n 129 F 0 dX11_rule_128 rfl rfl rfl ?_
              refine kx_aload 131 F 4 dX11_rule_129 rfl rfl ?_
              refine kx_getr 134 F fl_X11_198 hk_21 rfl rfl (j := 9) rfl dX11_rule_131 (v := (M (M (M c0 5) 4) 9)) rfl rfl ?_
              refine kx_iload_n 135 F 2 dX11_rule_134 rfl rfl rfl ?_
              refine kx_iald 136 F hk_38 rfl rfl (by omega) (by decide) dX11_rule_135 (v := (M (M (M (M c0 5) 4) 9) a2)) rfl rfl ?_
              refine kx_Vi 139 (ci := 0) F (As := [vI (M (M (M (M c0 5) 4) 9) a2)]) (st := []) vd_X11_145 (c_X11_answer G l M c0 (M (M (M (M c0 5) 4) 9) a2) hI_M hk_c0 (by omega)) hk_c0 rfl rfl rfl ⟨by decide, by decide⟩ rfl rfl (Nat.le_of_ble_eq_true rfl) dX11_rule_136 rfl ?_
              intro r_41 N_42 q_43
              obtain ⟨hI_N_42, hG_N_42, q_43c⟩ := q_43
              have hF_N_42 : Fr f_e_X11_rule M N_42 := Fr.c hF_M hG_N_42 rfl
              have hqz : q (85 * a1 + 104) = q (100 + 4) := by rw [show 85 * a1 + 104 = 100 + 4 by omega]
              have hr := hA.r (k := a2) (y0 := (85 * a1 + 4 * a2 + 105)) (y1 := (85 * a1 + 4 * a2 + 106)) (y2 := (85 * a1 + 4 * a2 + 107)) (y3 := (85 * a1 + 4 * a2 + 108)) (by omega) (by omega) (by omega) (by omega) (by omega) (by omega)
              have hqa : q (85 * a1 + 4 * a2 + a3 + 105) = q (85 * a1 + 4 * a2 + 108) := by rw [show 85 * a1 + 4 * a2 + a3 + 105 = 85 * a1 + 4 * a2 + 108 by omega]
              exact kx_iret F hQ ⟨hI_N_42, hF_N_42, (by omega), (Or.inl ⟨by omega, by omega⟩)⟩ dX11_rule_139
            · refine kx_aload_n 120 F 0 dX11_rule_119 rfl rfl rfl ?_
              refine kx_bipush 122 F dX11_rule_120 (by decide) rfl ?_
              refine kx_Vi 125 (ci := 0) F (As := [vI 6]) (st := []) vd_X11_110 (c_X11_refuse G l M c0 6 hI_M hk_c0 (by omega)) hk_c0 rfl rfl rfl ⟨by decide, by decide⟩ rfl rfl (Nat.le_of_ble_eq_true rfl) dX11_rule_122 rfl ?_
              intro r_44 N_45 q_46
              obtain ⟨hI_N_45, hG_N_45, q_46c⟩ := q_46
              have hF_N_45 : Fr f_e_X11_rule M N_45 := Fr.c hF_M hG_N_45 rfl
              subst q_46c
              refine kx_goto 139 F dX11_rule_125 (by decide) ?_
              have hqz : q (85 * a1 + 104) = q (100 + 4) := by rw [show 85 * a1 + 104 = 100 + 4 by omega]
              have hr := hA.r (k := a2) (y0 := (85 * a1 + 4 * a2 + 105)) (y1 := (85 * a1 + 4 * a2 + 106)) (y2 := (85 * a1 + 4 * a2 + 107)) (y3 := (85 * a1 + 4 * a2 + 108)) (by omega) (by omega) (by omega) (by omega) (by omega) (by omega)
              have hqa : q (85 * a1 + 4 * a2 + a3 + 105) = q (85 * a1 + 4 * a2 + 108) := by rw [show 85 * a1 + 4 * a2 + a3 + 105 = 85 * a1 + 4 * a2 + 108 by omega]
              exact kx_iret F hQ ⟨hI_N_45, hF_N_45, (by omega), (Or.inl ⟨by omega, by omega⟩)⟩ dX11_rule_139
          · refine kx_tableOut 140 F (by omega) dX11_rule_43 h_22 (by decide) ?_
            refine kx_aload_n 141 F 0 dX11_rule_140 rfl rfl rfl ?_
            refine kx_iconst 142 F dX11_rule_141 rfl ?_
            refine kx_Vi 145 (ci := 0) F (As := [vI 1]) (st := []) vd_X11_110 (c_X11_refuse G l M c0 1 hI_M hk_c0 (by omega)) hk_c0 rfl rfl rfl ⟨by decide, by decide⟩ rfl rfl (Nat.le_of_ble_eq_true rfl) dX11_rule_142 rfl ?_
            intro r_47 N_48 q_49
            obtain ⟨hI_N_48, hG_N_48, q_49c⟩ := q_49
            have hF_N_48 : Fr f_e_X11_rule M N_48 := Fr.c hF_M hG_N_48 rfl
            subst q_49c
            exact kx_iret F hQ ⟨hI_N_48, hF_N_48, (by omega), (Or.inr ⟨fun h => by omega, by omega⟩)⟩ dX11_rule_145
        · exfalso; omega
      · refine kx_if_ne 26 F 32 dX11_rule_23 (by decide) rfl (by omega) (fun h_50 => (by exfalso; omega)) (fun h_50 => ?_)
        refine kx_aload_n 27 F 0 dX11_rule_26 rfl rfl rfl ?_
        refine kx_iconst 28 F dX11_rule_27 rfl ?_
        refine kx_Vi 31 (ci := 0) F (As := [vI 1]) (st := []) vd_X11_110 (c_X11_refuse G l M c0 1 hI_M hk_c0 (by omega)) hk_c0 rfl rfl rfl ⟨by decide, by decide⟩ rfl rfl (Nat.le_of_ble_eq_true rfl) dX11_rule_28 rfl ?_
        intro r_51 N_52 q_53
        obtain ⟨hI_N_52, hG_N_52, q_53c⟩ := q_53
        have hF_N_52 : Fr f_e_X11_rule M N_52 := Fr.c hF_M hG_N_52 rfl
        subst q_53c
        exact kx_iret F hQ ⟨hI_N_52, hF_N_52, (by omega), (Or.inr ⟨fun h => by omega, by omega⟩)⟩ dX11_rule_31
      · refine kx_if_ne 26 F 32 dX11_rule_23 (by decide) rfl (by omega) (fun h_54 => (by exfalso; omega)) (fun h_54 => ?_)
        refine kx_aload_n 27 F 0 dX11_rule_26 rfl rfl rfl ?_
        refine kx_iconst 28 F dX11_rule_27 rfl ?_
        refine kx_Vi 31 (ci := 0) F (As := [vI 1]) (st := []) vd_X11_110 (c_X11_refuse G l M c0 1 hI_M hk_c0 (by omega)) hk_c0 rfl rfl rfl ⟨by decide, by decide⟩ rfl rfl (Nat.le_of_ble_eq_true rfl) dX11_rule_28 rfl ?_
        intro r_55 N_56 q_57
        obtain ⟨hI_N_56, hG_N_56, q_57c⟩ := q_57
        have hF_N_56 : Fr f_e_X11_rule M N_56 := Fr.c hF_M hG_N_56 rfl
        subst q_57c
        exact kx_iret F hQ ⟨hI_N_56, hF_N_56, (by omega), (Or.inr ⟨fun h => by omega, by omega⟩)⟩ dX11_rule_31
    · have hA := hU.2 (by omega)
      have hn0 : M (M (M c0 5) 5) 0 = q (85 * a1 + 100) := hA.n (by decide) (by omega)
      have hn1 : M (M (M c0 5) 5) 1 = q (85 * a1 + 101) := hA.n (by decide) (by omega)
      have hn2 : M (M (M c0 5) 5) 2 = q (85 * a1 + 102) := hA.n (by decide) (by omega)
      have hn3 : M (M (M c0 5) 5) 3 = q (85 * a1 + 103) := hA.n (by decide) (by omega)
      have hn4 : M (M (M c0 5) 5) 4 = q (85 * a1 + 104) := hA.n (by decide) (by omega)
      refine kx_iload_n 20 F 2 dX11_rule_19 rfl rfl rfl ?_
      refine kx_Vi 23 (ci := 0) F (As := [vI a2]) (st := []) vd_X11_185 (e_X0_hasRule G l M (M (M c0 5) 5) a2 hI_M hk_11 (by omega)) hk_11 rfl rfl rfl ⟨by decide, by decide⟩ rfl rfl (Nat.le_of_ble_eq_true rfl) dX11_rule_20 rfl ?_
      intro r_58 N_59 q_60
      obtain ⟨rfl, q_60c⟩ := q_60
      have h_61 := Inv.g hI_M hk_11 rfl 4 (a := 0) (b := 20) rfl rfl
      rcases q_60c with q_60c | q_60c | q_60c
      · refine kx_if_ne 26 F 32 dX11_rule_23 (by decide) rfl (by omega) (fun h_63 => ?_) (fun h_63 => (by exfalso; omega))
        refine kx_aload_n 33 F 0 dX11_rule_32 rfl rfl rfl ?_
        refine kx_getr 36 F fl_X11_26 hk_c0 rfl rfl (j := 5) rfl dX11_rule_33 (v := (M c0 5)) rfl rfl ?_
        refine kx_iload_n 37 F 1 dX11_rule_36 rfl rfl rfl ?_
        refine kx_Vr 40 (ci := 0) F (As := [vI a1]) (st := []) vd_X11_164 (c_X5_pickE G l M (M c0 5) a1 hI_M hk_1 (by omega)) hk_1 rfl rfl rfl ⟨by decide, by decide⟩ rfl rfl (Nat.le_of_ble_eq_true rfl) dX11_rule_37 rfl ?_
        intro r_64 N_65 q_66
        obtain ⟨rfl, hk_67, q_66d⟩ := q_66
        rcases q_66d with ⟨q_66c, rfl⟩ | ⟨q_66c, rfl⟩
        · exfalso; omega
        · have hA := hU.2 (by omega)
          have hn0 : M (M (M c0 5) 5) 0 = q (85 * a1 + 100) := hA.n (by decide) (by omega)
          have hn1 : M (M (M c0 5) 5) 1 = q (85 * a1 + 101) := hA.n (by decide) (by omega)
          have hn2 : M (M (M c0 5) 5) 2 = q (85 * a1 + 102) := hA.n (by decide) (by omega)
          have hn3 : M (M (M c0 5) 5) 3 = q (85 * a1 + 103) := hA.n (by decide) (by omega)
          have hn4 : M (M (M c0 5) 5) 4 = q (85 * a1 + 104) := hA.n (by decide) (by omega)
          refine kx_astore 42 F 4 (lo' := [some (vR G c0), some (vI a1), some (vI a2), some (vI a3), some (vR G (M (M c0 5) 5))]) dX11_rule_40 (by decide) rfl rfl rfl ?_
          refine kx_iload_n 43 F 3 dX11_rule_42 rfl rfl rfl ?_
          have h_68 : a3 = 0 ∨ a3 = 1 ∨ a3 = 2 ∨ a3 = 3 ∨ (a3 < 0 ∨ 3 < a3) := by omega
          rcases h_68 with h_68 | h_68 | h_68 | h_68 | h_68
          · rw [show vI a3 = vI 0 by rw [h_68]]
            refine kx_tableIn 72 F (by decide) dX11_rule_43 (by decide) rfl (by decide) ?_
            refine kx_aload_n 73 F 0 dX11_rule_72 rfl rfl rfl ?_
            refine kx_aload 75 F 4 dX11_rule_73 rfl rfl ?_
            refine kx_getr 78 F fl_X11_188 hk_67 rfl rfl (j := 6) rfl dX11_rule_75 (v := (M (M (M c0 5) 5) 6)) rfl rfl ?_
            have hk_69 : kd (M (M (M c0 5) 5) 6) = 2 := Inv.r hI_M hk_67 rfl 6 rfl rfl
            refine kx_iload_n 79 F 2 dX11_rule_78 rfl rfl rfl ?_
            refine kx_iald 80 F hk_69 rfl rfl (by omega) (by decide) dX11_rule_79 (v := (M (M (M (M c0 5) 5) 6) a2)) rfl rfl ?_
            have h_70 := Inv.g hI_M hk_69 rfl a2 (a := 0) (b := 5) rfl rfl
            refine kx_Vi 83 (ci := 0) F (As := [vI (M (M (M (M c0 5) 5) 6) a2)]) (st := []) vd_X11_145 (c_X11_answer G l M c0 (M (M (M (M c0 5) 5) 6) a2) hI_M hk_c0 (by omega)) hk_c0 rfl rfl rfl ⟨by decide, by decide⟩ rfl rfl (Nat.le_of_ble_eq_true rfl) dX11_rule_80 rfl ?_
            intro r_71 N_72 q_73
            obtain ⟨hI_N_72, hG_N_72, q_73c⟩ := q_73
            have hF_N_72 : Fr f_e_X11_rule M N_72 := Fr.c hF_M hG_N_72 rfl
            have hqz : q (85 * a1 + 104) = q (185 + 4) := by rw [show 85 * a1 + 104 = 185 + 4 by omega]
            have hr := hA.r (k := a2) (y0 := (85 * a1 + 4 * a2 + 105)) (y1 := (85 * a1 + 4 * a2 + 106)) (y2 := (85 * a1 + 4 * a2 + 107)) (y3 := (85 * a1 + 4 * a2 + 108)) (by omega) (by omega) (by omega) (by omega) (by omega) (by omega)
            have hqa : q (85 * a1 + 4 * a2 + a3 + 105) = q (85 * a1 + 4 * a2 + 105) := by rw [show 85 * a1 + 4 * a2 + a3 + 105 = 85 * a1 + 4 * a2 + 105 by omega]
            exact kx_iret F hQ ⟨hI_N_72, hF_N_72, (by omega), (Or.inl ⟨by omega, by omega⟩)⟩ dX11_rule_83
          · rw [show vI a3 = vI 1 by rw [h_68]]
            refine kx_tableIn 84 F (by decide) dX11_rule_43 (by decide) rfl (by decide) ?_
            refine kx_aload_n 85 F 0 dX11_rule_84 rfl rfl rfl ?_
            refine kx_aload 87 F 4 dX11_rule_85 rfl rfl ?_
            refine kx_getr 90 F fl_X11_192 hk_67 rfl rfl (j := 7) rfl dX11_rule_87 (v := (M (M (M c0 5) 5) 7)) rfl rfl ?_
            have hk_74 : kd (M (M (M c0 5) 5) 7) = 3 := Inv.r hI_M hk_67 rfl 7 rfl rfl
            refine kx_iload_n 91 F 2 dX11_rule_90 rfl rfl rfl ?_
            refine kx_iald 92 F hk_74 rfl rfl (by omega) (by decide) dX11_rule_91 (v := (M (M (M (M c0 5) 5) 7) a2)) rfl rfl ?_
            have h_75 := Inv.g hI_M hk_74 rfl a2 (a := 0) (b := 2) rfl rfl
            refine kx_Vi 95 (ci := 0) F (As := [vI (M (M (M (M c0 5) 5) 7) a2)]) (st := []) vd_X11_145 (c_X11_answer G l M c0 (M (M (M (M c0 5) 5) 7) a2) hI_M hk_c0 (by omega)) hk_c0 rfl rfl rfl ⟨by decide, by decide⟩ rfl rfl (Nat.le_of_ble_eq_true rfl) dX11_rule_92 rfl ?_
            intro r_76 N_77 q_78
            obtain ⟨hI_N_77, hG_N_77, q_78c⟩ := q_78
            have hF_N_77 : Fr f_e_X11_rule M N_77 := Fr.c hF_M hG_N_77 rfl
            have hqz : q (85 * a1 + 104) = q (185 + 4) := by rw [show 85 * a1 + 104 = 185 + 4 by omega]
            have hr := hA.r (k := a2) (y0 := (85 * a1 + 4 * a2 + 105)) (y1 := (85 * a1 + 4 * a2 + 106)) (y2 := (85 * a1 + 4 * a2 + 107)) (y3 := (85 * a1 + 4 * a2 + 108)) (by omega) (by omega) (by omega) (by omega) (by omega) (by omega)
            have hqa : q (85 * a1 + 4 * a2 + a3 + 105) = q (85 * a1 + 4 * a2 + 106) := by rw [show 85 * a1 + 4 * a2 + a3 + 105 = 85 * a1 + 4 * a2 + 106 by omega]
            exact kx_iret F hQ ⟨hI_N_77, hF_N_77, (by omega), (Or.inl ⟨by omega, by omega⟩)⟩ dX11_rule_95
          · rw [show vI a3 = vI 2 by rw [h_68]]
            refine kx_tableIn 96 F (by decide) dX11_rule_43 (by decide) rfl (by decide) ?_
            refine kx_aload_n 97 F 0 dX11_rule_96 rfl rfl rfl ?_
            refine kx_aload 99 F 4 dX11_rule_97 rfl rfl ?_
            refine kx_getr 102 F fl_X11_195 hk_67 rfl rfl (j := 8) rfl dX11_rule_99 (v := (M (M (M c0 5) 5) 8)) rfl rfl ?_
            have hk_79 : kd (M (M (M c0 5) 5) 8) = 4 := Inv.r hI_M hk_67 rfl 8 rfl rfl
            refine kx_iload_n 103 F 2 dX11_rule_102 rfl rfl rfl ?_
            refine kx_iald 104 F hk_79 rfl rfl (by omega) (by decide) dX11_rule_103 (v := (M (M (M (M c0 5) 5) 8) a2)) rfl rfl ?_
            have h_80 := Inv.g hI_M hk_79 rfl a2 (a := 0) (b := 2) rfl rfl
            refine kx_Vi 107 (ci := 0) F (As := [vI (M (M (M (M c0 5) 5) 8) a2)]) (st := []) vd_X11_145 (c_X11_answer G l M c0 (M (M (M (M c0 5) 5) 8) a2) hI_M hk_c0 (by omega)) hk_c0 rfl rfl rfl ⟨by decide, by decide⟩ rfl rfl (Nat.le_of_ble_eq_true rfl) dX11_rule_104 rfl ?_
            intro r_81 N_82 q_83
            obtain ⟨hI_N_82, hG_N_82, q_83c⟩ := q_83
            have hF_N_82 : Fr f_e_X11_rule M N_82 := Fr.c hF_M hG_N_82 rfl
            have hqz : q (85 * a1 + 104) = q (185 + 4) := by rw [show 85 * a1 + 104 = 185 + 4 by omega]
            have hr := hA.r (k := a2) (y0 := (85 * a1 + 4 * a2 + 105)) (y1 := (85 * a1 + 4 * a2 + 106)) (y2 := (85 * a1 + 4 * a2 + 107)) (y3 := (85 * a1 + 4 * a2 + 108)) (by omega) (by omega) (by omega) (by omega) (by omega) (by omega)
            have hqa : q (85 * a1 + 4 * a2 + a3 + 105) = q (85 * a1 + 4 * a2 + 107) := by rw [show 85 * a1 + 4 * a2 + a3 + 105 = 85 * a1 + 4 * a2 + 107 by omega]
            exact kx_iret F hQ ⟨hI_N_82, hF_N_82, (by omega), (Or.inl ⟨by omega, by omega⟩)⟩ dX11_rule_107
          · rw [show vI a3 = vI 3 by rw [h_68]]
            refine kx_tableIn 108 F (by decide) dX11_rule_43 (by decide) rfl (by decide) ?_
            refine kx_aload 110 F 4 dX11_rule_108 rfl rfl ?_
            refine kx_getr 113 F fl_X11_198 hk_67 rfl rfl (j := 9) rfl dX11_rule_110 (v := (M (M (M c0 5) 5) 9)) rfl rfl ?_
            have hk_84 : kd (M (M (M c0 5) 5) 9) = 5 := Inv.r hI_M hk_67 rfl 9 rfl rfl
            refine kx_iload_n 114 F 2 dX11_rule_113 rfl rfl rfl ?_
            refine kx_iald 115 F hk_84 rfl rfl (by omega) (by decide) dX11_rule_114 (v := (M (M (M (M c0 5) 5) 9) a2)) rfl rfl ?_
            have h_85 := Inv.g hI_M hk_84 rfl a2 (a := (-1)) (b := 2) rfl rfl
            refine kx_iconst 116 F dX11_rule_115 rfl ?_
            refine kx_icmp_ne 119 F 128 dX11_rule_116 (by decide) rfl (by omega) (by decide) (fun h_86 => ?_) (fun h_86 => ?_)
            · refine kx_aload_n 129 F 0 dX11_rule_128 rfl rfl rfl ?_
              refine kx_aload 131 F 4 dX11_rule_129 rfl rfl ?_
              refine kx_getr 134 F fl_X11_198 hk_67 rfl rfl (j := 9) rfl dX11_rule_131 (v := (M (M (M c0 5) 5) 9)) rfl rfl ?_
              refine kx_iload_n 135 F 2 dX11_rule_134 rfl rfl rfl ?_
              refine kx_iald 136 F hk_84 rfl rfl (by omega) (by decide) dX11_rule_135 (v := (M (M (M (M c0 5) 5) 9) a2)) rfl rfl ?_
              refine kx_Vi 139 (ci := 0) F (As := [vI (M (M (M (M c0 5) 5) 9) a2)]) (st := []) vd_X11_145 (c_X11_answer G l M c0 (M (M (M (M c0 5) 5) 9) a2) hI_M hk_c0 (by omega)) hk_c0 rfl rfl rfl ⟨by decide, by decide⟩ rfl rfl (Nat.le_of_ble_eq_true rfl) dX11_rule_136 rfl ?_
              intro r_87 N_88 q_89
              obtain ⟨hI_N_88, hG_N_88, q_89c⟩ := q_89
              have hF_N_88 : Fr f_e_X11_rule M N_88 := Fr.c hF_M hG_N_88 rfl
              have hqz : q (85 * a1 + 104) = q (185 + 4) := by rw [show 85 * a1 + 104 = 185 + 4 by omega]
              have hr := hA.r (k := a2) (y0 := (85 * a1 + 4 * a2 + 105)) (y1 := (85 * a1 + 4 * a2 + 106)) (y2 := (85 * a1 + 4 * a2 + 107)) (y3 := (85 * a1 + 4 * a2 + 108)) (by omega) (by omega) (by omega) (by omega) (by omega) (by omega)
              have hqa : q (85 * a1 + 4 * a2 + a3 + 105) = q (85 * a1 + 4 * a2 + 108) := by rw [show 85 * a1 + 4 * a2 + a3 + 105 = 85 * a1 + 4 * a2 + 108 by omega]
              exact kx_iret F hQ ⟨hI_N_88, hF_N_88, (by omega), (Or.inl ⟨by omega, by omega⟩)⟩ dX11_rule_139
            · refine kx_aload_n 120 F 0 dX11_rule_119 rfl rfl rfl ?_
              refine kx_bipush 122 F dX11_rule_120 (by decide) rfl ?_
              refine kx_Vi 125 (ci := 0) F (As := [vI 6]) (st := []) vd_X11_110 (c_X11_refuse G l M c0 6 hI_M hk_c0 (by omega)) hk_c0 rfl rfl rfl ⟨by decide, by decide⟩ rfl rfl (Nat.le_of_ble_eq_true rfl) dX11_rule_122 rfl ?_
              intro r_90 N_91 q_92
              obtain ⟨hI_N_91, hG_N_91, q_92c⟩ := q_92
              have hF_N_91 : Fr f_e_X11_rule M N_91 := Fr.c hF_M hG_N_91 rfl
              subst q_92c
              refine kx_goto 139 F dX11_rule_125 (by decide) ?_
              have hqz : q (85 * a1 + 104) = q (185 + 4) := by rw [show 85 * a1 + 104 = 185 + 4 by omega]
              have hr := hA.r (k := a2) (y0 := (85 * a1 + 4 * a2 + 105)) (y1 := (85 * a1 + 4 * a2 + 106)) (y2 := (85 * a1 + 4 * a2 + 107)) (y3 := (85 * a1 + 4 * a2 + 108)) (by omega) (by omega) (by omega) (by omega) (by omega) (by omega)
              have hqa : q (85 * a1 + 4 * a2 + a3 + 105) = q (85 * a1 + 4 * a2 + 108) := by rw [show 85 * a1 + 4 * a2 + a3 + 105 = 85 * a1 + 4 * a2 + 108 by omega]
              exact kx_iret F hQ ⟨hI_N_91, hF_N_91, (by omega), (Or.inl ⟨by omega, by omega⟩)⟩ dX11_rule_139
          · refine kx_tableOut 140 F (by omega) dX11_rule_43 h_68 (by decide) ?_
            refine kx_aload_n 141 F 0 dX11_rule_140 rfl rfl rfl ?_
            refine kx_iconst 142 F dX11_rule_141 rfl ?_
            refine kx_Vi 145 (ci := 0) F (As := [vI 1]) (st := []) vd_X11_110 (c_X11_refuse G l M c0 1 hI_M hk_c0 (by omega)) hk_c0 rfl rfl rfl ⟨by decide, by decide⟩ rfl rfl (Nat.le_of_ble_eq_true rfl) dX11_rule_142 rfl ?_
            intro r_93 N_94 q_95
            obtain ⟨hI_N_94, hG_N_94, q_95c⟩ := q_95
            have hF_N_94 : Fr f_e_X11_rule M N_94 := Fr.c hF_M hG_N_94 rfl
            subst q_95c
            exact kx_iret F hQ ⟨hI_N_94, hF_N_94, (by omega), (Or.inr ⟨fun h => by omega, by omega⟩)⟩ dX11_rule_145
      · refine kx_if_ne 26 F 32 dX11_rule_23 (by decide) rfl (by omega) (fun h_96 => (by exfalso; omega)) (fun h_96 => ?_)
        refine kx_aload_n 27 F 0 dX11_rule_26 rfl rfl rfl ?_
        refine kx_iconst 28 F dX11_rule_27 rfl ?_
        refine kx_Vi 31 (ci := 0) F (As := [vI 1]) (st := []) vd_X11_110 (c_X11_refuse G l M c0 1 hI_M hk_c0 (by omega)) hk_c0 rfl rfl rfl ⟨by decide, by decide⟩ rfl rfl (Nat.le_of_ble_eq_true rfl) dX11_rule_28 rfl ?_
        intro r_97 N_98 q_99
        obtain ⟨hI_N_98, hG_N_98, q_99c⟩ := q_99
        have hF_N_98 : Fr f_e_X11_rule M N_98 := Fr.c hF_M hG_N_98 rfl
        subst q_99c
        exact kx_iret F hQ ⟨hI_N_98, hF_N_98, (by omega), (Or.inr ⟨fun h => by omega, by omega⟩)⟩ dX11_rule_31
      · refine kx_if_ne 26 F 32 dX11_rule_23 (by decide) rfl (by omega) (fun h_100 => (by exfalso; omega)) (fun h_100 => ?_)
        refine kx_aload_n 27 F 0 dX11_rule_26 rfl rfl rfl ?_
        refine kx_iconst 28 F dX11_rule_27 rfl ?_
        refine kx_Vi 31 (ci := 0) F (As := [vI 1]) (st := []) vd_X11_110 (c_X11_refuse G l M c0 1 hI_M hk_c0 (by omega)) hk_c0 rfl rfl rfl ⟨by decide, by decide⟩ rfl rfl (Nat.le_of_ble_eq_true rfl) dX11_rule_28 rfl ?_
        intro r_101 N_102 q_103
        obtain ⟨hI_N_102, hG_N_102, q_103c⟩ := q_103
        have hF_N_102 : Fr f_e_X11_rule M N_102 := Fr.c hF_M hG_N_102 rfl
        subst q_103c
        exact kx_iret F hQ ⟨hI_N_102, hF_N_102, (by omega), (Or.inr ⟨fun h => by omega, by omega⟩)⟩ dX11_rule_31
  · refine kx_if_eq 11 F 26 dX11_rule_8 (by decide) rfl (by omega) (fun h_104 => ?_) (fun h_104 => (by exfalso; omega))
    refine kx_aload_n 27 F 0 dX11_rule_26 rfl rfl rfl ?_
    refine kx_iconst 28 F dX11_rule_27 rfl ?_
    refine kx_Vi 31 (ci := 0) F (As := [vI 1]) (st := []) vd_X11_110 (c_X11_refuse G l M c0 1 hI_M hk_c0 (by omega)) hk_c0 rfl rfl rfl ⟨by decide, by decide⟩ rfl rfl (Nat.le_of_ble_eq_true rfl) dX11_rule_28 rfl ?_
    intro r_105 N_106 q_107
    obtain ⟨hI_N_106, hG_N_106, q_107c⟩ := q_107
    have hF_N_106 : Fr f_e_X11_rule M N_106 := Fr.c hF_M hG_N_106 rfl
    subst q_107c
    exact kx_iret F hQ ⟨hI_N_106, hF_N_106, (by omega), (Or.inr ⟨fun h => by omega, by omega⟩)⟩ dX11_rule_31
  · refine kx_if_eq 11 F 26 dX11_rule_8 (by decide) rfl (by omega) (fun h_108 => ?_) (fun h_108 => (by exfalso; omega))
    refine kx_aload_n 27 F 0 dX11_rule_26 rfl rfl rfl ?_
    refine kx_iconst 28 F dX11_rule_27 rfl ?_
    refine kx_Vi 31 (ci := 0) F (As := [vI 1]) (st := []) vd_X11_110 (c_X11_refuse G l M c0 1 hI_M hk_c0 (by omega)) hk_c0 rfl rfl rfl ⟨by decide, by decide⟩ rfl rfl (Nat.le_of_ble_eq_true rfl) dX11_rule_28 rfl ?_
    intro r_109 N_110 q_111
    obtain ⟨hI_N_110, hG_N_110, q_111c⟩ := q_111
    have hF_N_110 : Fr f_e_X11_rule M N_110 := Fr.c hF_M hG_N_110 rfl
    subst q_111c
    exact kx_iret F hQ ⟨hI_N_110, hF_N_110, (by omega), (Or.inr ⟨fun h => by omega, by omega⟩)⟩ dX11_rule_31
