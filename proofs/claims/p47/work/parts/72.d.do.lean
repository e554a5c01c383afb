set_option maxHeartbeats 4000000 in
set_option maxRecDepth 100000 in
theorem e_lettersX (G : KG) (l : Launch) (M : Mem) (hI_M : Inv true M) : KC true G l yX12_letters cX12_letters 1 (some .int) (0, 0) [vR G 163] M (fun A => kQi true G A (fun (r : Int) (N : Mem) => M = N ∧ (r = (M 164 0) + (M 164 1) + (M 164 2)))) := by
  refine kx_met (lo := [some (vR G 163)]) (by decide) (Nat.le_of_ble_eq_true rfl) rfl ?_
  intro X F hQ
  refine kx_aload_n 1 F 0 dX12_letters_0 rfl rfl rfl ?_
  refine kx_getr 4 F fl_X12_7 kd_163 rfl rfl (j := 0) rfl dX12_letters_1 (v := 164) (uq_164 (Inv.r hI_M kd_163 rfl 0 rfl rfl)) rfl ?_
  refine kx_iconst 5 F dX12_letters_4 rfl ?_
  refine kx_iald 6 F kd_164 rfl rfl (by omega) (by decide) dX12_letters_5 (v := (M 164 0)) rfl rfl ?_
  have ha_1 : atlo 0 = 0 ∧ athi 0 = 2 := at_c 0 0 (o := 0) (lo := 0) (hi := 2) (by omega) (by decide) (by decide) (by decide)
  have h_2 := Inv.g hI_M kd_164 rfl 0 (a := 0) (b := 2) ha_1.1 ha_1.2
  refine kx_aload_n 7 F 0 dX12_letters_6 rfl rfl rfl ?_
  refine kx_getr 10 F fl_X12_7 kd_163 rfl rfl (j := 0) rfl dX12_letters_7 (v := 164) (uq_164 (Inv.r hI_M kd_163 rfl 0 rfl rfl)) rfl ?_
  refine kx_iconst 11 F dX12_letters_10 rfl ?_
  refine kx_iald 12 F kd_164 rfl rfl (by omega) (by decide) dX12_letters_11 (v := (M 164 1)) rfl rfl ?_
  have ha_3 : atlo 1 = 0 ∧ athi 1 = 2 := at_c 1 0 (o := 1) (lo := 0) (hi := 2) (by omega) (by decide) (by decide) (by decide)
  have h_4 := Inv.g hI_M kd_164 rfl 1 (a := 0) (b := 2) ha_3.1 ha_3.2
  refine kx_iadd 13 F (v := (M 164 0) + (M 164 1)) dX12_letters_12 rfl rfl ?_
  refine kx_aload_n 14 F 0 dX12_letters_13 rfl rfl rfl ?_
  refine kx_getr 17 F fl_X12_7 kd_163 rfl rfl (j := 0) rfl dX12_letters_14 (v := 164) (uq_164 (Inv.r hI_M kd_163 rfl 0 rfl rfl)) rfl ?_
  refine kx_iconst 18 F dX12_letters_17 rfl ?_
  refine kx_iald 19 F kd_164 rfl rfl (by omega) (by decide) dX12_letters_18 (v := (M 164 2)) rfl rfl ?_
  have ha_5 : atlo 2 = 0 ∧ athi 2 = 2 := at_c 2 0 (o := 2) (lo := 0) (hi := 2) (by omega) (by decide) (by decide) (by decide)
  have h_6 := Inv.g hI_M kd_164 rfl 2 (a := 0) (b := 2) ha_5.1 ha_5.2
  refine kx_iadd 20 F (v := (M 164 0) + (M 164 1) + (M 164 2)) dX12_letters_19 rfl rfl ?_
  exact kx_iret F hQ ⟨rfl, (by omega)⟩ dX12_letters_20
set_option maxHeartbeats 4000000 in
set_option maxRecDepth 100000 in
theorem e_isLetterX (G : KG) (l : Launch) (M : Mem) (a1 : Int) (hI_M : Inv true M) (hpre : -2147483648 ≤ a1 ∧ a1 ≤ 2147483647) : KC true G l yX12_isLetter cX12_isLetter 2 (some .boolean) (1, 20) [vR G 163, vI a1] M (fun A => kQi true G A (fun (r : Int) (N : Mem) => M = N ∧ ((r = 1 ∧ 0 ≤ a1 ∧ a1 < (M 164 0) + (M 164 1) + (M 164 2)) ∨ (r = 0 ∧ a1 < 0) ∨ (r = 0 ∧ a1 ≥ (M 164 0) + (M 164 1) + (M 164 2))))) := by
  refine kx_met (lo := [some (vR G 163), some (vI a1)]) (by decide) (Nat.le_of_ble_eq_true rfl) rfl ?_
  intro X F hQ
  have h_1 := Inv.g hI_M kd_164 rfl 0 (a := 0) (b := 2) (at_c 0 0 (o := 0) (lo := 0) (hi := 2) (by omega) (by decide) (by decide) (by decide)).1 (at_c 0 0 (o := 0) (lo := 0) (hi := 2) (by omega) (by decide) (by decide) (by decide)).2
  have h_2 := Inv.g hI_M kd_164 rfl 1 (a := 0) (b := 2) (at_c 1 0 (o := 1) (lo := 0) (hi := 2) (by omega) (by decide) (by decide) (by decide)).1 (at_c 1 0 (o := 1) (lo := 0) (hi := 2) (by omega) (by decide) (by decide) (by decide)).2
  have h_3 := Inv.g hI_M kd_164 rfl 2 (a := 0) (b := 2) (at_c 2 0 (o := 2) (lo := 0) (hi := 2) (by omega) (by decide) (by decide) (by decide)).1 (at_c 2 0 (o := 2) (lo := 0) (hi := 2) (by omega) (by decide) (by decide) (by decide)).2
  refine kx_iload_n 1 F 1 dX12_isLetter_0 rfl rfl rfl ?_
  refine kx_if_lt 4 F 16 dX12_isLetter_1 (by decide) rfl (by omega) (fun h_4 => ?_) (fun h_4 => ?_)
  · refine kx_iconst 17 F dX12_isLetter_16 rfl ?_
    exact kx_zret F hQ (by omega) ⟨rfl, (Or.inr (Or.inl (by omega)))⟩ dX12_isLetter_17
  · refine kx_iload_n 5 F 1 dX12_isLetter_4 rfl rfl rfl ?_
    refine kx_aload_n 6 F 0 dX12_isLetter_5 rfl rfl rfl ?_
    refine kx_Vi 9 (ci := 0) F (As := []) (st := [vI a1]) vd_X12_285 (e_lettersX G l M  hI_M) kd_163 rfl rfl rfl ⟨by decide, by decide⟩ rfl rfl (Nat.le_of_ble_eq_true rfl) dX12_isLetter_6 rfl ?_
    intro r_5 N_6 q_7
    obtain ⟨rfl, q_7c⟩ := q_7
    refine kx_topi (e' := (M 164 0) + (M 164 1) + (M 164 2)) (by omega) ?_
    refine kx_icmp_ge 12 F 16 dX12_isLetter_9 (by decide) rfl (by omega) (by omega) (fun h_8 => ?_) (fun h_8 => ?_)
    · refine kx_iconst 17 F dX12_isLetter_16 rfl ?_
      exact kx_zret F hQ (by omega) ⟨rfl, (Or.inr (Or.inr (by omega)))⟩ dX12_isLetter_17
    · refine kx_iconst 13 F dX12_isLetter_12 rfl ?_
      refine kx_goto 17 F dX12_isLetter_13 (by decide) ?_
      exact kx_zret F hQ (by omega) ⟨rfl, (Or.inl (by omega))⟩ dX12_isLetter_17
set_option maxHeartbeats 4000000 in
set_option maxRecDepth 100000 in
theorem e_of0 (G : KG) (l : Launch) (M : Mem) (a1 : Int) (a2 : Int) (hI_M : Inv true M) (hpre : -2147483648 ≤ a1 ∧ a1 ≤ 2147483647 ∧ -2147483648 ≤ a2 ∧ a2 ≤ 2147483647 ∧ 0 ≤ a1 ∧ a1 ≤ 1 ∧ a2 = 0) : KC true G l yX12_of cX12_of 3 (some .int) (1, 21) [vR G 163, vI a1, vI a2] M (fun A => kQi true G A (fun (r : Int) (N : Mem) => M = N ∧ (r = (M 164 (85 * a1 + 100)) ∧ 0 ≤ r ∧ r ≤ 3))) := by
  refine kx_met (lo := [some (vR G 163), some (vI a1), some (vI a2)]) (by decide) (Nat.le_of_ble_eq_true rfl) rfl ?_
  intro X F hQ
  have e_1 : M 164 (85 * a1 + a2 + 100) = M 164 (85 * a1 + 100) := by rw [show 85 * a1 + a2 + 100 = 85 * a1 + 100 by omega]
  refine kx_iload_n 1 F 1 dX12_of_0 rfl rfl rfl ?_
  refine kx_iconst 2 F dX12_of_1 rfl ?_
  refine kx_icmp_ne 5 F 9 dX12_of_2 (by decide) rfl (by omega) (by decide) (fun h_2 => ?_) (fun h_2 => (by exfalso; omega))
  refine kx_aload_n 10 F 0 dX12_of_9 rfl rfl rfl ?_
  refine kx_getr 13 F fl_X12_7 kd_163 rfl rfl (j := 0) rfl dX12_of_10 (v := 164) (uq_164 (Inv.r hI_M kd_163 rfl 0 rfl rfl)) rfl ?_
  refine kx_iconst 14 F dX12_of_13 rfl ?_
  refine kx_iload_n 15 F 1 dX12_of_14 rfl rfl rfl ?_
  refine kx_Si 18 F (As := [vI 0, vI a1]) (st := [vR G 164]) sd_X12_216 (c_X12_rowOf G l M 0 a1 hI_M (by omega)) ⟨by decide, by decide⟩ rfl rfl (Nat.le_of_ble_eq_true rfl) dX12_of_15 rfl ?_
  intro r_3 N_4 q_5
  obtain ⟨rfl, q_5c⟩ := q_5
  refine kx_topi (e' := 85 * a1 + 100) (by omega) ?_
  refine kx_iload_n 19 F 2 dX12_of_18 rfl rfl rfl ?_
  refine kx_iadd 20 F (v := 85 * a1 + a2 + 100) dX12_of_19 (by omega) rfl ?_
  refine kx_iald 21 F kd_164 rfl rfl (by omega) (by decide) dX12_of_20 (v := (M 164 (85 * a1 + a2 + 100))) rfl rfl ?_
  have ha_6 : atlo (85 * a1 + a2 + 100) = 0 ∧ athi (85 * a1 + a2 + 100) = 3 := at_a (85 * a1 + a2 + 100) 0 a1 0 (by omega) (by omega) (by decide)
  have h_7 := Inv.g hI_M kd_164 rfl (85 * a1 + a2 + 100) (a := 0) (b := 3) ha_6.1 ha_6.2
  exact kx_iret F hQ ⟨rfl, (by omega)⟩ dX12_of_21
set_option maxHeartbeats 4000000 in
set_option maxRecDepth 100000 in
theorem e_of1 (G : KG) (l : Launch) (M : Mem) (a1 : Int) (a2 : Int) (hI_M : Inv true M) (hpre : -2147483648 ≤ a1 ∧ a1 ≤ 2147483647 ∧ -2147483648 ≤ a2 ∧ a2 ≤ 2147483647 ∧ 0 ≤ a1 ∧ a1 ≤ 1 ∧ a2 = 1) : KC true G l yX12_of cX12_of 3 (some .int) (1, 21) [vR G 163, vI a1, vI a2] M (fun A => kQi true G A (fun (r : Int) (N : Mem) => M = N ∧ (r = (M 164 (85 * a1 + 101)) ∧ 0 ≤ r ∧ r ≤ 3))) := by
  refine kx_met (lo := [some (vR G 163), some (vI a1), some (vI a2)]) (by decide) (Nat.le_of_ble_eq_true rfl) rfl ?_
  intro X F hQ
  have e_1 : M 164 (85 * a1 + a2 + 100) = M 164 (85 * a1 + 101) := by rw [show 85 * a1 + a2 + 100 = 85 * a1 + 101 by omega]
  refine kx_iload_n 1 F 1 dX12_of_0 rfl rfl rfl ?_
  refine kx_iconst 2 F dX12_of_1 rfl ?_
  refine kx_icmp_ne 5 F 9 dX12_of_2 (by decide) rfl (by omega) (by decide) (fun h_2 => ?_) (fun h_2 => (by exfalso; omega))
  refine kx_aload_n 10 F 0 dX12_of_9 rfl rfl rfl ?_
  refine kx_getr 13 F fl_X12_7 kd_163 rfl rfl (j := 0) rfl dX12_of_10 (v := 164) (uq_164 (Inv.r hI_M kd_163 rfl 0 rfl rfl)) rfl ?_
  refine kx_iconst 14 F dX12_of_13 rfl ?_
  refine kx_iload_n 15 F 1 dX12_of_14 rfl rfl rfl ?_
  refine kx_Si 18 F (As := [vI 0, vI a1]) (st := [vR G 164]) sd_X12_216 (c_X12_rowOf G l M 0 a1 hI_M (by omega)) ⟨by decide, by decide⟩ rfl rfl (Nat.le_of_ble_eq_true rfl) dX12_of_15 rfl ?_
  intro r_3 N_4 q_5
  obtain ⟨rfl, q_5c⟩ := q_5
  refine kx_topi (e' := 85 * a1 + 100) (by omega) ?_
  refine kx_iload_n 19 F 2 dX12_of_18 rfl rfl rfl ?_
  refine kx_iadd 20 F (v := 85 * a1 + a2 + 100) dX12_of_19 (by omega) rfl ?_
  refine kx_iald 21 F kd_164 rfl rfl (by omega) (by decide) dX12_of_20 (v := (M 164 (85 * a1 + a2 + 100))) rfl rfl ?_
  have ha_6 : atlo (85 * a1 + a2 + 100) = 0 ∧ athi (85 * a1 + a2 + 100) = 3 := at_a (85 * a1 + a2 + 100) 0 a1 1 (by omega) (by omega) (by decide)
  have h_7 := Inv.g hI_M kd_164 rfl (85 * a1 + a2 + 100) (a := 0) (b := 3) ha_6.1 ha_6.2
  exact kx_iret F hQ ⟨rfl, (by omega)⟩ dX12_of_21
set_option maxHeartbeats 4000000 in
set_option maxRecDepth 100000 in
theorem e_isStateX (G : KG) (l : Launch) (M : Mem) (a1 : Int) (a2 : Int) (hI_M : Inv true M) (hpre : -2147483648 ≤ a1 ∧ a1 ≤ 2147483647 ∧ -2147483648 ≤ a2 ∧ a2 ≤ 2147483647 ∧ 0 ≤ a1 ∧ a1 ≤ 1) : KC true G l yX12_isState cX12_isState 3 (some .boolean) (2, 43) [vR G 163, vI a1, vI a2] M (fun A => kQi true G A (fun (r : Int) (N : Mem) => M = N ∧ ((r = 1 ∧ 0 ≤ a2 ∧ a2 < (M 164 (85 * a1 + 100)) ∧ a2 ≤ 2) ∨ (r = 0 ∧ a2 < 0) ∨ (r = 0 ∧ a2 ≥ (M 164 (85 * a1 + 100)))))) := by
  refine kx_met (lo := [some (vR G 163), some (vI a1), some (vI a2)]) (by decide) (Nat.le_of_ble_eq_true rfl) rfl ?_
  intro X F hQ
  refine kx_iload_n 1 F 2 dX12_isState_0 rfl rfl rfl ?_
  refine kx_if_lt 4 F 18 dX12_isState_1 (by decide) rfl (by omega) (fun h_1 => ?_) (fun h_1 => ?_)
  · refine kx_iconst 19 F dX12_isState_18 rfl ?_
    exact kx_zret F hQ (by omega) ⟨rfl, (Or.inr (Or.inl (by omega)))⟩ dX12_isState_19
  · refine kx_iload_n 5 F 2 dX12_isState_4 rfl rfl rfl ?_
    refine kx_aload_n 6 F 0 dX12_isState_5 rfl rfl rfl ?_
    refine kx_iload_n 7 F 1 dX12_isState_6 rfl rfl rfl ?_
    refine kx_iconst 8 F dX12_isState_7 rfl ?_
    refine kx_Vi 11 (ci := 0) F (As := [vI a1, vI 0]) (st := [vI a2]) vd_X12_288 (e_of0 G l M a1 0 hI_M (by omega)) kd_163 rfl rfl rfl ⟨by decide, by decide⟩ rfl rfl (Nat.le_of_ble_eq_true rfl) dX12_isState_8 rfl ?_
    intro r_2 N_3 q_4
    obtain ⟨rfl, q_4c⟩ := q_4
    refine kx_topi (e' := (M 164 (85 * a1 + 100))) (by omega) ?_
    refine kx_icmp_ge 14 F 18 dX12_isState_11 (by decide) rfl (by omega) (by omega) (fun h_5 => ?_) (fun h_5 => ?_)
    · refine kx_iconst 19 F dX12_isState_18 rfl ?_
      exact kx_zret F hQ (by omega) ⟨rfl, (Or.inr (Or.inr (by omega)))⟩ dX12_isState_19
    · refine kx_iconst 15 F dX12_isState_14 rfl ?_
      refine kx_goto 19 F dX12_isState_15 (by decide) ?_
      exact kx_zret F hQ (by omega) ⟨rfl, (Or.inl (by omega))⟩ dX12_isState_19
set_option maxHeartbeats 4000000 in
set_option maxRecDepth 100000 in
theorem e_isSymbolX (G : KG) (l : Launch) (M : Mem) (a1 : Int) (a2 : Int) (a3 : Int) (hI_M : Inv true M) (hpre : -2147483648 ≤ a1 ∧ a1 ≤ 2147483647 ∧ -2147483648 ≤ a2 ∧ a2 ≤ 2147483647 ∧ -2147483648 ≤ a3 ∧ a3 ≤ 2147483647 ∧ 0 ≤ a1 ∧ a1 ≤ 1) : KC true G l yX12_isSymbol cX12_isSymbol 6 (some .boolean) (2, 43) [vR G 163, vI a1, vI a2, vI a3] M (fun A => kQi true G A (fun (r : Int) (N : Mem) => M = N ∧ (r ≥ 0 ∧ r ≤ 1) ∧ (zSYo (M 164 0) (M 164 0 + M 164 1) (M 164 (85 * a1 + 101)) a2 a3 r))) := by
  refine kx_met (lo := [some (vR G 163), some (vI a1), some (vI a2), some (vI a3), none, none]) (by decide) (Nat.le_of_ble_eq_true rfl) rfl ?_
  intro X F hQ
  have h_1 := Inv.g hI_M kd_164 rfl 0 (a := 0) (b := 2) (at_c 0 0 (o := 0) (lo := 0) (hi := 2) (by omega) (by decide) (by decide) (by decide)).1 (at_c 0 0 (o := 0) (lo := 0) (hi := 2) (by omega) (by decide) (by decide) (by decide)).2
  have h_2 := Inv.g hI_M kd_164 rfl 1 (a := 0) (b := 2) (at_c 1 0 (o := 1) (lo := 0) (hi := 2) (by omega) (by decide) (by decide) (by decide)).1 (at_c 1 0 (o := 1) (lo := 0) (hi := 2) (by omega) (by decide) (by decide) (by decide)).2
  have h_3 := Inv.g hI_M kd_164 rfl 2 (a := 0) (b := 2) (at_c 2 0 (o := 2) (lo := 0) (hi := 2) (by omega) (by decide) (by decide) (by decide)).1 (at_c 2 0 (o := 2) (lo := 0) (hi := 2) (by omega) (by decide) (by decide) (by decide)).2
  refine kx_aload_n 1 F 0 dX12_isSymbol_0 rfl rfl rfl ?_
  refine kx_iload_n 2 F 2 dX12_isSymbol_1 rfl rfl rfl ?_
  refine kx_Vi 5 (ci := 0) F (As := [vI a2]) (st := []) vd_X12_297 (c_sortNowE G l M a2 hI_M (by omega)) kd_163 rfl rfl rfl ⟨by decide, by decide⟩ rfl rfl (Nat.le_of_ble_eq_true rfl) dX12_isSymbol_2 rfl ?_
  intro r_4 N_5 q_6
  obtain ⟨rfl, q_6c⟩ := q_6
  rcases q_6c with q_6c | q_6c | q_6c
  · refine kx_istore 7 F 4 (lo' := [some (vR G 163), some (vI a1), some (vI a2), some (vI a3), some (vI r_4), none]) dX12_isSymbol_5 (by decide) rfl rfl rfl ?_
    refine kx_iload_n 8 F 3 dX12_isSymbol_7 rfl rfl rfl ?_
    refine kx_if_lt 11 F 25 dX12_isSymbol_8 (by decide) rfl (by omega) (fun h_7 => ?_) (fun h_7 => ?_)
    · refine kx_iconst 26 F dX12_isSymbol_25 rfl ?_
      refine kx_istore 28 F 5 (lo' := [some (vR G 163), some (vI a1), some (vI a2), some (vI a3), some (vI r_4), some (vI 0)]) dX12_isSymbol_26 (by decide) rfl rfl rfl ?_
      refine kx_iload 30 F 4 dX12_isSymbol_28 rfl rfl ?_
      refine kx_if_ne 33 F 38 dX12_isSymbol_30 (by decide) rfl (by omega) (fun h_8 => (by exfalso; omega)) (fun h_8 => ?_)
      refine kx_iload 35 F 5 dX12_isSymbol_33 rfl rfl ?_
      refine kx_goto 59 F dX12_isSymbol_35 (by decide) ?_
      exact kx_zret F hQ (by omega) ⟨rfl, (by omega), (Or.inr ⟨by omega, fun h => by unfold zSY at h; omega⟩)⟩ dX12_isSymbol_59
    · refine kx_iload_n 12 F 3 dX12_isSymbol_11 rfl rfl rfl ?_
      refine kx_aload_n 13 F 0 dX12_isSymbol_12 rfl rfl rfl ?_
      refine kx_iload_n 14 F 1 dX12_isSymbol_13 rfl rfl rfl ?_
      refine kx_iconst 15 F dX12_isSymbol_14 rfl ?_
      refine kx_Vi 18 (ci := 0) F (As := [vI a1, vI 1]) (st := [vI a3]) vd_X12_288 (e_of1 G l M a1 1 hI_M (by omega)) kd_163 rfl rfl rfl ⟨by decide, by decide⟩ rfl rfl (Nat.le_of_ble_eq_true rfl) dX12_isSymbol_15 rfl ?_
      intro r_9 N_10 q_11
      obtain ⟨rfl, q_11c⟩ := q_11
      refine kx_topi (e' := (M 164 (85 * a1 + 101))) (by omega) ?_
      refine kx_icmp_ge 21 F 25 dX12_isSymbol_18 (by decide) rfl (by omega) (by omega) (fun h_12 => ?_) (fun h_12 => ?_)
      · refine kx_iconst 26 F dX12_isSymbol_25 rfl ?_
        refine kx_istore 28 F 5 (lo' := [some (vR G 163), some (vI a1), some (vI a2), some (vI a3), some (vI r_4), some (vI 0)]) dX12_isSymbol_26 (by decide) rfl rfl rfl ?_
        refine kx_iload 30 F 4 dX12_isSymbol_28 rfl rfl ?_
        refine kx_if_ne 33 F 38 dX12_isSymbol_30 (by decide) rfl (by omega) (fun h_13 => (by exfalso; omega)) (fun h_13 => ?_)
        refine kx_iload 35 F 5 dX12_isSymbol_33 rfl rfl ?_
        refine kx_goto 59 F dX12_isSymbol_35 (by decide) ?_
        exact kx_zret F hQ (by omega) ⟨rfl, (by omega), (Or.inr ⟨by omega, fun h => by unfold zSY at h; omega⟩)⟩ dX12_isSymbol_59
      · refine kx_iconst 22 F dX12_isSymbol_21 rfl ?_
        refine kx_goto 26 F dX12_isSymbol_22 (by decide) ?_
        refine kx_istore 28 F 5 (lo' := [some (vR G 163), some (vI a1), some (vI a2), some (vI a3), some (vI r_4), some (vI 1)]) dX12_isSymbol_26 (by decide) rfl rfl rfl ?_
        refine kx_iload 30 F 4 dX12_isSymbol_28 rfl rfl ?_
        refine kx_if_ne 33 F 38 dX12_isSymbol_30 (by decide) rfl (by omega) (fun h_14 => (by exfalso; omega)) (fun h_14 => ?_)
        refine kx_iload 35 F 5 dX12_isSymbol_33 rfl rfl ?_
        refine kx_goto 59 F dX12_isSymbol_35 (by decide) ?_
        exact kx_zret F hQ (by omega) ⟨rfl, (by omega), (Or.inl ⟨by omega, by unfold zSY; omega⟩)⟩ dX12_isSymbol_59
  · refine kx_istore 7 F 4 (lo' := [some (vR G 163), some (vI a1), some (vI a2), some (vI a3), some (vI r_4), none]) dX12_isSymbol_5 (by decide) rfl rfl rfl ?_
    refine kx_iload_n 8 F 3 dX12_isSymbol_7 rfl rfl rfl ?_
    refine kx_if_lt 11 F 25 dX12_isSymbol_8 (by decide) rfl (by omega) (fun h_15 => ?_) (fun h_15 => ?_)
    · refine kx_iconst 26 F dX12_isSymbol_25 rfl ?_
      refine kx_istore 28 F 5 (lo' := [some (vR G 163), some (vI a1), some (vI a2), some (vI a3), some (vI r_4), some (vI 0)]) dX12_isSymbol_26 (by decide) rfl rfl rfl ?_
      refine kx_iload 30 F 4 dX12_isSymbol_28 rfl rfl ?_
      refine kx_if_ne 33 F 38 dX12_isSymbol_30 (by decide) rfl (by omega) (fun h_16 => ?_) (fun h_16 => (by exfalso; omega))
      refine kx_iload_n 39 F 3 dX12_isSymbol_38 rfl rfl rfl ?_
      refine kx_iconst 40 F dX12_isSymbol_39 rfl ?_
      refine kx_icmp_eq 43 F 54 dX12_isSymbol_40 (by decide) rfl (by omega) (by decide) (fun h_17 => ?_) (fun h_17 => ?_)
      · refine kx_iconst 55 F dX12_isSymbol_54 rfl ?_
        refine kx_goto 59 F dX12_isSymbol_55 (by decide) ?_
        exact kx_zret F hQ (by omega) ⟨rfl, (by omega), (Or.inl ⟨by omega, by unfold zSY; omega⟩)⟩ dX12_isSymbol_59
      · refine kx_iload 45 F 4 dX12_isSymbol_43 rfl rfl ?_
        refine kx_iconst 46 F dX12_isSymbol_45 rfl ?_
        refine kx_icmp_ne 49 F 58 dX12_isSymbol_46 (by decide) rfl (by omega) (by decide) (fun h_18 => (by exfalso; omega)) (fun h_18 => ?_)
        refine kx_iload 51 F 5 dX12_isSymbol_49 rfl rfl ?_
        refine kx_if_eq 54 F 58 dX12_isSymbol_51 (by decide) rfl (by decide) (fun h_19 => ?_) (fun h_19 => (by exfalso; omega))
        refine kx_iconst 59 F dX12_isSymbol_58 rfl ?_
        exact kx_zret F hQ (by omega) ⟨rfl, (by omega), (Or.inr ⟨by omega, fun h => by unfold zSY at h; omega⟩)⟩ dX12_isSymbol_59
    · refine kx_iload_n 12 F 3 dX12_isSymbol_11 rfl rfl rfl ?_
      refine kx_aload_n 13 F 0 dX12_isSymbol_12 rfl rfl rfl ?_
      refine kx_iload_n 14 F 1 dX12_isSymbol_13 rfl rfl rfl ?_
      refine kx_iconst 15 F dX12_isSymbol_14 rfl ?_
      refine kx_Vi 18 (ci := 0) F (As := [vI a1, vI 1]) (st := [vI a3]) vd_X12_288 (e_of1 G l M a1 1 hI_M (by omega)) kd_163 rfl rfl rfl ⟨by decide, by decide⟩ rfl rfl (Nat.le_of_ble_eq_true rfl) dX12_isSymbol_15 rfl ?_
      intro r_20 N_21 q_22
      obtain ⟨rfl, q_22c⟩ := q_22
      refine kx_topi (e' := (M 164 (85 * a1 + 101))) (by omega) ?_
      refine kx_icmp_ge 21 F 25 dX12_isSymbol_18 (by decide) rfl (by omega) (by omega) (fun h_23 => ?_) (fun h_23 => ?_)
      · refine kx_iconst 26 F dX12_isSymbol_25 rfl ?_
        refine kx_istore 28 F 5 (lo' := [some (vR G 163), some (vI a1), some (vI a2), some (vI a3), some (vI r_4), some (vI 0)]) dX12_isSymbol_26 (by decide) rfl rfl rfl ?_
        refine kx_iload 30 F 4 dX12_isSymbol_28 rfl rfl ?_
        refine kx_if_ne 33 F 38 dX12_isSymbol_30 (by decide) rfl (by omega) (fun h_24 => ?_) (fun h_24 => (by exfalso; omega))
        refine kx_iload_n 39 F 3 dX12_isSymbol_38 rfl rfl rfl ?_
        refine kx_iconst 40 F dX12_isSymbol_39 rfl ?_
        refine kx_icmp_eq 43 F 54 dX12_isSymbol_40 (by decide) rfl (by omega) (by decide) (fun h_25 => (by exfalso; omega)) (fun h_25 => ?_)
        refine kx_iload 45 F 4 dX12_isSymbol_43 rfl rfl ?_
        refine kx_iconst 46 F dX12_isSymbol_45 rfl ?_
        refine kx_icmp_ne 49 F 58 dX12_isSymbol_46 (by decide) rfl (by omega) (by decide) (fun h_26 => (by exfalso; omega)) (fun h_26 => ?_)
        refine kx_iload 51 F 5 dX12_isSymbol_49 rfl rfl ?_
        refine kx_if_eq 54 F 58 dX12_isSymbol_51 (by decide) rfl (by decide) (fun h_27 => ?_) (fun h_27 => (by exfalso; omega))
        refine kx_iconst 59 F dX12_isSymbol_58 rfl ?_
        exact kx_zret F hQ (by omega) ⟨rfl, (by omega), (Or.inr ⟨by omega, fun h => by unfold zSY at h; omega⟩)⟩ dX12_isSymbol_59
      · refine kx_iconst 22 F dX12_isSymbol_21 rfl ?_
        refine kx_goto 26 F dX12_isSymbol_22 (by decide) ?_
        refine kx_istore 28 F 5 (lo' := [some (vR G 163), some (vI a1), some (vI a2), some (vI a3), some (vI r_4), some (vI 1)]) dX12_isSymbol_26 (by decide) rfl rfl rfl ?_
        refine kx_iload 30 F 4 dX12_isSymbol_28 rfl rfl ?_
        refine kx_if_ne 33 F 38 dX12_isSymbol_30 (by decide) rfl (by omega) (fun h_28 => ?_) (fun h_28 => (by exfalso; omega))
        refine kx_iload_n 39 F 3 dX12_isSymbol_38 rfl rfl rfl ?_
        refine kx_iconst 40 F dX12_isSymbol_39 rfl ?_
        refine kx_icmp_eq 43 F 54 dX12_isSymbol_40 (by decide) rfl (by omega) (by decide) (fun h_29 => (by exfalso; omega)) (fun h_29 => ?_)
        refine kx_iload 45 F 4 dX12_isSymbol_43 rfl rfl ?_
        refine kx_iconst 46 F dX12_isSymbol_45 rfl ?_
        refine kx_icmp_ne 49 F 58 dX12_isSymbol_46 (by decide) rfl (by omega) (by decide) (fun h_30 => (by exfalso; omega)) (fun h_30 => ?_)
        refine kx_iload 51 F 5 dX12_isSymbol_49 rfl rfl ?_
        refine kx_if_eq 54 F 58 dX12_isSymbol_51 (by decide) rfl (by decide) (fun h_31 => (by exfalso; omega)) (fun h_31 => ?_)
        refine kx_iconst 55 F dX12_isSymbol_54 rfl ?_
        refine kx_goto 59 F dX12_isSymbol_55 (by decide) ?_
        exact kx_zret F hQ (by omega) ⟨rfl, (by omega), (Or.inl ⟨by omega, by unfold zSY; omega⟩)⟩ dX12_isSymbol_59
  · refine kx_istore 7 F 4 (lo' := [some (vR G 163), some (vI a1), some (vI a2), some (vI a3), some (vI r_4), none]) dX12_isSymbol_5 (by decide) rfl rfl rfl ?_
    refine kx_iload_n 8 F 3 dX12_isSymbol_7 rfl rfl rfl ?_
    refine kx_if_lt 11 F 25 dX12_isSymbol_8 (by decide) rfl (by omega) (fun h_32 => ?_) (fun h_32 => ?_)
    · refine kx_iconst 26 F dX12_isSymbol_25 rfl ?_
      refine kx_istore 28 F 5 (lo' := [some (vR G 163), some (vI a1), some (vI a2), some (vI a3), some (vI r_4), some (vI 0)]) dX12_isSymbol_26 (by decide) rfl rfl rfl ?_
      refine kx_iload 30 F 4 dX12_isSymbol_28 rfl rfl ?_
      refine kx_if_ne 33 F 38 dX12_isSymbol_30 (by decide) rfl (by omega) (fun h_33 => ?_) (fun h_33 => (by exfalso; omega))
      refine kx_iload_n 39 F 3 dX12_isSymbol_38 rfl rfl rfl ?_
      refine kx_iconst 40 F dX12_isSymbol_39 rfl ?_
      refine kx_icmp_eq 43 F 54 dX12_isSymbol_40 (by decide) rfl (by omega) (by decide) (fun h_34 => ?_) (fun h_34 => ?_)
      · refine kx_iconst 55 F dX12_isSymbol_54 rfl ?_
        refine kx_goto 59 F dX12_isSymbol_55 (by decide) ?_
        exact kx_zret F hQ (by omega) ⟨rfl, (by omega), (Or.inl ⟨by omega, by unfold zSY; omega⟩)⟩ dX12_isSymbol_59
      · refine kx_iload 45 F 4 dX12_isSymbol_43 rfl rfl ?_
        refine kx_iconst 46 F dX12_isSymbol_45 rfl ?_
        refine kx_icmp_ne 49 F 58 dX12_isSymbol_46 (by decide) rfl (by omega) (by decide) (fun h_35 => ?_) (fun h_35 => (by exfalso; omega))
        refine kx_iconst 59 F dX12_isSymbol_58 rfl ?_
        exact kx_zret F hQ (by omega) ⟨rfl, (by omega), (Or.inr ⟨by omega, fun h => by unfold zSY at h; omega⟩)⟩ dX12_isSymbol_59
    · refine kx_iload_n 12 F 3 dX12_isSymbol_11 rfl rfl rfl ?_
      refine kx_aload_n 13 F 0 dX12_isSymbol_12 rfl rfl rfl ?_
      refine kx_iload_n 14 F 1 dX12_isSymbol_13 rfl rfl rfl ?_
      refine kx_iconst 15 F dX12_isSymbol_14 rfl ?_
      refine kx_Vi 18 (ci := 0) F (As := [vI a1, vI 1]) (st := [vI a3]) vd_X12_288 (e_of1 G l M a1 1 hI_M (by omega)) kd_163 rfl rfl rfl ⟨by decide, by decide⟩ rfl rfl (Nat.le_of_ble_eq_true rfl) dX12_isSymbol_15 rfl ?_
      intro r_36 N_37 q_38
      obtain ⟨rfl, q_38c⟩ := q_38
      refine kx_topi (e' := (M 164 (85 * a1 + 101))) (by omega) ?_
      refine kx_icmp_ge 21 F 25 dX12_isSymbol_18 (by decide) rfl (by omega) (by omega) (fun h_39 => ?_) (fun h_39 => ?_)
      · refine kx_iconst 26 F dX12_isSymbol_25 rfl ?_
        refine kx_istore 28 F 5 (lo' := [some (vR G 163), some (vI a1), some (vI a2), some (vI a3), some (vI r_4), some (vI 0)]) dX12_isSymbol_26 (by decide) rfl rfl rfl ?_
        refine kx_iload 30 F 4 dX12_isSymbol_28 rfl rfl ?_
        refine kx_if_ne 33 F 38 dX12_isSymbol_30 (by decide) rfl (by omega) (fun h_40 => ?_) (fun h_40 => (by exfalso; omega))
        refine kx_iload_n 39 F 3 dX12_isSymbol_38 rfl rfl rfl ?_
        refine kx_iconst 40 F dX12_isSymbol_39 rfl ?_
        refine kx_icmp_eq 43 F 54 dX12_isSymbol_40 (by decide) rfl (by omega) (by decide) (fun h_41 => (by exfalso; omega)) (fun h_41 => ?_)
        refine kx_iload 45 F 4 dX12_isSymbol_43 rfl rfl ?_
        refine kx_iconst 46 F dX12_isSymbol_45 rfl ?_
        refine kx_icmp_ne 49 F 58 dX12_isSymbol_46 (by decide) rfl (by omega) (by decide) (fun h_42 => ?_) (fun h_42 => (by exfalso; omega))
        refine kx_iconst 59 F dX12_isSymbol_58 rfl ?_
        exact kx_zret F hQ (by omega) ⟨rfl, (by omega), (Or.inr ⟨by omega, fun h => by unfold zSY at h; omega⟩)⟩ dX12_isSymbol_59
      · refine kx_iconst 22 F dX12_isSymbol_21 rfl ?_
        refine kx_goto 26 F dX12_isSymbol_22 (by decide) ?_
        refine kx_istore 28 F 5 (lo' := [some (vR G 163), some (vI a1), some (vI a2), some (vI a3), some (vI r_4), some (vI 1)]) dX12_isSymbol_26 (by decide) rfl rfl rfl ?_
        refine kx_iload 30 F 4 dX12_isSymbol_28 rfl rfl ?_
        refine kx_if_ne 33 F 38 dX12_isSymbol_30 (by decide) rfl (by omega) (fun h_43 => ?_) (fun h_43 => (by exfalso; omega))
        refine kx_iload_n 39 F 3 dX12_isSymbol_38 rfl rfl rfl ?_
        refine kx_iconst 40 F dX12_isSymbol_39 rfl ?_
        refine kx_icmp_eq 43 F 54 dX12_isSymbol_40 (by decide) rfl (by omega) (by decide) (fun h_44 => (by exfalso; omega)) (fun h_44 => ?_)
        refine kx_iload 45 F 4 dX12_isSymbol_43 rfl rfl ?_
        refine kx_iconst 46 F dX12_isSymbol_45 rfl ?_
        refine kx_icmp_ne 49 F 58 dX12_isSymbol_46 (by decide) rfl (by omega) (by decide) (fun h_45 => ?_) (fun h_45 => (by exfalso; omega))
        refine kx_iconst 59 F dX12_isSymbol_58 rfl ?_
        exact kx_zret F hQ (by omega) ⟨rfl, (by omega), (Or.inr ⟨by omega, fun h => by unfold zSY at h; omega⟩)⟩ dX12_isSymbol_59
set_option maxHeartbeats 4000000 in
set_option maxRecDepth 100000 in
theorem e_isRule0 (G : KG) (l : Launch) (M : Mem) (a1 : Int) (a2 : Int) (a3 : Int) (a4 : Int) (a5 : Int) (a6 : Int) (a7 : Int) (hI_M : Inv true M) (hpre : -2147483648 ≤ a1 ∧ a1 ≤ 2147483647 ∧ -2147483648 ≤ a2 ∧ a2 ≤ 2147483647 ∧ -2147483648 ≤ a3 ∧ a3 ≤ 2147483647 ∧ -2147483648 ≤ a4 ∧ a4 ≤ 2147483647 ∧ -2147483648 ≤ a5 ∧ a5 ≤ 2147483647 ∧ -2147483648 ≤ a6 ∧ a6 ≤ 2147483647 ∧ -2147483648 ≤ a7 ∧ a7 ≤ 2147483647 ∧ a1 = 0 ∧ 0 ≤ a2 ∧ a2 ≤ 1 ∧ 0 ≤ a3 ∧ a3 ≤ 20) (q : Int → Int) (b : Int) (hT : zRB (M 164) q b) (hb : b = 100 + 85 * a2) (hm : a3 = q (b + 4)) : KC true G l yX12_isRule cX12_isRule 10 (some .boolean) (2, 43) [vR G 163, vI a1, vI a2, vI a3, vI a4, vI a5, vI a6, vI a7] M (fun A => kQi true G A (fun (r : Int) (N : Mem) => M = N ∧ ((r = 1 ∧ (rq q b a4 a5 a6 a7) = 1) ∨ (r = 0 ∧ (rq q b a4 a5 a6 a7) = 0)))) := by
  refine kx_met (lo := [some (vR G 163), some (vI a1), some (vI a2), some (vI a3), some (vI a4), some (vI a5), some (vI a6), some (vI a7), none, none]) (by decide) (Nat.le_of_ble_eq_true rfl) rfl ?_
  intro X F hQ
  refine kx_iconst 1 F dX12_isRule_0 rfl ?_
  refine kx_istore 3 F 8 (lo' := [some (vR G 163), some (vI a1), some (vI a2), some (vI a3), some (vI a4), some (vI a5), some (vI a6), some (vI a7), some (vI 0), none]) dX12_isRule_1 (by decide) rfl rfl rfl ?_
  have L_142 : ∀ (n_143 : Nat) (x8_141 : Int), RN M q b a4 a5 a6 a7 x8_141 → 0 ≤ x8_141 ∧ x8_141 ≤ 20 → (20 - (x8_141)).toNat = n_143 → KJ true G X M 3 [some (vR G 163), some (vI a1), some (vI a2), some (vI a3), some (vI a4), some (vI a5), some (vI a6), some (vI a7), some (vI x8_141), none] [] := by
    intro n_143
    refine Nat.strongRecOn n_143 ?_
    intro n_143 ih_144 x8_141 hp_147 h_145 hm_146
    refine kx_iload 5 F 8 dX12_isRule_3 rfl rfl ?_
    refine kx_iload_n 6 F 3 dX12_isRule_5 rfl rfl rfl ?_
    refine kx_icmp_ge 9 F 80 dX12_isRule_6 (by decide) rfl (by omega) (by omega) (fun h_148 => ?_) (fun h_148 => ?_)
    · have hd_149 : rq q b a4 a5 a6 a7 = 0 := RN.fin hp_147 (by omega)
      refine kx_iconst 81 F dX12_isRule_80 rfl ?_
      exact kx_zret F hQ (by omega) ⟨rfl, (by omega)⟩ dX12_isRule_81
    · refine kx_iload_n 10 F 1 dX12_isRule_9 rfl rfl rfl ?_
      refine kx_iload_n 11 F 2 dX12_isRule_10 rfl rfl rfl ?_
      refine kx_iload 13 F 8 dX12_isRule_11 rfl rfl ?_
      refine kx_Si 16 F (As := [vI a1, vI a2, vI x8_141]) (st := []) sd_X12_243 (c_X12_ruleRow G l M a1 a2 x8_141 hI_M (by omega)) ⟨by decide, by decide⟩ rfl rfl (Nat.le_of_ble_eq_true rfl) dX12_isRule_13 rfl ?_
      intro r_150 N_151 q_152
      obtain ⟨rfl, q_152c⟩ := q_152
      refine kx_topi (e' := a1 + 85 * a2 + 4 * x8_141 + 105) (by omega) ?_
      refine kx_istore 18 F 9 (lo' := [some (vR G 163), some (vI a1), some (vI a2), some (vI a3), some (vI a4), some (vI a5), some (vI a6), some (vI a7), some (vI x8_141), some (vI (a1 + 85 * a2 + 4 * x8_141 + 105))]) dX12_isRule_16 (by decide) rfl rfl rfl ?_
      have hr_153 := hT.rr (k := x8_141) (y0 := a1 + 85 * a2 + 4 * x8_141 + 105) (y1 := a1 + 85 * a2 + 4 * x8_141 + 106) (y2 := a1 + 85 * a2 + 4 * x8_141 + 107) (y3 := a1 + 85 * a2 + 4 * x8_141 + 108) (by omega) (by omega) (by omega) (by omega) (by omega) (by omega)
      refine kx_aload_n 19 F 0 dX12_isRule_18 rfl rfl rfl ?_
      refine kx_getr 22 F fl_X12_7 kd_163 rfl rfl (j := 0) rfl dX12_isRule_19 (v := 164) (uq_164 (Inv.r hI_M kd_163 rfl 0 rfl rfl)) rfl ?_
      refine kx_iload 24 F 9 dX12_isRule_22 rfl rfl ?_
      refine kx_iald 25 F kd_164 rfl rfl (by omega) (by decide) dX12_isRule_24 (v := (M 164 (a1 + 85 * a2 + 4 * x8_141 + 105))) rfl rfl ?_
      have ha_154 : atlo (a1 + 85 * a2 + 4 * x8_141 + 105) = 0 ∧ athi (a1 + 85 * a2 + 4 * x8_141 + 105) = 5 := at_r (a1 + 85 * a2 + 4 * x8_141 + 105) 0 a2 x8_141 0 (by omega) (by omega) (by omega) (by decide)
      have h_155 := Inv.g hI_M kd_164 rfl (a1 + 85 * a2 + 4 * x8_141 + 105) (a := 0) (b := 5) ha_154.1 ha_154.2
      refine kx_iload 27 F 4 dX12_isRule_25 rfl rfl ?_
      refine kx_icmp_ne 30 F 74 dX12_isRule_27 (by decide) rfl (by omega) (by omega) (fun h_156 => ?_) (fun h_156 => ?_)
      · refine kx_iinc 77 F 8 (v := x8_141 + 1) (lo' := [some (vR G 163), some (vI a1), some (vI a2), some (vI a3), some (vI a4), some (vI a5), some (vI a6), some (vI a7), some (vI (x8_141 + 1)), some (vI (a1 + 85 * a2 + 4 * x8_141 + 105))]) dX12_isRule_74 rfl (by omega) (by decide) rfl rfl rfl ?_
        refine kx_goto 3 F dX12_isRule_77 (by decide) ?_
        refine kx_drop 9 (lo' := [some (vR G 163), some (vI a1), some (vI a2), some (vI a3), some (vI a4), some (vI a5), some (vI a6), some (vI a7), some (vI (x8_141 + 1)), none]) rfl ?_
        exact ih_144 _ (by omega) (x8_141 + 1) (RN.step hp_147 (by omega)) (by omega) rfl
      · refine kx_aload_n 31 F 0 dX12_isRule_30 rfl rfl rfl ?_
        refine kx_getr 34 F fl_X12_7 kd_163 rfl rfl (j := 0) rfl dX12_isRule_31 (v := 164) (uq_164 (Inv.r hI_M kd_163 rfl 0 rfl rfl)) rfl ?_
        refine kx_iload 36 F 9 dX12_isRule_34 rfl rfl ?_
        refine kx_iconst 37 F dX12_isRule_36 rfl ?_
        refine kx_iadd 38 F (v := a1 + 85 * a2 + 4 * x8_141 + 106) dX12_isRule_37 (by omega) rfl ?_
        refine kx_iald 39 F kd_164 rfl rfl (by omega) (by decide) dX12_isRule_38 (v := (M 164 (a1 + 85 * a2 + 4 * x8_141 + 106))) rfl rfl ?_
        have ha_157 : atlo (a1 + 85 * a2 + 4 * x8_141 + 106) = 0 ∧ athi (a1 + 85 * a2 + 4 * x8_141 + 106) = 2 := at_r (a1 + 85 * a2 + 4 * x8_141 + 106) 0 a2 x8_141 1 (by omega) (by omega) (by omega) (by decide)
        have h_158 := Inv.g hI_M kd_164 rfl (a1 + 85 * a2 + 4 * x8_141 + 106) (a := 0) (b := 2) ha_157.1 ha_157.2
        refine kx_iload 41 F 5 dX12_isRule_39 rfl rfl ?_
        refine kx_icmp_ne 44 F 74 dX12_isRule_41 (by decide) rfl (by omega) (by omega) (fun h_159 => ?_) (fun h_159 => ?_)
        · refine kx_iinc 77 F 8 (v := x8_141 + 1) (lo' := [some (vR G 163), some (vI a1), some (vI a2), some (vI a3), some (vI a4), some (vI a5), some (vI a6), some (vI a7), some (vI (x8_141 + 1)), some (vI (a1 + 85 * a2 + 4 * x8_141 + 105))]) dX12_isRule_74 rfl (by omega) (by decide) rfl rfl rfl ?_
          refine kx_goto 3 F dX12_isRule_77 (by decide) ?_
          refine kx_drop 9 (lo' := [some (vR G 163), some (vI a1), some (vI a2), some (vI a3), some (vI a4), some (vI a5), some (vI a6), some (vI a7), some (vI (x8_141 + 1)), none]) rfl ?_
          exact ih_144 _ (by omega) (x8_141 + 1) (RN.step hp_147 (by omega)) (by omega) rfl
        · refine kx_aload_n 45 F 0 dX12_isRule_44 rfl rfl rfl ?_
          refine kx_getr 48 F fl_X12_7 kd_163 rfl rfl (j := 0) rfl dX12_isRule_45 (v := 164) (uq_164 (Inv.r hI_M kd_163 rfl 0 rfl rfl)) rfl ?_
          refine kx_iload 50 F 9 dX12_isRule_48 rfl rfl ?_
          refine kx_iconst 51 F dX12_isRule_50 rfl ?_
          refine kx_iadd 52 F (v := a1 + 85 * a2 + 4 * x8_141 + 107) dX12_isRule_51 (by omega) rfl ?_
          refine kx_iald 53 F kd_164 rfl rfl (by omega) (by decide) dX12_isRule_52 (v := (M 164 (a1 + 85 * a2 + 4 * x8_141 + 107))) rfl rfl ?_
          have ha_160 : atlo (a1 + 85 * a2 + 4 * x8_141 + 107) = 0 ∧ athi (a1 + 85 * a2 + 4 * x8_141 + 107) = 2 := at_r (a1 + 85 * a2 + 4 * x8_141 + 107) 0 a2 x8_141 2 (by omega) (by omega) (by omega) (by decide)
          have h_161 := Inv.g hI_M kd_164 rfl (a1 + 85 * a2 + 4 * x8_141 + 107) (a := 0) (b := 2) ha_160.1 ha_160.2
          refine kx_iload 55 F 6 dX12_isRule_53 rfl rfl ?_
          refine kx_icmp_ne 58 F 74 dX12_isRule_55 (by decide) rfl (by omega) (by omega) (fun h_162 => ?_) (fun h_162 => ?_)
          · refine kx_iinc 77 F 8 (v := x8_141 + 1) (lo' := [some (vR G 163), some (vI a1), some (vI a2), some (vI a3), some (vI a4), some (vI a5), some (vI a6), some (vI a7), some (vI (x8_141 + 1)), some (vI (a1 + 85 * a2 + 4 * x8_141 + 105))]) dX12_isRule_74 rfl (by omega) (by decide) rfl rfl rfl ?_
            refine kx_goto 3 F dX12_isRule_77 (by decide) ?_
            refine kx_drop 9 (lo' := [some (vR G 163), some (vI a1), some (vI a2), some (vI a3), some (vI a4), some (vI a5), some (vI a6), some (vI a7), some (vI (x8_141 + 1)), none]) rfl ?_
            exact ih_144 _ (by omega) (x8_141 + 1) (RN.step hp_147 (by omega)) (by omega) rfl
          · refine kx_aload_n 59 F 0 dX12_isRule_58 rfl rfl rfl ?_
            refine kx_getr 62 F fl_X12_7 kd_163 rfl rfl (j := 0) rfl dX12_isRule_59 (v := 164) (uq_164 (Inv.r hI_M kd_163 rfl 0 rfl rfl)) rfl ?_
            refine kx_iload 64 F 9 dX12_isRule_62 rfl rfl ?_
            refine kx_iconst 65 F dX12_isRule_64 rfl ?_
            refine kx_iadd 66 F (v := a1 + 85 * a2 + 4 * x8_141 + 108) dX12_isRule_65 (by omega) rfl ?_
            refine kx_iald 67 F kd_164 rfl rfl (by omega) (by decide) dX12_isRule_66 (v := (M 164 (a1 + 85 * a2 + 4 * x8_141 + 108))) rfl rfl ?_
            have ha_163 : atlo (a1 + 85 * a2 + 4 * x8_141 + 108) = (-1) ∧ athi (a1 + 85 * a2 + 4 * x8_141 + 108) = 2 := at_r (a1 + 85 * a2 + 4 * x8_141 + 108) 0 a2 x8_141 3 (by omega) (by omega) (by omega) (by decide)
            have h_164 := Inv.g hI_M kd_164 rfl (a1 + 85 * a2 + 4 * x8_141 + 108) (a := (-1)) (b := 2) ha_163.1 ha_163.2
            refine kx_iload 69 F 7 dX12_isRule_67 rfl rfl ?_
            refine kx_icmp_ne 72 F 74 dX12_isRule_69 (by decide) rfl (by omega) (by omega) (fun h_165 => ?_) (fun h_165 => ?_)
            · refine kx_iinc 77 F 8 (v := x8_141 + 1) (lo' := [some (vR G 163), some (vI a1), some (vI a2), some (vI a3), some (vI a4), some (vI a5), some (vI a6), some (vI a7), some (vI (x8_141 + 1)), some (vI (a1 + 85 * a2 + 4 * x8_141 + 105))]) dX12_isRule_74 rfl (by omega) (by decide) rfl rfl rfl ?_
              refine kx_goto 3 F dX12_isRule_77 (by decide) ?_
              refine kx_drop 9 (lo' := [some (vR G 163), some (vI a1), some (vI a2), some (vI a3), some (vI a4), some (vI a5), some (vI a6), some (vI a7), some (vI (x8_141 + 1)), none]) rfl ?_
              exact ih_144 _ (by omega) (x8_141 + 1) (RN.step hp_147 (by omega)) (by omega) rfl
            · have hd_166 : rq q b a4 a5 a6 a7 = 1 := RN.hit (x := x8_141) (by omega) (by omega) (by omega) (by omega) (by omega)
              refine kx_iconst 73 F dX12_isRule_72 rfl ?_
              exact kx_zret F hQ (by omega) ⟨rfl, (by omega)⟩ dX12_isRule_73
  exact L_142 _ 0 RN.nil (by omega) rfl
abbrev f_e_add2m : List (Nat × Int) := [(64, 2), (65, -1)]
set_option maxHeartbeats 4000000 in
set_option maxRecDepth 100000 in
theorem e_add2m (G : KG) (l : Launch) (M : Mem) (a1 : Int) (a2 : Int) (a3 : Int) (a4 : Int) (a5 : Int) (hI_M : Inv true M) (hpre : -2147483648 ≤ a1 ∧ a1 ≤ 2147483647 ∧ -2147483648 ≤ a2 ∧ a2 ≤ 2147483647 ∧ -2147483648 ≤ a3 ∧ a3 ≤ 2147483647 ∧ -2147483648 ≤ a4 ∧ a4 ≤ 2147483647 ∧ -2147483648 ≤ a5 ∧ a5 ≤ 2147483647) (hY : YY M) (q : Int → Int) (hS : zRN (M 164) q) (hU : zRU (M 164) q) (hV : zQV q) : KC true G l yX12_add cX12_add 8 (some .int) (3, 72) [vR G 163, vI a1, vI a2, vI a3, vI a4, vI a5] M (fun A => kQi true G A (fun (r : Int) (N : Mem) => Inv true N ∧ Fr f_e_add2m M N ∧ (r ≥ -2147483648 ∧ r ≤ 2147483647) ∧ ((YY N) ∧ ((∃ q2, zAD q a1 a2 a3 a4 a5 r q2 ∧ zRN (N 164) q2 ∧ zRU (N 164) q2) ∧ zRO N M)))) := by
  refine kx_met (lo := [some (vR G 163), some (vI a1), some (vI a2), some (vI a3), some (vI a4), some (vI a5), none, none]) (by decide) (Nat.le_of_ble_eq_true rfl) rfl ?_
  intro X F hQ
  have hF_M : Fr f_e_add2m M M := Fr.rf _ _
  have hSn := hS.u
  have hVu := hV.u
  have h_1 := Inv.g hI_M kd_164 rfl 0 (a := 0) (b := 2) (at_c 0 0 (o := 0) (lo := 0) (hi := 2) (by omega) (by decide) (by decide) (by decide)).1 (at_c 0 0 (o := 0) (lo := 0) (hi := 2) (by omega) (by decide) (by decide) (by decide)).2
  have h_2 := Inv.g hI_M kd_164 rfl 1 (a := 0) (b := 2) (at_c 1 0 (o := 1) (lo := 0) (hi := 2) (by omega) (by decide) (by decide) (by decide)).1 (at_c 1 0 (o := 1) (lo := 0) (hi := 2) (by omega) (by decide) (by decide) (by decide)).2
  have h_3 := Inv.g hI_M kd_164 rfl 2 (a := 0) (b := 2) (at_c 2 0 (o := 2) (lo := 0) (hi := 2) (by omega) (by decide) (by decide) (by decide)).1 (at_c 2 0 (o := 2) (lo := 0) (hi := 2) (by omega) (by decide) (by decide) (by decide)).2
  refine kx_aload_n 1 F 0 dX12_add_0 rfl rfl rfl ?_
  refine kx_iload_n 2 F 1 dX12_add_1 rfl rfl rfl ?_
  refine kx_Vi 5 (ci := 0) F (As := [vI a1]) (st := []) vd_X12_282 (e_X12_isAutomaton G l M a1 hI_M (by omega)) kd_163 rfl rfl rfl ⟨by decide, by decide⟩ rfl rfl (Nat.le_of_ble_eq_true rfl) dX12_add_2 rfl ?_
  intro r_4 N_5 q_6
  obtain ⟨rfl, q_6c⟩ := q_6
  rcases q_6c with q_6c | q_6c | q_6c
  · refine kx_if_eq 8 F 46 dX12_add_5 (by decide) rfl (by omega) (fun h_7 => (by exfalso; omega)) (fun h_7 => ?_)
    refine kx_aload_n 9 F 0 dX12_add_8 rfl rfl rfl ?_
    refine kx_iload_n 10 F 2 dX12_add_9 rfl rfl rfl ?_
    refine kx_Vi 13 (ci := 0) F (As := [vI a2]) (st := []) vd_X12_300 (e_isLetterX G l M a2 hI_M (by omega)) kd_163 rfl rfl rfl ⟨by decide, by decide⟩ rfl rfl (Nat.le_of_ble_eq_true rfl) dX12_add_10 rfl ?_
    intro r_8 N_9 q_10
    obtain ⟨rfl, q_10c⟩ := q_10
    rcases q_10c with q_10c | q_10c | q_10c
    · refine kx_if_eq 16 F 46 dX12_add_13 (by decide) rfl (by omega) (fun h_11 => (by exfalso; omega)) (fun h_11 => ?_)
      refine kx_aload_n 17 F 0 dX12_add_16 rfl rfl rfl ?_
      refine kx_iload_n 18 F 1 dX12_add_17 rfl rfl rfl ?_
      refine kx_iload_n 19 F 3 dX12_add_18 rfl rfl rfl ?_
      refine kx_Vi 22 (ci := 0) F (As := [vI a1, vI a3]) (st := []) vd_X12_303 (e_isStateX G l M a1 a3 hI_M (by omega)) kd_163 rfl rfl rfl ⟨by decide, by decide⟩ rfl rfl (Nat.le_of_ble_eq_true rfl) dX12_add_19 rfl ?_
      intro r_12 N_13 q_14
      obtain ⟨rfl, q_14c⟩ := q_14
      rcases q_14c with q_14c | q_14c | q_14c
      · refine kx_if_eq 25 F 46 dX12_add_22 (by decide) rfl (by omega) (fun h_15 => (by exfalso; omega)) (fun h_15 => ?_)
        refine kx_aload_n 26 F 0 dX12_add_25 rfl rfl rfl ?_
        refine kx_iload_n 27 F 1 dX12_add_26 rfl rfl rfl ?_
        refine kx_iload 29 F 4 dX12_add_27 rfl rfl ?_
        refine kx_Vi 32 (ci := 0) F (As := [vI a1, vI a4]) (st := []) vd_X12_303 (e_isStateX G l M a1 a4 hI_M (by omega)) kd_163 rfl rfl rfl ⟨by decide, by decide⟩ rfl rfl (Nat.le_of_ble_eq_true rfl) dX12_add_29 rfl ?_
        intro r_16 N_17 q_18
        obtain ⟨rfl, q_18c⟩ := q_18
        rcases q_18c with q_18c | q_18c | q_18c
        · refine kx_if_eq 35 F 46 dX12_add_32 (by decide) rfl (by omega) (fun h_19 => (by exfalso; omega)) (fun h_19 => ?_)
          refine kx_aload_n 36 F 0 dX12_add_35 rfl rfl rfl ?_
          refine kx_iload_n 37 F 1 dX12_add_36 rfl rfl rfl ?_
          refine kx_iload_n 38 F 2 dX12_add_37 rfl rfl rfl ?_
          refine kx_iload 40 F 5 dX12_add_38 rfl rfl ?_
          refine kx_Vi 43 (ci := 0) F (As := [vI a1, vI a2, vI a5]) (st := []) vd_X12_306 (e_isSymbolX G l M a1 a2 a5 hI_M (by omega)) kd_163 rfl rfl rfl ⟨by decide, by decide⟩ rfl rfl (Nat.le_of_ble_eq_true rfl) dX12_add_40 rfl ?_
          intro r_20 N_21 q_22
          obtain ⟨rfl, q_22c, hy_N_21⟩ := q_22
          refine kx_if_ne 46 F 52 dX12_add_43 (by decide) rfl (by omega) (fun h_23 => ?_) (fun h_23 => ?_)
          · have hqb := hU.b (a := a1) (b := 85 * a1 + 100) (by omega) rfl
            have hq0 : M 164 (85 * a1 + 100) = q (85 * a1 + 100) := hqb.n (d := 0) (by decide) (by omega)
            have hq1 : M 164 (85 * a1 + 101) = q (85 * a1 + 101) := hqb.n (d := 1) (by decide) (by omega)
            have hq4 : M 164 (85 * a1 + 104) = q (85 * a1 + 104) := hqb.n (d := 4) (by decide) (by omega)
            have ha_24 : atlo (85 * a1 + 100) = 0 ∧ athi (85 * a1 + 100) = 3 := at_a (85 * a1 + 100) 0 a1 0 (by omega) (by omega) (by decide)
            have h_25 := Inv.g hI_M kd_164 rfl (85 * a1 + 100) (a := 0) (b := 3) ha_24.1 ha_24.2
            have ha_26 : atlo (85 * a1 + 101) = 0 ∧ athi (85 * a1 + 101) = 3 := at_a (85 * a1 + 101) 0 a1 1 (by omega) (by omega) (by decide)
            have h_27 := Inv.g hI_M kd_164 rfl (85 * a1 + 101) (a := 0) (b := 3) ha_26.1 ha_26.2
            have hsy := hy_N_21.y (by omega)
            have hadk : zADk q a1 a2 a3 a4 a5 := ⟨by omega, by omega, by omega, by omega, by omega, by omega, by omega, by omega, by rw [hSn.1, hSn.2.1, hq1] at hsy; exact hsy⟩
            have hk5 : -1 ≤ a5 ∧ a5 ≤ 2 := by have h := hsy; unfold zSY at h; omega
            refine kx_aload_n 53 F 0 dX12_add_52 rfl rfl rfl ?_
            refine kx_iload_n 54 F 1 dX12_add_53 rfl rfl rfl ?_
            refine kx_iconst 55 F dX12_add_54 rfl ?_
            refine kx_Vi 58 (ci := 0) F (As := [vI a1, vI 4]) (st := []) vd_X12_288 (e_of4 G l M a1 4 hI_M (by omega)) kd_163 rfl rfl rfl ⟨by decide, by decide⟩ rfl rfl (Nat.le_of_ble_eq_true rfl) dX12_add_55 rfl ?_
            intro r_28 N_29 q_30
            obtain ⟨rfl, q_30c⟩ := q_30
            refine kx_topi (e' := (M 164 (85 * a1 + 104))) (by omega) ?_
            refine kx_istore 60 F 6 (lo' := [some (vR G 163), some (vI a1), some (vI a2), some (vI a3), some (vI a4), some (vI a5), some (vI (M 164 (85 * a1 + 104))), none]) dX12_add_58 (by decide) rfl rfl rfl ?_
            refine kx_iload 62 F 6 dX12_add_60 rfl rfl ?_
            refine kx_bipush 64 F dX12_add_62 (by decide) rfl ?_
            refine kx_icmp_ne 67 F 73 dX12_add_64 (by decide) rfl (by omega) (by decide) (fun h_31 => ?_) (fun h_31 => ?_)
            · refine kx_aload_n 74 F 0 dX12_add_73 rfl rfl rfl ?_
              refine kx_iconst 75 F dX12_add_74 rfl ?_
              refine kx_iload_n 76 F 1 dX12_add_75 rfl rfl rfl ?_
              refine kx_iload 78 F 6 dX12_add_76 rfl rfl ?_
              refine kx_iload_n 79 F 2 dX12_add_78 rfl rfl rfl ?_
              refine kx_iload_n 80 F 3 dX12_add_79 rfl rfl rfl ?_
              refine kx_iload 82 F 4 dX12_add_80 rfl rfl ?_
              refine kx_iload 84 F 5 dX12_add_82 rfl rfl ?_
              refine kx_Vi 87 (ci := 0) F (As := [vI 0, vI a1, vI (M 164 (85 * a1 + 104)), vI a2, vI a3, vI a4, vI a5]) (st := []) vd_X12_253 (e_isRule0 G l M 0 a1 (M 164 (85 * a1 + 104)) a2 a3 a4 a5 hI_M (by omega) q (85 * a1 + 100) hqb (by omega) (by rw [show 85 * a1 + 100 + 4 = 85 * a1 + 104 by omega]; omega)) kd_163 rfl rfl rfl ⟨by decide, by decide⟩ rfl rfl (Nat.le_of_ble_eq_true rfl) dX12_add_84 rfl ?_
              intro r_32 N_33 q_34
              obtain ⟨rfl, q_34c⟩ := q_34
              rcases q_34c with q_34c | q_34c
              · refine kx_if_eq 90 F 97 dX12_add_87 (by decide) rfl (by omega) (fun h_35 => (by exfalso; omega)) (fun h_35 => ?_)
                refine kx_aload_n 91 F 0 dX12_add_90 rfl rfl rfl ?_
                refine kx_bipush 93 F dX12_add_91 (by decide) rfl ?_
                refine kx_Vi 96 (ci := 0) F (As := [vI 7]) (st := []) vd_X12_123 (c_X12_refuse G l M 7 hI_M (by omega)) kd_163 rfl rfl rfl ⟨by decide, by decide⟩ rfl rfl (Nat.le_of_ble_eq_true rfl) dX12_add_93 rfl ?_
                intro r_36 N_37 q_38
                obtain ⟨hI_N_37, hG_N_37, q_38c⟩ := q_38
                have hF_N_37 : Fr f_e_add2m M N_37 := Fr.c hF_M hG_N_37 rfl
                subst q_38c
                exact kx_iret F hQ ⟨hI_N_37, hF_N_37, (by omega), ⟨(YY.fr hY hG_N_37 rfl), ⟨⟨q, Or.inr (Or.inr (Or.inl ⟨hadk, by omega, by omega, by omega, rfl⟩)), by rw [show N_37 164 = M 164 from (funext (fun j => by rw [Fr.e hG_N_37 kd_164 _ rfl]))]; exact hS, by rw [show N_37 164 = M 164 from (funext (fun j => by rw [Fr.e hG_N_37 kd_164 _ rfl]))]; exact hU⟩, fun i _ => by rw [Fr.e hG_N_37 kd_164 _ rfl]⟩⟩⟩ dX12_add_96
              · refine kx_if_eq 90 F 97 dX12_add_87 (by decide) rfl (by omega) (fun h_39 => ?_) (fun h_39 => (by exfalso; omega))
                refine kx_iconst 98 F dX12_add_97 rfl ?_
                refine kx_iload_n 99 F 1 dX12_add_98 rfl rfl rfl ?_
                refine kx_iload 101 F 6 dX12_add_99 rfl rfl ?_
                refine kx_Si 104 F (As := [vI 0, vI a1, vI (M 164 (85 * a1 + 104))]) (st := []) sd_X12_243 (c_X12_ruleRow G l M 0 a1 (M 164 (85 * a1 + 104)) hI_M (by omega)) ⟨by decide, by decide⟩ rfl rfl (Nat.le_of_ble_eq_true rfl) dX12_add_101 rfl ?_
                intro r_40 N_41 q_42
                obtain ⟨rfl, q_42c⟩ := q_42
                refine kx_topi (e' := 85 * a1 + 4 * (M 164 (85 * a1 + 104)) + 105) (by omega) ?_
                refine kx_istore 106 F 7 (lo' := [some (vR G 163), some (vI a1), some (vI a2), some (vI a3), some (vI a4), some (vI a5), some (vI (M 164 (85 * a1 + 104))), some (vI (85 * a1 + 4 * (M 164 (85 * a1 + 104)) + 105))]) dX12_add_104 (by decide) rfl rfl rfl ?_
                refine kx_aload_n 107 F 0 dX12_add_106 rfl rfl rfl ?_
                refine kx_getr 110 F fl_X12_7 kd_163 rfl rfl (j := 0) rfl dX12_add_107 (v := 164) (uq_164 (Inv.r hI_M kd_163 rfl 0 rfl rfl)) rfl ?_
                refine kx_iload 112 F 7 dX12_add_110 rfl rfl ?_
                refine kx_iload_n 113 F 2 dX12_add_112 rfl rfl rfl ?_
                refine kx_iast 114 F kd_164 rfl rfl (by omega) (by decide) dX12_add_113 rfl ?_
                intro N_43 hM_N_43
                have ha_44 : atlo (85 * a1 + 4 * (M 164 (85 * a1 + 104)) + 105) = 0 ∧ athi (85 * a1 + 4 * (M 164 (85 * a1 + 104)) + 105) = 5 := at_r (85 * a1 + 4 * (M 164 (85 * a1 + 104)) + 105) 0 a1 (M 164 (85 * a1 + 104)) 0 (by omega) (by omega) (by omega) (by decide)
                have hI_N_43 : Inv true N_43 := Inv.u hI_M hM_N_43 kd_164 (a := 0) (b := 5) ha_44.1 ha_44.2 rfl (by omega)
                have hF_N_43 : Fr f_e_add2m M N_43 := Fr.u hF_M hM_N_43 kd_164 rfl
                refine kx_aload_n 115 F 0 dX12_add_114 rfl rfl rfl ?_
                refine kx_getr 118 F fl_X12_7 kd_163 rfl rfl (j := 0) rfl dX12_add_115 (v := 164) (uq_164 (Inv.r hI_N_43 kd_163 rfl 0 rfl rfl)) rfl ?_
                refine kx_iload 120 F 7 dX12_add_118 rfl rfl ?_
                refine kx_iconst 121 F dX12_add_120 rfl ?_
                refine kx_iadd 122 F (v := 85 * a1 + 4 * (M 164 (85 * a1 + 104)) + 106) dX12_add_121 (by omega) rfl ?_
                refine kx_iload_n 123 F 3 dX12_add_122 rfl rfl rfl ?_
                refine kx_iast 124 F kd_164 rfl rfl (by omega) (by decide) dX12_add_123 rfl ?_
                intro N_45 hM_N_45
                have ha_46 : atlo (85 * a1 + 4 * (M 164 (85 * a1 + 104)) + 106) = 0 ∧ athi (85 * a1 + 4 * (M 164 (85 * a1 + 104)) + 106) = 2 := at_r (85 * a1 + 4 * (M 164 (85 * a1 + 104)) + 106) 0 a1 (M 164 (85 * a1 + 104)) 1 (by omega) (by omega) (by omega) (by decide)
                have hI_N_45 : Inv true N_45 := Inv.u hI_N_43 hM_N_45 kd_164 (a := 0) (b := 2) ha_46.1 ha_46.2 rfl (by omega)
                have hF_N_45 : Fr f_e_add2m M N_45 := Fr.u hF_N_43 hM_N_45 kd_164 rfl
                refine kx_aload_n 125 F 0 dX12_add_124 rfl rfl rfl ?_
                refine kx_getr 128 F fl_X12_7 kd_163 rfl rfl (j := 0) rfl dX12_add_125 (v := 164) (uq_164 (Inv.r hI_N_45 kd_163 rfl 0 rfl rfl)) rfl ?_
                refine kx_iload 130 F 7 dX12_add_128 rfl rfl ?_
                refine kx_iconst 131 F dX12_add_130 rfl ?_
                refine kx_iadd 132 F (v := 85 * a1 + 4 * (M 164 (85 * a1 + 104)) + 107) dX12_add_131 (by omega) rfl ?_
                refine kx_iload 134 F 4 dX12_add_132 rfl rfl ?_
                refine kx_iast 135 F kd_164 rfl rfl (by omega) (by decide) dX12_add_134 rfl ?_
                intro N_47 hM_N_47
                have ha_48 : atlo (85 * a1 + 4 * (M 164 (85 * a1 + 104)) + 107) = 0 ∧ athi (85 * a1 + 4 * (M 164 (85 * a1 + 104)) + 107) = 2 := at_r (85 * a1 + 4 * (M 164 (85 * a1 + 104)) + 107) 0 a1 (M 164 (85 * a1 + 104)) 2 (by omega) (by omega) (by omega) (by decide)
                have hI_N_47 : Inv true N_47 := Inv.u hI_N_45 hM_N_47 kd_164 (a := 0) (b := 2) ha_48.1 ha_48.2 rfl (by omega)
                have hF_N_47 : Fr f_e_add2m M N_47 := Fr.u hF_N_45 hM_N_47 kd_164 rfl
                refine kx_aload_n 136 F 0 dX12_add_135 rfl rfl rfl ?_
                refine kx_getr 139 F fl_X12_7 kd_163 rfl rfl (j := 0) rfl dX12_add_136 (v := 164) (uq_164 (Inv.r hI_N_47 kd_163 rfl 0 rfl rfl)) rfl ?_
                refine kx_iload 141 F 7 dX12_add_139 rfl rfl ?_
                refine kx_iconst 142 F dX12_add_141 rfl ?_
                refine kx_iadd 143 F (v := 85 * a1 + 4 * (M 164 (85 * a1 + 104)) + 108) dX12_add_142 (by omega) rfl ?_
                refine kx_iload 145 F 5 dX12_add_143 rfl rfl ?_
                refine kx_iast 146 F kd_164 rfl rfl (by omega) (by decide) dX12_add_145 rfl ?_
                intro N_49 hM_N_49
                have ha_50 : atlo (85 * a1 + 4 * (M 164 (85 * a1 + 104)) + 108) = (-1) ∧ athi (85 * a1 + 4 * (M 164 (85 * a1 + 104)) + 108) = 2 := at_r (85 * a1 + 4 * (M 164 (85 * a1 + 104)) + 108) 0 a1 (M 164 (85 * a1 + 104)) 3 (by omega) (by omega) (by omega) (by decide)
                have hI_N_49 : Inv true N_49 := Inv.u hI_N_47 hM_N_49 kd_164 (a := (-1)) (b := 2) ha_50.1 ha_50.2 rfl (by omega)
                have hF_N_49 : Fr f_e_add2m M N_49 := Fr.u hF_N_47 hM_N_49 kd_164 rfl
                refine kx_aload_n 147 F 0 dX12_add_146 rfl rfl rfl ?_
                refine kx_getr 150 F fl_X12_7 kd_163 rfl rfl (j := 0) rfl dX12_add_147 (v := 164) (uq_164 (Inv.r hI_N_49 kd_163 rfl 0 rfl rfl)) rfl ?_
                refine kx_iconst 151 F dX12_add_150 rfl ?_
                refine kx_iload_n 152 F 1 dX12_add_151 rfl rfl rfl ?_
                refine kx_Si 155 F (As := [vI 0, vI a1]) (st := [vR G 164]) sd_X12_216 (c_X12_rowOf G l N_49 0 a1 hI_N_49 (by omega)) ⟨by decide, by decide⟩ rfl rfl (Nat.le_of_ble_eq_true rfl) dX12_add_152 rfl ?_
                intro r_51 N_52 q_53
                obtain ⟨rfl, q_53c⟩ := q_53
                refine kx_topi (e' := 85 * a1 + 100) (by omega) ?_
                refine kx_iconst 156 F dX12_add_155 rfl ?_
                refine kx_iadd 157 F (v := 85 * a1 + 104) dX12_add_156 (by omega) rfl ?_
                refine kx_dup2 158 F dX12_add_157 rfl rfl rfl ?_
                refine kx_iald 159 F kd_164 rfl rfl (by omega) (by decide) dX12_add_158 (v := (M 164 (85 * a1 + 104))) (by rw [hM_N_49, mu_i (by omega), hM_N_47, mu_i (by omega), hM_N_45, mu_i (by omega), hM_N_43, mu_i (by omega)]) rfl ?_
                have ha_54 : atlo (85 * a1 + 104) = 0 ∧ athi (85 * a1 + 104) = 20 := at_a (85 * a1 + 104) 0 a1 4 (by omega) (by omega) (by decide)
                have h_55 := Inv.g hI_M kd_164 rfl (85 * a1 + 104) (a := 0) (b := 20) ha_54.1 ha_54.2
                refine kx_iconst 160 F dX12_add_159 rfl ?_
                refine kx_iadd 161 F (v := (M 164 (85 * a1 + 104)) + 1) dX12_add_160 rfl rfl ?_
                refine kx_iast 162 F kd_164 rfl rfl (by omega) (by decide) dX12_add_161 rfl ?_
                intro N_56 hM_N_56
                have hI_N_56 : Inv true N_56 := Inv.u hI_N_49 hM_N_56 kd_164 (a := 0) (b := 20) ha_54.1 ha_54.2 rfl (by omega)
                have hF_N_56 : Fr f_e_add2m M N_56 := Fr.u hF_N_49 hM_N_56 kd_164 rfl
                refine kx_aload_n 163 F 0 dX12_add_162 rfl rfl rfl ?_
                refine kx_iload 165 F 6 dX12_add_163 rfl rfl ?_
                refine kx_iconst 166 F dX12_add_165 rfl ?_
                refine kx_iadd 167 F (v := (M 164 (85 * a1 + 104)) + 1) dX12_add_166 rfl rfl ?_
                refine kx_Vi 170 (ci := 0) F (As := [vI ((M 164 (85 * a1 + 104)) + 1)]) (st := []) vd_X12_127 (c_X12_gives G l N_56 ((M 164 (85 * a1 + 104)) + 1) hI_N_56 (by omega)) kd_163 rfl rfl rfl ⟨by decide, by decide⟩ rfl rfl (Nat.le_of_ble_eq_true rfl) dX12_add_167 rfl ?_
                intro r_57 N_58 q_59
                obtain ⟨hI_N_58, hG_N_58, q_59c⟩ := q_59
                have hF_N_58 : Fr f_e_add2m M N_58 := Fr.c hF_N_56 hG_N_58 rfl
                refine kx_topi (e' := (M 164 (85 * a1 + 104)) + 1) (by omega) ?_
                have e_60 : M 164 (104 + 85 * a1) = M 164 (85 * a1 + 104) := by rw [show 104 + 85 * a1 = 85 * a1 + 104 by omega]
                have e_61 : M 164 (100 + 85 * a1) = M 164 (85 * a1 + 100) := by rw [show 100 + 85 * a1 = 85 * a1 + 100 by omega]
                have e_62 : N_58 164 (104 + 85 * a1) = (M 164 (85 * a1 + 104)) + 1 := by rw [show 104 + 85 * a1 = 85 * a1 + 104 by omega, Fr.e hG_N_58 kd_164 _ rfl, hM_N_56, mu_s]
                have e_63 : N_58 164 (106 + 85 * a1 + 4 * (M 164 (85 * a1 + 104))) = a3 := by rw [show 106 + 85 * a1 + 4 * (M 164 (85 * a1 + 104)) = 85 * a1 + 4 * (M 164 (85 * a1 + 104)) + 106 by omega, Fr.e hG_N_58 kd_164 _ rfl, hM_N_56, mu_i (by omega), hM_N_49, mu_i (by omega), hM_N_47, mu_i (by omega), hM_N_45, mu_s]
                have e_64 : N_58 164 (107 + 85 * a1 + 4 * (M 164 (85 * a1 + 104))) = a4 := by rw [show 107 + 85 * a1 + 4 * (M 164 (85 * a1 + 104)) = 85 * a1 + 4 * (M 164 (85 * a1 + 104)) + 107 by omega, Fr.e hG_N_58 kd_164 _ rfl, hM_N_56, mu_i (by omega), hM_N_49, mu_i (by omega), hM_N_47, mu_s]
                have e_65 : (N_58 164 (85 * a1 + 104)) = (M 164 (85 * a1 + 104)) + 1 := by rw [Fr.e hG_N_58 kd_164 _ rfl, hM_N_56, mu_s]
                have e_66 : (N_58 164 (85 * a1 + 4 * (M 164 (85 * a1 + 104)) + 105)) = a2 := by rw [Fr.e hG_N_58 kd_164 _ rfl, hM_N_56, mu_i (by omega), hM_N_49, mu_i (by omega), hM_N_47, mu_i (by omega), hM_N_45, mu_i (by omega), hM_N_43, mu_s]
                have e_67 : (N_58 164 (85 * a1 + 4 * (M 164 (85 * a1 + 104)) + 106)) = a3 := by rw [Fr.e hG_N_58 kd_164 _ rfl, hM_N_56, mu_i (by omega), hM_N_49, mu_i (by omega), hM_N_47, mu_i (by omega), hM_N_45, mu_s]
                have e_68 : (N_58 164 (85 * a1 + 4 * (M 164 (85 * a1 + 104)) + 107)) = a4 := by rw [Fr.e hG_N_58 kd_164 _ rfl, hM_N_56, mu_i (by omega), hM_N_49, mu_i (by omega), hM_N_47, mu_s]
                have e_69 : (N_58 164 (85 * a1 + 4 * (M 164 (85 * a1 + 104)) + 108)) = a5 := by rw [Fr.e hG_N_58 kd_164 _ rfl, hM_N_56, mu_i (by omega), hM_N_49, mu_s]
                have hq44 : q (85 * a1 + 100 + 4) = M 164 (85 * a1 + 104) := by rw [show 85 * a1 + 100 + 4 = 85 * a1 + 104 by omega]; exact hq4.symm
                exact kx_iret F hQ ⟨hI_N_58, hF_N_58, (by omega), ⟨(YY.rule hY hI_M a1 (M 164 (85 * a1 + 104)) (by omega) (by omega) (fun j hj h0 => by rw [Fr.e hG_N_58 kd_164 _ rfl, hM_N_56, mu_i (by omega), hM_N_49, mu_i (by omega), hM_N_47, mu_i (by omega), hM_N_45, mu_i (by omega), hM_N_43, mu_i (by omega)]) (by omega) (by omega) (by omega)), ⟨⟨(uprul q (85 * a1 + 100) a2 a3 a4 a5), Or.inr (Or.inr (Or.inr ⟨hadk, by omega, by omega, by omega, rfl⟩)), zRN.q hS (fun i h1 h2 => by rw [Fr.e hG_N_58 kd_164 _ rfl, hM_N_56, mu_i (by omega), hM_N_49, mu_i (by omega), hM_N_47, mu_i (by omega), hM_N_45, mu_i (by omega), hM_N_43, mu_i (by omega)]) (fun i h1 h2 => (uprul_x (by omega) (by omega))), zRU.set (a := a1) hU (by omega) rfl (zRB.app hqb (by omega) (by rw [show 85 * a1 + 100 + 4 = 85 * a1 + 104 by omega]; omega) (by rw [show 85 * a1 + 100 + 5 + 4 * q (85 * a1 + 100 + 4) = 85 * a1 + 4 * (M 164 (85 * a1 + 104)) + 105 by omega]; omega) (by rw [show 85 * a1 + 100 + 6 + 4 * q (85 * a1 + 100 + 4) = 85 * a1 + 4 * (M 164 (85 * a1 + 104)) + 106 by omega]; omega) (by rw [show 85 * a1 + 100 + 7 + 4 * q (85 * a1 + 100 + 4) = 85 * a1 + 4 * (M 164 (85 * a1 + 104)) + 107 by omega]; omega) (by rw [show 85 * a1 + 100 + 8 + 4 * q (85 * a1 + 100 + 4) = 85 * a1 + 4 * (M 164 (85 * a1 + 104)) + 108 by omega]; omega) (fun i h1 h2 => by rw [Fr.e hG_N_58 kd_164 _ rfl, hM_N_56, mu_i (by omega), hM_N_49, mu_i (by omega), hM_N_47, mu_i (by omega), hM_N_45, mu_i (by omega), hM_N_43, mu_i (by omega)])) (uprul_x (by omega) (by omega)) (fun i h1 h2 h3 => (uprul_x (by omega) (by omega))) (fun i h1 h2 h3 => by rw [Fr.e hG_N_58 kd_164 _ rfl, hM_N_56, mu_i (by omega), hM_N_49, mu_i (by omega), hM_N_47, mu_i (by omega), hM_N_45, mu_i (by omega), hM_N_43, mu_i (by omega)]) hV⟩, fun i h1 => by rw [Fr.e hG_N_58 kd_164 _ rfl, hM_N_56, mu_i (by omega), hM_N_49, mu_i (by omega), hM_N_47, mu_i (by omega), hM_N_45, mu_i (by omega), hM_N_43, mu_i (by omega)]⟩⟩⟩ dX12_add_170
            · refine kx_aload_n 68 F 0 dX12_add_67 rfl rfl rfl ?_
              refine kx_iconst 69 F dX12_add_68 rfl ?_
              refine kx_Vi 72 (ci := 0) F (As := [vI 4]) (st := []) vd_X12_123 (c_X12_refuse G l M 4 hI_M (by omega)) kd_163 rfl rfl rfl ⟨by decide, by decide⟩ rfl rfl (Nat.le_of_ble_eq_true rfl) dX12_add_69 rfl ?_
              intro r_70 N_71 q_72
              obtain ⟨hI_N_71, hG_N_71, q_72c⟩ := q_72
              have hF_N_71 : Fr f_e_add2m M N_71 := Fr.c hF_M hG_N_71 rfl
              subst q_72c
              exact kx_iret F hQ ⟨hI_N_71, hF_N_71, (by omega), ⟨(YY.fr hY hG_N_71 rfl), ⟨⟨q, Or.inr (Or.inl ⟨hadk, by omega, by omega, rfl⟩), by rw [show N_71 164 = M 164 from (funext (fun j => by rw [Fr.e hG_N_71 kd_164 _ rfl]))]; exact hS, by rw [show N_71 164 = M 164 from (funext (fun j => by rw [Fr.e hG_N_71 kd_164 _ rfl]))]; exact hU⟩, fun i _ => by rw [Fr.e hG_N_71 kd_164 _ rfl]⟩⟩⟩ dX12_add_72
          · refine kx_aload_n 47 F 0 dX12_add_46 rfl rfl rfl ?_
            refine kx_iconst 48 F dX12_add_47 rfl ?_
            refine kx_Vi 51 (ci := 0) F (As := [vI 1]) (st := []) vd_X12_123 (c_X12_refuse G l M 1 hI_M (by omega)) kd_163 rfl rfl rfl ⟨by decide, by decide⟩ rfl rfl (Nat.le_of_ble_eq_true rfl) dX12_add_48 rfl ?_
            intro r_73 N_74 q_75
            obtain ⟨hI_N_74, hG_N_74, q_75c⟩ := q_75
            have hF_N_74 : Fr f_e_add2m M N_74 := Fr.c hF_M hG_N_74 rfl
            subst q_75c
            have hqb := hU.b (a := a1) (b := 85 * a1 + 100) (by omega) rfl
            have hq1 : M 164 (85 * a1 + 101) = q (85 * a1 + 101) := hqb.n (d := 1) (by decide) (by omega)
            exact kx_iret F hQ ⟨hI_N_74, hF_N_74, (by omega), ⟨(YY.fr hY hG_N_74 rfl), ⟨⟨q, Or.inl ⟨fun h => hy_N_21.n (by omega) (by rw [hSn.1, hSn.2.1, hq1]; exact h.2.2.2.2.2.2.2.2), by omega, rfl⟩, by rw [show N_74 164 = M 164 from (funext (fun j => by rw [Fr.e hG_N_74 kd_164 _ rfl]))]; exact hS, by rw [show N_74 164 = M 164 from (funext (fun j => by rw [Fr.e hG_N_74 kd_164 _ rfl]))]; exact hU⟩, fun i _ => by rw [Fr.e hG_N_74 kd_164 _ rfl]⟩⟩⟩ dX12_add_51
        · refine kx_if_eq 35 F 46 dX12_add_32 (by decide) rfl (by omega) (fun h_76 => ?_) (fun h_76 => (by exfalso; omega))
          refine kx_aload_n 47 F 0 dX12_add_46 rfl rfl rfl ?_
          refine kx_iconst 48 F dX12_add_47 rfl ?_
          refine kx_Vi 51 (ci := 0) F (As := [vI 1]) (st := []) vd_X12_123 (c_X12_refuse G l M 1 hI_M (by omega)) kd_163 rfl rfl rfl ⟨by decide, by decide⟩ rfl rfl (Nat.le_of_ble_eq_true rfl) dX12_add_48 rfl ?_
          intro r_77 N_78 q_79
          obtain ⟨hI_N_78, hG_N_78, q_79c⟩ := q_79
          have hF_N_78 : Fr f_e_add2m M N_78 := Fr.c hF_M hG_N_78 rfl
          subst q_79c
          have hq0i : 0 ≤ a1 → a1 < q 3 → M 164 (85 * a1 + 100) = q (85 * a1 + 100) := fun x y => (hU.b (a := a1) (b := 85 * a1 + 100) (by omega) rfl).n (d := 0) (by decide) (by omega)
          exact kx_iret F hQ ⟨hI_N_78, hF_N_78, (by omega), ⟨(YY.fr hY hG_N_78 rfl), ⟨⟨q, Or.inl ⟨fun h => by have h1 := h.1; have h2 := h.2.1; have h3 := h.2.2.1; have h4 := h.2.2.2.1; have h5 := h.2.2.2.2.1; have h6 := h.2.2.2.2.2.1; have h7 := h.2.2.2.2.2.2.1; have h8 := h.2.2.2.2.2.2.2.1; omega, by omega, rfl⟩, by rw [show N_78 164 = M 164 from (funext (fun j => by rw [Fr.e hG_N_78 kd_164 _ rfl]))]; exact hS, by rw [show N_78 164 = M 164 from (funext (fun j => by rw [Fr.e hG_N_78 kd_164 _ rfl]))]; exact hU⟩, fun i _ => by rw [Fr.e hG_N_78 kd_164 _ rfl]⟩⟩⟩ dX12_add_51
        · refine kx_if_eq 35 F 46 dX12_add_32 (by decide) rfl (by omega) (fun h_80 => ?_) (fun h_80 => (by exfalso; omega))
          refine kx_aload_n 47 F 0 dX12_add_46 rfl rfl rfl ?_
          refine kx_iconst 48 F dX12_add_47 rfl ?_
          refine kx_Vi 51 (ci := 0) F (As := [vI 1]) (st := []) vd_X12_123 (c_X12_refuse G l M 1 hI_M (by omega)) kd_163 rfl rfl rfl ⟨by decide, by decide⟩ rfl rfl (Nat.le_of_ble_eq_true rfl) dX12_add_48 rfl ?_
          intro r_81 N_82 q_83
          obtain ⟨hI_N_82, hG_N_82, q_83c⟩ := q_83
          have hF_N_82 : Fr f_e_add2m M N_82 := Fr.c hF_M hG_N_82 rfl
          subst q_83c
          have hq0i : 0 ≤ a1 → a1 < q 3 → M 164 (85 * a1 + 100) = q (85 * a1 + 100) := fun x y => (hU.b (a := a1) (b := 85 * a1 + 100) (by omega) rfl).n (d := 0) (by decide) (by omega)
          exact kx_iret F hQ ⟨hI_N_82, hF_N_82, (by omega), ⟨(YY.fr hY hG_N_82 rfl), ⟨⟨q, Or.inl ⟨fun h => by have h1 := h.1; have h2 := h.2.1; have h3 := h.2.2.1; have h4 := h.2.2.2.1; have h5 := h.2.2.2.2.1; have h6 := h.2.2.2.2.2.1; have h7 := h.2.2.2.2.2.2.1; have h8 := h.2.2.2.2.2.2.2.1; omega, by omega, rfl⟩, by rw [show N_82 164 = M 164 from (funext (fun j => by rw [Fr.e hG_N_82 kd_164 _ rfl]))]; exact hS, by rw [show N_82 164 = M 164 from (funext (fun j => by rw [Fr.e hG_N_82 kd_164 _ rfl]))]; exact hU⟩, fun i _ => by rw [Fr.e hG_N_82 kd_164 _ rfl]⟩⟩⟩ dX12_add_51
      · refine kx_if_eq 25 F 46 dX12_add_22 (by decide) rfl (by omega) (fun h_84 => ?_) (fun h_84 => (by exfalso; omega))
        refine kx_aload_n 47 F 0 dX12_add_46 rfl rfl rfl ?_
        refine kx_iconst 48 F dX12_add_47 rfl ?_
        refine kx_Vi 51 (ci := 0) F (As := [vI 1]) (st := []) vd_X12_123 (c_X12_refuse G l M 1 hI_M (by omega)) kd_163 rfl rfl rfl ⟨by decide, by decide⟩ rfl rfl (Nat.le_of_ble_eq_true rfl) dX12_add_48 rfl ?_
        intro r_85 N_86 q_87
        obtain ⟨hI_N_86, hG_N_86, q_87c⟩ := q_87
        have hF_N_86 : Fr f_e_add2m M N_86 := Fr.c hF_M hG_N_86 rfl
        subst q_87c
        have hq0i : 0 ≤ a1 → a1 < q 3 → M 164 (85 * a1 + 100) = q (85 * a1 + 100) := fun x y => (hU.b (a := a1) (b := 85 * a1 + 100) (by omega) rfl).n (d := 0) (by decide) (by omega)
        exact kx_iret F hQ ⟨hI_N_86, hF_N_86, (by omega), ⟨(YY.fr hY hG_N_86 rfl), ⟨⟨q, Or.inl ⟨fun h => by have h1 := h.1; have h2 := h.2.1; have h3 := h.2.2.1; have h4 := h.2.2.2.1; have h5 := h.2.2.2.2.1; have h6 := h.2.2.2.2.2.1; have h7 := h.2.2.2.2.2.2.1; have h8 := h.2.2.2.2.2.2.2.1; omega, by omega, rfl⟩, by rw [show N_86 164 = M 164 from (funext (fun j => by rw [Fr.e hG_N_86 kd_164 _ rfl]))]; exact hS, by rw [show N_86 164 = M 164 from (funext (fun j => by rw [Fr.e hG_N_86 kd_164 _ rfl]))]; exact hU⟩, fun i _ => by rw [Fr.e hG_N_86 kd_164 _ rfl]⟩⟩⟩ dX12_add_51
      · refine kx_if_eq 25 F 46 dX12_add_22 (by decide) rfl (by omega) (fun h_88 => ?_) (fun h_88 => (by exfalso; omega))
        refine kx_aload_n 47 F 0 dX12_add_46 rfl rfl rfl ?_
        refine kx_iconst 48 F dX12_add_47 rfl ?_
        refine kx_Vi 51 (ci := 0) F (As := [vI 1]) (st := []) vd_X12_123 (c_X12_refuse G l M 1 hI_M (by omega)) kd_163 rfl rfl rfl ⟨by decide, by decide⟩ rfl rfl (Nat.le_of_ble_eq_true rfl) dX12_add_48 rfl ?_
        intro r_89 N_90 q_91
        obtain ⟨hI_N_90, hG_N_90, q_91c⟩ := q_91
        have hF_N_90 : Fr f_e_add2m M N_90 := Fr.c hF_M hG_N_90 rfl
        subst q_91c
        have hq0i : 0 ≤ a1 → a1 < q 3 → M 164 (85 * a1 + 100) = q (85 * a1 + 100) := fun x y => (hU.b (a := a1) (b := 85 * a1 + 100) (by omega) rfl).n (d := 0) (by decide) (by omega)
        exact kx_iret F hQ ⟨hI_N_90, hF_N_90, (by omega), ⟨(YY.fr hY hG_N_90 rfl), ⟨⟨q, Or.inl ⟨fun h => by have h1 := h.1; have h2 := h.2.1; have h3 := h.2.2.1; have h4 := h.2.2.2.1; have h5 := h.2.2.2.2.1; have h6 := h.2.2.2.2.2.1; have h7 := h.2.2.2.2.2.2.1; have h8 := h.2.2.2.2.2.2.2.1; omega, by omega, rfl⟩, by rw [show N_90 164 = M 164 from (funext (fun j => by rw [Fr.e hG_N_90 kd_164 _ rfl]))]; exact hS, by rw [show N_90 164 = M 164 from (funext (fun j => by rw [Fr.e hG_N_90 kd_164 _ rfl]))]; exact hU⟩, fun i _ => by rw [Fr.e hG_N_90 kd_164 _ rfl]⟩⟩⟩ dX12_add_51
    · refine kx_if_eq 16 F 46 dX12_add_13 (by decide) rfl (by omega) (fun h_92 => ?_) (fun h_92 => (by exfalso; omega))
      refine kx_aload_n 47 F 0 dX12_add_46 rfl rfl rfl ?_
      refine kx_iconst 48 F dX12_add_47 rfl ?_
      refine kx_Vi 51 (ci := 0) F (As := [vI 1]) (st := []) vd_X12_123 (c_X12_refuse G l M 1 hI_M (by omega)) kd_163 rfl rfl rfl ⟨by decide, by decide⟩ rfl rfl (Nat.le_of_ble_eq_true rfl) dX12_add_48 rfl ?_
      intro r_93 N_94 q_95
      obtain ⟨hI_N_94, hG_N_94, q_95c⟩ := q_95
      have hF_N_94 : Fr f_e_add2m M N_94 := Fr.c hF_M hG_N_94 rfl
      subst q_95c
      have hq0i : 0 ≤ a1 → a1 < q 3 → M 164 (85 * a1 + 100) = q (85 * a1 + 100) := fun x y => (hU.b (a := a1) (b := 85 * a1 + 100) (by omega) rfl).n (d := 0) (by decide) (by omega)
      exact kx_iret F hQ ⟨hI_N_94, hF_N_94, (by omega), ⟨(YY.fr hY hG_N_94 rfl), ⟨⟨q, Or.inl ⟨fun h => by have h1 := h.1; have h2 := h.2.1; have h3 := h.2.2.1; have h4 := h.2.2.2.1; have h5 := h.2.2.2.2.1; have h6 := h.2.2.2.2.2.1; have h7 := h.2.2.2.2.2.2.1; have h8 := h.2.2.2.2.2.2.2.1; omega, by omega, rfl⟩, by rw [show N_94 164 = M 164 from (funext (fun j => by rw [Fr.e hG_N_94 kd_164 _ rfl]))]; exact hS, by rw [show N_94 164 = M 164 from (funext (fun j => by rw [Fr.e hG_N_94 kd_164 _ rfl]))]; exact hU⟩, fun i _ => by rw [Fr.e hG_N_94 kd_164 _ rfl]⟩⟩⟩ dX12_add_51
    · refine kx_if_eq 16 F 46 dX12_add_13 (by decide) rfl (by omega) (fun h_96 => ?_) (fun h_96 => (by exfalso; omega))
      refine kx_aload_n 47 F 0 dX12_add_46 rfl rfl rfl ?_
      refine kx_iconst 48 F dX12_add_47 rfl ?_
      refine kx_Vi 51 (ci := 0) F (As := [vI 1]) (st := []) vd_X12_123 (c_X12_refuse G l M 1 hI_M (by omega)) kd_163 rfl rfl rfl ⟨by decide, by decide⟩ rfl rfl (Nat.le_of_ble_eq_true rfl) dX12_add_48 rfl ?_
      intro r_97 N_98 q_99
      obtain ⟨hI_N_98, hG_N_98, q_99c⟩ := q_99
      have hF_N_98 : Fr f_e_add2m M N_98 := Fr.c hF_M hG_N_98 rfl
      subst q_99c
      have hq0i : 0 ≤ a1 → a1 < q 3 → M 164 (85 * a1 + 100) = q (85 * a1 + 100) := fun x y => (hU.b (a := a1) (b := 85 * a1 + 100) (by omega) rfl).n (d := 0) (by decide) (by omega)
      exact kx_iret F hQ ⟨hI_N_98, hF_N_98, (by omega), ⟨(YY.fr hY hG_N_98 rfl), ⟨⟨q, Or.inl ⟨fun h => by have h1 := h.1; have h2 := h.2.1; have h3 := h.2.2.1; have h4 := h.2.2.2.1; have h5 := h.2.2.2.2.1; have h6 := h.2.2.2.2.2.1; have h7 := h.2.2.2.2.2.2.1; have h8 := h.2.2.2.2.2.2.2.1; omega, by omega, rfl⟩, by rw [show N_98 164 = M 164 from (funext (fun j => by rw [Fr.e hG_N_98 kd_164 _ rfl]))]; exact hS, by rw [show N_98 164 = M 164 from (funext (fun j => by rw [Fr.e hG_N_98 kd_164 _ rfl]))]; exact hU⟩, fun i _ => by rw [Fr.e hG_N_98 kd_164 _ rfl]⟩⟩⟩ dX12_add_51
  · refine kx_if_eq 8 F 46 dX12_add_5 (by decide) rfl (by omega) (fun h_100 => ?_) (fun h_100 => (by exfalso; omega))
    refine kx_aload_n 47 F 0 dX12_add_46 rfl rfl rfl ?_
    refine kx_iconst 48 F dX12_add_47 rfl ?_
    refine kx_Vi 51 (ci := 0) F (As := [vI 1]) (st := []) vd_X12_123 (c_X12_refuse G l M 1 hI_M (by omega)) kd_163 rfl rfl rfl ⟨by decide, by decide⟩ rfl rfl (Nat.le_of_ble_eq_true rfl) dX12_add_48 rfl ?_
    intro r_101 N_102 q_103
    obtain ⟨hI_N_102, hG_N_102, q_103c⟩ := q_103
    have hF_N_102 : Fr f_e_add2m M N_102 := Fr.c hF_M hG_N_102 rfl
    subst q_103c
    have hq0i : 0 ≤ a1 → a1 < q 3 → M 164 (85 * a1 + 100) = q (85 * a1 + 100) := fun x y => (hU.b (a := a1) (b := 85 * a1 + 100) (by omega) rfl).n (d := 0) (by decide) (by omega)
    exact kx_iret F hQ ⟨hI_N_102, hF_N_102, (by omega), ⟨(YY.fr hY hG_N_102 rfl), ⟨⟨q, Or.inl ⟨fun h => by have h1 := h.1; have h2 := h.2.1; have h3 := h.2.2.1; have h4 := h.2.2.2.1; have h5 := h.2.2.2.2.1; have h6 := h.2.2.2.2.2.1; have h7 := h.2.2.2.2.2.2.1; have h8 := h.2.2.2.2.2.2.2.1; omega, by omega, rfl⟩, by rw [show N_102 164 = M 164 from (funext (fun j => by rw [Fr.e hG_N_102 kd_164 _ rfl]))]; exact hS, by rw [show N_102 164 = M 164 from (funext (fun j => by rw [Fr.e hG_N_102 kd_164 _ rfl]))]; exact hU⟩, fun i _ => by rw [Fr.e hG_N_102 kd_164 _ rfl]⟩⟩⟩ dX12_add_51
  · refine kx_if_eq 8 F 46 dX12_add_5 (by decide) rfl (by omega) (fun h_104 => ?_) (fun h_104 => (by exfalso; omega))
    refine kx_aload_n 47 F 0 dX12_add_46 rfl rfl rfl ?_
    refine kx_iconst 48 F dX12_add_47 rfl ?_
    refine kx_Vi 51 (ci := 0) F (As := [vI 1]) (st := []) vd_X12_123 (c_X12_refuse G l M 1 hI_M (by omega)) kd_163 rfl rfl rfl ⟨by decide, by decide⟩ rfl rfl (Nat.le_of_ble_eq_true rfl) dX12_add_48 rfl ?_
    intro r_105 N_106 q_107
    obtain ⟨hI_N_106, hG_N_106, q_107c⟩ := q_107
    have hF_N_106 : Fr f_e_add2m M N_106 := Fr.c hF_M hG_N_106 rfl
    subst q_107c
    have hq0i : 0 ≤ a1 → a1 < q 3 → M 164 (85 * a1 + 100) = q (85 * a1 + 100) := fun x y => (hU.b (a := a1) (b := 85 * a1 + 100) (by omega) rfl).n (d := 0) (by decide) (by omega)
    exact kx_iret F hQ ⟨hI_N_106, hF_N_106, (by omega), ⟨(YY.fr hY hG_N_106 rfl), ⟨⟨q, Or.inl ⟨fun h => by have h1 := h.1; have h2 := h.2.1; have h3 := h.2.2.1; have h4 := h.2.2.2.1; have h5 := h.2.2.2.2.1; have h6 := h.2.2.2.2.2.1; have h7 := h.2.2.2.2.2.2.1; have h8 := h.2.2.2.2.2.2.2.1; omega, by omega, rfl⟩, by rw [show N_106 164 = M 164 from (funext (fun j => by rw [Fr.e hG_N_106 kd_164 _ rfl]))]; exact hS, by rw [show N_106 164 = M 164 from (funext (fun j => by rw [Fr.e hG_N_106 kd_164 _ rfl]))]; exact hU⟩, fun i _ => by rw [Fr.e hG_N_106 kd_164 _ rfl]⟩⟩⟩ dX12_add_51
abbrev f_e_drop2m : List (Nat × Int) := [(64, 2), (65, -1)]
set_option maxHeartbeats 4000000 in
set_option maxRecDepth 100000 in
theorem e_drop2m (G : KG) (l : Launch) (M : Mem) (a1 : Int) (a2 : Int) (hI_M : Inv true M) (hpre : -2147483648 ≤ a1 ∧ a1 ≤ 2147483647 ∧ -2147483648 ≤ a2 ∧ a2 ≤ 2147483647) (hY : YY M) (q : Int → Int) (hS : zRN (M 164) q) (hU : zRU (M 164) q) (hV : zQV q) : KC true G l yX12_drop cX12_drop 5 (some .int) (3, 65) [vR G 163, vI a1, vI a2] M (fun A => kQi true G A (fun (r : Int) (N : Mem) => Inv true N ∧ Fr f_e_drop2m M N ∧ (r ≥ -2147483648 ∧ r ≤ 2147483647) ∧ ((YY N) ∧ ((∃ q2, zDR q a1 a2 r q2 ∧ zRN (N 164) q2 ∧ zRU (N 164) q2) ∧ zRO N M)))) := by
  refine kx_met (lo := [some (vR G 163), some (vI a1), some (vI a2), none, none]) (by decide) (Nat.le_of_ble_eq_true rfl) rfl ?_
  intro X F hQ
  have hF_M : Fr f_e_drop2m M M := Fr.rf _ _
  have hSn := hS.u
  have hVu := hV.u
  refine kx_aload_n 1 F 0 dX12_drop_0 rfl rfl rfl ?_
  refine kx_iload_n 2 F 1 dX12_drop_1 rfl rfl rfl ?_
  refine kx_iload_n 3 F 2 dX12_drop_2 rfl rfl rfl ?_
  refine kx_Vi 6 (ci := 0) F (As := [vI a1, vI a2]) (st := []) vd_X12_291 (e_X12_isRuleAt G l M a1 a2 hI_M (by omega)) kd_163 rfl rfl rfl ⟨by decide, by decide⟩ rfl rfl (Nat.le_of_ble_eq_true rfl) dX12_drop_3 rfl ?_
  intro r_1 N_2 q_3
  obtain ⟨rfl, q_3c⟩ := q_3
  rcases q_3c with q_3c | q_3c | q_3c | q_3c | q_3c
  · refine kx_if_ne 9 F 15 dX12_drop_6 (by decide) rfl (by omega) (fun h_4 => ?_) (fun h_4 => (by exfalso; omega))
    have hqb := hU.b (a := a1) (b := 85 * a1 + 100) (by omega) rfl
    have hq4 : M 164 (85 * a1 + 104) = q (85 * a1 + 104) := hqb.n (d := 4) (by decide) (by omega)
    refine kx_aload_n 16 F 0 dX12_drop_15 rfl rfl rfl ?_
    refine kx_iload_n 17 F 1 dX12_drop_16 rfl rfl rfl ?_
    refine kx_iconst 18 F dX12_drop_17 rfl ?_
    refine kx_Vi 21 (ci := 0) F (As := [vI a1, vI 4]) (st := []) vd_X12_288 (e_of4 G l M a1 4 hI_M (by omega)) kd_163 rfl rfl rfl ⟨by decide, by decide⟩ rfl rfl (Nat.le_of_ble_eq_true rfl) dX12_drop_18 rfl ?_
    intro r_5 N_6 q_7
    obtain ⟨rfl, q_7c⟩ := q_7
    refine kx_topi (e' := (M 164 (85 * a1 + 104))) (by omega) ?_
    refine kx_iconst 22 F dX12_drop_21 rfl ?_
    refine kx_isub 23 F (v := (M 164 (85 * a1 + 104)) - 1) dX12_drop_22 rfl rfl ?_
    refine kx_istore_n 24 F 3 (lo' := [some (vR G 163), some (vI a1), some (vI a2), some (vI ((M 164 (85 * a1 + 104)) - 1)), none]) dX12_drop_23 rfl (by decide) rfl rfl rfl ?_
    refine kx_iconst 25 F dX12_drop_24 rfl ?_
    refine kx_iload_n 26 F 1 dX12_drop_25 rfl rfl rfl ?_
    refine kx_iload_n 27 F 2 dX12_drop_26 rfl rfl rfl ?_
    refine kx_Si 30 F (As := [vI 0, vI a1, vI a2]) (st := []) sd_X12_243 (c_X12_ruleRow G l M 0 a1 a2 hI_M (by omega)) ⟨by decide, by decide⟩ rfl rfl (Nat.le_of_ble_eq_true rfl) dX12_drop_27 rfl ?_
    intro r_8 N_9 q_10
    obtain ⟨rfl, q_10c⟩ := q_10
    refine kx_topi (e' := 85 * a1 + 4 * a2 + 105) (by omega) ?_
    refine kx_istore 32 F 4 (lo' := [some (vR G 163), some (vI a1), some (vI a2), some (vI ((M 164 (85 * a1 + 104)) - 1)), some (vI (85 * a1 + 4 * a2 + 105))]) dX12_drop_30 (by decide) rfl rfl rfl ?_
    have L_32 : ∀ (n_33 : Nat) (x4_30 : Int) (N_31 : Mem), Inv true N_31 → Fr f_e_drop2m M N_31 → CPk N_31 M (105 + 85 * a1 + 4 * a2) (109 + 85 * a1 + 4 * a2) (x4_30 - (105 + 85 * a1 + 4 * a2)) → 105 ≤ x4_30 ∧ x4_30 ≤ 266 ∧ x4_30 ≤ 85 * a1 + 4 * (M 164 (85 * a1 + 104)) + 101 ∧ 85 * a1 + 4 * a2 + 105 ≤ x4_30 → (266 - (x4_30)).toNat = n_33 → KJ true G X N_31 32 [some (vR G 163), some (vI a1), none, some (vI ((M 164 (85 * a1 + 104)) - 1)), some (vI x4_30)] [] := by
      intro n_33
      refine Nat.strongRecOn n_33 ?_
      intro n_33 ih_34 x4_30 N_31 hI_N_31 hF_N_31 hp_37 h_35 hm_36
      refine kx_iload 34 F 4 dX12_drop_32 rfl rfl ?_
      refine kx_iconst 35 F dX12_drop_34 rfl ?_
      refine kx_iload_n 36 F 1 dX12_drop_35 rfl rfl rfl ?_
      refine kx_iload_n 37 F 3 dX12_drop_36 rfl rfl rfl ?_
      refine kx_Si 40 F (As := [vI 0, vI a1, vI ((M 164 (85 * a1 + 104)) - 1)]) (st := [vI x4_30]) sd_X12_243 (c_X12_ruleRow G l N_31 0 a1 ((M 164 (85 * a1 + 104)) - 1) hI_N_31 (by omega)) ⟨by decide, by decide⟩ rfl rfl (Nat.le_of_ble_eq_true rfl) dX12_drop_37 rfl ?_
      intro r_38 N_39 q_40
      obtain ⟨rfl, q_40c⟩ := q_40
      refine kx_topi (e' := 85 * a1 + 4 * (M 164 (85 * a1 + 104)) + 101) (by omega) ?_
      refine kx_icmp_ge 43 F 65 dX12_drop_40 (by decide) rfl (by omega) (by omega) (fun h_41 => ?_) (fun h_41 => ?_)
      · refine kx_aload_n 66 F 0 dX12_drop_65 rfl rfl rfl ?_
        refine kx_getr 69 F fl_X12_7 kd_163 rfl rfl (j := 0) rfl dX12_drop_66 (v := 164) (uq_164 (Inv.r hI_N_31 kd_163 rfl 0 rfl rfl)) rfl ?_
        refine kx_iconst 70 F dX12_drop_69 rfl ?_
        refine kx_iload_n 71 F 1 dX12_drop_70 rfl rfl rfl ?_
        refine kx_Si 74 F (As := [vI 0, vI a1]) (st := [vR G 164]) sd_X12_216 (c_X12_rowOf G l N_31 0 a1 hI_N_31 (by omega)) ⟨by decide, by decide⟩ rfl rfl (Nat.le_of_ble_eq_true rfl) dX12_drop_71 rfl ?_
        intro r_42 N_43 q_44
        obtain ⟨rfl, q_44c⟩ := q_44
        refine kx_topi (e' := 85 * a1 + 100) (by omega) ?_
        refine kx_iconst 75 F dX12_drop_74 rfl ?_
        refine kx_iadd 76 F (v := 85 * a1 + 104) dX12_drop_75 (by omega) rfl ?_
        refine kx_iload_n 77 F 3 dX12_drop_76 rfl rfl rfl ?_
        refine kx_iast 78 F kd_164 rfl rfl (by omega) (by decide) dX12_drop_77 rfl ?_
        intro N_45 hM_N_45
        have ha_46 : atlo (85 * a1 + 104) = 0 ∧ athi (85 * a1 + 104) = 20 := at_a (85 * a1 + 104) 0 a1 4 (by omega) (by omega) (by decide)
        have hI_N_45 : Inv true N_45 := Inv.u hI_N_31 hM_N_45 kd_164 (a := 0) (b := 20) ha_46.1 ha_46.2 rfl (by omega)
        have hF_N_45 : Fr f_e_drop2m M N_45 := Fr.u hF_N_31 hM_N_45 kd_164 rfl
        refine kx_aload_n 79 F 0 dX12_drop_78 rfl rfl rfl ?_
        refine kx_iload_n 80 F 3 dX12_drop_79 rfl rfl rfl ?_
        refine kx_Vi 83 (ci := 0) F (As := [vI ((M 164 (85 * a1 + 104)) - 1)]) (st := []) vd_X12_127 (c_X12_gives G l N_45 ((M 164 (85 * a1 + 104)) - 1) hI_N_45 (by omega)) kd_163 rfl rfl rfl ⟨by decide, by decide⟩ rfl rfl (Nat.le_of_ble_eq_true rfl) dX12_drop_80 rfl ?_
        intro r_47 N_48 q_49
        obtain ⟨hI_N_48, hG_N_48, q_49c⟩ := q_49
        have hF_N_48 : Fr f_e_drop2m M N_48 := Fr.c hF_N_45 hG_N_48 rfl
        refine kx_topi (e' := (M 164 (85 * a1 + 104)) - 1) (by omega) ?_
        have e_50 : M 164 (104 + 85 * a1) = M 164 (85 * a1 + 104) := by rw [show 104 + 85 * a1 = 85 * a1 + 104 by omega]
        have e_51 : N_48 164 (104 + 85 * a1) = (M 164 (85 * a1 + 104)) - 1 := by rw [show 104 + 85 * a1 = 85 * a1 + 104 by omega, Fr.e hG_N_48 kd_164 _ rfl, hM_N_45, mu_s]
        have e_52 : (N_48 164 (85 * a1 + 104)) = (M 164 (85 * a1 + 104)) - 1 := by rw [Fr.e hG_N_48 kd_164 _ rfl, hM_N_45, mu_s]
        have hq44 : q (85 * a1 + 100 + 4) = M 164 (85 * a1 + 104) := by rw [show 85 * a1 + 100 + 4 = 85 * a1 + 104 by omega]; exact hq4.symm
        exact kx_iret F hQ ⟨hI_N_48, hF_N_48, (by omega), ⟨(YY.drop hY hI_M a1 a2 ((M 164 (85 * a1 + 104)) - 1) (by omega) (by omega) (by omega) (fun j hj h0 => by rw [Fr.e hG_N_48 kd_164 _ rfl, hM_N_45, mu_i (by omega)]; exact hp_37.2 j (by omega)) (fun j h0 h1 => by rw [Fr.e hG_N_48 kd_164 _ rfl, hM_N_45, mu_i (by omega)]; have q := hp_37.1 (j - (105 + 85 * a1 + 4 * a2)) (by omega) (by omega); rw [show 105 + 85 * a1 + 4 * a2 + (j - (105 + 85 * a1 + 4 * a2)) = j by omega, show 109 + 85 * a1 + 4 * a2 + (j - (105 + 85 * a1 + 4 * a2)) = j + 4 by omega] at q; exact q) (by omega)), ⟨⟨(zdrop q (85 * a1 + 100) a2), Or.inl ⟨by omega, by omega, rfl⟩, zRN.q hS (fun i h1 h2 => by rw [Fr.e hG_N_48 kd_164 _ rfl, hM_N_45, mu_i (by omega)]; exact hp_37.2 i (by omega)) (fun i h1 h2 => (by unfold zdrop; rw [if_neg (by omega), if_neg (by omega)])), zRU.set (a := a1) hU (by omega) rfl (zRB.drop hqb (by omega) (by rw [show 85 * a1 + 100 + 4 = 85 * a1 + 104 by omega]; omega) (fun i h0 h1 => by rw [Fr.e hG_N_48 kd_164 _ rfl, hM_N_45, mu_i (by omega)]; have w := hp_37.1 (i - (105 + 85 * a1 + 4 * a2)) (by omega) (by omega); rw [show 105 + 85 * a1 + 4 * a2 + (i - (105 + 85 * a1 + 4 * a2)) = i by omega, show 109 + 85 * a1 + 4 * a2 + (i - (105 + 85 * a1 + 4 * a2)) = i + 4 by omega] at w; exact w) (fun i h0 h1 => by rw [Fr.e hG_N_48 kd_164 _ rfl, hM_N_45, mu_i (by omega)]; exact hp_37.2 i (by omega))) (by unfold zdrop; rw [if_neg (by omega), if_neg (by omega)]) (fun i h1 h2 h3 => (by unfold zdrop; rw [if_neg (by omega), if_neg (by omega)])) (fun i h1 h2 h3 => by rw [Fr.e hG_N_48 kd_164 _ rfl, hM_N_45, mu_i (by omega)]; exact hp_37.2 i (by omega)) hV⟩, fun i h1 => by rw [Fr.e hG_N_48 kd_164 _ rfl, hM_N_45, mu_i (by omega)]; exact hp_37.2 i (by omega)⟩⟩⟩ dX12_drop_83
      · refine kx_aload_n 44 F 0 dX12_drop_43 rfl rfl rfl ?_
        refine kx_getr 47 F fl_X12_7 kd_163 rfl rfl (j := 0) rfl dX12_drop_44 (v := 164) (uq_164 (Inv.r hI_N_31 kd_163 rfl 0 rfl rfl)) rfl ?_
        refine kx_iload 49 F 4 dX12_drop_47 rfl rfl ?_
        refine kx_aload_n 50 F 0 dX12_drop_49 rfl rfl rfl ?_
        refine kx_getr 53 F fl_X12_7 kd_163 rfl rfl (j := 0) rfl dX12_drop_50 (v := 164) (uq_164 (Inv.r hI_N_31 kd_163 rfl 0 rfl rfl)) rfl ?_
        refine kx_iload 55 F 4 dX12_drop_53 rfl rfl ?_
        refine kx_iconst 56 F dX12_drop_55 rfl ?_
        refine kx_iadd 57 F (v := x4_30 + 4) dX12_drop_56 rfl rfl ?_
        refine kx_iald 58 F kd_164 rfl rfl (by omega) (by decide) dX12_drop_57 (v := (N_31 164 (x4_30 + 4))) rfl rfl ?_
        have h_53 := Inv.g hI_N_31 kd_164 rfl (x4_30 + 4) (a := atlo (x4_30 + 4)) (b := athi (x4_30 + 4)) rfl rfl
        have h_54 := at_w (x4_30 + 4)
        refine kx_iast 59 F kd_164 rfl rfl (by omega) (by decide) dX12_drop_58 rfl ?_
        intro N_55 hM_N_55
        have h_56 := at_0 x4_30
        have h_57 := at_4 x4_30 a1 0 (by omega) (by omega)
        have hI_N_55 : Inv true N_55 := Inv.u hI_N_31 hM_N_55 kd_164 (a := atlo x4_30) (b := athi x4_30) rfl rfl rfl (by omega)
        have hF_N_55 : Fr f_e_drop2m M N_55 := Fr.u hF_N_31 hM_N_55 kd_164 rfl
        refine kx_iinc 62 F 4 (v := x4_30 + 1) (lo' := [some (vR G 163), some (vI a1), none, some (vI ((M 164 (85 * a1 + 104)) - 1)), some (vI (x4_30 + 1))]) dX12_drop_59 rfl (by omega) (by decide) rfl rfl rfl ?_
        refine kx_goto 32 F dX12_drop_62 (by decide) ?_
        exact ih_34 _ (by omega) (x4_30 + 1) N_55 hI_N_55 hF_N_55 (CPk.step hp_37 (by omega) hM_N_55 (by omega) rfl (by omega) (by omega) (by omega)) (by omega) rfl
    refine kx_drop 2 (lo' := [some (vR G 163), some (vI a1), none, some (vI ((M 164 (85 * a1 + 104)) - 1)), some (vI (85 * a1 + 4 * a2 + 105))]) rfl ?_
    exact L_32 _ (85 * a1 + 4 * a2 + 105) M hI_M hF_M ((CPk.nil _ _).at (by omega)) (by omega) rfl
  · refine kx_if_ne 9 F 15 dX12_drop_6 (by decide) rfl (by omega) (fun h_58 => (by exfalso; omega)) (fun h_58 => ?_)
    refine kx_aload_n 10 F 0 dX12_drop_9 rfl rfl rfl ?_
    refine kx_iconst 11 F dX12_drop_10 rfl ?_
    refine kx_Vi 14 (ci := 0) F (As := [vI 1]) (st := []) vd_X12_123 (c_X12_refuse G l M 1 hI_M (by omega)) kd_163 rfl rfl rfl ⟨by decide, by decide⟩ rfl rfl (Nat.le_of_ble_eq_true rfl) dX12_drop_11 rfl ?_
    intro r_59 N_60 q_61
    obtain ⟨hI_N_60, hG_N_60, q_61c⟩ := q_61
    have hF_N_60 : Fr f_e_drop2m M N_60 := Fr.c hF_M hG_N_60 rfl
    subst q_61c
    have hq4i : 0 ≤ a1 → a1 < q 3 → M 164 (85 * a1 + 104) = q (85 * a1 + 104) := fun x y => (hU.b (a := a1) (b := 85 * a1 + 100) (by omega) rfl).n (d := 4) (by decide) (by omega)
    exact kx_iret F hQ ⟨hI_N_60, hF_N_60, (by omega), ⟨(YY.fr hY hG_N_60 rfl), ⟨⟨q, Or.inr ⟨fun h => by omega, by omega, rfl⟩, by rw [show N_60 164 = M 164 from (funext (fun j => by rw [Fr.e hG_N_60 kd_164 _ rfl]))]; exact hS, by rw [show N_60 164 = M 164 from (funext (fun j => by rw [Fr.e hG_N_60 kd_164 _ rfl]))]; exact hU⟩, fun i _ => by rw [Fr.e hG_N_60 kd_164 _ rfl]⟩⟩⟩ dX12_drop_14
  · refine kx_if_ne 9 F 15 dX12_drop_6 (by decide) rfl (by omega) (fun h_62 => (by exfalso; omega)) (fun h_62 => ?_)
    refine kx_aload_n 10 F 0 dX12_drop_9 rfl rfl rfl ?_
    refine kx_iconst 11 F dX12_drop_10 rfl ?_
    refine kx_Vi 14 (ci := 0) F (As := [vI 1]) (st := []) vd_X12_123 (c_X12_refuse G l M 1 hI_M (by omega)) kd_163 rfl rfl rfl ⟨by decide, by decide⟩ rfl rfl (Nat.le_of_ble_eq_true rfl) dX12_drop_11 rfl ?_
    intro r_63 N_64 q_65
    obtain ⟨hI_N_64, hG_N_64, q_65c⟩ := q_65
    have hF_N_64 : Fr f_e_drop2m M N_64 := Fr.c hF_M hG_N_64 rfl
    subst q_65c
    have hq4i : 0 ≤ a1 → a1 < q 3 → M 164 (85 * a1 + 104) = q (85 * a1 + 104) := fun x y => (hU.b (a := a1) (b := 85 * a1 + 100) (by omega) rfl).n (d := 4) (by decide) (by omega)
    exact kx_iret F hQ ⟨hI_N_64, hF_N_64, (by omega), ⟨(YY.fr hY hG_N_64 rfl), ⟨⟨q, Or.inr ⟨fun h => by omega, by omega, rfl⟩, by rw [show N_64 164 = M 164 from (funext (fun j => by rw [Fr.e hG_N_64 kd_164 _ rfl]))]; exact hS, by rw [show N_64 164 = M 164 from (funext (fun j => by rw [Fr.e hG_N_64 kd_164 _ rfl]))]; exact hU⟩, fun i _ => by rw [Fr.e hG_N_64 kd_164 _ rfl]⟩⟩⟩ dX12_drop_14
  · refine kx_if_ne 9 F 15 dX12_drop_6 (by decide) rfl (by omega) (fun h_66 => (by exfalso; omega)) (fun h_66 => ?_)
    refine kx_aload_n 10 F 0 dX12_drop_9 rfl rfl rfl ?_
    refine kx_iconst 11 F dX12_drop_10 rfl ?_
    refine kx_Vi 14 (ci := 0) F (As := [vI 1]) (st := []) vd_X12_123 (c_X12_refuse G l M 1 hI_M (by omega)) kd_163 rfl rfl rfl ⟨by decide, by decide⟩ rfl rfl (Nat.le_of_ble_eq_true rfl) dX12_drop_11 rfl ?_
    intro r_67 N_68 q_69
    obtain ⟨hI_N_68, hG_N_68, q_69c⟩ := q_69
    have hF_N_68 : Fr f_e_drop2m M N_68 := Fr.c hF_M hG_N_68 rfl
    subst q_69c
    have hq4i : 0 ≤ a1 → a1 < q 3 → M 164 (85 * a1 + 104) = q (85 * a1 + 104) := fun x y => (hU.b (a := a1) (b := 85 * a1 + 100) (by omega) rfl).n (d := 4) (by decide) (by omega)
    exact kx_iret F hQ ⟨hI_N_68, hF_N_68, (by omega), ⟨(YY.fr hY hG_N_68 rfl), ⟨⟨q, Or.inr ⟨fun h => by omega, by omega, rfl⟩, by rw [show N_68 164 = M 164 from (funext (fun j => by rw [Fr.e hG_N_68 kd_164 _ rfl]))]; exact hS, by rw [show N_68 164 = M 164 from (funext (fun j => by rw [Fr.e hG_N_68 kd_164 _ rfl]))]; exact hU⟩, fun i _ => by rw [Fr.e hG_N_68 kd_164 _ rfl]⟩⟩⟩ dX12_drop_14
  · refine kx_if_ne 9 F 15 dX12_drop_6 (by decide) rfl (by omega) (fun h_70 => (by exfalso; omega)) (fun h_70 => ?_)
    refine kx_aload_n 10 F 0 dX12_drop_9 rfl rfl rfl ?_
    refine kx_iconst 11 F dX12_drop_10 rfl ?_
    refine kx_Vi 14 (ci := 0) F (As := [vI 1]) (st := []) vd_X12_123 (c_X12_refuse G l M 1 hI_M (by omega)) kd_163 rfl rfl rfl ⟨by decide, by decide⟩ rfl rfl (Nat.le_of_ble_eq_true rfl) dX12_drop_11 rfl ?_
    intro r_71 N_72 q_73
    obtain ⟨hI_N_72, hG_N_72, q_73c⟩ := q_73
    have hF_N_72 : Fr f_e_drop2m M N_72 := Fr.c hF_M hG_N_72 rfl
    subst q_73c
    have hq4i : 0 ≤ a1 → a1 < q 3 → M 164 (85 * a1 + 104) = q (85 * a1 + 104) := fun x y => (hU.b (a := a1) (b := 85 * a1 + 100) (by omega) rfl).n (d := 4) (by decide) (by omega)
    exact kx_iret F hQ ⟨hI_N_72, hF_N_72, (by omega), ⟨(YY.fr hY hG_N_72 rfl), ⟨⟨q, Or.inr ⟨fun h => by omega, by omega, rfl⟩, by rw [show N_72 164 = M 164 from (funext (fun j => by rw [Fr.e hG_N_72 kd_164 _ rfl]))]; exact hS, by rw [show N_72 164 = M 164 from (funext (fun j => by rw [Fr.e hG_N_72 kd_164 _ rfl]))]; exact hU⟩, fun i _ => by rw [Fr.e hG_N_72 kd_164 _ rfl]⟩⟩⟩ dX12_drop_14
set_option maxHeartbeats 4000000 in
set_option maxRecDepth 100000 in
theorem e_of2 (G : KG) (l : Launch) (M : Mem) (a1 : Int) (a2 : Int) (hI_M : Inv true M) (hpre : -2147483648 ≤ a1 ∧ a1 ≤ 2147483647 ∧ -2147483648 ≤ a2 ∧ a2 ≤ 2147483647 ∧ 0 ≤ a1 ∧ a1 ≤ 1 ∧ a2 = 2) : KC true G l yX12_of cX12_of 3 (some .int) (1, 21) [vR G 163, vI a1, vI a2] M (fun A => kQi true G A (fun (r : Int) (N : Mem) => M = N ∧ (r = (M 164 (85 * a1 + 102)) ∧ 0 ≤ r ∧ r ≤ 7))) := by
  refine kx_met (lo := [some (vR G 163), some (vI a1), some (vI a2)]) (by decide) (Nat.le_of_ble_eq_true rfl) rfl ?_
  intro X F hQ
  have e_1 : M 164 (85 * a1 + a2 + 100) = M 164 (85 * a1 + 102) := by rw [show 85 * a1 + a2 + 100 = 85 * a1 + 102 by omega]
  refine kx_iload_n 1 F 1 dX12_of_0 rfl rfl rfl ?_
  refine kx_iconst 2 F dX12_of_1 rfl ?_
  refine kx_icmp_ne 5 F 9 dX12_of_2 (by decide) rfl (by omega) (by decide) (fun h_2 => ?_) (fun h_2 => (by exfalso; omega))
  refine kx_aload_n 10 F 0 dX12_of_9 rfl rfl rfl ?_
  refine kx_getr 13 F fl_X12_7 kd_163 rfl rfl (j := 0) rfl dX12_of_10 (v := 164) (uq_164 (Inv.r hI_M kd_163 rfl 0 rfl rfl)) rfl ?_
  refine kx_iconst 14 F dX12_of_13 rfl ?_
  refine kx_iload_n 15 F 1 dX12_of_14 rfl rfl rfl ?_
  refine kx_Si 18 F (As := [vI 0, vI a1]) (st := [vR G 164]) sd_X12_216 (c_X12_rowOf G l M 0 a1 hI_M (by omega)) ⟨by decide, by decide⟩ rfl rfl (Nat.le_of_ble_eq_true rfl) dX12_of_15 rfl ?_
  intro r_3 N_4 q_5
  obtain ⟨rfl, q_5c⟩ := q_5
  refine kx_topi (e' := 85 * a1 + 100) (by omega) ?_
  refine kx_iload_n 19 F 2 dX12_of_18 rfl rfl rfl ?_
  refine kx_iadd 20 F (v := 85 * a1 + a2 + 100) dX12_of_19 (by omega) rfl ?_
  refine kx_iald 21 F kd_164 rfl rfl (by omega) (by decide) dX12_of_20 (v := (M 164 (85 * a1 + a2 + 100))) rfl rfl ?_
  have ha_6 : atlo (85 * a1 + a2 + 100) = 0 ∧ athi (85 * a1 + a2 + 100) = 7 := at_a (85 * a1 + a2 + 100) 0 a1 2 (by omega) (by omega) (by decide)
  have h_7 := Inv.g hI_M kd_164 rfl (85 * a1 + a2 + 100) (a := 0) (b := 7) ha_6.1 ha_6.2
  exact kx_iret F hQ ⟨rfl, (by omega)⟩ dX12_of_21
set_option maxHeartbeats 4000000 in
set_option maxRecDepth 100000 in
theorem e_of3 (G : KG) (l : Launch) (M : Mem) (a1 : Int) (a2 : Int) (hI_M : Inv true M) (hpre : -2147483648 ≤ a1 ∧ a1 ≤ 2147483647 ∧ -2147483648 ≤ a2 ∧ a2 ≤ 2147483647 ∧ 0 ≤ a1 ∧ a1 ≤ 1 ∧ a2 = 3) : KC true G l yX12_of cX12_of 3 (some .int) (1, 21) [vR G 163, vI a1, vI a2] M (fun A => kQi true G A (fun (r : Int) (N : Mem) => M = N ∧ (r = (M 164 (85 * a1 + 103)) ∧ 0 ≤ r ∧ r ≤ 7))) := by
  refine kx_met (lo := [some (vR G 163), some (vI a1), some (vI a2)]) (by decide) (Nat.le_of_ble_eq_true rfl) rfl ?_
  intro X F hQ
  have e_1 : M 164 (85 * a1 + a2 + 100) = M 164 (85 * a1 + 103) := by rw [show 85 * a1 + a2 + 100 = 85 * a1 + 103 by omega]
  refine kx_iload_n 1 F 1 dX12_of_0 rfl rfl rfl ?_
  refine kx_iconst 2 F dX12_of_1 rfl ?_
  refine kx_icmp_ne 5 F 9 dX12_of_2 (by decide) rfl (by omega) (by decide) (fun h_2 => ?_) (fun h_2 => (by exfalso; omega))
  refine kx_aload_n 10 F 0 dX12_of_9 rfl rfl rfl ?_
  refine kx_getr 13 F fl_X12_7 kd_163 rfl rfl (j := 0) rfl dX12_of_10 (v := 164) (uq_164 (Inv.r hI_M kd_163 rfl 0 rfl rfl)) rfl ?_
  refine kx_iconst 14 F dX12_of_13 rfl ?_
  refine kx_iload_n 15 F 1 dX12_of_14 rfl rfl rfl ?_
  refine kx_Si 18 F (As := [vI 0, vI a1]) (st := [vR G 164]) sd_X12_216 (c_X12_rowOf G l M 0 a1 hI_M (by omega)) ⟨by decide, by decide⟩ rfl rfl (Nat.le_of_ble_eq_true rfl) dX12_of_15 rfl ?_
  intro r_3 N_4 q_5
  obtain ⟨rfl, q_5c⟩ := q_5
  refine kx_topi (e' := 85 * a1 + 100) (by omega) ?_
  refine kx_iload_n 19 F 2 dX12_of_18 rfl rfl rfl ?_
  refine kx_iadd 20 F (v := 85 * a1 + a2 + 100) dX12_of_19 (by omega) rfl ?_
  refine kx_iald 21 F kd_164 rfl rfl (by omega) (by decide) dX12_of_20 (v := (M 164 (85 * a1 + a2 + 100))) rfl rfl ?_
  have ha_6 : atlo (85 * a1 + a2 + 100) = 0 ∧ athi (85 * a1 + a2 + 100) = 7 := at_a (85 * a1 + a2 + 100) 0 a1 3 (by omega) (by omega) (by decide)
  have h_7 := Inv.g hI_M kd_164 rfl (85 * a1 + a2 + 100) (a := 0) (b := 7) ha_6.1 ha_6.2
  exact kx_iret F hQ ⟨rfl, (by omega)⟩ dX12_of_21
abbrev f_e_set2 : List (Nat × Int) := [(64, 2), (65, -1)]
set_option maxHeartbeats 4000000 in
set_option maxRecDepth 100000 in
theorem e_set2 (G : KG) (l : Launch) (M : Mem) (a1 : Int) (a2 : Int) (a3 : Int) (a4 : Int) (hI_M : Inv true M) (hpre : -2147483648 ≤ a1 ∧ a1 ≤ 2147483647 ∧ -2147483648 ≤ a2 ∧ a2 ≤ 2147483647 ∧ 0 ≤ a3 ∧ a3 ≤ 1 ∧ -2147483648 ≤ a4 ∧ a4 ≤ 2147483647 ∧ a4 = 2) (hY : YY M) (q : Int → Int) (hS : zRN (M 164) q) (hU : zRU (M 164) q) (hV : zQV q) : KC true G l yX12_setsState cX12_setsState 5 (some .int) (3, 65) [vR G 163, vI a1, vI a2, vI a3, vI a4] M (fun A => kQi true G A (fun (r : Int) (N : Mem) => Inv true N ∧ Fr f_e_set2 M N ∧ (r ≥ -2147483648 ∧ r ≤ 2147483647) ∧ ((YY N) ∧ ((∃ q2, zST q 2 a1 a2 a3 r q2 ∧ zRN (N 164) q2 ∧ zRU (N 164) q2) ∧ zRO N M)))) := by
  refine kx_met (lo := [some (vR G 163), some (vI a1), some (vI a2), some (vI a3), some (vI a4)]) (by decide) (Nat.le_of_ble_eq_true rfl) rfl ?_
  intro X F hQ
  have hF_M : Fr f_e_set2 M M := Fr.rf _ _
  have hSn := hS.u
  have hVu := hV.u
  refine kx_aload_n 1 F 0 dX12_setsState_0 rfl rfl rfl ?_
  refine kx_iload_n 2 F 1 dX12_setsState_1 rfl rfl rfl ?_
  refine kx_Vi 5 (ci := 0) F (As := [vI a1]) (st := []) vd_X12_282 (e_X12_isAutomaton G l M a1 hI_M (by omega)) kd_163 rfl rfl rfl ⟨by decide, by decide⟩ rfl rfl (Nat.le_of_ble_eq_true rfl) dX12_setsState_2 rfl ?_
  intro r_1 N_2 q_3
  obtain ⟨rfl, q_3c⟩ := q_3
  rcases q_3c with q_3c | q_3c | q_3c
  · refine kx_if_eq 8 F 17 dX12_setsState_5 (by decide) rfl (by omega) (fun h_4 => (by exfalso; omega)) (fun h_4 => ?_)
    refine kx_aload_n 9 F 0 dX12_setsState_8 rfl rfl rfl ?_
    refine kx_iload_n 10 F 1 dX12_setsState_9 rfl rfl rfl ?_
    refine kx_iload_n 11 F 2 dX12_setsState_10 rfl rfl rfl ?_
    refine kx_Vi 14 (ci := 0) F (As := [vI a1, vI a2]) (st := []) vd_X12_303 (e_isStateX G l M a1 a2 hI_M (by omega)) kd_163 rfl rfl rfl ⟨by decide, by decide⟩ rfl rfl (Nat.le_of_ble_eq_true rfl) dX12_setsState_11 rfl ?_
    intro r_5 N_6 q_7
    obtain ⟨rfl, q_7c⟩ := q_7
    rcases q_7c with q_7c | q_7c | q_7c
    · refine kx_if_ne 17 F 23 dX12_setsState_14 (by decide) rfl (by omega) (fun h_8 => ?_) (fun h_8 => (by exfalso; omega))
      have hqb := hU.b (a := a1) (b := 85 * a1 + 100) (by omega) rfl
      have hq0 : M 164 (85 * a1 + 100) = q (85 * a1 + 100) := hqb.n (d := 0) (by decide) (by omega)
      have hq2 : M 164 (85 * a1 + 102) = q (85 * a1 + 102) := hqb.n (d := 2) (by decide) (by omega)
      have hsr := zand_r (a := zshr (M 164 (85 * a1 + 102)) a2) (b := 1) (by decide)
      have ha4 : (M 164 (85 * a1 + a4 + 100)) = (M 164 (85 * a1 + 102)) := by rw [show 85 * a1 + a4 + 100 = 85 * a1 + 102 by omega]
      have hz4 : zand (zshr (M 164 (85 * a1 + a4 + 100)) a2) 1 = zand (zshr (M 164 (85 * a1 + 102)) a2) 1 := by rw [ha4]
      have hx4 : zxor (M 164 (85 * a1 + a4 + 100)) (zshl 1 a2) = zxor (M 164 (85 * a1 + 102)) (zshl 1 a2) := by rw [ha4]
      refine kx_aload_n 24 F 0 dX12_setsState_23 rfl rfl rfl ?_
      refine kx_aload_n 25 F 0 dX12_setsState_24 rfl rfl rfl ?_
      refine kx_iload_n 26 F 1 dX12_setsState_25 rfl rfl rfl ?_
      refine kx_iload 28 F 4 dX12_setsState_26 rfl rfl ?_
      refine kx_Vi 31 (ci := 0) F (As := [vI a1, vI a4]) (st := [vR G 163]) vd_X12_288 (e_ofX G l M a1 a4 hI_M (by omega)) kd_163 rfl rfl rfl ⟨by decide, by decide⟩ rfl rfl (Nat.le_of_ble_eq_true rfl) dX12_setsState_28 rfl ?_
      intro r_9 N_10 q_11
      obtain ⟨rfl, q_11c⟩ := q_11
      refine kx_topi (e' := (M 164 (85 * a1 + a4 + 100))) (by omega) ?_
      refine kx_iload_n 32 F 2 dX12_setsState_31 rfl rfl rfl ?_
      refine kx_Vi 35 (ci := 0) F (As := [vI (M 164 (85 * a1 + a4 + 100)), vI a2]) (st := []) vd_X12_239 (e_X12_isIn G l M (M 164 (85 * a1 + a4 + 100)) a2 hI_M (by omega)) kd_163 rfl rfl rfl ⟨by decide, by decide⟩ rfl rfl (Nat.le_of_ble_eq_true rfl) dX12_setsState_32 rfl ?_
      intro r_12 N_13 q_14
      obtain ⟨rfl, q_14c⟩ := q_14
      rcases q_14c with q_14c | q_14c
      · refine kx_iload_n 36 F 3 dX12_setsState_35 rfl rfl rfl ?_
        refine kx_icmp_ne 39 F 46 dX12_setsState_36 (by decide) rfl (by omega) (by omega) (fun h_15 => ?_) (fun h_15 => ?_)
        · refine kx_aload_n 47 F 0 dX12_setsState_46 rfl rfl rfl ?_
          refine kx_getr 50 F fl_X12_7 kd_163 rfl rfl (j := 0) rfl dX12_setsState_47 (v := 164) (uq_164 (Inv.r hI_M kd_163 rfl 0 rfl rfl)) rfl ?_
          refine kx_iconst 51 F dX12_setsState_50 rfl ?_
          refine kx_iload_n 52 F 1 dX12_setsState_51 rfl rfl rfl ?_
          refine kx_Si 55 F (As := [vI 0, vI a1]) (st := [vR G 164]) sd_X12_216 (c_X12_rowOf G l M 0 a1 hI_M (by omega)) ⟨by decide, by decide⟩ rfl rfl (Nat.le_of_ble_eq_true rfl) dX12_setsState_52 rfl ?_
          intro r_16 N_17 q_18
          obtain ⟨rfl, q_18c⟩ := q_18
          refine kx_topi (e' := 85 * a1 + 100) (by omega) ?_
          refine kx_iload 57 F 4 dX12_setsState_55 rfl rfl ?_
          refine kx_iadd 58 F (v := 85 * a1 + a4 + 100) dX12_setsState_57 (by omega) rfl ?_
          refine kx_dup2 59 F dX12_setsState_58 rfl rfl rfl ?_
          refine kx_iald 60 F kd_164 rfl rfl (by omega) (by decide) dX12_setsState_59 (v := (M 164 (85 * a1 + a4 + 100))) rfl rfl ?_
          have ha_19 : atlo (85 * a1 + a4 + 100) = 0 ∧ athi (85 * a1 + a4 + 100) = 7 := at_a (85 * a1 + a4 + 100) 0 a1 2 (by omega) (by omega) (by decide)
          have h_20 := Inv.g hI_M kd_164 rfl (85 * a1 + a4 + 100) (a := 0) (b := 7) ha_19.1 ha_19.2
          refine kx_iconst 61 F dX12_setsState_60 rfl ?_
          refine kx_iload_n 62 F 2 dX12_setsState_61 rfl rfl rfl ?_
          refine kx_ishl 63 F (v := (zshl 1 a2)) dX12_setsState_62 rfl rfl ?_
          have h_21 := zshl_1 (b := a2) 2 (by decide) (by omega)
          refine kx_ixor 64 F (v := (zxor (M 164 (85 * a1 + a4 + 100)) (zshl 1 a2))) dX12_setsState_63 rfl rfl ?_
          have h_22 : 0 ≤ (zxor (M 164 (85 * a1 + a4 + 100)) (zshl 1 a2)) ∧ (zxor (M 164 (85 * a1 + a4 + 100)) (zshl 1 a2)) < 8 := zxor_lt (a := (M 164 (85 * a1 + a4 + 100))) (b := (zshl 1 a2)) 3 (by decide) (by omega) (by omega)
          refine kx_iast 65 F kd_164 rfl rfl (by omega) (by decide) dX12_setsState_64 rfl ?_
          intro N_23 hM_N_23
          have hI_N_23 : Inv true N_23 := Inv.u hI_M hM_N_23 kd_164 (a := 0) (b := 7) ha_19.1 ha_19.2 rfl (by omega)
          have hF_N_23 : Fr f_e_set2 M N_23 := Fr.u hF_M hM_N_23 kd_164 rfl
          refine kx_aload_n 66 F 0 dX12_setsState_65 rfl rfl rfl ?_
          refine kx_aload_n 67 F 0 dX12_setsState_66 rfl rfl rfl ?_
          refine kx_iload_n 68 F 1 dX12_setsState_67 rfl rfl rfl ?_
          refine kx_iload 70 F 4 dX12_setsState_68 rfl rfl ?_
          refine kx_Vi 73 (ci := 0) F (As := [vI a1, vI a4]) (st := [vR G 163]) vd_X12_288 (e_ofX G l N_23 a1 a4 hI_N_23 (by omega)) kd_163 rfl rfl rfl ⟨by decide, by decide⟩ rfl rfl (Nat.le_of_ble_eq_true rfl) dX12_setsState_70 rfl ?_
          intro r_24 N_25 q_26
          obtain ⟨rfl, q_26c⟩ := q_26
          have e_27 : (N_23 164 (85 * a1 + a4 + 100)) = (zxor (M 164 (85 * a1 + a4 + 100)) (zshl 1 a2)) := by rw [hM_N_23, mu_s]
          refine kx_topi (e' := (N_23 164 (85 * a1 + a4 + 100))) (by omega) ?_
          refine kx_Vi 76 (ci := 0) F (As := [vI (N_23 164 (85 * a1 + a4 + 100))]) (st := []) vd_X12_127 (c_X12_gives G l N_23 (N_23 164 (85 * a1 + a4 + 100)) hI_N_23 (by omega)) kd_163 rfl rfl rfl ⟨by decide, by decide⟩ rfl rfl (Nat.le_of_ble_eq_true rfl) dX12_setsState_73 rfl ?_
          intro r_29 N_30 q_31
          obtain ⟨hI_N_30, hG_N_30, q_31c⟩ := q_31
          have hF_N_30 : Fr f_e_set2 M N_30 := Fr.c hF_N_23 hG_N_30 rfl
          refine kx_topi (e' := (N_23 164 (85 * a1 + a4 + 100))) (by omega) ?_
          have hqw : q (85 * a1 + 100 + 2) = M 164 (85 * a1 + 102) := by rw [show 85 * a1 + 100 + 2 = 85 * a1 + 102 by omega]; exact hq2.symm
          have e_33 : (N_30 164 (85 * a1 + 102)) = (N_23 164 (85 * a1 + 102)) := by rw [Fr.e hG_N_30 kd_164 _ rfl]
          have hN4 : N_23 164 (85 * a1 + a4 + 100) = N_23 164 (85 * a1 + 102) := by rw [show 85 * a1 + a4 + 100 = 85 * a1 + 102 by omega]
          exact kx_iret F hQ ⟨hI_N_30, hF_N_30, (by omega), ⟨(YY.fr (YY.sta hY hI_M hM_N_23 (by omega)) hG_N_30 rfl), ⟨⟨(upk q (85 * a1 + 100 + 2) (zxor (q (85 * a1 + 100 + 2)) (zshl 1 a2))), Or.inl ⟨⟨by omega, by omega, by omega, by omega, by rw [hqw]; omega⟩, by rw [hqw]; omega, rfl⟩, zRN.q hS (fun i h1 h2 => by rw [Fr.e hG_N_30 kd_164 _ rfl, hM_N_23, mu_i (by omega)]) (fun i h1 h2 => (upk_o (by omega))), zRU.set (a := a1) hU (by omega) rfl (zRB.put hqb (Or.inl rfl) (by rw [hqw, show 85 * a1 + 100 + 2 = 85 * a1 + 102 by omega]; omega) (fun i h1 => by rw [Fr.e hG_N_30 kd_164 _ rfl, hM_N_23, mu_i (by omega)])) (upk_o (by omega)) (fun i h1 h2 h3 => (upk_o (by omega))) (fun i h1 h2 h3 => by rw [Fr.e hG_N_30 kd_164 _ rfl, hM_N_23, mu_i (by omega)]) hV⟩, fun i h1 => by rw [Fr.e hG_N_30 kd_164 _ rfl, hM_N_23, mu_i (by omega)]⟩⟩⟩ dX12_setsState_76
        · refine kx_aload_n 40 F 0 dX12_setsState_39 rfl rfl rfl ?_
          refine kx_bipush 42 F dX12_setsState_40 (by decide) rfl ?_
          refine kx_Vi 45 (ci := 0) F (As := [vI 7]) (st := []) vd_X12_123 (c_X12_refuse G l M 7 hI_M (by omega)) kd_163 rfl rfl rfl ⟨by decide, by decide⟩ rfl rfl (Nat.le_of_ble_eq_true rfl) dX12_setsState_42 rfl ?_
          intro r_34 N_35 q_36
          obtain ⟨hI_N_35, hG_N_35, q_36c⟩ := q_36
          have hF_N_35 : Fr f_e_set2 M N_35 := Fr.c hF_M hG_N_35 rfl
          subst q_36c
          have hqw : q (85 * a1 + 100 + 2) = M 164 (85 * a1 + 102) := by rw [show 85 * a1 + 100 + 2 = 85 * a1 + 102 by omega]; exact hq2.symm
          exact kx_iret F hQ ⟨hI_N_35, hF_N_35, (by omega), ⟨(YY.fr hY hG_N_35 rfl), ⟨⟨q, Or.inr ⟨fun h => by rw [hqw] at h; omega, by omega, rfl⟩, by rw [show N_35 164 = M 164 from (funext (fun j => by rw [Fr.e hG_N_35 kd_164 _ rfl]))]; exact hS, by rw [show N_35 164 = M 164 from (funext (fun j => by rw [Fr.e hG_N_35 kd_164 _ rfl]))]; exact hU⟩, fun i _ => by rw [Fr.e hG_N_35 kd_164 _ rfl]⟩⟩⟩ dX12_setsState_45
      · refine kx_iload_n 36 F 3 dX12_setsState_35 rfl rfl rfl ?_
        refine kx_icmp_ne 39 F 46 dX12_setsState_36 (by decide) rfl (by omega) (by omega) (fun h_37 => ?_) (fun h_37 => ?_)
        · refine kx_aload_n 47 F 0 dX12_setsState_46 rfl rfl rfl ?_
          refine kx_getr 50 F fl_X12_7 kd_163 rfl rfl (j := 0) rfl dX12_setsState_47 (v := 164) (uq_164 (Inv.r hI_M kd_163 rfl 0 rfl rfl)) rfl ?_
          refine kx_iconst 51 F dX12_setsState_50 rfl ?_
          refine kx_iload_n 52 F 1 dX12_setsState_51 rfl rfl rfl ?_
          refine kx_Si 55 F (As := [vI 0, vI a1]) (st := [vR G 164]) sd_X12_216 (c_X12_rowOf G l M 0 a1 hI_M (by omega)) ⟨by decide, by decide⟩ rfl rfl (Nat.le_of_ble_eq_true rfl) dX12_setsState_52 rfl ?_
          intro r_38 N_39 q_40
          obtain ⟨rfl, q_40c⟩ := q_40
          refine kx_topi (e' := 85 * a1 + 100) (by omega) ?_
          refine kx_iload 57 F 4 dX12_setsState_55 rfl rfl ?_
          refine kx_iadd 58 F (v := 85 * a1 + a4 + 100) dX12_setsState_57 (by omega) rfl ?_
          refine kx_dup2 59 F dX12_setsState_58 rfl rfl rfl ?_
          refine kx_iald 60 F kd_164 rfl rfl (by omega) (by decide) dX12_setsState_59 (v := (M 164 (85 * a1 + a4 + 100))) rfl rfl ?_
          have ha_41 : atlo (85 * a1 + a4 + 100) = 0 ∧ athi (85 * a1 + a4 + 100) = 7 := at_a (85 * a1 + a4 + 100) 0 a1 2 (by omega) (by omega) (by decide)
          have h_42 := Inv.g hI_M kd_164 rfl (85 * a1 + a4 + 100) (a := 0) (b := 7) ha_41.1 ha_41.2
          refine kx_iconst 61 F dX12_setsState_60 rfl ?_
          refine kx_iload_n 62 F 2 dX12_setsState_61 rfl rfl rfl ?_
          refine kx_ishl 63 F (v := (zshl 1 a2)) dX12_setsState_62 rfl rfl ?_
          have h_43 := zshl_1 (b := a2) 2 (by decide) (by omega)
          refine kx_ixor 64 F (v := (zxor (M 164 (85 * a1 + a4 + 100)) (zshl 1 a2))) dX12_setsState_63 rfl rfl ?_
          have h_44 : 0 ≤ (zxor (M 164 (85 * a1 + a4 + 100)) (zshl 1 a2)) ∧ (zxor (M 164 (85 * a1 + a4 + 100)) (zshl 1 a2)) < 8 := zxor_lt (a := (M 164 (85 * a1 + a4 + 100))) (b := (zshl 1 a2)) 3 (by decide) (by omega) (by omega)
          refine kx_iast 65 F kd_164 rfl rfl (by omega) (by decide) dX12_setsState_64 rfl ?_
          intro N_45 hM_N_45
          have hI_N_45 : Inv true N_45 := Inv.u hI_M hM_N_45 kd_164 (a := 0) (b := 7) ha_41.1 ha_41.2 rfl (by omega)
          have hF_N_45 : Fr f_e_set2 M N_45 := Fr.u hF_M hM_N_45 kd_164 rfl
          refine kx_aload_n 66 F 0 dX12_setsState_65 rfl rfl rfl ?_
          refine kx_aload_n 67 F 0 dX12_setsState_66 rfl rfl rfl ?_
          refine kx_iload_n 68 F 1 dX12_setsState_67 rfl rfl rfl ?_
          refine kx_iload 70 F 4 dX12_setsState_68 rfl rfl ?_
          refine kx_Vi 73 (ci := 0) F (As := [vI a1, vI a4]) (st := [vR G 163]) vd_X12_288 (e_ofX G l N_45 a1 a4 hI_N_45 (by omega)) kd_163 rfl rfl rfl ⟨by decide, by decide⟩ rfl rfl (Nat.le_of_ble_eq_true rfl) dX12_setsState_70 rfl ?_
          intro r_46 N_47 q_48
          obtain ⟨rfl, q_48c⟩ := q_48
          have e_49 : (N_45 164 (85 * a1 + a4 + 100)) = (zxor (M 164 (85 * a1 + a4 + 100)) (zshl 1 a2)) := by rw [hM_N_45, mu_s]
          refine kx_topi (e' := (N_45 164 (85 * a1 + a4 + 100))) (by omega) ?_
          refine kx_Vi 76 (ci := 0) F (As := [vI (N_45 164 (85 * a1 + a4 + 100))]) (st := []) vd_X12_127 (c_X12_gives G l N_45 (N_45 164 (85 * a1 + a4 + 100)) hI_N_45 (by omega)) kd_163 rfl rfl rfl ⟨by decide, by decide⟩ rfl rfl (Nat.le_of_ble_eq_true rfl) dX12_setsState_73 rfl ?_
          intro r_51 N_52 q_53
          obtain ⟨hI_N_52, hG_N_52, q_53c⟩ := q_53
          have hF_N_52 : Fr f_e_set2 M N_52 := Fr.c hF_N_45 hG_N_52 rfl
          refine kx_topi (e' := (N_45 164 (85 * a1 + a4 + 100))) (by omega) ?_
          have hqw : q (85 * a1 + 100 + 2) = M 164 (85 * a1 + 102) := by rw [show 85 * a1 + 100 + 2 = 85 * a1 + 102 by omega]; exact hq2.symm
          have e_55 : (N_52 164 (85 * a1 + 102)) = (N_45 164 (85 * a1 + 102)) := by rw [Fr.e hG_N_52 kd_164 _ rfl]
          have hN4 : N_45 164 (85 * a1 + a4 + 100) = N_45 164 (85 * a1 + 102) := by rw [show 85 * a1 + a4 + 100 = 85 * a1 + 102 by omega]
          exact kx_iret F hQ ⟨hI_N_52, hF_N_52, (by omega), ⟨(YY.fr (YY.sta hY hI_M hM_N_45 (by omega)) hG_N_52 rfl), ⟨⟨(upk q (85 * a1 + 100 + 2) (zxor (q (85 * a1 + 100 + 2)) (zshl 1 a2))), Or.inl ⟨⟨by omega, by omega, by omega, by omega, by rw [hqw]; omega⟩, by rw [hqw]; omega, rfl⟩, zRN.q hS (fun i h1 h2 => by rw [Fr.e hG_N_52 kd_164 _ rfl, hM_N_45, mu_i (by omega)]) (fun i h1 h2 => (upk_o (by omega))), zRU.set (a := a1) hU (by omega) rfl (zRB.put hqb (Or.inl rfl) (by rw [hqw, show 85 * a1 + 100 + 2 = 85 * a1 + 102 by omega]; omega) (fun i h1 => by rw [Fr.e hG_N_52 kd_164 _ rfl, hM_N_45, mu_i (by omega)])) (upk_o (by omega)) (fun i h1 h2 h3 => (upk_o (by omega))) (fun i h1 h2 h3 => by rw [Fr.e hG_N_52 kd_164 _ rfl, hM_N_45, mu_i (by omega)]) hV⟩, fun i h1 => by rw [Fr.e hG_N_52 kd_164 _ rfl, hM_N_45, mu_i (by omega)]⟩⟩⟩ dX12_setsState_76
        · refine kx_aload_n 40 F 0 dX12_setsState_39 rfl rfl rfl ?_
          refine kx_bipush 42 F dX12_setsState_40 (by decide) rfl ?_
          refine kx_Vi 45 (ci := 0) F (As := [vI 7]) (st := []) vd_X12_123 (c_X12_refuse G l M 7 hI_M (by omega)) kd_163 rfl rfl rfl ⟨by decide, by decide⟩ rfl rfl (Nat.le_of_ble_eq_true rfl) dX12_setsState_42 rfl ?_
          intro r_56 N_57 q_58
          obtain ⟨hI_N_57, hG_N_57, q_58c⟩ := q_58
          have hF_N_57 : Fr f_e_set2 M N_57 := Fr.c hF_M hG_N_57 rfl
          subst q_58c
          have hqw : q (85 * a1 + 100 + 2) = M 164 (85 * a1 + 102) := by rw [show 85 * a1 + 100 + 2 = 85 * a1 + 102 by omega]; exact hq2.symm
          exact kx_iret F hQ ⟨hI_N_57, hF_N_57, (by omega), ⟨(YY.fr hY hG_N_57 rfl), ⟨⟨q, Or.inr ⟨fun h => by rw [hqw] at h; omega, by omega, rfl⟩, by rw [show N_57 164 = M 164 from (funext (fun j => by rw [Fr.e hG_N_57 kd_164 _ rfl]))]; exact hS, by rw [show N_57 164 = M 164 from (funext (fun j => by rw [Fr.e hG_N_57 kd_164 _ rfl]))]; exact hU⟩, fun i _ => by rw [Fr.e hG_N_57 kd_164 _ rfl]⟩⟩⟩ dX12_setsState_45
    · refine kx_if_ne 17 F 23 dX12_setsState_14 (by decide) rfl (by omega) (fun h_59 => (by exfalso; omega)) (fun h_59 => ?_)
      refine kx_aload_n 18 F 0 dX12_setsState_17 rfl rfl rfl ?_
      refine kx_iconst 19 F dX12_setsState_18 rfl ?_
      refine kx_Vi 22 (ci := 0) F (As := [vI 1]) (st := []) vd_X12_123 (c_X12_refuse G l M 1 hI_M (by omega)) kd_163 rfl rfl rfl ⟨by decide, by decide⟩ rfl rfl (Nat.le_of_ble_eq_true rfl) dX12_setsState_19 rfl ?_
      intro r_60 N_61 q_62
      obtain ⟨hI_N_61, hG_N_61, q_62c⟩ := q_62
      have hF_N_61 : Fr f_e_set2 M N_61 := Fr.c hF_M hG_N_61 rfl
      subst q_62c
      have hq0i : 0 ≤ a1 → a1 < q 3 → M 164 (85 * a1 + 100) = q (85 * a1 + 100) := fun x y => (hU.b (a := a1) (b := 85 * a1 + 100) (by omega) rfl).n (d := 0) (by decide) (by omega)
      exact kx_iret F hQ ⟨hI_N_61, hF_N_61, (by omega), ⟨(YY.fr hY hG_N_61 rfl), ⟨⟨q, Or.inr ⟨fun h => by omega, by omega, rfl⟩, by rw [show N_61 164 = M 164 from (funext (fun j => by rw [Fr.e hG_N_61 kd_164 _ rfl]))]; exact hS, by rw [show N_61 164 = M 164 from (funext (fun j => by rw [Fr.e hG_N_61 kd_164 _ rfl]))]; exact hU⟩, fun i _ => by rw [Fr.e hG_N_61 kd_164 _ rfl]⟩⟩⟩ dX12_setsState_22
    · refine kx_if_ne 17 F 23 dX12_setsState_14 (by decide) rfl (by omega) (fun h_63 => (by exfalso; omega)) (fun h_63 => ?_)
      refine kx_aload_n 18 F 0 dX12_setsState_17 rfl rfl rfl ?_
      refine kx_iconst 19 F dX12_setsState_18 rfl ?_
      refine kx_Vi 22 (ci := 0) F (As := [vI 1]) (st := []) vd_X12_123 (c_X12_refuse G l M 1 hI_M (by omega)) kd_163 rfl rfl rfl ⟨by decide, by decide⟩ rfl rfl (Nat.le_of_ble_eq_true rfl) dX12_setsState_19 rfl ?_
      intro r_64 N_65 q_66
      obtain ⟨hI_N_65, hG_N_65, q_66c⟩ := q_66
      have hF_N_65 : Fr f_e_set2 M N_65 := Fr.c hF_M hG_N_65 rfl
      subst q_66c
      have hq0i : 0 ≤ a1 → a1 < q 3 → M 164 (85 * a1 + 100) = q (85 * a1 + 100) := fun x y => (hU.b (a := a1) (b := 85 * a1 + 100) (by omega) rfl).n (d := 0) (by decide) (by omega)
      exact kx_iret F hQ ⟨hI_N_65, hF_N_65, (by omega), ⟨(YY.fr hY hG_N_65 rfl), ⟨⟨q, Or.inr ⟨fun h => by omega, by omega, rfl⟩, by rw [show N_65 164 = M 164 from (funext (fun j => by rw [Fr.e hG_N_65 kd_164 _ rfl]))]; exact hS, by rw [show N_65 164 = M 164 from (funext (fun j => by rw [Fr.e hG_N_65 kd_164 _ rfl]))]; exact hU⟩, fun i _ => by rw [Fr.e hG_N_65 kd_164 _ rfl]⟩⟩⟩ dX12_setsState_22
  · refine kx_if_eq 8 F 17 dX12_setsState_5 (by decide) rfl (by omega) (fun h_67 => ?_) (fun h_67 => (by exfalso; omega))
    refine kx_aload_n 18 F 0 dX12_setsState_17 rfl rfl rfl ?_
    refine kx_iconst 19 F dX12_setsState_18 rfl ?_
    refine kx_Vi 22 (ci := 0) F (As := [vI 1]) (st := []) vd_X12_123 (c_X12_refuse G l M 1 hI_M (by omega)) kd_163 rfl rfl rfl ⟨by decide, by decide⟩ rfl rfl (Nat.le_of_ble_eq_true rfl) dX12_setsState_19 rfl ?_
    intro r_68 N_69 q_70
    obtain ⟨hI_N_69, hG_N_69, q_70c⟩ := q_70
    have hF_N_69 : Fr f_e_set2 M N_69 := Fr.c hF_M hG_N_69 rfl
    subst q_70c
    have hq0i : 0 ≤ a1 → a1 < q 3 → M 164 (85 * a1 + 100) = q (85 * a1 + 100) := fun x y => (hU.b (a := a1) (b := 85 * a1 + 100) (by omega) rfl).n (d := 0) (by decide) (by omega)
    exact kx_iret F hQ ⟨hI_N_69, hF_N_69, (by omega), ⟨(YY.fr hY hG_N_69 rfl), ⟨⟨q, Or.inr ⟨fun h => by omega, by omega, rfl⟩, by rw [show N_69 164 = M 164 from (funext (fun j => by rw [Fr.e hG_N_69 kd_164 _ rfl]))]; exact hS, by rw [show N_69 164 = M 164 from (funext (fun j => by rw [Fr.e hG_N_69 kd_164 _ rfl]))]; exact hU⟩, fun i _ => by rw [Fr.e hG_N_69 kd_164 _ rfl]⟩⟩⟩ dX12_setsState_22
  · refine kx_if_eq 8 F 17 dX12_setsState_5 (by decide) rfl (by omega) (fun h_71 => ?_) (fun h_71 => (by exfalso; omega))
    refine kx_aload_n 18 F 0 dX12_setsState_17 rfl rfl rfl ?_
    refine kx_iconst 19 F dX12_setsState_18 rfl ?_
    refine kx_Vi 22 (ci := 0) F (As := [vI 1]) (st := []) vd_X12_123 (c_X12_refuse G l M 1 hI_M (by omega)) kd_163 rfl rfl rfl ⟨by decide, by decide⟩ rfl rfl (Nat.le_of_ble_eq_true rfl) dX12_setsState_19 rfl ?_
    intro r_72 N_73 q_74
    obtain ⟨hI_N_73, hG_N_73, q_74c⟩ := q_74
    have hF_N_73 : Fr f_e_set2 M N_73 := Fr.c hF_M hG_N_73 rfl
    subst q_74c
    have hq0i : 0 ≤ a1 → a1 < q 3 → M 164 (85 * a1 + 100) = q (85 * a1 + 100) := fun x y => (hU.b (a := a1) (b := 85 * a1 + 100) (by omega) rfl).n (d := 0) (by decide) (by omega)
    exact kx_iret F hQ ⟨hI_N_73, hF_N_73, (by omega), ⟨(YY.fr hY hG_N_73 rfl), ⟨⟨q, Or.inr ⟨fun h => by omega, by omega, rfl⟩, by rw [show N_73 164 = M 164 from (funext (fun j => by rw [Fr.e hG_N_73 kd_164 _ rfl]))]; exact hS, by rw [show N_73 164 = M 164 from (funext (fun j => by rw [Fr.e hG_N_73 kd_164 _ rfl]))]; exact hU⟩, fun i _ => by rw [Fr.e hG_N_73 kd_164 _ rfl]⟩⟩⟩ dX12_setsState_22
abbrev f_e_set3 : List (Nat × Int) := [(64, 2), (65, -1)]
set_option maxHeartbeats 4000000 in
set_option maxRecDepth 100000 in
theorem e_set3 (G : KG) (l : Launch) (M : Mem) (a1 : Int) (a2 : Int) (a3 : Int) (a4 : Int) (hI_M : Inv true M) (hpre : -2147483648 ≤ a1 ∧ a1 ≤ 2147483647 ∧ -2147483648 ≤ a2 ∧ a2 ≤ 2147483647 ∧ 0 ≤ a3 ∧ a3 ≤ 1 ∧ -2147483648 ≤ a4 ∧ a4 ≤ 2147483647 ∧ a4 = 3) (hY : YY M) (q : Int → Int) (hS : zRN (M 164) q) (hU : zRU (M 164) q) (hV : zQV q) : KC true G l yX12_setsState cX12_setsState 5 (some .int) (3, 65) [vR G 163, vI a1, vI a2, vI a3, vI a4] M (fun A => kQi true G A (fun (r : Int) (N : Mem) => Inv true N ∧ Fr f_e_set3 M N ∧ (r ≥ -2147483648 ∧ r ≤ 2147483647) ∧ ((YY N) ∧ ((∃ q2, zST q 3 a1 a2 a3 r q2 ∧ zRN (N 164) q2 ∧ zRU (N 164) q2) ∧ zRO N M)))) := by
  refine kx_met (lo := [some (vR G 163), some (vI a1), some (vI a2), some (vI a3), some (vI a4)]) (by decide) (Nat.le_of_ble_eq_true rfl) rfl ?_
  intro X F hQ
  have hF_M : Fr f_e_set3 M M := Fr.rf _ _
  have hSn := hS.u
  have hVu := hV.u
  refine kx_aload_n 1 F 0 dX12_setsState_0 rfl rfl rfl ?_
  refine kx_iload_n 2 F 1 dX12_setsState_1 rfl rfl rfl ?_
  refine kx_Vi 5 (ci := 0) F (As := [vI a1]) (st := []) vd_X12_282 (e_X12_isAutomaton G l M a1 hI_M (by omega)) kd_163 rfl rfl rfl ⟨by decide, by decide⟩ rfl rfl (Nat.le_of_ble_eq_true rfl) dX12_setsState_2 rfl ?_
  intro r_1 N_2 q_3
  obtain ⟨rfl, q_3c⟩ := q_3
  rcases q_3c with q_3c | q_3c | q_3c
  · refine kx_if_eq 8 F 17 dX12_setsState_5 (by decide) rfl (by omega) (fun h_4 => (by exfalso; omega)) (fun h_4 => ?_)
    refine kx_aload_n 9 F 0 dX12_setsState_8 rfl rfl rfl ?_
    refine kx_iload_n 10 F 1 dX12_setsState_9 rfl rfl rfl ?_
    refine kx_iload_n 11 F 2 dX12_setsState_10 rfl rfl rfl ?_
    refine kx_Vi 14 (ci := 0) F (As := [vI a1, vI a2]) (st := []) vd_X12_303 (e_isStateX G l M a1 a2 hI_M (by omega)) kd_163 rfl rfl rfl ⟨by decide, by decide⟩ rfl rfl (Nat.le_of_ble_eq_true rfl) dX12_setsState_11 rfl ?_
    intro r_5 N_6 q_7
    obtain ⟨rfl, q_7c⟩ := q_7
    rcases q_7c with q_7c | q_7c | q_7c
    · refine kx_if_ne 17 F 23 dX12_setsState_14 (by decide) rfl (by omega) (fun h_8 => ?_) (fun h_8 => (by exfalso; omega))
      have hqb := hU.b (a := a1) (b := 85 * a1 + 100) (by omega) rfl
      have hq0 : M 164 (85 * a1 + 100) = q (85 * a1 + 100) := hqb.n (d := 0) (by decide) (by omega)
      have hq3 : M 164 (85 * a1 + 103) = q (85 * a1 + 103) := hqb.n (d := 3) (by decide) (by omega)
      have hsr := zand_r (a := zshr (M 164 (85 * a1 + 103)) a2) (b := 1) (by decide)
      have ha4 : (M 164 (85 * a1 + a4 + 100)) = (M 164 (85 * a1 + 103)) := by rw [show 85 * a1 + a4 + 100 = 85 * a1 + 103 by omega]
      have hz4 : zand (zshr (M 164 (85 * a1 + a4 + 100)) a2) 1 = zand (zshr (M 164 (85 * a1 + 103)) a2) 1 := by rw [ha4]
      have hx4 : zxor (M 164 (85 * a1 + a4 + 100)) (zshl 1 a2) = zxor (M 164 (85 * a1 + 103)) (zshl 1 a2) := by rw [ha4]
      refine kx_aload_n 24 F 0 dX12_setsState_23 rfl rfl rfl ?_
      refine kx_aload_n 25 F 0 dX12_setsState_24 rfl rfl rfl ?_
      refine kx_iload_n 26 F 1 dX12_setsState_25 rfl rfl rfl ?_
      refine kx_iload 28 F 4 dX12_setsState_26 rfl rfl ?_
      refine kx_Vi 31 (ci := 0) F (As := [vI a1, vI a4]) (st := [vR G 163]) vd_X12_288 (e_ofX G l M a1 a4 hI_M (by omega)) kd_163 rfl rfl rfl ⟨by decide, by decide⟩ rfl rfl (Nat.le_of_ble_eq_true rfl) dX12_setsState_28 rfl ?_
      intro r_9 N_10 q_11
      obtain ⟨rfl, q_11c⟩ := q_11
      refine kx_topi (e' := (M 164 (85 * a1 + a4 + 100))) (by omega) ?_
      refine kx_iload_n 32 F 2 dX12_setsState_31 rfl rfl rfl ?_
      refine kx_Vi 35 (ci := 0) F (As := [vI (M 164 (85 * a1 + a4 + 100)), vI a2]) (st := []) vd_X12_239 (e_X12_isIn G l M (M 164 (85 * a1 + a4 + 100)) a2 hI_M (by omega)) kd_163 rfl rfl rfl ⟨by decide, by decide⟩ rfl rfl (Nat.le_of_ble_eq_true rfl) dX12_setsState_32 rfl ?_
      intro r_12 N_13 q_14
      obtain ⟨rfl, q_14c⟩ := q_14
      rcases q_14c with q_14c | q_14c
      · refine kx_iload_n 36 F 3 dX12_setsState_35 rfl rfl rfl ?_
        refine kx_icmp_ne 39 F 46 dX12_setsState_36 (by decide) rfl (by omega) (by omega) (fun h_15 => ?_) (fun h_15 => ?_)
        · refine kx_aload_n 47 F 0 dX12_setsState_46 rfl rfl rfl ?_
          refine kx_getr 50 F fl_X12_7 kd_163 rfl rfl (j := 0) rfl dX12_setsState_47 (v := 164) (uq_164 (Inv.r hI_M kd_163 rfl 0 rfl rfl)) rfl ?_
          refine kx_iconst 51 F dX12_setsState_50 rfl ?_
          refine kx_iload_n 52 F 1 dX12_setsState_51 rfl rfl rfl ?_
          refine kx_Si 55 F (As := [vI 0, vI a1]) (st := [vR G 164]) sd_X12_216 (c_X12_rowOf G l M 0 a1 hI_M (by omega)) ⟨by decide, by decide⟩ rfl rfl (Nat.le_of_ble_eq_true rfl) dX12_setsState_52 rfl ?_
          intro r_16 N_17 q_18
          obtain ⟨rfl, q_18c⟩ := q_18
          refine kx_topi (e' := 85 * a1 + 100) (by omega) ?_
          refine kx_iload 57 F 4 dX12_setsState_55 rfl rfl ?_
          refine kx_iadd 58 F (v := 85 * a1 + a4 + 100) dX12_setsState_57 (by omega) rfl ?_
          refine kx_dup2 59 F dX12_setsState_58 rfl rfl rfl ?_
          refine kx_iald 60 F kd_164 rfl rfl (by omega) (by decide) dX12_setsState_59 (v := (M 164 (85 * a1 + a4 + 100))) rfl rfl ?_
          have ha_19 : atlo (85 * a1 + a4 + 100) = 0 ∧ athi (85 * a1 + a4 + 100) = 7 := at_a (85 * a1 + a4 + 100) 0 a1 3 (by omega) (by omega) (by decide)
          have h_20 := Inv.g hI_M kd_164 rfl (85 * a1 + a4 + 100) (a := 0) (b := 7) ha_19.1 ha_19.2
          refine kx_iconst 61 F dX12_setsState_60 rfl ?_
          refine kx_iload_n 62 F 2 dX12_setsState_61 rfl rfl rfl ?_
          refine kx_ishl 63 F (v := (zshl 1 a2)) dX12_setsState_62 rfl rfl ?_
          have h_21 := zshl_1 (b := a2) 2 (by decide) (by omega)
          refine kx_ixor 64 F (v := (zxor (M 164 (85 * a1 + a4 + 100)) (zshl 1 a2))) dX12_setsState_63 rfl rfl ?_
          have h_22 : 0 ≤ (zxor (M 164 (85 * a1 + a4 + 100)) (zshl 1 a2)) ∧ (zxor (M 164 (85 * a1 + a4 + 100)) (zshl 1 a2)) < 8 := zxor_lt (a := (M 164 (85 * a1 + a4 + 100))) (b := (zshl 1 a2)) 3 (by decide) (by omega) (by omega)
          refine kx_iast 65 F kd_164 rfl rfl (by omega) (by decide) dX12_setsState_64 rfl ?_
          intro N_23 hM_N_23
          have hI_N_23 : Inv true N_23 := Inv.u hI_M hM_N_23 kd_164 (a := 0) (b := 7) ha_19.1 ha_19.2 rfl (by omega)
          have hF_N_23 : Fr f_e_set3 M N_23 := Fr.u hF_M hM_N_23 kd_164 rfl
          refine kx_aload_n 66 F 0 dX12_setsState_65 rfl rfl rfl ?_
          refine kx_aload_n 67 F 0 dX12_setsState_66 rfl rfl rfl ?_
          refine kx_iload_n 68 F 1 dX12_setsState_67 rfl rfl rfl ?_
          refine kx_iload 70 F 4 dX12_setsState_68 rfl rfl ?_
          refine kx_Vi 73 (ci := 0) F (As := [vI a1, vI a4]) (st := [vR G 163]) vd_X12_288 (e_ofX G l N_23 a1 a4 hI_N_23 (by omega)) kd_163 rfl rfl rfl ⟨by decide, by decide⟩ rfl rfl (Nat.le_of_ble_eq_true rfl) dX12_setsState_70 rfl ?_
          intro r_24 N_25 q_26
          obtain ⟨rfl, q_26c⟩ := q_26
          have e_27 : (N_23 164 (85 * a1 + a4 + 100)) = (zxor (M 164 (85 * a1 + a4 + 100)) (zshl 1 a2)) := by rw [hM_N_23, mu_s]
          refine kx_topi (e' := (N_23 164 (85 * a1 + a4 + 100))) (by omega) ?_
          refine kx_Vi 76 (ci := 0) F (As := [vI (N_23 164 (85 * a1 + a4 + 100))]) (st := []) vd_X12_127 (c_X12_gives G l N_23 (N_23 164 (85 * a1 + a4 + 100)) hI_N_23 (by omega)) kd_163 rfl rfl rfl ⟨by decide, by decide⟩ rfl rfl (Nat.le_of_ble_eq_true rfl) dX12_setsState_73 rfl ?_
          intro r_29 N_30 q_31
          obtain ⟨hI_N_30, hG_N_30, q_31c⟩ := q_31
          have hF_N_30 : Fr f_e_set3 M N_30 := Fr.c hF_N_23 hG_N_30 rfl
          refine kx_topi (e' := (N_23 164 (85 * a1 + a4 + 100))) (by omega) ?_
          have hqw : q (85 * a1 + 100 + 3) = M 164 (85 * a1 + 103) := by rw [show 85 * a1 + 100 + 3 = 85 * a1 + 103 by omega]; exact hq3.symm
          have e_33 : (N_30 164 (85 * a1 + 103)) = (N_23 164 (85 * a1 + 103)) := by rw [Fr.e hG_N_30 kd_164 _ rfl]
          have hN4 : N_23 164 (85 * a1 + a4 + 100) = N_23 164 (85 * a1 + 103) := by rw [show 85 * a1 + a4 + 100 = 85 * a1 + 103 by omega]
          exact kx_iret F hQ ⟨hI_N_30, hF_N_30, (by omega), ⟨(YY.fr (YY.sta hY hI_M hM_N_23 (by omega)) hG_N_30 rfl), ⟨⟨(upk q (85 * a1 + 100 + 3) (zxor (q (85 * a1 + 100 + 3)) (zshl 1 a2))), Or.inl ⟨⟨by omega, by omega, by omega, by omega, by rw [hqw]; omega⟩, by rw [hqw]; omega, rfl⟩, zRN.q hS (fun i h1 h2 => by rw [Fr.e hG_N_30 kd_164 _ rfl, hM_N_23, mu_i (by omega)]) (fun i h1 h2 => (upk_o (by omega))), zRU.set (a := a1) hU (by omega) rfl (zRB.put hqb (Or.inr rfl) (by rw [hqw, show 85 * a1 + 100 + 3 = 85 * a1 + 103 by omega]; omega) (fun i h1 => by rw [Fr.e hG_N_30 kd_164 _ rfl, hM_N_23, mu_i (by omega)])) (upk_o (by omega)) (fun i h1 h2 h3 => (upk_o (by omega))) (fun i h1 h2 h3 => by rw [Fr.e hG_N_30 kd_164 _ rfl, hM_N_23, mu_i (by omega)]) hV⟩, fun i h1 => by rw [Fr.e hG_N_30 kd_164 _ rfl, hM_N_23, mu_i (by omega)]⟩⟩⟩ dX12_setsState_76
        · refine kx_aload_n 40 F 0 dX12_setsState_39 rfl rfl rfl ?_
          refine kx_bipush 42 F dX12_setsState_40 (by decide) rfl ?_
          refine kx_Vi 45 (ci := 0) F (As := [vI 7]) (st := []) vd_X12_123 (c_X12_refuse G l M 7 hI_M (by omega)) kd_163 rfl rfl rfl ⟨by decide, by decide⟩ rfl rfl (Nat.le_of_ble_eq_true rfl) dX12_setsState_42 rfl ?_
          intro r_34 N_35 q_36
          obtain ⟨hI_N_35, hG_N_35, q_36c⟩ := q_36
          have hF_N_35 : Fr f_e_set3 M N_35 := Fr.c hF_M hG_N_35 rfl
          subst q_36c
          have hqw : q (85 * a1 + 100 + 3) = M 164 (85 * a1 + 103) := by rw [show 85 * a1 + 100 + 3 = 85 * a1 + 103 by omega]; exact hq3.symm
          exact kx_iret F hQ ⟨hI_N_35, hF_N_35, (by omega), ⟨(YY.fr hY hG_N_35 rfl), ⟨⟨q, Or.inr ⟨fun h => by rw [hqw] at h; omega, by omega, rfl⟩, by rw [show N_35 164 = M 164 from (funext (fun j => by rw [Fr.e hG_N_35 kd_164 _ rfl]))]; exact hS, by rw [show N_35 164 = M 164 from (funext (fun j => by rw [Fr.e hG_N_35 kd_164 _ rfl]))]; exact hU⟩, fun i _ => by rw [Fr.e hG_N_35 kd_164 _ rfl]⟩⟩⟩ dX12_setsState_45
      · refine kx_iload_n 36 F 3 dX12_setsState_35 rfl rfl rfl ?_
        refine kx_icmp_ne 39 F 46 dX12_setsState_36 (by decide) rfl (by omega) (by omega) (fun h_37 => ?_) (fun h_37 => ?_)
        · refine kx_aload_n 47 F 0 dX12_setsState_46 rfl rfl rfl ?_
          refine kx_getr 50 F fl_X12_7 kd_163 rfl rfl (j := 0) rfl dX12_setsState_47 (v := 164) (uq_164 (Inv.r hI_M kd_163 rfl 0 rfl rfl)) rfl ?_
          refine kx_iconst 51 F dX12_setsState_50 rfl ?_
          refine kx_iload_n 52 F 1 dX12_setsState_51 rfl rfl rfl ?_
          refine kx_Si 55 F (As := [vI 0, vI a1]) (st := [vR G 164]) sd_X12_216 (c_X12_rowOf G l M 0 a1 hI_M (by omega)) ⟨by decide, by decide⟩ rfl rfl (Nat.le_of_ble_eq_true rfl) dX12_setsState_52 rfl ?_
          intro r_38 N_39 q_40
          obtain ⟨rfl, q_40c⟩ := q_40
          refine kx_topi (e' := 85 * a1 + 100) (by omega) ?_
          refine kx_iload 57 F 4 dX12_setsState_55 rfl rfl ?_
          refine kx_iadd 58 F (v := 85 * a1 + a4 + 100) dX12_setsState_57 (by omega) rfl ?_
          refine kx_dup2 59 F dX12_setsState_58 rfl rfl rfl ?_
          refine kx_iald 60 F kd_164 rfl rfl (by omega) (by decide) dX12_setsState_59 (v := (M 164 (85 * a1 + a4 + 100))) rfl rfl ?_
          have ha_41 : atlo (85 * a1 + a4 + 100) = 0 ∧ athi (85 * a1 + a4 + 100) = 7 := at_a (85 * a1 + a4 + 100) 0 a1 3 (by omega) (by omega) (by decide)
          have h_42 := Inv.g hI_M kd_164 rfl (85 * a1 + a4 + 100) (a := 0) (b := 7) ha_41.1 ha_41.2
          refine kx_iconst 61 F dX12_setsState_60 rfl ?_
          refine kx_iload_n 62 F 2 dX12_setsState_61 rfl rfl rfl ?_
          refine kx_ishl 63 F (v := (zshl 1 a2)) dX12_setsState_62 rfl rfl ?_
          have h_43 := zshl_1 (b := a2) 2 (by decide) (by omega)
          refine kx_ixor 64 F (v := (zxor (M 164 (85 * a1 + a4 + 100)) (zshl 1 a2))) dX12_setsState_63 rfl rfl ?_
          have h_44 : 0 ≤ (zxor (M 164 (85 * a1 + a4 + 100)) (zshl 1 a2)) ∧ (zxor (M 164 (85 * a1 + a4 + 100)) (zshl 1 a2)) < 8 := zxor_lt (a := (M 164 (85 * a1 + a4 + 100))) (b := (zshl 1 a2)) 3 (by decide) (by omega) (by omega)
          refine kx_iast 65 F kd_164 rfl rfl (by omega) (by decide) dX12_setsState_64 rfl ?_
          intro N_45 hM_N_45
          have hI_N_45 : Inv true N_45 := Inv.u hI_M hM_N_45 kd_164 (a := 0) (b := 7) ha_41.1 ha_41.2 rfl (by omega)
          have hF_N_45 : Fr f_e_set3 M N_45 := Fr.u hF_M hM_N_45 kd_164 rfl
          refine kx_aload_n 66 F 0 dX12_setsState_65 rfl rfl rfl ?_
          refine kx_aload_n 67 F 0 dX12_setsState_66 rfl rfl rfl ?_
          refine kx_iload_n 68 F 1 dX12_setsState_67 rfl rfl rfl ?_
          refine kx_iload 70 F 4 dX12_setsState_68 rfl rfl ?_
          refine kx_Vi 73 (ci := 0) F (As := [vI a1, vI a4]) (st := [vR G 163]) vd_X12_288 (e_ofX G l N_45 a1 a4 hI_N_45 (by omega)) kd_163 rfl rfl rfl ⟨by decide, by decide⟩ rfl rfl (Nat.le_of_ble_eq_true rfl) dX12_setsState_70 rfl ?_
          intro r_46 N_47 q_48
          obtain ⟨rfl, q_48c⟩ := q_48
          have e_49 : (N_45 164 (85 * a1 + a4 + 100)) = (zxor (M 164 (85 * a1 + a4 + 100)) (zshl 1 a2)) := by rw [hM_N_45, mu_s]
          refine kx_topi (e' := (N_45 164 (85 * a1 + a4 + 100))) (by omega) ?_
          refine kx_Vi 76 (ci := 0) F (As := [vI (N_45 164 (85 * a1 + a4 + 100))]) (st := []) vd_X12_127 (c_X12_gives G l N_45 (N_45 164 (85 * a1 + a4 + 100)) hI_N_45 (by omega)) kd_163 rfl rfl rfl ⟨by decide, by decide⟩ rfl rfl (Nat.le_of_ble_eq_true rfl) dX12_setsState_73 rfl ?_
          intro r_51 N_52 q_53
          obtain ⟨hI_N_52, hG_N_52, q_53c⟩ := q_53
          have hF_N_52 : Fr f_e_set3 M N_52 := Fr.c hF_N_45 hG_N_52 rfl
          refine kx_topi (e' := (N_45 164 (85 * a1 + a4 + 100))) (by omega) ?_
          have hqw : q (85 * a1 + 100 + 3) = M 164 (85 * a1 + 103) := by rw [show 85 * a1 + 100 + 3 = 85 * a1 + 103 by omega]; exact hq3.symm
          have e_55 : (N_52 164 (85 * a1 + 103)) = (N_45 164 (85 * a1 + 103)) := by rw [Fr.e hG_N_52 kd_164 _ rfl]
          have hN4 : N_45 164 (85 * a1 + a4 + 100) = N_45 164 (85 * a1 + 103) := by rw [show 85 * a1 + a4 + 100 = 85 * a1 + 103 by omega]
          exact kx_iret F hQ ⟨hI_N_52, hF_N_52, (by omega), ⟨(YY.fr (YY.sta hY hI_M hM_N_45 (by omega)) hG_N_52 rfl), ⟨⟨(upk q (85 * a1 + 100 + 3) (zxor (q (85 * a1 + 100 + 3)) (zshl 1 a2))), Or.inl ⟨⟨by omega, by omega, by omega, by omega, by rw [hqw]; omega⟩, by rw [hqw]; omega, rfl⟩, zRN.q hS (fun i h1 h2 => by rw [Fr.e hG_N_52 kd_164 _ rfl, hM_N_45, mu_i (by omega)]) (fun i h1 h2 => (upk_o (by omega))), zRU.set (a := a1) hU (by omega) rfl (zRB.put hqb (Or.inr rfl) (by rw [hqw, show 85 * a1 + 100 + 3 = 85 * a1 + 103 by omega]; omega) (fun i h1 => by rw [Fr.e hG_N_52 kd_164 _ rfl, hM_N_45, mu_i (by omega)])) (upk_o (by omega)) (fun i h1 h2 h3 => (upk_o (by omega))) (fun i h1 h2 h3 => by rw [Fr.e hG_N_52 kd_164 _ rfl, hM_N_45, mu_i (by omega)]) hV⟩, fun i h1 => by rw [Fr.e hG_N_52 kd_164 _ rfl, hM_N_45, mu_i (by omega)]⟩⟩⟩ dX12_setsState_76
        · refine kx_aload_n 40 F 0 dX12_setsState_39 rfl rfl rfl ?_
          refine kx_bipush 42 F dX12_setsState_40 (by decide) rfl ?_
          refine kx_Vi 45 (ci := 0) F (As := [vI 7]) (st := []) vd_X12_123 (c_X12_refuse G l M 7 hI_M (by omega)) kd_163 rfl rfl rfl ⟨by decide, by decide⟩ rfl rfl (Nat.le_of_ble_eq_true rfl) dX12_setsState_42 rfl ?_
          intro r_56 N_57 q_58
          obtain ⟨hI_N_57, hG_N_57, q_58c⟩ := q_58
          have hF_N_57 : Fr f_e_set3 M N_57 := Fr.c hF_M hG_N_57 rfl
          subst q_58c
          have hqw : q (85 * a1 + 100 + 3) = M 164 (85 * a1 + 103) := by rw [show 85 * a1 + 100 + 3 = 85 * a1 + 103 by omega]; exact hq3.symm
          exact kx_iret F hQ ⟨hI_N_57, hF_N_57, (by omega), ⟨(YY.fr hY hG_N_57 rfl), ⟨⟨q, Or.inr ⟨fun h => by rw [hqw] at h; omega, by omega, rfl⟩, by rw [show N_57 164 = M 164 from (funext (fun j => by rw [Fr.e hG_N_57 kd_164 _ rfl]))]; exact hS, by rw [show N_57 164 = M 164 from (funext (fun j => by rw [Fr.e hG_N_57 kd_164 _ rfl]))]; exact hU⟩, fun i _ => by rw [Fr.e hG_N_57 kd_164 _ rfl]⟩⟩⟩ dX12_setsState_45
    · refine kx_if_ne 17 F 23 dX12_setsState_14 (by decide) rfl (by omega) (fun h_59 => (by exfalso; omega)) (fun h_59 => ?_)
      refine kx_aload_n 18 F 0 dX12_setsState_17 rfl rfl rfl ?_
      refine kx_iconst 19 F dX12_setsState_18 rfl ?_
      refine kx_Vi 22 (ci := 0) F (As := [vI 1]) (st := []) vd_X12_123 (c_X12_refuse G l M 1 hI_M (by omega)) kd_163 rfl rfl rfl ⟨by decide, by decide⟩ rfl rfl (Nat.le_of_ble_eq_true rfl) dX12_setsState_19 rfl ?_
      intro r_60 N_61 q_62
      obtain ⟨hI_N_61, hG_N_61, q_62c⟩ := q_62
      have hF_N_61 : Fr f_e_set3 M N_61 := Fr.c hF_M hG_N_61 rfl
      subst q_62c
      have hq0i : 0 ≤ a1 → a1 < q 3 → M 164 (85 * a1 + 100) = q (85 * a1 + 100) := fun x y => (hU.b (a := a1) (b := 85 * a1 + 100) (by omega) rfl).n (d := 0) (by decide) (by omega)
      exact kx_iret F hQ ⟨hI_N_61, hF_N_61, (by omega), ⟨(YY.fr hY hG_N_61 rfl), ⟨⟨q, Or.inr ⟨fun h => by omega, by omega, rfl⟩, by rw [show N_61 164 = M 164 from (funext (fun j => by rw [Fr.e hG_N_61 kd_164 _ rfl]))]; exact hS, by rw [show N_61 164 = M 164 from (funext (fun j => by rw [Fr.e hG_N_61 kd_164 _ rfl]))]; exact hU⟩, fun i _ => by rw [Fr.e hG_N_61 kd_164 _ rfl]⟩⟩⟩ dX12_setsState_22
    · refine kx_if_ne 17 F 23 dX12_setsState_14 (by decide) rfl (by omega) (fun h_63 => (by exfalso; omega)) (fun h_63 => ?_)
      refine kx_aload_n 18 F 0 dX12_setsState_17 rfl rfl rfl ?_
      refine kx_iconst 19 F dX12_setsState_18 rfl ?_
      refine kx_Vi 22 (ci := 0) F (As := [vI 1]) (st := []) vd_X12_123 (c_X12_refuse G l M 1 hI_M (by omega)) kd_163 rfl rfl rfl ⟨by decide, by decide⟩ rfl rfl (Nat.le_of_ble_eq_true rfl) dX12_setsState_19 rfl ?_
      intro r_64 N_65 q_66
      obtain ⟨hI_N_65, hG_N_65, q_66c⟩ := q_66
      have hF_N_65 : Fr f_e_set3 M N_65 := Fr.c hF_M hG_N_65 rfl
      subst q_66c
      have hq0i : 0 ≤ a1 → a1 < q 3 → M 164 (85 * a1 + 100) = q (85 * a1 + 100) := fun x y => (hU.b (a := a1) (b := 85 * a1 + 100) (by omega) rfl).n (d := 0) (by decide) (by omega)
      exact kx_iret F hQ ⟨hI_N_65, hF_N_65, (by omega), ⟨(YY.fr hY hG_N_65 rfl), ⟨⟨q, Or.inr ⟨fun h => by omega, by omega, rfl⟩, by rw [show N_65 164 = M 164 from (funext (fun j => by rw [Fr.e hG_N_65 kd_164 _ rfl]))]; exact hS, by rw [show N_65 164 = M 164 from (funext (fun j => by rw [Fr.e hG_N_65 kd_164 _ rfl]))]; exact hU⟩, fun i _ => by rw [Fr.e hG_N_65 kd_164 _ rfl]⟩⟩⟩ dX12_setsState_22
  · refine kx_if_eq 8 F 17 dX12_setsState_5 (by decide) rfl (by omega) (fun h_67 => ?_) (fun h_67 => (by exfalso; omega))
    refine kx_aload_n 18 F 0 dX12_setsState_17 rfl rfl rfl ?_
    refine kx_iconst 19 F dX12_setsState_18 rfl ?_
    refine kx_Vi 22 (ci := 0) F (As := [vI 1]) (st := []) vd_X12_123 (c_X12_refuse G l M 1 hI_M (by omega)) kd_163 rfl rfl rfl ⟨by decide, by decide⟩ rfl rfl (Nat.le_of_ble_eq_true rfl) dX12_setsState_19 rfl ?_
    intro r_68 N_69 q_70
    obtain ⟨hI_N_69, hG_N_69, q_70c⟩ := q_70
    have hF_N_69 : Fr f_e_set3 M N_69 := Fr.c hF_M hG_N_69 rfl
    subst q_70c
    have hq0i : 0 ≤ a1 → a1 < q 3 → M 164 (85 * a1 + 100) = q (85 * a1 + 100) := fun x y => (hU.b (a := a1) (b := 85 * a1 + 100) (by omega) rfl).n (d := 0) (by decide) (by omega)
    exact kx_iret F hQ ⟨hI_N_69, hF_N_69, (by omega), ⟨(YY.fr hY hG_N_69 rfl), ⟨⟨q, Or.inr ⟨fun h => by omega, by omega, rfl⟩, by rw [show N_69 164 = M 164 from (funext (fun j => by rw [Fr.e hG_N_69 kd_164 _ rfl]))]; exact hS, by rw [show N_69 164 = M 164 from (funext (fun j => by rw [Fr.e hG_N_69 kd_164 _ rfl]))]; exact hU⟩, fun i _ => by rw [Fr.e hG_N_69 kd_164 _ rfl]⟩⟩⟩ dX12_setsState_22
  · refine kx_if_eq 8 F 17 dX12_setsState_5 (by decide) rfl (by omega) (fun h_71 => ?_) (fun h_71 => (by exfalso; omega))
    refine kx_aload_n 18 F 0 dX12_setsState_17 rfl rfl rfl ?_
    refine kx_iconst 19 F dX12_setsState_18 rfl ?_
    refine kx_Vi 22 (ci := 0) F (As := [vI 1]) (st := []) vd_X12_123 (c_X12_refuse G l M 1 hI_M (by omega)) kd_163 rfl rfl rfl ⟨by decide, by decide⟩ rfl rfl (Nat.le_of_ble_eq_true rfl) dX12_setsState_19 rfl ?_
    intro r_72 N_73 q_74
    obtain ⟨hI_N_73, hG_N_73, q_74c⟩ := q_74
    have hF_N_73 : Fr f_e_set3 M N_73 := Fr.c hF_M hG_N_73 rfl
    subst q_74c
    have hq0i : 0 ≤ a1 → a1 < q 3 → M 164 (85 * a1 + 100) = q (85 * a1 + 100) := fun x y => (hU.b (a := a1) (b := 85 * a1 + 100) (by omega) rfl).n (d := 0) (by decide) (by omega)
    exact kx_iret F hQ ⟨hI_N_73, hF_N_73, (by omega), ⟨(YY.fr hY hG_N_73 rfl), ⟨⟨q, Or.inr ⟨fun h => by omega, by omega, rfl⟩, by rw [show N_73 164 = M 164 from (funext (fun j => by rw [Fr.e hG_N_73 kd_164 _ rfl]))]; exact hS, by rw [show N_73 164 = M 164 from (funext (fun j => by rw [Fr.e hG_N_73 kd_164 _ rfl]))]; exact hU⟩, fun i _ => by rw [Fr.e hG_N_73 kd_164 _ rfl]⟩⟩⟩ dX12_setsState_22
abbrev f_e_start2m : List (Nat × Int) := [(64, 2), (65, -1)]
set_option maxHeartbeats 4000000 in
set_option maxRecDepth 100000 in
theorem e_start2m (G : KG) (l : Launch) (M : Mem) (a1 : Int) (a2 : Int) (a3 : Int) (hI_M : Inv true M) (hpre : -2147483648 ≤ a1 ∧ a1 ≤ 2147483647 ∧ -2147483648 ≤ a2 ∧ a2 ≤ 2147483647 ∧ 0 ≤ a3 ∧ a3 ≤ 1) (hY : YY M) (q : Int → Int) (hS : zRN (M 164) q) (hU : zRU (M 164) q) (hV : zQV q) : KC true G l yX12_start cX12_start 4 (some .int) (4, 89) [vR G 163, vI a1, vI a2, vI a3] M (fun A => kQi true G A (fun (r : Int) (N : Mem) => Inv true N ∧ Fr f_e_start2m M N ∧ (r ≥ -2147483648 ∧ r ≤ 2147483647) ∧ ((YY N) ∧ ((∃ q2, zST q 2 a1 a2 a3 r q2 ∧ zRN (N 164) q2 ∧ zRU (N 164) q2) ∧ zRO N M)))) := by
  refine kx_met (lo := [some (vR G 163), some (vI a1), some (vI a2), some (vI a3)]) (by decide) (Nat.le_of_ble_eq_true rfl) rfl ?_
  intro X F hQ
  have hF_M : Fr f_e_start2m M M := Fr.rf _ _
  refine kx_aload_n 1 F 0 dX12_start_0 rfl rfl rfl ?_
  refine kx_iload_n 2 F 1 dX12_start_1 rfl rfl rfl ?_
  refine kx_iload_n 3 F 2 dX12_start_2 rfl rfl rfl ?_
  refine kx_iload_n 4 F 3 dX12_start_3 rfl rfl rfl ?_
  refine kx_iconst 5 F dX12_start_4 rfl ?_
  refine kx_Vi 8 (ci := 0) F (As := [vI a1, vI a2, vI a3, vI 2]) (st := []) vd_X12_309 (e_set2 G l M a1 a2 a3 2 hI_M (by omega) hY q hS hU hV) kd_163 rfl rfl rfl ⟨by decide, by decide⟩ rfl rfl (Nat.le_of_ble_eq_true rfl) dX12_start_5 rfl ?_
  intro r_1 N_2 q_3
  obtain ⟨hI_N_2, hG_N_2, q_3c, ⟨hy_N_2, ⟨⟨q_N_2, hw_N_2, hs_N_2, hu_N_2⟩, ho_N_2⟩⟩⟩ := q_3
  have hF_N_2 : Fr f_e_start2m M N_2 := Fr.c hF_M hG_N_2 rfl
  exact kx_iret F hQ ⟨hI_N_2, hF_N_2, (by omega), ⟨hy_N_2, ⟨⟨q_N_2, hw_N_2, hs_N_2, hu_N_2⟩, ho_N_2⟩⟩⟩ dX12_start_8
abbrev f_e_accept2m : List (Nat × Int) := [(64, 2), (65, -1)]
set_option maxHeartbeats 4000000 in
set_option maxRecDepth 100000 in
theorem e_accept2m (G : KG) (l : Launch) (M : Mem) (a1 : Int) (a2 : Int) (a3 : Int) (hI_M : Inv true M) (hpre : -2147483648 ≤ a1 ∧ a1 ≤ 2147483647 ∧ -2147483648 ≤ a2 ∧ a2 ≤ 2147483647 ∧ 0 ≤ a3 ∧ a3 ≤ 1) (hY : YY M) (q : Int → Int) (hS : zRN (M 164) q) (hU : zRU (M 164) q) (hV : zQV q) : KC true G l yX12_accept cX12_accept 4 (some .int) (4, 89) [vR G 163, vI a1, vI a2, vI a3] M (fun A => kQi true G A (fun (r : Int) (N : Mem) => Inv true N ∧ Fr f_e_accept2m M N ∧ (r ≥ -2147483648 ∧ r ≤ 2147483647) ∧ ((YY N) ∧ ((∃ q2, zST q 3 a1 a2 a3 r q2 ∧ zRN (N 164) q2 ∧ zRU (N 164) q2) ∧ zRO N M)))) := by
  refine kx_met (lo := [some (vR G 163), some (vI a1), some (vI a2), some (vI a3)]) (by decide) (Nat.le_of_ble_eq_true rfl) rfl ?_
  intro X F hQ
  have hF_M : Fr f_e_accept2m M M := Fr.rf _ _
  refine kx_aload_n 1 F 0 dX12_accept_0 rfl rfl rfl ?_
  refine kx_iload_n 2 F 1 dX12_accept_1 rfl rfl rfl ?_
  refine kx_iload_n 3 F 2 dX12_accept_2 rfl rfl rfl ?_
  refine kx_iload_n 4 F 3 dX12_accept_3 rfl rfl rfl ?_
  refine kx_iconst 5 F dX12_accept_4 rfl ?_
  refine kx_Vi 8 (ci := 0) F (As := [vI a1, vI a2, vI a3, vI 3]) (st := []) vd_X12_309 (e_set3 G l M a1 a2 a3 3 hI_M (by omega) hY q hS hU hV) kd_163 rfl rfl rfl ⟨by decide, by decide⟩ rfl rfl (Nat.le_of_ble_eq_true rfl) dX12_accept_5 rfl ?_
  intro r_1 N_2 q_3
  obtain ⟨hI_N_2, hG_N_2, q_3c, ⟨hy_N_2, ⟨⟨q_N_2, hw_N_2, hs_N_2, hu_N_2⟩, ho_N_2⟩⟩⟩ := q_3
  have hF_N_2 : Fr f_e_accept2m M N_2 := Fr.c hF_M hG_N_2 rfl
  exact kx_iret F hQ ⟨hI_N_2, hF_N_2, (by omega), ⟨hy_N_2, ⟨⟨q_N_2, hw_N_2, hs_N_2, hu_N_2⟩, ho_N_2⟩⟩⟩ dX12_accept_8
set_option maxHeartbeats 4000000 in
set_option maxRecDepth 100000 in
theorem e_areTwoX (G : KG) (l : Launch) (M : Mem) (a1 : Int) (a2 : Int) (hI_M : Inv true M) (hpre : -2147483648 ≤ a1 ∧ a1 ≤ 2147483647 ∧ -2147483648 ≤ a2 ∧ a2 ≤ 2147483647) : KC true G l yX12_areTwo cX12_areTwo 3 (some .boolean) (1, 21) [vR G 163, vI a1, vI a2] M (fun A => kQi true G A (fun (r : Int) (N : Mem) => M = N ∧ ((r = 1 ∧ 0 ≤ a1 ∧ a1 < (M 164 3) ∧ 0 ≤ a2 ∧ a2 < (M 164 3) ∧ a1 ≠ a2) ∨ (r = 0 ∧ a1 < 0) ∨ (r = 0 ∧ a1 ≥ (M 164 3)) ∨ (r = 0 ∧ a2 < 0) ∨ (r = 0 ∧ a2 ≥ (M 164 3)) ∨ (r = 0 ∧ a1 = a2)))) := by
  refine kx_met (lo := [some (vR G 163), some (vI a1), some (vI a2)]) (by decide) (Nat.le_of_ble_eq_true rfl) rfl ?_
  intro X F hQ
  refine kx_aload_n 1 F 0 dX12_areTwo_0 rfl rfl rfl ?_
  refine kx_iload_n 2 F 1 dX12_areTwo_1 rfl rfl rfl ?_
  refine kx_Vi 5 (ci := 0) F (As := [vI a1]) (st := []) vd_X12_282 (e_X12_isAutomaton G l M a1 hI_M (by omega)) kd_163 rfl rfl rfl ⟨by decide, by decide⟩ rfl rfl (Nat.le_of_ble_eq_true rfl) dX12_areTwo_2 rfl ?_
  intro r_1 N_2 q_3
  obtain ⟨rfl, q_3c⟩ := q_3
  rcases q_3c with q_3c | q_3c | q_3c
  · refine kx_if_eq 8 F 25 dX12_areTwo_5 (by decide) rfl (by omega) (fun h_4 => (by exfalso; omega)) (fun h_4 => ?_)
    refine kx_aload_n 9 F 0 dX12_areTwo_8 rfl rfl rfl ?_
    refine kx_iload_n 10 F 2 dX12_areTwo_9 rfl rfl rfl ?_
    refine kx_Vi 13 (ci := 0) F (As := [vI a2]) (st := []) vd_X12_282 (e_X12_isAutomaton G l M a2 hI_M (by omega)) kd_163 rfl rfl rfl ⟨by decide, by decide⟩ rfl rfl (Nat.le_of_ble_eq_true rfl) dX12_areTwo_10 rfl ?_
    intro r_5 N_6 q_7
    obtain ⟨rfl, q_7c⟩ := q_7
    rcases q_7c with q_7c | q_7c | q_7c
    · refine kx_if_eq 16 F 25 dX12_areTwo_13 (by decide) rfl (by omega) (fun h_8 => (by exfalso; omega)) (fun h_8 => ?_)
      refine kx_iload_n 17 F 1 dX12_areTwo_16 rfl rfl rfl ?_
      refine kx_iload_n 18 F 2 dX12_areTwo_17 rfl rfl rfl ?_
      refine kx_icmp_eq 21 F 25 dX12_areTwo_18 (by decide) rfl (by omega) (by omega) (fun h_9 => ?_) (fun h_9 => ?_)
      · refine kx_iconst 26 F dX12_areTwo_25 rfl ?_
        exact kx_zret F hQ (by omega) ⟨rfl, (Or.inr (Or.inr (Or.inr (Or.inr (Or.inr (by omega))))))⟩ dX12_areTwo_26
      · refine kx_iconst 22 F dX12_areTwo_21 rfl ?_
        refine kx_goto 26 F dX12_areTwo_22 (by decide) ?_
        exact kx_zret F hQ (by omega) ⟨rfl, (Or.inl (by omega))⟩ dX12_areTwo_26
    · refine kx_if_eq 16 F 25 dX12_areTwo_13 (by decide) rfl (by omega) (fun h_10 => ?_) (fun h_10 => (by exfalso; omega))
      refine kx_iconst 26 F dX12_areTwo_25 rfl ?_
      exact kx_zret F hQ (by omega) ⟨rfl, (Or.inr (Or.inr (Or.inr (Or.inl (by omega)))))⟩ dX12_areTwo_26
    · refine kx_if_eq 16 F 25 dX12_areTwo_13 (by decide) rfl (by omega) (fun h_11 => ?_) (fun h_11 => (by exfalso; omega))
      refine kx_iconst 26 F dX12_areTwo_25 rfl ?_
      exact kx_zret F hQ (by omega) ⟨rfl, (Or.inr (Or.inr (Or.inr (Or.inr (Or.inl (by omega))))))⟩ dX12_areTwo_26
  · refine kx_if_eq 8 F 25 dX12_areTwo_5 (by decide) rfl (by omega) (fun h_12 => ?_) (fun h_12 => (by exfalso; omega))
    refine kx_iconst 26 F dX12_areTwo_25 rfl ?_
    exact kx_zret F hQ (by omega) ⟨rfl, (Or.inr (Or.inl (by omega)))⟩ dX12_areTwo_26
  · refine kx_if_eq 8 F 25 dX12_areTwo_5 (by decide) rfl (by omega) (fun h_13 => ?_) (fun h_13 => (by exfalso; omega))
    refine kx_iconst 26 F dX12_areTwo_25 rfl ?_
    exact kx_zret F hQ (by omega) ⟨rfl, (Or.inr (Or.inr (Or.inl (by omega))))⟩ dX12_areTwo_26
abbrev f_e_copy2m : List (Nat × Int) := [(64, 2), (65, -1)]
set_option maxHeartbeats 4000000 in
set_option maxRecDepth 100000 in
theorem e_copy2m (G : KG) (l : Launch) (M : Mem) (a1 : Int) (a2 : Int) (hI_M : Inv true M) (hpre : -2147483648 ≤ a1 ∧ a1 ≤ 2147483647 ∧ -2147483648 ≤ a2 ∧ a2 ≤ 2147483647) (hY : YY M) (q : Int → Int) (hS : zRN (M 164) q) (hU : zRU (M 164) q) (hV : zQV q) : KC true G l yX12_copy cX12_copy 4 (some .boolean) (2, 43) [vR G 163, vI a1, vI a2] M (fun A => kQi true G A (fun (r : Int) (N : Mem) => Inv true N ∧ Fr f_e_copy2m M N ∧ (r ≥ 0 ∧ r ≤ 1) ∧ ((YY N) ∧ ((∃ q2, zCY q a1 a2 r q2 ∧ zRN (N 164) q2 ∧ zRU (N 164) q2) ∧ zRO N M)))) := by
  refine kx_met (lo := [some (vR G 163), some (vI a1), some (vI a2), none]) (by decide) (Nat.le_of_ble_eq_true rfl) rfl ?_
  intro X F hQ
  have hF_M : Fr f_e_copy2m M M := Fr.rf _ _
  have hSn := hS.u
  have hVu := hV.u
  refine kx_aload_n 1 F 0 dX12_copy_0 rfl rfl rfl ?_
  refine kx_iload_n 2 F 1 dX12_copy_1 rfl rfl rfl ?_
  refine kx_iload_n 3 F 2 dX12_copy_2 rfl rfl rfl ?_
  refine kx_Vi 6 (ci := 0) F (As := [vI a1, vI a2]) (st := []) vd_X12_313 (e_areTwoX G l M a1 a2 hI_M (by omega)) kd_163 rfl rfl rfl ⟨by decide, by decide⟩ rfl rfl (Nat.le_of_ble_eq_true rfl) dX12_copy_3 rfl ?_
  intro r_1 N_2 q_3
  obtain ⟨rfl, q_3c⟩ := q_3
  rcases q_3c with q_3c | q_3c | q_3c | q_3c | q_3c | q_3c
  · refine kx_if_ne 9 F 15 dX12_copy_6 (by decide) rfl (by omega) (fun h_4 => ?_) (fun h_4 => (by exfalso; omega))
    refine kx_iconst 16 F dX12_copy_15 rfl ?_
    refine kx_istore_n 17 F 3 (lo' := [some (vR G 163), some (vI a1), some (vI a2), some (vI 0)]) dX12_copy_16 rfl (by decide) rfl rfl rfl ?_
    have L_110 : ∀ (n_111 : Nat) (x3_108 : Int) (N_109 : Mem), Inv true N_109 → Fr f_e_copy2m M N_109 → CPk N_109 M (100 + 85 * a2) (100 + 85 * a1) x3_108 → 0 ≤ x3_108 ∧ x3_108 ≤ 85 → (85 - (x3_108)).toNat = n_111 → KJ true G X N_109 17 [some (vR G 163), some (vI a1), some (vI a2), some (vI x3_108)] [] := by
      intro n_111
      refine Nat.strongRecOn n_111 ?_
      intro n_111 ih_112 x3_108 N_109 hI_N_109 hF_N_109 hp_115 h_113 hm_114
      refine kx_iload_n 18 F 3 dX12_copy_17 rfl rfl rfl ?_
      refine kx_bipush 20 F dX12_copy_18 (by decide) rfl ?_
      refine kx_icmp_ge 23 F 53 dX12_copy_20 (by decide) rfl (by omega) (by decide) (fun h_116 => ?_) (fun h_116 => ?_)
      · refine kx_aload_n 54 F 0 dX12_copy_53 rfl rfl rfl ?_
        refine kx_iconst 55 F dX12_copy_54 rfl ?_
        refine kx_Vi 58 (ci := 0) F (As := [vI 0]) (st := []) vd_X12_130 (c_X12_is G l N_109 0 hI_N_109 (by omega)) kd_163 rfl rfl rfl ⟨by decide, by decide⟩ rfl rfl (Nat.le_of_ble_eq_true rfl) dX12_copy_55 rfl ?_
        intro r_117 N_118 q_119
        obtain ⟨hI_N_118, hG_N_118, q_119c⟩ := q_119
        have hF_N_118 : Fr f_e_copy2m M N_118 := Fr.c hF_N_109 hG_N_118 rfl
        rcases q_119c with q_119c | q_119c
        · have hcp : CPk N_109 M (100 + 85 * a2) (100 + 85 * a1) 85 := hp_115.at (by omega)
          have hg : ∀ i, (i < 100 + 85 * a2 ∨ 185 + 85 * a2 ≤ i) → N_118 164 i = M 164 i := fun i h => by rw [Fr.e hG_N_118 kd_164 _ rfl]; exact hcp.2 i (by omega)
          have hi : ∀ i, 85 * a2 + 100 ≤ i → i < 85 * a2 + 185 → N_118 164 i = M 164 (i - 85 * a2 + 85 * a1) := fun i h0 h1 => by rw [Fr.e hG_N_118 kd_164 _ rfl]; have w := hcp.1 (i - (100 + 85 * a2)) (by omega) (by omega); rw [show 100 + 85 * a2 + (i - (100 + 85 * a2)) = i by omega, show 100 + 85 * a1 + (i - (100 + 85 * a2)) = i - 85 * a2 + 85 * a1 by omega] at w; exact w
          exact kx_zret F hQ (by omega) ⟨hI_N_118, hF_N_118, (by omega), ⟨(YY.fr (YY.copy hY hI_M a1 a2 (by omega) (by omega) (hp_115.at (by omega))) hG_N_118 rfl), ⟨⟨(zcopy q a1 a2), Or.inl ⟨by omega, by omega, rfl⟩, zRN.q hS (fun i h1 h2 => hg i (by omega)) (fun i h1 h2 => (by unfold zcopy; rw [if_neg (by omega)])), zRU.set (a := a2) hU (by omega) rfl (zRB.copy (b' := 85 * a1 + 104) (hU.b (a := a1) (b := 85 * a1 + 100) (by omega) rfl) hi (by have h := hV.u; rcases (by omega : a1 = 0 ∨ a1 = 1) with e | e <;> subst e <;> first | exact h.2.2.2.1 | exact h.2.2.2.2.2)) (by unfold zcopy; rw [if_neg (by omega)]) (fun i h1 h2 h3 => (by unfold zcopy; rw [if_neg (by omega)])) (fun i h1 h2 h3 => hg i (by omega)) hV⟩, fun i h1 => hg i (by omega)⟩⟩⟩ dX12_copy_58
        · exfalso; omega
      · refine kx_aload_n 24 F 0 dX12_copy_23 rfl rfl rfl ?_
        refine kx_getr 27 F fl_X12_7 kd_163 rfl rfl (j := 0) rfl dX12_copy_24 (v := 164) (uq_164 (Inv.r hI_N_109 kd_163 rfl 0 rfl rfl)) rfl ?_
        refine kx_iconst 28 F dX12_copy_27 rfl ?_
        refine kx_iload_n 29 F 2 dX12_copy_28 rfl rfl rfl ?_
        refine kx_Si 32 F (As := [vI 0, vI a2]) (st := [vR G 164]) sd_X12_216 (c_X12_rowOf G l N_109 0 a2 hI_N_109 (by omega)) ⟨by decide, by decide⟩ rfl rfl (Nat.le_of_ble_eq_true rfl) dX12_copy_29 rfl ?_
        intro r_120 N_121 q_122
        obtain ⟨rfl, q_122c⟩ := q_122
        refine kx_topi (e' := 85 * a2 + 100) (by omega) ?_
        refine kx_iload_n 33 F 3 dX12_copy_32 rfl rfl rfl ?_
        refine kx_iadd 34 F (v := 85 * a2 + x3_108 + 100) dX12_copy_33 (by omega) rfl ?_
        refine kx_aload_n 35 F 0 dX12_copy_34 rfl rfl rfl ?_
        refine kx_getr 38 F fl_X12_7 kd_163 rfl rfl (j := 0) rfl dX12_copy_35 (v := 164) (uq_164 (Inv.r hI_N_109 kd_163 rfl 0 rfl rfl)) rfl ?_
        refine kx_iconst 39 F dX12_copy_38 rfl ?_
        refine kx_iload_n 40 F 1 dX12_copy_39 rfl rfl rfl ?_
        refine kx_Si 43 F (As := [vI 0, vI a1]) (st := [vR G 164, vI (85 * a2 + x3_108 + 100), vR G 164]) sd_X12_216 (c_X12_rowOf G l N_109 0 a1 hI_N_109 (by omega)) ⟨by decide, by decide⟩ rfl rfl (Nat.le_of_ble_eq_true rfl) dX12_copy_40 rfl ?_
        intro r_123 N_124 q_125
        obtain ⟨rfl, q_125c⟩ := q_125
        refine kx_topi (e' := 85 * a1 + 100) (by omega) ?_
        refine kx_iload_n 44 F 3 dX12_copy_43 rfl rfl rfl ?_
        refine kx_iadd 45 F (v := 85 * a1 + x3_108 + 100) dX12_copy_44 (by omega) rfl ?_
        refine kx_iald 46 F kd_164 rfl rfl (by omega) (by decide) dX12_copy_45 (v := (N_109 164 (85 * a1 + x3_108 + 100))) rfl rfl ?_
        have h_126 := Inv.g hI_N_109 kd_164 rfl (85 * a1 + x3_108 + 100) (a := atlo (85 * a1 + x3_108 + 100)) (b := athi (85 * a1 + x3_108 + 100)) rfl rfl
        have h_127 := at_w (85 * a1 + x3_108 + 100)
        refine kx_iast 47 F kd_164 rfl rfl (by omega) (by decide) dX12_copy_46 rfl ?_
        intro N_128 hM_N_128
        have h_129 := at_0 (85 * a2 + x3_108 + 100)
        have h_130 := at_85 (85 * a2 + x3_108 + 100) (85 * a1 + x3_108 + 100) a2 a1 x3_108 (by omega) (by omega) (by omega) (by omega) (by omega)
        have hI_N_128 : Inv true N_128 := Inv.u hI_N_109 hM_N_128 kd_164 (a := atlo (85 * a2 + x3_108 + 100)) (b := athi (85 * a2 + x3_108 + 100)) rfl rfl rfl (by omega)
        have hF_N_128 : Fr f_e_copy2m M N_128 := Fr.u hF_N_109 hM_N_128 kd_164 rfl
        refine kx_iinc 50 F 3 (v := x3_108 + 1) (lo' := [some (vR G 163), some (vI a1), some (vI a2), some (vI (x3_108 + 1))]) dX12_copy_47 rfl (by omega) (by decide) rfl rfl rfl ?_
        refine kx_goto 17 F dX12_copy_50 (by decide) ?_
        exact ih_112 _ (by omega) (x3_108 + 1) N_128 hI_N_128 hF_N_128 (CPk.step hp_115 (by omega) hM_N_128 (by omega) rfl (by omega) (by omega) (by omega)) (by omega) rfl
    exact L_110 _ 0 M hI_M hF_M ((CPk.nil _ _).at (by omega)) (by omega) rfl
  · refine kx_if_ne 9 F 15 dX12_copy_6 (by decide) rfl (by omega) (fun h_131 => (by exfalso; omega)) (fun h_131 => ?_)
    refine kx_aload_n 10 F 0 dX12_copy_9 rfl rfl rfl ?_
    refine kx_iconst 11 F dX12_copy_10 rfl ?_
    refine kx_Vi 14 (ci := 0) F (As := [vI 1]) (st := []) vd_X12_130 (c_X12_is G l M 1 hI_M (by omega)) kd_163 rfl rfl rfl ⟨by decide, by decide⟩ rfl rfl (Nat.le_of_ble_eq_true rfl) dX12_copy_11 rfl ?_
    intro r_132 N_133 q_134
    obtain ⟨hI_N_133, hG_N_133, q_134c⟩ := q_134
    have hF_N_133 : Fr f_e_copy2m M N_133 := Fr.c hF_M hG_N_133 rfl
    rcases q_134c with q_134c | q_134c
    · exfalso; omega
    · exact kx_zret F hQ (by omega) ⟨hI_N_133, hF_N_133, (by omega), ⟨(YY.fr hY hG_N_133 rfl), ⟨⟨q, Or.inr ⟨fun h => by omega, by omega, rfl⟩, by rw [show N_133 164 = M 164 from (funext (fun j => by rw [Fr.e hG_N_133 kd_164 _ rfl]))]; exact hS, by rw [show N_133 164 = M 164 from (funext (fun j => by rw [Fr.e hG_N_133 kd_164 _ rfl]))]; exact hU⟩, fun i _ => by rw [Fr.e hG_N_133 kd_164 _ rfl]⟩⟩⟩ dX12_copy_14
  · refine kx_if_ne 9 F 15 dX12_copy_6 (by decide) rfl (by omega) (fun h_135 => (by exfalso; omega)) (fun h_135 => ?_)
    refine kx_aload_n 10 F 0 dX12_copy_9 rfl rfl rfl ?_
    refine kx_iconst 11 F dX12_copy_10 rfl ?_
    refine kx_Vi 14 (ci := 0) F (As := [vI 1]) (st := []) vd_X12_130 (c_X12_is G l M 1 hI_M (by omega)) kd_163 rfl rfl rfl ⟨by decide, by decide⟩ rfl rfl (Nat.le_of_ble_eq_true rfl) dX12_copy_11 rfl ?_
    intro r_136 N_137 q_138
    obtain ⟨hI_N_137, hG_N_137, q_138c⟩ := q_138
    have hF_N_137 : Fr f_e_copy2m M N_137 := Fr.c hF_M hG_N_137 rfl
    rcases q_138c with q_138c | q_138c
    · exfalso; omega
    · exact kx_zret F hQ (by omega) ⟨hI_N_137, hF_N_137, (by omega), ⟨(YY.fr hY hG_N_137 rfl), ⟨⟨q, Or.inr ⟨fun h => by omega, by omega, rfl⟩, by rw [show N_137 164 = M 164 from (funext (fun j => by rw [Fr.e hG_N_137 kd_164 _ rfl]))]; exact hS, by rw [show N_137 164 = M 164 from (funext (fun j => by rw [Fr.e hG_N_137 kd_164 _ rfl]))]; exact hU⟩, fun i _ => by rw [Fr.e hG_N_137 kd_164 _ rfl]⟩⟩⟩ dX12_copy_14
  · refine kx_if_ne 9 F 15 dX12_copy_6 (by decide) rfl (by omega) (fun h_139 => (by exfalso; omega)) (fun h_139 => ?_)
    refine kx_aload_n 10 F 0 dX12_copy_9 rfl rfl rfl ?_
    refine kx_iconst 11 F dX12_copy_10 rfl ?_
    refine kx_Vi 14 (ci := 0) F (As := [vI 1]) (st := []) vd_X12_130 (c_X12_is G l M 1 hI_M (by omega)) kd_163 rfl rfl rfl ⟨by decide, by decide⟩ rfl rfl (Nat.le_of_ble_eq_true rfl) dX12_copy_11 rfl ?_
    intro r_140 N_141 q_142
    obtain ⟨hI_N_141, hG_N_141, q_142c⟩ := q_142
    have hF_N_141 : Fr f_e_copy2m M N_141 := Fr.c hF_M hG_N_141 rfl
    rcases q_142c with q_142c | q_142c
    · exfalso; omega
    · exact kx_zret F hQ (by omega) ⟨hI_N_141, hF_N_141, (by omega), ⟨(YY.fr hY hG_N_141 rfl), ⟨⟨q, Or.inr ⟨fun h => by omega, by omega, rfl⟩, by rw [show N_141 164 = M 164 from (funext (fun j => by rw [Fr.e hG_N_141 kd_164 _ rfl]))]; exact hS, by rw [show N_141 164 = M 164 from (funext (fun j => by rw [Fr.e hG_N_141 kd_164 _ rfl]))]; exact hU⟩, fun i _ => by rw [Fr.e hG_N_141 kd_164 _ rfl]⟩⟩⟩ dX12_copy_14
  · refine kx_if_ne 9 F 15 dX12_copy_6 (by decide) rfl (by omega) (fun h_143 => (by exfalso; omega)) (fun h_143 => ?_)
    refine kx_aload_n 10 F 0 dX12_copy_9 rfl rfl rfl ?_
    refine kx_iconst 11 F dX12_copy_10 rfl ?_
    refine kx_Vi 14 (ci := 0) F (As := [vI 1]) (st := []) vd_X12_130 (c_X12_is G l M 1 hI_M (by omega)) kd_163 rfl rfl rfl ⟨by decide, by decide⟩ rfl rfl (Nat.le_of_ble_eq_true rfl) dX12_copy_11 rfl ?_
    intro r_144 N_145 q_146
    obtain ⟨hI_N_145, hG_N_145, q_146c⟩ := q_146
    have hF_N_145 : Fr f_e_copy2m M N_145 := Fr.c hF_M hG_N_145 rfl
    rcases q_146c with q_146c | q_146c
    · exfalso; omega
    · exact kx_zret F hQ (by omega) ⟨hI_N_145, hF_N_145, (by omega), ⟨(YY.fr hY hG_N_145 rfl), ⟨⟨q, Or.inr ⟨fun h => by omega, by omega, rfl⟩, by rw [show N_145 164 = M 164 from (funext (fun j => by rw [Fr.e hG_N_145 kd_164 _ rfl]))]; exact hS, by rw [show N_145 164 = M 164 from (funext (fun j => by rw [Fr.e hG_N_145 kd_164 _ rfl]))]; exact hU⟩, fun i _ => by rw [Fr.e hG_N_145 kd_164 _ rfl]⟩⟩⟩ dX12_copy_14
  · refine kx_if_ne 9 F 15 dX12_copy_6 (by decide) rfl (by omega) (fun h_147 => (by exfalso; omega)) (fun h_147 => ?_)
    refine kx_aload_n 10 F 0 dX12_copy_9 rfl rfl rfl ?_
    refine kx_iconst 11 F dX12_copy_10 rfl ?_
    refine kx_Vi 14 (ci := 0) F (As := [vI 1]) (st := []) vd_X12_130 (c_X12_is G l M 1 hI_M (by omega)) kd_163 rfl rfl rfl ⟨by decide, by decide⟩ rfl rfl (Nat.le_of_ble_eq_true rfl) dX12_copy_11 rfl ?_
    intro r_148 N_149 q_150
    obtain ⟨hI_N_149, hG_N_149, q_150c⟩ := q_150
    have hF_N_149 : Fr f_e_copy2m M N_149 := Fr.c hF_M hG_N_149 rfl
    rcases q_150c with q_150c | q_150c
    · exfalso; omega
    · exact kx_zret F hQ (by omega) ⟨hI_N_149, hF_N_149, (by omega), ⟨(YY.fr hY hG_N_149 rfl), ⟨⟨q, Or.inr ⟨fun h => by omega, by omega, rfl⟩, by rw [show N_149 164 = M 164 from (funext (fun j => by rw [Fr.e hG_N_149 kd_164 _ rfl]))]; exact hS, by rw [show N_149 164 = M 164 from (funext (fun j => by rw [Fr.e hG_N_149 kd_164 _ rfl]))]; exact hU⟩, fun i _ => by rw [Fr.e hG_N_149 kd_164 _ rfl]⟩⟩⟩ dX12_copy_14
