abbrev f_e_X12_told : List (Nat × Int) := [(64, 2)]
set_option maxHeartbeats 4000000 in
set_option maxRecDepth 100000 in
theorem e_X12_told (G : KG) (l : Launch) (M : Mem) (a1 : Int) (hI_M : Inv true M) (hpre : -2147483648 ≤ a1 ∧ a1 ≤ 2147483647) (q : Int → Int) (hS : zRN (M 164) q) (hU : zRU (M 164) q) : KC true G l yX12_told cX12_told 2 (some .int) (1, 21) [vR G 163, vI a1] M (fun A => kQi true G A (fun (r : Int) (N : Mem) => Inv true N ∧ Fr f_e_X12_told M N ∧ (r ≥ -2147483648 ∧ r ≤ 2147483647) ∧ (zTD q a1 r))) := by
  refine kx_met (lo := [some (vR G 163), some (vI a1)]) (by decide) (Nat.le_of_ble_eq_true rfl) rfl ?_
  intro X F hQ
  have hF_M : Fr f_e_X12_told M M := Fr.rf _ _
  have hSn := hS.u
  refine kx_iload_n 1 F 1 dX12_told_0 rfl rfl rfl ?_
  refine kx_if_lt 4 F 9 dX12_told_1 (by decide) rfl (by omega) (fun h_1 => ?_) (fun h_1 => ?_)
  · refine kx_aload_n 10 F 0 dX12_told_9 rfl rfl rfl ?_
    refine kx_iconst 11 F dX12_told_10 rfl ?_
    refine kx_Vi 14 (ci := 0) F (As := [vI 1]) (st := []) vd_X12_123 (c_X12_refuse G l M 1 hI_M (by omega)) kd_163 rfl rfl rfl ⟨by decide, by decide⟩ rfl rfl (Nat.le_of_ble_eq_true rfl) dX12_told_11 rfl ?_
    intro r_2 N_3 q_4
    obtain ⟨hI_N_3, hG_N_3, q_4c⟩ := q_4
    have hF_N_3 : Fr f_e_X12_told M N_3 := Fr.c hF_M hG_N_3 rfl
    subst q_4c
    refine kx_goto 27 F dX12_told_14 (by decide) ?_
    exact kx_iret F hQ ⟨hI_N_3, hF_N_3, (by omega), (Or.inr ⟨fun h => by omega, by omega⟩)⟩ dX12_told_27
  · refine kx_iload_n 5 F 1 dX12_told_4 rfl rfl rfl ?_
    refine kx_iconst 6 F dX12_told_5 rfl ?_
    refine kx_icmp_le 9 F 17 dX12_told_6 (by decide) rfl (by omega) (by decide) (fun h_5 => ?_) (fun h_5 => ?_)
    · refine kx_aload_n 18 F 0 dX12_told_17 rfl rfl rfl ?_
      refine kx_aload_n 19 F 0 dX12_told_18 rfl rfl rfl ?_
      refine kx_getr 22 F fl_X12_7 kd_163 rfl rfl (j := 0) rfl dX12_told_19 (v := 164) (uq_164 (Inv.r hI_M kd_163 rfl 0 rfl rfl)) rfl ?_
      refine kx_iload_n 23 F 1 dX12_told_22 rfl rfl rfl ?_
      refine kx_iald 24 F kd_164 rfl rfl (by omega) (by decide) dX12_told_23 (v := (M 164 a1)) rfl rfl ?_
      have ha_6 : atlo a1 = 0 ∧ athi a1 = 2 := at_n a1 0 (by omega)
      have h_7 := Inv.g hI_M kd_164 rfl a1 (a := 0) (b := 2) ha_6.1 ha_6.2
      refine kx_Vi 27 (ci := 0) F (As := [vI (M 164 a1)]) (st := []) vd_X12_127 (c_X12_gives G l M (M 164 a1) hI_M (by omega)) kd_163 rfl rfl rfl ⟨by decide, by decide⟩ rfl rfl (Nat.le_of_ble_eq_true rfl) dX12_told_24 rfl ?_
      intro r_8 N_9 q_10
      obtain ⟨hI_N_9, hG_N_9, q_10c⟩ := q_10
      have hF_N_9 : Fr f_e_X12_told M N_9 := Fr.c hF_M hG_N_9 rfl
      refine kx_topi (e' := (M 164 a1)) (by omega) ?_
      have hqa := hS.n (a := a1) (by omega)
      exact kx_iret F hQ ⟨hI_N_9, hF_N_9, (by omega), (Or.inl ⟨by omega, by omega⟩)⟩ dX12_told_27
    · refine kx_aload_n 10 F 0 dX12_told_9 rfl rfl rfl ?_
      refine kx_iconst 11 F dX12_told_10 rfl ?_
      refine kx_Vi 14 (ci := 0) F (As := [vI 1]) (st := []) vd_X12_123 (c_X12_refuse G l M 1 hI_M (by omega)) kd_163 rfl rfl rfl ⟨by decide, by decide⟩ rfl rfl (Nat.le_of_ble_eq_true rfl) dX12_told_11 rfl ?_
      intro r_11 N_12 q_13
      obtain ⟨hI_N_12, hG_N_12, q_13c⟩ := q_13
      have hF_N_12 : Fr f_e_X12_told M N_12 := Fr.c hF_M hG_N_12 rfl
      subst q_13c
      refine kx_goto 27 F dX12_told_14 (by decide) ?_
      exact kx_iret F hQ ⟨hI_N_12, hF_N_12, (by omega), (Or.inr ⟨fun h => by omega, by omega⟩)⟩ dX12_told_27
set_option maxHeartbeats 4000000 in
set_option maxRecDepth 100000 in
theorem e_X12_isAutomaton (G : KG) (l : Launch) (M : Mem) (a1 : Int) (hI_M : Inv true M) (hpre : -2147483648 ≤ a1 ∧ a1 ≤ 2147483647) : KC true G l yX12_isAutomaton cX12_isAutomaton 2 (some .boolean) (0, 0) [vR G 163, vI a1] M (fun A => kQi true G A (fun (r : Int) (N : Mem) => M = N ∧ ((r = 1 ∧ 0 ≤ a1 ∧ a1 < (M 164 3)) ∨ (r = 0 ∧ a1 < 0) ∨ (r = 0 ∧ a1 ≥ (M 164 3))))) := by
  refine kx_met (lo := [some (vR G 163), some (vI a1)]) (by decide) (Nat.le_of_ble_eq_true rfl) rfl ?_
  intro X F hQ
  refine kx_iload_n 1 F 1 dX12_isAutomaton_0 rfl rfl rfl ?_
  refine kx_if_lt 4 F 18 dX12_isAutomaton_1 (by decide) rfl (by omega) (fun h_1 => ?_) (fun h_1 => ?_)
  · refine kx_iconst 19 F dX12_isAutomaton_18 rfl ?_
    exact kx_zret F hQ (by omega) ⟨rfl, (Or.inr (Or.inl (by omega)))⟩ dX12_isAutomaton_19
  · refine kx_iload_n 5 F 1 dX12_isAutomaton_4 rfl rfl rfl ?_
    refine kx_aload_n 6 F 0 dX12_isAutomaton_5 rfl rfl rfl ?_
    refine kx_getr 9 F fl_X12_7 kd_163 rfl rfl (j := 0) rfl dX12_isAutomaton_6 (v := 164) (uq_164 (Inv.r hI_M kd_163 rfl 0 rfl rfl)) rfl ?_
    refine kx_iconst 10 F dX12_isAutomaton_9 rfl ?_
    refine kx_iald 11 F kd_164 rfl rfl (by omega) (by decide) dX12_isAutomaton_10 (v := (M 164 3)) rfl rfl ?_
    have ha_2 : atlo 3 = 0 ∧ athi 3 = 2 := at_c 3 0 (o := 3) (lo := 0) (hi := 2) (by omega) (by decide) (by decide) (by decide)
    have h_3 := Inv.g hI_M kd_164 rfl 3 (a := 0) (b := 2) ha_2.1 ha_2.2
    refine kx_icmp_ge 14 F 18 dX12_isAutomaton_11 (by decide) rfl (by omega) (by omega) (fun h_4 => ?_) (fun h_4 => ?_)
    · refine kx_iconst 19 F dX12_isAutomaton_18 rfl ?_
      exact kx_zret F hQ (by omega) ⟨rfl, (Or.inr (Or.inr (by omega)))⟩ dX12_isAutomaton_19
    · refine kx_iconst 15 F dX12_isAutomaton_14 rfl ?_
      refine kx_goto 19 F dX12_isAutomaton_15 (by decide) ?_
      exact kx_zret F hQ (by omega) ⟨rfl, (Or.inl (by omega))⟩ dX12_isAutomaton_19
set_option maxHeartbeats 4000000 in
set_option maxRecDepth 100000 in
theorem e_ofX (G : KG) (l : Launch) (M : Mem) (a1 : Int) (a2 : Int) (hI_M : Inv true M) (hpre : -2147483648 ≤ a1 ∧ a1 ≤ 2147483647 ∧ -2147483648 ≤ a2 ∧ a2 ≤ 2147483647 ∧ 0 ≤ a1 ∧ a1 ≤ 1 ∧ 0 ≤ a2 ∧ a2 ≤ 4) : KC true G l yX12_of cX12_of 3 (some .int) (1, 21) [vR G 163, vI a1, vI a2] M (fun A => kQi true G A (fun (r : Int) (N : Mem) => M = N ∧ (r = (M 164 (85 * a1 + a2 + 100)) ∧ r ≥ -2147483648 ∧ r ≤ 2147483647))) := by
  refine kx_met (lo := [some (vR G 163), some (vI a1), some (vI a2)]) (by decide) (Nat.le_of_ble_eq_true rfl) rfl ?_
  intro X F hQ
  refine kx_iload_n 1 F 1 dX12_of_0 rfl rfl rfl ?_
  refine kx_iconst 2 F dX12_of_1 rfl ?_
  refine kx_icmp_ne 5 F 9 dX12_of_2 (by decide) rfl (by omega) (by decide) (fun h_1 => ?_) (fun h_1 => (by exfalso; omega))
  refine kx_aload_n 10 F 0 dX12_of_9 rfl rfl rfl ?_
  refine kx_getr 13 F fl_X12_7 kd_163 rfl rfl (j := 0) rfl dX12_of_10 (v := 164) (uq_164 (Inv.r hI_M kd_163 rfl 0 rfl rfl)) rfl ?_
  refine kx_iconst 14 F dX12_of_13 rfl ?_
  refine kx_iload_n 15 F 1 dX12_of_14 rfl rfl rfl ?_
  refine kx_Si 18 F (As := [vI 0, vI a1]) (st := [vR G 164]) sd_X12_216 (c_X12_rowOf G l M 0 a1 hI_M (by omega)) ⟨by decide, by decide⟩ rfl rfl (Nat.le_of_ble_eq_true rfl) dX12_of_15 rfl ?_
  intro r_2 N_3 q_4
  obtain ⟨rfl, q_4c⟩ := q_4
  refine kx_topi (e' := 85 * a1 + 100) (by omega) ?_
  refine kx_iload_n 19 F 2 dX12_of_18 rfl rfl rfl ?_
  refine kx_iadd 20 F (v := 85 * a1 + a2 + 100) dX12_of_19 (by omega) rfl ?_
  refine kx_iald 21 F kd_164 rfl rfl (by omega) (by decide) dX12_of_20 (v := (M 164 (85 * a1 + a2 + 100))) rfl rfl ?_
  have h_5 := Inv.g hI_M kd_164 rfl (85 * a1 + a2 + 100) (a := atlo (85 * a1 + a2 + 100)) (b := athi (85 * a1 + a2 + 100)) rfl rfl
  have h_6 := at_w (85 * a1 + a2 + 100)
  exact kx_iret F hQ ⟨rfl, (by omega)⟩ dX12_of_21
abbrev f_e_X12_automaton : List (Nat × Int) := [(64, 2)]
set_option maxHeartbeats 4000000 in
set_option maxRecDepth 100000 in
theorem e_X12_automaton (G : KG) (l : Launch) (M : Mem) (a1 : Int) (a2 : Int) (hI_M : Inv true M) (hpre : -2147483648 ≤ a1 ∧ a1 ≤ 2147483647 ∧ -2147483648 ≤ a2 ∧ a2 ≤ 2147483647) (q : Int → Int) (hS : zRN (M 164) q) (hU : zRU (M 164) q) : KC true G l yX12_automaton cX12_automaton 3 (some .int) (2, 43) [vR G 163, vI a1, vI a2] M (fun A => kQi true G A (fun (r : Int) (N : Mem) => Inv true N ∧ Fr f_e_X12_automaton M N ∧ (r ≥ -2147483648 ∧ r ≤ 2147483647) ∧ (zAU q a1 a2 r))) := by
  refine kx_met (lo := [some (vR G 163), some (vI a1), some (vI a2)]) (by decide) (Nat.le_of_ble_eq_true rfl) rfl ?_
  intro X F hQ
  have hF_M : Fr f_e_X12_automaton M M := Fr.rf _ _
  have hSn := hS.u
  refine kx_aload_n 1 F 0 dX12_automaton_0 rfl rfl rfl ?_
  refine kx_iload_n 2 F 1 dX12_automaton_1 rfl rfl rfl ?_
  refine kx_Vi 5 (ci := 0) F (As := [vI a1]) (st := []) vd_X12_282 (e_X12_isAutomaton G l M a1 hI_M (by omega)) kd_163 rfl rfl rfl ⟨by decide, by decide⟩ rfl rfl (Nat.le_of_ble_eq_true rfl) dX12_automaton_2 rfl ?_
  intro r_1 N_2 q_3
  obtain ⟨rfl, q_3c⟩ := q_3
  rcases q_3c with q_3c | q_3c | q_3c
  · refine kx_if_eq 8 F 17 dX12_automaton_5 (by decide) rfl (by omega) (fun h_4 => (by exfalso; omega)) (fun h_4 => ?_)
    refine kx_iload_n 9 F 2 dX12_automaton_8 rfl rfl rfl ?_
    refine kx_if_lt 12 F 17 dX12_automaton_9 (by decide) rfl (by omega) (fun h_5 => ?_) (fun h_5 => ?_)
    · refine kx_aload_n 18 F 0 dX12_automaton_17 rfl rfl rfl ?_
      refine kx_iconst 19 F dX12_automaton_18 rfl ?_
      refine kx_Vi 22 (ci := 0) F (As := [vI 1]) (st := []) vd_X12_123 (c_X12_refuse G l M 1 hI_M (by omega)) kd_163 rfl rfl rfl ⟨by decide, by decide⟩ rfl rfl (Nat.le_of_ble_eq_true rfl) dX12_automaton_19 rfl ?_
      intro r_6 N_7 q_8
      obtain ⟨hI_N_7, hG_N_7, q_8c⟩ := q_8
      have hF_N_7 : Fr f_e_X12_automaton M N_7 := Fr.c hF_M hG_N_7 rfl
      subst q_8c
      refine kx_goto 35 F dX12_automaton_22 (by decide) ?_
      exact kx_iret F hQ ⟨hI_N_7, hF_N_7, (by omega), (Or.inr ⟨fun h => by omega, by omega⟩)⟩ dX12_automaton_35
    · refine kx_iload_n 13 F 2 dX12_automaton_12 rfl rfl rfl ?_
      refine kx_iconst 14 F dX12_automaton_13 rfl ?_
      refine kx_icmp_le 17 F 25 dX12_automaton_14 (by decide) rfl (by omega) (by decide) (fun h_9 => ?_) (fun h_9 => ?_)
      · refine kx_aload_n 26 F 0 dX12_automaton_25 rfl rfl rfl ?_
        refine kx_aload_n 27 F 0 dX12_automaton_26 rfl rfl rfl ?_
        refine kx_iload_n 28 F 1 dX12_automaton_27 rfl rfl rfl ?_
        refine kx_iload_n 29 F 2 dX12_automaton_28 rfl rfl rfl ?_
        refine kx_Vi 32 (ci := 0) F (As := [vI a1, vI a2]) (st := [vR G 163]) vd_X12_288 (e_ofX G l M a1 a2 hI_M (by omega)) kd_163 rfl rfl rfl ⟨by decide, by decide⟩ rfl rfl (Nat.le_of_ble_eq_true rfl) dX12_automaton_29 rfl ?_
        intro r_10 N_11 q_12
        obtain ⟨rfl, q_12c⟩ := q_12
        refine kx_topi (e' := (M 164 (85 * a1 + a2 + 100))) (by omega) ?_
        refine kx_Vi 35 (ci := 0) F (As := [vI (M 164 (85 * a1 + a2 + 100))]) (st := []) vd_X12_127 (c_X12_gives G l M (M 164 (85 * a1 + a2 + 100)) hI_M (by omega)) kd_163 rfl rfl rfl ⟨by decide, by decide⟩ rfl rfl (Nat.le_of_ble_eq_true rfl) dX12_automaton_32 rfl ?_
        intro r_13 N_14 q_15
        obtain ⟨hI_N_14, hG_N_14, q_15c⟩ := q_15
        have hF_N_14 : Fr f_e_X12_automaton M N_14 := Fr.c hF_M hG_N_14 rfl
        refine kx_topi (e' := (M 164 (85 * a1 + a2 + 100))) (by omega) ?_
        have hqa := (hU.b (a := a1) (b := 85 * a1 + 100) (by omega) rfl).n (d := a2) (y := 85 * a1 + a2 + 100) (by omega) (by omega)
        exact kx_iret F hQ ⟨hI_N_14, hF_N_14, (by omega), (Or.inl ⟨by omega, by omega⟩)⟩ dX12_automaton_35
      · refine kx_aload_n 18 F 0 dX12_automaton_17 rfl rfl rfl ?_
        refine kx_iconst 19 F dX12_automaton_18 rfl ?_
        refine kx_Vi 22 (ci := 0) F (As := [vI 1]) (st := []) vd_X12_123 (c_X12_refuse G l M 1 hI_M (by omega)) kd_163 rfl rfl rfl ⟨by decide, by decide⟩ rfl rfl (Nat.le_of_ble_eq_true rfl) dX12_automaton_19 rfl ?_
        intro r_16 N_17 q_18
        obtain ⟨hI_N_17, hG_N_17, q_18c⟩ := q_18
        have hF_N_17 : Fr f_e_X12_automaton M N_17 := Fr.c hF_M hG_N_17 rfl
        subst q_18c
        refine kx_goto 35 F dX12_automaton_22 (by decide) ?_
        exact kx_iret F hQ ⟨hI_N_17, hF_N_17, (by omega), (Or.inr ⟨fun h => by omega, by omega⟩)⟩ dX12_automaton_35
  · refine kx_if_eq 8 F 17 dX12_automaton_5 (by decide) rfl (by omega) (fun h_19 => ?_) (fun h_19 => (by exfalso; omega))
    refine kx_aload_n 18 F 0 dX12_automaton_17 rfl rfl rfl ?_
    refine kx_iconst 19 F dX12_automaton_18 rfl ?_
    refine kx_Vi 22 (ci := 0) F (As := [vI 1]) (st := []) vd_X12_123 (c_X12_refuse G l M 1 hI_M (by omega)) kd_163 rfl rfl rfl ⟨by decide, by decide⟩ rfl rfl (Nat.le_of_ble_eq_true rfl) dX12_automaton_19 rfl ?_
    intro r_20 N_21 q_22
    obtain ⟨hI_N_21, hG_N_21, q_22c⟩ := q_22
    have hF_N_21 : Fr f_e_X12_automaton M N_21 := Fr.c hF_M hG_N_21 rfl
    subst q_22c
    refine kx_goto 35 F dX12_automaton_22 (by decide) ?_
    exact kx_iret F hQ ⟨hI_N_21, hF_N_21, (by omega), (Or.inr ⟨fun h => by omega, by omega⟩)⟩ dX12_automaton_35
  · refine kx_if_eq 8 F 17 dX12_automaton_5 (by decide) rfl (by omega) (fun h_23 => ?_) (fun h_23 => (by exfalso; omega))
    refine kx_aload_n 18 F 0 dX12_automaton_17 rfl rfl rfl ?_
    refine kx_iconst 19 F dX12_automaton_18 rfl ?_
    refine kx_Vi 22 (ci := 0) F (As := [vI 1]) (st := []) vd_X12_123 (c_X12_refuse G l M 1 hI_M (by omega)) kd_163 rfl rfl rfl ⟨by decide, by decide⟩ rfl rfl (Nat.le_of_ble_eq_true rfl) dX12_automaton_19 rfl ?_
    intro r_24 N_25 q_26
    obtain ⟨hI_N_25, hG_N_25, q_26c⟩ := q_26
    have hF_N_25 : Fr f_e_X12_automaton M N_25 := Fr.c hF_M hG_N_25 rfl
    subst q_26c
    refine kx_goto 35 F dX12_automaton_22 (by decide) ?_
    exact kx_iret F hQ ⟨hI_N_25, hF_N_25, (by omega), (Or.inr ⟨fun h => by omega, by omega⟩)⟩ dX12_automaton_35
set_option maxHeartbeats 4000000 in
set_option maxRecDepth 100000 in
theorem e_of4 (G : KG) (l : Launch) (M : Mem) (a1 : Int) (a2 : Int) (hI_M : Inv true M) (hpre : -2147483648 ≤ a1 ∧ a1 ≤ 2147483647 ∧ -2147483648 ≤ a2 ∧ a2 ≤ 2147483647 ∧ 0 ≤ a1 ∧ a1 ≤ 1 ∧ a2 = 4) : KC true G l yX12_of cX12_of 3 (some .int) (1, 21) [vR G 163, vI a1, vI a2] M (fun A => kQi true G A (fun (r : Int) (N : Mem) => M = N ∧ (r = (M 164 (85 * a1 + 104)) ∧ 0 ≤ r ∧ r ≤ 20))) := by
  refine kx_met (lo := [some (vR G 163), some (vI a1), some (vI a2)]) (by decide) (Nat.le_of_ble_eq_true rfl) rfl ?_
  intro X F hQ
  have e_1 : M 164 (85 * a1 + a2 + 100) = M 164 (85 * a1 + 104) := by rw [show 85 * a1 + a2 + 100 = 85 * a1 + 104 by omega]
  refine kx_iload_n 1 F 1 dX12_of_0 rfl rfl rfl ?_
  refine kx_iconst 2 F dX12_of_1 rfl ?_
  refine kx_icmp_ne 5 F 9 dX12_of_2 (by decide) rfl (by omega) (by decide) (fun h_2 => ?_) (fun h_2 => (by exfalso; omega))
  refine kx_aload_n 10 F 0 dX12_of_9 rfl rfl rfl ?_
  refine kx_getr 13 F fl_X12_7 kd_163 rfl rfl (j := 0) rfl dX12_of_10 (v := 164) (uq_164 (Inv.r hI_M kd_163 rfl 0 rfl rfl)) rfl ?_
  refine kx_iconst 14 F dX12_of_13 rfl ?_
  refine kx_iload_n 15 F 1 dX12_of_14 rfl rfl rfl ?_
  refine kx_Si 18 F (As := [vI 0, vI a1]) (st := [vR G 164]) sd_X12_216 (c_X12_rowOf G l M 0 a1 hI_M (by omega)) ⟨by decide, by decide⟩ rfl rfl (Nat.le_of_ble_eq_true rfl) dX12_of_15 rfl ?_
  intro r_3 N_4 q_5
  obtain ⟨rfl, q_5c⟩ := q_5
  refine kx_topi (e' := 85 * a1 + 100) (by omega) ?_
  refine kx_iload_n 19 F 2 dX12_of_18 rfl rfl rfl ?_
  refine kx_iadd 20 F (v := 85 * a1 + a2 + 100) dX12_of_19 (by omega) rfl ?_
  refine kx_iald 21 F kd_164 rfl rfl (by omega) (by decide) dX12_of_20 (v := (M 164 (85 * a1 + a2 + 100))) rfl rfl ?_
  have ha_6 : atlo (85 * a1 + a2 + 100) = 0 ∧ athi (85 * a1 + a2 + 100) = 20 := at_a (85 * a1 + a2 + 100) 0 a1 4 (by omega) (by omega) (by decide)
  have h_7 := Inv.g hI_M kd_164 rfl (85 * a1 + a2 + 100) (a := 0) (b := 20) ha_6.1 ha_6.2
  exact kx_iret F hQ ⟨rfl, (by omega)⟩ dX12_of_21
set_option maxHeartbeats 4000000 in
set_option maxRecDepth 100000 in
theorem e_X12_isRuleAt (G : KG) (l : Launch) (M : Mem) (a1 : Int) (a2 : Int) (hI_M : Inv true M) (hpre : -2147483648 ≤ a1 ∧ a1 ≤ 2147483647 ∧ -2147483648 ≤ a2 ∧ a2 ≤ 2147483647 ∧ (M 164 3) ≤ 2) : KC true G l yX12_isRuleAt cX12_isRuleAt 3 (some .boolean) (2, 43) [vR G 163, vI a1, vI a2] M (fun A => kQi true G A (fun (r : Int) (N : Mem) => M = N ∧ ((r = 1 ∧ 0 ≤ a1 ∧ a1 < (M 164 3) ∧ 0 ≤ a2 ∧ a2 < (M 164 (85 * a1 + 104)) ∧ a2 ≤ 19) ∨ (r = 0 ∧ a1 < 0) ∨ (r = 0 ∧ a1 ≥ (M 164 3)) ∨ (r = 0 ∧ a2 < 0) ∨ (r = 0 ∧ 0 ≤ a1 ∧ a1 < (M 164 3) ∧ a2 ≥ (M 164 (85 * a1 + 104)))))) := by
  refine kx_met (lo := [some (vR G 163), some (vI a1), some (vI a2)]) (by decide) (Nat.le_of_ble_eq_true rfl) rfl ?_
  intro X F hQ
  refine kx_aload_n 1 F 0 dX12_isRuleAt_0 rfl rfl rfl ?_
  refine kx_iload_n 2 F 1 dX12_isRuleAt_1 rfl rfl rfl ?_
  refine kx_Vi 5 (ci := 0) F (As := [vI a1]) (st := []) vd_X12_282 (e_X12_isAutomaton G l M a1 hI_M (by omega)) kd_163 rfl rfl rfl ⟨by decide, by decide⟩ rfl rfl (Nat.le_of_ble_eq_true rfl) dX12_isRuleAt_2 rfl ?_
  intro r_1 N_2 q_3
  obtain ⟨rfl, q_3c⟩ := q_3
  rcases q_3c with q_3c | q_3c | q_3c
  · refine kx_if_eq 8 F 26 dX12_isRuleAt_5 (by decide) rfl (by omega) (fun h_4 => (by exfalso; omega)) (fun h_4 => ?_)
    refine kx_iload_n 9 F 2 dX12_isRuleAt_8 rfl rfl rfl ?_
    refine kx_if_lt 12 F 26 dX12_isRuleAt_9 (by decide) rfl (by omega) (fun h_5 => ?_) (fun h_5 => ?_)
    · refine kx_iconst 27 F dX12_isRuleAt_26 rfl ?_
      exact kx_zret F hQ (by omega) ⟨rfl, (Or.inr (Or.inr (Or.inr (Or.inl (by omega)))))⟩ dX12_isRuleAt_27
    · refine kx_iload_n 13 F 2 dX12_isRuleAt_12 rfl rfl rfl ?_
      refine kx_aload_n 14 F 0 dX12_isRuleAt_13 rfl rfl rfl ?_
      refine kx_iload_n 15 F 1 dX12_isRuleAt_14 rfl rfl rfl ?_
      refine kx_iconst 16 F dX12_isRuleAt_15 rfl ?_
      refine kx_Vi 19 (ci := 0) F (As := [vI a1, vI 4]) (st := [vI a2]) vd_X12_288 (e_of4 G l M a1 4 hI_M (by omega)) kd_163 rfl rfl rfl ⟨by decide, by decide⟩ rfl rfl (Nat.le_of_ble_eq_true rfl) dX12_isRuleAt_16 rfl ?_
      intro r_6 N_7 q_8
      obtain ⟨rfl, q_8c⟩ := q_8
      refine kx_topi (e' := (M 164 (85 * a1 + 104))) (by omega) ?_
      refine kx_icmp_ge 22 F 26 dX12_isRuleAt_19 (by decide) rfl (by omega) (by omega) (fun h_9 => ?_) (fun h_9 => ?_)
      · refine kx_iconst 27 F dX12_isRuleAt_26 rfl ?_
        exact kx_zret F hQ (by omega) ⟨rfl, (Or.inr (Or.inr (Or.inr (Or.inr (by omega)))))⟩ dX12_isRuleAt_27
      · refine kx_iconst 23 F dX12_isRuleAt_22 rfl ?_
        refine kx_goto 27 F dX12_isRuleAt_23 (by decide) ?_
        exact kx_zret F hQ (by omega) ⟨rfl, (Or.inl (by omega))⟩ dX12_isRuleAt_27
  · refine kx_if_eq 8 F 26 dX12_isRuleAt_5 (by decide) rfl (by omega) (fun h_10 => ?_) (fun h_10 => (by exfalso; omega))
    refine kx_iconst 27 F dX12_isRuleAt_26 rfl ?_
    exact kx_zret F hQ (by omega) ⟨rfl, (Or.inr (Or.inl (by omega)))⟩ dX12_isRuleAt_27
  · refine kx_if_eq 8 F 26 dX12_isRuleAt_5 (by decide) rfl (by omega) (fun h_11 => ?_) (fun h_11 => (by exfalso; omega))
    refine kx_iconst 27 F dX12_isRuleAt_26 rfl ?_
    exact kx_zret F hQ (by omega) ⟨rfl, (Or.inr (Or.inr (Or.inl (by omega))))⟩ dX12_isRuleAt_27
abbrev f_e_X12_orNone : List (Nat × Int) := [(64, 2)]
set_option maxHeartbeats 4000000 in
set_option maxRecDepth 100000 in
theorem e_X12_orNone (G : KG) (l : Launch) (M : Mem) (a1 : Int) (hI_M : Inv true M) (hpre : -2147483648 ≤ a1 ∧ a1 ≤ 2147483647) : KC true G l yX12_orNone cX12_orNone 2 (some .int) (1, 21) [vR G 163, vI a1] M (fun A => kQi true G A (fun (r : Int) (N : Mem) => Inv true N ∧ Fr f_e_X12_orNone M N ∧ (r = a1))) := by
  refine kx_met (lo := [some (vR G 163), some (vI a1)]) (by decide) (Nat.le_of_ble_eq_true rfl) rfl ?_
  intro X F hQ
  have hF_M : Fr f_e_X12_orNone M M := Fr.rf _ _
  refine kx_iload_n 1 F 1 dX12_orNone_0 rfl rfl rfl ?_
  refine kx_iconst 2 F dX12_orNone_1 rfl ?_
  refine kx_icmp_ne 5 F 12 dX12_orNone_2 (by decide) rfl (by omega) (by decide) (fun h_1 => ?_) (fun h_1 => ?_)
  · refine kx_aload_n 13 F 0 dX12_orNone_12 rfl rfl rfl ?_
    refine kx_iload_n 14 F 1 dX12_orNone_13 rfl rfl rfl ?_
    refine kx_Vi 17 (ci := 0) F (As := [vI a1]) (st := []) vd_X12_127 (c_X12_gives G l M a1 hI_M (by omega)) kd_163 rfl rfl rfl ⟨by decide, by decide⟩ rfl rfl (Nat.le_of_ble_eq_true rfl) dX12_orNone_14 rfl ?_
    intro r_2 N_3 q_4
    obtain ⟨hI_N_3, hG_N_3, q_4c⟩ := q_4
    have hF_N_3 : Fr f_e_X12_orNone M N_3 := Fr.c hF_M hG_N_3 rfl
    refine kx_topi (e' := a1) (by omega) ?_
    exact kx_iret F hQ ⟨hI_N_3, hF_N_3, (by omega)⟩ dX12_orNone_17
  · refine kx_aload_n 6 F 0 dX12_orNone_5 rfl rfl rfl ?_
    refine kx_bipush 8 F dX12_orNone_6 (by decide) rfl ?_
    refine kx_Vi 11 (ci := 0) F (As := [vI 6]) (st := []) vd_X12_123 (c_X12_refuse G l M 6 hI_M (by omega)) kd_163 rfl rfl rfl ⟨by decide, by decide⟩ rfl rfl (Nat.le_of_ble_eq_true rfl) dX12_orNone_8 rfl ?_
    intro r_5 N_6 q_7
    obtain ⟨hI_N_6, hG_N_6, q_7c⟩ := q_7
    have hF_N_6 : Fr f_e_X12_orNone M N_6 := Fr.c hF_M hG_N_6 rfl
    subst q_7c
    exact kx_iret F hQ ⟨hI_N_6, hF_N_6, (by omega)⟩ dX12_orNone_11
abbrev f_e_X12_rule : List (Nat × Int) := [(64, 2)]
set_option maxHeartbeats 4000000 in
set_option maxRecDepth 100000 in
theorem e_X12_rule (G : KG) (l : Launch) (M : Mem) (a1 : Int) (a2 : Int) (a3 : Int) (hI_M : Inv true M) (hpre : -2147483648 ≤ a1 ∧ a1 ≤ 2147483647 ∧ -2147483648 ≤ a2 ∧ a2 ≤ 2147483647 ∧ -2147483648 ≤ a3 ∧ a3 ≤ 2147483647) (q : Int → Int) (hS : zRN (M 164) q) (hU : zRU (M 164) q) : KC true G l yX12_rule cX12_rule 4 (some .int) (3, 65) [vR G 163, vI a1, vI a2, vI a3] M (fun A => kQi true G A (fun (r : Int) (N : Mem) => Inv true N ∧ Fr f_e_X12_rule M N ∧ (r ≥ -2147483648 ∧ r ≤ 2147483647) ∧ (zRL q a1 a2 a3 r))) := by
  refine kx_met (lo := [some (vR G 163), some (vI a1), some (vI a2), some (vI a3)]) (by decide) (Nat.le_of_ble_eq_true rfl) rfl ?_
  intro X F hQ
  have hF_M : Fr f_e_X12_rule M M := Fr.rf _ _
  have hSn := hS.u
  have hq4i : 0 ≤ a1 → a1 < q 3 → M 164 (85 * a1 + 104) = q (85 * a1 + 104) := fun x y => (hU.b (a := a1) (b := 85 * a1 + 100) (by omega) rfl).n (d := 4) (by omega) (by omega)
  refine kx_aload_n 1 F 0 dX12_rule_0 rfl rfl rfl ?_
  refine kx_iload_n 2 F 1 dX12_rule_1 rfl rfl rfl ?_
  refine kx_iload_n 3 F 2 dX12_rule_2 rfl rfl rfl ?_
  refine kx_Vi 6 (ci := 0) F (As := [vI a1, vI a2]) (st := []) vd_X12_291 (e_X12_isRuleAt G l M a1 a2 hI_M (by omega)) kd_163 rfl rfl rfl ⟨by decide, by decide⟩ rfl rfl (Nat.le_of_ble_eq_true rfl) dX12_rule_3 rfl ?_
  intro r_1 N_2 q_3
  obtain ⟨rfl, q_3c⟩ := q_3
  rcases q_3c with q_3c | q_3c | q_3c | q_3c | q_3c
  · refine kx_if_eq 9 F 18 dX12_rule_6 (by decide) rfl (by omega) (fun h_4 => (by exfalso; omega)) (fun h_4 => ?_)
    refine kx_iload_n 10 F 3 dX12_rule_9 rfl rfl rfl ?_
    refine kx_if_lt 13 F 18 dX12_rule_10 (by decide) rfl (by omega) (fun h_5 => ?_) (fun h_5 => ?_)
    · refine kx_aload_n 19 F 0 dX12_rule_18 rfl rfl rfl ?_
      refine kx_iconst 20 F dX12_rule_19 rfl ?_
      refine kx_Vi 23 (ci := 0) F (As := [vI 1]) (st := []) vd_X12_123 (c_X12_refuse G l M 1 hI_M (by omega)) kd_163 rfl rfl rfl ⟨by decide, by decide⟩ rfl rfl (Nat.le_of_ble_eq_true rfl) dX12_rule_20 rfl ?_
      intro r_6 N_7 q_8
      obtain ⟨hI_N_7, hG_N_7, q_8c⟩ := q_8
      have hF_N_7 : Fr f_e_X12_rule M N_7 := Fr.c hF_M hG_N_7 rfl
      subst q_8c
      exact kx_iret F hQ ⟨hI_N_7, hF_N_7, (by omega), (Or.inr ⟨fun h => by have hq4 := hq4i (by omega) (by omega); omega, by omega⟩)⟩ dX12_rule_23
    · refine kx_iload_n 14 F 3 dX12_rule_13 rfl rfl rfl ?_
      refine kx_iconst 15 F dX12_rule_14 rfl ?_
      refine kx_icmp_le 18 F 24 dX12_rule_15 (by decide) rfl (by omega) (by decide) (fun h_9 => ?_) (fun h_9 => ?_)
      · refine kx_aload_n 25 F 0 dX12_rule_24 rfl rfl rfl ?_
        refine kx_aload_n 26 F 0 dX12_rule_25 rfl rfl rfl ?_
        refine kx_getr 29 F fl_X12_7 kd_163 rfl rfl (j := 0) rfl dX12_rule_26 (v := 164) (uq_164 (Inv.r hI_M kd_163 rfl 0 rfl rfl)) rfl ?_
        refine kx_iconst 30 F dX12_rule_29 rfl ?_
        refine kx_iload_n 31 F 1 dX12_rule_30 rfl rfl rfl ?_
        refine kx_iload_n 32 F 2 dX12_rule_31 rfl rfl rfl ?_
        refine kx_Si 35 F (As := [vI 0, vI a1, vI a2]) (st := [vR G 164, vR G 163]) sd_X12_243 (c_X12_ruleRow G l M 0 a1 a2 hI_M (by omega)) ⟨by decide, by decide⟩ rfl rfl (Nat.le_of_ble_eq_true rfl) dX12_rule_32 rfl ?_
        intro r_10 N_11 q_12
        obtain ⟨rfl, q_12c⟩ := q_12
        refine kx_topi (e' := 85 * a1 + 4 * a2 + 105) (by omega) ?_
        refine kx_iload_n 36 F 3 dX12_rule_35 rfl rfl rfl ?_
        refine kx_iadd 37 F (v := 85 * a1 + 4 * a2 + a3 + 105) dX12_rule_36 (by omega) rfl ?_
        refine kx_iald 38 F kd_164 rfl rfl (by omega) (by decide) dX12_rule_37 (v := (M 164 (85 * a1 + 4 * a2 + a3 + 105))) rfl rfl ?_
        have h_13 := Inv.g hI_M kd_164 rfl (85 * a1 + 4 * a2 + a3 + 105) (a := atlo (85 * a1 + 4 * a2 + a3 + 105)) (b := athi (85 * a1 + 4 * a2 + a3 + 105)) rfl rfl
        have h_14 := at_w (85 * a1 + 4 * a2 + a3 + 105)
        refine kx_Vi 41 (ci := 0) F (As := [vI (M 164 (85 * a1 + 4 * a2 + a3 + 105))]) (st := []) vd_X12_294 (e_X12_orNone G l M (M 164 (85 * a1 + 4 * a2 + a3 + 105)) hI_M (by omega)) kd_163 rfl rfl rfl ⟨by decide, by decide⟩ rfl rfl (Nat.le_of_ble_eq_true rfl) dX12_rule_38 rfl ?_
        intro r_15 N_16 q_17
        obtain ⟨hI_N_16, hG_N_16, q_17c⟩ := q_17
        have hF_N_16 : Fr f_e_X12_rule M N_16 := Fr.c hF_M hG_N_16 rfl
        refine kx_topi (e' := (M 164 (85 * a1 + 4 * a2 + a3 + 105))) (by omega) ?_
        have hqb := hU.b (a := a1) (b := 85 * a1 + 100) (by omega) rfl
        have hq4 := hqb.n (d := 4) (y := 85 * a1 + 104) (by omega) (by omega)
        have hq5 : q (85 * a1 + 100 + 4) = q (85 * a1 + 104) := by rw [show 85 * a1 + 100 + 4 = 85 * a1 + 104 by omega]
        have hqa := hqb.r (k := a2) (d := a3) (y := 85 * a1 + 4 * a2 + a3 + 105) (by omega) (by omega) (by omega) (by omega)
        exact kx_iret F hQ ⟨hI_N_16, hF_N_16, (by omega), (Or.inl ⟨by omega, by omega⟩)⟩ dX12_rule_41
      · refine kx_aload_n 19 F 0 dX12_rule_18 rfl rfl rfl ?_
        refine kx_iconst 20 F dX12_rule_19 rfl ?_
        refine kx_Vi 23 (ci := 0) F (As := [vI 1]) (st := []) vd_X12_123 (c_X12_refuse G l M 1 hI_M (by omega)) kd_163 rfl rfl rfl ⟨by decide, by decide⟩ rfl rfl (Nat.le_of_ble_eq_true rfl) dX12_rule_20 rfl ?_
        intro r_18 N_19 q_20
        obtain ⟨hI_N_19, hG_N_19, q_20c⟩ := q_20
        have hF_N_19 : Fr f_e_X12_rule M N_19 := Fr.c hF_M hG_N_19 rfl
        subst q_20c
        exact kx_iret F hQ ⟨hI_N_19, hF_N_19, (by omega), (Or.inr ⟨fun h => by have hq4 := hq4i (by omega) (by omega); omega, by omega⟩)⟩ dX12_rule_23
  · refine kx_if_eq 9 F 18 dX12_rule_6 (by decide) rfl (by omega) (fun h_21 => ?_) (fun h_21 => (by exfalso; omega))
    refine kx_aload_n 19 F 0 dX12_rule_18 rfl rfl rfl ?_
    refine kx_iconst 20 F dX12_rule_19 rfl ?_
    refine kx_Vi 23 (ci := 0) F (As := [vI 1]) (st := []) vd_X12_123 (c_X12_refuse G l M 1 hI_M (by omega)) kd_163 rfl rfl rfl ⟨by decide, by decide⟩ rfl rfl (Nat.le_of_ble_eq_true rfl) dX12_rule_20 rfl ?_
    intro r_22 N_23 q_24
    obtain ⟨hI_N_23, hG_N_23, q_24c⟩ := q_24
    have hF_N_23 : Fr f_e_X12_rule M N_23 := Fr.c hF_M hG_N_23 rfl
    subst q_24c
    exact kx_iret F hQ ⟨hI_N_23, hF_N_23, (by omega), (Or.inr ⟨fun h => by have hq4 := hq4i (by omega) (by omega); omega, by omega⟩)⟩ dX12_rule_23
  · refine kx_if_eq 9 F 18 dX12_rule_6 (by decide) rfl (by omega) (fun h_25 => ?_) (fun h_25 => (by exfalso; omega))
    refine kx_aload_n 19 F 0 dX12_rule_18 rfl rfl rfl ?_
    refine kx_iconst 20 F dX12_rule_19 rfl ?_
    refine kx_Vi 23 (ci := 0) F (As := [vI 1]) (st := []) vd_X12_123 (c_X12_refuse G l M 1 hI_M (by omega)) kd_163 rfl rfl rfl ⟨by decide, by decide⟩ rfl rfl (Nat.le_of_ble_eq_true rfl) dX12_rule_20 rfl ?_
    intro r_26 N_27 q_28
    obtain ⟨hI_N_27, hG_N_27, q_28c⟩ := q_28
    have hF_N_27 : Fr f_e_X12_rule M N_27 := Fr.c hF_M hG_N_27 rfl
    subst q_28c
    exact kx_iret F hQ ⟨hI_N_27, hF_N_27, (by omega), (Or.inr ⟨fun h => by have hq4 := hq4i (by omega) (by omega); omega, by omega⟩)⟩ dX12_rule_23
  · refine kx_if_eq 9 F 18 dX12_rule_6 (by decide) rfl (by omega) (fun h_29 => ?_) (fun h_29 => (by exfalso; omega))
    refine kx_aload_n 19 F 0 dX12_rule_18 rfl rfl rfl ?_
    refine kx_iconst 20 F dX12_rule_19 rfl ?_
    refine kx_Vi 23 (ci := 0) F (As := [vI 1]) (st := []) vd_X12_123 (c_X12_refuse G l M 1 hI_M (by omega)) kd_163 rfl rfl rfl ⟨by decide, by decide⟩ rfl rfl (Nat.le_of_ble_eq_true rfl) dX12_rule_20 rfl ?_
    intro r_30 N_31 q_32
    obtain ⟨hI_N_31, hG_N_31, q_32c⟩ := q_32
    have hF_N_31 : Fr f_e_X12_rule M N_31 := Fr.c hF_M hG_N_31 rfl
    subst q_32c
    exact kx_iret F hQ ⟨hI_N_31, hF_N_31, (by omega), (Or.inr ⟨fun h => by have hq4 := hq4i (by omega) (by omega); omega, by omega⟩)⟩ dX12_rule_23
  · refine kx_if_eq 9 F 18 dX12_rule_6 (by decide) rfl (by omega) (fun h_33 => ?_) (fun h_33 => (by exfalso; omega))
    refine kx_aload_n 19 F 0 dX12_rule_18 rfl rfl rfl ?_
    refine kx_iconst 20 F dX12_rule_19 rfl ?_
    refine kx_Vi 23 (ci := 0) F (As := [vI 1]) (st := []) vd_X12_123 (c_X12_refuse G l M 1 hI_M (by omega)) kd_163 rfl rfl rfl ⟨by decide, by decide⟩ rfl rfl (Nat.le_of_ble_eq_true rfl) dX12_rule_20 rfl ?_
    intro r_34 N_35 q_36
    obtain ⟨hI_N_35, hG_N_35, q_36c⟩ := q_36
    have hF_N_35 : Fr f_e_X12_rule M N_35 := Fr.c hF_M hG_N_35 rfl
    subst q_36c
    exact kx_iret F hQ ⟨hI_N_35, hF_N_35, (by omega), (Or.inr ⟨fun h => by have hq4 := hq4i (by omega) (by omega); omega, by omega⟩)⟩ dX12_rule_23
