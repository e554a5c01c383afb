abbrev f_e_tellsBy3 : List (Nat × Int) := [(64, 2), (64, 3), (64, 4)]
set_option maxHeartbeats 4000000 in
set_option maxRecDepth 100000 in
theorem e_tellsBy3 (G : KG) (l : Launch) (M : Mem) (a1 : Int) (a2 : Int) (hI_M : Inv true M) (hpre : -9223372036854775808 ≤ a1 ∧ a1 ≤ 9223372036854775807 ∧ -9223372036854775808 ≤ a2 ∧ a2 ≤ 9223372036854775807 ∧ a2 ≠ 0) : KC true G l yX12_tellsBy cX12_tellsBy 11 (some .boolean) (1, 21) [vR G 163, vL a1, vL a2] M (fun A => kQi true G A (fun (r : Int) (N : Mem) => Inv true N ∧ Fr f_e_tellsBy3 M N ∧ (r = 1))) := by
  refine kx_met (lo := [some (vR G 163), some (vL a1), none, some (vL a2), none, none, none, none, none, none, none]) (by decide) (Nat.le_of_ble_eq_true rfl) rfl ?_
  intro X F hQ
  have hF_M : Fr f_e_tellsBy3 M M := Fr.rf _ _
  refine kx_lload_n 1 F 1 dX12_tellsBy_0 rfl rfl rfl ?_
  refine kx_lstore 3 F 5 (lo' := [some (vR G 163), some (vL a1), none, some (vL a2), none, some (vL a1), none, none, none, none, none]) dX12_tellsBy_1 (by decide) rfl rfl rfl ?_
  refine kx_lload_n 4 F 3 dX12_tellsBy_3 rfl rfl rfl ?_
  refine kx_lstore 6 F 7 (lo' := [some (vR G 163), some (vL a1), none, some (vL a2), none, some (vL a1), none, some (vL a2), none, none, none]) dX12_tellsBy_4 (by decide) rfl rfl rfl ?_
  have L_20 : ∀ (n_21 : Nat) (x5_18 : Int) (x7_19 : Int), (-9223372036854775808) ≤ x5_18 ∧ x5_18 ≤ 9223372036854775807 ∧ (-9223372036854775808) ≤ x7_19 ∧ x7_19 ≤ 9223372036854775807 ∧ (¬ x5_18 = 0 ∨ ¬ x7_19 = 0) → (x7_19).natAbs = n_21 → KJ true G X M 6 [some (vR G 163), some (vL a1), none, some (vL a2), none, some (vL x5_18), none, some (vL x7_19), none, none, none] [] := by
    intro n_21
    refine Nat.strongRecOn n_21 ?_
    intro n_21 ih_22 x5_18 x7_19 h_23 hm_24
    refine kx_lload 8 F 7 dX12_tellsBy_6 rfl rfl ?_
    refine kx_lconst 9 (z := 0) F dX12_tellsBy_8 (by decide) rfl ?_
    refine kx_lcmp 10 F dX12_tellsBy_9 (by omega) (by omega) rfl (fun w_25 h_26 => ?_)
    refine kx_if_eq 13 F 31 dX12_tellsBy_10 (by decide) rfl (by omega) (fun h_27 => ?_) (fun h_27 => ?_)
    · refine kx_aload_n 32 F 0 dX12_tellsBy_31 rfl rfl rfl ?_
      refine kx_lload_n 33 F 1 dX12_tellsBy_32 rfl rfl rfl ?_
      refine kx_lload 35 F 5 dX12_tellsBy_33 rfl rfl ?_
      refine kx_ldiv 36 F dX12_tellsBy_35 (by omega) (by omega) rfl (fun w_28 h_29 => ?_)
      refine kx_putl 39 F fw_X12_120 rfl kd_163 rfl rfl (j := 3) rfl dX12_tellsBy_36 rfl ?_
      intro N_30 hM_N_30
      have hI_N_30 : Inv true N_30 := Inv.u hI_M hM_N_30 kd_163 (a := (-9223372036854775808)) (b := 9223372036854775807) rfl rfl rfl (by omega)
      have hF_N_30 : Fr f_e_tellsBy3 M N_30 := Fr.u hF_M hM_N_30 kd_163 rfl
      refine kx_aload_n 40 F 0 dX12_tellsBy_39 rfl rfl rfl ?_
      refine kx_lload_n 41 F 3 dX12_tellsBy_40 rfl rfl rfl ?_
      refine kx_lload 43 F 5 dX12_tellsBy_41 rfl rfl ?_
      refine kx_ldiv 44 F dX12_tellsBy_43 (by omega) (by omega) rfl (fun w_31 h_32 => ?_)
      refine kx_putl 47 F fw_X12_17 rfl kd_163 rfl rfl (j := 4) rfl dX12_tellsBy_44 rfl ?_
      intro N_33 hM_N_33
      have hI_N_33 : Inv true N_33 := Inv.u hI_N_30 hM_N_33 kd_163 (a := (-9223372036854775808)) (b := 9223372036854775807) rfl rfl rfl (by omega)
      have hF_N_33 : Fr f_e_tellsBy3 M N_33 := Fr.u hF_N_30 hM_N_33 kd_163 rfl
      refine kx_aload_n 48 F 0 dX12_tellsBy_47 rfl rfl rfl ?_
      refine kx_iconst 49 F dX12_tellsBy_48 rfl ?_
      refine kx_Vi 52 (ci := 0) F (As := [vI 0]) (st := []) vd_X12_130 (c_X12_is G l N_33 0 hI_N_33 (by omega)) kd_163 rfl rfl rfl ⟨by decide, by decide⟩ rfl rfl (Nat.le_of_ble_eq_true rfl) dX12_tellsBy_49 rfl ?_
      intro r_34 N_35 q_36
      obtain ⟨hI_N_35, hG_N_35, q_36c⟩ := q_36
      have hF_N_35 : Fr f_e_tellsBy3 M N_35 := Fr.c hF_N_33 hG_N_35 rfl
      rcases q_36c with q_36c | q_36c
      · exact kx_zret F hQ (by omega) ⟨hI_N_35, hF_N_35, (by omega)⟩ dX12_tellsBy_52
      · exfalso; omega
    · refine kx_lload 15 F 5 dX12_tellsBy_13 rfl rfl ?_
      refine kx_lload 17 F 7 dX12_tellsBy_15 rfl rfl ?_
      refine kx_lrem 18 F dX12_tellsBy_17 (by omega) (by omega) (by omega) rfl (fun w_37 h_38 => ?_)
      have h_39 := Int.natAbs_tmod_le_z x5_18 x7_19 (by omega)
      rw [← h_38] at h_39
      refine kx_lstore 20 F 9 (lo' := [some (vR G 163), some (vL a1), none, some (vL a2), none, some (vL x5_18), none, some (vL x7_19), none, some (vL w_37), none]) dX12_tellsBy_18 (by decide) rfl rfl rfl ?_
      refine kx_lload 22 F 7 dX12_tellsBy_20 rfl rfl ?_
      refine kx_lstore 24 F 5 (lo' := [some (vR G 163), some (vL a1), none, some (vL a2), none, some (vL x7_19), none, some (vL x7_19), none, some (vL w_37), none]) dX12_tellsBy_22 (by decide) rfl rfl rfl ?_
      refine kx_lload 26 F 9 dX12_tellsBy_24 rfl rfl ?_
      refine kx_lstore 28 F 7 (lo' := [some (vR G 163), some (vL a1), none, some (vL a2), none, some (vL x7_19), none, some (vL w_37), none, some (vL w_37), none]) dX12_tellsBy_26 (by decide) rfl rfl rfl ?_
      refine kx_goto 6 F dX12_tellsBy_28 (by decide) ?_
      refine kx_drop 9 (lo' := [some (vR G 163), some (vL a1), none, some (vL a2), none, some (vL x7_19), none, some (vL w_37), none, none, none]) rfl ?_
      exact ih_22 _ (by omega) x7_19 w_37 (by omega) rfl
  exact L_20 _ a1 a2 (by omega) rfl
set_option maxHeartbeats 4000000 in
set_option maxRecDepth 100000 in
theorem e_isCount3 (G : KG) (l : Launch) (M : Mem) (a1 : Int) (a2 : Int) (a3 : Int) (hI_M : Inv true M) (hpre : -2147483648 ≤ a1 ∧ a1 ≤ 2147483647 ∧ -2147483648 ≤ a2 ∧ a2 ≤ 2147483647 ∧ -2147483648 ≤ a3 ∧ a3 ≤ 2147483647 ∧ 0 ≤ a3 ∧ a3 ≤ 1) : KC true G l yX12_isCount cX12_isCount 4 (some .boolean) (1, 25) [vR G 163, vI a1, vI a2, vI a3] M (fun A => kQi true G A (fun (r : Int) (N : Mem) => M = N ∧ ((r = 1 ∧ 0 ≤ a1 ∧ a1 < (M 164 3) ∧ a3 ≤ a2 ∧ a2 ≤ 6) ∨ (r = 0 ∧ a1 < 0) ∨ (r = 0 ∧ a1 ≥ (M 164 3)) ∨ (r = 0 ∧ a2 < a3) ∨ (r = 0 ∧ a2 > 6)))) := by
  refine kx_met (lo := [some (vR G 163), some (vI a1), some (vI a2), some (vI a3)]) (by decide) (Nat.le_of_ble_eq_true rfl) rfl ?_
  intro X F hQ
  refine kx_aload_n 1 F 0 dX12_isCount_0 rfl rfl rfl ?_
  refine kx_iload_n 2 F 1 dX12_isCount_1 rfl rfl rfl ?_
  refine kx_Vi 5 (ci := 0) F (As := [vI a1]) (st := []) vd_X12_282 (e_X12_isAutomaton G l M a1 hI_M (by omega)) kd_163 rfl rfl rfl ⟨by decide, by decide⟩ rfl rfl (Nat.le_of_ble_eq_true rfl) dX12_isCount_2 rfl ?_
  intro r_1 N_2 q_3
  obtain ⟨rfl, q_3c⟩ := q_3
  rcases q_3c with q_3c | q_3c | q_3c
  · refine kx_if_eq 8 F 25 dX12_isCount_5 (by decide) rfl (by omega) (fun h_4 => (by exfalso; omega)) (fun h_4 => ?_)
    refine kx_iload_n 9 F 2 dX12_isCount_8 rfl rfl rfl ?_
    refine kx_i2l 10 F dX12_isCount_9 (by omega) rfl ?_
    refine kx_iload_n 11 F 3 dX12_isCount_10 rfl rfl rfl ?_
    refine kx_i2l 12 F dX12_isCount_11 (by omega) rfl ?_
    refine kx_ldc2 15 (z := 6) F dX12_isCount_12 ct_X12_506 rfl ?_
    refine kx_Si 18 F (As := [vL a2, vL a3, vL 6]) (st := []) sd_X12_338 (e_isFrom3 G l M a2 a3 6 hI_M (by omega)) ⟨by decide, by decide⟩ rfl rfl (Nat.le_of_ble_eq_true rfl) dX12_isCount_15 rfl ?_
    intro r_5 N_6 q_7
    obtain ⟨rfl, q_7c⟩ := q_7
    rcases q_7c with q_7c | q_7c | q_7c
    · refine kx_if_eq 21 F 25 dX12_isCount_18 (by decide) rfl (by omega) (fun h_8 => (by exfalso; omega)) (fun h_8 => ?_)
      refine kx_iconst 22 F dX12_isCount_21 rfl ?_
      refine kx_goto 26 F dX12_isCount_22 (by decide) ?_
      exact kx_zret F hQ (by omega) ⟨rfl, (Or.inl (by omega))⟩ dX12_isCount_26
    · refine kx_if_eq 21 F 25 dX12_isCount_18 (by decide) rfl (by omega) (fun h_9 => ?_) (fun h_9 => (by exfalso; omega))
      refine kx_iconst 26 F dX12_isCount_25 rfl ?_
      exact kx_zret F hQ (by omega) ⟨rfl, (Or.inr (Or.inr (Or.inr (Or.inl (by omega)))))⟩ dX12_isCount_26
    · refine kx_if_eq 21 F 25 dX12_isCount_18 (by decide) rfl (by omega) (fun h_10 => ?_) (fun h_10 => (by exfalso; omega))
      refine kx_iconst 26 F dX12_isCount_25 rfl ?_
      exact kx_zret F hQ (by omega) ⟨rfl, (Or.inr (Or.inr (Or.inr (Or.inr (by omega)))))⟩ dX12_isCount_26
  · refine kx_if_eq 8 F 25 dX12_isCount_5 (by decide) rfl (by omega) (fun h_11 => ?_) (fun h_11 => (by exfalso; omega))
    refine kx_iconst 26 F dX12_isCount_25 rfl ?_
    exact kx_zret F hQ (by omega) ⟨rfl, (Or.inr (Or.inl (by omega)))⟩ dX12_isCount_26
  · refine kx_if_eq 8 F 25 dX12_isCount_5 (by decide) rfl (by omega) (fun h_12 => ?_) (fun h_12 => (by exfalso; omega))
    refine kx_iconst 26 F dX12_isCount_25 rfl ?_
    exact kx_zret F hQ (by omega) ⟨rfl, (Or.inr (Or.inr (Or.inl (by omega))))⟩ dX12_isCount_26
abbrev f_e_runs3m : List (Nat × Int) := [(64, 2), (64, 3), (64, 4), (72, -1), (75, -1), (76, -1), (77, -1), (78, -1), (79, -1)]
set_option maxHeartbeats 4000000 in
set_option maxRecDepth 100000 in
theorem e_runs3m (G : KG) (l : Launch) (M : Mem) (a1 : Int) (a2 : Int) (a3 : Int) (hI_M : Inv true M) (hpre : -2147483648 ≤ a1 ∧ a1 ≤ 2147483647 ∧ -2147483648 ≤ a2 ∧ a2 ≤ 2147483647 ∧ -2147483648 ≤ a3 ∧ a3 ≤ 2147483647) (q : Int → Int) (hS : zRN (M 164) q) (hU : zRU (M 164) q) : KC true G l yX12_runs cX12_runs 8 (some .boolean) (3, 78) [vR G 163, vI a1, vI a2, vI a3] M (fun A => kQi true G A (fun (r : Int) (N : Mem) => Inv true N ∧ Fr f_e_runs3m M N ∧ (r ≥ 0 ∧ r ≤ 1) ∧ (zRNS (M 168) q a1 a2 a3 (M 167 a2) (M 164 0 + M 164 1 + M 164 2) r))) := by
  refine kx_met (lo := [some (vR G 163), some (vI a1), some (vI a2), some (vI a3), none, none, none, none]) (by decide) (Nat.le_of_ble_eq_true rfl) rfl ?_
  intro X F hQ
  have hF_M : Fr f_e_runs3m M M := Fr.rf _ _
  have hSn := hS.u
  have h_1 := Inv.g hI_M kd_164 rfl 0 (a := 0) (b := 2) (at_c 0 0 (o := 0) (lo := 0) (hi := 2) (by omega) (by decide) (by decide) (by decide)).1 (at_c 0 0 (o := 0) (lo := 0) (hi := 2) (by omega) (by decide) (by decide) (by decide)).2
  have h_2 := Inv.g hI_M kd_164 rfl 1 (a := 0) (b := 2) (at_c 1 0 (o := 1) (lo := 0) (hi := 2) (by omega) (by decide) (by decide) (by decide)).1 (at_c 1 0 (o := 1) (lo := 0) (hi := 2) (by omega) (by decide) (by decide) (by decide)).2
  have h_3 := Inv.g hI_M kd_164 rfl 2 (a := 0) (b := 2) (at_c 2 0 (o := 2) (lo := 0) (hi := 2) (by omega) (by decide) (by decide) (by decide)).1 (at_c 2 0 (o := 2) (lo := 0) (hi := 2) (by omega) (by decide) (by decide) (by decide)).2
  have ha_4 : atlo 3 = 0 ∧ athi 3 = 2 := at_c 3 0 (o := 3) (lo := 0) (hi := 2) (by omega) (by decide) (by decide) (by decide)
  have h_5 := Inv.g hI_M kd_164 rfl 3 (a := 0) (b := 2) ha_4.1 ha_4.2
  refine kx_aload_n 1 F 0 dX12_runs_0 rfl rfl rfl ?_
  refine kx_iload_n 2 F 1 dX12_runs_1 rfl rfl rfl ?_
  refine kx_Vi 5 (ci := 0) F (As := [vI a1]) (st := []) vd_X12_282 (e_X12_isAutomaton G l M a1 hI_M (by omega)) kd_163 rfl rfl rfl ⟨by decide, by decide⟩ rfl rfl (Nat.le_of_ble_eq_true rfl) dX12_runs_2 rfl ?_
  intro r_6 N_7 q_8
  obtain ⟨rfl, q_8c⟩ := q_8
  rcases q_8c with q_8c | q_8c | q_8c
  · refine kx_if_eq 8 F 17 dX12_runs_5 (by decide) rfl (by omega) (fun h_9 => (by exfalso; omega)) (fun h_9 => ?_)
    refine kx_aload_n 9 F 0 dX12_runs_8 rfl rfl rfl ?_
    refine kx_iload_n 10 F 2 dX12_runs_9 rfl rfl rfl ?_
    refine kx_iload_n 11 F 3 dX12_runs_10 rfl rfl rfl ?_
    refine kx_Vi 14 (ci := 0) F (As := [vI a2, vI a3]) (st := []) vd_X12_358 (e_isWordCall3 G l M a2 a3 hI_M (by omega)) kd_163 rfl rfl rfl ⟨by decide, by decide⟩ rfl rfl (Nat.le_of_ble_eq_true rfl) dX12_runs_11 rfl ?_
    intro r_10 N_11 q_12
    obtain ⟨rfl, q_12c⟩ := q_12
    rcases q_12c with q_12c | q_12c | q_12c | q_12c | q_12c
    · refine kx_if_ne 17 F 23 dX12_runs_14 (by decide) rfl (by omega) (fun h_13 => ?_) (fun h_13 => (by exfalso; omega))
      refine kx_aload_n 24 F 0 dX12_runs_23 rfl rfl rfl ?_
      refine kx_iload_n 25 F 2 dX12_runs_24 rfl rfl rfl ?_
      refine kx_iload_n 26 F 3 dX12_runs_25 rfl rfl rfl ?_
      refine kx_Vi 29 (ci := 0) F (As := [vI a2, vI a3]) (st := []) vd_X12_361 (e_wrongWord3 G l M a2 a3 hI_M (by omega)) kd_163 rfl rfl rfl ⟨by decide, by decide⟩ rfl rfl (Nat.le_of_ble_eq_true rfl) dX12_runs_26 rfl ?_
      intro r_14 N_15 q_16
      obtain ⟨rfl, q_16c, hz_N_15⟩ := q_16
      rcases q_16c with q_16c | q_16c
      · refine kx_istore 31 F 4 (lo' := [some (vR G 163), some (vI a1), some (vI a2), some (vI a3), some (vI r_14), none, none, none]) dX12_runs_29 (by decide) rfl rfl rfl ?_
        refine kx_iload 33 F 4 dX12_runs_31 rfl rfl ?_
        refine kx_if_le 36 F 43 dX12_runs_33 (by decide) rfl (by omega) (fun h_17 => ?_) (fun h_17 => (by exfalso; omega))
        refine kx_aload_n 44 F 0 dX12_runs_43 rfl rfl rfl ?_
        refine kx_Vv 47 (ci := 0) F (As := []) (st := []) vd_X12_342 (e_laysRules G l M  hI_M) kd_163 rfl rfl rfl ⟨by decide, by decide⟩ rfl rfl (Nat.le_of_ble_eq_true rfl) dX12_runs_44 rfl ?_
        intro N_18 q_19
        obtain ⟨hI_N_18, hG_N_18, hd_N_18⟩ := q_19
        have hF_N_18 : Fr f_e_runs3m M N_18 := Fr.c hF_M hG_N_18 rfl
        refine kx_aload_n 48 F 0 dX12_runs_47 rfl rfl rfl ?_
        refine kx_getr 51 F fl_X12_53 kd_163 rfl rfl (j := 23) rfl dX12_runs_48 (v := 174) (uq_174 (Inv.r hI_N_18 kd_163 rfl 23 rfl rfl)) rfl ?_
        refine kx_iconst 52 F dX12_runs_51 rfl ?_
        refine kx_iconst 53 F dX12_runs_52 rfl ?_
        refine kx_iast 54 F kd_174 rfl rfl (by omega) (by decide) dX12_runs_53 rfl ?_
        intro N_20 hM_N_20
        have hI_N_20 : Inv true N_20 := Inv.u hI_N_18 hM_N_20 kd_174 (a := (-1)) (b := 19) rfl rfl rfl (by omega)
        have hF_N_20 : Fr f_e_runs3m M N_20 := Fr.u hF_N_18 hM_N_20 kd_174 rfl
        have e_21 : (N_20 174 0) = -1 := by rw [hM_N_20, mu_s]
        have hp_22 : WB N_20 0 := WB.nil (by omega)
        refine kx_iconst 55 F dX12_runs_54 rfl ?_
        refine kx_istore 57 F 5 (lo' := [some (vR G 163), some (vI a1), some (vI a2), some (vI a3), some (vI r_14), some (vI 0), none, none]) dX12_runs_55 (by decide) rfl rfl rfl ?_
        have L_2652 : ∀ (n_2653 : Nat) (x5_2650 : Int) (N_2651 : Mem), Inv true N_2651 → Fr f_e_runs3m M N_2651 → WB N_2651 0 → 0 ≤ x5_2650 ∧ x5_2650 ≤ 3 → (3 - (x5_2650)).toNat = n_2653 → KJ true G X N_2651 57 [some (vR G 163), some (vI a1), some (vI a2), some (vI a3), none, some (vI x5_2650), none, none] [] := by
          intro n_2653
          refine Nat.strongRecOn n_2653 ?_
          intro n_2653 ih_2654 x5_2650 N_2651 hI_N_2651 hF_N_2651 hp_2657 h_2655 hm_2656
          refine kx_iload 59 F 5 dX12_runs_57 rfl rfl ?_
          refine kx_iconst 60 F dX12_runs_59 rfl ?_
          refine kx_icmp_ge 63 F 96 dX12_runs_60 (by decide) rfl (by omega) (by decide) (fun h_2658 => ?_) (fun h_2658 => ?_)
          · refine kx_iconst 97 F dX12_runs_96 rfl ?_
            refine kx_istore 99 F 5 (lo' := [some (vR G 163), some (vI a1), some (vI a2), some (vI a3), none, some (vI 0), none, none]) dX12_runs_97 (by decide) rfl rfl rfl ?_
            have L_4378 : ∀ (n_4379 : Nat) (x5_4376 : Int) (N_4377 : Mem), Inv true N_4377 → Fr f_e_runs3m M N_4377 → WB N_4377 0 → 0 ≤ x5_4376 ∧ x5_4376 ≤ 9 → (9 - (x5_4376)).toNat = n_4379 → KJ true G X N_4377 99 [some (vR G 163), some (vI a1), some (vI a2), some (vI a3), none, some (vI x5_4376), none, none] [] := by
              intro n_4379
              refine Nat.strongRecOn n_4379 ?_
              intro n_4379 ih_4380 x5_4376 N_4377 hI_N_4377 hF_N_4377 hp_4383 h_4381 hm_4382
              refine kx_iload 101 F 5 dX12_runs_99 rfl rfl ?_
              refine kx_bipush 103 F dX12_runs_101 (by decide) rfl ?_
              refine kx_icmp_ge 106 F 131 dX12_runs_103 (by decide) rfl (by omega) (by decide) (fun h_4384 => ?_) (fun h_4384 => ?_)
              · refine kx_iconst 132 F dX12_runs_131 rfl ?_
                refine kx_istore 134 F 5 (lo' := [some (vR G 163), some (vI a1), some (vI a2), some (vI a3), none, some (vI 0), none, none]) dX12_runs_132 (by decide) rfl rfl rfl ?_
                have L_5115 : ∀ (n_5116 : Nat) (x5_5113 : Int) (N_5114 : Mem), Inv true N_5114 → Fr f_e_runs3m M N_5114 → WB N_5114 x5_5113 → 0 ≤ x5_5113 ∧ x5_5113 ≤ 20 → (20 - (x5_5113)).toNat = n_5116 → KJ true G X N_5114 134 [some (vR G 163), some (vI a1), some (vI a2), some (vI a3), none, some (vI x5_5113), none, none] [] := by
                  intro n_5116
                  refine Nat.strongRecOn n_5116 ?_
                  intro n_5116 ih_5117 x5_5113 N_5114 hI_N_5114 hF_N_5114 hp_5120 h_5118 hm_5119
                  refine kx_iload 136 F 5 dX12_runs_134 rfl rfl ?_
                  refine kx_iload_n 137 F 3 dX12_runs_136 rfl rfl rfl ?_
                  refine kx_icmp_ge 140 F 160 dX12_runs_137 (by decide) rfl (by omega) (by omega) (fun h_5121 => ?_) (fun h_5121 => ?_)
                  · refine kx_lconst 161 (z := 0) F dX12_runs_160 (by decide) rfl ?_
                    refine kx_lstore 163 F 5 (lo' := [some (vR G 163), some (vI a1), some (vI a2), some (vI a3), none, some (vL 0), none, none]) dX12_runs_161 (by decide) rfl rfl rfl ?_
                    refine kx_iconst 164 F dX12_runs_163 rfl ?_
                    refine kx_istore 166 F 7 (lo' := [some (vR G 163), some (vI a1), some (vI a2), some (vI a3), none, some (vL 0), none, some (vI 0)]) dX12_runs_164 (by decide) rfl rfl rfl ?_
                    have L_5189 : ∀ (n_5190 : Nat) (x5_5187 : Int) (x7_5188 : Int), (-9223372036854775808) ≤ x5_5187 ∧ x5_5187 ≤ 9223372036854775807 ∧ 0 ≤ x7_5188 ∧ x7_5188 ≤ 3 → (3 - (x7_5188)).toNat = n_5190 → KJ true G X N_5114 166 [some (vR G 163), some (vI a1), none, some (vI a3), none, some (vL x5_5187), none, some (vI x7_5188)] [] := by
                      intro n_5190
                      refine Nat.strongRecOn n_5190 ?_
                      intro n_5190 ih_5191 x5_5187 x7_5188 h_5192 hm_5193
                      refine kx_iload 168 F 7 dX12_runs_166 rfl rfl ?_
                      refine kx_iconst 169 F dX12_runs_168 rfl ?_
                      refine kx_icmp_ge 172 F 213 dX12_runs_169 (by decide) rfl (by omega) (by decide) (fun h_5194 => ?_) (fun h_5194 => ?_)
                      · refine kx_aload_n 214 F 0 dX12_runs_213 rfl rfl rfl ?_
                        refine kx_lload 216 F 5 dX12_runs_214 rfl rfl ?_
                        refine kx_lconst 217 (z := 1) F dX12_runs_216 (by decide) rfl ?_
                        refine kx_Vi 220 (ci := 0) F (As := [vL x5_5187, vL 1]) (st := []) vd_X12_384 (e_tellsBy3 G l N_5114 x5_5187 1 hI_N_5114 (by omega)) kd_163 rfl rfl rfl ⟨by decide, by decide⟩ rfl rfl (Nat.le_of_ble_eq_true rfl) dX12_runs_217 rfl ?_
                        intro r_5195 N_5196 q_5197
                        obtain ⟨hI_N_5196, hG_N_5196, q_5197c⟩ := q_5197
                        have hF_N_5196 : Fr f_e_runs3m M N_5196 := Fr.c hF_N_5114 hG_N_5196 rfl
                        subst q_5197c
                        exact kx_zret F hQ (by omega) ⟨hI_N_5196, hF_N_5196, (by omega), (Or.inl ⟨⟨by omega, by omega, zWR.y hz_N_15.2 (by omega)⟩, by omega⟩)⟩ dX12_runs_220
                      · refine kx_lload 174 F 5 dX12_runs_172 rfl rfl ?_
                        refine kx_aload_n 175 F 0 dX12_runs_174 rfl rfl rfl ?_
                        refine kx_aload_n 176 F 0 dX12_runs_175 rfl rfl rfl ?_
                        refine kx_iload_n 177 F 1 dX12_runs_176 rfl rfl rfl ?_
                        refine kx_iconst 178 F dX12_runs_177 rfl ?_
                        refine kx_Vi 181 (ci := 0) F (As := [vI a1, vI 3]) (st := [vR G 163, vL x5_5187]) vd_X12_288 (e_of3 G l N_5114 a1 3 hI_N_5114 (by omega)) kd_163 rfl rfl rfl ⟨by decide, by decide⟩ rfl rfl (Nat.le_of_ble_eq_true rfl) dX12_runs_178 rfl ?_
                        intro r_5198 N_5199 q_5200
                        obtain ⟨rfl, q_5200c⟩ := q_5200
                        have e_5201 : (N_5114 164 (85 * a1 + 103)) = (M 164 (85 * a1 + 103)) := by rw [Fr.e hF_N_5114 kd_164 _ rfl]
                        refine kx_topi (e' := (N_5114 164 (85 * a1 + 103))) (by omega) ?_
                        refine kx_iload 183 F 7 dX12_runs_181 rfl rfl ?_
                        refine kx_Vi 186 (ci := 0) F (As := [vI (N_5114 164 (85 * a1 + 103)), vI x7_5188]) (st := [vL x5_5187]) vd_X12_239 (e_X12_isIn G l N_5114 (N_5114 164 (85 * a1 + 103)) x7_5188 hI_N_5114 (by omega)) kd_163 rfl rfl rfl ⟨by decide, by decide⟩ rfl rfl (Nat.le_of_ble_eq_true rfl) dX12_runs_183 rfl ?_
                        intro r_5203 N_5204 q_5205
                        obtain ⟨rfl, q_5205c⟩ := q_5205
                        rcases q_5205c with q_5205c | q_5205c
                        · refine kx_if_eq 189 F 203 dX12_runs_186 (by decide) rfl (by omega) (fun h_5206 => (by exfalso; omega)) (fun h_5206 => ?_)
                          refine kx_aload_n 190 F 0 dX12_runs_189 rfl rfl rfl ?_
                          refine kx_getr 193 F fl_X12_59 kd_163 rfl rfl (j := 25) rfl dX12_runs_190 (v := 176) (uq_176 (Inv.r hI_N_5114 kd_163 rfl 25 rfl rfl)) rfl ?_
                          refine kx_iconst 194 F dX12_runs_193 rfl ?_
                          refine kx_iload_n 195 F 3 dX12_runs_194 rfl rfl rfl ?_
                          refine kx_imul 196 F (v := 3 * a3) dX12_runs_195 (by omega) rfl ?_
                          refine kx_iload 198 F 7 dX12_runs_196 rfl rfl ?_
                          refine kx_iadd 199 F (v := 3 * a3 + x7_5188) dX12_runs_198 rfl rfl ?_
                          refine kx_lald 200 F kd_176 rfl rfl (by omega) (by decide) dX12_runs_199 (v := (N_5114 176 (3 * a3 + x7_5188))) rfl rfl ?_
                          have h_5207 := Inv.g hI_N_5114 kd_176 rfl (3 * a3 + x7_5188) (a := (-9223372036854775808)) (b := 9223372036854775807) rfl rfl
                          refine kx_goto 204 F dX12_runs_200 (by decide) ?_
                          refine kx_ladd 205 F (v := x5_5187 + (N_5114 176 (3 * a3 + x7_5188))) dX12_runs_204 rfl rfl ?_
                          refine kx_wrapl (fun w_5208 h_5209 _ => ?_)
                          refine kx_lstore 207 F 5 (lo' := [some (vR G 163), some (vI a1), none, some (vI a3), none, some (vL w_5208), none, some (vI x7_5188)]) dX12_runs_205 (by decide) rfl rfl rfl ?_
                          refine kx_iinc 210 F 7 (v := x7_5188 + 1) (lo' := [some (vR G 163), some (vI a1), none, some (vI a3), none, some (vL w_5208), none, some (vI (x7_5188 + 1))]) dX12_runs_207 rfl (by omega) (by decide) rfl rfl rfl ?_
                          refine kx_goto 166 F dX12_runs_210 (by decide) ?_
                          exact ih_5191 _ (by omega) w_5208 (x7_5188 + 1) (by omega) rfl
                        · refine kx_if_eq 189 F 203 dX12_runs_186 (by decide) rfl (by omega) (fun h_5210 => ?_) (fun h_5210 => (by exfalso; omega))
                          refine kx_lconst 204 (z := 0) F dX12_runs_203 (by decide) rfl ?_
                          refine kx_ladd 205 F (v := x5_5187) dX12_runs_204 (by omega) rfl ?_
                          refine kx_lstore 207 F 5 (lo' := [some (vR G 163), some (vI a1), none, some (vI a3), none, some (vL x5_5187), none, some (vI x7_5188)]) dX12_runs_205 (by decide) rfl rfl rfl ?_
                          refine kx_iinc 210 F 7 (v := x7_5188 + 1) (lo' := [some (vR G 163), some (vI a1), none, some (vI a3), none, some (vL x5_5187), none, some (vI (x7_5188 + 1))]) dX12_runs_207 rfl (by omega) (by decide) rfl rfl rfl ?_
                          refine kx_goto 166 F dX12_runs_210 (by decide) ?_
                          exact ih_5191 _ (by omega) x5_5187 (x7_5188 + 1) (by omega) rfl
                    refine kx_drop 2 (lo' := [some (vR G 163), some (vI a1), none, some (vI a3), none, some (vL 0), none, some (vI 0)]) rfl ?_
                    exact L_5189 _ 0 0 (by omega) rfl
                  · have h_5211 := (hz_N_15.1 (by omega)) x5_5113 (by omega) (by omega)
                    refine kx_aload_n 141 F 0 dX12_runs_140 rfl rfl rfl ?_
                    refine kx_iload_n 142 F 1 dX12_runs_141 rfl rfl rfl ?_
                    refine kx_iload 144 F 5 dX12_runs_142 rfl rfl ?_
                    refine kx_aload_n 145 F 0 dX12_runs_144 rfl rfl rfl ?_
                    refine kx_iload_n 146 F 2 dX12_runs_145 rfl rfl rfl ?_
                    refine kx_iload 148 F 5 dX12_runs_146 rfl rfl ?_
                    have e_5212 : (N_5114 168 (60 * a2 + x5_5113)) = (M 168 (60 * a2 + x5_5113)) := by rw [Fr.e hF_N_5114 kd_168 _ rfl]
                    refine kx_Vi 151 (ci := 0) F (As := [vI a2, vI x5_5113]) (st := [vI x5_5113, vI a1, vR G 163]) vd_X12_349 (c_letterAtE G l N_5114 a2 x5_5113 hI_N_5114 (by omega)) kd_163 rfl rfl rfl ⟨by decide, by decide⟩ rfl rfl (Nat.le_of_ble_eq_true rfl) dX12_runs_148 rfl ?_
                    intro r_5214 N_5215 q_5216
                    obtain ⟨rfl, q_5216c⟩ := q_5216
                    refine kx_topi (e' := (N_5114 168 (60 * a2 + x5_5113))) (by omega) ?_
                    refine kx_Vv 154 (ci := 0) F (As := [vI a1, vI x5_5113, vI (N_5114 168 (60 * a2 + x5_5113))]) (st := []) vd_X12_381 (c_X12_readsWays G l N_5114 a1 x5_5113 (N_5114 168 (60 * a2 + x5_5113)) hI_N_5114 (by omega) (WB.mono hp_5120 (by omega))) kd_163 rfl rfl rfl ⟨by decide, by decide⟩ rfl rfl (Nat.le_of_ble_eq_true rfl) dX12_runs_151 rfl ?_
                    intro N_5221 q_5222
                    obtain ⟨hI_N_5221, hG_N_5221, hw_N_5221⟩ := q_5222
                    have hF_N_5221 : Fr f_e_runs3m M N_5221 := Fr.c hF_N_5114 hG_N_5221 rfl
                    refine kx_iinc 157 F 5 (v := x5_5113 + 1) (lo' := [some (vR G 163), some (vI a1), some (vI a2), some (vI a3), none, some (vI (x5_5113 + 1)), none, none]) dX12_runs_154 rfl (by omega) (by decide) rfl rfl rfl ?_
                    refine kx_goto 134 F dX12_runs_157 (by decide) ?_
                    exact ih_5117 _ (by omega) (x5_5113 + 1) N_5221 hI_N_5221 hF_N_5221 (WB.mono hw_N_5221 (by omega)) (by omega) rfl
                exact L_5115 _ 0 N_4377 hI_N_4377 hF_N_4377 (WB.mono hp_4383 (by omega)) (by omega) rfl
              · refine kx_aload_n 107 F 0 dX12_runs_106 rfl rfl rfl ?_
                refine kx_getr 110 F fl_X12_62 kd_163 rfl rfl (j := 26) rfl dX12_runs_107 (v := 177) (uq_177 (Inv.r hI_N_4377 kd_163 rfl 26 rfl rfl)) rfl ?_
                refine kx_iload 112 F 5 dX12_runs_110 rfl rfl ?_
                refine kx_iload 114 F 5 dX12_runs_112 rfl rfl ?_
                refine kx_iconst 115 F dX12_runs_114 rfl ?_
                refine kx_irem 116 F (v := (x5_4376 % 4)) dX12_runs_115 (by omega) (by decide) rfl rfl ?_
                refine kx_if_ne 119 F 123 dX12_runs_116 (by decide) rfl (by omega) (fun h_5223 => ?_) (fun h_5223 => ?_)
                · refine kx_lconst 124 (z := 0) F dX12_runs_123 (by decide) rfl ?_
                  refine kx_last 125 F kd_177 rfl rfl (by omega) (by decide) dX12_runs_124 rfl ?_
                  intro N_5224 hM_N_5224
                  have hI_N_5224 : Inv true N_5224 := Inv.u hI_N_4377 hM_N_5224 kd_177 (a := (-9223372036854775808)) (b := 9223372036854775807) rfl rfl rfl (by omega)
                  have hF_N_5224 : Fr f_e_runs3m M N_5224 := Fr.u hF_N_4377 hM_N_5224 kd_177 rfl
                  refine kx_iinc 128 F 5 (v := x5_4376 + 1) (lo' := [some (vR G 163), some (vI a1), some (vI a2), some (vI a3), none, some (vI (x5_4376 + 1)), none, none]) dX12_runs_125 rfl (by omega) (by decide) rfl rfl rfl ?_
                  refine kx_goto 99 F dX12_runs_128 (by decide) ?_
                  have hp_5225 : WB N_5224 0 := WB.st hp_4383 hM_N_5224 kd_177 rfl rfl
                  exact ih_4380 _ (by omega) (x5_4376 + 1) N_5224 hI_N_5224 hF_N_5224 (WB.mono hp_5225 (by omega)) (by omega) rfl
                · refine kx_lconst 120 (z := 1) F dX12_runs_119 (by decide) rfl ?_
                  refine kx_goto 124 F dX12_runs_120 (by decide) ?_
                  refine kx_last 125 F kd_177 rfl rfl (by omega) (by decide) dX12_runs_124 rfl ?_
                  intro N_5226 hM_N_5226
                  have hI_N_5226 : Inv true N_5226 := Inv.u hI_N_4377 hM_N_5226 kd_177 (a := (-9223372036854775808)) (b := 9223372036854775807) rfl rfl rfl (by omega)
                  have hF_N_5226 : Fr f_e_runs3m M N_5226 := Fr.u hF_N_4377 hM_N_5226 kd_177 rfl
                  refine kx_iinc 128 F 5 (v := x5_4376 + 1) (lo' := [some (vR G 163), some (vI a1), some (vI a2), some (vI a3), none, some (vI (x5_4376 + 1)), none, none]) dX12_runs_125 rfl (by omega) (by decide) rfl rfl rfl ?_
                  refine kx_goto 99 F dX12_runs_128 (by decide) ?_
                  have hp_5227 : WB N_5226 0 := WB.st hp_4383 hM_N_5226 kd_177 rfl rfl
                  exact ih_4380 _ (by omega) (x5_4376 + 1) N_5226 hI_N_5226 hF_N_5226 (WB.mono hp_5227 (by omega)) (by omega) rfl
            exact L_4378 _ 0 N_2651 hI_N_2651 hF_N_2651 (WB.mono hp_2657 (by omega)) (by omega) rfl
          · refine kx_aload_n 64 F 0 dX12_runs_63 rfl rfl rfl ?_
            refine kx_getr 67 F fl_X12_59 kd_163 rfl rfl (j := 25) rfl dX12_runs_64 (v := 176) (uq_176 (Inv.r hI_N_2651 kd_163 rfl 25 rfl rfl)) rfl ?_
            refine kx_iload 69 F 5 dX12_runs_67 rfl rfl ?_
            refine kx_aload_n 70 F 0 dX12_runs_69 rfl rfl rfl ?_
            refine kx_aload_n 71 F 0 dX12_runs_70 rfl rfl rfl ?_
            refine kx_iload_n 72 F 1 dX12_runs_71 rfl rfl rfl ?_
            refine kx_iconst 73 F dX12_runs_72 rfl ?_
            refine kx_Vi 76 (ci := 0) F (As := [vI a1, vI 2]) (st := [vR G 163, vI x5_2650, vR G 176]) vd_X12_288 (e_of2 G l N_2651 a1 2 hI_N_2651 (by omega)) kd_163 rfl rfl rfl ⟨by decide, by decide⟩ rfl rfl (Nat.le_of_ble_eq_true rfl) dX12_runs_73 rfl ?_
            intro r_5228 N_5229 q_5230
            obtain ⟨rfl, q_5230c⟩ := q_5230
            have e_5231 : (N_2651 164 (85 * a1 + 102)) = (M 164 (85 * a1 + 102)) := by rw [Fr.e hF_N_2651 kd_164 _ rfl]
            refine kx_topi (e' := (N_2651 164 (85 * a1 + 102))) (by omega) ?_
            refine kx_iload 78 F 5 dX12_runs_76 rfl rfl ?_
            refine kx_Vi 81 (ci := 0) F (As := [vI (N_2651 164 (85 * a1 + 102)), vI x5_2650]) (st := [vI x5_2650, vR G 176]) vd_X12_239 (e_X12_isIn G l N_2651 (N_2651 164 (85 * a1 + 102)) x5_2650 hI_N_2651 (by omega)) kd_163 rfl rfl rfl ⟨by decide, by decide⟩ rfl rfl (Nat.le_of_ble_eq_true rfl) dX12_runs_78 rfl ?_
            intro r_5233 N_5234 q_5235
            obtain ⟨rfl, q_5235c⟩ := q_5235
            rcases q_5235c with q_5235c | q_5235c
            · refine kx_if_eq 84 F 88 dX12_runs_81 (by decide) rfl (by omega) (fun h_5236 => (by exfalso; omega)) (fun h_5236 => ?_)
              refine kx_lconst 85 (z := 1) F dX12_runs_84 (by decide) rfl ?_
              refine kx_goto 89 F dX12_runs_85 (by decide) ?_
              refine kx_last 90 F kd_176 rfl rfl (by omega) (by decide) dX12_runs_89 rfl ?_
              intro N_5237 hM_N_5237
              have hI_N_5237 : Inv true N_5237 := Inv.u hI_N_2651 hM_N_5237 kd_176 (a := (-9223372036854775808)) (b := 9223372036854775807) rfl rfl rfl (by omega)
              have hF_N_5237 : Fr f_e_runs3m M N_5237 := Fr.u hF_N_2651 hM_N_5237 kd_176 rfl
              refine kx_iinc 93 F 5 (v := x5_2650 + 1) (lo' := [some (vR G 163), some (vI a1), some (vI a2), some (vI a3), none, some (vI (x5_2650 + 1)), none, none]) dX12_runs_90 rfl (by omega) (by decide) rfl rfl rfl ?_
              refine kx_goto 57 F dX12_runs_93 (by decide) ?_
              have hp_5238 : WB N_5237 0 := WB.st hp_2657 hM_N_5237 kd_176 rfl rfl
              exact ih_2654 _ (by omega) (x5_2650 + 1) N_5237 hI_N_5237 hF_N_5237 (WB.mono hp_5238 (by omega)) (by omega) rfl
            · refine kx_if_eq 84 F 88 dX12_runs_81 (by decide) rfl (by omega) (fun h_5239 => ?_) (fun h_5239 => (by exfalso; omega))
              refine kx_lconst 89 (z := 0) F dX12_runs_88 (by decide) rfl ?_
              refine kx_last 90 F kd_176 rfl rfl (by omega) (by decide) dX12_runs_89 rfl ?_
              intro N_5240 hM_N_5240
              have hI_N_5240 : Inv true N_5240 := Inv.u hI_N_2651 hM_N_5240 kd_176 (a := (-9223372036854775808)) (b := 9223372036854775807) rfl rfl rfl (by omega)
              have hF_N_5240 : Fr f_e_runs3m M N_5240 := Fr.u hF_N_2651 hM_N_5240 kd_176 rfl
              refine kx_iinc 93 F 5 (v := x5_2650 + 1) (lo' := [some (vR G 163), some (vI a1), some (vI a2), some (vI a3), none, some (vI (x5_2650 + 1)), none, none]) dX12_runs_90 rfl (by omega) (by decide) rfl rfl rfl ?_
              refine kx_goto 57 F dX12_runs_93 (by decide) ?_
              have hp_5241 : WB N_5240 0 := WB.st hp_2657 hM_N_5240 kd_176 rfl rfl
              exact ih_2654 _ (by omega) (x5_2650 + 1) N_5240 hI_N_5240 hF_N_5240 (WB.mono hp_5241 (by omega)) (by omega) rfl
        refine kx_drop 4 (lo' := [some (vR G 163), some (vI a1), some (vI a2), some (vI a3), none, some (vI 0), none, none]) rfl ?_
        exact L_2652 _ 0 N_20 hI_N_20 hF_N_20 (WB.mono hp_22 (by omega)) (by omega) rfl
      · refine kx_istore 31 F 4 (lo' := [some (vR G 163), some (vI a1), some (vI a2), some (vI a3), some (vI r_14), none, none, none]) dX12_runs_29 (by decide) rfl rfl rfl ?_
        refine kx_iload 33 F 4 dX12_runs_31 rfl rfl ?_
        refine kx_if_le 36 F 43 dX12_runs_33 (by decide) rfl (by omega) (fun h_5242 => (by exfalso; omega)) (fun h_5242 => ?_)
        refine kx_aload_n 37 F 0 dX12_runs_36 rfl rfl rfl ?_
        refine kx_iload 39 F 4 dX12_runs_37 rfl rfl ?_
        refine kx_Vi 42 (ci := 0) F (As := [vI r_14]) (st := []) vd_X12_130 (c_X12_is G l M r_14 hI_M (by omega)) kd_163 rfl rfl rfl ⟨by decide, by decide⟩ rfl rfl (Nat.le_of_ble_eq_true rfl) dX12_runs_39 rfl ?_
        intro r_5243 N_5244 q_5245
        obtain ⟨hI_N_5244, hG_N_5244, q_5245c⟩ := q_5245
        have hF_N_5244 : Fr f_e_runs3m M N_5244 := Fr.c hF_M hG_N_5244 rfl
        rcases q_5245c with q_5245c | q_5245c
        · exfalso; omega
        · exact kx_zret F hQ (by omega) ⟨hI_N_5244, hF_N_5244, (by omega), (Or.inr ⟨fun h => (zWR.n hz_N_15.2 (by omega)) ⟨rfl, h.2.2⟩, by omega⟩)⟩ dX12_runs_42
    · refine kx_if_ne 17 F 23 dX12_runs_14 (by decide) rfl (by omega) (fun h_5246 => (by exfalso; omega)) (fun h_5246 => ?_)
      refine kx_aload_n 18 F 0 dX12_runs_17 rfl rfl rfl ?_
      refine kx_iconst 19 F dX12_runs_18 rfl ?_
      refine kx_Vi 22 (ci := 0) F (As := [vI 1]) (st := []) vd_X12_130 (c_X12_is G l M 1 hI_M (by omega)) kd_163 rfl rfl rfl ⟨by decide, by decide⟩ rfl rfl (Nat.le_of_ble_eq_true rfl) dX12_runs_19 rfl ?_
      intro r_5247 N_5248 q_5249
      obtain ⟨hI_N_5248, hG_N_5248, q_5249c⟩ := q_5249
      have hF_N_5248 : Fr f_e_runs3m M N_5248 := Fr.c hF_M hG_N_5248 rfl
      rcases q_5249c with q_5249c | q_5249c
      · exfalso; omega
      · exact kx_zret F hQ (by omega) ⟨hI_N_5248, hF_N_5248, (by omega), (Or.inr ⟨fun h => by have h1 := h.1; have h2 := h.2.1; have h3 := h.2.2.1; have h4 := h.2.2.2.1; have h5 := h.2.2.2.2.1; have h6 := h.2.2.2.2.2.1; clear h; omega, by omega⟩)⟩ dX12_runs_22
    · refine kx_if_ne 17 F 23 dX12_runs_14 (by decide) rfl (by omega) (fun h_5250 => (by exfalso; omega)) (fun h_5250 => ?_)
      refine kx_aload_n 18 F 0 dX12_runs_17 rfl rfl rfl ?_
      refine kx_iconst 19 F dX12_runs_18 rfl ?_
      refine kx_Vi 22 (ci := 0) F (As := [vI 1]) (st := []) vd_X12_130 (c_X12_is G l M 1 hI_M (by omega)) kd_163 rfl rfl rfl ⟨by decide, by decide⟩ rfl rfl (Nat.le_of_ble_eq_true rfl) dX12_runs_19 rfl ?_
      intro r_5251 N_5252 q_5253
      obtain ⟨hI_N_5252, hG_N_5252, q_5253c⟩ := q_5253
      have hF_N_5252 : Fr f_e_runs3m M N_5252 := Fr.c hF_M hG_N_5252 rfl
      rcases q_5253c with q_5253c | q_5253c
      · exfalso; omega
      · exact kx_zret F hQ (by omega) ⟨hI_N_5252, hF_N_5252, (by omega), (Or.inr ⟨fun h => by have h1 := h.1; have h2 := h.2.1; have h3 := h.2.2.1; have h4 := h.2.2.2.1; have h5 := h.2.2.2.2.1; have h6 := h.2.2.2.2.2.1; clear h; omega, by omega⟩)⟩ dX12_runs_22
    · refine kx_if_ne 17 F 23 dX12_runs_14 (by decide) rfl (by omega) (fun h_5254 => (by exfalso; omega)) (fun h_5254 => ?_)
      refine kx_aload_n 18 F 0 dX12_runs_17 rfl rfl rfl ?_
      refine kx_iconst 19 F dX12_runs_18 rfl ?_
      refine kx_Vi 22 (ci := 0) F (As := [vI 1]) (st := []) vd_X12_130 (c_X12_is G l M 1 hI_M (by omega)) kd_163 rfl rfl rfl ⟨by decide, by decide⟩ rfl rfl (Nat.le_of_ble_eq_true rfl) dX12_runs_19 rfl ?_
      intro r_5255 N_5256 q_5257
      obtain ⟨hI_N_5256, hG_N_5256, q_5257c⟩ := q_5257
      have hF_N_5256 : Fr f_e_runs3m M N_5256 := Fr.c hF_M hG_N_5256 rfl
      rcases q_5257c with q_5257c | q_5257c
      · exfalso; omega
      · exact kx_zret F hQ (by omega) ⟨hI_N_5256, hF_N_5256, (by omega), (Or.inr ⟨fun h => by have h1 := h.1; have h2 := h.2.1; have h3 := h.2.2.1; have h4 := h.2.2.2.1; have h5 := h.2.2.2.2.1; have h6 := h.2.2.2.2.2.1; clear h; omega, by omega⟩)⟩ dX12_runs_22
    · refine kx_if_ne 17 F 23 dX12_runs_14 (by decide) rfl (by omega) (fun h_5258 => (by exfalso; omega)) (fun h_5258 => ?_)
      refine kx_aload_n 18 F 0 dX12_runs_17 rfl rfl rfl ?_
      refine kx_iconst 19 F dX12_runs_18 rfl ?_
      refine kx_Vi 22 (ci := 0) F (As := [vI 1]) (st := []) vd_X12_130 (c_X12_is G l M 1 hI_M (by omega)) kd_163 rfl rfl rfl ⟨by decide, by decide⟩ rfl rfl (Nat.le_of_ble_eq_true rfl) dX12_runs_19 rfl ?_
      intro r_5259 N_5260 q_5261
      obtain ⟨hI_N_5260, hG_N_5260, q_5261c⟩ := q_5261
      have hF_N_5260 : Fr f_e_runs3m M N_5260 := Fr.c hF_M hG_N_5260 rfl
      rcases q_5261c with q_5261c | q_5261c
      · exfalso; omega
      · exact kx_zret F hQ (by omega) ⟨hI_N_5260, hF_N_5260, (by omega), (Or.inr ⟨fun h => by have h1 := h.1; have h2 := h.2.1; have h3 := h.2.2.1; have h4 := h.2.2.2.1; have h5 := h.2.2.2.2.1; have h6 := h.2.2.2.2.2.1; clear h; omega, by omega⟩)⟩ dX12_runs_22
  · refine kx_if_eq 8 F 17 dX12_runs_5 (by decide) rfl (by omega) (fun h_5262 => ?_) (fun h_5262 => (by exfalso; omega))
    refine kx_aload_n 18 F 0 dX12_runs_17 rfl rfl rfl ?_
    refine kx_iconst 19 F dX12_runs_18 rfl ?_
    refine kx_Vi 22 (ci := 0) F (As := [vI 1]) (st := []) vd_X12_130 (c_X12_is G l M 1 hI_M (by omega)) kd_163 rfl rfl rfl ⟨by decide, by decide⟩ rfl rfl (Nat.le_of_ble_eq_true rfl) dX12_runs_19 rfl ?_
    intro r_5263 N_5264 q_5265
    obtain ⟨hI_N_5264, hG_N_5264, q_5265c⟩ := q_5265
    have hF_N_5264 : Fr f_e_runs3m M N_5264 := Fr.c hF_M hG_N_5264 rfl
    rcases q_5265c with q_5265c | q_5265c
    · exfalso; omega
    · exact kx_zret F hQ (by omega) ⟨hI_N_5264, hF_N_5264, (by omega), (Or.inr ⟨fun h => by have h1 := h.1; have h2 := h.2.1; have h3 := h.2.2.1; have h4 := h.2.2.2.1; have h5 := h.2.2.2.2.1; have h6 := h.2.2.2.2.2.1; clear h; omega, by omega⟩)⟩ dX12_runs_22
  · refine kx_if_eq 8 F 17 dX12_runs_5 (by decide) rfl (by omega) (fun h_5266 => ?_) (fun h_5266 => (by exfalso; omega))
    refine kx_aload_n 18 F 0 dX12_runs_17 rfl rfl rfl ?_
    refine kx_iconst 19 F dX12_runs_18 rfl ?_
    refine kx_Vi 22 (ci := 0) F (As := [vI 1]) (st := []) vd_X12_130 (c_X12_is G l M 1 hI_M (by omega)) kd_163 rfl rfl rfl ⟨by decide, by decide⟩ rfl rfl (Nat.le_of_ble_eq_true rfl) dX12_runs_19 rfl ?_
    intro r_5267 N_5268 q_5269
    obtain ⟨hI_N_5268, hG_N_5268, q_5269c⟩ := q_5269
    have hF_N_5268 : Fr f_e_runs3m M N_5268 := Fr.c hF_M hG_N_5268 rfl
    rcases q_5269c with q_5269c | q_5269c
    · exfalso; omega
    · exact kx_zret F hQ (by omega) ⟨hI_N_5268, hF_N_5268, (by omega), (Or.inr ⟨fun h => by have h1 := h.1; have h2 := h.2.1; have h3 := h.2.2.1; have h4 := h.2.2.2.1; have h5 := h.2.2.2.2.1; have h6 := h.2.2.2.2.2.1; clear h; omega, by omega⟩)⟩ dX12_runs_22
abbrev f_e_share3m : List (Nat × Int) := [(64, 2), (64, 3), (64, 4), (64, 48), (72, -1), (73, -1), (74, -1), (75, -1), (76, -1), (89, -1), (90, -1)]
set_option maxHeartbeats 4000000 in
set_option maxRecDepth 100000 in
theorem e_share3m (G : KG) (l : Launch) (M : Mem) (a1 : Int) (a2 : Int) (hI_M : Inv true M) (hpre : -2147483648 ≤ a1 ∧ a1 ≤ 2147483647 ∧ -2147483648 ≤ a2 ∧ a2 ≤ 2147483647) (q : Int → Int) (hS : zRN (M 164) q) (hU : zRU (M 164) q) : KC true G l yX12_share cX12_share 6 (some .boolean) (5, 132) [vR G 163, vI a1, vI a2] M (fun A => kQi true G A (fun (r : Int) (N : Mem) => Inv true N ∧ Fr f_e_share3m M N ∧ (r ≥ 0 ∧ r ≤ 1) ∧ (zSHR q a1 a2 (M 164 0 + M 164 1 + M 164 2) r))) := by
  refine kx_met (lo := [some (vR G 163), some (vI a1), some (vI a2), none, none, none]) (by decide) (Nat.le_of_ble_eq_true rfl) rfl ?_
  intro X F hQ
  have hF_M : Fr f_e_share3m M M := Fr.rf _ _
  have hSn := hS.u
  have h_1 := Inv.g hI_M kd_164 rfl 0 (a := 0) (b := 2) (at_c 0 0 (o := 0) (lo := 0) (hi := 2) (by omega) (by decide) (by decide) (by decide)).1 (at_c 0 0 (o := 0) (lo := 0) (hi := 2) (by omega) (by decide) (by decide) (by decide)).2
  have h_2 := Inv.g hI_M kd_164 rfl 1 (a := 0) (b := 2) (at_c 1 0 (o := 1) (lo := 0) (hi := 2) (by omega) (by decide) (by decide) (by decide)).1 (at_c 1 0 (o := 1) (lo := 0) (hi := 2) (by omega) (by decide) (by decide) (by decide)).2
  have h_3 := Inv.g hI_M kd_164 rfl 2 (a := 0) (b := 2) (at_c 2 0 (o := 2) (lo := 0) (hi := 2) (by omega) (by decide) (by decide) (by decide)).1 (at_c 2 0 (o := 2) (lo := 0) (hi := 2) (by omega) (by decide) (by decide) (by decide)).2
  have ha_4 : atlo 3 = 0 ∧ athi 3 = 2 := at_c 3 0 (o := 3) (lo := 0) (hi := 2) (by omega) (by decide) (by decide) (by decide)
  have h_5 := Inv.g hI_M kd_164 rfl 3 (a := 0) (b := 2) ha_4.1 ha_4.2
  refine kx_aload_n 1 F 0 dX12_share_0 rfl rfl rfl ?_
  refine kx_iload_n 2 F 1 dX12_share_1 rfl rfl rfl ?_
  refine kx_iload_n 3 F 2 dX12_share_2 rfl rfl rfl ?_
  refine kx_iconst 4 F dX12_share_3 rfl ?_
  refine kx_Vi 7 (ci := 0) F (As := [vI a1, vI a2, vI 0]) (st := []) vd_X12_508 (e_isCount3 G l M a1 a2 0 hI_M (by omega)) kd_163 rfl rfl rfl ⟨by decide, by decide⟩ rfl rfl (Nat.le_of_ble_eq_true rfl) dX12_share_4 rfl ?_
  intro r_6 N_7 q_8
  obtain ⟨rfl, q_8c⟩ := q_8
  rcases q_8c with q_8c | q_8c | q_8c | q_8c | q_8c
  · refine kx_if_ne 10 F 16 dX12_share_7 (by decide) rfl (by omega) (fun h_9 => ?_) (fun h_9 => (by exfalso; omega))
    refine kx_lconst 17 (z := 1) F dX12_share_16 (by decide) rfl ?_
    refine kx_lstore_n 18 F 3 (lo' := [some (vR G 163), some (vI a1), some (vI a2), some (vL 1), none, none]) dX12_share_17 rfl (by decide) rfl rfl rfl ?_
    refine kx_iconst 19 F dX12_share_18 rfl ?_
    refine kx_istore 21 F 5 (lo' := [some (vR G 163), some (vI a1), some (vI a2), some (vL 1), none, some (vI 0)]) dX12_share_19 (by decide) rfl rfl rfl ?_
    have L_183 : ∀ (n_184 : Nat) (x3_181 : Int) (x5_182 : Int), zPW (M 164 0 + M 164 1 + M 164 2) x5_182 x3_181 → (-9223372036854775808) ≤ x3_181 ∧ x3_181 ≤ 9223372036854775807 ∧ 0 ≤ x5_182 ∧ x5_182 ≤ 6 ∧ x5_182 ≤ a2 → (6 - (x5_182)).toNat = n_184 → KJ true G X M 21 [some (vR G 163), some (vI a1), some (vI a2), some (vL x3_181), none, some (vI x5_182)] [] := by
      intro n_184
      refine Nat.strongRecOn n_184 ?_
      intro n_184 ih_185 x3_181 x5_182 hp_188 h_186 hm_187
      refine kx_iload 23 F 5 dX12_share_21 rfl rfl ?_
      refine kx_iload_n 24 F 2 dX12_share_23 rfl rfl rfl ?_
      refine kx_icmp_ge 27 F 41 dX12_share_24 (by decide) rfl (by omega) (by omega) (fun h_189 => ?_) (fun h_189 => ?_)
      · have hpe := zPW.end (n := a2) hp_188 (by omega) (by omega) (by omega)
        refine kx_lload_n 42 F 3 dX12_share_41 rfl rfl rfl ?_
        refine kx_lconst 43 (z := 0) F dX12_share_42 (by decide) rfl ?_
        refine kx_lcmp 44 F dX12_share_43 (by omega) (by omega) rfl (fun w_190 h_191 => ?_)
        refine kx_if_ne 47 F 54 dX12_share_44 (by decide) rfl (by omega) (fun h_192 => ?_) (fun h_192 => ?_)
        · refine kx_aload_n 55 F 0 dX12_share_54 rfl rfl rfl ?_
          refine kx_aload_n 56 F 0 dX12_share_55 rfl rfl rfl ?_
          refine kx_iload_n 57 F 1 dX12_share_56 rfl rfl rfl ?_
          refine kx_iconst 58 F dX12_share_57 rfl ?_
          refine kx_iload_n 59 F 2 dX12_share_58 rfl rfl rfl ?_
          refine kx_iconst 60 F dX12_share_59 rfl ?_
          refine kx_iconst 61 F dX12_share_60 rfl ?_
          refine kx_iconst 62 F dX12_share_61 rfl ?_
          refine kx_Vi 65 (ci := 0) F (As := [vI a1, vI 2, vI a2, vI 1, vI 0, vI 0]) (st := [vR G 163]) vd_X12_492 (c_X12_laysWords G l M a1 2 a2 1 0 0 hI_M (by omega)) kd_163 rfl rfl rfl ⟨by decide, by decide⟩ rfl rfl (Nat.le_of_ble_eq_true rfl) dX12_share_62 rfl ?_
          intro r_193 N_194 q_195
          obtain ⟨hI_N_194, hG_N_194, q_195c⟩ := q_195
          have hF_N_194 : Fr f_e_share3m M N_194 := Fr.c hF_M hG_N_194 rfl
          refine kx_i2l 66 F dX12_share_65 (by omega) rfl ?_
          refine kx_lload_n 67 F 3 dX12_share_66 rfl rfl rfl ?_
          refine kx_Vi 70 (ci := 0) F (As := [vL r_193, vL x3_181]) (st := []) vd_X12_384 (e_tellsBy3 G l N_194 r_193 x3_181 hI_N_194 (by omega)) kd_163 rfl rfl rfl ⟨by decide, by decide⟩ rfl rfl (Nat.le_of_ble_eq_true rfl) dX12_share_67 rfl ?_
          intro r_196 N_197 q_198
          obtain ⟨hI_N_197, hG_N_197, q_198c⟩ := q_198
          have hF_N_197 : Fr f_e_share3m M N_197 := Fr.c hF_N_194 hG_N_197 rfl
          subst q_198c
          exact kx_zret F hQ (by omega) ⟨hI_N_197, hF_N_197, (by omega), (Or.inl ⟨by omega, by omega, by omega, by omega, hpe.2 (by omega), by omega⟩)⟩ dX12_share_70
        · refine kx_aload_n 48 F 0 dX12_share_47 rfl rfl rfl ?_
          refine kx_bipush 50 F dX12_share_48 (by decide) rfl ?_
          refine kx_Vi 53 (ci := 0) F (As := [vI 6]) (st := []) vd_X12_130 (c_X12_is G l M 6 hI_M (by omega)) kd_163 rfl rfl rfl ⟨by decide, by decide⟩ rfl rfl (Nat.le_of_ble_eq_true rfl) dX12_share_50 rfl ?_
          intro r_199 N_200 q_201
          obtain ⟨hI_N_200, hG_N_200, q_201c⟩ := q_201
          have hF_N_200 : Fr f_e_share3m M N_200 := Fr.c hF_M hG_N_200 rfl
          rcases q_201c with q_201c | q_201c
          · exfalso; omega
          · exact kx_zret F hQ (by omega) ⟨hI_N_200, hF_N_200, (by omega), (Or.inr ⟨Or.inr (Or.inr (Or.inr (Or.inr (hpe.1 (by omega))))), by omega⟩)⟩ dX12_share_53
      · have hpw := zPW.rng hp_188 (by omega) (by omega)
        refine kx_lload_n 28 F 3 dX12_share_27 rfl rfl rfl ?_
        refine kx_aload_n 29 F 0 dX12_share_28 rfl rfl rfl ?_
        refine kx_Vi 32 (ci := 0) F (As := []) (st := [vL x3_181]) vd_X12_285 (e_lettersX G l M  hI_M) kd_163 rfl rfl rfl ⟨by decide, by decide⟩ rfl rfl (Nat.le_of_ble_eq_true rfl) dX12_share_29 rfl ?_
        intro r_202 N_203 q_204
        obtain ⟨rfl, q_204c⟩ := q_204
        refine kx_topi (e' := (M 164 0) + (M 164 1) + (M 164 2)) (by omega) ?_
        refine kx_i2l 33 F dX12_share_32 (by omega) rfl ?_
        refine kx_lmul 34 F (v := (x3_181 * ((M 164 0) + (M 164 1) + (M 164 2)))) dX12_share_33 rfl rfl ?_
        have h_205 : 0 ≤ (x3_181 * ((M 164 0) + (M 164 1) + (M 164 2))) ∧ (x3_181 * ((M 164 0) + (M 164 1) + (M 164 2))) ≤ 46656 := mul_rng (a := x3_181) (b := (M 164 0) + (M 164 1) + (M 164 2)) 7776 6 (by omega) (by omega) (by decide)
        refine kx_lstore_n 35 F 3 (lo' := [some (vR G 163), some (vI a1), some (vI a2), some (vL (x3_181 * ((M 164 0) + (M 164 1) + (M 164 2)))), none, some (vI x5_182)]) dX12_share_34 rfl (by decide) rfl rfl rfl ?_
        refine kx_iinc 38 F 5 (v := x5_182 + 1) (lo' := [some (vR G 163), some (vI a1), some (vI a2), some (vL (x3_181 * ((M 164 0) + (M 164 1) + (M 164 2)))), none, some (vI (x5_182 + 1))]) dX12_share_35 rfl (by omega) (by decide) rfl rfl rfl ?_
        refine kx_goto 21 F dX12_share_38 (by decide) ?_
        exact ih_185 _ (by omega) (x3_181 * ((M 164 0) + (M 164 1) + (M 164 2))) (x5_182 + 1) (zPW.step hp_188 (by omega) (by omega)) (by omega) rfl
    exact L_183 _ 1 0 zPW.nil (by omega) rfl
  · refine kx_if_ne 10 F 16 dX12_share_7 (by decide) rfl (by omega) (fun h_206 => (by exfalso; omega)) (fun h_206 => ?_)
    refine kx_aload_n 11 F 0 dX12_share_10 rfl rfl rfl ?_
    refine kx_iconst 12 F dX12_share_11 rfl ?_
    refine kx_Vi 15 (ci := 0) F (As := [vI 1]) (st := []) vd_X12_130 (c_X12_is G l M 1 hI_M (by omega)) kd_163 rfl rfl rfl ⟨by decide, by decide⟩ rfl rfl (Nat.le_of_ble_eq_true rfl) dX12_share_12 rfl ?_
    intro r_207 N_208 q_209
    obtain ⟨hI_N_208, hG_N_208, q_209c⟩ := q_209
    have hF_N_208 : Fr f_e_share3m M N_208 := Fr.c hF_M hG_N_208 rfl
    rcases q_209c with q_209c | q_209c
    · exfalso; omega
    · exact kx_zret F hQ (by omega) ⟨hI_N_208, hF_N_208, (by omega), (Or.inr ⟨by omega, by omega⟩)⟩ dX12_share_15
  · refine kx_if_ne 10 F 16 dX12_share_7 (by decide) rfl (by omega) (fun h_210 => (by exfalso; omega)) (fun h_210 => ?_)
    refine kx_aload_n 11 F 0 dX12_share_10 rfl rfl rfl ?_
    refine kx_iconst 12 F dX12_share_11 rfl ?_
    refine kx_Vi 15 (ci := 0) F (As := [vI 1]) (st := []) vd_X12_130 (c_X12_is G l M 1 hI_M (by omega)) kd_163 rfl rfl rfl ⟨by decide, by decide⟩ rfl rfl (Nat.le_of_ble_eq_true rfl) dX12_share_12 rfl ?_
    intro r_211 N_212 q_213
    obtain ⟨hI_N_212, hG_N_212, q_213c⟩ := q_213
    have hF_N_212 : Fr f_e_share3m M N_212 := Fr.c hF_M hG_N_212 rfl
    rcases q_213c with q_213c | q_213c
    · exfalso; omega
    · exact kx_zret F hQ (by omega) ⟨hI_N_212, hF_N_212, (by omega), (Or.inr ⟨by omega, by omega⟩)⟩ dX12_share_15
  · refine kx_if_ne 10 F 16 dX12_share_7 (by decide) rfl (by omega) (fun h_214 => (by exfalso; omega)) (fun h_214 => ?_)
    refine kx_aload_n 11 F 0 dX12_share_10 rfl rfl rfl ?_
    refine kx_iconst 12 F dX12_share_11 rfl ?_
    refine kx_Vi 15 (ci := 0) F (As := [vI 1]) (st := []) vd_X12_130 (c_X12_is G l M 1 hI_M (by omega)) kd_163 rfl rfl rfl ⟨by decide, by decide⟩ rfl rfl (Nat.le_of_ble_eq_true rfl) dX12_share_12 rfl ?_
    intro r_215 N_216 q_217
    obtain ⟨hI_N_216, hG_N_216, q_217c⟩ := q_217
    have hF_N_216 : Fr f_e_share3m M N_216 := Fr.c hF_M hG_N_216 rfl
    rcases q_217c with q_217c | q_217c
    · exfalso; omega
    · exact kx_zret F hQ (by omega) ⟨hI_N_216, hF_N_216, (by omega), (Or.inr ⟨by omega, by omega⟩)⟩ dX12_share_15
  · refine kx_if_ne 10 F 16 dX12_share_7 (by decide) rfl (by omega) (fun h_218 => (by exfalso; omega)) (fun h_218 => ?_)
    refine kx_aload_n 11 F 0 dX12_share_10 rfl rfl rfl ?_
    refine kx_iconst 12 F dX12_share_11 rfl ?_
    refine kx_Vi 15 (ci := 0) F (As := [vI 1]) (st := []) vd_X12_130 (c_X12_is G l M 1 hI_M (by omega)) kd_163 rfl rfl rfl ⟨by decide, by decide⟩ rfl rfl (Nat.le_of_ble_eq_true rfl) dX12_share_12 rfl ?_
    intro r_219 N_220 q_221
    obtain ⟨hI_N_220, hG_N_220, q_221c⟩ := q_221
    have hF_N_220 : Fr f_e_share3m M N_220 := Fr.c hF_M hG_N_220 rfl
    rcases q_221c with q_221c | q_221c
    · exfalso; omega
    · exact kx_zret F hQ (by omega) ⟨hI_N_220, hF_N_220, (by omega), (Or.inr ⟨by omega, by omega⟩)⟩ dX12_share_15
abbrev f_e_chance3m : List (Nat × Int) := [(64, 2), (64, 3), (64, 4), (64, 49), (72, -1), (73, -1), (74, -1), (75, -1), (76, -1)]
set_option maxHeartbeats 4000000 in
set_option maxRecDepth 100000 in
theorem e_chance3m (G : KG) (l : Launch) (M : Mem) (a1 : Int) (a2 : Int) (a3 : Int) (a4 : Int) (hI_M : Inv true M) (hpre : -2147483648 ≤ a1 ∧ a1 ≤ 2147483647 ∧ -2147483648 ≤ a2 ∧ a2 ≤ 2147483647 ∧ -2147483648 ≤ a3 ∧ a3 ≤ 2147483647 ∧ -2147483648 ≤ a4 ∧ a4 ≤ 2147483647) (q : Int → Int) (hS : zRN (M 164) q) (hU : zRU (M 164) q) : KC true G l yX12_chance cX12_chance 8 (some .boolean) (4, 103) [vR G 163, vI a1, vI a2, vI a3, vI a4] M (fun A => kQi true G A (fun (r : Int) (N : Mem) => Inv true N ∧ Fr f_e_chance3m M N ∧ (r ≥ 0 ∧ r ≤ 1) ∧ (zCHN q a1 a2 a3 a4 (M 164 0 + M 164 1 + M 164 2) r))) := by
  refine kx_met (lo := [some (vR G 163), some (vI a1), some (vI a2), some (vI a3), some (vI a4), none, none, none]) (by decide) (Nat.le_of_ble_eq_true rfl) rfl ?_
  intro X F hQ
  have hF_M : Fr f_e_chance3m M M := Fr.rf _ _
  have hSn := hS.u
  have h_1 := Inv.g hI_M kd_164 rfl 0 (a := 0) (b := 2) (at_c 0 0 (o := 0) (lo := 0) (hi := 2) (by omega) (by decide) (by decide) (by decide)).1 (at_c 0 0 (o := 0) (lo := 0) (hi := 2) (by omega) (by decide) (by decide) (by decide)).2
  have h_2 := Inv.g hI_M kd_164 rfl 1 (a := 0) (b := 2) (at_c 1 0 (o := 1) (lo := 0) (hi := 2) (by omega) (by decide) (by decide) (by decide)).1 (at_c 1 0 (o := 1) (lo := 0) (hi := 2) (by omega) (by decide) (by decide) (by decide)).2
  have h_3 := Inv.g hI_M kd_164 rfl 2 (a := 0) (b := 2) (at_c 2 0 (o := 2) (lo := 0) (hi := 2) (by omega) (by decide) (by decide) (by decide)).1 (at_c 2 0 (o := 2) (lo := 0) (hi := 2) (by omega) (by decide) (by decide) (by decide)).2
  have ha_4 : atlo 3 = 0 ∧ athi 3 = 2 := at_c 3 0 (o := 3) (lo := 0) (hi := 2) (by omega) (by decide) (by decide) (by decide)
  have h_5 := Inv.g hI_M kd_164 rfl 3 (a := 0) (b := 2) ha_4.1 ha_4.2
  refine kx_aload_n 1 F 0 dX12_chance_0 rfl rfl rfl ?_
  refine kx_iload_n 2 F 1 dX12_chance_1 rfl rfl rfl ?_
  refine kx_Vi 5 (ci := 0) F (As := [vI a1]) (st := []) vd_X12_282 (e_X12_isAutomaton G l M a1 hI_M (by omega)) kd_163 rfl rfl rfl ⟨by decide, by decide⟩ rfl rfl (Nat.le_of_ble_eq_true rfl) dX12_chance_2 rfl ?_
  intro r_6 N_7 q_8
  obtain ⟨rfl, q_8c⟩ := q_8
  rcases q_8c with q_8c | q_8c | q_8c
  · refine kx_if_eq 8 F 45 dX12_chance_5 (by decide) rfl (by omega) (fun h_9 => (by exfalso; omega)) (fun h_9 => ?_)
    refine kx_iload_n 9 F 2 dX12_chance_8 rfl rfl rfl ?_
    refine kx_i2l 10 F dX12_chance_9 (by omega) rfl ?_
    refine kx_lconst 11 (z := 0) F dX12_chance_10 (by decide) rfl ?_
    refine kx_ldc2 14 (z := 20) F dX12_chance_11 ct_X12_356 rfl ?_
    refine kx_Si 17 F (As := [vL a2, vL 0, vL 20]) (st := []) sd_X12_338 (e_isFrom3 G l M a2 0 20 hI_M (by omega)) ⟨by decide, by decide⟩ rfl rfl (Nat.le_of_ble_eq_true rfl) dX12_chance_14 rfl ?_
    intro r_10 N_11 q_12
    obtain ⟨rfl, q_12c⟩ := q_12
    rcases q_12c with q_12c | q_12c | q_12c
    · refine kx_if_eq 20 F 45 dX12_chance_17 (by decide) rfl (by omega) (fun h_13 => (by exfalso; omega)) (fun h_13 => ?_)
      refine kx_iload_n 21 F 3 dX12_chance_20 rfl rfl rfl ?_
      refine kx_i2l 22 F dX12_chance_21 (by omega) rfl ?_
      refine kx_lconst 23 (z := 1) F dX12_chance_22 (by decide) rfl ?_
      refine kx_ldc2 26 (z := 50) F dX12_chance_23 ct_X12_520 rfl ?_
      refine kx_Si 29 F (As := [vL a3, vL 1, vL 50]) (st := []) sd_X12_338 (e_isFrom3 G l M a3 1 50 hI_M (by omega)) ⟨by decide, by decide⟩ rfl rfl (Nat.le_of_ble_eq_true rfl) dX12_chance_26 rfl ?_
      intro r_14 N_15 q_16
      obtain ⟨rfl, q_16c⟩ := q_16
      rcases q_16c with q_16c | q_16c | q_16c
      · refine kx_if_eq 32 F 45 dX12_chance_29 (by decide) rfl (by omega) (fun h_17 => (by exfalso; omega)) (fun h_17 => ?_)
        refine kx_iload 34 F 4 dX12_chance_32 rfl rfl ?_
        refine kx_i2l 35 F dX12_chance_34 (by omega) rfl ?_
        refine kx_lconst 36 (z := 0) F dX12_chance_35 (by decide) rfl ?_
        refine kx_ldc2 39 (z := 9999) F dX12_chance_36 ct_X12_515 rfl ?_
        refine kx_Si 42 F (As := [vL a4, vL 0, vL 9999]) (st := []) sd_X12_338 (e_isFrom3 G l M a4 0 9999 hI_M (by omega)) ⟨by decide, by decide⟩ rfl rfl (Nat.le_of_ble_eq_true rfl) dX12_chance_39 rfl ?_
        intro r_18 N_19 q_20
        obtain ⟨rfl, q_20c⟩ := q_20
        rcases q_20c with q_20c | q_20c | q_20c
        · refine kx_if_ne 45 F 51 dX12_chance_42 (by decide) rfl (by omega) (fun h_21 => ?_) (fun h_21 => (by exfalso; omega))
          refine kx_aload_n 52 F 0 dX12_chance_51 rfl rfl rfl ?_
          refine kx_Vi 55 (ci := 0) F (As := []) (st := []) vd_X12_285 (e_lettersX G l M  hI_M) kd_163 rfl rfl rfl ⟨by decide, by decide⟩ rfl rfl (Nat.le_of_ble_eq_true rfl) dX12_chance_52 rfl ?_
          intro r_22 N_23 q_24
          obtain ⟨rfl, q_24c⟩ := q_24
          refine kx_topi (e' := (M 164 0) + (M 164 1) + (M 164 2)) (by omega) ?_
          refine kx_if_ne 58 F 69 dX12_chance_55 (by decide) rfl (by omega) (fun h_25 => ?_) (fun h_25 => ?_)
          · refine kx_iconst 70 F dX12_chance_69 rfl ?_
            refine kx_istore 72 F 5 (lo' := [some (vR G 163), some (vI a1), some (vI a2), some (vI a3), some (vI a4), some (vI 0), none, none]) dX12_chance_70 (by decide) rfl rfl rfl ?_
            refine kx_aload_n 73 F 0 dX12_chance_72 rfl rfl rfl ?_
            refine kx_iload 75 F 4 dX12_chance_73 rfl rfl ?_
            refine kx_puti 78 F fw_X12_511 rfl kd_163 rfl rfl (j := 49) rfl dX12_chance_75 rfl ?_
            intro N_26 hM_N_26
            have hI_N_26 : Inv true N_26 := Inv.u hI_M hM_N_26 kd_163 (a := 0) (b := 65535) rfl rfl rfl (by omega)
            have hF_N_26 : Fr f_e_chance3m M N_26 := Fr.u hF_M hM_N_26 kd_163 rfl
            refine kx_aload_n 79 F 0 dX12_chance_78 rfl rfl rfl ?_
            refine kx_Vv 82 (ci := 0) F (As := []) (st := []) vd_X12_342 (e_laysRules G l N_26  hI_N_26) kd_163 rfl rfl rfl ⟨by decide, by decide⟩ rfl rfl (Nat.le_of_ble_eq_true rfl) dX12_chance_79 rfl ?_
            intro N_27 q_28
            obtain ⟨hI_N_27, hG_N_27, hd_N_27⟩ := q_28
            have hF_N_27 : Fr f_e_chance3m M N_27 := Fr.c hF_N_26 hG_N_27 rfl
            refine kx_iconst 83 F dX12_chance_82 rfl ?_
            refine kx_istore 85 F 6 (lo' := [some (vR G 163), some (vI a1), some (vI a2), some (vI a3), some (vI a4), some (vI 0), some (vI 0), none]) dX12_chance_83 (by decide) rfl rfl rfl ?_
            have L_1870 : ∀ (n_1871 : Nat) (x5_1867 : Int) (x6_1868 : Int) (N_1869 : Mem), Inv true N_1869 → Fr f_e_chance3m M N_1869 → 0 ≤ x5_1867 ∧ x5_1867 ≤ 50 ∧ 0 ≤ x6_1868 ∧ x6_1868 ≤ 50 ∧ x5_1867 ≤ x6_1868 → (50 - (x6_1868)).toNat = n_1871 → KJ true G X N_1869 85 [some (vR G 163), some (vI a1), some (vI a2), some (vI a3), none, some (vI x5_1867), some (vI x6_1868), none] [] := by
              intro n_1871
              refine Nat.strongRecOn n_1871 ?_
              intro n_1871 ih_1872 x5_1867 x6_1868 N_1869 hI_N_1869 hF_N_1869 h_1873 hm_1874
              refine kx_iload 87 F 6 dX12_chance_85 rfl rfl ?_
              refine kx_iload_n 88 F 3 dX12_chance_87 rfl rfl rfl ?_
              refine kx_icmp_ge 91 F 160 dX12_chance_88 (by decide) rfl (by omega) (by omega) (fun h_1875 => ?_) (fun h_1875 => ?_)
              · refine kx_aload_n 161 F 0 dX12_chance_160 rfl rfl rfl ?_
                refine kx_iload 163 F 5 dX12_chance_161 rfl rfl ?_
                refine kx_i2l 164 F dX12_chance_163 (by omega) rfl ?_
                refine kx_iload_n 165 F 3 dX12_chance_164 rfl rfl rfl ?_
                refine kx_i2l 166 F dX12_chance_165 (by omega) rfl ?_
                refine kx_Vi 169 (ci := 0) F (As := [vL x5_1867, vL a3]) (st := []) vd_X12_384 (e_tellsBy3 G l N_1869 x5_1867 a3 hI_N_1869 (by omega)) kd_163 rfl rfl rfl ⟨by decide, by decide⟩ rfl rfl (Nat.le_of_ble_eq_true rfl) dX12_chance_166 rfl ?_
                intro r_1876 N_1877 q_1878
                obtain ⟨hI_N_1877, hG_N_1877, q_1878c⟩ := q_1878
                have hF_N_1877 : Fr f_e_chance3m M N_1877 := Fr.c hF_N_1869 hG_N_1877 rfl
                subst q_1878c
                exact kx_zret F hQ (by omega) ⟨hI_N_1877, hF_N_1877, (by omega), (Or.inl ⟨by omega, by omega, by omega, by omega, by omega, by omega, by omega, by omega, by omega, by omega⟩)⟩ dX12_chance_169
              · refine kx_aload_n 92 F 0 dX12_chance_91 rfl rfl rfl ?_
                refine kx_iload_n 93 F 1 dX12_chance_92 rfl rfl rfl ?_
                refine kx_iconst 94 F dX12_chance_93 rfl ?_
                refine kx_Vv 97 (ci := 0) F (As := [vI a1, vI 0]) (st := []) vd_X12_345 (c_X12_beginsWord G l N_1869 a1 0 hI_N_1869 (by omega)) kd_163 rfl rfl rfl ⟨by decide, by decide⟩ rfl rfl (Nat.le_of_ble_eq_true rfl) dX12_chance_94 rfl ?_
                intro N_1879 q_1880
                obtain ⟨hI_N_1879, hG_N_1879, hw_N_1879⟩ := q_1880
                have hF_N_1879 : Fr f_e_chance3m M N_1879 := Fr.c hF_N_1869 hG_N_1879 rfl
                refine kx_iconst 98 F dX12_chance_97 rfl ?_
                refine kx_istore 100 F 7 (lo' := [some (vR G 163), some (vI a1), some (vI a2), some (vI a3), none, some (vI x5_1867), some (vI x6_1868), some (vI 0)]) dX12_chance_98 (by decide) rfl rfl rfl ?_
                have L_2100 : ∀ (n_2101 : Nat) (x7_2098 : Int) (N_2099 : Mem), Inv true N_2099 → Fr f_e_chance3m M N_2099 → WB N_2099 x7_2098 → 0 ≤ x7_2098 ∧ x7_2098 ≤ 20 → (20 - (x7_2098)).toNat = n_2101 → KJ true G X N_2099 100 [some (vR G 163), some (vI a1), some (vI a2), some (vI a3), none, some (vI x5_1867), some (vI x6_1868), some (vI x7_2098)] [] := by
                  intro n_2101
                  refine Nat.strongRecOn n_2101 ?_
                  intro n_2101 ih_2102 x7_2098 N_2099 hI_N_2099 hF_N_2099 hp_2105 h_2103 hm_2104
                  refine kx_iload 102 F 7 dX12_chance_100 rfl rfl ?_
                  refine kx_iload_n 103 F 2 dX12_chance_102 rfl rfl rfl ?_
                  refine kx_icmp_ge 106 F 128 dX12_chance_103 (by decide) rfl (by omega) (by omega) (fun h_2106 => ?_) (fun h_2106 => ?_)
                  · refine kx_iload 130 F 5 dX12_chance_128 rfl rfl ?_
                    refine kx_aload_n 131 F 0 dX12_chance_130 rfl rfl rfl ?_
                    refine kx_getr 134 F fl_X12_47 kd_163 rfl rfl (j := 21) rfl dX12_chance_131 (v := 172) (uq_172 (Inv.r hI_N_2099 kd_163 rfl 21 rfl rfl)) rfl ?_
                    refine kx_iload_n 135 F 2 dX12_chance_134 rfl rfl rfl ?_
                    refine kx_iald 136 F kd_172 rfl rfl (by omega) (by decide) dX12_chance_135 (v := (N_2099 172 a2)) rfl rfl ?_
                    have h_2107 := Inv.g hI_N_2099 kd_172 rfl a2 (a := 0) (b := 7) rfl rfl
                    refine kx_aload_n 137 F 0 dX12_chance_136 rfl rfl rfl ?_
                    refine kx_iload_n 138 F 1 dX12_chance_137 rfl rfl rfl ?_
                    refine kx_iconst 139 F dX12_chance_138 rfl ?_
                    refine kx_Vi 142 (ci := 0) F (As := [vI a1, vI 3]) (st := [vI (N_2099 172 a2), vI x5_1867]) vd_X12_288 (e_of3 G l N_2099 a1 3 hI_N_2099 (by omega)) kd_163 rfl rfl rfl ⟨by decide, by decide⟩ rfl rfl (Nat.le_of_ble_eq_true rfl) dX12_chance_139 rfl ?_
                    intro r_2108 N_2109 q_2110
                    obtain ⟨rfl, q_2110c⟩ := q_2110
                    have e_2111 : (N_2099 164 (85 * a1 + 103)) = (M 164 (85 * a1 + 103)) := by rw [Fr.e hF_N_2099 kd_164 _ rfl]
                    refine kx_topi (e' := (N_2099 164 (85 * a1 + 103))) (by omega) ?_
                    refine kx_iand 143 F (v := (zand (N_2099 172 a2) (N_2099 164 (85 * a1 + 103)))) dX12_chance_142 rfl rfl ?_
                    have h_2113 := zand_r (a := (N_2099 172 a2)) (b := (N_2099 164 (85 * a1 + 103))) (by omega)
                    refine kx_if_eq 146 F 150 dX12_chance_143 (by decide) rfl (by omega) (fun h_2114 => ?_) (fun h_2114 => ?_)
                    · refine kx_iconst 151 F dX12_chance_150 rfl ?_
                      refine kx_iadd 152 F (v := x5_1867) dX12_chance_151 (by omega) rfl ?_
                      refine kx_istore 154 F 5 (lo' := [some (vR G 163), some (vI a1), some (vI a2), some (vI a3), none, some (vI x5_1867), some (vI x6_1868), some (vI x7_2098)]) dX12_chance_152 (by decide) rfl rfl rfl ?_
                      refine kx_iinc 157 F 6 (v := x6_1868 + 1) (lo' := [some (vR G 163), some (vI a1), some (vI a2), some (vI a3), none, some (vI x5_1867), some (vI (x6_1868 + 1)), some (vI x7_2098)]) dX12_chance_154 rfl (by omega) (by decide) rfl rfl rfl ?_
                      refine kx_goto 85 F dX12_chance_157 (by decide) ?_
                      refine kx_drop 7 (lo' := [some (vR G 163), some (vI a1), some (vI a2), some (vI a3), none, some (vI x5_1867), some (vI (x6_1868 + 1)), none]) rfl ?_
                      exact ih_1872 _ (by omega) x5_1867 (x6_1868 + 1) N_2099 hI_N_2099 hF_N_2099 (by omega) rfl
                    · refine kx_iconst 147 F dX12_chance_146 rfl ?_
                      refine kx_goto 151 F dX12_chance_147 (by decide) ?_
                      refine kx_iadd 152 F (v := x5_1867 + 1) dX12_chance_151 rfl rfl ?_
                      refine kx_istore 154 F 5 (lo' := [some (vR G 163), some (vI a1), some (vI a2), some (vI a3), none, some (vI (x5_1867 + 1)), some (vI x6_1868), some (vI x7_2098)]) dX12_chance_152 (by decide) rfl rfl rfl ?_
                      refine kx_iinc 157 F 6 (v := x6_1868 + 1) (lo' := [some (vR G 163), some (vI a1), some (vI a2), some (vI a3), none, some (vI (x5_1867 + 1)), some (vI (x6_1868 + 1)), some (vI x7_2098)]) dX12_chance_154 rfl (by omega) (by decide) rfl rfl rfl ?_
                      refine kx_goto 85 F dX12_chance_157 (by decide) ?_
                      refine kx_drop 7 (lo' := [some (vR G 163), some (vI a1), some (vI a2), some (vI a3), none, some (vI (x5_1867 + 1)), some (vI (x6_1868 + 1)), none]) rfl ?_
                      exact ih_1872 _ (by omega) (x5_1867 + 1) (x6_1868 + 1) N_2099 hI_N_2099 hF_N_2099 (by omega) rfl
                  · refine kx_aload_n 107 F 0 dX12_chance_106 rfl rfl rfl ?_
                    refine kx_iload_n 108 F 1 dX12_chance_107 rfl rfl rfl ?_
                    refine kx_iconst 109 F dX12_chance_108 rfl ?_
                    refine kx_iload 111 F 7 dX12_chance_109 rfl rfl ?_
                    refine kx_aload_n 112 F 0 dX12_chance_111 rfl rfl rfl ?_
                    refine kx_aload_n 113 F 0 dX12_chance_112 rfl rfl rfl ?_
                    refine kx_Vi 116 (ci := 0) F (As := []) (st := [vR G 163, vI x7_2098, vI 0, vI a1, vR G 163]) vd_X12_285 (e_lettersX G l N_2099  hI_N_2099) kd_163 rfl rfl rfl ⟨by decide, by decide⟩ rfl rfl (Nat.le_of_ble_eq_true rfl) dX12_chance_113 rfl ?_
                    intro r_2115 N_2116 q_2117
                    obtain ⟨rfl, q_2117c⟩ := q_2117
                    have e_2118 : (N_2099 164 0) = (M 164 0) := by rw [Fr.e hF_N_2099 kd_164 _ rfl]
                    have e_2119 : (N_2099 164 1) = (M 164 1) := by rw [Fr.e hF_N_2099 kd_164 _ rfl]
                    have e_2120 : (N_2099 164 2) = (M 164 2) := by rw [Fr.e hF_N_2099 kd_164 _ rfl]
                    refine kx_topi (e' := (N_2099 164 0) + (N_2099 164 1) + (N_2099 164 2)) (by omega) ?_
                    refine kx_Vi 119 (ci := 0) F (As := [vI ((N_2099 164 0) + (N_2099 164 1) + (N_2099 164 2))]) (st := [vI x7_2098, vI 0, vI a1, vR G 163]) vd_X12_517 (e_draw3m G l N_2099 ((N_2099 164 0) + (N_2099 164 1) + (N_2099 164 2)) hI_N_2099 (by omega)) kd_163 rfl rfl rfl ⟨by decide, by decide⟩ rfl rfl (Nat.le_of_ble_eq_true rfl) dX12_chance_116 rfl ?_
                    intro r_2130 N_2131 q_2132
                    obtain ⟨hI_N_2131, hG_N_2131, q_2132c, hd_N_2131⟩ := q_2132
                    have hF_N_2131 : Fr f_e_chance3m M N_2131 := Fr.c hF_N_2099 hG_N_2131 rfl
                    have hp_2133 : WB N_2131 x7_2098 := WB.fr hp_2105 hG_N_2131 rfl rfl
                    refine kx_Vv 122 (ci := 0) F (As := [vI a1, vI 0, vI x7_2098, vI r_2130]) (st := []) vd_X12_352 (c_X12_reads G l N_2131 a1 0 x7_2098 r_2130 hI_N_2131 (by omega) (WB.mono hp_2133 (by omega))) kd_163 rfl rfl rfl ⟨by decide, by decide⟩ rfl rfl (Nat.le_of_ble_eq_true rfl) dX12_chance_119 rfl ?_
                    intro N_2134 q_2135
                    obtain ⟨hI_N_2134, hG_N_2134, hw_N_2134⟩ := q_2135
                    have hF_N_2134 : Fr f_e_chance3m M N_2134 := Fr.c hF_N_2131 hG_N_2134 rfl
                    refine kx_iinc 125 F 7 (v := x7_2098 + 1) (lo' := [some (vR G 163), some (vI a1), some (vI a2), some (vI a3), none, some (vI x5_1867), some (vI x6_1868), some (vI (x7_2098 + 1))]) dX12_chance_122 rfl (by omega) (by decide) rfl rfl rfl ?_
                    refine kx_goto 100 F dX12_chance_125 (by decide) ?_
                    exact ih_2102 _ (by omega) (x7_2098 + 1) N_2134 hI_N_2134 hF_N_2134 (WB.mono hw_N_2134 (by omega)) (by omega) rfl
                exact L_2100 _ 0 N_1879 hI_N_1879 hF_N_1879 (WB.mono hw_N_1879 (by omega)) (by omega) rfl
            refine kx_drop 4 (lo' := [some (vR G 163), some (vI a1), some (vI a2), some (vI a3), none, some (vI 0), some (vI 0), none]) rfl ?_
            exact L_1870 _ 0 0 N_27 hI_N_27 hF_N_27 (by omega) rfl
          · refine kx_iload_n 59 F 2 dX12_chance_58 rfl rfl rfl ?_
            refine kx_if_le 62 F 69 dX12_chance_59 (by decide) rfl (by omega) (fun h_2136 => ?_) (fun h_2136 => ?_)
            · refine kx_iconst 70 F dX12_chance_69 rfl ?_
              refine kx_istore 72 F 5 (lo' := [some (vR G 163), some (vI a1), some (vI a2), some (vI a3), some (vI a4), some (vI 0), none, none]) dX12_chance_70 (by decide) rfl rfl rfl ?_
              refine kx_aload_n 73 F 0 dX12_chance_72 rfl rfl rfl ?_
              refine kx_iload 75 F 4 dX12_chance_73 rfl rfl ?_
              refine kx_puti 78 F fw_X12_511 rfl kd_163 rfl rfl (j := 49) rfl dX12_chance_75 rfl ?_
              intro N_2137 hM_N_2137
              have hI_N_2137 : Inv true N_2137 := Inv.u hI_M hM_N_2137 kd_163 (a := 0) (b := 65535) rfl rfl rfl (by omega)
              have hF_N_2137 : Fr f_e_chance3m M N_2137 := Fr.u hF_M hM_N_2137 kd_163 rfl
              refine kx_aload_n 79 F 0 dX12_chance_78 rfl rfl rfl ?_
              refine kx_Vv 82 (ci := 0) F (As := []) (st := []) vd_X12_342 (e_laysRules G l N_2137  hI_N_2137) kd_163 rfl rfl rfl ⟨by decide, by decide⟩ rfl rfl (Nat.le_of_ble_eq_true rfl) dX12_chance_79 rfl ?_
              intro N_2138 q_2139
              obtain ⟨hI_N_2138, hG_N_2138, hd_N_2138⟩ := q_2139
              have hF_N_2138 : Fr f_e_chance3m M N_2138 := Fr.c hF_N_2137 hG_N_2138 rfl
              refine kx_iconst 83 F dX12_chance_82 rfl ?_
              refine kx_istore 85 F 6 (lo' := [some (vR G 163), some (vI a1), some (vI a2), some (vI a3), some (vI a4), some (vI 0), some (vI 0), none]) dX12_chance_83 (by decide) rfl rfl rfl ?_
              have L_2399 : ∀ (n_2400 : Nat) (x5_2396 : Int) (x6_2397 : Int) (N_2398 : Mem), Inv true N_2398 → Fr f_e_chance3m M N_2398 → 0 ≤ x5_2396 ∧ x5_2396 ≤ 50 ∧ 0 ≤ x6_2397 ∧ x6_2397 ≤ 50 ∧ x5_2396 ≤ x6_2397 → (50 - (x6_2397)).toNat = n_2400 → KJ true G X N_2398 85 [some (vR G 163), some (vI a1), some (vI a2), some (vI a3), none, some (vI x5_2396), some (vI x6_2397), none] [] := by
                intro n_2400
                refine Nat.strongRecOn n_2400 ?_
                intro n_2400 ih_2401 x5_2396 x6_2397 N_2398 hI_N_2398 hF_N_2398 h_2402 hm_2403
                refine kx_iload 87 F 6 dX12_chance_85 rfl rfl ?_
                refine kx_iload_n 88 F 3 dX12_chance_87 rfl rfl rfl ?_
                refine kx_icmp_ge 91 F 160 dX12_chance_88 (by decide) rfl (by omega) (by omega) (fun h_2404 => ?_) (fun h_2404 => ?_)
                · refine kx_aload_n 161 F 0 dX12_chance_160 rfl rfl rfl ?_
                  refine kx_iload 163 F 5 dX12_chance_161 rfl rfl ?_
                  refine kx_i2l 164 F dX12_chance_163 (by omega) rfl ?_
                  refine kx_iload_n 165 F 3 dX12_chance_164 rfl rfl rfl ?_
                  refine kx_i2l 166 F dX12_chance_165 (by omega) rfl ?_
                  refine kx_Vi 169 (ci := 0) F (As := [vL x5_2396, vL a3]) (st := []) vd_X12_384 (e_tellsBy3 G l N_2398 x5_2396 a3 hI_N_2398 (by omega)) kd_163 rfl rfl rfl ⟨by decide, by decide⟩ rfl rfl (Nat.le_of_ble_eq_true rfl) dX12_chance_166 rfl ?_
                  intro r_2405 N_2406 q_2407
                  obtain ⟨hI_N_2406, hG_N_2406, q_2407c⟩ := q_2407
                  have hF_N_2406 : Fr f_e_chance3m M N_2406 := Fr.c hF_N_2398 hG_N_2406 rfl
                  subst q_2407c
                  exact kx_zret F hQ (by omega) ⟨hI_N_2406, hF_N_2406, (by omega), (Or.inl ⟨by omega, by omega, by omega, by omega, by omega, by omega, by omega, by omega, by omega, by omega⟩)⟩ dX12_chance_169
                · refine kx_aload_n 92 F 0 dX12_chance_91 rfl rfl rfl ?_
                  refine kx_iload_n 93 F 1 dX12_chance_92 rfl rfl rfl ?_
                  refine kx_iconst 94 F dX12_chance_93 rfl ?_
                  refine kx_Vv 97 (ci := 0) F (As := [vI a1, vI 0]) (st := []) vd_X12_345 (c_X12_beginsWord G l N_2398 a1 0 hI_N_2398 (by omega)) kd_163 rfl rfl rfl ⟨by decide, by decide⟩ rfl rfl (Nat.le_of_ble_eq_true rfl) dX12_chance_94 rfl ?_
                  intro N_2408 q_2409
                  obtain ⟨hI_N_2408, hG_N_2408, hw_N_2408⟩ := q_2409
                  have hF_N_2408 : Fr f_e_chance3m M N_2408 := Fr.c hF_N_2398 hG_N_2408 rfl
                  refine kx_iconst 98 F dX12_chance_97 rfl ?_
                  refine kx_istore 100 F 7 (lo' := [some (vR G 163), some (vI a1), some (vI a2), some (vI a3), none, some (vI x5_2396), some (vI x6_2397), some (vI 0)]) dX12_chance_98 (by decide) rfl rfl rfl ?_
                  have L_2423 : ∀ (n_2424 : Nat) (x7_2421 : Int) (N_2422 : Mem), Inv true N_2422 → Fr f_e_chance3m M N_2422 → WB N_2422 x7_2421 → 0 ≤ x7_2421 ∧ x7_2421 ≤ 0 → (0 - (x7_2421)).toNat = n_2424 → KJ true G X N_2422 100 [some (vR G 163), some (vI a1), some (vI a2), some (vI a3), none, some (vI x5_2396), some (vI x6_2397), some (vI x7_2421)] [] := by
                    intro n_2424
                    refine Nat.strongRecOn n_2424 ?_
                    intro n_2424 ih_2425 x7_2421 N_2422 hI_N_2422 hF_N_2422 hp_2428 h_2426 hm_2427
                    refine kx_iload 102 F 7 dX12_chance_100 rfl rfl ?_
                    refine kx_iload_n 103 F 2 dX12_chance_102 rfl rfl rfl ?_
                    refine kx_icmp_ge 106 F 128 dX12_chance_103 (by decide) rfl (by omega) (by omega) (fun h_2429 => ?_) (fun h_2429 => (by exfalso; omega))
                    refine kx_iload 130 F 5 dX12_chance_128 rfl rfl ?_
                    refine kx_aload_n 131 F 0 dX12_chance_130 rfl rfl rfl ?_
                    refine kx_getr 134 F fl_X12_47 kd_163 rfl rfl (j := 21) rfl dX12_chance_131 (v := 172) (uq_172 (Inv.r hI_N_2422 kd_163 rfl 21 rfl rfl)) rfl ?_
                    refine kx_iload_n 135 F 2 dX12_chance_134 rfl rfl rfl ?_
                    refine kx_iald 136 F kd_172 rfl rfl (by omega) (by decide) dX12_chance_135 (v := (N_2422 172 a2)) rfl rfl ?_
                    have h_2430 := Inv.g hI_N_2422 kd_172 rfl a2 (a := 0) (b := 7) rfl rfl
                    refine kx_aload_n 137 F 0 dX12_chance_136 rfl rfl rfl ?_
                    refine kx_iload_n 138 F 1 dX12_chance_137 rfl rfl rfl ?_
                    refine kx_iconst 139 F dX12_chance_138 rfl ?_
                    refine kx_Vi 142 (ci := 0) F (As := [vI a1, vI 3]) (st := [vI (N_2422 172 a2), vI x5_2396]) vd_X12_288 (e_of3 G l N_2422 a1 3 hI_N_2422 (by omega)) kd_163 rfl rfl rfl ⟨by decide, by decide⟩ rfl rfl (Nat.le_of_ble_eq_true rfl) dX12_chance_139 rfl ?_
                    intro r_2431 N_2432 q_2433
                    obtain ⟨rfl, q_2433c⟩ := q_2433
                    have e_2434 : (N_2422 164 (85 * a1 + 103)) = (M 164 (85 * a1 + 103)) := by rw [Fr.e hF_N_2422 kd_164 _ rfl]
                    refine kx_topi (e' := (N_2422 164 (85 * a1 + 103))) (by omega) ?_
                    refine kx_iand 143 F (v := (zand (N_2422 172 a2) (N_2422 164 (85 * a1 + 103)))) dX12_chance_142 rfl rfl ?_
                    have h_2436 := zand_r (a := (N_2422 172 a2)) (b := (N_2422 164 (85 * a1 + 103))) (by omega)
                    refine kx_if_eq 146 F 150 dX12_chance_143 (by decide) rfl (by omega) (fun h_2437 => ?_) (fun h_2437 => ?_)
                    · refine kx_iconst 151 F dX12_chance_150 rfl ?_
                      refine kx_iadd 152 F (v := x5_2396) dX12_chance_151 (by omega) rfl ?_
                      refine kx_istore 154 F 5 (lo' := [some (vR G 163), some (vI a1), some (vI a2), some (vI a3), none, some (vI x5_2396), some (vI x6_2397), some (vI x7_2421)]) dX12_chance_152 (by decide) rfl rfl rfl ?_
                      refine kx_iinc 157 F 6 (v := x6_2397 + 1) (lo' := [some (vR G 163), some (vI a1), some (vI a2), some (vI a3), none, some (vI x5_2396), some (vI (x6_2397 + 1)), some (vI x7_2421)]) dX12_chance_154 rfl (by omega) (by decide) rfl rfl rfl ?_
                      refine kx_goto 85 F dX12_chance_157 (by decide) ?_
                      refine kx_drop 7 (lo' := [some (vR G 163), some (vI a1), some (vI a2), some (vI a3), none, some (vI x5_2396), some (vI (x6_2397 + 1)), none]) rfl ?_
                      exact ih_2401 _ (by omega) x5_2396 (x6_2397 + 1) N_2422 hI_N_2422 hF_N_2422 (by omega) rfl
                    · refine kx_iconst 147 F dX12_chance_146 rfl ?_
                      refine kx_goto 151 F dX12_chance_147 (by decide) ?_
                      refine kx_iadd 152 F (v := x5_2396 + 1) dX12_chance_151 rfl rfl ?_
                      refine kx_istore 154 F 5 (lo' := [some (vR G 163), some (vI a1), some (vI a2), some (vI a3), none, some (vI (x5_2396 + 1)), some (vI x6_2397), some (vI x7_2421)]) dX12_chance_152 (by decide) rfl rfl rfl ?_
                      refine kx_iinc 157 F 6 (v := x6_2397 + 1) (lo' := [some (vR G 163), some (vI a1), some (vI a2), some (vI a3), none, some (vI (x5_2396 + 1)), some (vI (x6_2397 + 1)), some (vI x7_2421)]) dX12_chance_154 rfl (by omega) (by decide) rfl rfl rfl ?_
                      refine kx_goto 85 F dX12_chance_157 (by decide) ?_
                      refine kx_drop 7 (lo' := [some (vR G 163), some (vI a1), some (vI a2), some (vI a3), none, some (vI (x5_2396 + 1)), some (vI (x6_2397 + 1)), none]) rfl ?_
                      exact ih_2401 _ (by omega) (x5_2396 + 1) (x6_2397 + 1) N_2422 hI_N_2422 hF_N_2422 (by omega) rfl
                  exact L_2423 _ 0 N_2408 hI_N_2408 hF_N_2408 (WB.mono hw_N_2408 (by omega)) (by omega) rfl
              refine kx_drop 4 (lo' := [some (vR G 163), some (vI a1), some (vI a2), some (vI a3), none, some (vI 0), some (vI 0), none]) rfl ?_
              exact L_2399 _ 0 0 N_2138 hI_N_2138 hF_N_2138 (by omega) rfl
            · refine kx_aload_n 63 F 0 dX12_chance_62 rfl rfl rfl ?_
              refine kx_bipush 65 F dX12_chance_63 (by decide) rfl ?_
              refine kx_Vi 68 (ci := 0) F (As := [vI 6]) (st := []) vd_X12_130 (c_X12_is G l M 6 hI_M (by omega)) kd_163 rfl rfl rfl ⟨by decide, by decide⟩ rfl rfl (Nat.le_of_ble_eq_true rfl) dX12_chance_65 rfl ?_
              intro r_2438 N_2439 q_2440
              obtain ⟨hI_N_2439, hG_N_2439, q_2440c⟩ := q_2440
              have hF_N_2439 : Fr f_e_chance3m M N_2439 := Fr.c hF_M hG_N_2439 rfl
              rcases q_2440c with q_2440c | q_2440c
              · exfalso; omega
              · exact kx_zret F hQ (by omega) ⟨hI_N_2439, hF_N_2439, (by omega), (Or.inr ⟨by omega, by omega⟩)⟩ dX12_chance_68
        · refine kx_if_ne 45 F 51 dX12_chance_42 (by decide) rfl (by omega) (fun h_2441 => (by exfalso; omega)) (fun h_2441 => ?_)
          refine kx_aload_n 46 F 0 dX12_chance_45 rfl rfl rfl ?_
          refine kx_iconst 47 F dX12_chance_46 rfl ?_
          refine kx_Vi 50 (ci := 0) F (As := [vI 1]) (st := []) vd_X12_130 (c_X12_is G l M 1 hI_M (by omega)) kd_163 rfl rfl rfl ⟨by decide, by decide⟩ rfl rfl (Nat.le_of_ble_eq_true rfl) dX12_chance_47 rfl ?_
          intro r_2442 N_2443 q_2444
          obtain ⟨hI_N_2443, hG_N_2443, q_2444c⟩ := q_2444
          have hF_N_2443 : Fr f_e_chance3m M N_2443 := Fr.c hF_M hG_N_2443 rfl
          rcases q_2444c with q_2444c | q_2444c
          · exfalso; omega
          · exact kx_zret F hQ (by omega) ⟨hI_N_2443, hF_N_2443, (by omega), (Or.inr ⟨by omega, by omega⟩)⟩ dX12_chance_50
        · refine kx_if_ne 45 F 51 dX12_chance_42 (by decide) rfl (by omega) (fun h_2445 => (by exfalso; omega)) (fun h_2445 => ?_)
          refine kx_aload_n 46 F 0 dX12_chance_45 rfl rfl rfl ?_
          refine kx_iconst 47 F dX12_chance_46 rfl ?_
          refine kx_Vi 50 (ci := 0) F (As := [vI 1]) (st := []) vd_X12_130 (c_X12_is G l M 1 hI_M (by omega)) kd_163 rfl rfl rfl ⟨by decide, by decide⟩ rfl rfl (Nat.le_of_ble_eq_true rfl) dX12_chance_47 rfl ?_
          intro r_2446 N_2447 q_2448
          obtain ⟨hI_N_2447, hG_N_2447, q_2448c⟩ := q_2448
          have hF_N_2447 : Fr f_e_chance3m M N_2447 := Fr.c hF_M hG_N_2447 rfl
          rcases q_2448c with q_2448c | q_2448c
          · exfalso; omega
          · exact kx_zret F hQ (by omega) ⟨hI_N_2447, hF_N_2447, (by omega), (Or.inr ⟨by omega, by omega⟩)⟩ dX12_chance_50
      · refine kx_if_eq 32 F 45 dX12_chance_29 (by decide) rfl (by omega) (fun h_2449 => ?_) (fun h_2449 => (by exfalso; omega))
        refine kx_aload_n 46 F 0 dX12_chance_45 rfl rfl rfl ?_
        refine kx_iconst 47 F dX12_chance_46 rfl ?_
        refine kx_Vi 50 (ci := 0) F (As := [vI 1]) (st := []) vd_X12_130 (c_X12_is G l M 1 hI_M (by omega)) kd_163 rfl rfl rfl ⟨by decide, by decide⟩ rfl rfl (Nat.le_of_ble_eq_true rfl) dX12_chance_47 rfl ?_
        intro r_2450 N_2451 q_2452
        obtain ⟨hI_N_2451, hG_N_2451, q_2452c⟩ := q_2452
        have hF_N_2451 : Fr f_e_chance3m M N_2451 := Fr.c hF_M hG_N_2451 rfl
        rcases q_2452c with q_2452c | q_2452c
        · exfalso; omega
        · exact kx_zret F hQ (by omega) ⟨hI_N_2451, hF_N_2451, (by omega), (Or.inr ⟨by omega, by omega⟩)⟩ dX12_chance_50
      · refine kx_if_eq 32 F 45 dX12_chance_29 (by decide) rfl (by omega) (fun h_2453 => ?_) (fun h_2453 => (by exfalso; omega))
        refine kx_aload_n 46 F 0 dX12_chance_45 rfl rfl rfl ?_
        refine kx_iconst 47 F dX12_chance_46 rfl ?_
        refine kx_Vi 50 (ci := 0) F (As := [vI 1]) (st := []) vd_X12_130 (c_X12_is G l M 1 hI_M (by omega)) kd_163 rfl rfl rfl ⟨by decide, by decide⟩ rfl rfl (Nat.le_of_ble_eq_true rfl) dX12_chance_47 rfl ?_
        intro r_2454 N_2455 q_2456
        obtain ⟨hI_N_2455, hG_N_2455, q_2456c⟩ := q_2456
        have hF_N_2455 : Fr f_e_chance3m M N_2455 := Fr.c hF_M hG_N_2455 rfl
        rcases q_2456c with q_2456c | q_2456c
        · exfalso; omega
        · exact kx_zret F hQ (by omega) ⟨hI_N_2455, hF_N_2455, (by omega), (Or.inr ⟨by omega, by omega⟩)⟩ dX12_chance_50
    · refine kx_if_eq 20 F 45 dX12_chance_17 (by decide) rfl (by omega) (fun h_2457 => ?_) (fun h_2457 => (by exfalso; omega))
      refine kx_aload_n 46 F 0 dX12_chance_45 rfl rfl rfl ?_
      refine kx_iconst 47 F dX12_chance_46 rfl ?_
      refine kx_Vi 50 (ci := 0) F (As := [vI 1]) (st := []) vd_X12_130 (c_X12_is G l M 1 hI_M (by omega)) kd_163 rfl rfl rfl ⟨by decide, by decide⟩ rfl rfl (Nat.le_of_ble_eq_true rfl) dX12_chance_47 rfl ?_
      intro r_2458 N_2459 q_2460
      obtain ⟨hI_N_2459, hG_N_2459, q_2460c⟩ := q_2460
      have hF_N_2459 : Fr f_e_chance3m M N_2459 := Fr.c hF_M hG_N_2459 rfl
      rcases q_2460c with q_2460c | q_2460c
      · exfalso; omega
      · exact kx_zret F hQ (by omega) ⟨hI_N_2459, hF_N_2459, (by omega), (Or.inr ⟨by omega, by omega⟩)⟩ dX12_chance_50
    · refine kx_if_eq 20 F 45 dX12_chance_17 (by decide) rfl (by omega) (fun h_2461 => ?_) (fun h_2461 => (by exfalso; omega))
      refine kx_aload_n 46 F 0 dX12_chance_45 rfl rfl rfl ?_
      refine kx_iconst 47 F dX12_chance_46 rfl ?_
      refine kx_Vi 50 (ci := 0) F (As := [vI 1]) (st := []) vd_X12_130 (c_X12_is G l M 1 hI_M (by omega)) kd_163 rfl rfl rfl ⟨by decide, by decide⟩ rfl rfl (Nat.le_of_ble_eq_true rfl) dX12_chance_47 rfl ?_
      intro r_2462 N_2463 q_2464
      obtain ⟨hI_N_2463, hG_N_2463, q_2464c⟩ := q_2464
      have hF_N_2463 : Fr f_e_chance3m M N_2463 := Fr.c hF_M hG_N_2463 rfl
      rcases q_2464c with q_2464c | q_2464c
      · exfalso; omega
      · exact kx_zret F hQ (by omega) ⟨hI_N_2463, hF_N_2463, (by omega), (Or.inr ⟨by omega, by omega⟩)⟩ dX12_chance_50
  · refine kx_if_eq 8 F 45 dX12_chance_5 (by decide) rfl (by omega) (fun h_2465 => ?_) (fun h_2465 => (by exfalso; omega))
    refine kx_aload_n 46 F 0 dX12_chance_45 rfl rfl rfl ?_
    refine kx_iconst 47 F dX12_chance_46 rfl ?_
    refine kx_Vi 50 (ci := 0) F (As := [vI 1]) (st := []) vd_X12_130 (c_X12_is G l M 1 hI_M (by omega)) kd_163 rfl rfl rfl ⟨by decide, by decide⟩ rfl rfl (Nat.le_of_ble_eq_true rfl) dX12_chance_47 rfl ?_
    intro r_2466 N_2467 q_2468
    obtain ⟨hI_N_2467, hG_N_2467, q_2468c⟩ := q_2468
    have hF_N_2467 : Fr f_e_chance3m M N_2467 := Fr.c hF_M hG_N_2467 rfl
    rcases q_2468c with q_2468c | q_2468c
    · exfalso; omega
    · exact kx_zret F hQ (by omega) ⟨hI_N_2467, hF_N_2467, (by omega), (Or.inr ⟨by omega, by omega⟩)⟩ dX12_chance_50
  · refine kx_if_eq 8 F 45 dX12_chance_5 (by decide) rfl (by omega) (fun h_2469 => ?_) (fun h_2469 => (by exfalso; omega))
    refine kx_aload_n 46 F 0 dX12_chance_45 rfl rfl rfl ?_
    refine kx_iconst 47 F dX12_chance_46 rfl ?_
    refine kx_Vi 50 (ci := 0) F (As := [vI 1]) (st := []) vd_X12_130 (c_X12_is G l M 1 hI_M (by omega)) kd_163 rfl rfl rfl ⟨by decide, by decide⟩ rfl rfl (Nat.le_of_ble_eq_true rfl) dX12_chance_47 rfl ?_
    intro r_2470 N_2471 q_2472
    obtain ⟨hI_N_2471, hG_N_2471, q_2472c⟩ := q_2472
    have hF_N_2471 : Fr f_e_chance3m M N_2471 := Fr.c hF_M hG_N_2471 rfl
    rcases q_2472c with q_2472c | q_2472c
    · exfalso; omega
    · exact kx_zret F hQ (by omega) ⟨hI_N_2471, hF_N_2471, (by omega), (Or.inr ⟨by omega, by omega⟩)⟩ dX12_chance_50
