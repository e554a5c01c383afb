set_option maxHeartbeats 4000000 in
set_option maxRecDepth 100000 in
theorem e_isTakenNow3 (G : KG) (l : Launch) (M : Mem) (hI_M : Inv true M) (hpre : (M 164 4) ≥ 0) : KC true G l yX12_isTakenNow cX12_isTakenNow 1 (some .int) (2, 43) [vR G 163] M (fun A => kQi true G A (fun (r : Int) (N : Mem) => M = N ∧ ((r = 1 ∧ (zand (M 164 7) (M 164 (85 * M 164 4 + 103))) ≠ 0) ∨ (r = 0 ∧ (zand (M 164 7) (M 164 (85 * M 164 4 + 103))) = 0)))) := by
  refine kx_met (lo := [some (vR G 163)]) (by decide) (Nat.le_of_ble_eq_true rfl) rfl ?_
  intro X F hQ
  refine kx_aload_n 1 F 0 dX12_isTakenNow_0 rfl rfl rfl ?_
  refine kx_getr 4 F fl_X12_7 kd_163 rfl rfl (j := 0) rfl dX12_isTakenNow_1 (v := 164) (uq_164 (Inv.r hI_M kd_163 rfl 0 rfl rfl)) rfl ?_
  refine kx_bipush 6 F dX12_isTakenNow_4 (by decide) rfl ?_
  refine kx_iald 7 F kd_164 rfl rfl (by omega) (by decide) dX12_isTakenNow_6 (v := (M 164 7)) rfl rfl ?_
  have ha_1 : atlo 7 = 0 ∧ athi 7 = 7 := at_c 7 0 (o := 7) (lo := 0) (hi := 7) (by omega) (by decide) (by decide) (by decide)
  have h_2 := Inv.g hI_M kd_164 rfl 7 (a := 0) (b := 7) ha_1.1 ha_1.2
  refine kx_aload_n 8 F 0 dX12_isTakenNow_7 rfl rfl rfl ?_
  refine kx_aload_n 9 F 0 dX12_isTakenNow_8 rfl rfl rfl ?_
  refine kx_getr 12 F fl_X12_7 kd_163 rfl rfl (j := 0) rfl dX12_isTakenNow_9 (v := 164) (uq_164 (Inv.r hI_M kd_163 rfl 0 rfl rfl)) rfl ?_
  refine kx_iconst 13 F dX12_isTakenNow_12 rfl ?_
  refine kx_iald 14 F kd_164 rfl rfl (by omega) (by decide) dX12_isTakenNow_13 (v := (M 164 4)) rfl rfl ?_
  have ha_3 : atlo 4 = (-1) ∧ athi 4 = 1 := at_c 4 0 (o := 4) (lo := (-1)) (hi := 1) (by omega) (by decide) (by decide) (by decide)
  have h_4 := Inv.g hI_M kd_164 rfl 4 (a := (-1)) (b := 1) ha_3.1 ha_3.2
  refine kx_iconst 15 F dX12_isTakenNow_14 rfl ?_
  refine kx_Vi 18 (ci := 0) F (As := [vI (M 164 4), vI 3]) (st := [vI (M 164 7)]) vd_X12_288 (e_of3 G l M (M 164 4) 3 hI_M (by omega)) kd_163 rfl rfl rfl ⟨by decide, by decide⟩ rfl rfl (Nat.le_of_ble_eq_true rfl) dX12_isTakenNow_15 rfl ?_
  intro r_5 N_6 q_7
  obtain ⟨rfl, q_7c⟩ := q_7
  refine kx_topi (e' := (M 164 (85 * (M 164 4) + 103))) (by omega) ?_
  refine kx_iand 19 F (v := (zand (M 164 7) (M 164 (85 * (M 164 4) + 103)))) dX12_isTakenNow_18 rfl rfl ?_
  have h_8 := zand_r (a := (M 164 7)) (b := (M 164 (85 * (M 164 4) + 103))) (by omega)
  refine kx_if_eq 22 F 26 dX12_isTakenNow_19 (by decide) rfl (by omega) (fun h_9 => ?_) (fun h_9 => ?_)
  · refine kx_iconst 27 F dX12_isTakenNow_26 rfl ?_
    exact kx_iret F hQ ⟨rfl, (by omega)⟩ dX12_isTakenNow_27
  · refine kx_iconst 23 F dX12_isTakenNow_22 rfl ?_
    refine kx_goto 27 F dX12_isTakenNow_23 (by decide) ?_
    exact kx_iret F hQ ⟨rfl, (by omega)⟩ dX12_isTakenNow_27
abbrev f_e_watch3m : List (Nat × Int) := [(64, 2), (65, -1)]
set_option maxHeartbeats 4000000 in
set_option maxRecDepth 100000 in
theorem e_watch3m (G : KG) (l : Launch) (M : Mem) (a1 : Int) (hI_M : Inv true M) (hpre : -2147483648 ≤ a1 ∧ a1 ≤ 2147483647) (hY : YY M) (q : Int → Int) (hS : zRN (M 164) q) (hU : zRU (M 164) q) : KC true G l yX12_watch cX12_watch 2 (some .int) (3, 66) [vR G 163, vI a1] M (fun A => kQi true G A (fun (r : Int) (N : Mem) => Inv true N ∧ Fr f_e_watch3m M N ∧ (r ≥ -1 ∧ r ≤ 1) ∧ ((YY N) ∧ (zRW N M ∧ zWA q a1 r)))) := by
  refine kx_met (lo := [some (vR G 163), some (vI a1)]) (by decide) (Nat.le_of_ble_eq_true rfl) rfl ?_
  intro X F hQ
  have hF_M : Fr f_e_watch3m M M := Fr.rf _ _
  have hSn := hS.u
  have ha_1 : atlo 3 = 0 ∧ athi 3 = 2 := at_c 3 0 (o := 3) (lo := 0) (hi := 2) (by omega) (by decide) (by decide) (by decide)
  have h_2 := Inv.g hI_M kd_164 rfl 3 (a := 0) (b := 2) ha_1.1 ha_1.2
  refine kx_aload_n 1 F 0 dX12_watch_0 rfl rfl rfl ?_
  refine kx_iload_n 2 F 1 dX12_watch_1 rfl rfl rfl ?_
  refine kx_Vi 5 (ci := 0) F (As := [vI a1]) (st := []) vd_X12_282 (e_X12_isAutomaton G l M a1 hI_M (by omega)) kd_163 rfl rfl rfl ⟨by decide, by decide⟩ rfl rfl (Nat.le_of_ble_eq_true rfl) dX12_watch_2 rfl ?_
  intro r_3 N_4 q_5
  obtain ⟨rfl, q_5c⟩ := q_5
  rcases q_5c with q_5c | q_5c | q_5c
  · refine kx_if_ne 8 F 14 dX12_watch_5 (by decide) rfl (by omega) (fun h_6 => ?_) (fun h_6 => (by exfalso; omega))
    refine kx_aload_n 15 F 0 dX12_watch_14 rfl rfl rfl ?_
    refine kx_getr 18 F fl_X12_7 kd_163 rfl rfl (j := 0) rfl dX12_watch_15 (v := 164) (uq_164 (Inv.r hI_M kd_163 rfl 0 rfl rfl)) rfl ?_
    refine kx_iconst 19 F dX12_watch_18 rfl ?_
    refine kx_iload_n 20 F 1 dX12_watch_19 rfl rfl rfl ?_
    refine kx_iast 21 F kd_164 rfl rfl (by omega) (by decide) dX12_watch_20 rfl ?_
    intro N_7 hM_N_7
    have ha_8 : atlo 4 = (-1) ∧ athi 4 = 1 := at_c 4 0 (o := 4) (lo := (-1)) (hi := 1) (by omega) (by decide) (by decide) (by decide)
    have hI_N_7 : Inv true N_7 := Inv.u hI_M hM_N_7 kd_164 (a := (-1)) (b := 1) ha_8.1 ha_8.2 rfl (by omega)
    have hF_N_7 : Fr f_e_watch3m M N_7 := Fr.u hF_M hM_N_7 kd_164 rfl
    refine kx_aload_n 22 F 0 dX12_watch_21 rfl rfl rfl ?_
    refine kx_getr 25 F fl_X12_7 kd_163 rfl rfl (j := 0) rfl dX12_watch_22 (v := 164) (uq_164 (Inv.r hI_N_7 kd_163 rfl 0 rfl rfl)) rfl ?_
    refine kx_iconst 26 F dX12_watch_25 rfl ?_
    refine kx_iconst 27 F dX12_watch_26 rfl ?_
    refine kx_iast 28 F kd_164 rfl rfl (by omega) (by decide) dX12_watch_27 rfl ?_
    intro N_9 hM_N_9
    have ha_10 : atlo 5 = (-2147483648) ∧ athi 5 = 2147483647 := at_c 5 0 (o := 5) (lo := (-2147483648)) (hi := 2147483647) (by omega) (by decide) (by decide) (by decide)
    have hI_N_9 : Inv true N_9 := Inv.u hI_N_7 hM_N_9 kd_164 (a := (-2147483648)) (b := 2147483647) ha_10.1 ha_10.2 rfl (by omega)
    have hF_N_9 : Fr f_e_watch3m M N_9 := Fr.u hF_N_7 hM_N_9 kd_164 rfl
    refine kx_aload_n 29 F 0 dX12_watch_28 rfl rfl rfl ?_
    refine kx_getr 32 F fl_X12_7 kd_163 rfl rfl (j := 0) rfl dX12_watch_29 (v := 164) (uq_164 (Inv.r hI_N_9 kd_163 rfl 0 rfl rfl)) rfl ?_
    refine kx_bipush 34 F dX12_watch_32 (by decide) rfl ?_
    refine kx_iconst 35 F dX12_watch_34 rfl ?_
    refine kx_iast 36 F kd_164 rfl rfl (by omega) (by decide) dX12_watch_35 rfl ?_
    intro N_11 hM_N_11
    have ha_12 : atlo 6 = 0 ∧ athi 6 = 30 := at_c 6 0 (o := 6) (lo := 0) (hi := 30) (by omega) (by decide) (by decide) (by decide)
    have hI_N_11 : Inv true N_11 := Inv.u hI_N_9 hM_N_11 kd_164 (a := 0) (b := 30) ha_12.1 ha_12.2 rfl (by omega)
    have hF_N_11 : Fr f_e_watch3m M N_11 := Fr.u hF_N_9 hM_N_11 kd_164 rfl
    refine kx_aload_n 37 F 0 dX12_watch_36 rfl rfl rfl ?_
    refine kx_getr 40 F fl_X12_7 kd_163 rfl rfl (j := 0) rfl dX12_watch_37 (v := 164) (uq_164 (Inv.r hI_N_11 kd_163 rfl 0 rfl rfl)) rfl ?_
    refine kx_bipush 42 F dX12_watch_40 (by decide) rfl ?_
    refine kx_aload_n 43 F 0 dX12_watch_42 rfl rfl rfl ?_
    refine kx_iload_n 44 F 1 dX12_watch_43 rfl rfl rfl ?_
    refine kx_iconst 45 F dX12_watch_44 rfl ?_
    refine kx_Vi 48 (ci := 0) F (As := [vI a1, vI 2]) (st := [vI 7, vR G 164]) vd_X12_288 (e_of2 G l N_11 a1 2 hI_N_11 (by omega)) kd_163 rfl rfl rfl ⟨by decide, by decide⟩ rfl rfl (Nat.le_of_ble_eq_true rfl) dX12_watch_45 rfl ?_
    intro r_13 N_14 q_15
    obtain ⟨rfl, q_15c⟩ := q_15
    have e_16 : (N_11 164 (85 * a1 + 102)) = (M 164 (85 * a1 + 102)) := by rw [hM_N_11, mu_i (by omega), hM_N_9, mu_i (by omega), hM_N_7, mu_i (by omega)]
    have e_17 : (N_11 164 (85 * a1 + 102)) = (M 164 (85 * a1 + 102)) := by rw [hM_N_11, mu_i (by omega), hM_N_9, mu_i (by omega), hM_N_7, mu_i (by omega)]
    refine kx_topi (e' := (N_11 164 (85 * a1 + 102))) (by omega) ?_
    refine kx_iast 49 F kd_164 rfl rfl (by omega) (by decide) dX12_watch_48 rfl ?_
    intro N_18 hM_N_18
    have ha_19 : atlo 7 = 0 ∧ athi 7 = 7 := at_c 7 0 (o := 7) (lo := 0) (hi := 7) (by omega) (by decide) (by decide) (by decide)
    have hI_N_18 : Inv true N_18 := Inv.u hI_N_11 hM_N_18 kd_164 (a := 0) (b := 7) ha_19.1 ha_19.2 rfl (by omega)
    have hF_N_18 : Fr f_e_watch3m M N_18 := Fr.u hF_N_11 hM_N_18 kd_164 rfl
    refine kx_aload_n 50 F 0 dX12_watch_49 rfl rfl rfl ?_
    refine kx_getr 53 F fl_X12_7 kd_163 rfl rfl (j := 0) rfl dX12_watch_50 (v := 164) (uq_164 (Inv.r hI_N_18 kd_163 rfl 0 rfl rfl)) rfl ?_
    refine kx_bipush 55 F dX12_watch_53 (by decide) rfl ?_
    refine kx_aload_n 56 F 0 dX12_watch_55 rfl rfl rfl ?_
    refine kx_iload_n 57 F 1 dX12_watch_56 rfl rfl rfl ?_
    refine kx_Vi 60 (ci := 0) F (As := [vI a1]) (st := [vI 8, vR G 164]) vd_X12_329 (e_same G l N_18 a1 hI_N_18 (by omega)) kd_163 rfl rfl rfl ⟨by decide, by decide⟩ rfl rfl (Nat.le_of_ble_eq_true rfl) dX12_watch_57 rfl ?_
    intro r_20 N_21 q_22
    obtain ⟨rfl, q_22c, hz_N_21⟩ := q_22
    refine kx_iast 61 F kd_164 rfl rfl (by omega) (by decide) dX12_watch_60 rfl ?_
    intro N_23 hM_N_23
    have ha_24 : atlo 8 = 0 ∧ athi 8 = 511 := at_c 8 0 (o := 8) (lo := 0) (hi := 511) (by omega) (by decide) (by decide) (by decide)
    have hI_N_23 : Inv true N_23 := Inv.u hI_N_18 hM_N_23 kd_164 (a := 0) (b := 511) ha_24.1 ha_24.2 rfl (by omega)
    have hF_N_23 : Fr f_e_watch3m M N_23 := Fr.u hF_N_18 hM_N_23 kd_164 rfl
    refine kx_aload_n 62 F 0 dX12_watch_61 rfl rfl rfl ?_
    refine kx_aload_n 63 F 0 dX12_watch_62 rfl rfl rfl ?_
    have e_25 : (N_23 164 4) = a1 := by rw [hM_N_23, mu_i (by omega), hM_N_18, mu_i (by omega), hM_N_11, mu_i (by omega), hM_N_9, mu_i (by omega), hM_N_7, mu_s]
    refine kx_Vi 66 (ci := 0) F (As := []) (st := [vR G 163]) vd_X12_522 (e_isTakenNow3 G l N_23  hI_N_23 (by omega)) kd_163 rfl rfl rfl ⟨by decide, by decide⟩ rfl rfl (Nat.le_of_ble_eq_true rfl) dX12_watch_63 rfl ?_
    intro r_26 N_27 q_28
    obtain ⟨rfl, q_28c⟩ := q_28
    rcases q_28c with q_28c | q_28c
    · refine kx_Vi 69 (ci := 0) F (As := [vI r_26]) (st := []) vd_X12_127 (c_X12_gives G l N_23 r_26 hI_N_23 (by omega)) kd_163 rfl rfl rfl ⟨by decide, by decide⟩ rfl rfl (Nat.le_of_ble_eq_true rfl) dX12_watch_66 rfl ?_
      intro r_29 N_30 q_31
      obtain ⟨hI_N_30, hG_N_30, q_31c⟩ := q_31
      have hF_N_30 : Fr f_e_watch3m M N_30 := Fr.c hF_N_23 hG_N_30 rfl
      refine kx_topi (e' := r_26) (by omega) ?_
      have e_32 : (N_23 164 7) = (N_11 164 (85 * a1 + 102)) := by rw [hM_N_23, mu_i (by omega), hM_N_18, mu_s]
      have e_33 : (N_23 164 4) = a1 := by rw [hM_N_23, mu_i (by omega), hM_N_18, mu_i (by omega), hM_N_11, mu_i (by omega), hM_N_9, mu_i (by omega), hM_N_7, mu_s]
      have e_34 : (N_23 164 (85 * a1 + 103)) = (M 164 (85 * a1 + 103)) := by rw [hM_N_23, mu_i (by omega), hM_N_18, mu_i (by omega), hM_N_11, mu_i (by omega), hM_N_9, mu_i (by omega), hM_N_7, mu_i (by omega)]
      have hqb := hU.b (a := a1) (b := 85 * a1 + 100) (by omega) rfl
      have hq2 : M 164 (85 * a1 + 102) = q (85 * a1 + 102) := hqb.n (d := 2) (by decide) (by omega)
      have hq3 : M 164 (85 * a1 + 103) = q (85 * a1 + 103) := hqb.n (d := 3) (by decide) (by omega)
      have hzw : zand (N_23 164 7) (N_23 164 (85 * N_23 164 4 + 103)) = zand (q (85 * a1 + 102)) (q (85 * a1 + 103)) := by rw [show N_23 164 4 = a1 by omega, show N_23 164 7 = q (85 * a1 + 102) by omega, show N_23 164 (85 * a1 + 103) = q (85 * a1 + 103) by omega]
      exact kx_iret F hQ ⟨hI_N_30, hF_N_30, (by omega), ⟨(YY.fr (YY.sta (YY.sta (YY.sta (YY.sta (YY.sta hY hI_M hM_N_7 (by omega)) hI_N_7 hM_N_9 (by omega)) hI_N_9 hM_N_11 (by omega)) hI_N_11 hM_N_18 (by omega)) hI_N_18 hM_N_23 (by omega)) hG_N_30 rfl), ⟨(zRW.fr (zRW.sta (zRW.sta (zRW.sta (zRW.sta (zRW.sta (zRW.rf M) hM_N_7 (by omega)) hM_N_9 (by omega)) hM_N_11 (by omega)) hM_N_18 (by omega)) hM_N_23 (by omega)) hG_N_30 rfl), (Or.inl ⟨by omega, Or.inl ⟨by omega, by omega⟩⟩)⟩⟩⟩ dX12_watch_69
    · refine kx_Vi 69 (ci := 0) F (As := [vI r_26]) (st := []) vd_X12_127 (c_X12_gives G l N_23 r_26 hI_N_23 (by omega)) kd_163 rfl rfl rfl ⟨by decide, by decide⟩ rfl rfl (Nat.le_of_ble_eq_true rfl) dX12_watch_66 rfl ?_
      intro r_35 N_36 q_37
      obtain ⟨hI_N_36, hG_N_36, q_37c⟩ := q_37
      have hF_N_36 : Fr f_e_watch3m M N_36 := Fr.c hF_N_23 hG_N_36 rfl
      refine kx_topi (e' := r_26) (by omega) ?_
      have e_38 : (N_23 164 7) = (N_11 164 (85 * a1 + 102)) := by rw [hM_N_23, mu_i (by omega), hM_N_18, mu_s]
      have e_39 : (N_23 164 4) = a1 := by rw [hM_N_23, mu_i (by omega), hM_N_18, mu_i (by omega), hM_N_11, mu_i (by omega), hM_N_9, mu_i (by omega), hM_N_7, mu_s]
      have e_40 : (N_23 164 (85 * a1 + 103)) = (M 164 (85 * a1 + 103)) := by rw [hM_N_23, mu_i (by omega), hM_N_18, mu_i (by omega), hM_N_11, mu_i (by omega), hM_N_9, mu_i (by omega), hM_N_7, mu_i (by omega)]
      have hqb := hU.b (a := a1) (b := 85 * a1 + 100) (by omega) rfl
      have hq2 : M 164 (85 * a1 + 102) = q (85 * a1 + 102) := hqb.n (d := 2) (by decide) (by omega)
      have hq3 : M 164 (85 * a1 + 103) = q (85 * a1 + 103) := hqb.n (d := 3) (by decide) (by omega)
      have hzw : zand (N_23 164 7) (N_23 164 (85 * N_23 164 4 + 103)) = zand (q (85 * a1 + 102)) (q (85 * a1 + 103)) := by rw [show N_23 164 4 = a1 by omega, show N_23 164 7 = q (85 * a1 + 102) by omega, show N_23 164 (85 * a1 + 103) = q (85 * a1 + 103) by omega]
      exact kx_iret F hQ ⟨hI_N_36, hF_N_36, (by omega), ⟨(YY.fr (YY.sta (YY.sta (YY.sta (YY.sta (YY.sta hY hI_M hM_N_7 (by omega)) hI_N_7 hM_N_9 (by omega)) hI_N_9 hM_N_11 (by omega)) hI_N_11 hM_N_18 (by omega)) hI_N_18 hM_N_23 (by omega)) hG_N_36 rfl), ⟨(zRW.fr (zRW.sta (zRW.sta (zRW.sta (zRW.sta (zRW.sta (zRW.rf M) hM_N_7 (by omega)) hM_N_9 (by omega)) hM_N_11 (by omega)) hM_N_18 (by omega)) hM_N_23 (by omega)) hG_N_36 rfl), (Or.inl ⟨by omega, Or.inr ⟨by omega, by omega⟩⟩)⟩⟩⟩ dX12_watch_69
  · refine kx_if_ne 8 F 14 dX12_watch_5 (by decide) rfl (by omega) (fun h_41 => (by exfalso; omega)) (fun h_41 => ?_)
    refine kx_aload_n 9 F 0 dX12_watch_8 rfl rfl rfl ?_
    refine kx_iconst 10 F dX12_watch_9 rfl ?_
    refine kx_Vi 13 (ci := 0) F (As := [vI 1]) (st := []) vd_X12_123 (c_X12_refuse G l M 1 hI_M (by omega)) kd_163 rfl rfl rfl ⟨by decide, by decide⟩ rfl rfl (Nat.le_of_ble_eq_true rfl) dX12_watch_10 rfl ?_
    intro r_42 N_43 q_44
    obtain ⟨hI_N_43, hG_N_43, q_44c⟩ := q_44
    have hF_N_43 : Fr f_e_watch3m M N_43 := Fr.c hF_M hG_N_43 rfl
    subst q_44c
    exact kx_iret F hQ ⟨hI_N_43, hF_N_43, (by omega), ⟨(YY.fr hY hG_N_43 rfl), ⟨(zRW.fr (zRW.rf M) hG_N_43 rfl), (Or.inr ⟨fun h => by omega, by omega⟩)⟩⟩⟩ dX12_watch_13
  · refine kx_if_ne 8 F 14 dX12_watch_5 (by decide) rfl (by omega) (fun h_45 => (by exfalso; omega)) (fun h_45 => ?_)
    refine kx_aload_n 9 F 0 dX12_watch_8 rfl rfl rfl ?_
    refine kx_iconst 10 F dX12_watch_9 rfl ?_
    refine kx_Vi 13 (ci := 0) F (As := [vI 1]) (st := []) vd_X12_123 (c_X12_refuse G l M 1 hI_M (by omega)) kd_163 rfl rfl rfl ⟨by decide, by decide⟩ rfl rfl (Nat.le_of_ble_eq_true rfl) dX12_watch_10 rfl ?_
    intro r_46 N_47 q_48
    obtain ⟨hI_N_47, hG_N_47, q_48c⟩ := q_48
    have hF_N_47 : Fr f_e_watch3m M N_47 := Fr.c hF_M hG_N_47 rfl
    subst q_48c
    exact kx_iret F hQ ⟨hI_N_47, hF_N_47, (by omega), ⟨(YY.fr hY hG_N_47 rfl), ⟨(zRW.fr (zRW.rf M) hG_N_47 rfl), (Or.inr ⟨fun h => by omega, by omega⟩)⟩⟩⟩ dX12_watch_13
