abbrev f_e_watch4m : List (Nat × Int) := [(64, 2), (65, -1)]
set_option maxHeartbeats 4000000 in
set_option maxRecDepth 100000 in
theorem e_watch4m (G : KG) (l : Launch) (M : Mem) (a1 : Int) (hI_M : Inv true M) (hpre : -2147483648 ≤ a1 ∧ a1 ≤ 2147483647) (hY : YY M) (q : Int → Int) (hS : zRN (M 164) q) (hU : zRU (M 164) q) : KC true G l yX12_watch cX12_watch 2 (some .int) (3, 66) [vR G 163, vI a1] M (fun A => kQi true G A (fun (r : Int) (N : Mem) => Inv true N ∧ Fr f_e_watch4m M N ∧ (r ≥ -1 ∧ r ≤ 1) ∧ ((YY N) ∧ ((zRW N M ∧ zWA q a1 r) ∧ (0 ≤ a1 → a1 < q 3 → zBG (N 164 4) (N 164 5) (N 164 6) (N 164 7) (N 164 8) q a1) ∧ (¬ (0 ≤ a1 ∧ a1 < q 3) → N 164 = M 164))))) := by
  refine kx_met (lo := [some (vR G 163), some (vI a1)]) (by decide) (Nat.le_of_ble_eq_true rfl) rfl ?_
  intro X F hQ
  have hF_M : Fr f_e_watch4m M M := Fr.rf _ _
  have hSn := hS.u
  have ha_1 : atlo 3 = 0 ∧ athi 3 = 2 := at_c 3 0 (o := 3) (lo := 0) (hi := 2) (by omega) (by decide) (by decide) (by decide)
  have h_2 := Inv.g hI_M kd_164 rfl 3 (a := 0) (b := 2) ha_1.1 ha_1.2
  refine kx_aload_n 1 F 0 dX12_watch_0 rfl rfl rfl ?_
  refine kx_iload_n 2 F 1 dX12_watch_1 rfl rfl rfl ?_
  refine kx_Vi 5 (ci := 0) F (As := [vI a1]) (st := []) vd_X12_282 (e_X12_isAutomaton G l M a1 hI_M (by omega)) kd_163 rfl rfl rfl ⟨by decide, by decide⟩ rfl rfl (Nat.le_of_ble_eq_true rfl) dX12_watch_2 rfl ?_
  intro r_3 N_4 q_5
  obtain ⟨rfl, q_5c⟩ := q_5
  rcases q_5c with q_5c | q_5c | q_5c
  · refine kx_if_ne 8 F 14 dX12_watch_5 (by decide) rfl (by omega) (fun h_6 => ?_) (fun h_6 => (by exfalso; omega))
    refine kx_aload_n 15 F 0 dX12_watch_14 rfl rfl rfl ?_
    refine kx_getr 18 F fl_X12_7 kd_163 rfl rfl (j := 0) rfl dX12_watch_15 (v := 164) (uq_164 (Inv.r hI_M kd_163 rfl 0 rfl rfl)) rfl ?_
    refine kx_iconst 19 F dX12_watch_18 rfl ?_
    refine kx_iload_n 20 F 1 dX12_watch_19 rfl rfl rfl ?_
    refine kx_iast 21 F kd_164 rfl rfl (by omega) (by decide) dX12_watch_20 rfl ?_
    intro N_7 hM_N_7
    have ha_8 : atlo 4 = (-1) ∧ athi 4 = 1 := at_c 4 0 (o := 4) (lo := (-1)) (hi := 1) (by omega) (by decide) (by decide) (by decide)
    have hI_N_7 : Inv true N_7 := Inv.u hI_M hM_N_7 kd_164 (a := (-1)) (b := 1) ha_8.1 ha_8.2 rfl (by omega)
    have hF_N_7 : Fr f_e_watch4m M N_7 := Fr.u hF_M hM_N_7 kd_164 rfl
    refine kx_aload_n 22 F 0 dX12_watch_21 rfl rfl rfl ?_
    refine kx_getr 25 F fl_X12_7 kd_163 rfl rfl (j := 0) rfl dX12_watch_22 (v := 164) (uq_164 (Inv.r hI_N_7 kd_163 rfl 0 rfl rfl)) rfl ?_
    refine kx_iconst 26 F dX12_watch_25 rfl ?_
    refine kx_iconst 27 F dX12_watch_26 rfl ?_
    refine kx_iast 28 F kd_164 rfl rfl (by omega) (by decide) dX12_watch_27 rfl ?_
    intro N_9 hM_N_9
    have ha_10 : atlo 5 = (-2147483648) ∧ athi 5 = 2147483647 := at_c 5 0 (o := 5) (lo := (-2147483648)) (hi := 2147483647) (by omega) (by decide) (by decide) (by decide)
    have hI_N_9 : Inv true N_9 := Inv.u hI_N_7 hM_N_9 kd_164 (a := (-2147483648)) (b := 2147483647) ha_10.1 ha_10.2 rfl (by omega)
    have hF_N_9 : Fr f_e_watch4m M N_9 := Fr.u hF_N_7 hM_N_9 kd_164 rfl
    refine kx_aload_n 29 F 0 dX12_watch_28 rfl rfl rfl ?_
    refine kx_getr 32 F fl_X12_7 kd_163 rfl rfl (j := 0) rfl dX12_watch_29 (v := 164) (uq_164 (Inv.r hI_N_9 kd_163 rfl 0 rfl rfl)) rfl ?_
    refine kx_bipush 34 F dX12_watch_32 (by decide) rfl ?_
    refine kx_iconst 35 F dX12_watch_34 rfl ?_
    refine kx_iast 36 F kd_164 rfl rfl (by omega) (by decide) dX12_watch_35 rfl ?_
    intro N_11 hM_N_11
    have ha_12 : atlo 6 = 0 ∧ athi 6 = 30 := at_c 6 0 (o := 6) (lo := 0) (hi := 30) (by omega) (by decide) (by decide) (by decide)
    have hI_N_11 : Inv true N_11 := Inv.u hI_N_9 hM_N_11 kd_164 (a := 0) (b := 30) ha_12.1 ha_12.2 rfl (by omega)
    have hF_N_11 : Fr f_e_watch4m M N_11 := Fr.u hF_N_9 hM_N_11 kd_164 rfl
    refine kx_aload_n 37 F 0 dX12_watch_36 rfl rfl rfl ?_
    refine kx_getr 40 F fl_X12_7 kd_163 rfl rfl (j := 0) rfl dX12_watch_37 (v := 164) (uq_164 (Inv.r hI_N_11 kd_163 rfl 0 rfl rfl)) rfl ?_
    refine kx_bipush 42 F dX12_watch_40 (by decide) rfl ?_
    refine kx_aload_n 43 F 0 dX12_watch_42 rfl rfl rfl ?_
    refine kx_iload_n 44 F 1 dX12_watch_43 rfl rfl rfl ?_
    refine kx_iconst 45 F dX12_watch_44 rfl ?_
    refine kx_Vi 48 (ci := 0) F (As := [vI a1, vI 2]) (st := [vI 7, vR G 164]) vd_X12_288 (e_of2 G l N_11 a1 2 hI_N_11 (by omega)) kd_163 rfl rfl rfl ⟨by decide, by decide⟩ rfl rfl (Nat.le_of_ble_eq_true rfl) dX12_watch_45 rfl ?_
    intro r_13 N_14 q_15
    obtain ⟨rfl, q_15c⟩ := q_15
    have e_16 : (N_11 164 (85 * a1 + 102)) = (M 164 (85 * a1 + 102)) := by rw [hM_N_11, mu_i (by omega), hM_N_9, mu_i (by omega), hM_N_7, mu_i (by omega)]
    refine kx_topi (e' := (N_11 164 (85 * a1 + 102))) (by omega) ?_
    refine kx_iast 49 F kd_164 rfl rfl (by omega) (by decide) dX12_watch_48 rfl ?_
    intro N_18 hM_N_18
    have ha_19 : atlo 7 = 0 ∧ athi 7 = 7 := at_c 7 0 (o := 7) (lo := 0) (hi := 7) (by omega) (by decide) (by decide) (by decide)
    have hI_N_18 : Inv true N_18 := Inv.u hI_N_11 hM_N_18 kd_164 (a := 0) (b := 7) ha_19.1 ha_19.2 rfl (by omega)
    have hF_N_18 : Fr f_e_watch4m M N_18 := Fr.u hF_N_11 hM_N_18 kd_164 rfl
    refine kx_aload_n 50 F 0 dX12_watch_49 rfl rfl rfl ?_
    refine kx_getr 53 F fl_X12_7 kd_163 rfl rfl (j := 0) rfl dX12_watch_50 (v := 164) (uq_164 (Inv.r hI_N_18 kd_163 rfl 0 rfl rfl)) rfl ?_
    refine kx_bipush 55 F dX12_watch_53 (by decide) rfl ?_
    refine kx_aload_n 56 F 0 dX12_watch_55 rfl rfl rfl ?_
    refine kx_iload_n 57 F 1 dX12_watch_56 rfl rfl rfl ?_
    refine kx_Vi 60 (ci := 0) F (As := [vI a1]) (st := [vI 8, vR G 164]) vd_X12_329 (e_same G l N_18 a1 hI_N_18 (by omega)) kd_163 rfl rfl rfl ⟨by decide, by decide⟩ rfl rfl (Nat.le_of_ble_eq_true rfl) dX12_watch_57 rfl ?_
    intro r_20 N_21 q_22
    obtain ⟨rfl, q_22c, hz_N_21⟩ := q_22
    refine kx_iast 61 F kd_164 rfl rfl (by omega) (by decide) dX12_watch_60 rfl ?_
    intro N_23 hM_N_23
    have ha_24 : atlo 8 = 0 ∧ athi 8 = 511 := at_c 8 0 (o := 8) (lo := 0) (hi := 511) (by omega) (by decide) (by decide) (by decide)
    have hI_N_23 : Inv true N_23 := Inv.u hI_N_18 hM_N_23 kd_164 (a := 0) (b := 511) ha_24.1 ha_24.2 rfl (by omega)
    have hF_N_23 : Fr f_e_watch4m M N_23 := Fr.u hF_N_18 hM_N_23 kd_164 rfl
    refine kx_aload_n 62 F 0 dX12_watch_61 rfl rfl rfl ?_
    refine kx_aload_n 63 F 0 dX12_watch_62 rfl rfl rfl ?_
    have e_25 : (N_23 164 4) = a1 := by rw [hM_N_23, mu_i (by omega), hM_N_18, mu_i (by omega), hM_N_11, mu_i (by omega), hM_N_9, mu_i (by omega), hM_N_7, mu_s]
    refine kx_Vi 66 (ci := 0) F (As := []) (st := [vR G 163]) vd_X12_522 (e_isTakenNow3 G l N_23  hI_N_23 (by omega)) kd_163 rfl rfl rfl ⟨by decide, by decide⟩ rfl rfl (Nat.le_of_ble_eq_true rfl) dX12_watch_63 rfl ?_
    intro r_26 N_27 q_28
    obtain ⟨rfl, q_28c⟩ := q_28
    rcases q_28c with q_28c | q_28c
    · refine kx_Vi 69 (ci := 0) F (As := [vI r_26]) (st := []) vd_X12_127 (c_X12_gives G l N_23 r_26 hI_N_23 (by omega)) kd_163 rfl rfl rfl ⟨by decide, by decide⟩ rfl rfl (Nat.le_of_ble_eq_true rfl) dX12_watch_66 rfl ?_
      intro r_29 N_30 q_31
      obtain ⟨hI_N_30, hG_N_30, q_31c⟩ := q_31
      have hF_N_30 : Fr f_e_watch4m M N_30 := Fr.c hF_N_23 hG_N_30 rfl
      refine kx_topi (e' := r_26) (by omega) ?_
      have e_32 : (N_23 164 7) = (N_11 164 (85 * a1 + 102)) := by rw [hM_N_23, mu_i (by omega), hM_N_18, mu_s]
      have e_34 : (N_23 164 (85 * a1 + 103)) = (M 164 (85 * a1 + 103)) := by rw [hM_N_23, mu_i (by omega), hM_N_18, mu_i (by omega), hM_N_11, mu_i (by omega), hM_N_9, mu_i (by omega), hM_N_7, mu_i (by omega)]
      have hqb := hU.b (a := a1) (b := 85 * a1 + 100) (by omega) rfl
      have hq2 : M 164 (85 * a1 + 102) = q (85 * a1 + 102) := hqb.n (d := 2) (by decide) (by omega)
      have hq3 : M 164 (85 * a1 + 103) = q (85 * a1 + 103) := hqb.n (d := 3) (by decide) (by omega)
      have hzw : zand (N_23 164 7) (N_23 164 (85 * N_23 164 4 + 103)) = zand (q (85 * a1 + 102)) (q (85 * a1 + 103)) := by rw [show N_23 164 4 = a1 by omega, show N_23 164 7 = q (85 * a1 + 102) by omega, show N_23 164 (85 * a1 + 103) = q (85 * a1 + 103) by omega]
      have e_35 : (N_30 164 4) = a1 := by rw [Fr.e hG_N_30 kd_164 _ rfl, hM_N_23, mu_i (by omega), hM_N_18, mu_i (by omega), hM_N_11, mu_i (by omega), hM_N_9, mu_i (by omega), hM_N_7, mu_s]
      have e_36 : (N_30 164 5) = 0 := by rw [Fr.e hG_N_30 kd_164 _ rfl, hM_N_23, mu_i (by omega), hM_N_18, mu_i (by omega), hM_N_11, mu_i (by omega), hM_N_9, mu_s]
      have e_37 : (N_30 164 6) = 0 := by rw [Fr.e hG_N_30 kd_164 _ rfl, hM_N_23, mu_i (by omega), hM_N_18, mu_i (by omega), hM_N_11, mu_s]
      have e_38 : (N_30 164 7) = (N_11 164 (85 * a1 + 102)) := by rw [Fr.e hG_N_30 kd_164 _ rfl, hM_N_23, mu_i (by omega), hM_N_18, mu_s]
      have e_39 : (N_30 164 8) = r_20 := by rw [Fr.e hG_N_30 kd_164 _ rfl, hM_N_23, mu_s]
      have e_40 : (N_18 164 (85 * a1 + 100)) = (M 164 (85 * a1 + 100)) := by rw [hM_N_18, mu_i (by omega), hM_N_11, mu_i (by omega), hM_N_9, mu_i (by omega), hM_N_7, mu_i (by omega)]
      have hqb := hU.b (a := a1) (b := 85 * a1 + 100) (by omega) rfl
      have hq0 : M 164 (85 * a1 + 100) = q (85 * a1 + 100) := hqb.n (d := 0) (by decide) (by omega)
      have he8 : r_20 = smeZ (q (85 * a1 + 100)) := hz_N_21.trans (congrArg smeZ (by rw [show (100 : Int) + 85 * a1 = 85 * a1 + 100 by omega]; omega))
      exact kx_iret F hQ ⟨hI_N_30, hF_N_30, (by omega), ⟨(YY.fr (YY.sta (YY.sta (YY.sta (YY.sta (YY.sta hY hI_M hM_N_7 (by omega)) hI_N_7 hM_N_9 (by omega)) hI_N_9 hM_N_11 (by omega)) hI_N_11 hM_N_18 (by omega)) hI_N_18 hM_N_23 (by omega)) hG_N_30 rfl), ⟨⟨(zRW.fr (zRW.sta (zRW.sta (zRW.sta (zRW.sta (zRW.sta (zRW.rf M) hM_N_7 (by omega)) hM_N_9 (by omega)) hM_N_11 (by omega)) hM_N_18 (by omega)) hM_N_23 (by omega)) hG_N_30 rfl), (Or.inl ⟨by omega, Or.inl ⟨by omega, by omega⟩⟩)⟩, fun _ _ => ⟨by omega, by omega, by omega, by omega, by omega⟩, fun h => absurd (And.intro (by omega) (by omega)) h⟩⟩⟩ dX12_watch_69
    · refine kx_Vi 69 (ci := 0) F (As := [vI r_26]) (st := []) vd_X12_127 (c_X12_gives G l N_23 r_26 hI_N_23 (by omega)) kd_163 rfl rfl rfl ⟨by decide, by decide⟩ rfl rfl (Nat.le_of_ble_eq_true rfl) dX12_watch_66 rfl ?_
      intro r_41 N_42 q_43
      obtain ⟨hI_N_42, hG_N_42, q_43c⟩ := q_43
      have hF_N_42 : Fr f_e_watch4m M N_42 := Fr.c hF_N_23 hG_N_42 rfl
      refine kx_topi (e' := r_26) (by omega) ?_
      have e_44 : (N_23 164 7) = (N_11 164 (85 * a1 + 102)) := by rw [hM_N_23, mu_i (by omega), hM_N_18, mu_s]
      have e_46 : (N_23 164 (85 * a1 + 103)) = (M 164 (85 * a1 + 103)) := by rw [hM_N_23, mu_i (by omega), hM_N_18, mu_i (by omega), hM_N_11, mu_i (by omega), hM_N_9, mu_i (by omega), hM_N_7, mu_i (by omega)]
      have hqb := hU.b (a := a1) (b := 85 * a1 + 100) (by omega) rfl
      have hq2 : M 164 (85 * a1 + 102) = q (85 * a1 + 102) := hqb.n (d := 2) (by decide) (by omega)
      have hq3 : M 164 (85 * a1 + 103) = q (85 * a1 + 103) := hqb.n (d := 3) (by decide) (by omega)
      have hzw : zand (N_23 164 7) (N_23 164 (85 * N_23 164 4 + 103)) = zand (q (85 * a1 + 102)) (q (85 * a1 + 103)) := by rw [show N_23 164 4 = a1 by omega, show N_23 164 7 = q (85 * a1 + 102) by omega, show N_23 164 (85 * a1 + 103) = q (85 * a1 + 103) by omega]
      have e_47 : (N_42 164 4) = a1 := by rw [Fr.e hG_N_42 kd_164 _ rfl, hM_N_23, mu_i (by omega), hM_N_18, mu_i (by omega), hM_N_11, mu_i (by omega), hM_N_9, mu_i (by omega), hM_N_7, mu_s]
      have e_48 : (N_42 164 5) = 0 := by rw [Fr.e hG_N_42 kd_164 _ rfl, hM_N_23, mu_i (by omega), hM_N_18, mu_i (by omega), hM_N_11, mu_i (by omega), hM_N_9, mu_s]
      have e_49 : (N_42 164 6) = 0 := by rw [Fr.e hG_N_42 kd_164 _ rfl, hM_N_23, mu_i (by omega), hM_N_18, mu_i (by omega), hM_N_11, mu_s]
      have e_50 : (N_42 164 7) = (N_11 164 (85 * a1 + 102)) := by rw [Fr.e hG_N_42 kd_164 _ rfl, hM_N_23, mu_i (by omega), hM_N_18, mu_s]
      have e_51 : (N_42 164 8) = r_20 := by rw [Fr.e hG_N_42 kd_164 _ rfl, hM_N_23, mu_s]
      have e_52 : (N_18 164 (85 * a1 + 100)) = (M 164 (85 * a1 + 100)) := by rw [hM_N_18, mu_i (by omega), hM_N_11, mu_i (by omega), hM_N_9, mu_i (by omega), hM_N_7, mu_i (by omega)]
      have hqb := hU.b (a := a1) (b := 85 * a1 + 100) (by omega) rfl
      have hq0 : M 164 (85 * a1 + 100) = q (85 * a1 + 100) := hqb.n (d := 0) (by decide) (by omega)
      have he8 : r_20 = smeZ (q (85 * a1 + 100)) := hz_N_21.trans (congrArg smeZ (by rw [show (100 : Int) + 85 * a1 = 85 * a1 + 100 by omega]; omega))
      exact kx_iret F hQ ⟨hI_N_42, hF_N_42, (by omega), ⟨(YY.fr (YY.sta (YY.sta (YY.sta (YY.sta (YY.sta hY hI_M hM_N_7 (by omega)) hI_N_7 hM_N_9 (by omega)) hI_N_9 hM_N_11 (by omega)) hI_N_11 hM_N_18 (by omega)) hI_N_18 hM_N_23 (by omega)) hG_N_42 rfl), ⟨⟨(zRW.fr (zRW.sta (zRW.sta (zRW.sta (zRW.sta (zRW.sta (zRW.rf M) hM_N_7 (by omega)) hM_N_9 (by omega)) hM_N_11 (by omega)) hM_N_18 (by omega)) hM_N_23 (by omega)) hG_N_42 rfl), (Or.inl ⟨by omega, Or.inr ⟨by omega, by omega⟩⟩)⟩, fun _ _ => ⟨by omega, by omega, by omega, by omega, by omega⟩, fun h => absurd (And.intro (by omega) (by omega)) h⟩⟩⟩ dX12_watch_69
  · refine kx_if_ne 8 F 14 dX12_watch_5 (by decide) rfl (by omega) (fun h_53 => (by exfalso; omega)) (fun h_53 => ?_)
    refine kx_aload_n 9 F 0 dX12_watch_8 rfl rfl rfl ?_
    refine kx_iconst 10 F dX12_watch_9 rfl ?_
    refine kx_Vi 13 (ci := 0) F (As := [vI 1]) (st := []) vd_X12_123 (c_X12_refuse G l M 1 hI_M (by omega)) kd_163 rfl rfl rfl ⟨by decide, by decide⟩ rfl rfl (Nat.le_of_ble_eq_true rfl) dX12_watch_10 rfl ?_
    intro r_54 N_55 q_56
    obtain ⟨hI_N_55, hG_N_55, q_56c⟩ := q_56
    have hF_N_55 : Fr f_e_watch4m M N_55 := Fr.c hF_M hG_N_55 rfl
    subst q_56c
    exact kx_iret F hQ ⟨hI_N_55, hF_N_55, (by omega), ⟨(YY.fr hY hG_N_55 rfl), ⟨⟨(zRW.fr (zRW.rf M) hG_N_55 rfl), (Or.inr ⟨fun h => by omega, by omega⟩)⟩, fun h1 h2 => by exfalso; omega, fun _ => (hG_N_55.fn kd_164 rfl)⟩⟩⟩ dX12_watch_13
  · refine kx_if_ne 8 F 14 dX12_watch_5 (by decide) rfl (by omega) (fun h_57 => (by exfalso; omega)) (fun h_57 => ?_)
    refine kx_aload_n 9 F 0 dX12_watch_8 rfl rfl rfl ?_
    refine kx_iconst 10 F dX12_watch_9 rfl ?_
    refine kx_Vi 13 (ci := 0) F (As := [vI 1]) (st := []) vd_X12_123 (c_X12_refuse G l M 1 hI_M (by omega)) kd_163 rfl rfl rfl ⟨by decide, by decide⟩ rfl rfl (Nat.le_of_ble_eq_true rfl) dX12_watch_10 rfl ?_
    intro r_58 N_59 q_60
    obtain ⟨hI_N_59, hG_N_59, q_60c⟩ := q_60
    have hF_N_59 : Fr f_e_watch4m M N_59 := Fr.c hF_M hG_N_59 rfl
    subst q_60c
    exact kx_iret F hQ ⟨hI_N_59, hF_N_59, (by omega), ⟨(YY.fr hY hG_N_59 rfl), ⟨⟨(zRW.fr (zRW.rf M) hG_N_59 rfl), (Or.inr ⟨fun h => by omega, by omega⟩)⟩, fun h1 h2 => by exfalso; omega, fun _ => (hG_N_59.fn kd_164 rfl)⟩⟩⟩ dX12_watch_13
abbrev f_e_comesBack3 : List (Nat × Int) := [(65, -1)]
set_option maxHeartbeats 4000000 in
set_option maxRecDepth 100000 in
theorem e_comesBack3 (G : KG) (l : Launch) (M : Mem) (a1 : Int) (a2 : Int) (hI_M : Inv true M) (hpre : -2147483648 ≤ a1 ∧ a1 ≤ 2147483647 ∧ -2147483648 ≤ a2 ∧ a2 ≤ 2147483647 ∧ 0 ≤ a1 ∧ a1 ≤ 1 ∧ 0 ≤ a2 ∧ a2 ≤ 5) (hY : YY M)  (q : Int → Int) (hS : zRN (M 164) q) (hU : zRU (M 164) q) (hC : zQC q) (hV : zQV q) (hD : LD M) (ha : a1 < q 3) (hso : a2 < q 0 → False) : KC true G l yX12_comesBack cX12_comesBack 5 none (3, 75) [vR G 163, vI a1, vI a2] M (fun A => kQv true G A (fun (N : Mem) => Inv true N ∧ Fr f_e_comesBack3 M N ∧ ((N 164 4) = (M 164 4)) ∧ (((YY N) ∧ (zRW N M)) ∧ (N 164 = zCB (M 164) (zst q (85 * a1 + 100)) (zks q (85 * a1 + 100)) a2)))) := by
  refine kx_met (lo := [some (vR G 163), some (vI a1), some (vI a2), none, none]) (by decide) (Nat.le_of_ble_eq_true rfl) rfl ?_
  intro X F hQ
  have hF_M : Fr f_e_comesBack3 M M := Fr.rf _ _
  have hSn := hS.u
  have h_1 := Inv.g hI_M kd_164 rfl 0 (a := 0) (b := 2) (at_c 0 0 (o := 0) (lo := 0) (hi := 2) (by omega) (by decide) (by decide) (by decide)).1 (at_c 0 0 (o := 0) (lo := 0) (hi := 2) (by omega) (by decide) (by decide) (by decide)).2
  have h_2 := Inv.g hI_M kd_164 rfl 1 (a := 0) (b := 2) (at_c 1 0 (o := 1) (lo := 0) (hi := 2) (by omega) (by decide) (by decide) (by decide)).1 (at_c 1 0 (o := 1) (lo := 0) (hi := 2) (by omega) (by decide) (by decide) (by decide)).2
  have h_3 := Inv.g hI_M kd_164 rfl 2 (a := 0) (b := 2) (at_c 2 0 (o := 2) (lo := 0) (hi := 2) (by omega) (by decide) (by decide) (by decide)).1 (at_c 2 0 (o := 2) (lo := 0) (hi := 2) (by omega) (by decide) (by decide) (by decide)).2
  refine kx_aload_n 1 F 0 dX12_comesBack_0 rfl rfl rfl ?_
  refine kx_getr 4 F fl_X12_7 kd_163 rfl rfl (j := 0) rfl dX12_comesBack_1 (v := 164) (uq_164 (Inv.r hI_M kd_163 rfl 0 rfl rfl)) rfl ?_
  refine kx_bipush 6 F dX12_comesBack_4 (by decide) rfl ?_
  refine kx_iald 7 F kd_164 rfl rfl (by omega) (by decide) dX12_comesBack_6 (v := (M 164 6)) rfl rfl ?_
  have ha_4 : atlo 6 = 0 ∧ athi 6 = 30 := at_c 6 0 (o := 6) (lo := 0) (hi := 30) (by omega) (by decide) (by decide) (by decide)
  have h_5 := Inv.g hI_M kd_164 rfl 6 (a := 0) (b := 30) ha_4.1 ha_4.2
  refine kx_if_ne 10 F 61 dX12_comesBack_7 (by decide) rfl (by omega) (fun h_6 => ?_) (fun h_6 => ?_)
  · refine kx_aload_n 62 F 0 dX12_comesBack_61 rfl rfl rfl ?_
    refine kx_getr 65 F fl_X12_7 kd_163 rfl rfl (j := 0) rfl dX12_comesBack_62 (v := 164) (uq_164 (Inv.r hI_M kd_163 rfl 0 rfl rfl)) rfl ?_
    refine kx_bipush 67 F dX12_comesBack_65 (by decide) rfl ?_
    refine kx_dup2 68 F dX12_comesBack_67 rfl rfl rfl ?_
    refine kx_iald 69 F kd_164 rfl rfl (by omega) (by decide) dX12_comesBack_68 (v := (M 164 6)) rfl rfl ?_
    refine kx_iconst 70 F dX12_comesBack_69 rfl ?_
    refine kx_isub 71 F (v := (M 164 6) - 1) dX12_comesBack_70 rfl rfl ?_
    refine kx_iast 72 F kd_164 rfl rfl (by omega) (by decide) dX12_comesBack_71 rfl ?_
    intro N_7 hM_N_7
    have hI_N_7 : Inv true N_7 := Inv.u hI_M hM_N_7 kd_164 (a := 0) (b := 30) ha_4.1 ha_4.2 rfl (by omega)
    have hF_N_7 : Fr f_e_comesBack3 M N_7 := Fr.u hF_M hM_N_7 kd_164 rfl
    refine kx_aload_n 73 F 0 dX12_comesBack_72 rfl rfl rfl ?_
    refine kx_aload_n 74 F 0 dX12_comesBack_73 rfl rfl rfl ?_
    refine kx_getr 77 F fl_X12_7 kd_163 rfl rfl (j := 0) rfl dX12_comesBack_74 (v := 164) (uq_164 (Inv.r hI_N_7 kd_163 rfl 0 rfl rfl)) rfl ?_
    refine kx_bipush 79 F dX12_comesBack_77 (by decide) rfl ?_
    refine kx_iald 80 F kd_164 rfl rfl (by omega) (by decide) dX12_comesBack_79 (v := (M 164 6) - 1) (by rw [hM_N_7, mu_s]) rfl ?_
    refine kx_Vi 83 (ci := 0) F (As := [vI ((M 164 6) - 1)]) (st := []) vd_X12_525 (c_belowRowE G l N_7 ((M 164 6) - 1) hI_N_7 (by omega)) kd_163 rfl rfl rfl ⟨by decide, by decide⟩ rfl rfl (Nat.le_of_ble_eq_true rfl) dX12_comesBack_80 rfl ?_
    intro r_8 N_9 q_10
    obtain ⟨rfl, q_10c⟩ := q_10
    refine kx_topi (e' := 3 * (M 164 6) + 7) (by omega) ?_
    refine kx_istore_n 84 F 3 (lo' := [some (vR G 163), some (vI a1), some (vI a2), some (vI (3 * (M 164 6) + 7)), none]) dX12_comesBack_83 rfl (by decide) rfl rfl rfl ?_
    refine kx_aload_n 85 F 0 dX12_comesBack_84 rfl rfl rfl ?_
    refine kx_iload_n 86 F 1 dX12_comesBack_85 rfl rfl rfl ?_
    refine kx_aload_n 87 F 0 dX12_comesBack_86 rfl rfl rfl ?_
    refine kx_getr 90 F fl_X12_7 kd_163 rfl rfl (j := 0) rfl dX12_comesBack_87 (v := 164) (uq_164 (Inv.r hI_N_7 kd_163 rfl 0 rfl rfl)) rfl ?_
    refine kx_bipush 92 F dX12_comesBack_90 (by decide) rfl ?_
    refine kx_iald 93 F kd_164 rfl rfl (by omega) (by decide) dX12_comesBack_92 (v := (M 164 8)) (by rw [hM_N_7, mu_i (by omega)]) rfl ?_
    have ha_11 : atlo 8 = 0 ∧ athi 8 = 511 := at_c 8 0 (o := 8) (lo := 0) (hi := 511) (by omega) (by decide) (by decide) (by decide)
    have h_12 := Inv.g hI_M kd_164 rfl 8 (a := 0) (b := 511) ha_11.1 ha_11.2
    refine kx_aload_n 94 F 0 dX12_comesBack_93 rfl rfl rfl ?_
    refine kx_getr 97 F fl_X12_7 kd_163 rfl rfl (j := 0) rfl dX12_comesBack_94 (v := 164) (uq_164 (Inv.r hI_N_7 kd_163 rfl 0 rfl rfl)) rfl ?_
    refine kx_iload_n 98 F 3 dX12_comesBack_97 rfl rfl rfl ?_
    refine kx_iconst 99 F dX12_comesBack_98 rfl ?_
    refine kx_iadd 100 F (v := 3 * (M 164 6) + 9) dX12_comesBack_99 (by omega) rfl ?_
    refine kx_iald 101 F kd_164 rfl rfl (by omega) (by decide) dX12_comesBack_100 (v := (M 164 (3 * (M 164 6) + 9))) (by rw [hM_N_7, mu_i (by omega)]) rfl ?_
    have ha_13 : atlo (3 * (M 164 6) + 9) = 0 ∧ athi (3 * (M 164 6) + 9) = 5 := at_b (3 * (M 164 6) + 9) 0 ((M 164 6) - 1) 2 (by omega) (by omega) (by decide)
    have h_14 := Inv.g hI_M kd_164 rfl (3 * (M 164 6) + 9) (a := 0) (b := 5) ha_13.1 ha_13.2
    refine kx_iload_n 102 F 2 dX12_comesBack_101 rfl rfl rfl ?_
    refine kx_Vi 105 (ci := 0) F (As := [vI a1, vI (M 164 8), vI (M 164 (3 * (M 164 6) + 9)), vI a2]) (st := []) vd_X12_335 (e_over G l N_7 a1 (M 164 8) (M 164 (3 * (M 164 6) + 9)) a2 hI_N_7 (by omega)) kd_163 rfl rfl rfl ⟨by decide, by decide⟩ rfl rfl (Nat.le_of_ble_eq_true rfl) dX12_comesBack_102 rfl ?_
    intro r_15 N_16 q_17
    obtain ⟨rfl, q_17c, hz_N_16⟩ := q_17
    refine kx_istore 107 F 4 (lo' := [some (vR G 163), some (vI a1), some (vI a2), some (vI (3 * (M 164 6) + 7)), some (vI r_15)]) dX12_comesBack_105 (by decide) rfl rfl rfl ?_
    refine kx_aload_n 108 F 0 dX12_comesBack_107 rfl rfl rfl ?_
    refine kx_getr 111 F fl_X12_7 kd_163 rfl rfl (j := 0) rfl dX12_comesBack_108 (v := 164) (uq_164 (Inv.r hI_N_7 kd_163 rfl 0 rfl rfl)) rfl ?_
    refine kx_bipush 113 F dX12_comesBack_111 (by decide) rfl ?_
    refine kx_aload_n 114 F 0 dX12_comesBack_113 rfl rfl rfl ?_
    refine kx_getr 117 F fl_X12_7 kd_163 rfl rfl (j := 0) rfl dX12_comesBack_114 (v := 164) (uq_164 (Inv.r hI_N_7 kd_163 rfl 0 rfl rfl)) rfl ?_
    refine kx_iload_n 118 F 3 dX12_comesBack_117 rfl rfl rfl ?_
    refine kx_iald 119 F kd_164 rfl rfl (by omega) (by decide) dX12_comesBack_118 (v := (M 164 (3 * (M 164 6) + 7))) (by rw [hM_N_7, mu_i (by omega)]) rfl ?_
    have ha_18 : atlo (3 * (M 164 6) + 7) = 0 ∧ athi (3 * (M 164 6) + 7) = 7 := at_b (3 * (M 164 6) + 7) 0 ((M 164 6) - 1) 0 (by omega) (by omega) (by decide)
    have h_19 := Inv.g hI_M kd_164 rfl (3 * (M 164 6) + 7) (a := 0) (b := 7) ha_18.1 ha_18.2
    refine kx_iload 121 F 4 dX12_comesBack_119 rfl rfl ?_
    refine kx_Si 124 F (As := [vI (M 164 (3 * (M 164 6) + 7)), vI r_15]) (st := [vI 7, vR G 164]) sd_X12_332 (e_image3m G l N_7 (M 164 (3 * (M 164 6) + 7)) r_15 hI_N_7 (by omega)) ⟨by decide, by decide⟩ rfl rfl (Nat.le_of_ble_eq_true rfl) dX12_comesBack_121 rfl ?_
    intro r_20 N_21 q_22
    obtain ⟨rfl, q_22c, hz_N_21⟩ := q_22
    refine kx_iast 125 F kd_164 rfl rfl (by omega) (by decide) dX12_comesBack_124 rfl ?_
    intro N_23 hM_N_23
    have ha_24 : atlo 7 = 0 ∧ athi 7 = 7 := at_c 7 0 (o := 7) (lo := 0) (hi := 7) (by omega) (by decide) (by decide) (by decide)
    have hI_N_23 : Inv true N_23 := Inv.u hI_N_7 hM_N_23 kd_164 (a := 0) (b := 7) ha_24.1 ha_24.2 rfl (by omega)
    have hF_N_23 : Fr f_e_comesBack3 M N_23 := Fr.u hF_N_7 hM_N_23 kd_164 rfl
    refine kx_aload_n 126 F 0 dX12_comesBack_125 rfl rfl rfl ?_
    refine kx_getr 129 F fl_X12_7 kd_163 rfl rfl (j := 0) rfl dX12_comesBack_126 (v := 164) (uq_164 (Inv.r hI_N_23 kd_163 rfl 0 rfl rfl)) rfl ?_
    refine kx_bipush 131 F dX12_comesBack_129 (by decide) rfl ?_
    refine kx_aload_n 132 F 0 dX12_comesBack_131 rfl rfl rfl ?_
    refine kx_getr 135 F fl_X12_7 kd_163 rfl rfl (j := 0) rfl dX12_comesBack_132 (v := 164) (uq_164 (Inv.r hI_N_23 kd_163 rfl 0 rfl rfl)) rfl ?_
    refine kx_iload_n 136 F 3 dX12_comesBack_135 rfl rfl rfl ?_
    refine kx_iconst 137 F dX12_comesBack_136 rfl ?_
    refine kx_iadd 138 F (v := 3 * (M 164 6) + 8) dX12_comesBack_137 (by omega) rfl ?_
    refine kx_iald 139 F kd_164 rfl rfl (by omega) (by decide) dX12_comesBack_138 (v := (M 164 (3 * (M 164 6) + 8))) (by rw [hM_N_23, mu_i (by omega), hM_N_7, mu_i (by omega)]) rfl ?_
    have ha_25 : atlo (3 * (M 164 6) + 8) = 0 ∧ athi (3 * (M 164 6) + 8) = 511 := at_b (3 * (M 164 6) + 8) 0 ((M 164 6) - 1) 1 (by omega) (by omega) (by decide)
    have h_26 := Inv.g hI_M kd_164 rfl (3 * (M 164 6) + 8) (a := 0) (b := 511) ha_25.1 ha_25.2
    refine kx_iload 141 F 4 dX12_comesBack_139 rfl rfl ?_
    refine kx_Si 144 F (As := [vI (M 164 (3 * (M 164 6) + 8)), vI r_15]) (st := [vI 8, vR G 164]) sd_X12_326 (e_then G l N_23 (M 164 (3 * (M 164 6) + 8)) r_15 hI_N_23 (by omega)) ⟨by decide, by decide⟩ rfl rfl (Nat.le_of_ble_eq_true rfl) dX12_comesBack_141 rfl ?_
    intro r_27 N_28 q_29
    obtain ⟨rfl, q_29c, hz_N_28⟩ := q_29
    refine kx_iast 145 F kd_164 rfl rfl (by omega) (by decide) dX12_comesBack_144 rfl ?_
    intro N_30 hM_N_30
    have hI_N_30 : Inv true N_30 := Inv.u hI_N_23 hM_N_30 kd_164 (a := 0) (b := 511) ha_11.1 ha_11.2 rfl (by omega)
    have hF_N_30 : Fr f_e_comesBack3 M N_30 := Fr.u hF_N_23 hM_N_30 kd_164 rfl
    have e_31 : (N_30 164 4) = (M 164 4) := by rw [hM_N_30, mu_i (by omega), hM_N_23, mu_i (by omega), hM_N_7, mu_i (by omega)]
    have hfn : N_30 164 = (upk (upk (upk (M 164) 6 ((M 164 6) - 1)) 7 r_20) 8 r_27) := by rw [mu_up hM_N_30, mu_up hM_N_23, mu_up hM_N_7]
    have ho_32 : r_15 = zovZ (zks q (85 * a1 + 100)) (M 164 (3 * (M 164 6) + 9)) a2 (M 164 8) 3 := hz_N_16.trans (by rw [show N_7 171 = M 171 from (funext (fun j => by rw [hM_N_7, mu_k kd_171 kd_164 rfl]))]; exact zLK_o hI_M hD hS hU ⟨by omega, by omega⟩ ⟨by omega, by omega⟩ ⟨by omega, by omega⟩)
    exact kx_vret F hQ ⟨hI_N_30, hF_N_30, (by omega), ⟨⟨(YY.sta (YY.sta (YY.sta hY hI_M hM_N_7 (by omega)) hI_N_7 hM_N_23 (by omega)) hI_N_23 hM_N_30 (by omega)), (zRW.sta (zRW.sta (zRW.sta (zRW.rf M) hM_N_7 (by omega)) hM_N_23 (by omega)) hM_N_30 (by omega))⟩, (zCB.b (i0 := (3 * (M 164 6) + 7)) (i1 := (3 * (M 164 6) + 8)) (i2 := (3 * (M 164 6) + 9)) (by omega) hfn (by omega) (by omega) (by omega) (by omega) ho_32 hz_N_21 hz_N_28)⟩⟩ dX12_comesBack_145
  · refine kx_aload_n 11 F 0 dX12_comesBack_10 rfl rfl rfl ?_
    refine kx_getr 14 F fl_X12_7 kd_163 rfl rfl (j := 0) rfl dX12_comesBack_11 (v := 164) (uq_164 (Inv.r hI_M kd_163 rfl 0 rfl rfl)) rfl ?_
    refine kx_bipush 16 F dX12_comesBack_14 (by decide) rfl ?_
    refine kx_aload_n 17 F 0 dX12_comesBack_16 rfl rfl rfl ?_
    refine kx_getr 20 F fl_X12_7 kd_163 rfl rfl (j := 0) rfl dX12_comesBack_17 (v := 164) (uq_164 (Inv.r hI_M kd_163 rfl 0 rfl rfl)) rfl ?_
    refine kx_bipush 22 F dX12_comesBack_20 (by decide) rfl ?_
    refine kx_iald 23 F kd_164 rfl rfl (by omega) (by decide) dX12_comesBack_22 (v := (M 164 7)) rfl rfl ?_
    have ha_33 : atlo 7 = 0 ∧ athi 7 = 7 := at_c 7 0 (o := 7) (lo := 0) (hi := 7) (by omega) (by decide) (by decide) (by decide)
    have h_34 := Inv.g hI_M kd_164 rfl 7 (a := 0) (b := 7) ha_33.1 ha_33.2
    refine kx_aload_n 24 F 0 dX12_comesBack_23 rfl rfl rfl ?_
    refine kx_iload_n 25 F 1 dX12_comesBack_24 rfl rfl rfl ?_
    refine kx_iload_n 26 F 2 dX12_comesBack_25 rfl rfl rfl ?_
    refine kx_bipush 28 F dX12_comesBack_26 (by decide) rfl ?_
    refine kx_Vi 31 (ci := 0) F (As := [vI a1, vI a2, vI 8]) (st := [vI (M 164 7), vI 7, vR G 164]) vd_X12_323 (e_leads G l M a1 a2 8 hI_M (by omega)) kd_163 rfl rfl rfl ⟨by decide, by decide⟩ rfl rfl (Nat.le_of_ble_eq_true rfl) dX12_comesBack_28 rfl ?_
    intro r_35 N_36 q_37
    obtain ⟨rfl, q_37c, hz_N_36⟩ := q_37
    refine kx_Si 34 F (As := [vI (M 164 7), vI r_35]) (st := [vI 7, vR G 164]) sd_X12_332 (e_image3m G l M (M 164 7) r_35 hI_M (by omega)) ⟨by decide, by decide⟩ rfl rfl (Nat.le_of_ble_eq_true rfl) dX12_comesBack_31 rfl ?_
    intro r_38 N_39 q_40
    obtain ⟨rfl, q_40c, hz_N_39⟩ := q_40
    refine kx_iast 35 F kd_164 rfl rfl (by omega) (by decide) dX12_comesBack_34 rfl ?_
    intro N_41 hM_N_41
    have hI_N_41 : Inv true N_41 := Inv.u hI_M hM_N_41 kd_164 (a := 0) (b := 7) ha_33.1 ha_33.2 rfl (by omega)
    have hF_N_41 : Fr f_e_comesBack3 M N_41 := Fr.u hF_M hM_N_41 kd_164 rfl
    refine kx_aload_n 36 F 0 dX12_comesBack_35 rfl rfl rfl ?_
    refine kx_getr 39 F fl_X12_7 kd_163 rfl rfl (j := 0) rfl dX12_comesBack_36 (v := 164) (uq_164 (Inv.r hI_N_41 kd_163 rfl 0 rfl rfl)) rfl ?_
    refine kx_bipush 41 F dX12_comesBack_39 (by decide) rfl ?_
    refine kx_aload_n 42 F 0 dX12_comesBack_41 rfl rfl rfl ?_
    refine kx_getr 45 F fl_X12_7 kd_163 rfl rfl (j := 0) rfl dX12_comesBack_42 (v := 164) (uq_164 (Inv.r hI_N_41 kd_163 rfl 0 rfl rfl)) rfl ?_
    refine kx_bipush 47 F dX12_comesBack_45 (by decide) rfl ?_
    refine kx_iald 48 F kd_164 rfl rfl (by omega) (by decide) dX12_comesBack_47 (v := (M 164 8)) (by rw [hM_N_41, mu_i (by omega)]) rfl ?_
    have ha_42 : atlo 8 = 0 ∧ athi 8 = 511 := at_c 8 0 (o := 8) (lo := 0) (hi := 511) (by omega) (by decide) (by decide) (by decide)
    have h_43 := Inv.g hI_M kd_164 rfl 8 (a := 0) (b := 511) ha_42.1 ha_42.2
    refine kx_aload_n 49 F 0 dX12_comesBack_48 rfl rfl rfl ?_
    refine kx_iload_n 50 F 1 dX12_comesBack_49 rfl rfl rfl ?_
    refine kx_iload_n 51 F 2 dX12_comesBack_50 rfl rfl rfl ?_
    refine kx_bipush 53 F dX12_comesBack_51 (by decide) rfl ?_
    refine kx_Vi 56 (ci := 0) F (As := [vI a1, vI a2, vI 8]) (st := [vI (M 164 8), vI 8, vR G 164]) vd_X12_323 (e_leads G l N_41 a1 a2 8 hI_N_41 (by omega)) kd_163 rfl rfl rfl ⟨by decide, by decide⟩ rfl rfl (Nat.le_of_ble_eq_true rfl) dX12_comesBack_53 rfl ?_
    intro r_44 N_45 q_46
    obtain ⟨rfl, q_46c, hz_N_45⟩ := q_46
    refine kx_Si 59 F (As := [vI (M 164 8), vI r_44]) (st := [vI 8, vR G 164]) sd_X12_326 (e_then G l N_41 (M 164 8) r_44 hI_N_41 (by omega)) ⟨by decide, by decide⟩ rfl rfl (Nat.le_of_ble_eq_true rfl) dX12_comesBack_56 rfl ?_
    intro r_47 N_48 q_49
    obtain ⟨rfl, q_49c, hz_N_48⟩ := q_49
    refine kx_iast 60 F kd_164 rfl rfl (by omega) (by decide) dX12_comesBack_59 rfl ?_
    intro N_50 hM_N_50
    have hI_N_50 : Inv true N_50 := Inv.u hI_N_41 hM_N_50 kd_164 (a := 0) (b := 511) ha_42.1 ha_42.2 rfl (by omega)
    have hF_N_50 : Fr f_e_comesBack3 M N_50 := Fr.u hF_N_41 hM_N_50 kd_164 rfl
    have e_51 : (N_50 164 4) = (M 164 4) := by rw [hM_N_50, mu_i (by omega), hM_N_41, mu_i (by omega)]
    have hfn : N_50 164 = (upk (upk (M 164) 7 r_38) 8 r_47) := by rw [mu_up hM_N_50, mu_up hM_N_41]
    have hl_52 : r_35 = zst q (85 * a1 + 100) a2 := hz_N_36.trans (by exact zLK_s hI_M hD hS hU hC ⟨by omega, by omega⟩ ⟨by omega, by omega⟩ (by rw [if_neg (by omega)]))
    have hl_53 : r_44 = zst q (85 * a1 + 100) a2 := hz_N_45.trans (by rw [show N_41 171 = M 171 from (funext (fun j => by rw [hM_N_41, mu_k kd_171 kd_164 rfl]))]; exact zLK_s hI_M hD hS hU hC ⟨by omega, by omega⟩ ⟨by omega, by omega⟩ (by rw [if_neg (by omega)]))
    exact kx_vret F hQ ⟨hI_N_50, hF_N_50, (by omega), ⟨⟨(YY.sta (YY.sta hY hI_M hM_N_41 (by omega)) hI_N_41 hM_N_50 (by omega)), (zRW.sta (zRW.sta (zRW.rf M) hM_N_41 (by omega)) hM_N_50 (by omega))⟩, (zCB.i (by omega) hfn (hz_N_39.trans (by rw [hl_52])) (hz_N_48.trans (by rw [hl_53])))⟩⟩ dX12_comesBack_60
abbrev f_e_see3m : List (Nat × Int) := [(64, 2), (65, -1), (72, -1)]
set_option maxHeartbeats 4000000 in
set_option maxRecDepth 100000 in
theorem e_see3m (G : KG) (l : Launch) (M : Mem) (a1 : Int) (hI_M : Inv true M) (hpre : -2147483648 ≤ a1 ∧ a1 ≤ 2147483647) (hY : YY M)  (q : Int → Int) (hS : zRN (M 164) q) (hU : zRU (M 164) q) (hC : zQC q) (hV : zQV q) (hw4 : 0 ≤ M 164 4 → M 164 4 < q 3) : KC true G l yX12_see cX12_see 4 (some .int) (4, 99) [vR G 163, vI a1] M (fun A => kQi true G A (fun (r : Int) (N : Mem) => Inv true N ∧ Fr f_e_see3m M N ∧ (r ≥ -1 ∧ r ≤ 1) ∧ (((YY N) ∧ (zRW N M)) ∧ (∃ g2, zSE q (M 164) a1 r g2 ∧ ∀ i, 3 ≤ i → i < 100 → N 164 i = g2 i)))) := by
  refine kx_met (lo := [some (vR G 163), some (vI a1), none, none]) (by decide) (Nat.le_of_ble_eq_true rfl) rfl ?_
  intro X F hQ
  have hF_M : Fr f_e_see3m M M := Fr.rf _ _
  have hSn := hS.u
  have h_1 := Inv.g hI_M kd_164 rfl 0 (a := 0) (b := 2) (at_c 0 0 (o := 0) (lo := 0) (hi := 2) (by omega) (by decide) (by decide) (by decide)).1 (at_c 0 0 (o := 0) (lo := 0) (hi := 2) (by omega) (by decide) (by decide) (by decide)).2
  have h_2 := Inv.g hI_M kd_164 rfl 1 (a := 0) (b := 2) (at_c 1 0 (o := 1) (lo := 0) (hi := 2) (by omega) (by decide) (by decide) (by decide)).1 (at_c 1 0 (o := 1) (lo := 0) (hi := 2) (by omega) (by decide) (by decide) (by decide)).2
  have h_3 := Inv.g hI_M kd_164 rfl 2 (a := 0) (b := 2) (at_c 2 0 (o := 2) (lo := 0) (hi := 2) (by omega) (by decide) (by decide) (by decide)).1 (at_c 2 0 (o := 2) (lo := 0) (hi := 2) (by omega) (by decide) (by decide) (by decide)).2
  have ha_4 : atlo 4 = (-1) ∧ athi 4 = 1 := at_c 4 0 (o := 4) (lo := (-1)) (hi := 1) (by omega) (by decide) (by decide) (by decide)
  have h_5 := Inv.g hI_M kd_164 rfl 4 (a := (-1)) (b := 1) ha_4.1 ha_4.2
  refine kx_aload_n 1 F 0 dX12_see_0 rfl rfl rfl ?_
  refine kx_getr 4 F fl_X12_7 kd_163 rfl rfl (j := 0) rfl dX12_see_1 (v := 164) (uq_164 (Inv.r hI_M kd_163 rfl 0 rfl rfl)) rfl ?_
  refine kx_iconst 5 F dX12_see_4 rfl ?_
  refine kx_iald 6 F kd_164 rfl rfl (by omega) (by decide) dX12_see_5 (v := (M 164 4)) rfl rfl ?_
  refine kx_istore_n 7 F 2 (lo' := [some (vR G 163), some (vI a1), some (vI (M 164 4)), none]) dX12_see_6 rfl (by decide) rfl rfl rfl ?_
  refine kx_aload_n 8 F 0 dX12_see_7 rfl rfl rfl ?_
  refine kx_iload_n 9 F 1 dX12_see_8 rfl rfl rfl ?_
  refine kx_Vi 12 (ci := 0) F (As := [vI a1]) (st := []) vd_X12_300 (e_isLetterX G l M a1 hI_M (by omega)) kd_163 rfl rfl rfl ⟨by decide, by decide⟩ rfl rfl (Nat.le_of_ble_eq_true rfl) dX12_see_9 rfl ?_
  intro r_6 N_7 q_8
  obtain ⟨rfl, q_8c⟩ := q_8
  rcases q_8c with q_8c | q_8c | q_8c
  · refine kx_if_ne 15 F 21 dX12_see_12 (by decide) rfl (by omega) (fun h_9 => ?_) (fun h_9 => (by exfalso; omega))
    refine kx_iload_n 22 F 2 dX12_see_21 rfl rfl rfl ?_
    refine kx_iconst 23 F dX12_see_22 rfl ?_
    refine kx_icmp_ne 26 F 33 dX12_see_23 (by decide) rfl (by omega) (by decide) (fun h_10 => ?_) (fun h_10 => ?_)
    · refine kx_aload_n 34 F 0 dX12_see_33 rfl rfl rfl ?_
      refine kx_iload_n 35 F 1 dX12_see_34 rfl rfl rfl ?_
      refine kx_Vi 38 (ci := 0) F (As := [vI a1]) (st := []) vd_X12_297 (c_sortNowE G l M a1 hI_M (by omega)) kd_163 rfl rfl rfl ⟨by decide, by decide⟩ rfl rfl (Nat.le_of_ble_eq_true rfl) dX12_see_35 rfl ?_
      intro r_11 N_12 q_13
      obtain ⟨rfl, q_13c⟩ := q_13
      rcases q_13c with q_13c | q_13c | q_13c
      · refine kx_if_ne 41 F 59 dX12_see_38 (by decide) rfl (by omega) (fun h_14 => (by exfalso; omega)) (fun h_14 => ?_)
        refine kx_aload_n 42 F 0 dX12_see_41 rfl rfl rfl ?_
        refine kx_getr 45 F fl_X12_7 kd_163 rfl rfl (j := 0) rfl dX12_see_42 (v := 164) (uq_164 (Inv.r hI_M kd_163 rfl 0 rfl rfl)) rfl ?_
        refine kx_bipush 47 F dX12_see_45 (by decide) rfl ?_
        refine kx_iald 48 F kd_164 rfl rfl (by omega) (by decide) dX12_see_47 (v := (M 164 6)) rfl rfl ?_
        have ha_15 : atlo 6 = 0 ∧ athi 6 = 30 := at_c 6 0 (o := 6) (lo := 0) (hi := 30) (by omega) (by decide) (by decide) (by decide)
        have h_16 := Inv.g hI_M kd_164 rfl 6 (a := 0) (b := 30) ha_15.1 ha_15.2
        refine kx_bipush 50 F dX12_see_48 (by decide) rfl ?_
        refine kx_icmp_ne 53 F 59 dX12_see_50 (by decide) rfl (by omega) (by decide) (fun h_17 => ?_) (fun h_17 => ?_)
        · refine kx_aload_n 60 F 0 dX12_see_59 rfl rfl rfl ?_
          refine kx_Vv 63 (ci := 0) F (As := []) (st := []) vd_X12_342 (e_laysRules G l M  hI_M) kd_163 rfl rfl rfl ⟨by decide, by decide⟩ rfl rfl (Nat.le_of_ble_eq_true rfl) dX12_see_60 rfl ?_
          intro N_18 q_19
          obtain ⟨hI_N_18, hG_N_18, hd_N_18⟩ := q_19
          have hF_N_18 : Fr f_e_see3m M N_18 := Fr.c hF_M hG_N_18 rfl
          refine kx_aload_n 64 F 0 dX12_see_63 rfl rfl rfl ?_
          refine kx_iload_n 65 F 1 dX12_see_64 rfl rfl rfl ?_
          refine kx_Vi 68 (ci := 0) F (As := [vI a1]) (st := []) vd_X12_297 (c_sortNowE G l N_18 a1 hI_N_18 (by omega)) kd_163 rfl rfl rfl ⟨by decide, by decide⟩ rfl rfl (Nat.le_of_ble_eq_true rfl) dX12_see_65 rfl ?_
          intro r_20 N_21 q_22
          obtain ⟨rfl, q_22c⟩ := q_22
          have e_23 : (N_18 164 0) = (M 164 0) := by rw [Fr.e hG_N_18 kd_164 _ rfl]
          have e_28 : (N_18 164 1) = (M 164 1) := by rw [Fr.e hG_N_18 kd_164 _ rfl]
          rcases q_22c with q_22c | q_22c | q_22c
          · have h_35 : r_20 = 0 := by omega
            · rw [show vI r_20 = vI 0 by rw [h_35]]
              refine kx_look 96 F (by decide) dX12_see_68 (by decide) rfl (by decide) ?_
              refine kx_aload_n 97 F 0 dX12_see_96 rfl rfl rfl ?_
              refine kx_aload_n 98 F 0 dX12_see_97 rfl rfl rfl ?_
              refine kx_getr 101 F fl_X12_7 kd_163 rfl rfl (j := 0) rfl dX12_see_98 (v := 164) (uq_164 (Inv.r hI_N_18 kd_163 rfl 0 rfl rfl)) rfl ?_
              refine kx_bipush 103 F dX12_see_101 (by decide) rfl ?_
              refine kx_iald 104 F kd_164 rfl rfl (by omega) (by decide) dX12_see_103 (v := (M 164 6)) (by rw [Fr.e hG_N_18 kd_164 _ rfl]) rfl ?_
              refine kx_Vi 107 (ci := 0) F (As := [vI (M 164 6)]) (st := []) vd_X12_525 (c_belowRowE G l N_18 (M 164 6) hI_N_18 (by omega)) kd_163 rfl rfl rfl ⟨by decide, by decide⟩ rfl rfl (Nat.le_of_ble_eq_true rfl) dX12_see_104 rfl ?_
              intro r_36 N_37 q_38
              obtain ⟨rfl, q_38c⟩ := q_38
              refine kx_topi (e' := 3 * (M 164 6) + 10) (by omega) ?_
              refine kx_istore_n 108 F 3 (lo' := [some (vR G 163), some (vI a1), some (vI (M 164 4)), some (vI (3 * (M 164 6) + 10))]) dX12_see_107 rfl (by decide) rfl rfl rfl ?_
              refine kx_aload_n 109 F 0 dX12_see_108 rfl rfl rfl ?_
              refine kx_getr 112 F fl_X12_7 kd_163 rfl rfl (j := 0) rfl dX12_see_109 (v := 164) (uq_164 (Inv.r hI_N_18 kd_163 rfl 0 rfl rfl)) rfl ?_
              refine kx_iload_n 113 F 3 dX12_see_112 rfl rfl rfl ?_
              refine kx_aload_n 114 F 0 dX12_see_113 rfl rfl rfl ?_
              refine kx_getr 117 F fl_X12_7 kd_163 rfl rfl (j := 0) rfl dX12_see_114 (v := 164) (uq_164 (Inv.r hI_N_18 kd_163 rfl 0 rfl rfl)) rfl ?_
              refine kx_bipush 119 F dX12_see_117 (by decide) rfl ?_
              refine kx_iald 120 F kd_164 rfl rfl (by omega) (by decide) dX12_see_119 (v := (M 164 7)) (by rw [Fr.e hG_N_18 kd_164 _ rfl]) rfl ?_
              have ha_39 : atlo 7 = 0 ∧ athi 7 = 7 := at_c 7 0 (o := 7) (lo := 0) (hi := 7) (by omega) (by decide) (by decide) (by decide)
              have h_40 := Inv.g hI_M kd_164 rfl 7 (a := 0) (b := 7) ha_39.1 ha_39.2
              refine kx_iast 121 F kd_164 rfl rfl (by omega) (by decide) dX12_see_120 rfl ?_
              intro N_41 hM_N_41
              have ha_42 : atlo (3 * (M 164 6) + 10) = 0 ∧ athi (3 * (M 164 6) + 10) = 7 := at_b (3 * (M 164 6) + 10) 0 (M 164 6) 0 (by omega) (by omega) (by decide)
              have hI_N_41 : Inv true N_41 := Inv.u hI_N_18 hM_N_41 kd_164 (a := 0) (b := 7) ha_42.1 ha_42.2 rfl (by omega)
              have hF_N_41 : Fr f_e_see3m M N_41 := Fr.u hF_N_18 hM_N_41 kd_164 rfl
              refine kx_aload_n 122 F 0 dX12_see_121 rfl rfl rfl ?_
              refine kx_getr 125 F fl_X12_7 kd_163 rfl rfl (j := 0) rfl dX12_see_122 (v := 164) (uq_164 (Inv.r hI_N_41 kd_163 rfl 0 rfl rfl)) rfl ?_
              refine kx_iload_n 126 F 3 dX12_see_125 rfl rfl rfl ?_
              refine kx_iconst 127 F dX12_see_126 rfl ?_
              refine kx_iadd 128 F (v := 3 * (M 164 6) + 11) dX12_see_127 (by omega) rfl ?_
              refine kx_aload_n 129 F 0 dX12_see_128 rfl rfl rfl ?_
              refine kx_getr 132 F fl_X12_7 kd_163 rfl rfl (j := 0) rfl dX12_see_129 (v := 164) (uq_164 (Inv.r hI_N_41 kd_163 rfl 0 rfl rfl)) rfl ?_
              refine kx_bipush 134 F dX12_see_132 (by decide) rfl ?_
              refine kx_iald 135 F kd_164 rfl rfl (by omega) (by decide) dX12_see_134 (v := (M 164 8)) (by rw [hM_N_41, mu_i (by omega), Fr.e hG_N_18 kd_164 _ rfl]) rfl ?_
              have ha_43 : atlo 8 = 0 ∧ athi 8 = 511 := at_c 8 0 (o := 8) (lo := 0) (hi := 511) (by omega) (by decide) (by decide) (by decide)
              have h_44 := Inv.g hI_M kd_164 rfl 8 (a := 0) (b := 511) ha_43.1 ha_43.2
              refine kx_iast 136 F kd_164 rfl rfl (by omega) (by decide) dX12_see_135 rfl ?_
              intro N_45 hM_N_45
              have ha_46 : atlo (3 * (M 164 6) + 11) = 0 ∧ athi (3 * (M 164 6) + 11) = 511 := at_b (3 * (M 164 6) + 11) 0 (M 164 6) 1 (by omega) (by omega) (by decide)
              have hI_N_45 : Inv true N_45 := Inv.u hI_N_41 hM_N_45 kd_164 (a := 0) (b := 511) ha_46.1 ha_46.2 rfl (by omega)
              have hF_N_45 : Fr f_e_see3m M N_45 := Fr.u hF_N_41 hM_N_45 kd_164 rfl
              refine kx_aload_n 137 F 0 dX12_see_136 rfl rfl rfl ?_
              refine kx_getr 140 F fl_X12_7 kd_163 rfl rfl (j := 0) rfl dX12_see_137 (v := 164) (uq_164 (Inv.r hI_N_45 kd_163 rfl 0 rfl rfl)) rfl ?_
              refine kx_iload_n 141 F 3 dX12_see_140 rfl rfl rfl ?_
              refine kx_iconst 142 F dX12_see_141 rfl ?_
              refine kx_iadd 143 F (v := 3 * (M 164 6) + 12) dX12_see_142 (by omega) rfl ?_
              refine kx_iload_n 144 F 1 dX12_see_143 rfl rfl rfl ?_
              refine kx_iast 145 F kd_164 rfl rfl (by omega) (by decide) dX12_see_144 rfl ?_
              intro N_47 hM_N_47
              have ha_48 : atlo (3 * (M 164 6) + 12) = 0 ∧ athi (3 * (M 164 6) + 12) = 5 := at_b (3 * (M 164 6) + 12) 0 (M 164 6) 2 (by omega) (by omega) (by decide)
              have hI_N_47 : Inv true N_47 := Inv.u hI_N_45 hM_N_47 kd_164 (a := 0) (b := 5) ha_48.1 ha_48.2 rfl (by omega)
              have hF_N_47 : Fr f_e_see3m M N_47 := Fr.u hF_N_45 hM_N_47 kd_164 rfl
              refine kx_aload_n 146 F 0 dX12_see_145 rfl rfl rfl ?_
              refine kx_getr 149 F fl_X12_7 kd_163 rfl rfl (j := 0) rfl dX12_see_146 (v := 164) (uq_164 (Inv.r hI_N_47 kd_163 rfl 0 rfl rfl)) rfl ?_
              refine kx_bipush 151 F dX12_see_149 (by decide) rfl ?_
              refine kx_dup2 152 F dX12_see_151 rfl rfl rfl ?_
              refine kx_iald 153 F kd_164 rfl rfl (by omega) (by decide) dX12_see_152 (v := (M 164 6)) (by rw [hM_N_47, mu_i (by omega), hM_N_45, mu_i (by omega), hM_N_41, mu_i (by omega), Fr.e hG_N_18 kd_164 _ rfl]) rfl ?_
              refine kx_iconst 154 F dX12_see_153 rfl ?_
              refine kx_iadd 155 F (v := (M 164 6) + 1) dX12_see_154 rfl rfl ?_
              refine kx_iast 156 F kd_164 rfl rfl (by omega) (by decide) dX12_see_155 rfl ?_
              intro N_49 hM_N_49
              have hI_N_49 : Inv true N_49 := Inv.u hI_N_47 hM_N_49 kd_164 (a := 0) (b := 30) ha_15.1 ha_15.2 rfl (by omega)
              have hF_N_49 : Fr f_e_see3m M N_49 := Fr.u hF_N_47 hM_N_49 kd_164 rfl
              refine kx_aload_n 157 F 0 dX12_see_156 rfl rfl rfl ?_
              refine kx_getr 160 F fl_X12_7 kd_163 rfl rfl (j := 0) rfl dX12_see_157 (v := 164) (uq_164 (Inv.r hI_N_49 kd_163 rfl 0 rfl rfl)) rfl ?_
              refine kx_bipush 162 F dX12_see_160 (by decide) rfl ?_
              refine kx_aload_n 163 F 0 dX12_see_162 rfl rfl rfl ?_
              refine kx_getr 166 F fl_X12_7 kd_163 rfl rfl (j := 0) rfl dX12_see_163 (v := 164) (uq_164 (Inv.r hI_N_49 kd_163 rfl 0 rfl rfl)) rfl ?_
              refine kx_bipush 168 F dX12_see_166 (by decide) rfl ?_
              refine kx_iald 169 F kd_164 rfl rfl (by omega) (by decide) dX12_see_168 (v := (M 164 7)) (by rw [hM_N_49, mu_i (by omega), hM_N_47, mu_i (by omega), hM_N_45, mu_i (by omega), hM_N_41, mu_i (by omega), Fr.e hG_N_18 kd_164 _ rfl]) rfl ?_
              refine kx_aload_n 170 F 0 dX12_see_169 rfl rfl rfl ?_
              refine kx_iload_n 171 F 2 dX12_see_170 rfl rfl rfl ?_
              refine kx_iload_n 172 F 1 dX12_see_171 rfl rfl rfl ?_
              refine kx_bipush 174 F dX12_see_172 (by decide) rfl ?_
              refine kx_Vi 177 (ci := 0) F (As := [vI (M 164 4), vI a1, vI 7]) (st := [vI (M 164 7), vI 7, vR G 164]) vd_X12_323 (e_leads G l N_49 (M 164 4) a1 7 hI_N_49 (by omega)) kd_163 rfl rfl rfl ⟨by decide, by decide⟩ rfl rfl (Nat.le_of_ble_eq_true rfl) dX12_see_174 rfl ?_
              intro r_50 N_51 q_52
              obtain ⟨rfl, q_52c, hz_N_51⟩ := q_52
              refine kx_Si 180 F (As := [vI (M 164 7), vI r_50]) (st := [vI 7, vR G 164]) sd_X12_332 (e_image3m G l N_49 (M 164 7) r_50 hI_N_49 (by omega)) ⟨by decide, by decide⟩ rfl rfl (Nat.le_of_ble_eq_true rfl) dX12_see_177 rfl ?_
              intro r_53 N_54 q_55
              obtain ⟨rfl, q_55c, hz_N_54⟩ := q_55
              refine kx_iast 181 F kd_164 rfl rfl (by omega) (by decide) dX12_see_180 rfl ?_
              intro N_56 hM_N_56
              have hI_N_56 : Inv true N_56 := Inv.u hI_N_49 hM_N_56 kd_164 (a := 0) (b := 7) ha_39.1 ha_39.2 rfl (by omega)
              have hF_N_56 : Fr f_e_see3m M N_56 := Fr.u hF_N_49 hM_N_56 kd_164 rfl
              refine kx_aload_n 182 F 0 dX12_see_181 rfl rfl rfl ?_
              refine kx_getr 185 F fl_X12_7 kd_163 rfl rfl (j := 0) rfl dX12_see_182 (v := 164) (uq_164 (Inv.r hI_N_56 kd_163 rfl 0 rfl rfl)) rfl ?_
              refine kx_bipush 187 F dX12_see_185 (by decide) rfl ?_
              refine kx_aload_n 188 F 0 dX12_see_187 rfl rfl rfl ?_
              refine kx_iload_n 189 F 2 dX12_see_188 rfl rfl rfl ?_
              refine kx_Vi 192 (ci := 0) F (As := [vI (M 164 4)]) (st := [vI 8, vR G 164]) vd_X12_329 (e_same G l N_56 (M 164 4) hI_N_56 (by omega)) kd_163 rfl rfl rfl ⟨by decide, by decide⟩ rfl rfl (Nat.le_of_ble_eq_true rfl) dX12_see_189 rfl ?_
              intro r_57 N_58 q_59
              obtain ⟨rfl, q_59c, hz_N_58⟩ := q_59
              refine kx_iast 193 F kd_164 rfl rfl (by omega) (by decide) dX12_see_192 rfl ?_
              intro N_60 hM_N_60
              have hI_N_60 : Inv true N_60 := Inv.u hI_N_56 hM_N_60 kd_164 (a := 0) (b := 511) ha_43.1 ha_43.2 rfl (by omega)
              have hF_N_60 : Fr f_e_see3m M N_60 := Fr.u hF_N_56 hM_N_60 kd_164 rfl
              refine kx_goto 255 F dX12_see_193 (by decide) ?_
              refine kx_aload_n 256 F 0 dX12_see_255 rfl rfl rfl ?_
              refine kx_getr 259 F fl_X12_7 kd_163 rfl rfl (j := 0) rfl dX12_see_256 (v := 164) (uq_164 (Inv.r hI_N_60 kd_163 rfl 0 rfl rfl)) rfl ?_
              refine kx_iconst 260 F dX12_see_259 rfl ?_
              refine kx_dup2 261 F dX12_see_260 rfl rfl rfl ?_
              refine kx_iald 262 F kd_164 rfl rfl (by omega) (by decide) dX12_see_261 (v := (M 164 5)) (by rw [hM_N_60, mu_i (by omega), hM_N_56, mu_i (by omega), hM_N_49, mu_i (by omega), hM_N_47, mu_i (by omega), hM_N_45, mu_i (by omega), hM_N_41, mu_i (by omega), Fr.e hG_N_18 kd_164 _ rfl]) rfl ?_
              have ha_61 : atlo 5 = (-2147483648) ∧ athi 5 = 2147483647 := at_c 5 0 (o := 5) (lo := (-2147483648)) (hi := 2147483647) (by omega) (by decide) (by decide) (by decide)
              have h_62 := Inv.g hI_M kd_164 rfl 5 (a := (-2147483648)) (b := 2147483647) ha_61.1 ha_61.2
              refine kx_iconst 263 F dX12_see_262 rfl ?_
              refine kx_iadd 264 F (v := (M 164 5) + 1) dX12_see_263 rfl rfl ?_
              refine kx_wrapi (fun w_63 h_64 he_w_63 => ?_)
              refine kx_iast 265 F kd_164 rfl rfl (by omega) (by decide) dX12_see_264 rfl ?_
              intro N_65 hM_N_65
              have hI_N_65 : Inv true N_65 := Inv.u hI_N_60 hM_N_65 kd_164 (a := (-2147483648)) (b := 2147483647) ha_61.1 ha_61.2 rfl (by omega)
              have hF_N_65 : Fr f_e_see3m M N_65 := Fr.u hF_N_60 hM_N_65 kd_164 rfl
              refine kx_aload_n 266 F 0 dX12_see_265 rfl rfl rfl ?_
              refine kx_aload_n 267 F 0 dX12_see_266 rfl rfl rfl ?_
              have e_66 : (N_65 164 4) = (M 164 4) := by rw [hM_N_65, mu_i (by omega), hM_N_60, mu_i (by omega), hM_N_56, mu_i (by omega), hM_N_49, mu_i (by omega), hM_N_47, mu_i (by omega), hM_N_45, mu_i (by omega), hM_N_41, mu_i (by omega), Fr.e hG_N_18 kd_164 _ rfl]
              refine kx_Vi 270 (ci := 0) F (As := []) (st := [vR G 163]) vd_X12_522 (e_isTakenNow3 G l N_65  hI_N_65 (by omega)) kd_163 rfl rfl rfl ⟨by decide, by decide⟩ rfl rfl (Nat.le_of_ble_eq_true rfl) dX12_see_267 rfl ?_
              intro r_67 N_68 q_69
              obtain ⟨rfl, q_69c⟩ := q_69
              rcases q_69c with q_69c | q_69c
              · refine kx_Vi 273 (ci := 0) F (As := [vI r_67]) (st := []) vd_X12_127 (c_X12_gives G l N_65 r_67 hI_N_65 (by omega)) kd_163 rfl rfl rfl ⟨by decide, by decide⟩ rfl rfl (Nat.le_of_ble_eq_true rfl) dX12_see_270 rfl ?_
                intro r_70 N_71 q_72
                obtain ⟨hI_N_71, hG_N_71, q_72c⟩ := q_72
                have hF_N_71 : Fr f_e_see3m M N_71 := Fr.c hF_N_65 hG_N_71 rfl
                refine kx_topi (e' := r_67) (by omega) ?_
                have hS1 : zRN (N_18 164) q := by rw [show N_18 164 = M 164 from (by rw [show N_18 164 = M 164 from hG_N_18.fn kd_164 rfl])]; exact hS
                have hU1 : zRU (N_18 164) q := by rw [show N_18 164 = M 164 from (by rw [show N_18 164 = M 164 from hG_N_18.fn kd_164 rfl])]; exact hU
                have hD1 : LD N_18 := hd_N_18
                have hfn : N_65 164 = (upk (upk (upk (upk (upk (upk (upk (M 164) (3 * (M 164 6) + 10) (M 164 7)) (3 * (M 164 6) + 11) (M 164 8)) (3 * (M 164 6) + 12) a1) 6 ((M 164 6) + 1)) 7 r_53) 8 r_57) 5 w_63) := by rw [mu_up hM_N_65, mu_up hM_N_60, mu_up hM_N_56, mu_up hM_N_49, mu_up hM_N_47, mu_up hM_N_45, mu_up hM_N_41, show N_18 164 = M 164 from hG_N_18.fn kd_164 rfl]
                have hl_73 : r_50 = zst q (85 * (M 164 4) + 100) a1 := hz_N_51.trans (by rw [show N_49 171 = N_18 171 from funext (fun j => by rw [hM_N_49, mu_k kd_171 kd_164 rfl, hM_N_47, mu_k kd_171 kd_164 rfl, hM_N_45, mu_k kd_171 kd_164 rfl, hM_N_41, mu_k kd_171 kd_164 rfl])]; exact zLK_s hI_N_18 hD1 hS1 hU1 hC ⟨by omega, by omega⟩ ⟨by omega, by omega⟩ (by rw [if_pos (by omega)]))
                have e_74 : (N_56 164 (85 * (M 164 4) + 100)) = (M 164 (85 * (M 164 4) + 100)) := by rw [hM_N_56, mu_i (by omega), hM_N_49, mu_i (by omega), hM_N_47, mu_i (by omega), hM_N_45, mu_i (by omega), hM_N_41, mu_i (by omega), Fr.e hG_N_18 kd_164 _ rfl]
                have hqb : M 164 (85 * M 164 4 + 100) = q (85 * M 164 4 + 100) := (hU.b (a := M 164 4) (b := 85 * M 164 4 + 100) (by omega) rfl).n (d := 0) (by decide) (by omega)
                have he8 : r_57 = smeZ (q (85 * M 164 4 + 100)) := hz_N_58.trans (congrArg smeZ (by rw [show (100 : Int) + 85 * M 164 4 = 85 * M 164 4 + 100 by omega]; omega))
                have hgf : N_65 164 = zSEg q (M 164) a1 := (zse.c (K := zks q (85 * M 164 4 + 100)) (zsr.of (Or.inl ⟨rfl, by omega⟩)).symm hfn (by omega) (by omega) (by omega) (by omega) (by omega) (by omega) (by omega) (hz_N_54.trans (by rw [hl_73])) he8 he_w_63)
                have hm4 : zSEg q (M 164) a1 4 = M 164 4 := by rw [← hgf]; omega
                have hq3 : N_65 164 (85 * N_65 164 4 + 103) = q (85 * zSEg q (M 164) a1 4 + 103) := by rw [hm4, show N_65 164 4 = M 164 4 by omega]; exact ((zRW.sta (zRW.sta (zRW.sta (zRW.sta (zRW.sta (zRW.sta (zRW.sta (zRW.fr (zRW.rf M) hG_N_18 rfl) hM_N_41 (by omega)) hM_N_45 (by omega)) hM_N_47 (by omega)) hM_N_49 (by omega)) hM_N_56 (by omega)) hM_N_60 (by omega)) hM_N_65 (by omega)) _ (by omega)).trans ((hU.b (a := M 164 4) (b := (85 * M 164 4 + 100)) (by omega) rfl).n (d := 3) (by decide) (by omega))
                have hzw : zand (N_65 164 7) (N_65 164 (85 * N_65 164 4 + 103)) = zand (zSEg q (M 164) a1 7) (q (85 * zSEg q (M 164) a1 4 + 103)) := by rw [hq3, congrFun hgf 7]
                exact kx_iret F hQ ⟨hI_N_71, hF_N_71, (by omega), ⟨⟨(YY.fr (YY.sta (YY.sta (YY.sta (YY.sta (YY.sta (YY.sta (YY.sta (YY.fr hY hG_N_18 rfl) hI_N_18 hM_N_41 (by omega)) hI_N_41 hM_N_45 (by omega)) hI_N_45 hM_N_47 (by omega)) hI_N_47 hM_N_49 (by omega)) hI_N_49 hM_N_56 (by omega)) hI_N_56 hM_N_60 (by omega)) hI_N_60 hM_N_65 (by omega)) hG_N_71 rfl), (zRW.fr (zRW.sta (zRW.sta (zRW.sta (zRW.sta (zRW.sta (zRW.sta (zRW.sta (zRW.fr (zRW.rf M) hG_N_18 rfl) hM_N_41 (by omega)) hM_N_45 (by omega)) hM_N_47 (by omega)) hM_N_49 (by omega)) hM_N_56 (by omega)) hM_N_60 (by omega)) hM_N_65 (by omega)) hG_N_71 rfl)⟩, ⟨zSEg q (M 164) a1, Or.inl ⟨⟨by omega, by omega, by omega, fun _ => by omega⟩, rfl, Or.inl ⟨by omega, by omega⟩⟩, fun i _ _ => by rw [Fr.e hG_N_71 kd_164 _ rfl, hgf]⟩⟩⟩ dX12_see_273
              · refine kx_Vi 273 (ci := 0) F (As := [vI r_67]) (st := []) vd_X12_127 (c_X12_gives G l N_65 r_67 hI_N_65 (by omega)) kd_163 rfl rfl rfl ⟨by decide, by decide⟩ rfl rfl (Nat.le_of_ble_eq_true rfl) dX12_see_270 rfl ?_
                intro r_76 N_77 q_78
                obtain ⟨hI_N_77, hG_N_77, q_78c⟩ := q_78
                have hF_N_77 : Fr f_e_see3m M N_77 := Fr.c hF_N_65 hG_N_77 rfl
                refine kx_topi (e' := r_67) (by omega) ?_
                have hS1 : zRN (N_18 164) q := by rw [show N_18 164 = M 164 from (by rw [show N_18 164 = M 164 from hG_N_18.fn kd_164 rfl])]; exact hS
                have hU1 : zRU (N_18 164) q := by rw [show N_18 164 = M 164 from (by rw [show N_18 164 = M 164 from hG_N_18.fn kd_164 rfl])]; exact hU
                have hD1 : LD N_18 := hd_N_18
                have hfn : N_65 164 = (upk (upk (upk (upk (upk (upk (upk (M 164) (3 * (M 164 6) + 10) (M 164 7)) (3 * (M 164 6) + 11) (M 164 8)) (3 * (M 164 6) + 12) a1) 6 ((M 164 6) + 1)) 7 r_53) 8 r_57) 5 w_63) := by rw [mu_up hM_N_65, mu_up hM_N_60, mu_up hM_N_56, mu_up hM_N_49, mu_up hM_N_47, mu_up hM_N_45, mu_up hM_N_41, show N_18 164 = M 164 from hG_N_18.fn kd_164 rfl]
                have hl_79 : r_50 = zst q (85 * (M 164 4) + 100) a1 := hz_N_51.trans (by rw [show N_49 171 = N_18 171 from funext (fun j => by rw [hM_N_49, mu_k kd_171 kd_164 rfl, hM_N_47, mu_k kd_171 kd_164 rfl, hM_N_45, mu_k kd_171 kd_164 rfl, hM_N_41, mu_k kd_171 kd_164 rfl])]; exact zLK_s hI_N_18 hD1 hS1 hU1 hC ⟨by omega, by omega⟩ ⟨by omega, by omega⟩ (by rw [if_pos (by omega)]))
                have e_80 : (N_56 164 (85 * (M 164 4) + 100)) = (M 164 (85 * (M 164 4) + 100)) := by rw [hM_N_56, mu_i (by omega), hM_N_49, mu_i (by omega), hM_N_47, mu_i (by omega), hM_N_45, mu_i (by omega), hM_N_41, mu_i (by omega), Fr.e hG_N_18 kd_164 _ rfl]
                have hqb : M 164 (85 * M 164 4 + 100) = q (85 * M 164 4 + 100) := (hU.b (a := M 164 4) (b := 85 * M 164 4 + 100) (by omega) rfl).n (d := 0) (by decide) (by omega)
                have he8 : r_57 = smeZ (q (85 * M 164 4 + 100)) := hz_N_58.trans (congrArg smeZ (by rw [show (100 : Int) + 85 * M 164 4 = 85 * M 164 4 + 100 by omega]; omega))
                have hgf : N_65 164 = zSEg q (M 164) a1 := (zse.c (K := zks q (85 * M 164 4 + 100)) (zsr.of (Or.inl ⟨rfl, by omega⟩)).symm hfn (by omega) (by omega) (by omega) (by omega) (by omega) (by omega) (by omega) (hz_N_54.trans (by rw [hl_79])) he8 he_w_63)
                have hm4 : zSEg q (M 164) a1 4 = M 164 4 := by rw [← hgf]; omega
                have hq3 : N_65 164 (85 * N_65 164 4 + 103) = q (85 * zSEg q (M 164) a1 4 + 103) := by rw [hm4, show N_65 164 4 = M 164 4 by omega]; exact ((zRW.sta (zRW.sta (zRW.sta (zRW.sta (zRW.sta (zRW.sta (zRW.sta (zRW.fr (zRW.rf M) hG_N_18 rfl) hM_N_41 (by omega)) hM_N_45 (by omega)) hM_N_47 (by omega)) hM_N_49 (by omega)) hM_N_56 (by omega)) hM_N_60 (by omega)) hM_N_65 (by omega)) _ (by omega)).trans ((hU.b (a := M 164 4) (b := (85 * M 164 4 + 100)) (by omega) rfl).n (d := 3) (by decide) (by omega))
                have hzw : zand (N_65 164 7) (N_65 164 (85 * N_65 164 4 + 103)) = zand (zSEg q (M 164) a1 7) (q (85 * zSEg q (M 164) a1 4 + 103)) := by rw [hq3, congrFun hgf 7]
                exact kx_iret F hQ ⟨hI_N_77, hF_N_77, (by omega), ⟨⟨(YY.fr (YY.sta (YY.sta (YY.sta (YY.sta (YY.sta (YY.sta (YY.sta (YY.fr hY hG_N_18 rfl) hI_N_18 hM_N_41 (by omega)) hI_N_41 hM_N_45 (by omega)) hI_N_45 hM_N_47 (by omega)) hI_N_47 hM_N_49 (by omega)) hI_N_49 hM_N_56 (by omega)) hI_N_56 hM_N_60 (by omega)) hI_N_60 hM_N_65 (by omega)) hG_N_77 rfl), (zRW.fr (zRW.sta (zRW.sta (zRW.sta (zRW.sta (zRW.sta (zRW.sta (zRW.sta (zRW.fr (zRW.rf M) hG_N_18 rfl) hM_N_41 (by omega)) hM_N_45 (by omega)) hM_N_47 (by omega)) hM_N_49 (by omega)) hM_N_56 (by omega)) hM_N_60 (by omega)) hM_N_65 (by omega)) hG_N_77 rfl)⟩, ⟨zSEg q (M 164) a1, Or.inl ⟨⟨by omega, by omega, by omega, fun _ => by omega⟩, rfl, Or.inr ⟨by omega, by omega⟩⟩, fun i _ _ => by rw [Fr.e hG_N_77 kd_164 _ rfl, hgf]⟩⟩⟩ dX12_see_273
          · exfalso; omega
          · exfalso; omega
        · refine kx_aload_n 54 F 0 dX12_see_53 rfl rfl rfl ?_
          refine kx_iconst 55 F dX12_see_54 rfl ?_
          refine kx_Vi 58 (ci := 0) F (As := [vI 4]) (st := []) vd_X12_123 (c_X12_refuse G l M 4 hI_M (by omega)) kd_163 rfl rfl rfl ⟨by decide, by decide⟩ rfl rfl (Nat.le_of_ble_eq_true rfl) dX12_see_55 rfl ?_
          intro r_82 N_83 q_84
          obtain ⟨hI_N_83, hG_N_83, q_84c⟩ := q_84
          have hF_N_83 : Fr f_e_see3m M N_83 := Fr.c hF_M hG_N_83 rfl
          subst q_84c
          exact kx_iret F hQ ⟨hI_N_83, hF_N_83, (by omega), ⟨⟨(YY.fr hY hG_N_83 rfl), (zRW.fr (zRW.rf M) hG_N_83 rfl)⟩, ⟨M 164, Or.inr ⟨fun h => by unfold zSEk at h; omega, by omega, rfl⟩, fun i _ _ => congrFun (hG_N_83.fn kd_164 rfl) i⟩⟩⟩ dX12_see_58
      · refine kx_if_ne 41 F 59 dX12_see_38 (by decide) rfl (by omega) (fun h_85 => ?_) (fun h_85 => (by exfalso; omega))
        refine kx_aload_n 60 F 0 dX12_see_59 rfl rfl rfl ?_
        refine kx_Vv 63 (ci := 0) F (As := []) (st := []) vd_X12_342 (e_laysRules G l M  hI_M) kd_163 rfl rfl rfl ⟨by decide, by decide⟩ rfl rfl (Nat.le_of_ble_eq_true rfl) dX12_see_60 rfl ?_
        intro N_86 q_87
        obtain ⟨hI_N_86, hG_N_86, hd_N_86⟩ := q_87
        have hF_N_86 : Fr f_e_see3m M N_86 := Fr.c hF_M hG_N_86 rfl
        refine kx_aload_n 64 F 0 dX12_see_63 rfl rfl rfl ?_
        refine kx_iload_n 65 F 1 dX12_see_64 rfl rfl rfl ?_
        refine kx_Vi 68 (ci := 0) F (As := [vI a1]) (st := []) vd_X12_297 (c_sortNowE G l N_86 a1 hI_N_86 (by omega)) kd_163 rfl rfl rfl ⟨by decide, by decide⟩ rfl rfl (Nat.le_of_ble_eq_true rfl) dX12_see_65 rfl ?_
        intro r_88 N_89 q_90
        obtain ⟨rfl, q_90c⟩ := q_90
        have e_91 : (N_86 164 0) = (M 164 0) := by rw [Fr.e hG_N_86 kd_164 _ rfl]
        have e_96 : (N_86 164 1) = (M 164 1) := by rw [Fr.e hG_N_86 kd_164 _ rfl]
        rcases q_90c with q_90c | q_90c | q_90c
        · exfalso; omega
        · have h_103 : r_88 = 1 := by omega
          · rw [show vI r_88 = vI 1 by rw [h_103]]
            refine kx_look 196 F (by decide) dX12_see_68 (by decide) rfl (by decide) ?_
            refine kx_aload_n 197 F 0 dX12_see_196 rfl rfl rfl ?_
            refine kx_iload_n 198 F 2 dX12_see_197 rfl rfl rfl ?_
            refine kx_iload_n 199 F 1 dX12_see_198 rfl rfl rfl ?_
            refine kx_Vv 202 (ci := 0) F (As := [vI (M 164 4), vI a1]) (st := []) vd_X12_528 (e_comesBack3 G l N_86 (M 164 4) a1 hI_N_86 (by omega) (YY.fr hY hG_N_86 rfl)  q (by rw [show N_86 164 = M 164 from (funext (fun j => by rw [Fr.e hG_N_86 kd_164 _ rfl]))]; exact hS) (by rw [show N_86 164 = M 164 from (funext (fun j => by rw [Fr.e hG_N_86 kd_164 _ rfl]))]; exact hU) hC hV hd_N_86 (by omega) (fun h => by omega)) kd_163 rfl rfl rfl ⟨by decide, by decide⟩ rfl rfl (Nat.le_of_ble_eq_true rfl) dX12_see_199 rfl ?_
            intro N_104 q_105
            obtain ⟨hI_N_104, hG_N_104, q_105c, ⟨⟨hy_N_104, hrw_N_104⟩, hcb_N_104⟩⟩ := q_105
            have hF_N_104 : Fr f_e_see3m M N_104 := Fr.c hF_N_86 hG_N_104 rfl
            have e_106 : (N_86 164 4) = (M 164 4) := by rw [Fr.e hG_N_86 kd_164 _ rfl]
            refine kx_goto 255 F dX12_see_202 (by decide) ?_
            refine kx_aload_n 256 F 0 dX12_see_255 rfl rfl rfl ?_
            refine kx_getr 259 F fl_X12_7 kd_163 rfl rfl (j := 0) rfl dX12_see_256 (v := 164) (uq_164 (Inv.r hI_N_104 kd_163 rfl 0 rfl rfl)) rfl ?_
            refine kx_iconst 260 F dX12_see_259 rfl ?_
            refine kx_dup2 261 F dX12_see_260 rfl rfl rfl ?_
            refine kx_iald 262 F kd_164 rfl rfl (by omega) (by decide) dX12_see_261 (v := (N_104 164 5)) rfl rfl ?_
            have ha_107 : atlo 5 = (-2147483648) ∧ athi 5 = 2147483647 := at_c 5 0 (o := 5) (lo := (-2147483648)) (hi := 2147483647) (by omega) (by decide) (by decide) (by decide)
            have h_108 := Inv.g hI_N_104 kd_164 rfl 5 (a := (-2147483648)) (b := 2147483647) ha_107.1 ha_107.2
            refine kx_iconst 263 F dX12_see_262 rfl ?_
            refine kx_iadd 264 F (v := (N_104 164 5) + 1) dX12_see_263 rfl rfl ?_
            refine kx_wrapi (fun w_109 h_110 he_w_109 => ?_)
            refine kx_iast 265 F kd_164 rfl rfl (by omega) (by decide) dX12_see_264 rfl ?_
            intro N_111 hM_N_111
            have hI_N_111 : Inv true N_111 := Inv.u hI_N_104 hM_N_111 kd_164 (a := (-2147483648)) (b := 2147483647) ha_107.1 ha_107.2 rfl (by omega)
            have hF_N_111 : Fr f_e_see3m M N_111 := Fr.u hF_N_104 hM_N_111 kd_164 rfl
            refine kx_aload_n 266 F 0 dX12_see_265 rfl rfl rfl ?_
            refine kx_aload_n 267 F 0 dX12_see_266 rfl rfl rfl ?_
            have e_112 : (N_111 164 4) = (N_104 164 4) := by rw [hM_N_111, mu_i (by omega)]
            refine kx_Vi 270 (ci := 0) F (As := []) (st := [vR G 163]) vd_X12_522 (e_isTakenNow3 G l N_111  hI_N_111 (by omega)) kd_163 rfl rfl rfl ⟨by decide, by decide⟩ rfl rfl (Nat.le_of_ble_eq_true rfl) dX12_see_267 rfl ?_
            intro r_113 N_114 q_115
            obtain ⟨rfl, q_115c⟩ := q_115
            rcases q_115c with q_115c | q_115c
            · refine kx_Vi 273 (ci := 0) F (As := [vI r_113]) (st := []) vd_X12_127 (c_X12_gives G l N_111 r_113 hI_N_111 (by omega)) kd_163 rfl rfl rfl ⟨by decide, by decide⟩ rfl rfl (Nat.le_of_ble_eq_true rfl) dX12_see_270 rfl ?_
              intro r_116 N_117 q_118
              obtain ⟨hI_N_117, hG_N_117, q_118c⟩ := q_118
              have hF_N_117 : Fr f_e_see3m M N_117 := Fr.c hF_N_111 hG_N_117 rfl
              refine kx_topi (e' := r_113) (by omega) ?_
              have hS1 : zRN (N_86 164) q := by rw [show N_86 164 = M 164 from (by rw [show N_86 164 = M 164 from hG_N_86.fn kd_164 rfl])]; exact hS
              have hU1 : zRU (N_86 164) q := by rw [show N_86 164 = M 164 from (by rw [show N_86 164 = M 164 from hG_N_86.fn kd_164 rfl])]; exact hU
              have hD1 : LD N_86 := hd_N_86
              have hfn : N_111 164 = (upk (N_104 164) 5 w_109) := by rw [mu_up hM_N_111]
              have hcb1 : N_104 164 = zCB (M 164) (zst q (85 * M 164 4 + 100)) (zks q (85 * M 164 4 + 100)) a1 := by have h := hcb_N_104; rw [show N_86 164 = M 164 from (by rw [show N_86 164 = M 164 from hG_N_86.fn kd_164 rfl])] at h; exact h
              have hgf : N_111 164 = zSEg q (M 164) a1 := (zse.r (n := q (85 * M 164 4 + 100)) (so := zsr q a1) (zsr.of (Or.inr (Or.inl ⟨rfl, by omega, by omega⟩))).symm hfn hcb1 he_w_109)
              have hm4 : zSEg q (M 164) a1 4 = M 164 4 := by rw [← hgf]; omega
              have hq3 : N_111 164 (85 * N_111 164 4 + 103) = q (85 * zSEg q (M 164) a1 4 + 103) := by rw [hm4, show N_111 164 4 = M 164 4 by omega]; exact ((zRW.sta (zRW.trans (zRW.fr (zRW.rf M) hG_N_86 rfl) hrw_N_104) hM_N_111 (by omega)) _ (by omega)).trans ((hU.b (a := M 164 4) (b := (85 * M 164 4 + 100)) (by omega) rfl).n (d := 3) (by decide) (by omega))
              have hzw : zand (N_111 164 7) (N_111 164 (85 * N_111 164 4 + 103)) = zand (zSEg q (M 164) a1 7) (q (85 * zSEg q (M 164) a1 4 + 103)) := by rw [hq3, congrFun hgf 7]
              exact kx_iret F hQ ⟨hI_N_117, hF_N_117, (by omega), ⟨⟨(YY.fr (YY.sta hy_N_104 hI_N_104 hM_N_111 (by omega)) hG_N_117 rfl), (zRW.fr (zRW.sta (zRW.trans (zRW.fr (zRW.rf M) hG_N_86 rfl) hrw_N_104) hM_N_111 (by omega)) hG_N_117 rfl)⟩, ⟨zSEg q (M 164) a1, Or.inl ⟨⟨by omega, by omega, by omega, fun _ => by omega⟩, rfl, Or.inl ⟨by omega, by omega⟩⟩, fun i _ _ => by rw [Fr.e hG_N_117 kd_164 _ rfl, hgf]⟩⟩⟩ dX12_see_273
            · refine kx_Vi 273 (ci := 0) F (As := [vI r_113]) (st := []) vd_X12_127 (c_X12_gives G l N_111 r_113 hI_N_111 (by omega)) kd_163 rfl rfl rfl ⟨by decide, by decide⟩ rfl rfl (Nat.le_of_ble_eq_true rfl) dX12_see_270 rfl ?_
              intro r_120 N_121 q_122
              obtain ⟨hI_N_121, hG_N_121, q_122c⟩ := q_122
              have hF_N_121 : Fr f_e_see3m M N_121 := Fr.c hF_N_111 hG_N_121 rfl
              refine kx_topi (e' := r_113) (by omega) ?_
              have hS1 : zRN (N_86 164) q := by rw [show N_86 164 = M 164 from (by rw [show N_86 164 = M 164 from hG_N_86.fn kd_164 rfl])]; exact hS
              have hU1 : zRU (N_86 164) q := by rw [show N_86 164 = M 164 from (by rw [show N_86 164 = M 164 from hG_N_86.fn kd_164 rfl])]; exact hU
              have hD1 : LD N_86 := hd_N_86
              have hfn : N_111 164 = (upk (N_104 164) 5 w_109) := by rw [mu_up hM_N_111]
              have hcb1 : N_104 164 = zCB (M 164) (zst q (85 * M 164 4 + 100)) (zks q (85 * M 164 4 + 100)) a1 := by have h := hcb_N_104; rw [show N_86 164 = M 164 from (by rw [show N_86 164 = M 164 from hG_N_86.fn kd_164 rfl])] at h; exact h
              have hgf : N_111 164 = zSEg q (M 164) a1 := (zse.r (n := q (85 * M 164 4 + 100)) (so := zsr q a1) (zsr.of (Or.inr (Or.inl ⟨rfl, by omega, by omega⟩))).symm hfn hcb1 he_w_109)
              have hm4 : zSEg q (M 164) a1 4 = M 164 4 := by rw [← hgf]; omega
              have hq3 : N_111 164 (85 * N_111 164 4 + 103) = q (85 * zSEg q (M 164) a1 4 + 103) := by rw [hm4, show N_111 164 4 = M 164 4 by omega]; exact ((zRW.sta (zRW.trans (zRW.fr (zRW.rf M) hG_N_86 rfl) hrw_N_104) hM_N_111 (by omega)) _ (by omega)).trans ((hU.b (a := M 164 4) (b := (85 * M 164 4 + 100)) (by omega) rfl).n (d := 3) (by decide) (by omega))
              have hzw : zand (N_111 164 7) (N_111 164 (85 * N_111 164 4 + 103)) = zand (zSEg q (M 164) a1 7) (q (85 * zSEg q (M 164) a1 4 + 103)) := by rw [hq3, congrFun hgf 7]
              exact kx_iret F hQ ⟨hI_N_121, hF_N_121, (by omega), ⟨⟨(YY.fr (YY.sta hy_N_104 hI_N_104 hM_N_111 (by omega)) hG_N_121 rfl), (zRW.fr (zRW.sta (zRW.trans (zRW.fr (zRW.rf M) hG_N_86 rfl) hrw_N_104) hM_N_111 (by omega)) hG_N_121 rfl)⟩, ⟨zSEg q (M 164) a1, Or.inl ⟨⟨by omega, by omega, by omega, fun _ => by omega⟩, rfl, Or.inr ⟨by omega, by omega⟩⟩, fun i _ _ => by rw [Fr.e hG_N_121 kd_164 _ rfl, hgf]⟩⟩⟩ dX12_see_273
        · have h_124 : r_88 = 2 := by omega
          · rw [show vI r_88 = vI 2 by rw [h_124]]
            refine kx_look 205 F (by decide) dX12_see_68 (by decide) rfl (by decide) ?_
            refine kx_aload_n 206 F 0 dX12_see_205 rfl rfl rfl ?_
            refine kx_getr 209 F fl_X12_7 kd_163 rfl rfl (j := 0) rfl dX12_see_206 (v := 164) (uq_164 (Inv.r hI_N_86 kd_163 rfl 0 rfl rfl)) rfl ?_
            refine kx_bipush 211 F dX12_see_209 (by decide) rfl ?_
            refine kx_aload_n 212 F 0 dX12_see_211 rfl rfl rfl ?_
            refine kx_getr 215 F fl_X12_7 kd_163 rfl rfl (j := 0) rfl dX12_see_212 (v := 164) (uq_164 (Inv.r hI_N_86 kd_163 rfl 0 rfl rfl)) rfl ?_
            refine kx_bipush 217 F dX12_see_215 (by decide) rfl ?_
            refine kx_iald 218 F kd_164 rfl rfl (by omega) (by decide) dX12_see_217 (v := (M 164 7)) (by rw [Fr.e hG_N_86 kd_164 _ rfl]) rfl ?_
            have ha_125 : atlo 7 = 0 ∧ athi 7 = 7 := at_c 7 0 (o := 7) (lo := 0) (hi := 7) (by omega) (by decide) (by decide) (by decide)
            have h_126 := Inv.g hI_M kd_164 rfl 7 (a := 0) (b := 7) ha_125.1 ha_125.2
            refine kx_aload_n 219 F 0 dX12_see_218 rfl rfl rfl ?_
            refine kx_iload_n 220 F 2 dX12_see_219 rfl rfl rfl ?_
            refine kx_iload_n 221 F 1 dX12_see_220 rfl rfl rfl ?_
            refine kx_bipush 223 F dX12_see_221 (by decide) rfl ?_
            refine kx_Vi 226 (ci := 0) F (As := [vI (M 164 4), vI a1, vI 8]) (st := [vI (M 164 7), vI 7, vR G 164]) vd_X12_323 (e_leads G l N_86 (M 164 4) a1 8 hI_N_86 (by omega)) kd_163 rfl rfl rfl ⟨by decide, by decide⟩ rfl rfl (Nat.le_of_ble_eq_true rfl) dX12_see_223 rfl ?_
            intro r_127 N_128 q_129
            obtain ⟨rfl, q_129c, hz_N_128⟩ := q_129
            refine kx_Si 229 F (As := [vI (M 164 7), vI r_127]) (st := [vI 7, vR G 164]) sd_X12_332 (e_image3m G l N_86 (M 164 7) r_127 hI_N_86 (by omega)) ⟨by decide, by decide⟩ rfl rfl (Nat.le_of_ble_eq_true rfl) dX12_see_226 rfl ?_
            intro r_130 N_131 q_132
            obtain ⟨rfl, q_132c, hz_N_131⟩ := q_132
            refine kx_iast 230 F kd_164 rfl rfl (by omega) (by decide) dX12_see_229 rfl ?_
            intro N_133 hM_N_133
            have hI_N_133 : Inv true N_133 := Inv.u hI_N_86 hM_N_133 kd_164 (a := 0) (b := 7) ha_125.1 ha_125.2 rfl (by omega)
            have hF_N_133 : Fr f_e_see3m M N_133 := Fr.u hF_N_86 hM_N_133 kd_164 rfl
            refine kx_aload_n 231 F 0 dX12_see_230 rfl rfl rfl ?_
            refine kx_getr 234 F fl_X12_7 kd_163 rfl rfl (j := 0) rfl dX12_see_231 (v := 164) (uq_164 (Inv.r hI_N_133 kd_163 rfl 0 rfl rfl)) rfl ?_
            refine kx_bipush 236 F dX12_see_234 (by decide) rfl ?_
            refine kx_aload_n 237 F 0 dX12_see_236 rfl rfl rfl ?_
            refine kx_getr 240 F fl_X12_7 kd_163 rfl rfl (j := 0) rfl dX12_see_237 (v := 164) (uq_164 (Inv.r hI_N_133 kd_163 rfl 0 rfl rfl)) rfl ?_
            refine kx_bipush 242 F dX12_see_240 (by decide) rfl ?_
            refine kx_iald 243 F kd_164 rfl rfl (by omega) (by decide) dX12_see_242 (v := (M 164 8)) (by rw [hM_N_133, mu_i (by omega), Fr.e hG_N_86 kd_164 _ rfl]) rfl ?_
            have ha_134 : atlo 8 = 0 ∧ athi 8 = 511 := at_c 8 0 (o := 8) (lo := 0) (hi := 511) (by omega) (by decide) (by decide) (by decide)
            have h_135 := Inv.g hI_M kd_164 rfl 8 (a := 0) (b := 511) ha_134.1 ha_134.2
            refine kx_aload_n 244 F 0 dX12_see_243 rfl rfl rfl ?_
            refine kx_iload_n 245 F 2 dX12_see_244 rfl rfl rfl ?_
            refine kx_iload_n 246 F 1 dX12_see_245 rfl rfl rfl ?_
            refine kx_bipush 248 F dX12_see_246 (by decide) rfl ?_
            refine kx_Vi 251 (ci := 0) F (As := [vI (M 164 4), vI a1, vI 8]) (st := [vI (M 164 8), vI 8, vR G 164]) vd_X12_323 (e_leads G l N_133 (M 164 4) a1 8 hI_N_133 (by omega)) kd_163 rfl rfl rfl ⟨by decide, by decide⟩ rfl rfl (Nat.le_of_ble_eq_true rfl) dX12_see_248 rfl ?_
            intro r_136 N_137 q_138
            obtain ⟨rfl, q_138c, hz_N_137⟩ := q_138
            refine kx_Si 254 F (As := [vI (M 164 8), vI r_136]) (st := [vI 8, vR G 164]) sd_X12_326 (e_then G l N_133 (M 164 8) r_136 hI_N_133 (by omega)) ⟨by decide, by decide⟩ rfl rfl (Nat.le_of_ble_eq_true rfl) dX12_see_251 rfl ?_
            intro r_139 N_140 q_141
            obtain ⟨rfl, q_141c, hz_N_140⟩ := q_141
            refine kx_iast 255 F kd_164 rfl rfl (by omega) (by decide) dX12_see_254 rfl ?_
            intro N_142 hM_N_142
            have hI_N_142 : Inv true N_142 := Inv.u hI_N_133 hM_N_142 kd_164 (a := 0) (b := 511) ha_134.1 ha_134.2 rfl (by omega)
            have hF_N_142 : Fr f_e_see3m M N_142 := Fr.u hF_N_133 hM_N_142 kd_164 rfl
            refine kx_aload_n 256 F 0 dX12_see_255 rfl rfl rfl ?_
            refine kx_getr 259 F fl_X12_7 kd_163 rfl rfl (j := 0) rfl dX12_see_256 (v := 164) (uq_164 (Inv.r hI_N_142 kd_163 rfl 0 rfl rfl)) rfl ?_
            refine kx_iconst 260 F dX12_see_259 rfl ?_
            refine kx_dup2 261 F dX12_see_260 rfl rfl rfl ?_
            refine kx_iald 262 F kd_164 rfl rfl (by omega) (by decide) dX12_see_261 (v := (M 164 5)) (by rw [hM_N_142, mu_i (by omega), hM_N_133, mu_i (by omega), Fr.e hG_N_86 kd_164 _ rfl]) rfl ?_
            have ha_143 : atlo 5 = (-2147483648) ∧ athi 5 = 2147483647 := at_c 5 0 (o := 5) (lo := (-2147483648)) (hi := 2147483647) (by omega) (by decide) (by decide) (by decide)
            have h_144 := Inv.g hI_M kd_164 rfl 5 (a := (-2147483648)) (b := 2147483647) ha_143.1 ha_143.2
            refine kx_iconst 263 F dX12_see_262 rfl ?_
            refine kx_iadd 264 F (v := (M 164 5) + 1) dX12_see_263 rfl rfl ?_
            refine kx_wrapi (fun w_145 h_146 he_w_145 => ?_)
            refine kx_iast 265 F kd_164 rfl rfl (by omega) (by decide) dX12_see_264 rfl ?_
            intro N_147 hM_N_147
            have hI_N_147 : Inv true N_147 := Inv.u hI_N_142 hM_N_147 kd_164 (a := (-2147483648)) (b := 2147483647) ha_143.1 ha_143.2 rfl (by omega)
            have hF_N_147 : Fr f_e_see3m M N_147 := Fr.u hF_N_142 hM_N_147 kd_164 rfl
            refine kx_aload_n 266 F 0 dX12_see_265 rfl rfl rfl ?_
            refine kx_aload_n 267 F 0 dX12_see_266 rfl rfl rfl ?_
            have e_148 : (N_147 164 4) = (M 164 4) := by rw [hM_N_147, mu_i (by omega), hM_N_142, mu_i (by omega), hM_N_133, mu_i (by omega), Fr.e hG_N_86 kd_164 _ rfl]
            refine kx_Vi 270 (ci := 0) F (As := []) (st := [vR G 163]) vd_X12_522 (e_isTakenNow3 G l N_147  hI_N_147 (by omega)) kd_163 rfl rfl rfl ⟨by decide, by decide⟩ rfl rfl (Nat.le_of_ble_eq_true rfl) dX12_see_267 rfl ?_
            intro r_149 N_150 q_151
            obtain ⟨rfl, q_151c⟩ := q_151
            rcases q_151c with q_151c | q_151c
            · refine kx_Vi 273 (ci := 0) F (As := [vI r_149]) (st := []) vd_X12_127 (c_X12_gives G l N_147 r_149 hI_N_147 (by omega)) kd_163 rfl rfl rfl ⟨by decide, by decide⟩ rfl rfl (Nat.le_of_ble_eq_true rfl) dX12_see_270 rfl ?_
              intro r_152 N_153 q_154
              obtain ⟨hI_N_153, hG_N_153, q_154c⟩ := q_154
              have hF_N_153 : Fr f_e_see3m M N_153 := Fr.c hF_N_147 hG_N_153 rfl
              refine kx_topi (e' := r_149) (by omega) ?_
              have hS1 : zRN (N_86 164) q := by rw [show N_86 164 = M 164 from (by rw [show N_86 164 = M 164 from hG_N_86.fn kd_164 rfl])]; exact hS
              have hU1 : zRU (N_86 164) q := by rw [show N_86 164 = M 164 from (by rw [show N_86 164 = M 164 from hG_N_86.fn kd_164 rfl])]; exact hU
              have hD1 : LD N_86 := hd_N_86
              have hfn : N_147 164 = (upk (upk (upk (M 164) 7 r_130) 8 r_139) 5 w_145) := by rw [mu_up hM_N_147, mu_up hM_N_142, mu_up hM_N_133, show N_86 164 = M 164 from hG_N_86.fn kd_164 rfl]
              have hl_155 : r_127 = zst q (85 * (M 164 4) + 100) a1 := hz_N_128.trans (by exact zLK_s hI_N_86 hD1 hS1 hU1 hC ⟨by omega, by omega⟩ ⟨by omega, by omega⟩ (by rw [if_neg (by omega)]))
              have hl_156 : r_136 = zst q (85 * (M 164 4) + 100) a1 := hz_N_137.trans (by rw [show N_133 171 = N_86 171 from funext (fun j => by rw [hM_N_133, mu_k kd_171 kd_164 rfl])]; exact zLK_s hI_N_86 hD1 hS1 hU1 hC ⟨by omega, by omega⟩ ⟨by omega, by omega⟩ (by rw [if_neg (by omega)]))
              have hgf : N_147 164 = zSEg q (M 164) a1 := (zse.n (n := q (85 * M 164 4 + 100)) (K := zks q (85 * M 164 4 + 100)) (zsr.of (Or.inr (Or.inr ⟨rfl, by omega, by omega⟩))).symm hfn (hz_N_131.trans (by rw [hl_155])) (hz_N_140.trans (by rw [hl_156])) he_w_145)
              have hm4 : zSEg q (M 164) a1 4 = M 164 4 := by rw [← hgf]; omega
              have hq3 : N_147 164 (85 * N_147 164 4 + 103) = q (85 * zSEg q (M 164) a1 4 + 103) := by rw [hm4, show N_147 164 4 = M 164 4 by omega]; exact ((zRW.sta (zRW.sta (zRW.sta (zRW.fr (zRW.rf M) hG_N_86 rfl) hM_N_133 (by omega)) hM_N_142 (by omega)) hM_N_147 (by omega)) _ (by omega)).trans ((hU.b (a := M 164 4) (b := (85 * M 164 4 + 100)) (by omega) rfl).n (d := 3) (by decide) (by omega))
              have hzw : zand (N_147 164 7) (N_147 164 (85 * N_147 164 4 + 103)) = zand (zSEg q (M 164) a1 7) (q (85 * zSEg q (M 164) a1 4 + 103)) := by rw [hq3, congrFun hgf 7]
              exact kx_iret F hQ ⟨hI_N_153, hF_N_153, (by omega), ⟨⟨(YY.fr (YY.sta (YY.sta (YY.sta (YY.fr hY hG_N_86 rfl) hI_N_86 hM_N_133 (by omega)) hI_N_133 hM_N_142 (by omega)) hI_N_142 hM_N_147 (by omega)) hG_N_153 rfl), (zRW.fr (zRW.sta (zRW.sta (zRW.sta (zRW.fr (zRW.rf M) hG_N_86 rfl) hM_N_133 (by omega)) hM_N_142 (by omega)) hM_N_147 (by omega)) hG_N_153 rfl)⟩, ⟨zSEg q (M 164) a1, Or.inl ⟨⟨by omega, by omega, by omega, fun _ => by omega⟩, rfl, Or.inl ⟨by omega, by omega⟩⟩, fun i _ _ => by rw [Fr.e hG_N_153 kd_164 _ rfl, hgf]⟩⟩⟩ dX12_see_273
            · refine kx_Vi 273 (ci := 0) F (As := [vI r_149]) (st := []) vd_X12_127 (c_X12_gives G l N_147 r_149 hI_N_147 (by omega)) kd_163 rfl rfl rfl ⟨by decide, by decide⟩ rfl rfl (Nat.le_of_ble_eq_true rfl) dX12_see_270 rfl ?_
              intro r_158 N_159 q_160
              obtain ⟨hI_N_159, hG_N_159, q_160c⟩ := q_160
              have hF_N_159 : Fr f_e_see3m M N_159 := Fr.c hF_N_147 hG_N_159 rfl
              refine kx_topi (e' := r_149) (by omega) ?_
              have hS1 : zRN (N_86 164) q := by rw [show N_86 164 = M 164 from (by rw [show N_86 164 = M 164 from hG_N_86.fn kd_164 rfl])]; exact hS
              have hU1 : zRU (N_86 164) q := by rw [show N_86 164 = M 164 from (by rw [show N_86 164 = M 164 from hG_N_86.fn kd_164 rfl])]; exact hU
              have hD1 : LD N_86 := hd_N_86
              have hfn : N_147 164 = (upk (upk (upk (M 164) 7 r_130) 8 r_139) 5 w_145) := by rw [mu_up hM_N_147, mu_up hM_N_142, mu_up hM_N_133, show N_86 164 = M 164 from hG_N_86.fn kd_164 rfl]
              have hl_161 : r_127 = zst q (85 * (M 164 4) + 100) a1 := hz_N_128.trans (by exact zLK_s hI_N_86 hD1 hS1 hU1 hC ⟨by omega, by omega⟩ ⟨by omega, by omega⟩ (by rw [if_neg (by omega)]))
              have hl_162 : r_136 = zst q (85 * (M 164 4) + 100) a1 := hz_N_137.trans (by rw [show N_133 171 = N_86 171 from funext (fun j => by rw [hM_N_133, mu_k kd_171 kd_164 rfl])]; exact zLK_s hI_N_86 hD1 hS1 hU1 hC ⟨by omega, by omega⟩ ⟨by omega, by omega⟩ (by rw [if_neg (by omega)]))
              have hgf : N_147 164 = zSEg q (M 164) a1 := (zse.n (n := q (85 * M 164 4 + 100)) (K := zks q (85 * M 164 4 + 100)) (zsr.of (Or.inr (Or.inr ⟨rfl, by omega, by omega⟩))).symm hfn (hz_N_131.trans (by rw [hl_161])) (hz_N_140.trans (by rw [hl_162])) he_w_145)
              have hm4 : zSEg q (M 164) a1 4 = M 164 4 := by rw [← hgf]; omega
              have hq3 : N_147 164 (85 * N_147 164 4 + 103) = q (85 * zSEg q (M 164) a1 4 + 103) := by rw [hm4, show N_147 164 4 = M 164 4 by omega]; exact ((zRW.sta (zRW.sta (zRW.sta (zRW.fr (zRW.rf M) hG_N_86 rfl) hM_N_133 (by omega)) hM_N_142 (by omega)) hM_N_147 (by omega)) _ (by omega)).trans ((hU.b (a := M 164 4) (b := (85 * M 164 4 + 100)) (by omega) rfl).n (d := 3) (by decide) (by omega))
              have hzw : zand (N_147 164 7) (N_147 164 (85 * N_147 164 4 + 103)) = zand (zSEg q (M 164) a1 7) (q (85 * zSEg q (M 164) a1 4 + 103)) := by rw [hq3, congrFun hgf 7]
              exact kx_iret F hQ ⟨hI_N_159, hF_N_159, (by omega), ⟨⟨(YY.fr (YY.sta (YY.sta (YY.sta (YY.fr hY hG_N_86 rfl) hI_N_86 hM_N_133 (by omega)) hI_N_133 hM_N_142 (by omega)) hI_N_142 hM_N_147 (by omega)) hG_N_159 rfl), (zRW.fr (zRW.sta (zRW.sta (zRW.sta (zRW.fr (zRW.rf M) hG_N_86 rfl) hM_N_133 (by omega)) hM_N_142 (by omega)) hM_N_147 (by omega)) hG_N_159 rfl)⟩, ⟨zSEg q (M 164) a1, Or.inl ⟨⟨by omega, by omega, by omega, fun _ => by omega⟩, rfl, Or.inr ⟨by omega, by omega⟩⟩, fun i _ _ => by rw [Fr.e hG_N_159 kd_164 _ rfl, hgf]⟩⟩⟩ dX12_see_273
      · refine kx_if_ne 41 F 59 dX12_see_38 (by decide) rfl (by omega) (fun h_164 => ?_) (fun h_164 => (by exfalso; omega))
        refine kx_aload_n 60 F 0 dX12_see_59 rfl rfl rfl ?_
        refine kx_Vv 63 (ci := 0) F (As := []) (st := []) vd_X12_342 (e_laysRules G l M  hI_M) kd_163 rfl rfl rfl ⟨by decide, by decide⟩ rfl rfl (Nat.le_of_ble_eq_true rfl) dX12_see_60 rfl ?_
        intro N_165 q_166
        obtain ⟨hI_N_165, hG_N_165, hd_N_165⟩ := q_166
        have hF_N_165 : Fr f_e_see3m M N_165 := Fr.c hF_M hG_N_165 rfl
        refine kx_aload_n 64 F 0 dX12_see_63 rfl rfl rfl ?_
        refine kx_iload_n 65 F 1 dX12_see_64 rfl rfl rfl ?_
        refine kx_Vi 68 (ci := 0) F (As := [vI a1]) (st := []) vd_X12_297 (c_sortNowE G l N_165 a1 hI_N_165 (by omega)) kd_163 rfl rfl rfl ⟨by decide, by decide⟩ rfl rfl (Nat.le_of_ble_eq_true rfl) dX12_see_65 rfl ?_
        intro r_167 N_168 q_169
        obtain ⟨rfl, q_169c⟩ := q_169
        have e_170 : (N_165 164 0) = (M 164 0) := by rw [Fr.e hG_N_165 kd_164 _ rfl]
        have e_175 : (N_165 164 1) = (M 164 1) := by rw [Fr.e hG_N_165 kd_164 _ rfl]
        rcases q_169c with q_169c | q_169c | q_169c
        · exfalso; omega
        · have h_182 : r_167 = 1 := by omega
          · rw [show vI r_167 = vI 1 by rw [h_182]]
            refine kx_look 196 F (by decide) dX12_see_68 (by decide) rfl (by decide) ?_
            refine kx_aload_n 197 F 0 dX12_see_196 rfl rfl rfl ?_
            refine kx_iload_n 198 F 2 dX12_see_197 rfl rfl rfl ?_
            refine kx_iload_n 199 F 1 dX12_see_198 rfl rfl rfl ?_
            refine kx_Vv 202 (ci := 0) F (As := [vI (M 164 4), vI a1]) (st := []) vd_X12_528 (e_comesBack3 G l N_165 (M 164 4) a1 hI_N_165 (by omega) (YY.fr hY hG_N_165 rfl)  q (by rw [show N_165 164 = M 164 from (funext (fun j => by rw [Fr.e hG_N_165 kd_164 _ rfl]))]; exact hS) (by rw [show N_165 164 = M 164 from (funext (fun j => by rw [Fr.e hG_N_165 kd_164 _ rfl]))]; exact hU) hC hV hd_N_165 (by omega) (fun h => by omega)) kd_163 rfl rfl rfl ⟨by decide, by decide⟩ rfl rfl (Nat.le_of_ble_eq_true rfl) dX12_see_199 rfl ?_
            intro N_183 q_184
            obtain ⟨hI_N_183, hG_N_183, q_184c, ⟨⟨hy_N_183, hrw_N_183⟩, hcb_N_183⟩⟩ := q_184
            have hF_N_183 : Fr f_e_see3m M N_183 := Fr.c hF_N_165 hG_N_183 rfl
            have e_185 : (N_165 164 4) = (M 164 4) := by rw [Fr.e hG_N_165 kd_164 _ rfl]
            refine kx_goto 255 F dX12_see_202 (by decide) ?_
            refine kx_aload_n 256 F 0 dX12_see_255 rfl rfl rfl ?_
            refine kx_getr 259 F fl_X12_7 kd_163 rfl rfl (j := 0) rfl dX12_see_256 (v := 164) (uq_164 (Inv.r hI_N_183 kd_163 rfl 0 rfl rfl)) rfl ?_
            refine kx_iconst 260 F dX12_see_259 rfl ?_
            refine kx_dup2 261 F dX12_see_260 rfl rfl rfl ?_
            refine kx_iald 262 F kd_164 rfl rfl (by omega) (by decide) dX12_see_261 (v := (N_183 164 5)) rfl rfl ?_
            have ha_186 : atlo 5 = (-2147483648) ∧ athi 5 = 2147483647 := at_c 5 0 (o := 5) (lo := (-2147483648)) (hi := 2147483647) (by omega) (by decide) (by decide) (by decide)
            have h_187 := Inv.g hI_N_183 kd_164 rfl 5 (a := (-2147483648)) (b := 2147483647) ha_186.1 ha_186.2
            refine kx_iconst 263 F dX12_see_262 rfl ?_
            refine kx_iadd 264 F (v := (N_183 164 5) + 1) dX12_see_263 rfl rfl ?_
            refine kx_wrapi (fun w_188 h_189 he_w_188 => ?_)
            refine kx_iast 265 F kd_164 rfl rfl (by omega) (by decide) dX12_see_264 rfl ?_
            intro N_190 hM_N_190
            have hI_N_190 : Inv true N_190 := Inv.u hI_N_183 hM_N_190 kd_164 (a := (-2147483648)) (b := 2147483647) ha_186.1 ha_186.2 rfl (by omega)
            have hF_N_190 : Fr f_e_see3m M N_190 := Fr.u hF_N_183 hM_N_190 kd_164 rfl
            refine kx_aload_n 266 F 0 dX12_see_265 rfl rfl rfl ?_
            refine kx_aload_n 267 F 0 dX12_see_266 rfl rfl rfl ?_
            have e_191 : (N_190 164 4) = (N_183 164 4) := by rw [hM_N_190, mu_i (by omega)]
            refine kx_Vi 270 (ci := 0) F (As := []) (st := [vR G 163]) vd_X12_522 (e_isTakenNow3 G l N_190  hI_N_190 (by omega)) kd_163 rfl rfl rfl ⟨by decide, by decide⟩ rfl rfl (Nat.le_of_ble_eq_true rfl) dX12_see_267 rfl ?_
            intro r_192 N_193 q_194
            obtain ⟨rfl, q_194c⟩ := q_194
            rcases q_194c with q_194c | q_194c
            · refine kx_Vi 273 (ci := 0) F (As := [vI r_192]) (st := []) vd_X12_127 (c_X12_gives G l N_190 r_192 hI_N_190 (by omega)) kd_163 rfl rfl rfl ⟨by decide, by decide⟩ rfl rfl (Nat.le_of_ble_eq_true rfl) dX12_see_270 rfl ?_
              intro r_195 N_196 q_197
              obtain ⟨hI_N_196, hG_N_196, q_197c⟩ := q_197
              have hF_N_196 : Fr f_e_see3m M N_196 := Fr.c hF_N_190 hG_N_196 rfl
              refine kx_topi (e' := r_192) (by omega) ?_
              have hS1 : zRN (N_165 164) q := by rw [show N_165 164 = M 164 from (by rw [show N_165 164 = M 164 from hG_N_165.fn kd_164 rfl])]; exact hS
              have hU1 : zRU (N_165 164) q := by rw [show N_165 164 = M 164 from (by rw [show N_165 164 = M 164 from hG_N_165.fn kd_164 rfl])]; exact hU
              have hD1 : LD N_165 := hd_N_165
              have hfn : N_190 164 = (upk (N_183 164) 5 w_188) := by rw [mu_up hM_N_190]
              have hcb1 : N_183 164 = zCB (M 164) (zst q (85 * M 164 4 + 100)) (zks q (85 * M 164 4 + 100)) a1 := by have h := hcb_N_183; rw [show N_165 164 = M 164 from (by rw [show N_165 164 = M 164 from hG_N_165.fn kd_164 rfl])] at h; exact h
              have hgf : N_190 164 = zSEg q (M 164) a1 := (zse.r (n := q (85 * M 164 4 + 100)) (so := zsr q a1) (zsr.of (Or.inr (Or.inl ⟨rfl, by omega, by omega⟩))).symm hfn hcb1 he_w_188)
              have hm4 : zSEg q (M 164) a1 4 = M 164 4 := by rw [← hgf]; omega
              have hq3 : N_190 164 (85 * N_190 164 4 + 103) = q (85 * zSEg q (M 164) a1 4 + 103) := by rw [hm4, show N_190 164 4 = M 164 4 by omega]; exact ((zRW.sta (zRW.trans (zRW.fr (zRW.rf M) hG_N_165 rfl) hrw_N_183) hM_N_190 (by omega)) _ (by omega)).trans ((hU.b (a := M 164 4) (b := (85 * M 164 4 + 100)) (by omega) rfl).n (d := 3) (by decide) (by omega))
              have hzw : zand (N_190 164 7) (N_190 164 (85 * N_190 164 4 + 103)) = zand (zSEg q (M 164) a1 7) (q (85 * zSEg q (M 164) a1 4 + 103)) := by rw [hq3, congrFun hgf 7]
              exact kx_iret F hQ ⟨hI_N_196, hF_N_196, (by omega), ⟨⟨(YY.fr (YY.sta hy_N_183 hI_N_183 hM_N_190 (by omega)) hG_N_196 rfl), (zRW.fr (zRW.sta (zRW.trans (zRW.fr (zRW.rf M) hG_N_165 rfl) hrw_N_183) hM_N_190 (by omega)) hG_N_196 rfl)⟩, ⟨zSEg q (M 164) a1, Or.inl ⟨⟨by omega, by omega, by omega, fun _ => by omega⟩, rfl, Or.inl ⟨by omega, by omega⟩⟩, fun i _ _ => by rw [Fr.e hG_N_196 kd_164 _ rfl, hgf]⟩⟩⟩ dX12_see_273
            · refine kx_Vi 273 (ci := 0) F (As := [vI r_192]) (st := []) vd_X12_127 (c_X12_gives G l N_190 r_192 hI_N_190 (by omega)) kd_163 rfl rfl rfl ⟨by decide, by decide⟩ rfl rfl (Nat.le_of_ble_eq_true rfl) dX12_see_270 rfl ?_
              intro r_199 N_200 q_201
              obtain ⟨hI_N_200, hG_N_200, q_201c⟩ := q_201
              have hF_N_200 : Fr f_e_see3m M N_200 := Fr.c hF_N_190 hG_N_200 rfl
              refine kx_topi (e' := r_192) (by omega) ?_
              have hS1 : zRN (N_165 164) q := by rw [show N_165 164 = M 164 from (by rw [show N_165 164 = M 164 from hG_N_165.fn kd_164 rfl])]; exact hS
              have hU1 : zRU (N_165 164) q := by rw [show N_165 164 = M 164 from (by rw [show N_165 164 = M 164 from hG_N_165.fn kd_164 rfl])]; exact hU
              have hD1 : LD N_165 := hd_N_165
              have hfn : N_190 164 = (upk (N_183 164) 5 w_188) := by rw [mu_up hM_N_190]
              have hcb1 : N_183 164 = zCB (M 164) (zst q (85 * M 164 4 + 100)) (zks q (85 * M 164 4 + 100)) a1 := by have h := hcb_N_183; rw [show N_165 164 = M 164 from (by rw [show N_165 164 = M 164 from hG_N_165.fn kd_164 rfl])] at h; exact h
              have hgf : N_190 164 = zSEg q (M 164) a1 := (zse.r (n := q (85 * M 164 4 + 100)) (so := zsr q a1) (zsr.of (Or.inr (Or.inl ⟨rfl, by omega, by omega⟩))).symm hfn hcb1 he_w_188)
              have hm4 : zSEg q (M 164) a1 4 = M 164 4 := by rw [← hgf]; omega
              have hq3 : N_190 164 (85 * N_190 164 4 + 103) = q (85 * zSEg q (M 164) a1 4 + 103) := by rw [hm4, show N_190 164 4 = M 164 4 by omega]; exact ((zRW.sta (zRW.trans (zRW.fr (zRW.rf M) hG_N_165 rfl) hrw_N_183) hM_N_190 (by omega)) _ (by omega)).trans ((hU.b (a := M 164 4) (b := (85 * M 164 4 + 100)) (by omega) rfl).n (d := 3) (by decide) (by omega))
              have hzw : zand (N_190 164 7) (N_190 164 (85 * N_190 164 4 + 103)) = zand (zSEg q (M 164) a1 7) (q (85 * zSEg q (M 164) a1 4 + 103)) := by rw [hq3, congrFun hgf 7]
              exact kx_iret F hQ ⟨hI_N_200, hF_N_200, (by omega), ⟨⟨(YY.fr (YY.sta hy_N_183 hI_N_183 hM_N_190 (by omega)) hG_N_200 rfl), (zRW.fr (zRW.sta (zRW.trans (zRW.fr (zRW.rf M) hG_N_165 rfl) hrw_N_183) hM_N_190 (by omega)) hG_N_200 rfl)⟩, ⟨zSEg q (M 164) a1, Or.inl ⟨⟨by omega, by omega, by omega, fun _ => by omega⟩, rfl, Or.inr ⟨by omega, by omega⟩⟩, fun i _ _ => by rw [Fr.e hG_N_200 kd_164 _ rfl, hgf]⟩⟩⟩ dX12_see_273
        · have h_203 : r_167 = 2 := by omega
          · rw [show vI r_167 = vI 2 by rw [h_203]]
            refine kx_look 205 F (by decide) dX12_see_68 (by decide) rfl (by decide) ?_
            refine kx_aload_n 206 F 0 dX12_see_205 rfl rfl rfl ?_
            refine kx_getr 209 F fl_X12_7 kd_163 rfl rfl (j := 0) rfl dX12_see_206 (v := 164) (uq_164 (Inv.r hI_N_165 kd_163 rfl 0 rfl rfl)) rfl ?_
            refine kx_bipush 211 F dX12_see_209 (by decide) rfl ?_
            refine kx_aload_n 212 F 0 dX12_see_211 rfl rfl rfl ?_
            refine kx_getr 215 F fl_X12_7 kd_163 rfl rfl (j := 0) rfl dX12_see_212 (v := 164) (uq_164 (Inv.r hI_N_165 kd_163 rfl 0 rfl rfl)) rfl ?_
            refine kx_bipush 217 F dX12_see_215 (by decide) rfl ?_
            refine kx_iald 218 F kd_164 rfl rfl (by omega) (by decide) dX12_see_217 (v := (M 164 7)) (by rw [Fr.e hG_N_165 kd_164 _ rfl]) rfl ?_
            have ha_204 : atlo 7 = 0 ∧ athi 7 = 7 := at_c 7 0 (o := 7) (lo := 0) (hi := 7) (by omega) (by decide) (by decide) (by decide)
            have h_205 := Inv.g hI_M kd_164 rfl 7 (a := 0) (b := 7) ha_204.1 ha_204.2
            refine kx_aload_n 219 F 0 dX12_see_218 rfl rfl rfl ?_
            refine kx_iload_n 220 F 2 dX12_see_219 rfl rfl rfl ?_
            refine kx_iload_n 221 F 1 dX12_see_220 rfl rfl rfl ?_
            refine kx_bipush 223 F dX12_see_221 (by decide) rfl ?_
            refine kx_Vi 226 (ci := 0) F (As := [vI (M 164 4), vI a1, vI 8]) (st := [vI (M 164 7), vI 7, vR G 164]) vd_X12_323 (e_leads G l N_165 (M 164 4) a1 8 hI_N_165 (by omega)) kd_163 rfl rfl rfl ⟨by decide, by decide⟩ rfl rfl (Nat.le_of_ble_eq_true rfl) dX12_see_223 rfl ?_
            intro r_206 N_207 q_208
            obtain ⟨rfl, q_208c, hz_N_207⟩ := q_208
            refine kx_Si 229 F (As := [vI (M 164 7), vI r_206]) (st := [vI 7, vR G 164]) sd_X12_332 (e_image3m G l N_165 (M 164 7) r_206 hI_N_165 (by omega)) ⟨by decide, by decide⟩ rfl rfl (Nat.le_of_ble_eq_true rfl) dX12_see_226 rfl ?_
            intro r_209 N_210 q_211
            obtain ⟨rfl, q_211c, hz_N_210⟩ := q_211
            refine kx_iast 230 F kd_164 rfl rfl (by omega) (by decide) dX12_see_229 rfl ?_
            intro N_212 hM_N_212
            have hI_N_212 : Inv true N_212 := Inv.u hI_N_165 hM_N_212 kd_164 (a := 0) (b := 7) ha_204.1 ha_204.2 rfl (by omega)
            have hF_N_212 : Fr f_e_see3m M N_212 := Fr.u hF_N_165 hM_N_212 kd_164 rfl
            refine kx_aload_n 231 F 0 dX12_see_230 rfl rfl rfl ?_
            refine kx_getr 234 F fl_X12_7 kd_163 rfl rfl (j := 0) rfl dX12_see_231 (v := 164) (uq_164 (Inv.r hI_N_212 kd_163 rfl 0 rfl rfl)) rfl ?_
            refine kx_bipush 236 F dX12_see_234 (by decide) rfl ?_
            refine kx_aload_n 237 F 0 dX12_see_236 rfl rfl rfl ?_
            refine kx_getr 240 F fl_X12_7 kd_163 rfl rfl (j := 0) rfl dX12_see_237 (v := 164) (uq_164 (Inv.r hI_N_212 kd_163 rfl 0 rfl rfl)) rfl ?_
            refine kx_bipush 242 F dX12_see_240 (by decide) rfl ?_
            refine kx_iald 243 F kd_164 rfl rfl (by omega) (by decide) dX12_see_242 (v := (M 164 8)) (by rw [hM_N_212, mu_i (by omega), Fr.e hG_N_165 kd_164 _ rfl]) rfl ?_
            have ha_213 : atlo 8 = 0 ∧ athi 8 = 511 := at_c 8 0 (o := 8) (lo := 0) (hi := 511) (by omega) (by decide) (by decide) (by decide)
            have h_214 := Inv.g hI_M kd_164 rfl 8 (a := 0) (b := 511) ha_213.1 ha_213.2
            refine kx_aload_n 244 F 0 dX12_see_243 rfl rfl rfl ?_
            refine kx_iload_n 245 F 2 dX12_see_244 rfl rfl rfl ?_
            refine kx_iload_n 246 F 1 dX12_see_245 rfl rfl rfl ?_
            refine kx_bipush 248 F dX12_see_246 (by decide) rfl ?_
            refine kx_Vi 251 (ci := 0) F (As := [vI (M 164 4), vI a1, vI 8]) (st := [vI (M 164 8), vI 8, vR G 164]) vd_X12_323 (e_leads G l N_212 (M 164 4) a1 8 hI_N_212 (by omega)) kd_163 rfl rfl rfl ⟨by decide, by decide⟩ rfl rfl (Nat.le_of_ble_eq_true rfl) dX12_see_248 rfl ?_
            intro r_215 N_216 q_217
            obtain ⟨rfl, q_217c, hz_N_216⟩ := q_217
            refine kx_Si 254 F (As := [vI (M 164 8), vI r_215]) (st := [vI 8, vR G 164]) sd_X12_326 (e_then G l N_212 (M 164 8) r_215 hI_N_212 (by omega)) ⟨by decide, by decide⟩ rfl rfl (Nat.le_of_ble_eq_true rfl) dX12_see_251 rfl ?_
            intro r_218 N_219 q_220
            obtain ⟨rfl, q_220c, hz_N_219⟩ := q_220
            refine kx_iast 255 F kd_164 rfl rfl (by omega) (by decide) dX12_see_254 rfl ?_
            intro N_221 hM_N_221
            have hI_N_221 : Inv true N_221 := Inv.u hI_N_212 hM_N_221 kd_164 (a := 0) (b := 511) ha_213.1 ha_213.2 rfl (by omega)
            have hF_N_221 : Fr f_e_see3m M N_221 := Fr.u hF_N_212 hM_N_221 kd_164 rfl
            refine kx_aload_n 256 F 0 dX12_see_255 rfl rfl rfl ?_
            refine kx_getr 259 F fl_X12_7 kd_163 rfl rfl (j := 0) rfl dX12_see_256 (v := 164) (uq_164 (Inv.r hI_N_221 kd_163 rfl 0 rfl rfl)) rfl ?_
            refine kx_iconst 260 F dX12_see_259 rfl ?_
            refine kx_dup2 261 F dX12_see_260 rfl rfl rfl ?_
            refine kx_iald 262 F kd_164 rfl rfl (by omega) (by decide) dX12_see_261 (v := (M 164 5)) (by rw [hM_N_221, mu_i (by omega), hM_N_212, mu_i (by omega), Fr.e hG_N_165 kd_164 _ rfl]) rfl ?_
            have ha_222 : atlo 5 = (-2147483648) ∧ athi 5 = 2147483647 := at_c 5 0 (o := 5) (lo := (-2147483648)) (hi := 2147483647) (by omega) (by decide) (by decide) (by decide)
            have h_223 := Inv.g hI_M kd_164 rfl 5 (a := (-2147483648)) (b := 2147483647) ha_222.1 ha_222.2
            refine kx_iconst 263 F dX12_see_262 rfl ?_
            refine kx_iadd 264 F (v := (M 164 5) + 1) dX12_see_263 rfl rfl ?_
            refine kx_wrapi (fun w_224 h_225 he_w_224 => ?_)
            refine kx_iast 265 F kd_164 rfl rfl (by omega) (by decide) dX12_see_264 rfl ?_
            intro N_226 hM_N_226
            have hI_N_226 : Inv true N_226 := Inv.u hI_N_221 hM_N_226 kd_164 (a := (-2147483648)) (b := 2147483647) ha_222.1 ha_222.2 rfl (by omega)
            have hF_N_226 : Fr f_e_see3m M N_226 := Fr.u hF_N_221 hM_N_226 kd_164 rfl
            refine kx_aload_n 266 F 0 dX12_see_265 rfl rfl rfl ?_
            refine kx_aload_n 267 F 0 dX12_see_266 rfl rfl rfl ?_
            have e_227 : (N_226 164 4) = (M 164 4) := by rw [hM_N_226, mu_i (by omega), hM_N_221, mu_i (by omega), hM_N_212, mu_i (by omega), Fr.e hG_N_165 kd_164 _ rfl]
            refine kx_Vi 270 (ci := 0) F (As := []) (st := [vR G 163]) vd_X12_522 (e_isTakenNow3 G l N_226  hI_N_226 (by omega)) kd_163 rfl rfl rfl ⟨by decide, by decide⟩ rfl rfl (Nat.le_of_ble_eq_true rfl) dX12_see_267 rfl ?_
            intro r_228 N_229 q_230
            obtain ⟨rfl, q_230c⟩ := q_230
            rcases q_230c with q_230c | q_230c
            · refine kx_Vi 273 (ci := 0) F (As := [vI r_228]) (st := []) vd_X12_127 (c_X12_gives G l N_226 r_228 hI_N_226 (by omega)) kd_163 rfl rfl rfl ⟨by decide, by decide⟩ rfl rfl (Nat.le_of_ble_eq_true rfl) dX12_see_270 rfl ?_
              intro r_231 N_232 q_233
              obtain ⟨hI_N_232, hG_N_232, q_233c⟩ := q_233
              have hF_N_232 : Fr f_e_see3m M N_232 := Fr.c hF_N_226 hG_N_232 rfl
              refine kx_topi (e' := r_228) (by omega) ?_
              have hS1 : zRN (N_165 164) q := by rw [show N_165 164 = M 164 from (by rw [show N_165 164 = M 164 from hG_N_165.fn kd_164 rfl])]; exact hS
              have hU1 : zRU (N_165 164) q := by rw [show N_165 164 = M 164 from (by rw [show N_165 164 = M 164 from hG_N_165.fn kd_164 rfl])]; exact hU
              have hD1 : LD N_165 := hd_N_165
              have hfn : N_226 164 = (upk (upk (upk (M 164) 7 r_209) 8 r_218) 5 w_224) := by rw [mu_up hM_N_226, mu_up hM_N_221, mu_up hM_N_212, show N_165 164 = M 164 from hG_N_165.fn kd_164 rfl]
              have hl_234 : r_206 = zst q (85 * (M 164 4) + 100) a1 := hz_N_207.trans (by exact zLK_s hI_N_165 hD1 hS1 hU1 hC ⟨by omega, by omega⟩ ⟨by omega, by omega⟩ (by rw [if_neg (by omega)]))
              have hl_235 : r_215 = zst q (85 * (M 164 4) + 100) a1 := hz_N_216.trans (by rw [show N_212 171 = N_165 171 from funext (fun j => by rw [hM_N_212, mu_k kd_171 kd_164 rfl])]; exact zLK_s hI_N_165 hD1 hS1 hU1 hC ⟨by omega, by omega⟩ ⟨by omega, by omega⟩ (by rw [if_neg (by omega)]))
              have hgf : N_226 164 = zSEg q (M 164) a1 := (zse.n (n := q (85 * M 164 4 + 100)) (K := zks q (85 * M 164 4 + 100)) (zsr.of (Or.inr (Or.inr ⟨rfl, by omega, by omega⟩))).symm hfn (hz_N_210.trans (by rw [hl_234])) (hz_N_219.trans (by rw [hl_235])) he_w_224)
              have hm4 : zSEg q (M 164) a1 4 = M 164 4 := by rw [← hgf]; omega
              have hq3 : N_226 164 (85 * N_226 164 4 + 103) = q (85 * zSEg q (M 164) a1 4 + 103) := by rw [hm4, show N_226 164 4 = M 164 4 by omega]; exact ((zRW.sta (zRW.sta (zRW.sta (zRW.fr (zRW.rf M) hG_N_165 rfl) hM_N_212 (by omega)) hM_N_221 (by omega)) hM_N_226 (by omega)) _ (by omega)).trans ((hU.b (a := M 164 4) (b := (85 * M 164 4 + 100)) (by omega) rfl).n (d := 3) (by decide) (by omega))
              have hzw : zand (N_226 164 7) (N_226 164 (85 * N_226 164 4 + 103)) = zand (zSEg q (M 164) a1 7) (q (85 * zSEg q (M 164) a1 4 + 103)) := by rw [hq3, congrFun hgf 7]
              exact kx_iret F hQ ⟨hI_N_232, hF_N_232, (by omega), ⟨⟨(YY.fr (YY.sta (YY.sta (YY.sta (YY.fr hY hG_N_165 rfl) hI_N_165 hM_N_212 (by omega)) hI_N_212 hM_N_221 (by omega)) hI_N_221 hM_N_226 (by omega)) hG_N_232 rfl), (zRW.fr (zRW.sta (zRW.sta (zRW.sta (zRW.fr (zRW.rf M) hG_N_165 rfl) hM_N_212 (by omega)) hM_N_221 (by omega)) hM_N_226 (by omega)) hG_N_232 rfl)⟩, ⟨zSEg q (M 164) a1, Or.inl ⟨⟨by omega, by omega, by omega, fun _ => by omega⟩, rfl, Or.inl ⟨by omega, by omega⟩⟩, fun i _ _ => by rw [Fr.e hG_N_232 kd_164 _ rfl, hgf]⟩⟩⟩ dX12_see_273
            · refine kx_Vi 273 (ci := 0) F (As := [vI r_228]) (st := []) vd_X12_127 (c_X12_gives G l N_226 r_228 hI_N_226 (by omega)) kd_163 rfl rfl rfl ⟨by decide, by decide⟩ rfl rfl (Nat.le_of_ble_eq_true rfl) dX12_see_270 rfl ?_
              intro r_237 N_238 q_239
              obtain ⟨hI_N_238, hG_N_238, q_239c⟩ := q_239
              have hF_N_238 : Fr f_e_see3m M N_238 := Fr.c hF_N_226 hG_N_238 rfl
              refine kx_topi (e' := r_228) (by omega) ?_
              have hS1 : zRN (N_165 164) q := by rw [show N_165 164 = M 164 from (by rw [show N_165 164 = M 164 from hG_N_165.fn kd_164 rfl])]; exact hS
              have hU1 : zRU (N_165 164) q := by rw [show N_165 164 = M 164 from (by rw [show N_165 164 = M 164 from hG_N_165.fn kd_164 rfl])]; exact hU
              have hD1 : LD N_165 := hd_N_165
              have hfn : N_226 164 = (upk (upk (upk (M 164) 7 r_209) 8 r_218) 5 w_224) := by rw [mu_up hM_N_226, mu_up hM_N_221, mu_up hM_N_212, show N_165 164 = M 164 from hG_N_165.fn kd_164 rfl]
              have hl_240 : r_206 = zst q (85 * (M 164 4) + 100) a1 := hz_N_207.trans (by exact zLK_s hI_N_165 hD1 hS1 hU1 hC ⟨by omega, by omega⟩ ⟨by omega, by omega⟩ (by rw [if_neg (by omega)]))
              have hl_241 : r_215 = zst q (85 * (M 164 4) + 100) a1 := hz_N_216.trans (by rw [show N_212 171 = N_165 171 from funext (fun j => by rw [hM_N_212, mu_k kd_171 kd_164 rfl])]; exact zLK_s hI_N_165 hD1 hS1 hU1 hC ⟨by omega, by omega⟩ ⟨by omega, by omega⟩ (by rw [if_neg (by omega)]))
              have hgf : N_226 164 = zSEg q (M 164) a1 := (zse.n (n := q (85 * M 164 4 + 100)) (K := zks q (85 * M 164 4 + 100)) (zsr.of (Or.inr (Or.inr ⟨rfl, by omega, by omega⟩))).symm hfn (hz_N_210.trans (by rw [hl_240])) (hz_N_219.trans (by rw [hl_241])) he_w_224)
              have hm4 : zSEg q (M 164) a1 4 = M 164 4 := by rw [← hgf]; omega
              have hq3 : N_226 164 (85 * N_226 164 4 + 103) = q (85 * zSEg q (M 164) a1 4 + 103) := by rw [hm4, show N_226 164 4 = M 164 4 by omega]; exact ((zRW.sta (zRW.sta (zRW.sta (zRW.fr (zRW.rf M) hG_N_165 rfl) hM_N_212 (by omega)) hM_N_221 (by omega)) hM_N_226 (by omega)) _ (by omega)).trans ((hU.b (a := M 164 4) (b := (85 * M 164 4 + 100)) (by omega) rfl).n (d := 3) (by decide) (by omega))
              have hzw : zand (N_226 164 7) (N_226 164 (85 * N_226 164 4 + 103)) = zand (zSEg q (M 164) a1 7) (q (85 * zSEg q (M 164) a1 4 + 103)) := by rw [hq3, congrFun hgf 7]
              exact kx_iret F hQ ⟨hI_N_238, hF_N_238, (by omega), ⟨⟨(YY.fr (YY.sta (YY.sta (YY.sta (YY.fr hY hG_N_165 rfl) hI_N_165 hM_N_212 (by omega)) hI_N_212 hM_N_221 (by omega)) hI_N_221 hM_N_226 (by omega)) hG_N_238 rfl), (zRW.fr (zRW.sta (zRW.sta (zRW.sta (zRW.fr (zRW.rf M) hG_N_165 rfl) hM_N_212 (by omega)) hM_N_221 (by omega)) hM_N_226 (by omega)) hG_N_238 rfl)⟩, ⟨zSEg q (M 164) a1, Or.inl ⟨⟨by omega, by omega, by omega, fun _ => by omega⟩, rfl, Or.inr ⟨by omega, by omega⟩⟩, fun i _ _ => by rw [Fr.e hG_N_238 kd_164 _ rfl, hgf]⟩⟩⟩ dX12_see_273
    · refine kx_aload_n 27 F 0 dX12_see_26 rfl rfl rfl ?_
      refine kx_bipush 29 F dX12_see_27 (by decide) rfl ?_
      refine kx_Vi 32 (ci := 0) F (As := [vI 6]) (st := []) vd_X12_123 (c_X12_refuse G l M 6 hI_M (by omega)) kd_163 rfl rfl rfl ⟨by decide, by decide⟩ rfl rfl (Nat.le_of_ble_eq_true rfl) dX12_see_29 rfl ?_
      intro r_243 N_244 q_245
      obtain ⟨hI_N_244, hG_N_244, q_245c⟩ := q_245
      have hF_N_244 : Fr f_e_see3m M N_244 := Fr.c hF_M hG_N_244 rfl
      subst q_245c
      exact kx_iret F hQ ⟨hI_N_244, hF_N_244, (by omega), ⟨⟨(YY.fr hY hG_N_244 rfl), (zRW.fr (zRW.rf M) hG_N_244 rfl)⟩, ⟨M 164, Or.inr ⟨fun h => by unfold zSEk at h; omega, by omega, rfl⟩, fun i _ _ => congrFun (hG_N_244.fn kd_164 rfl) i⟩⟩⟩ dX12_see_32
  · refine kx_if_ne 15 F 21 dX12_see_12 (by decide) rfl (by omega) (fun h_246 => (by exfalso; omega)) (fun h_246 => ?_)
    refine kx_aload_n 16 F 0 dX12_see_15 rfl rfl rfl ?_
    refine kx_iconst 17 F dX12_see_16 rfl ?_
    refine kx_Vi 20 (ci := 0) F (As := [vI 1]) (st := []) vd_X12_123 (c_X12_refuse G l M 1 hI_M (by omega)) kd_163 rfl rfl rfl ⟨by decide, by decide⟩ rfl rfl (Nat.le_of_ble_eq_true rfl) dX12_see_17 rfl ?_
    intro r_247 N_248 q_249
    obtain ⟨hI_N_248, hG_N_248, q_249c⟩ := q_249
    have hF_N_248 : Fr f_e_see3m M N_248 := Fr.c hF_M hG_N_248 rfl
    subst q_249c
    exact kx_iret F hQ ⟨hI_N_248, hF_N_248, (by omega), ⟨⟨(YY.fr hY hG_N_248 rfl), (zRW.fr (zRW.rf M) hG_N_248 rfl)⟩, ⟨M 164, Or.inr ⟨fun h => by unfold zSEk at h; omega, by omega, rfl⟩, fun i _ _ => congrFun (hG_N_248.fn kd_164 rfl) i⟩⟩⟩ dX12_see_20
  · refine kx_if_ne 15 F 21 dX12_see_12 (by decide) rfl (by omega) (fun h_250 => (by exfalso; omega)) (fun h_250 => ?_)
    refine kx_aload_n 16 F 0 dX12_see_15 rfl rfl rfl ?_
    refine kx_iconst 17 F dX12_see_16 rfl ?_
    refine kx_Vi 20 (ci := 0) F (As := [vI 1]) (st := []) vd_X12_123 (c_X12_refuse G l M 1 hI_M (by omega)) kd_163 rfl rfl rfl ⟨by decide, by decide⟩ rfl rfl (Nat.le_of_ble_eq_true rfl) dX12_see_17 rfl ?_
    intro r_251 N_252 q_253
    obtain ⟨hI_N_252, hG_N_252, q_253c⟩ := q_253
    have hF_N_252 : Fr f_e_see3m M N_252 := Fr.c hF_M hG_N_252 rfl
    subst q_253c
    exact kx_iret F hQ ⟨hI_N_252, hF_N_252, (by omega), ⟨⟨(YY.fr hY hG_N_252 rfl), (zRW.fr (zRW.rf M) hG_N_252 rfl)⟩, ⟨M 164, Or.inr ⟨fun h => by unfold zSEk at h; omega, by omega, rfl⟩, fun i _ _ => congrFun (hG_N_252.fn kd_164 rfl) i⟩⟩⟩ dX12_see_20
abbrev f_e_seen3m : List (Nat × Int) := [(64, 2)]
set_option maxHeartbeats 4000000 in
set_option maxRecDepth 100000 in
theorem e_seen3m (G : KG) (l : Launch) (M : Mem) (a1 : Int) (hI_M : Inv true M) (hpre : -2147483648 ≤ a1 ∧ a1 ≤ 2147483647) (q : Int → Int) (hS : zRN (M 164) q) (hU : zRU (M 164) q) (hw4 : 0 ≤ M 164 4 → M 164 4 < q 3) : KC true G l yX12_seen cX12_seen 2 (some .int) (3, 63) [vR G 163, vI a1] M (fun A => kQi true G A (fun (r : Int) (N : Mem) => Inv true N ∧ Fr f_e_seen3m M N ∧ (r ≥ -2147483648 ∧ r ≤ 2147483647) ∧ (zSN4 q (M 164) a1 r))) := by
  refine kx_met (lo := [some (vR G 163), some (vI a1)]) (by decide) (Nat.le_of_ble_eq_true rfl) rfl ?_
  intro X F hQ
  have hF_M : Fr f_e_seen3m M M := Fr.rf _ _
  have hSn := hS.u
  have ha_1 : atlo 4 = (-1) ∧ athi 4 = 1 := at_c 4 0 (o := 4) (lo := (-1)) (hi := 1) (by omega) (by decide) (by decide) (by decide)
  have h_2 := Inv.g hI_M kd_164 rfl 4 (a := (-1)) (b := 1) ha_1.1 ha_1.2
  refine kx_iload_n 1 F 1 dX12_seen_0 rfl rfl rfl ?_
  refine kx_if_lt 4 F 9 dX12_seen_1 (by decide) rfl (by omega) (fun h_3 => ?_) (fun h_3 => ?_)
  · refine kx_aload_n 10 F 0 dX12_seen_9 rfl rfl rfl ?_
    refine kx_iconst 11 F dX12_seen_10 rfl ?_
    refine kx_Vi 14 (ci := 0) F (As := [vI 1]) (st := []) vd_X12_123 (c_X12_refuse G l M 1 hI_M (by omega)) kd_163 rfl rfl rfl ⟨by decide, by decide⟩ rfl rfl (Nat.le_of_ble_eq_true rfl) dX12_seen_11 rfl ?_
    intro r_4 N_5 q_6
    obtain ⟨hI_N_5, hG_N_5, q_6c⟩ := q_6
    have hF_N_5 : Fr f_e_seen3m M N_5 := Fr.c hF_M hG_N_5 rfl
    subst q_6c
    exact kx_iret F hQ ⟨hI_N_5, hF_N_5, (by omega), (Or.inr ⟨fun h => by omega, by omega⟩)⟩ dX12_seen_14
  · refine kx_iload_n 5 F 1 dX12_seen_4 rfl rfl rfl ?_
    refine kx_iconst 6 F dX12_seen_5 rfl ?_
    refine kx_icmp_le 9 F 15 dX12_seen_6 (by decide) rfl (by omega) (by decide) (fun h_7 => ?_) (fun h_7 => ?_)
    · refine kx_aload_n 16 F 0 dX12_seen_15 rfl rfl rfl ?_
      refine kx_getr 19 F fl_X12_7 kd_163 rfl rfl (j := 0) rfl dX12_seen_16 (v := 164) (uq_164 (Inv.r hI_M kd_163 rfl 0 rfl rfl)) rfl ?_
      refine kx_iconst 20 F dX12_seen_19 rfl ?_
      refine kx_iald 21 F kd_164 rfl rfl (by omega) (by decide) dX12_seen_20 (v := (M 164 4)) rfl rfl ?_
      refine kx_iconst 22 F dX12_seen_21 rfl ?_
      refine kx_icmp_ne 25 F 32 dX12_seen_22 (by decide) rfl (by omega) (by decide) (fun h_8 => ?_) (fun h_8 => ?_)
      · refine kx_iload_n 33 F 1 dX12_seen_32 rfl rfl rfl ?_
        have h_9 : a1 = 0 ∨ a1 = 1 ∨ a1 = 2 ∨ a1 = 3 ∨ (a1 < 0 ∨ 3 < a1) := by omega
        rcases h_9 with h_9 | h_9 | h_9 | h_9 | h_9
        · rw [show vI a1 = vI 0 by rw [h_9]]
          refine kx_tableIn 64 F (by decide) dX12_seen_33 (by decide) rfl (by decide) ?_
          refine kx_aload_n 65 F 0 dX12_seen_64 rfl rfl rfl ?_
          refine kx_aload_n 66 F 0 dX12_seen_65 rfl rfl rfl ?_
          refine kx_getr 69 F fl_X12_7 kd_163 rfl rfl (j := 0) rfl dX12_seen_66 (v := 164) (uq_164 (Inv.r hI_M kd_163 rfl 0 rfl rfl)) rfl ?_
          refine kx_iconst 70 F dX12_seen_69 rfl ?_
          refine kx_iald 71 F kd_164 rfl rfl (by omega) (by decide) dX12_seen_70 (v := (M 164 4)) rfl rfl ?_
          refine kx_Vi 74 (ci := 0) F (As := [vI (M 164 4)]) (st := []) vd_X12_127 (c_X12_gives G l M (M 164 4) hI_M (by omega)) kd_163 rfl rfl rfl ⟨by decide, by decide⟩ rfl rfl (Nat.le_of_ble_eq_true rfl) dX12_seen_71 rfl ?_
          intro r_10 N_11 q_12
          obtain ⟨hI_N_11, hG_N_11, q_12c⟩ := q_12
          have hF_N_11 : Fr f_e_seen3m M N_11 := Fr.c hF_M hG_N_11 rfl
          refine kx_topi (e' := (M 164 4)) (by omega) ?_
          exact kx_iret F hQ ⟨hI_N_11, hF_N_11, (by omega), (Or.inl ⟨⟨by omega, by omega, by omega⟩, Or.inl ⟨by omega, by omega⟩⟩)⟩ dX12_seen_74
        · rw [show vI a1 = vI 1 by rw [h_9]]
          refine kx_tableIn 75 F (by decide) dX12_seen_33 (by decide) rfl (by decide) ?_
          refine kx_aload_n 76 F 0 dX12_seen_75 rfl rfl rfl ?_
          refine kx_aload_n 77 F 0 dX12_seen_76 rfl rfl rfl ?_
          refine kx_getr 80 F fl_X12_7 kd_163 rfl rfl (j := 0) rfl dX12_seen_77 (v := 164) (uq_164 (Inv.r hI_M kd_163 rfl 0 rfl rfl)) rfl ?_
          refine kx_iconst 81 F dX12_seen_80 rfl ?_
          refine kx_iald 82 F kd_164 rfl rfl (by omega) (by decide) dX12_seen_81 (v := (M 164 5)) rfl rfl ?_
          have ha_13 : atlo 5 = (-2147483648) ∧ athi 5 = 2147483647 := at_c 5 0 (o := 5) (lo := (-2147483648)) (hi := 2147483647) (by omega) (by decide) (by decide) (by decide)
          have h_14 := Inv.g hI_M kd_164 rfl 5 (a := (-2147483648)) (b := 2147483647) ha_13.1 ha_13.2
          refine kx_Vi 85 (ci := 0) F (As := [vI (M 164 5)]) (st := []) vd_X12_127 (c_X12_gives G l M (M 164 5) hI_M (by omega)) kd_163 rfl rfl rfl ⟨by decide, by decide⟩ rfl rfl (Nat.le_of_ble_eq_true rfl) dX12_seen_82 rfl ?_
          intro r_15 N_16 q_17
          obtain ⟨hI_N_16, hG_N_16, q_17c⟩ := q_17
          have hF_N_16 : Fr f_e_seen3m M N_16 := Fr.c hF_M hG_N_16 rfl
          refine kx_topi (e' := (M 164 5)) (by omega) ?_
          exact kx_iret F hQ ⟨hI_N_16, hF_N_16, (by omega), (Or.inl ⟨⟨by omega, by omega, by omega⟩, Or.inr (Or.inl ⟨by omega, by omega⟩)⟩)⟩ dX12_seen_85
        · rw [show vI a1 = vI 2 by rw [h_9]]
          refine kx_tableIn 86 F (by decide) dX12_seen_33 (by decide) rfl (by decide) ?_
          refine kx_aload_n 87 F 0 dX12_seen_86 rfl rfl rfl ?_
          refine kx_aload_n 88 F 0 dX12_seen_87 rfl rfl rfl ?_
          refine kx_getr 91 F fl_X12_7 kd_163 rfl rfl (j := 0) rfl dX12_seen_88 (v := 164) (uq_164 (Inv.r hI_M kd_163 rfl 0 rfl rfl)) rfl ?_
          refine kx_bipush 93 F dX12_seen_91 (by decide) rfl ?_
          refine kx_iald 94 F kd_164 rfl rfl (by omega) (by decide) dX12_seen_93 (v := (M 164 6)) rfl rfl ?_
          have ha_18 : atlo 6 = 0 ∧ athi 6 = 30 := at_c 6 0 (o := 6) (lo := 0) (hi := 30) (by omega) (by decide) (by decide) (by decide)
          have h_19 := Inv.g hI_M kd_164 rfl 6 (a := 0) (b := 30) ha_18.1 ha_18.2
          refine kx_Vi 97 (ci := 0) F (As := [vI (M 164 6)]) (st := []) vd_X12_127 (c_X12_gives G l M (M 164 6) hI_M (by omega)) kd_163 rfl rfl rfl ⟨by decide, by decide⟩ rfl rfl (Nat.le_of_ble_eq_true rfl) dX12_seen_94 rfl ?_
          intro r_20 N_21 q_22
          obtain ⟨hI_N_21, hG_N_21, q_22c⟩ := q_22
          have hF_N_21 : Fr f_e_seen3m M N_21 := Fr.c hF_M hG_N_21 rfl
          refine kx_topi (e' := (M 164 6)) (by omega) ?_
          exact kx_iret F hQ ⟨hI_N_21, hF_N_21, (by omega), (Or.inl ⟨⟨by omega, by omega, by omega⟩, Or.inr (Or.inr (Or.inl ⟨by omega, by omega⟩))⟩)⟩ dX12_seen_97
        · rw [show vI a1 = vI 3 by rw [h_9]]
          refine kx_tableIn 98 F (by decide) dX12_seen_33 (by decide) rfl (by decide) ?_
          refine kx_aload_n 99 F 0 dX12_seen_98 rfl rfl rfl ?_
          refine kx_aload_n 100 F 0 dX12_seen_99 rfl rfl rfl ?_
          refine kx_getr 103 F fl_X12_7 kd_163 rfl rfl (j := 0) rfl dX12_seen_100 (v := 164) (uq_164 (Inv.r hI_M kd_163 rfl 0 rfl rfl)) rfl ?_
          refine kx_bipush 105 F dX12_seen_103 (by decide) rfl ?_
          refine kx_iald 106 F kd_164 rfl rfl (by omega) (by decide) dX12_seen_105 (v := (M 164 7)) rfl rfl ?_
          have ha_23 : atlo 7 = 0 ∧ athi 7 = 7 := at_c 7 0 (o := 7) (lo := 0) (hi := 7) (by omega) (by decide) (by decide) (by decide)
          have h_24 := Inv.g hI_M kd_164 rfl 7 (a := 0) (b := 7) ha_23.1 ha_23.2
          refine kx_Vi 109 (ci := 0) F (As := [vI (M 164 7)]) (st := []) vd_X12_127 (c_X12_gives G l M (M 164 7) hI_M (by omega)) kd_163 rfl rfl rfl ⟨by decide, by decide⟩ rfl rfl (Nat.le_of_ble_eq_true rfl) dX12_seen_106 rfl ?_
          intro r_25 N_26 q_27
          obtain ⟨hI_N_26, hG_N_26, q_27c⟩ := q_27
          have hF_N_26 : Fr f_e_seen3m M N_26 := Fr.c hF_M hG_N_26 rfl
          refine kx_topi (e' := (M 164 7)) (by omega) ?_
          exact kx_iret F hQ ⟨hI_N_26, hF_N_26, (by omega), (Or.inl ⟨⟨by omega, by omega, by omega⟩, Or.inr (Or.inr (Or.inr (Or.inl ⟨by omega, by omega⟩)))⟩)⟩ dX12_seen_109
        · refine kx_tableOut 110 F (by omega) dX12_seen_33 h_9 (by decide) ?_
          refine kx_aload_n 111 F 0 dX12_seen_110 rfl rfl rfl ?_
          refine kx_aload_n 112 F 0 dX12_seen_111 rfl rfl rfl ?_
          refine kx_Vi 115 (ci := 0) F (As := []) (st := [vR G 163]) vd_X12_522 (e_isTakenNow3 G l M  hI_M (by omega)) kd_163 rfl rfl rfl ⟨by decide, by decide⟩ rfl rfl (Nat.le_of_ble_eq_true rfl) dX12_seen_112 rfl ?_
          intro r_28 N_29 q_30
          obtain ⟨rfl, q_30c⟩ := q_30
          rcases q_30c with q_30c | q_30c
          · refine kx_Vi 118 (ci := 0) F (As := [vI r_28]) (st := []) vd_X12_127 (c_X12_gives G l M r_28 hI_M (by omega)) kd_163 rfl rfl rfl ⟨by decide, by decide⟩ rfl rfl (Nat.le_of_ble_eq_true rfl) dX12_seen_115 rfl ?_
            intro r_31 N_32 q_33
            obtain ⟨hI_N_32, hG_N_32, q_33c⟩ := q_33
            have hF_N_32 : Fr f_e_seen3m M N_32 := Fr.c hF_M hG_N_32 rfl
            refine kx_topi (e' := r_28) (by omega) ?_
            have hq3 : M 164 (85 * M 164 4 + 103) = q (85 * M 164 4 + 103) := (hU.b (a := M 164 4) (b := (85 * M 164 4 + 100)) (by omega) rfl).n (d := 3) (by decide) (by omega)
            have hzw : zand (M 164 7) (M 164 (85 * M 164 4 + 103)) = zand (M 164 7) (q (85 * M 164 4 + 103)) := by rw [hq3]
            exact kx_iret F hQ ⟨hI_N_32, hF_N_32, (by omega), (Or.inl ⟨⟨by omega, by omega, by omega⟩, Or.inr (Or.inr (Or.inr (Or.inr ⟨by omega, Or.inl ⟨by omega, by omega⟩⟩)))⟩)⟩ dX12_seen_118
          · refine kx_Vi 118 (ci := 0) F (As := [vI r_28]) (st := []) vd_X12_127 (c_X12_gives G l M r_28 hI_M (by omega)) kd_163 rfl rfl rfl ⟨by decide, by decide⟩ rfl rfl (Nat.le_of_ble_eq_true rfl) dX12_seen_115 rfl ?_
            intro r_34 N_35 q_36
            obtain ⟨hI_N_35, hG_N_35, q_36c⟩ := q_36
            have hF_N_35 : Fr f_e_seen3m M N_35 := Fr.c hF_M hG_N_35 rfl
            refine kx_topi (e' := r_28) (by omega) ?_
            have hq3 : M 164 (85 * M 164 4 + 103) = q (85 * M 164 4 + 103) := (hU.b (a := M 164 4) (b := (85 * M 164 4 + 100)) (by omega) rfl).n (d := 3) (by decide) (by omega)
            have hzw : zand (M 164 7) (M 164 (85 * M 164 4 + 103)) = zand (M 164 7) (q (85 * M 164 4 + 103)) := by rw [hq3]
            exact kx_iret F hQ ⟨hI_N_35, hF_N_35, (by omega), (Or.inl ⟨⟨by omega, by omega, by omega⟩, Or.inr (Or.inr (Or.inr (Or.inr ⟨by omega, Or.inr ⟨by omega, by omega⟩⟩)))⟩)⟩ dX12_seen_118
      · refine kx_aload_n 26 F 0 dX12_seen_25 rfl rfl rfl ?_
        refine kx_bipush 28 F dX12_seen_26 (by decide) rfl ?_
        refine kx_Vi 31 (ci := 0) F (As := [vI 6]) (st := []) vd_X12_123 (c_X12_refuse G l M 6 hI_M (by omega)) kd_163 rfl rfl rfl ⟨by decide, by decide⟩ rfl rfl (Nat.le_of_ble_eq_true rfl) dX12_seen_28 rfl ?_
        intro r_37 N_38 q_39
        obtain ⟨hI_N_38, hG_N_38, q_39c⟩ := q_39
        have hF_N_38 : Fr f_e_seen3m M N_38 := Fr.c hF_M hG_N_38 rfl
        subst q_39c
        exact kx_iret F hQ ⟨hI_N_38, hF_N_38, (by omega), (Or.inr ⟨fun h => by omega, by omega⟩)⟩ dX12_seen_31
    · refine kx_aload_n 10 F 0 dX12_seen_9 rfl rfl rfl ?_
      refine kx_iconst 11 F dX12_seen_10 rfl ?_
      refine kx_Vi 14 (ci := 0) F (As := [vI 1]) (st := []) vd_X12_123 (c_X12_refuse G l M 1 hI_M (by omega)) kd_163 rfl rfl rfl ⟨by decide, by decide⟩ rfl rfl (Nat.le_of_ble_eq_true rfl) dX12_seen_11 rfl ?_
      intro r_40 N_41 q_42
      obtain ⟨hI_N_41, hG_N_41, q_42c⟩ := q_42
      have hF_N_41 : Fr f_e_seen3m M N_41 := Fr.c hF_M hG_N_41 rfl
      subst q_42c
      exact kx_iret F hQ ⟨hI_N_41, hF_N_41, (by omega), (Or.inr ⟨fun h => by omega, by omega⟩)⟩ dX12_seen_14
