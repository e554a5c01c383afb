abbrev f_e_mark2m : List (Nat × Int) := [(64, 2), (64, 50), (65, -1), (66, -1)]
set_option maxHeartbeats 4000000 in
set_option maxRecDepth 100000 in
theorem e_mark2m (G : KG) (l : Launch) (M : Mem) (hI_M : Inv true M) (hY : YY M)  : KC true G l yX12_mark cX12_mark 1 (some .int) (1, 23) [vR G 163] M (fun A => kQi true G A (fun (r : Int) (N : Mem) => Inv true N ∧ Fr f_e_mark2m M N ∧ (((M 163 50) = 3 ∧ r = -1 ∧ (N 163 50) = 3) ∨ ((M 163 50) ≤ 2 ∧ (N 163 50) = (M 163 50) + 1 ∧ r = (M 163 50) + 1)) ∧ ((YY N) ∧ ((M 163 50 ≤ 2 → (∀ i, 0 ≤ i → i < 272 → N 164 (272 * (M 163 50 + 1) + i) = M 164 i) ∧ ∀ i, (i < 272 * (M 163 50 + 1) ∨ 272 * (M 163 50 + 1) + 272 ≤ i) → N 164 i = M 164 i) ∧ (3 ≤ M 163 50 → N 164 = M 164))))) := by
  refine kx_met (lo := [some (vR G 163)]) (by decide) (Nat.le_of_ble_eq_true rfl) rfl ?_
  intro X F hQ
  have hF_M : Fr f_e_mark2m M M := Fr.rf _ _
  refine kx_aload_n 1 F 0 dX12_mark_0 rfl rfl rfl ?_
  refine kx_geti 4 F fl_X12_535 kd_163 rfl rfl (j := 50) rfl dX12_mark_1 (v := (M 163 50)) rfl rfl ?_
  have h_1 := Inv.g hI_M kd_163 rfl 50 (a := 0) (b := 3) rfl rfl
  refine kx_iconst 5 F dX12_mark_4 rfl ?_
  refine kx_icmp_ne 8 F 14 dX12_mark_5 (by decide) rfl (by omega) (by decide) (fun h_2 => ?_) (fun h_2 => ?_)
  · refine kx_aload_n 15 F 0 dX12_mark_14 rfl rfl rfl ?_
    refine kx_dup 16 F dX12_mark_15 rfl rfl ?_
    refine kx_geti 19 F fl_X12_535 kd_163 rfl rfl (j := 50) rfl dX12_mark_16 (v := (M 163 50)) rfl rfl ?_
    refine kx_iconst 20 F dX12_mark_19 rfl ?_
    refine kx_iadd 21 F (v := (M 163 50) + 1) dX12_mark_20 rfl rfl ?_
    refine kx_puti 24 F fw_X12_535 rfl kd_163 rfl rfl (j := 50) rfl dX12_mark_21 rfl ?_
    intro N_3 hM_N_3
    have hI_N_3 : Inv true N_3 := Inv.u hI_M hM_N_3 kd_163 (a := 0) (b := 3) rfl rfl rfl (by omega)
    have hF_N_3 : Fr f_e_mark2m M N_3 := Fr.u hF_M hM_N_3 kd_163 rfl
    refine kx_aload_n 25 F 0 dX12_mark_24 rfl rfl rfl ?_
    refine kx_iconst 26 F dX12_mark_25 rfl ?_
    refine kx_aload_n 27 F 0 dX12_mark_26 rfl rfl rfl ?_
    refine kx_geti 30 F fl_X12_535 kd_163 rfl rfl (j := 50) rfl dX12_mark_27 (v := (M 163 50) + 1) (by rw [hM_N_3, mu_s]) rfl ?_
    refine kx_Vv 33 (ci := 0) F (As := [vI 0, vI ((M 163 50) + 1)]) (st := []) vd_X12_538 (c_X12_copies G l N_3 0 ((M 163 50) + 1) hI_N_3 (by omega)) kd_163 rfl rfl rfl ⟨by decide, by decide⟩ rfl rfl (Nat.le_of_ble_eq_true rfl) dX12_mark_30 rfl ?_
    intro N_4 q_5
    obtain ⟨hI_N_4, hG_N_4, hc_N_4⟩ := q_5
    have hF_N_4 : Fr f_e_mark2m M N_4 := Fr.c hF_N_3 hG_N_4 rfl
    refine kx_aload_n 34 F 0 dX12_mark_33 rfl rfl rfl ?_
    refine kx_aload_n 35 F 0 dX12_mark_34 rfl rfl rfl ?_
    refine kx_geti 38 F fl_X12_535 kd_163 rfl rfl (j := 50) rfl dX12_mark_35 (v := (M 163 50) + 1) (by rw [Fr.e hG_N_4 kd_163 _ rfl, hM_N_3, mu_s]) rfl ?_
    refine kx_Vi 41 (ci := 0) F (As := [vI ((M 163 50) + 1)]) (st := []) vd_X12_127 (c_X12_gives G l N_4 ((M 163 50) + 1) hI_N_4 (by omega)) kd_163 rfl rfl rfl ⟨by decide, by decide⟩ rfl rfl (Nat.le_of_ble_eq_true rfl) dX12_mark_38 rfl ?_
    intro r_6 N_7 q_8
    obtain ⟨hI_N_7, hG_N_7, q_8c⟩ := q_8
    have hF_N_7 : Fr f_e_mark2m M N_7 := Fr.c hF_N_4 hG_N_7 rfl
    refine kx_topi (e' := (M 163 50) + 1) (by omega) ?_
    have e_9 : (N_7 163 50) = (M 163 50) + 1 := by rw [Fr.e hG_N_7 kd_163 _ rfl, Fr.e hG_N_4 kd_163 _ rfl, hM_N_3, mu_s]
    have e_10 : (N_7 163 50) = (M 163 50) + 1 := by rw [Fr.e hG_N_7 kd_163 _ rfl, Fr.e hG_N_4 kd_163 _ rfl, hM_N_3, mu_s]
    exact kx_iret F hQ ⟨hI_N_7, hF_N_7, (by omega), ⟨(YY.fr (YY.slot0 (YY.st hY hM_N_3 kd_163 rfl) hI_N_3 (by omega) hc_N_4) hG_N_7 rfl), ⟨fun _ => ⟨fun i h0 h1 => by rw [Fr.e hG_N_7 kd_164 _ rfl]; have w := hc_N_4.1 i h0 h1; rw [show 272 * 0 + i = i by omega] at w; rw [hM_N_3, mu_k kd_164 kd_163 rfl] at w; exact w, fun i h1 => by rw [Fr.e hG_N_7 kd_164 _ rfl]; have w := hc_N_4.2 i (by omega); rw [hM_N_3, mu_k kd_164 kd_163 rfl] at w; exact w⟩, fun h => by exfalso; omega⟩⟩⟩ dX12_mark_41
  · refine kx_aload_n 9 F 0 dX12_mark_8 rfl rfl rfl ?_
    refine kx_iconst 10 F dX12_mark_9 rfl ?_
    refine kx_Vi 13 (ci := 0) F (As := [vI 4]) (st := []) vd_X12_123 (c_X12_refuse G l M 4 hI_M (by omega)) kd_163 rfl rfl rfl ⟨by decide, by decide⟩ rfl rfl (Nat.le_of_ble_eq_true rfl) dX12_mark_10 rfl ?_
    intro r_11 N_12 q_13
    obtain ⟨hI_N_12, hG_N_12, q_13c⟩ := q_13
    have hF_N_12 : Fr f_e_mark2m M N_12 := Fr.c hF_M hG_N_12 rfl
    subst q_13c
    have e_14 : (N_12 163 50) = (M 163 50) := by rw [Fr.e hG_N_12 kd_163 _ rfl]
    have e_15 : (N_12 163 50) = (M 163 50) := by rw [Fr.e hG_N_12 kd_163 _ rfl]
    exact kx_iret F hQ ⟨hI_N_12, hF_N_12, (by omega), ⟨(YY.fr hY hG_N_12 rfl), ⟨fun h => by exfalso; omega, fun _ => (funext (fun i => by rw [Fr.e hG_N_12 kd_164 _ rfl]))⟩⟩⟩ dX12_mark_13
abbrev f_e_undo2m : List (Nat × Int) := [(64, 2), (64, 50), (65, -1), (66, -1)]
set_option maxHeartbeats 4000000 in
set_option maxRecDepth 100000 in
theorem e_undo2m (G : KG) (l : Launch) (M : Mem) (hI_M : Inv true M) (hY : YY M)  : KC true G l yX12_undo cX12_undo 1 (some .int) (1, 23) [vR G 163] M (fun A => kQi true G A (fun (r : Int) (N : Mem) => Inv true N ∧ Fr f_e_undo2m M N ∧ (((M 163 50) = 0 ∧ r = -1 ∧ (N 163 50) = 0) ∨ ((M 163 50) ≥ 1 ∧ (N 163 50) = (M 163 50) - 1 ∧ r = (M 163 50) - 1)) ∧ ((YY N) ∧ ((1 ≤ M 163 50 → (∀ i, 0 ≤ i → i < 272 → N 164 i = M 164 (272 * M 163 50 + i)) ∧ ∀ i, (i < 0 ∨ 272 ≤ i) → N 164 i = M 164 i) ∧ (M 163 50 ≤ 0 → N 164 = M 164))))) := by
  refine kx_met (lo := [some (vR G 163)]) (by decide) (Nat.le_of_ble_eq_true rfl) rfl ?_
  intro X F hQ
  have hF_M : Fr f_e_undo2m M M := Fr.rf _ _
  refine kx_aload_n 1 F 0 dX12_undo_0 rfl rfl rfl ?_
  refine kx_geti 4 F fl_X12_535 kd_163 rfl rfl (j := 50) rfl dX12_undo_1 (v := (M 163 50)) rfl rfl ?_
  have h_1 := Inv.g hI_M kd_163 rfl 50 (a := 0) (b := 3) rfl rfl
  refine kx_if_ne 7 F 14 dX12_undo_4 (by decide) rfl (by omega) (fun h_2 => ?_) (fun h_2 => ?_)
  · refine kx_aload_n 15 F 0 dX12_undo_14 rfl rfl rfl ?_
    refine kx_aload_n 16 F 0 dX12_undo_15 rfl rfl rfl ?_
    refine kx_geti 19 F fl_X12_535 kd_163 rfl rfl (j := 50) rfl dX12_undo_16 (v := (M 163 50)) rfl rfl ?_
    refine kx_iconst 20 F dX12_undo_19 rfl ?_
    refine kx_Vv 23 (ci := 0) F (As := [vI (M 163 50), vI 0]) (st := []) vd_X12_538 (c_X12_copies G l M (M 163 50) 0 hI_M (by omega)) kd_163 rfl rfl rfl ⟨by decide, by decide⟩ rfl rfl (Nat.le_of_ble_eq_true rfl) dX12_undo_20 rfl ?_
    intro N_3 q_4
    obtain ⟨hI_N_3, hG_N_3, hc_N_3⟩ := q_4
    have hF_N_3 : Fr f_e_undo2m M N_3 := Fr.c hF_M hG_N_3 rfl
    refine kx_aload_n 24 F 0 dX12_undo_23 rfl rfl rfl ?_
    refine kx_dup 25 F dX12_undo_24 rfl rfl ?_
    refine kx_geti 28 F fl_X12_535 kd_163 rfl rfl (j := 50) rfl dX12_undo_25 (v := (M 163 50)) (by rw [Fr.e hG_N_3 kd_163 _ rfl]) rfl ?_
    refine kx_iconst 29 F dX12_undo_28 rfl ?_
    refine kx_isub 30 F (v := (M 163 50) - 1) dX12_undo_29 rfl rfl ?_
    refine kx_puti 33 F fw_X12_535 rfl kd_163 rfl rfl (j := 50) rfl dX12_undo_30 rfl ?_
    intro N_5 hM_N_5
    have hI_N_5 : Inv true N_5 := Inv.u hI_N_3 hM_N_5 kd_163 (a := 0) (b := 3) rfl rfl rfl (by omega)
    have hF_N_5 : Fr f_e_undo2m M N_5 := Fr.u hF_N_3 hM_N_5 kd_163 rfl
    refine kx_aload_n 34 F 0 dX12_undo_33 rfl rfl rfl ?_
    refine kx_aload_n 35 F 0 dX12_undo_34 rfl rfl rfl ?_
    refine kx_geti 38 F fl_X12_535 kd_163 rfl rfl (j := 50) rfl dX12_undo_35 (v := (M 163 50) - 1) (by rw [hM_N_5, mu_s]) rfl ?_
    refine kx_Vi 41 (ci := 0) F (As := [vI ((M 163 50) - 1)]) (st := []) vd_X12_127 (c_X12_gives G l N_5 ((M 163 50) - 1) hI_N_5 (by omega)) kd_163 rfl rfl rfl ⟨by decide, by decide⟩ rfl rfl (Nat.le_of_ble_eq_true rfl) dX12_undo_38 rfl ?_
    intro r_6 N_7 q_8
    obtain ⟨hI_N_7, hG_N_7, q_8c⟩ := q_8
    have hF_N_7 : Fr f_e_undo2m M N_7 := Fr.c hF_N_5 hG_N_7 rfl
    refine kx_topi (e' := (M 163 50) - 1) (by omega) ?_
    have e_9 : (N_7 163 50) = (M 163 50) - 1 := by rw [Fr.e hG_N_7 kd_163 _ rfl, hM_N_5, mu_s]
    have e_10 : (N_7 163 50) = (M 163 50) - 1 := by rw [Fr.e hG_N_7 kd_163 _ rfl, hM_N_5, mu_s]
    exact kx_iret F hQ ⟨hI_N_7, hF_N_7, (by omega), ⟨(YY.fr (YY.st (YY.slotB hY hI_M (by omega) hc_N_3) hM_N_5 kd_163 rfl) hG_N_7 rfl), ⟨fun _ => ⟨fun i h0 h1 => by rw [Fr.e hG_N_7 kd_164 _ rfl, hM_N_5, mu_k kd_164 kd_163 rfl]; have w := hc_N_3.1 i h0 h1; rw [show 272 * 0 + i = i by omega] at w; exact w, fun i h1 => by rw [Fr.e hG_N_7 kd_164 _ rfl, hM_N_5, mu_k kd_164 kd_163 rfl]; have w := hc_N_3.2 i (by omega); exact w⟩, fun h => by exfalso; omega⟩⟩⟩ dX12_undo_41
  · refine kx_aload_n 8 F 0 dX12_undo_7 rfl rfl rfl ?_
    refine kx_bipush 10 F dX12_undo_8 (by decide) rfl ?_
    refine kx_Vi 13 (ci := 0) F (As := [vI 6]) (st := []) vd_X12_123 (c_X12_refuse G l M 6 hI_M (by omega)) kd_163 rfl rfl rfl ⟨by decide, by decide⟩ rfl rfl (Nat.le_of_ble_eq_true rfl) dX12_undo_10 rfl ?_
    intro r_11 N_12 q_13
    obtain ⟨hI_N_12, hG_N_12, q_13c⟩ := q_13
    have hF_N_12 : Fr f_e_undo2m M N_12 := Fr.c hF_M hG_N_12 rfl
    subst q_13c
    have e_14 : (N_12 163 50) = (M 163 50) := by rw [Fr.e hG_N_12 kd_163 _ rfl]
    have e_15 : (N_12 163 50) = (M 163 50) := by rw [Fr.e hG_N_12 kd_163 _ rfl]
    exact kx_iret F hQ ⟨hI_N_12, hF_N_12, (by omega), ⟨(YY.fr hY hG_N_12 rfl), ⟨fun h => by exfalso; omega, fun _ => (funext (fun i => by rw [Fr.e hG_N_12 kd_164 _ rfl]))⟩⟩⟩ dX12_undo_13
abbrev f_e_watch2m : List (Nat × Int) := [(64, 2), (65, -1)]
set_option maxHeartbeats 4000000 in
set_option maxRecDepth 100000 in
theorem e_watch2m (G : KG) (l : Launch) (M : Mem) (a1 : Int) (hI_M : Inv true M) (hpre : -2147483648 ≤ a1 ∧ a1 ≤ 2147483647) (hY : YY M)  : KC true G l yX12_watch cX12_watch 2 (some .int) (3, 66) [vR G 163, vI a1] M (fun A => kQi true G A (fun (r : Int) (N : Mem) => Inv true N ∧ Fr f_e_watch2m M N ∧ (r ≥ -2147483648 ∧ r ≤ 2147483647) ∧ ((YY N) ∧ (zRW N M)))) := by
  refine kx_met (lo := [some (vR G 163), some (vI a1)]) (by decide) (Nat.le_of_ble_eq_true rfl) rfl ?_
  intro X F hQ
  have hF_M : Fr f_e_watch2m M M := Fr.rf _ _
  have ha_1 : atlo 3 = 0 ∧ athi 3 = 2 := at_c 3 0 (o := 3) (lo := 0) (hi := 2) (by omega) (by decide) (by decide) (by decide)
  have h_2 := Inv.g hI_M kd_164 rfl 3 (a := 0) (b := 2) ha_1.1 ha_1.2
  refine kx_aload_n 1 F 0 dX12_watch_0 rfl rfl rfl ?_
  refine kx_iload_n 2 F 1 dX12_watch_1 rfl rfl rfl ?_
  refine kx_Vi 5 (ci := 0) F (As := [vI a1]) (st := []) vd_X12_282 (e_X12_isAutomaton G l M a1 hI_M (by omega)) kd_163 rfl rfl rfl ⟨by decide, by decide⟩ rfl rfl (Nat.le_of_ble_eq_true rfl) dX12_watch_2 rfl ?_
  intro r_3 N_4 q_5
  obtain ⟨rfl, q_5c⟩ := q_5
  rcases q_5c with q_5c | q_5c | q_5c
  · refine kx_if_ne 8 F 14 dX12_watch_5 (by decide) rfl (by omega) (fun h_6 => ?_) (fun h_6 => (by exfalso; omega))
    refine kx_aload_n 15 F 0 dX12_watch_14 rfl rfl rfl ?_
    refine kx_getr 18 F fl_X12_7 kd_163 rfl rfl (j := 0) rfl dX12_watch_15 (v := 164) (uq_164 (Inv.r hI_M kd_163 rfl 0 rfl rfl)) rfl ?_
    refine kx_iconst 19 F dX12_watch_18 rfl ?_
    refine kx_iload_n 20 F 1 dX12_watch_19 rfl rfl rfl ?_
    refine kx_iast 21 F kd_164 rfl rfl (by omega) (by decide) dX12_watch_20 rfl ?_
    intro N_7 hM_N_7
    have ha_8 : atlo 4 = (-1) ∧ athi 4 = 1 := at_c 4 0 (o := 4) (lo := (-1)) (hi := 1) (by omega) (by decide) (by decide) (by decide)
    have hI_N_7 : Inv true N_7 := Inv.u hI_M hM_N_7 kd_164 (a := (-1)) (b := 1) ha_8.1 ha_8.2 rfl (by omega)
    have hF_N_7 : Fr f_e_watch2m M N_7 := Fr.u hF_M hM_N_7 kd_164 rfl
    refine kx_aload_n 22 F 0 dX12_watch_21 rfl rfl rfl ?_
    refine kx_getr 25 F fl_X12_7 kd_163 rfl rfl (j := 0) rfl dX12_watch_22 (v := 164) (uq_164 (Inv.r hI_N_7 kd_163 rfl 0 rfl rfl)) rfl ?_
    refine kx_iconst 26 F dX12_watch_25 rfl ?_
    refine kx_iconst 27 F dX12_watch_26 rfl ?_
    refine kx_iast 28 F kd_164 rfl rfl (by omega) (by decide) dX12_watch_27 rfl ?_
    intro N_9 hM_N_9
    have ha_10 : atlo 5 = (-2147483648) ∧ athi 5 = 2147483647 := at_c 5 0 (o := 5) (lo := (-2147483648)) (hi := 2147483647) (by omega) (by decide) (by decide) (by decide)
    have hI_N_9 : Inv true N_9 := Inv.u hI_N_7 hM_N_9 kd_164 (a := (-2147483648)) (b := 2147483647) ha_10.1 ha_10.2 rfl (by omega)
    have hF_N_9 : Fr f_e_watch2m M N_9 := Fr.u hF_N_7 hM_N_9 kd_164 rfl
    refine kx_aload_n 29 F 0 dX12_watch_28 rfl rfl rfl ?_
    refine kx_getr 32 F fl_X12_7 kd_163 rfl rfl (j := 0) rfl dX12_watch_29 (v := 164) (uq_164 (Inv.r hI_N_9 kd_163 rfl 0 rfl rfl)) rfl ?_
    refine kx_bipush 34 F dX12_watch_32 (by decide) rfl ?_
    refine kx_iconst 35 F dX12_watch_34 rfl ?_
    refine kx_iast 36 F kd_164 rfl rfl (by omega) (by decide) dX12_watch_35 rfl ?_
    intro N_11 hM_N_11
    have ha_12 : atlo 6 = 0 ∧ athi 6 = 30 := at_c 6 0 (o := 6) (lo := 0) (hi := 30) (by omega) (by decide) (by decide) (by decide)
    have hI_N_11 : Inv true N_11 := Inv.u hI_N_9 hM_N_11 kd_164 (a := 0) (b := 30) ha_12.1 ha_12.2 rfl (by omega)
    have hF_N_11 : Fr f_e_watch2m M N_11 := Fr.u hF_N_9 hM_N_11 kd_164 rfl
    refine kx_aload_n 37 F 0 dX12_watch_36 rfl rfl rfl ?_
    refine kx_getr 40 F fl_X12_7 kd_163 rfl rfl (j := 0) rfl dX12_watch_37 (v := 164) (uq_164 (Inv.r hI_N_11 kd_163 rfl 0 rfl rfl)) rfl ?_
    refine kx_bipush 42 F dX12_watch_40 (by decide) rfl ?_
    refine kx_aload_n 43 F 0 dX12_watch_42 rfl rfl rfl ?_
    refine kx_iload_n 44 F 1 dX12_watch_43 rfl rfl rfl ?_
    refine kx_iconst 45 F dX12_watch_44 rfl ?_
    refine kx_Vi 48 (ci := 0) F (As := [vI a1, vI 2]) (st := [vI 7, vR G 164]) vd_X12_288 (e_of2 G l N_11 a1 2 hI_N_11 (by omega)) kd_163 rfl rfl rfl ⟨by decide, by decide⟩ rfl rfl (Nat.le_of_ble_eq_true rfl) dX12_watch_45 rfl ?_
    intro r_13 N_14 q_15
    obtain ⟨rfl, q_15c⟩ := q_15
    have e_16 : (N_11 164 (85 * a1 + 102)) = (M 164 (85 * a1 + 102)) := by rw [hM_N_11, mu_i (by omega), hM_N_9, mu_i (by omega), hM_N_7, mu_i (by omega)]
    have e_17 : (N_11 164 (85 * a1 + 102)) = (M 164 (85 * a1 + 102)) := by rw [hM_N_11, mu_i (by omega), hM_N_9, mu_i (by omega), hM_N_7, mu_i (by omega)]
    refine kx_topi (e' := (N_11 164 (85 * a1 + 102))) (by omega) ?_
    refine kx_iast 49 F kd_164 rfl rfl (by omega) (by decide) dX12_watch_48 rfl ?_
    intro N_18 hM_N_18
    have ha_19 : atlo 7 = 0 ∧ athi 7 = 7 := at_c 7 0 (o := 7) (lo := 0) (hi := 7) (by omega) (by decide) (by decide) (by decide)
    have hI_N_18 : Inv true N_18 := Inv.u hI_N_11 hM_N_18 kd_164 (a := 0) (b := 7) ha_19.1 ha_19.2 rfl (by omega)
    have hF_N_18 : Fr f_e_watch2m M N_18 := Fr.u hF_N_11 hM_N_18 kd_164 rfl
    refine kx_aload_n 50 F 0 dX12_watch_49 rfl rfl rfl ?_
    refine kx_getr 53 F fl_X12_7 kd_163 rfl rfl (j := 0) rfl dX12_watch_50 (v := 164) (uq_164 (Inv.r hI_N_18 kd_163 rfl 0 rfl rfl)) rfl ?_
    refine kx_bipush 55 F dX12_watch_53 (by decide) rfl ?_
    refine kx_aload_n 56 F 0 dX12_watch_55 rfl rfl rfl ?_
    refine kx_iload_n 57 F 1 dX12_watch_56 rfl rfl rfl ?_
    refine kx_Vi 60 (ci := 0) F (As := [vI a1]) (st := [vI 8, vR G 164]) vd_X12_329 (e_same G l N_18 a1 hI_N_18 (by omega)) kd_163 rfl rfl rfl ⟨by decide, by decide⟩ rfl rfl (Nat.le_of_ble_eq_true rfl) dX12_watch_57 rfl ?_
    intro r_20 N_21 q_22
    obtain ⟨rfl, q_22c, hz_N_21⟩ := q_22
    refine kx_iast 61 F kd_164 rfl rfl (by omega) (by decide) dX12_watch_60 rfl ?_
    intro N_23 hM_N_23
    have ha_24 : atlo 8 = 0 ∧ athi 8 = 511 := at_c 8 0 (o := 8) (lo := 0) (hi := 511) (by omega) (by decide) (by decide) (by decide)
    have hI_N_23 : Inv true N_23 := Inv.u hI_N_18 hM_N_23 kd_164 (a := 0) (b := 511) ha_24.1 ha_24.2 rfl (by omega)
    have hF_N_23 : Fr f_e_watch2m M N_23 := Fr.u hF_N_18 hM_N_23 kd_164 rfl
    refine kx_aload_n 62 F 0 dX12_watch_61 rfl rfl rfl ?_
    refine kx_aload_n 63 F 0 dX12_watch_62 rfl rfl rfl ?_
    have e_25 : (N_23 164 4) = a1 := by rw [hM_N_23, mu_i (by omega), hM_N_18, mu_i (by omega), hM_N_11, mu_i (by omega), hM_N_9, mu_i (by omega), hM_N_7, mu_s]
    refine kx_Vi 66 (ci := 0) F (As := []) (st := [vR G 163]) vd_X12_522 (c_X12_isTakenNow G l N_23  hI_N_23 (by omega)) kd_163 rfl rfl rfl ⟨by decide, by decide⟩ rfl rfl (Nat.le_of_ble_eq_true rfl) dX12_watch_63 rfl ?_
    intro r_26 N_27 q_28
    obtain ⟨rfl, q_28c⟩ := q_28
    refine kx_Vi 69 (ci := 0) F (As := [vI r_26]) (st := []) vd_X12_127 (c_X12_gives G l N_23 r_26 hI_N_23 (by omega)) kd_163 rfl rfl rfl ⟨by decide, by decide⟩ rfl rfl (Nat.le_of_ble_eq_true rfl) dX12_watch_66 rfl ?_
    intro r_29 N_30 q_31
    obtain ⟨hI_N_30, hG_N_30, q_31c⟩ := q_31
    have hF_N_30 : Fr f_e_watch2m M N_30 := Fr.c hF_N_23 hG_N_30 rfl
    refine kx_topi (e' := r_26) (by omega) ?_
    exact kx_iret F hQ ⟨hI_N_30, hF_N_30, (by omega), ⟨(YY.fr (YY.sta (YY.sta (YY.sta (YY.sta (YY.sta hY hI_M hM_N_7 (by omega)) hI_N_7 hM_N_9 (by omega)) hI_N_9 hM_N_11 (by omega)) hI_N_11 hM_N_18 (by omega)) hI_N_18 hM_N_23 (by omega)) hG_N_30 rfl), (zRW.fr (zRW.sta (zRW.sta (zRW.sta (zRW.sta (zRW.sta (zRW.rf M) hM_N_7 (by omega)) hM_N_9 (by omega)) hM_N_11 (by omega)) hM_N_18 (by omega)) hM_N_23 (by omega)) hG_N_30 rfl)⟩⟩ dX12_watch_69
  · refine kx_if_ne 8 F 14 dX12_watch_5 (by decide) rfl (by omega) (fun h_32 => (by exfalso; omega)) (fun h_32 => ?_)
    refine kx_aload_n 9 F 0 dX12_watch_8 rfl rfl rfl ?_
    refine kx_iconst 10 F dX12_watch_9 rfl ?_
    refine kx_Vi 13 (ci := 0) F (As := [vI 1]) (st := []) vd_X12_123 (c_X12_refuse G l M 1 hI_M (by omega)) kd_163 rfl rfl rfl ⟨by decide, by decide⟩ rfl rfl (Nat.le_of_ble_eq_true rfl) dX12_watch_10 rfl ?_
    intro r_33 N_34 q_35
    obtain ⟨hI_N_34, hG_N_34, q_35c⟩ := q_35
    have hF_N_34 : Fr f_e_watch2m M N_34 := Fr.c hF_M hG_N_34 rfl
    subst q_35c
    exact kx_iret F hQ ⟨hI_N_34, hF_N_34, (by omega), ⟨(YY.fr hY hG_N_34 rfl), (zRW.fr (zRW.rf M) hG_N_34 rfl)⟩⟩ dX12_watch_13
  · refine kx_if_ne 8 F 14 dX12_watch_5 (by decide) rfl (by omega) (fun h_36 => (by exfalso; omega)) (fun h_36 => ?_)
    refine kx_aload_n 9 F 0 dX12_watch_8 rfl rfl rfl ?_
    refine kx_iconst 10 F dX12_watch_9 rfl ?_
    refine kx_Vi 13 (ci := 0) F (As := [vI 1]) (st := []) vd_X12_123 (c_X12_refuse G l M 1 hI_M (by omega)) kd_163 rfl rfl rfl ⟨by decide, by decide⟩ rfl rfl (Nat.le_of_ble_eq_true rfl) dX12_watch_10 rfl ?_
    intro r_37 N_38 q_39
    obtain ⟨hI_N_38, hG_N_38, q_39c⟩ := q_39
    have hF_N_38 : Fr f_e_watch2m M N_38 := Fr.c hF_M hG_N_38 rfl
    subst q_39c
    exact kx_iret F hQ ⟨hI_N_38, hF_N_38, (by omega), ⟨(YY.fr hY hG_N_38 rfl), (zRW.fr (zRW.rf M) hG_N_38 rfl)⟩⟩ dX12_watch_13
abbrev f_e_comesBack2 : List (Nat × Int) := [(65, -1)]
set_option maxHeartbeats 4000000 in
set_option maxRecDepth 100000 in
theorem e_comesBack2 (G : KG) (l : Launch) (M : Mem) (a1 : Int) (a2 : Int) (hI_M : Inv true M) (hpre : -2147483648 ≤ a1 ∧ a1 ≤ 2147483647 ∧ -2147483648 ≤ a2 ∧ a2 ≤ 2147483647 ∧ 0 ≤ a1 ∧ a1 ≤ 1 ∧ 0 ≤ a2 ∧ a2 ≤ 5) (hY : YY M)  : KC true G l yX12_comesBack cX12_comesBack 5 none (3, 75) [vR G 163, vI a1, vI a2] M (fun A => kQv true G A (fun (N : Mem) => Inv true N ∧ Fr f_e_comesBack2 M N ∧ ((N 164 4) = (M 164 4)) ∧ ((YY N) ∧ (zRW N M)))) := by
  refine kx_met (lo := [some (vR G 163), some (vI a1), some (vI a2), none, none]) (by decide) (Nat.le_of_ble_eq_true rfl) rfl ?_
  intro X F hQ
  have hF_M : Fr f_e_comesBack2 M M := Fr.rf _ _
  refine kx_aload_n 1 F 0 dX12_comesBack_0 rfl rfl rfl ?_
  refine kx_getr 4 F fl_X12_7 kd_163 rfl rfl (j := 0) rfl dX12_comesBack_1 (v := 164) (uq_164 (Inv.r hI_M kd_163 rfl 0 rfl rfl)) rfl ?_
  refine kx_bipush 6 F dX12_comesBack_4 (by decide) rfl ?_
  refine kx_iald 7 F kd_164 rfl rfl (by omega) (by decide) dX12_comesBack_6 (v := (M 164 6)) rfl rfl ?_
  have ha_1 : atlo 6 = 0 ∧ athi 6 = 30 := at_c 6 0 (o := 6) (lo := 0) (hi := 30) (by omega) (by decide) (by decide) (by decide)
  have h_2 := Inv.g hI_M kd_164 rfl 6 (a := 0) (b := 30) ha_1.1 ha_1.2
  refine kx_if_ne 10 F 61 dX12_comesBack_7 (by decide) rfl (by omega) (fun h_3 => ?_) (fun h_3 => ?_)
  · refine kx_aload_n 62 F 0 dX12_comesBack_61 rfl rfl rfl ?_
    refine kx_getr 65 F fl_X12_7 kd_163 rfl rfl (j := 0) rfl dX12_comesBack_62 (v := 164) (uq_164 (Inv.r hI_M kd_163 rfl 0 rfl rfl)) rfl ?_
    refine kx_bipush 67 F dX12_comesBack_65 (by decide) rfl ?_
    refine kx_dup2 68 F dX12_comesBack_67 rfl rfl rfl ?_
    refine kx_iald 69 F kd_164 rfl rfl (by omega) (by decide) dX12_comesBack_68 (v := (M 164 6)) rfl rfl ?_
    refine kx_iconst 70 F dX12_comesBack_69 rfl ?_
    refine kx_isub 71 F (v := (M 164 6) - 1) dX12_comesBack_70 rfl rfl ?_
    refine kx_iast 72 F kd_164 rfl rfl (by omega) (by decide) dX12_comesBack_71 rfl ?_
    intro N_4 hM_N_4
    have hI_N_4 : Inv true N_4 := Inv.u hI_M hM_N_4 kd_164 (a := 0) (b := 30) ha_1.1 ha_1.2 rfl (by omega)
    have hF_N_4 : Fr f_e_comesBack2 M N_4 := Fr.u hF_M hM_N_4 kd_164 rfl
    refine kx_aload_n 73 F 0 dX12_comesBack_72 rfl rfl rfl ?_
    refine kx_aload_n 74 F 0 dX12_comesBack_73 rfl rfl rfl ?_
    refine kx_getr 77 F fl_X12_7 kd_163 rfl rfl (j := 0) rfl dX12_comesBack_74 (v := 164) (uq_164 (Inv.r hI_N_4 kd_163 rfl 0 rfl rfl)) rfl ?_
    refine kx_bipush 79 F dX12_comesBack_77 (by decide) rfl ?_
    refine kx_iald 80 F kd_164 rfl rfl (by omega) (by decide) dX12_comesBack_79 (v := (M 164 6) - 1) (by rw [hM_N_4, mu_s]) rfl ?_
    refine kx_Vi 83 (ci := 0) F (As := [vI ((M 164 6) - 1)]) (st := []) vd_X12_525 (c_belowRowE G l N_4 ((M 164 6) - 1) hI_N_4 (by omega)) kd_163 rfl rfl rfl ⟨by decide, by decide⟩ rfl rfl (Nat.le_of_ble_eq_true rfl) dX12_comesBack_80 rfl ?_
    intro r_5 N_6 q_7
    obtain ⟨rfl, q_7c⟩ := q_7
    refine kx_topi (e' := 3 * (M 164 6) + 7) (by omega) ?_
    refine kx_istore_n 84 F 3 (lo' := [some (vR G 163), some (vI a1), some (vI a2), some (vI (3 * (M 164 6) + 7)), none]) dX12_comesBack_83 rfl (by decide) rfl rfl rfl ?_
    refine kx_aload_n 85 F 0 dX12_comesBack_84 rfl rfl rfl ?_
    refine kx_iload_n 86 F 1 dX12_comesBack_85 rfl rfl rfl ?_
    refine kx_aload_n 87 F 0 dX12_comesBack_86 rfl rfl rfl ?_
    refine kx_getr 90 F fl_X12_7 kd_163 rfl rfl (j := 0) rfl dX12_comesBack_87 (v := 164) (uq_164 (Inv.r hI_N_4 kd_163 rfl 0 rfl rfl)) rfl ?_
    refine kx_bipush 92 F dX12_comesBack_90 (by decide) rfl ?_
    refine kx_iald 93 F kd_164 rfl rfl (by omega) (by decide) dX12_comesBack_92 (v := (M 164 8)) (by rw [hM_N_4, mu_i (by omega)]) rfl ?_
    have ha_8 : atlo 8 = 0 ∧ athi 8 = 511 := at_c 8 0 (o := 8) (lo := 0) (hi := 511) (by omega) (by decide) (by decide) (by decide)
    have h_9 := Inv.g hI_M kd_164 rfl 8 (a := 0) (b := 511) ha_8.1 ha_8.2
    refine kx_aload_n 94 F 0 dX12_comesBack_93 rfl rfl rfl ?_
    refine kx_getr 97 F fl_X12_7 kd_163 rfl rfl (j := 0) rfl dX12_comesBack_94 (v := 164) (uq_164 (Inv.r hI_N_4 kd_163 rfl 0 rfl rfl)) rfl ?_
    refine kx_iload_n 98 F 3 dX12_comesBack_97 rfl rfl rfl ?_
    refine kx_iconst 99 F dX12_comesBack_98 rfl ?_
    refine kx_iadd 100 F (v := 3 * (M 164 6) + 9) dX12_comesBack_99 (by omega) rfl ?_
    refine kx_iald 101 F kd_164 rfl rfl (by omega) (by decide) dX12_comesBack_100 (v := (M 164 (3 * (M 164 6) + 9))) (by rw [hM_N_4, mu_i (by omega)]) rfl ?_
    have ha_10 : atlo (3 * (M 164 6) + 9) = 0 ∧ athi (3 * (M 164 6) + 9) = 5 := at_b (3 * (M 164 6) + 9) 0 ((M 164 6) - 1) 2 (by omega) (by omega) (by decide)
    have h_11 := Inv.g hI_M kd_164 rfl (3 * (M 164 6) + 9) (a := 0) (b := 5) ha_10.1 ha_10.2
    refine kx_iload_n 102 F 2 dX12_comesBack_101 rfl rfl rfl ?_
    refine kx_Vi 105 (ci := 0) F (As := [vI a1, vI (M 164 8), vI (M 164 (3 * (M 164 6) + 9)), vI a2]) (st := []) vd_X12_335 (e_over G l N_4 a1 (M 164 8) (M 164 (3 * (M 164 6) + 9)) a2 hI_N_4 (by omega)) kd_163 rfl rfl rfl ⟨by decide, by decide⟩ rfl rfl (Nat.le_of_ble_eq_true rfl) dX12_comesBack_102 rfl ?_
    intro r_12 N_13 q_14
    obtain ⟨rfl, q_14c, hz_N_13⟩ := q_14
    refine kx_istore 107 F 4 (lo' := [some (vR G 163), some (vI a1), some (vI a2), some (vI (3 * (M 164 6) + 7)), some (vI r_12)]) dX12_comesBack_105 (by decide) rfl rfl rfl ?_
    refine kx_aload_n 108 F 0 dX12_comesBack_107 rfl rfl rfl ?_
    refine kx_getr 111 F fl_X12_7 kd_163 rfl rfl (j := 0) rfl dX12_comesBack_108 (v := 164) (uq_164 (Inv.r hI_N_4 kd_163 rfl 0 rfl rfl)) rfl ?_
    refine kx_bipush 113 F dX12_comesBack_111 (by decide) rfl ?_
    refine kx_aload_n 114 F 0 dX12_comesBack_113 rfl rfl rfl ?_
    refine kx_getr 117 F fl_X12_7 kd_163 rfl rfl (j := 0) rfl dX12_comesBack_114 (v := 164) (uq_164 (Inv.r hI_N_4 kd_163 rfl 0 rfl rfl)) rfl ?_
    refine kx_iload_n 118 F 3 dX12_comesBack_117 rfl rfl rfl ?_
    refine kx_iald 119 F kd_164 rfl rfl (by omega) (by decide) dX12_comesBack_118 (v := (M 164 (3 * (M 164 6) + 7))) (by rw [hM_N_4, mu_i (by omega)]) rfl ?_
    have ha_15 : atlo (3 * (M 164 6) + 7) = 0 ∧ athi (3 * (M 164 6) + 7) = 7 := at_b (3 * (M 164 6) + 7) 0 ((M 164 6) - 1) 0 (by omega) (by omega) (by decide)
    have h_16 := Inv.g hI_M kd_164 rfl (3 * (M 164 6) + 7) (a := 0) (b := 7) ha_15.1 ha_15.2
    refine kx_iload 121 F 4 dX12_comesBack_119 rfl rfl ?_
    refine kx_Si 124 F (As := [vI (M 164 (3 * (M 164 6) + 7)), vI r_12]) (st := [vI 7, vR G 164]) sd_X12_332 (c_X12_image G l N_4 (M 164 (3 * (M 164 6) + 7)) r_12 hI_N_4 (by omega)) ⟨by decide, by decide⟩ rfl rfl (Nat.le_of_ble_eq_true rfl) dX12_comesBack_121 rfl ?_
    intro r_17 N_18 q_19
    obtain ⟨rfl, q_19c⟩ := q_19
    refine kx_iast 125 F kd_164 rfl rfl (by omega) (by decide) dX12_comesBack_124 rfl ?_
    intro N_20 hM_N_20
    have ha_21 : atlo 7 = 0 ∧ athi 7 = 7 := at_c 7 0 (o := 7) (lo := 0) (hi := 7) (by omega) (by decide) (by decide) (by decide)
    have hI_N_20 : Inv true N_20 := Inv.u hI_N_4 hM_N_20 kd_164 (a := 0) (b := 7) ha_21.1 ha_21.2 rfl (by omega)
    have hF_N_20 : Fr f_e_comesBack2 M N_20 := Fr.u hF_N_4 hM_N_20 kd_164 rfl
    refine kx_aload_n 126 F 0 dX12_comesBack_125 rfl rfl rfl ?_
    refine kx_getr 129 F fl_X12_7 kd_163 rfl rfl (j := 0) rfl dX12_comesBack_126 (v := 164) (uq_164 (Inv.r hI_N_20 kd_163 rfl 0 rfl rfl)) rfl ?_
    refine kx_bipush 131 F dX12_comesBack_129 (by decide) rfl ?_
    refine kx_aload_n 132 F 0 dX12_comesBack_131 rfl rfl rfl ?_
    refine kx_getr 135 F fl_X12_7 kd_163 rfl rfl (j := 0) rfl dX12_comesBack_132 (v := 164) (uq_164 (Inv.r hI_N_20 kd_163 rfl 0 rfl rfl)) rfl ?_
    refine kx_iload_n 136 F 3 dX12_comesBack_135 rfl rfl rfl ?_
    refine kx_iconst 137 F dX12_comesBack_136 rfl ?_
    refine kx_iadd 138 F (v := 3 * (M 164 6) + 8) dX12_comesBack_137 (by omega) rfl ?_
    refine kx_iald 139 F kd_164 rfl rfl (by omega) (by decide) dX12_comesBack_138 (v := (M 164 (3 * (M 164 6) + 8))) (by rw [hM_N_20, mu_i (by omega), hM_N_4, mu_i (by omega)]) rfl ?_
    have ha_22 : atlo (3 * (M 164 6) + 8) = 0 ∧ athi (3 * (M 164 6) + 8) = 511 := at_b (3 * (M 164 6) + 8) 0 ((M 164 6) - 1) 1 (by omega) (by omega) (by decide)
    have h_23 := Inv.g hI_M kd_164 rfl (3 * (M 164 6) + 8) (a := 0) (b := 511) ha_22.1 ha_22.2
    refine kx_iload 141 F 4 dX12_comesBack_139 rfl rfl ?_
    refine kx_Si 144 F (As := [vI (M 164 (3 * (M 164 6) + 8)), vI r_12]) (st := [vI 8, vR G 164]) sd_X12_326 (e_then G l N_20 (M 164 (3 * (M 164 6) + 8)) r_12 hI_N_20 (by omega)) ⟨by decide, by decide⟩ rfl rfl (Nat.le_of_ble_eq_true rfl) dX12_comesBack_141 rfl ?_
    intro r_24 N_25 q_26
    obtain ⟨rfl, q_26c, hz_N_25⟩ := q_26
    refine kx_iast 145 F kd_164 rfl rfl (by omega) (by decide) dX12_comesBack_144 rfl ?_
    intro N_27 hM_N_27
    have hI_N_27 : Inv true N_27 := Inv.u hI_N_20 hM_N_27 kd_164 (a := 0) (b := 511) ha_8.1 ha_8.2 rfl (by omega)
    have hF_N_27 : Fr f_e_comesBack2 M N_27 := Fr.u hF_N_20 hM_N_27 kd_164 rfl
    have e_28 : (N_27 164 4) = (M 164 4) := by rw [hM_N_27, mu_i (by omega), hM_N_20, mu_i (by omega), hM_N_4, mu_i (by omega)]
    exact kx_vret F hQ ⟨hI_N_27, hF_N_27, (by omega), ⟨(YY.sta (YY.sta (YY.sta hY hI_M hM_N_4 (by omega)) hI_N_4 hM_N_20 (by omega)) hI_N_20 hM_N_27 (by omega)), (zRW.sta (zRW.sta (zRW.sta (zRW.rf M) hM_N_4 (by omega)) hM_N_20 (by omega)) hM_N_27 (by omega))⟩⟩ dX12_comesBack_145
  · refine kx_aload_n 11 F 0 dX12_comesBack_10 rfl rfl rfl ?_
    refine kx_getr 14 F fl_X12_7 kd_163 rfl rfl (j := 0) rfl dX12_comesBack_11 (v := 164) (uq_164 (Inv.r hI_M kd_163 rfl 0 rfl rfl)) rfl ?_
    refine kx_bipush 16 F dX12_comesBack_14 (by decide) rfl ?_
    refine kx_aload_n 17 F 0 dX12_comesBack_16 rfl rfl rfl ?_
    refine kx_getr 20 F fl_X12_7 kd_163 rfl rfl (j := 0) rfl dX12_comesBack_17 (v := 164) (uq_164 (Inv.r hI_M kd_163 rfl 0 rfl rfl)) rfl ?_
    refine kx_bipush 22 F dX12_comesBack_20 (by decide) rfl ?_
    refine kx_iald 23 F kd_164 rfl rfl (by omega) (by decide) dX12_comesBack_22 (v := (M 164 7)) rfl rfl ?_
    have ha_29 : atlo 7 = 0 ∧ athi 7 = 7 := at_c 7 0 (o := 7) (lo := 0) (hi := 7) (by omega) (by decide) (by decide) (by decide)
    have h_30 := Inv.g hI_M kd_164 rfl 7 (a := 0) (b := 7) ha_29.1 ha_29.2
    refine kx_aload_n 24 F 0 dX12_comesBack_23 rfl rfl rfl ?_
    refine kx_iload_n 25 F 1 dX12_comesBack_24 rfl rfl rfl ?_
    refine kx_iload_n 26 F 2 dX12_comesBack_25 rfl rfl rfl ?_
    refine kx_bipush 28 F dX12_comesBack_26 (by decide) rfl ?_
    refine kx_Vi 31 (ci := 0) F (As := [vI a1, vI a2, vI 8]) (st := [vI (M 164 7), vI 7, vR G 164]) vd_X12_323 (e_leads G l M a1 a2 8 hI_M (by omega)) kd_163 rfl rfl rfl ⟨by decide, by decide⟩ rfl rfl (Nat.le_of_ble_eq_true rfl) dX12_comesBack_28 rfl ?_
    intro r_31 N_32 q_33
    obtain ⟨rfl, q_33c, hz_N_32⟩ := q_33
    refine kx_Si 34 F (As := [vI (M 164 7), vI r_31]) (st := [vI 7, vR G 164]) sd_X12_332 (c_X12_image G l M (M 164 7) r_31 hI_M (by omega)) ⟨by decide, by decide⟩ rfl rfl (Nat.le_of_ble_eq_true rfl) dX12_comesBack_31 rfl ?_
    intro r_34 N_35 q_36
    obtain ⟨rfl, q_36c⟩ := q_36
    refine kx_iast 35 F kd_164 rfl rfl (by omega) (by decide) dX12_comesBack_34 rfl ?_
    intro N_37 hM_N_37
    have hI_N_37 : Inv true N_37 := Inv.u hI_M hM_N_37 kd_164 (a := 0) (b := 7) ha_29.1 ha_29.2 rfl (by omega)
    have hF_N_37 : Fr f_e_comesBack2 M N_37 := Fr.u hF_M hM_N_37 kd_164 rfl
    refine kx_aload_n 36 F 0 dX12_comesBack_35 rfl rfl rfl ?_
    refine kx_getr 39 F fl_X12_7 kd_163 rfl rfl (j := 0) rfl dX12_comesBack_36 (v := 164) (uq_164 (Inv.r hI_N_37 kd_163 rfl 0 rfl rfl)) rfl ?_
    refine kx_bipush 41 F dX12_comesBack_39 (by decide) rfl ?_
    refine kx_aload_n 42 F 0 dX12_comesBack_41 rfl rfl rfl ?_
    refine kx_getr 45 F fl_X12_7 kd_163 rfl rfl (j := 0) rfl dX12_comesBack_42 (v := 164) (uq_164 (Inv.r hI_N_37 kd_163 rfl 0 rfl rfl)) rfl ?_
    refine kx_bipush 47 F dX12_comesBack_45 (by decide) rfl ?_
    refine kx_iald 48 F kd_164 rfl rfl (by omega) (by decide) dX12_comesBack_47 (v := (M 164 8)) (by rw [hM_N_37, mu_i (by omega)]) rfl ?_
    have ha_38 : atlo 8 = 0 ∧ athi 8 = 511 := at_c 8 0 (o := 8) (lo := 0) (hi := 511) (by omega) (by decide) (by decide) (by decide)
    have h_39 := Inv.g hI_M kd_164 rfl 8 (a := 0) (b := 511) ha_38.1 ha_38.2
    refine kx_aload_n 49 F 0 dX12_comesBack_48 rfl rfl rfl ?_
    refine kx_iload_n 50 F 1 dX12_comesBack_49 rfl rfl rfl ?_
    refine kx_iload_n 51 F 2 dX12_comesBack_50 rfl rfl rfl ?_
    refine kx_bipush 53 F dX12_comesBack_51 (by decide) rfl ?_
    refine kx_Vi 56 (ci := 0) F (As := [vI a1, vI a2, vI 8]) (st := [vI (M 164 8), vI 8, vR G 164]) vd_X12_323 (e_leads G l N_37 a1 a2 8 hI_N_37 (by omega)) kd_163 rfl rfl rfl ⟨by decide, by decide⟩ rfl rfl (Nat.le_of_ble_eq_true rfl) dX12_comesBack_53 rfl ?_
    intro r_40 N_41 q_42
    obtain ⟨rfl, q_42c, hz_N_41⟩ := q_42
    refine kx_Si 59 F (As := [vI (M 164 8), vI r_40]) (st := [vI 8, vR G 164]) sd_X12_326 (e_then G l N_37 (M 164 8) r_40 hI_N_37 (by omega)) ⟨by decide, by decide⟩ rfl rfl (Nat.le_of_ble_eq_true rfl) dX12_comesBack_56 rfl ?_
    intro r_43 N_44 q_45
    obtain ⟨rfl, q_45c, hz_N_44⟩ := q_45
    refine kx_iast 60 F kd_164 rfl rfl (by omega) (by decide) dX12_comesBack_59 rfl ?_
    intro N_46 hM_N_46
    have hI_N_46 : Inv true N_46 := Inv.u hI_N_37 hM_N_46 kd_164 (a := 0) (b := 511) ha_38.1 ha_38.2 rfl (by omega)
    have hF_N_46 : Fr f_e_comesBack2 M N_46 := Fr.u hF_N_37 hM_N_46 kd_164 rfl
    have e_47 : (N_46 164 4) = (M 164 4) := by rw [hM_N_46, mu_i (by omega), hM_N_37, mu_i (by omega)]
    exact kx_vret F hQ ⟨hI_N_46, hF_N_46, (by omega), ⟨(YY.sta (YY.sta hY hI_M hM_N_37 (by omega)) hI_N_37 hM_N_46 (by omega)), (zRW.sta (zRW.sta (zRW.rf M) hM_N_37 (by omega)) hM_N_46 (by omega))⟩⟩ dX12_comesBack_60
abbrev f_e_see2m : List (Nat × Int) := [(64, 2), (65, -1), (72, -1)]
set_option maxHeartbeats 4000000 in
set_option maxRecDepth 100000 in
theorem e_see2m (G : KG) (l : Launch) (M : Mem) (a1 : Int) (hI_M : Inv true M) (hpre : -2147483648 ≤ a1 ∧ a1 ≤ 2147483647) (hY : YY M)  : KC true G l yX12_see cX12_see 4 (some .int) (4, 99) [vR G 163, vI a1] M (fun A => kQi true G A (fun (r : Int) (N : Mem) => Inv true N ∧ Fr f_e_see2m M N ∧ (r ≥ -2147483648 ∧ r ≤ 2147483647) ∧ ((YY N) ∧ (zRW N M)))) := by
  refine kx_met (lo := [some (vR G 163), some (vI a1), none, none]) (by decide) (Nat.le_of_ble_eq_true rfl) rfl ?_
  intro X F hQ
  have hF_M : Fr f_e_see2m M M := Fr.rf _ _
  have h_1 := Inv.g hI_M kd_164 rfl 0 (a := 0) (b := 2) (at_c 0 0 (o := 0) (lo := 0) (hi := 2) (by omega) (by decide) (by decide) (by decide)).1 (at_c 0 0 (o := 0) (lo := 0) (hi := 2) (by omega) (by decide) (by decide) (by decide)).2
  have h_2 := Inv.g hI_M kd_164 rfl 1 (a := 0) (b := 2) (at_c 1 0 (o := 1) (lo := 0) (hi := 2) (by omega) (by decide) (by decide) (by decide)).1 (at_c 1 0 (o := 1) (lo := 0) (hi := 2) (by omega) (by decide) (by decide) (by decide)).2
  have h_3 := Inv.g hI_M kd_164 rfl 2 (a := 0) (b := 2) (at_c 2 0 (o := 2) (lo := 0) (hi := 2) (by omega) (by decide) (by decide) (by decide)).1 (at_c 2 0 (o := 2) (lo := 0) (hi := 2) (by omega) (by decide) (by decide) (by decide)).2
  refine kx_aload_n 1 F 0 dX12_see_0 rfl rfl rfl ?_
  refine kx_getr 4 F fl_X12_7 kd_163 rfl rfl (j := 0) rfl dX12_see_1 (v := 164) (uq_164 (Inv.r hI_M kd_163 rfl 0 rfl rfl)) rfl ?_
  refine kx_iconst 5 F dX12_see_4 rfl ?_
  refine kx_iald 6 F kd_164 rfl rfl (by omega) (by decide) dX12_see_5 (v := (M 164 4)) rfl rfl ?_
  have ha_4 : atlo 4 = (-1) ∧ athi 4 = 1 := at_c 4 0 (o := 4) (lo := (-1)) (hi := 1) (by omega) (by decide) (by decide) (by decide)
  have h_5 := Inv.g hI_M kd_164 rfl 4 (a := (-1)) (b := 1) ha_4.1 ha_4.2
  refine kx_istore_n 7 F 2 (lo' := [some (vR G 163), some (vI a1), some (vI (M 164 4)), none]) dX12_see_6 rfl (by decide) rfl rfl rfl ?_
  refine kx_aload_n 8 F 0 dX12_see_7 rfl rfl rfl ?_
  refine kx_iload_n 9 F 1 dX12_see_8 rfl rfl rfl ?_
  refine kx_Vi 12 (ci := 0) F (As := [vI a1]) (st := []) vd_X12_300 (e_isLetterX G l M a1 hI_M (by omega)) kd_163 rfl rfl rfl ⟨by decide, by decide⟩ rfl rfl (Nat.le_of_ble_eq_true rfl) dX12_see_9 rfl ?_
  intro r_6 N_7 q_8
  obtain ⟨rfl, q_8c⟩ := q_8
  rcases q_8c with q_8c | q_8c | q_8c
  · refine kx_if_ne 15 F 21 dX12_see_12 (by decide) rfl (by omega) (fun h_9 => ?_) (fun h_9 => (by exfalso; omega))
    refine kx_iload_n 22 F 2 dX12_see_21 rfl rfl rfl ?_
    refine kx_iconst 23 F dX12_see_22 rfl ?_
    refine kx_icmp_ne 26 F 33 dX12_see_23 (by decide) rfl (by omega) (by decide) (fun h_10 => ?_) (fun h_10 => ?_)
    · refine kx_aload_n 34 F 0 dX12_see_33 rfl rfl rfl ?_
      refine kx_iload_n 35 F 1 dX12_see_34 rfl rfl rfl ?_
      refine kx_Vi 38 (ci := 0) F (As := [vI a1]) (st := []) vd_X12_297 (c_sortNowE G l M a1 hI_M (by omega)) kd_163 rfl rfl rfl ⟨by decide, by decide⟩ rfl rfl (Nat.le_of_ble_eq_true rfl) dX12_see_35 rfl ?_
      intro r_11 N_12 q_13
      obtain ⟨rfl, q_13c⟩ := q_13
      rcases q_13c with q_13c | q_13c | q_13c
      · refine kx_if_ne 41 F 59 dX12_see_38 (by decide) rfl (by omega) (fun h_14 => (by exfalso; omega)) (fun h_14 => ?_)
        refine kx_aload_n 42 F 0 dX12_see_41 rfl rfl rfl ?_
        refine kx_getr 45 F fl_X12_7 kd_163 rfl rfl (j := 0) rfl dX12_see_42 (v := 164) (uq_164 (Inv.r hI_M kd_163 rfl 0 rfl rfl)) rfl ?_
        refine kx_bipush 47 F dX12_see_45 (by decide) rfl ?_
        refine kx_iald 48 F kd_164 rfl rfl (by omega) (by decide) dX12_see_47 (v := (M 164 6)) rfl rfl ?_
        have ha_15 : atlo 6 = 0 ∧ athi 6 = 30 := at_c 6 0 (o := 6) (lo := 0) (hi := 30) (by omega) (by decide) (by decide) (by decide)
        have h_16 := Inv.g hI_M kd_164 rfl 6 (a := 0) (b := 30) ha_15.1 ha_15.2
        refine kx_bipush 50 F dX12_see_48 (by decide) rfl ?_
        refine kx_icmp_ne 53 F 59 dX12_see_50 (by decide) rfl (by omega) (by decide) (fun h_17 => ?_) (fun h_17 => ?_)
        · refine kx_aload_n 60 F 0 dX12_see_59 rfl rfl rfl ?_
          refine kx_Vv 63 (ci := 0) F (As := []) (st := []) vd_X12_342 (e_laysRules G l M  hI_M) kd_163 rfl rfl rfl ⟨by decide, by decide⟩ rfl rfl (Nat.le_of_ble_eq_true rfl) dX12_see_60 rfl ?_
          intro N_18 q_19
          obtain ⟨hI_N_18, hG_N_18, hd_N_18⟩ := q_19
          have hF_N_18 : Fr f_e_see2m M N_18 := Fr.c hF_M hG_N_18 rfl
          refine kx_aload_n 64 F 0 dX12_see_63 rfl rfl rfl ?_
          refine kx_iload_n 65 F 1 dX12_see_64 rfl rfl rfl ?_
          refine kx_Vi 68 (ci := 0) F (As := [vI a1]) (st := []) vd_X12_297 (c_sortNowE G l N_18 a1 hI_N_18 (by omega)) kd_163 rfl rfl rfl ⟨by decide, by decide⟩ rfl rfl (Nat.le_of_ble_eq_true rfl) dX12_see_65 rfl ?_
          intro r_20 N_21 q_22
          obtain ⟨rfl, q_22c⟩ := q_22
          have e_23 : (N_18 164 0) = (M 164 0) := by rw [Fr.e hG_N_18 kd_164 _ rfl]
          have e_24 : (N_18 164 0) = (M 164 0) := by rw [Fr.e hG_N_18 kd_164 _ rfl]
          have e_25 : (N_18 164 0) = (M 164 0) := by rw [Fr.e hG_N_18 kd_164 _ rfl]
          have e_26 : (N_18 164 0) = (M 164 0) := by rw [Fr.e hG_N_18 kd_164 _ rfl]
          have e_27 : (N_18 164 0) = (M 164 0) := by rw [Fr.e hG_N_18 kd_164 _ rfl]
          have e_28 : (N_18 164 1) = (M 164 1) := by rw [Fr.e hG_N_18 kd_164 _ rfl]
          have e_29 : (N_18 164 0) = (M 164 0) := by rw [Fr.e hG_N_18 kd_164 _ rfl]
          have e_30 : (N_18 164 1) = (M 164 1) := by rw [Fr.e hG_N_18 kd_164 _ rfl]
          have e_31 : (N_18 164 0) = (M 164 0) := by rw [Fr.e hG_N_18 kd_164 _ rfl]
          have e_32 : (N_18 164 1) = (M 164 1) := by rw [Fr.e hG_N_18 kd_164 _ rfl]
          have e_33 : (N_18 164 0) = (M 164 0) := by rw [Fr.e hG_N_18 kd_164 _ rfl]
          have e_34 : (N_18 164 1) = (M 164 1) := by rw [Fr.e hG_N_18 kd_164 _ rfl]
          rcases q_22c with q_22c | q_22c | q_22c
          · have h_35 : r_20 = 0 := by omega
            · rw [show vI r_20 = vI 0 by rw [h_35]]
              refine kx_look 96 F (by decide) dX12_see_68 (by decide) rfl (by decide) ?_
              refine kx_aload_n 97 F 0 dX12_see_96 rfl rfl rfl ?_
              refine kx_aload_n 98 F 0 dX12_see_97 rfl rfl rfl ?_
              refine kx_getr 101 F fl_X12_7 kd_163 rfl rfl (j := 0) rfl dX12_see_98 (v := 164) (uq_164 (Inv.r hI_N_18 kd_163 rfl 0 rfl rfl)) rfl ?_
              refine kx_bipush 103 F dX12_see_101 (by decide) rfl ?_
              refine kx_iald 104 F kd_164 rfl rfl (by omega) (by decide) dX12_see_103 (v := (M 164 6)) (by rw [Fr.e hG_N_18 kd_164 _ rfl]) rfl ?_
              refine kx_Vi 107 (ci := 0) F (As := [vI (M 164 6)]) (st := []) vd_X12_525 (c_belowRowE G l N_18 (M 164 6) hI_N_18 (by omega)) kd_163 rfl rfl rfl ⟨by decide, by decide⟩ rfl rfl (Nat.le_of_ble_eq_true rfl) dX12_see_104 rfl ?_
              intro r_36 N_37 q_38
              obtain ⟨rfl, q_38c⟩ := q_38
              refine kx_topi (e' := 3 * (M 164 6) + 10) (by omega) ?_
              refine kx_istore_n 108 F 3 (lo' := [some (vR G 163), some (vI a1), some (vI (M 164 4)), some (vI (3 * (M 164 6) + 10))]) dX12_see_107 rfl (by decide) rfl rfl rfl ?_
              refine kx_aload_n 109 F 0 dX12_see_108 rfl rfl rfl ?_
              refine kx_getr 112 F fl_X12_7 kd_163 rfl rfl (j := 0) rfl dX12_see_109 (v := 164) (uq_164 (Inv.r hI_N_18 kd_163 rfl 0 rfl rfl)) rfl ?_
              refine kx_iload_n 113 F 3 dX12_see_112 rfl rfl rfl ?_
              refine kx_aload_n 114 F 0 dX12_see_113 rfl rfl rfl ?_
              refine kx_getr 117 F fl_X12_7 kd_163 rfl rfl (j := 0) rfl dX12_see_114 (v := 164) (uq_164 (Inv.r hI_N_18 kd_163 rfl 0 rfl rfl)) rfl ?_
              refine kx_bipush 119 F dX12_see_117 (by decide) rfl ?_
              refine kx_iald 120 F kd_164 rfl rfl (by omega) (by decide) dX12_see_119 (v := (M 164 7)) (by rw [Fr.e hG_N_18 kd_164 _ rfl]) rfl ?_
              have ha_39 : atlo 7 = 0 ∧ athi 7 = 7 := at_c 7 0 (o := 7) (lo := 0) (hi := 7) (by omega) (by decide) (by decide) (by decide)
              have h_40 := Inv.g hI_M kd_164 rfl 7 (a := 0) (b := 7) ha_39.1 ha_39.2
              refine kx_iast 121 F kd_164 rfl rfl (by omega) (by decide) dX12_see_120 rfl ?_
              intro N_41 hM_N_41
              have ha_42 : atlo (3 * (M 164 6) + 10) = 0 ∧ athi (3 * (M 164 6) + 10) = 7 := at_b (3 * (M 164 6) + 10) 0 (M 164 6) 0 (by omega) (by omega) (by decide)
              have hI_N_41 : Inv true N_41 := Inv.u hI_N_18 hM_N_41 kd_164 (a := 0) (b := 7) ha_42.1 ha_42.2 rfl (by omega)
              have hF_N_41 : Fr f_e_see2m M N_41 := Fr.u hF_N_18 hM_N_41 kd_164 rfl
              refine kx_aload_n 122 F 0 dX12_see_121 rfl rfl rfl ?_
              refine kx_getr 125 F fl_X12_7 kd_163 rfl rfl (j := 0) rfl dX12_see_122 (v := 164) (uq_164 (Inv.r hI_N_41 kd_163 rfl 0 rfl rfl)) rfl ?_
              refine kx_iload_n 126 F 3 dX12_see_125 rfl rfl rfl ?_
              refine kx_iconst 127 F dX12_see_126 rfl ?_
              refine kx_iadd 128 F (v := 3 * (M 164 6) + 11) dX12_see_127 (by omega) rfl ?_
              refine kx_aload_n 129 F 0 dX12_see_128 rfl rfl rfl ?_
              refine kx_getr 132 F fl_X12_7 kd_163 rfl rfl (j := 0) rfl dX12_see_129 (v := 164) (uq_164 (Inv.r hI_N_41 kd_163 rfl 0 rfl rfl)) rfl ?_
              refine kx_bipush 134 F dX12_see_132 (by decide) rfl ?_
              refine kx_iald 135 F kd_164 rfl rfl (by omega) (by decide) dX12_see_134 (v := (M 164 8)) (by rw [hM_N_41, mu_i (by omega), Fr.e hG_N_18 kd_164 _ rfl]) rfl ?_
              have ha_43 : atlo 8 = 0 ∧ athi 8 = 511 := at_c 8 0 (o := 8) (lo := 0) (hi := 511) (by omega) (by decide) (by decide) (by decide)
              have h_44 := Inv.g hI_M kd_164 rfl 8 (a := 0) (b := 511) ha_43.1 ha_43.2
              refine kx_iast 136 F kd_164 rfl rfl (by omega) (by decide) dX12_see_135 rfl ?_
              intro N_45 hM_N_45
              have ha_46 : atlo (3 * (M 164 6) + 11) = 0 ∧ athi (3 * (M 164 6) + 11) = 511 := at_b (3 * (M 164 6) + 11) 0 (M 164 6) 1 (by omega) (by omega) (by decide)
              have hI_N_45 : Inv true N_45 := Inv.u hI_N_41 hM_N_45 kd_164 (a := 0) (b := 511) ha_46.1 ha_46.2 rfl (by omega)
              have hF_N_45 : Fr f_e_see2m M N_45 := Fr.u hF_N_41 hM_N_45 kd_164 rfl
              refine kx_aload_n 137 F 0 dX12_see_136 rfl rfl rfl ?_
              refine kx_getr 140 F fl_X12_7 kd_163 rfl rfl (j := 0) rfl dX12_see_137 (v := 164) (uq_164 (Inv.r hI_N_45 kd_163 rfl 0 rfl rfl)) rfl ?_
              refine kx_iload_n 141 F 3 dX12_see_140 rfl rfl rfl ?_
              refine kx_iconst 142 F dX12_see_141 rfl ?_
              refine kx_iadd 143 F (v := 3 * (M 164 6) + 12) dX12_see_142 (by omega) rfl ?_
              refine kx_iload_n 144 F 1 dX12_see_143 rfl rfl rfl ?_
              refine kx_iast 145 F kd_164 rfl rfl (by omega) (by decide) dX12_see_144 rfl ?_
              intro N_47 hM_N_47
              have ha_48 : atlo (3 * (M 164 6) + 12) = 0 ∧ athi (3 * (M 164 6) + 12) = 5 := at_b (3 * (M 164 6) + 12) 0 (M 164 6) 2 (by omega) (by omega) (by decide)
              have hI_N_47 : Inv true N_47 := Inv.u hI_N_45 hM_N_47 kd_164 (a := 0) (b := 5) ha_48.1 ha_48.2 rfl (by omega)
              have hF_N_47 : Fr f_e_see2m M N_47 := Fr.u hF_N_45 hM_N_47 kd_164 rfl
              refine kx_aload_n 146 F 0 dX12_see_145 rfl rfl rfl ?_
              refine kx_getr 149 F fl_X12_7 kd_163 rfl rfl (j := 0) rfl dX12_see_146 (v := 164) (uq_164 (Inv.r hI_N_47 kd_163 rfl 0 rfl rfl)) rfl ?_
              refine kx_bipush 151 F dX12_see_149 (by decide) rfl ?_
              refine kx_dup2 152 F dX12_see_151 rfl rfl rfl ?_
              refine kx_iald 153 F kd_164 rfl rfl (by omega) (by decide) dX12_see_152 (v := (M 164 6)) (by rw [hM_N_47, mu_i (by omega), hM_N_45, mu_i (by omega), hM_N_41, mu_i (by omega), Fr.e hG_N_18 kd_164 _ rfl]) rfl ?_
              refine kx_iconst 154 F dX12_see_153 rfl ?_
              refine kx_iadd 155 F (v := (M 164 6) + 1) dX12_see_154 rfl rfl ?_
              refine kx_iast 156 F kd_164 rfl rfl (by omega) (by decide) dX12_see_155 rfl ?_
              intro N_49 hM_N_49
              have hI_N_49 : Inv true N_49 := Inv.u hI_N_47 hM_N_49 kd_164 (a := 0) (b := 30) ha_15.1 ha_15.2 rfl (by omega)
              have hF_N_49 : Fr f_e_see2m M N_49 := Fr.u hF_N_47 hM_N_49 kd_164 rfl
              refine kx_aload_n 157 F 0 dX12_see_156 rfl rfl rfl ?_
              refine kx_getr 160 F fl_X12_7 kd_163 rfl rfl (j := 0) rfl dX12_see_157 (v := 164) (uq_164 (Inv.r hI_N_49 kd_163 rfl 0 rfl rfl)) rfl ?_
              refine kx_bipush 162 F dX12_see_160 (by decide) rfl ?_
              refine kx_aload_n 163 F 0 dX12_see_162 rfl rfl rfl ?_
              refine kx_getr 166 F fl_X12_7 kd_163 rfl rfl (j := 0) rfl dX12_see_163 (v := 164) (uq_164 (Inv.r hI_N_49 kd_163 rfl 0 rfl rfl)) rfl ?_
              refine kx_bipush 168 F dX12_see_166 (by decide) rfl ?_
              refine kx_iald 169 F kd_164 rfl rfl (by omega) (by decide) dX12_see_168 (v := (M 164 7)) (by rw [hM_N_49, mu_i (by omega), hM_N_47, mu_i (by omega), hM_N_45, mu_i (by omega), hM_N_41, mu_i (by omega), Fr.e hG_N_18 kd_164 _ rfl]) rfl ?_
              refine kx_aload_n 170 F 0 dX12_see_169 rfl rfl rfl ?_
              refine kx_iload_n 171 F 2 dX12_see_170 rfl rfl rfl ?_
              refine kx_iload_n 172 F 1 dX12_see_171 rfl rfl rfl ?_
              refine kx_bipush 174 F dX12_see_172 (by decide) rfl ?_
              refine kx_Vi 177 (ci := 0) F (As := [vI (M 164 4), vI a1, vI 7]) (st := [vI (M 164 7), vI 7, vR G 164]) vd_X12_323 (e_leads G l N_49 (M 164 4) a1 7 hI_N_49 (by omega)) kd_163 rfl rfl rfl ⟨by decide, by decide⟩ rfl rfl (Nat.le_of_ble_eq_true rfl) dX12_see_174 rfl ?_
              intro r_50 N_51 q_52
              obtain ⟨rfl, q_52c, hz_N_51⟩ := q_52
              refine kx_Si 180 F (As := [vI (M 164 7), vI r_50]) (st := [vI 7, vR G 164]) sd_X12_332 (c_X12_image G l N_49 (M 164 7) r_50 hI_N_49 (by omega)) ⟨by decide, by decide⟩ rfl rfl (Nat.le_of_ble_eq_true rfl) dX12_see_177 rfl ?_
              intro r_53 N_54 q_55
              obtain ⟨rfl, q_55c⟩ := q_55
              refine kx_iast 181 F kd_164 rfl rfl (by omega) (by decide) dX12_see_180 rfl ?_
              intro N_56 hM_N_56
              have hI_N_56 : Inv true N_56 := Inv.u hI_N_49 hM_N_56 kd_164 (a := 0) (b := 7) ha_39.1 ha_39.2 rfl (by omega)
              have hF_N_56 : Fr f_e_see2m M N_56 := Fr.u hF_N_49 hM_N_56 kd_164 rfl
              refine kx_aload_n 182 F 0 dX12_see_181 rfl rfl rfl ?_
              refine kx_getr 185 F fl_X12_7 kd_163 rfl rfl (j := 0) rfl dX12_see_182 (v := 164) (uq_164 (Inv.r hI_N_56 kd_163 rfl 0 rfl rfl)) rfl ?_
              refine kx_bipush 187 F dX12_see_185 (by decide) rfl ?_
              refine kx_aload_n 188 F 0 dX12_see_187 rfl rfl rfl ?_
              refine kx_iload_n 189 F 2 dX12_see_188 rfl rfl rfl ?_
              refine kx_Vi 192 (ci := 0) F (As := [vI (M 164 4)]) (st := [vI 8, vR G 164]) vd_X12_329 (e_same G l N_56 (M 164 4) hI_N_56 (by omega)) kd_163 rfl rfl rfl ⟨by decide, by decide⟩ rfl rfl (Nat.le_of_ble_eq_true rfl) dX12_see_189 rfl ?_
              intro r_57 N_58 q_59
              obtain ⟨rfl, q_59c, hz_N_58⟩ := q_59
              refine kx_iast 193 F kd_164 rfl rfl (by omega) (by decide) dX12_see_192 rfl ?_
              intro N_60 hM_N_60
              have hI_N_60 : Inv true N_60 := Inv.u hI_N_56 hM_N_60 kd_164 (a := 0) (b := 511) ha_43.1 ha_43.2 rfl (by omega)
              have hF_N_60 : Fr f_e_see2m M N_60 := Fr.u hF_N_56 hM_N_60 kd_164 rfl
              refine kx_goto 255 F dX12_see_193 (by decide) ?_
              refine kx_aload_n 256 F 0 dX12_see_255 rfl rfl rfl ?_
              refine kx_getr 259 F fl_X12_7 kd_163 rfl rfl (j := 0) rfl dX12_see_256 (v := 164) (uq_164 (Inv.r hI_N_60 kd_163 rfl 0 rfl rfl)) rfl ?_
              refine kx_iconst 260 F dX12_see_259 rfl ?_
              refine kx_dup2 261 F dX12_see_260 rfl rfl rfl ?_
              refine kx_iald 262 F kd_164 rfl rfl (by omega) (by decide) dX12_see_261 (v := (M 164 5)) (by rw [hM_N_60, mu_i (by omega), hM_N_56, mu_i (by omega), hM_N_49, mu_i (by omega), hM_N_47, mu_i (by omega), hM_N_45, mu_i (by omega), hM_N_41, mu_i (by omega), Fr.e hG_N_18 kd_164 _ rfl]) rfl ?_
              have ha_61 : atlo 5 = (-2147483648) ∧ athi 5 = 2147483647 := at_c 5 0 (o := 5) (lo := (-2147483648)) (hi := 2147483647) (by omega) (by decide) (by decide) (by decide)
              have h_62 := Inv.g hI_M kd_164 rfl 5 (a := (-2147483648)) (b := 2147483647) ha_61.1 ha_61.2
              refine kx_iconst 263 F dX12_see_262 rfl ?_
              refine kx_iadd 264 F (v := (M 164 5) + 1) dX12_see_263 rfl rfl ?_
              refine kx_wrapi (fun w_63 h_64 _ => ?_)
              refine kx_iast 265 F kd_164 rfl rfl (by omega) (by decide) dX12_see_264 rfl ?_
              intro N_65 hM_N_65
              have hI_N_65 : Inv true N_65 := Inv.u hI_N_60 hM_N_65 kd_164 (a := (-2147483648)) (b := 2147483647) ha_61.1 ha_61.2 rfl (by omega)
              have hF_N_65 : Fr f_e_see2m M N_65 := Fr.u hF_N_60 hM_N_65 kd_164 rfl
              refine kx_aload_n 266 F 0 dX12_see_265 rfl rfl rfl ?_
              refine kx_aload_n 267 F 0 dX12_see_266 rfl rfl rfl ?_
              have e_66 : (N_65 164 4) = (M 164 4) := by rw [hM_N_65, mu_i (by omega), hM_N_60, mu_i (by omega), hM_N_56, mu_i (by omega), hM_N_49, mu_i (by omega), hM_N_47, mu_i (by omega), hM_N_45, mu_i (by omega), hM_N_41, mu_i (by omega), Fr.e hG_N_18 kd_164 _ rfl]
              refine kx_Vi 270 (ci := 0) F (As := []) (st := [vR G 163]) vd_X12_522 (c_X12_isTakenNow G l N_65  hI_N_65 (by omega)) kd_163 rfl rfl rfl ⟨by decide, by decide⟩ rfl rfl (Nat.le_of_ble_eq_true rfl) dX12_see_267 rfl ?_
              intro r_67 N_68 q_69
              obtain ⟨rfl, q_69c⟩ := q_69
              refine kx_Vi 273 (ci := 0) F (As := [vI r_67]) (st := []) vd_X12_127 (c_X12_gives G l N_65 r_67 hI_N_65 (by omega)) kd_163 rfl rfl rfl ⟨by decide, by decide⟩ rfl rfl (Nat.le_of_ble_eq_true rfl) dX12_see_270 rfl ?_
              intro r_70 N_71 q_72
              obtain ⟨hI_N_71, hG_N_71, q_72c⟩ := q_72
              have hF_N_71 : Fr f_e_see2m M N_71 := Fr.c hF_N_65 hG_N_71 rfl
              refine kx_topi (e' := r_67) (by omega) ?_
              exact kx_iret F hQ ⟨hI_N_71, hF_N_71, (by omega), ⟨(YY.fr (YY.sta (YY.sta (YY.sta (YY.sta (YY.sta (YY.sta (YY.sta (YY.fr hY hG_N_18 rfl) hI_N_18 hM_N_41 (by omega)) hI_N_41 hM_N_45 (by omega)) hI_N_45 hM_N_47 (by omega)) hI_N_47 hM_N_49 (by omega)) hI_N_49 hM_N_56 (by omega)) hI_N_56 hM_N_60 (by omega)) hI_N_60 hM_N_65 (by omega)) hG_N_71 rfl), (zRW.fr (zRW.sta (zRW.sta (zRW.sta (zRW.sta (zRW.sta (zRW.sta (zRW.sta (zRW.fr (zRW.rf M) hG_N_18 rfl) hM_N_41 (by omega)) hM_N_45 (by omega)) hM_N_47 (by omega)) hM_N_49 (by omega)) hM_N_56 (by omega)) hM_N_60 (by omega)) hM_N_65 (by omega)) hG_N_71 rfl)⟩⟩ dX12_see_273
          · exfalso; omega
          · exfalso; omega
        · refine kx_aload_n 54 F 0 dX12_see_53 rfl rfl rfl ?_
          refine kx_iconst 55 F dX12_see_54 rfl ?_
          refine kx_Vi 58 (ci := 0) F (As := [vI 4]) (st := []) vd_X12_123 (c_X12_refuse G l M 4 hI_M (by omega)) kd_163 rfl rfl rfl ⟨by decide, by decide⟩ rfl rfl (Nat.le_of_ble_eq_true rfl) dX12_see_55 rfl ?_
          intro r_73 N_74 q_75
          obtain ⟨hI_N_74, hG_N_74, q_75c⟩ := q_75
          have hF_N_74 : Fr f_e_see2m M N_74 := Fr.c hF_M hG_N_74 rfl
          subst q_75c
          exact kx_iret F hQ ⟨hI_N_74, hF_N_74, (by omega), ⟨(YY.fr hY hG_N_74 rfl), (zRW.fr (zRW.rf M) hG_N_74 rfl)⟩⟩ dX12_see_58
      · refine kx_if_ne 41 F 59 dX12_see_38 (by decide) rfl (by omega) (fun h_76 => ?_) (fun h_76 => (by exfalso; omega))
        refine kx_aload_n 60 F 0 dX12_see_59 rfl rfl rfl ?_
        refine kx_Vv 63 (ci := 0) F (As := []) (st := []) vd_X12_342 (e_laysRules G l M  hI_M) kd_163 rfl rfl rfl ⟨by decide, by decide⟩ rfl rfl (Nat.le_of_ble_eq_true rfl) dX12_see_60 rfl ?_
        intro N_77 q_78
        obtain ⟨hI_N_77, hG_N_77, hd_N_77⟩ := q_78
        have hF_N_77 : Fr f_e_see2m M N_77 := Fr.c hF_M hG_N_77 rfl
        refine kx_aload_n 64 F 0 dX12_see_63 rfl rfl rfl ?_
        refine kx_iload_n 65 F 1 dX12_see_64 rfl rfl rfl ?_
        refine kx_Vi 68 (ci := 0) F (As := [vI a1]) (st := []) vd_X12_297 (c_sortNowE G l N_77 a1 hI_N_77 (by omega)) kd_163 rfl rfl rfl ⟨by decide, by decide⟩ rfl rfl (Nat.le_of_ble_eq_true rfl) dX12_see_65 rfl ?_
        intro r_79 N_80 q_81
        obtain ⟨rfl, q_81c⟩ := q_81
        have e_82 : (N_77 164 0) = (M 164 0) := by rw [Fr.e hG_N_77 kd_164 _ rfl]
        have e_83 : (N_77 164 0) = (M 164 0) := by rw [Fr.e hG_N_77 kd_164 _ rfl]
        have e_84 : (N_77 164 0) = (M 164 0) := by rw [Fr.e hG_N_77 kd_164 _ rfl]
        have e_85 : (N_77 164 0) = (M 164 0) := by rw [Fr.e hG_N_77 kd_164 _ rfl]
        have e_86 : (N_77 164 0) = (M 164 0) := by rw [Fr.e hG_N_77 kd_164 _ rfl]
        have e_87 : (N_77 164 1) = (M 164 1) := by rw [Fr.e hG_N_77 kd_164 _ rfl]
        have e_88 : (N_77 164 0) = (M 164 0) := by rw [Fr.e hG_N_77 kd_164 _ rfl]
        have e_89 : (N_77 164 1) = (M 164 1) := by rw [Fr.e hG_N_77 kd_164 _ rfl]
        have e_90 : (N_77 164 0) = (M 164 0) := by rw [Fr.e hG_N_77 kd_164 _ rfl]
        have e_91 : (N_77 164 1) = (M 164 1) := by rw [Fr.e hG_N_77 kd_164 _ rfl]
        have e_92 : (N_77 164 0) = (M 164 0) := by rw [Fr.e hG_N_77 kd_164 _ rfl]
        have e_93 : (N_77 164 1) = (M 164 1) := by rw [Fr.e hG_N_77 kd_164 _ rfl]
        rcases q_81c with q_81c | q_81c | q_81c
        · exfalso; omega
        · have h_94 : r_79 = 1 := by omega
          · rw [show vI r_79 = vI 1 by rw [h_94]]
            refine kx_look 196 F (by decide) dX12_see_68 (by decide) rfl (by decide) ?_
            refine kx_aload_n 197 F 0 dX12_see_196 rfl rfl rfl ?_
            refine kx_iload_n 198 F 2 dX12_see_197 rfl rfl rfl ?_
            refine kx_iload_n 199 F 1 dX12_see_198 rfl rfl rfl ?_
            refine kx_Vv 202 (ci := 0) F (As := [vI (M 164 4), vI a1]) (st := []) vd_X12_528 (e_comesBack2 G l N_77 (M 164 4) a1 hI_N_77 (by omega) (YY.fr hY hG_N_77 rfl) ) kd_163 rfl rfl rfl ⟨by decide, by decide⟩ rfl rfl (Nat.le_of_ble_eq_true rfl) dX12_see_199 rfl ?_
            intro N_95 q_96
            obtain ⟨hI_N_95, hG_N_95, q_96c, ⟨hy_N_95, hrw_N_95⟩⟩ := q_96
            have hF_N_95 : Fr f_e_see2m M N_95 := Fr.c hF_N_77 hG_N_95 rfl
            have e_97 : (N_77 164 4) = (M 164 4) := by rw [Fr.e hG_N_77 kd_164 _ rfl]
            refine kx_goto 255 F dX12_see_202 (by decide) ?_
            refine kx_aload_n 256 F 0 dX12_see_255 rfl rfl rfl ?_
            refine kx_getr 259 F fl_X12_7 kd_163 rfl rfl (j := 0) rfl dX12_see_256 (v := 164) (uq_164 (Inv.r hI_N_95 kd_163 rfl 0 rfl rfl)) rfl ?_
            refine kx_iconst 260 F dX12_see_259 rfl ?_
            refine kx_dup2 261 F dX12_see_260 rfl rfl rfl ?_
            refine kx_iald 262 F kd_164 rfl rfl (by omega) (by decide) dX12_see_261 (v := (N_95 164 5)) rfl rfl ?_
            have ha_98 : atlo 5 = (-2147483648) ∧ athi 5 = 2147483647 := at_c 5 0 (o := 5) (lo := (-2147483648)) (hi := 2147483647) (by omega) (by decide) (by decide) (by decide)
            have h_99 := Inv.g hI_N_95 kd_164 rfl 5 (a := (-2147483648)) (b := 2147483647) ha_98.1 ha_98.2
            refine kx_iconst 263 F dX12_see_262 rfl ?_
            refine kx_iadd 264 F (v := (N_95 164 5) + 1) dX12_see_263 rfl rfl ?_
            refine kx_wrapi (fun w_100 h_101 _ => ?_)
            refine kx_iast 265 F kd_164 rfl rfl (by omega) (by decide) dX12_see_264 rfl ?_
            intro N_102 hM_N_102
            have hI_N_102 : Inv true N_102 := Inv.u hI_N_95 hM_N_102 kd_164 (a := (-2147483648)) (b := 2147483647) ha_98.1 ha_98.2 rfl (by omega)
            have hF_N_102 : Fr f_e_see2m M N_102 := Fr.u hF_N_95 hM_N_102 kd_164 rfl
            refine kx_aload_n 266 F 0 dX12_see_265 rfl rfl rfl ?_
            refine kx_aload_n 267 F 0 dX12_see_266 rfl rfl rfl ?_
            have e_103 : (N_102 164 4) = (N_95 164 4) := by rw [hM_N_102, mu_i (by omega)]
            refine kx_Vi 270 (ci := 0) F (As := []) (st := [vR G 163]) vd_X12_522 (c_X12_isTakenNow G l N_102  hI_N_102 (by omega)) kd_163 rfl rfl rfl ⟨by decide, by decide⟩ rfl rfl (Nat.le_of_ble_eq_true rfl) dX12_see_267 rfl ?_
            intro r_104 N_105 q_106
            obtain ⟨rfl, q_106c⟩ := q_106
            refine kx_Vi 273 (ci := 0) F (As := [vI r_104]) (st := []) vd_X12_127 (c_X12_gives G l N_102 r_104 hI_N_102 (by omega)) kd_163 rfl rfl rfl ⟨by decide, by decide⟩ rfl rfl (Nat.le_of_ble_eq_true rfl) dX12_see_270 rfl ?_
            intro r_107 N_108 q_109
            obtain ⟨hI_N_108, hG_N_108, q_109c⟩ := q_109
            have hF_N_108 : Fr f_e_see2m M N_108 := Fr.c hF_N_102 hG_N_108 rfl
            refine kx_topi (e' := r_104) (by omega) ?_
            exact kx_iret F hQ ⟨hI_N_108, hF_N_108, (by omega), ⟨(YY.fr (YY.sta hy_N_95 hI_N_95 hM_N_102 (by omega)) hG_N_108 rfl), (zRW.fr (zRW.sta (zRW.trans (zRW.fr (zRW.rf M) hG_N_77 rfl) hrw_N_95) hM_N_102 (by omega)) hG_N_108 rfl)⟩⟩ dX12_see_273
        · have h_110 : r_79 = 2 := by omega
          · rw [show vI r_79 = vI 2 by rw [h_110]]
            refine kx_look 205 F (by decide) dX12_see_68 (by decide) rfl (by decide) ?_
            refine kx_aload_n 206 F 0 dX12_see_205 rfl rfl rfl ?_
            refine kx_getr 209 F fl_X12_7 kd_163 rfl rfl (j := 0) rfl dX12_see_206 (v := 164) (uq_164 (Inv.r hI_N_77 kd_163 rfl 0 rfl rfl)) rfl ?_
            refine kx_bipush 211 F dX12_see_209 (by decide) rfl ?_
            refine kx_aload_n 212 F 0 dX12_see_211 rfl rfl rfl ?_
            refine kx_getr 215 F fl_X12_7 kd_163 rfl rfl (j := 0) rfl dX12_see_212 (v := 164) (uq_164 (Inv.r hI_N_77 kd_163 rfl 0 rfl rfl)) rfl ?_
            refine kx_bipush 217 F dX12_see_215 (by decide) rfl ?_
            refine kx_iald 218 F kd_164 rfl rfl (by omega) (by decide) dX12_see_217 (v := (M 164 7)) (by rw [Fr.e hG_N_77 kd_164 _ rfl]) rfl ?_
            have ha_111 : atlo 7 = 0 ∧ athi 7 = 7 := at_c 7 0 (o := 7) (lo := 0) (hi := 7) (by omega) (by decide) (by decide) (by decide)
            have h_112 := Inv.g hI_M kd_164 rfl 7 (a := 0) (b := 7) ha_111.1 ha_111.2
            refine kx_aload_n 219 F 0 dX12_see_218 rfl rfl rfl ?_
            refine kx_iload_n 220 F 2 dX12_see_219 rfl rfl rfl ?_
            refine kx_iload_n 221 F 1 dX12_see_220 rfl rfl rfl ?_
            refine kx_bipush 223 F dX12_see_221 (by decide) rfl ?_
            refine kx_Vi 226 (ci := 0) F (As := [vI (M 164 4), vI a1, vI 8]) (st := [vI (M 164 7), vI 7, vR G 164]) vd_X12_323 (e_leads G l N_77 (M 164 4) a1 8 hI_N_77 (by omega)) kd_163 rfl rfl rfl ⟨by decide, by decide⟩ rfl rfl (Nat.le_of_ble_eq_true rfl) dX12_see_223 rfl ?_
            intro r_113 N_114 q_115
            obtain ⟨rfl, q_115c, hz_N_114⟩ := q_115
            refine kx_Si 229 F (As := [vI (M 164 7), vI r_113]) (st := [vI 7, vR G 164]) sd_X12_332 (c_X12_image G l N_77 (M 164 7) r_113 hI_N_77 (by omega)) ⟨by decide, by decide⟩ rfl rfl (Nat.le_of_ble_eq_true rfl) dX12_see_226 rfl ?_
            intro r_116 N_117 q_118
            obtain ⟨rfl, q_118c⟩ := q_118
            refine kx_iast 230 F kd_164 rfl rfl (by omega) (by decide) dX12_see_229 rfl ?_
            intro N_119 hM_N_119
            have hI_N_119 : Inv true N_119 := Inv.u hI_N_77 hM_N_119 kd_164 (a := 0) (b := 7) ha_111.1 ha_111.2 rfl (by omega)
            have hF_N_119 : Fr f_e_see2m M N_119 := Fr.u hF_N_77 hM_N_119 kd_164 rfl
            refine kx_aload_n 231 F 0 dX12_see_230 rfl rfl rfl ?_
            refine kx_getr 234 F fl_X12_7 kd_163 rfl rfl (j := 0) rfl dX12_see_231 (v := 164) (uq_164 (Inv.r hI_N_119 kd_163 rfl 0 rfl rfl)) rfl ?_
            refine kx_bipush 236 F dX12_see_234 (by decide) rfl ?_
            refine kx_aload_n 237 F 0 dX12_see_236 rfl rfl rfl ?_
            refine kx_getr 240 F fl_X12_7 kd_163 rfl rfl (j := 0) rfl dX12_see_237 (v := 164) (uq_164 (Inv.r hI_N_119 kd_163 rfl 0 rfl rfl)) rfl ?_
            refine kx_bipush 242 F dX12_see_240 (by decide) rfl ?_
            refine kx_iald 243 F kd_164 rfl rfl (by omega) (by decide) dX12_see_242 (v := (M 164 8)) (by rw [hM_N_119, mu_i (by omega), Fr.e hG_N_77 kd_164 _ rfl]) rfl ?_
            have ha_120 : atlo 8 = 0 ∧ athi 8 = 511 := at_c 8 0 (o := 8) (lo := 0) (hi := 511) (by omega) (by decide) (by decide) (by decide)
            have h_121 := Inv.g hI_M kd_164 rfl 8 (a := 0) (b := 511) ha_120.1 ha_120.2
            refine kx_aload_n 244 F 0 dX12_see_243 rfl rfl rfl ?_
            refine kx_iload_n 245 F 2 dX12_see_244 rfl rfl rfl ?_
            refine kx_iload_n 246 F 1 dX12_see_245 rfl rfl rfl ?_
            refine kx_bipush 248 F dX12_see_246 (by decide) rfl ?_
            refine kx_Vi 251 (ci := 0) F (As := [vI (M 164 4), vI a1, vI 8]) (st := [vI (M 164 8), vI 8, vR G 164]) vd_X12_323 (e_leads G l N_119 (M 164 4) a1 8 hI_N_119 (by omega)) kd_163 rfl rfl rfl ⟨by decide, by decide⟩ rfl rfl (Nat.le_of_ble_eq_true rfl) dX12_see_248 rfl ?_
            intro r_122 N_123 q_124
            obtain ⟨rfl, q_124c, hz_N_123⟩ := q_124
            refine kx_Si 254 F (As := [vI (M 164 8), vI r_122]) (st := [vI 8, vR G 164]) sd_X12_326 (e_then G l N_119 (M 164 8) r_122 hI_N_119 (by omega)) ⟨by decide, by decide⟩ rfl rfl (Nat.le_of_ble_eq_true rfl) dX12_see_251 rfl ?_
            intro r_125 N_126 q_127
            obtain ⟨rfl, q_127c, hz_N_126⟩ := q_127
            refine kx_iast 255 F kd_164 rfl rfl (by omega) (by decide) dX12_see_254 rfl ?_
            intro N_128 hM_N_128
            have hI_N_128 : Inv true N_128 := Inv.u hI_N_119 hM_N_128 kd_164 (a := 0) (b := 511) ha_120.1 ha_120.2 rfl (by omega)
            have hF_N_128 : Fr f_e_see2m M N_128 := Fr.u hF_N_119 hM_N_128 kd_164 rfl
            refine kx_aload_n 256 F 0 dX12_see_255 rfl rfl rfl ?_
            refine kx_getr 259 F fl_X12_7 kd_163 rfl rfl (j := 0) rfl dX12_see_256 (v := 164) (uq_164 (Inv.r hI_N_128 kd_163 rfl 0 rfl rfl)) rfl ?_
            refine kx_iconst 260 F dX12_see_259 rfl ?_
            refine kx_dup2 261 F dX12_see_260 rfl rfl rfl ?_
            refine kx_iald 262 F kd_164 rfl rfl (by omega) (by decide) dX12_see_261 (v := (M 164 5)) (by rw [hM_N_128, mu_i (by omega), hM_N_119, mu_i (by omega), Fr.e hG_N_77 kd_164 _ rfl]) rfl ?_
            have ha_129 : atlo 5 = (-2147483648) ∧ athi 5 = 2147483647 := at_c 5 0 (o := 5) (lo := (-2147483648)) (hi := 2147483647) (by omega) (by decide) (by decide) (by decide)
            have h_130 := Inv.g hI_M kd_164 rfl 5 (a := (-2147483648)) (b := 2147483647) ha_129.1 ha_129.2
            refine kx_iconst 263 F dX12_see_262 rfl ?_
            refine kx_iadd 264 F (v := (M 164 5) + 1) dX12_see_263 rfl rfl ?_
            refine kx_wrapi (fun w_131 h_132 _ => ?_)
            refine kx_iast 265 F kd_164 rfl rfl (by omega) (by decide) dX12_see_264 rfl ?_
            intro N_133 hM_N_133
            have hI_N_133 : Inv true N_133 := Inv.u hI_N_128 hM_N_133 kd_164 (a := (-2147483648)) (b := 2147483647) ha_129.1 ha_129.2 rfl (by omega)
            have hF_N_133 : Fr f_e_see2m M N_133 := Fr.u hF_N_128 hM_N_133 kd_164 rfl
            refine kx_aload_n 266 F 0 dX12_see_265 rfl rfl rfl ?_
            refine kx_aload_n 267 F 0 dX12_see_266 rfl rfl rfl ?_
            have e_134 : (N_133 164 4) = (M 164 4) := by rw [hM_N_133, mu_i (by omega), hM_N_128, mu_i (by omega), hM_N_119, mu_i (by omega), Fr.e hG_N_77 kd_164 _ rfl]
            refine kx_Vi 270 (ci := 0) F (As := []) (st := [vR G 163]) vd_X12_522 (c_X12_isTakenNow G l N_133  hI_N_133 (by omega)) kd_163 rfl rfl rfl ⟨by decide, by decide⟩ rfl rfl (Nat.le_of_ble_eq_true rfl) dX12_see_267 rfl ?_
            intro r_135 N_136 q_137
            obtain ⟨rfl, q_137c⟩ := q_137
            refine kx_Vi 273 (ci := 0) F (As := [vI r_135]) (st := []) vd_X12_127 (c_X12_gives G l N_133 r_135 hI_N_133 (by omega)) kd_163 rfl rfl rfl ⟨by decide, by decide⟩ rfl rfl (Nat.le_of_ble_eq_true rfl) dX12_see_270 rfl ?_
            intro r_138 N_139 q_140
            obtain ⟨hI_N_139, hG_N_139, q_140c⟩ := q_140
            have hF_N_139 : Fr f_e_see2m M N_139 := Fr.c hF_N_133 hG_N_139 rfl
            refine kx_topi (e' := r_135) (by omega) ?_
            exact kx_iret F hQ ⟨hI_N_139, hF_N_139, (by omega), ⟨(YY.fr (YY.sta (YY.sta (YY.sta (YY.fr hY hG_N_77 rfl) hI_N_77 hM_N_119 (by omega)) hI_N_119 hM_N_128 (by omega)) hI_N_128 hM_N_133 (by omega)) hG_N_139 rfl), (zRW.fr (zRW.sta (zRW.sta (zRW.sta (zRW.fr (zRW.rf M) hG_N_77 rfl) hM_N_119 (by omega)) hM_N_128 (by omega)) hM_N_133 (by omega)) hG_N_139 rfl)⟩⟩ dX12_see_273
      · refine kx_if_ne 41 F 59 dX12_see_38 (by decide) rfl (by omega) (fun h_141 => ?_) (fun h_141 => (by exfalso; omega))
        refine kx_aload_n 60 F 0 dX12_see_59 rfl rfl rfl ?_
        refine kx_Vv 63 (ci := 0) F (As := []) (st := []) vd_X12_342 (e_laysRules G l M  hI_M) kd_163 rfl rfl rfl ⟨by decide, by decide⟩ rfl rfl (Nat.le_of_ble_eq_true rfl) dX12_see_60 rfl ?_
        intro N_142 q_143
        obtain ⟨hI_N_142, hG_N_142, hd_N_142⟩ := q_143
        have hF_N_142 : Fr f_e_see2m M N_142 := Fr.c hF_M hG_N_142 rfl
        refine kx_aload_n 64 F 0 dX12_see_63 rfl rfl rfl ?_
        refine kx_iload_n 65 F 1 dX12_see_64 rfl rfl rfl ?_
        refine kx_Vi 68 (ci := 0) F (As := [vI a1]) (st := []) vd_X12_297 (c_sortNowE G l N_142 a1 hI_N_142 (by omega)) kd_163 rfl rfl rfl ⟨by decide, by decide⟩ rfl rfl (Nat.le_of_ble_eq_true rfl) dX12_see_65 rfl ?_
        intro r_144 N_145 q_146
        obtain ⟨rfl, q_146c⟩ := q_146
        have e_147 : (N_142 164 0) = (M 164 0) := by rw [Fr.e hG_N_142 kd_164 _ rfl]
        have e_148 : (N_142 164 0) = (M 164 0) := by rw [Fr.e hG_N_142 kd_164 _ rfl]
        have e_149 : (N_142 164 0) = (M 164 0) := by rw [Fr.e hG_N_142 kd_164 _ rfl]
        have e_150 : (N_142 164 0) = (M 164 0) := by rw [Fr.e hG_N_142 kd_164 _ rfl]
        have e_151 : (N_142 164 0) = (M 164 0) := by rw [Fr.e hG_N_142 kd_164 _ rfl]
        have e_152 : (N_142 164 1) = (M 164 1) := by rw [Fr.e hG_N_142 kd_164 _ rfl]
        have e_153 : (N_142 164 0) = (M 164 0) := by rw [Fr.e hG_N_142 kd_164 _ rfl]
        have e_154 : (N_142 164 1) = (M 164 1) := by rw [Fr.e hG_N_142 kd_164 _ rfl]
        have e_155 : (N_142 164 0) = (M 164 0) := by rw [Fr.e hG_N_142 kd_164 _ rfl]
        have e_156 : (N_142 164 1) = (M 164 1) := by rw [Fr.e hG_N_142 kd_164 _ rfl]
        have e_157 : (N_142 164 0) = (M 164 0) := by rw [Fr.e hG_N_142 kd_164 _ rfl]
        have e_158 : (N_142 164 1) = (M 164 1) := by rw [Fr.e hG_N_142 kd_164 _ rfl]
        rcases q_146c with q_146c | q_146c | q_146c
        · exfalso; omega
        · have h_159 : r_144 = 1 := by omega
          · rw [show vI r_144 = vI 1 by rw [h_159]]
            refine kx_look 196 F (by decide) dX12_see_68 (by decide) rfl (by decide) ?_
            refine kx_aload_n 197 F 0 dX12_see_196 rfl rfl rfl ?_
            refine kx_iload_n 198 F 2 dX12_see_197 rfl rfl rfl ?_
            refine kx_iload_n 199 F 1 dX12_see_198 rfl rfl rfl ?_
            refine kx_Vv 202 (ci := 0) F (As := [vI (M 164 4), vI a1]) (st := []) vd_X12_528 (e_comesBack2 G l N_142 (M 164 4) a1 hI_N_142 (by omega) (YY.fr hY hG_N_142 rfl) ) kd_163 rfl rfl rfl ⟨by decide, by decide⟩ rfl rfl (Nat.le_of_ble_eq_true rfl) dX12_see_199 rfl ?_
            intro N_160 q_161
            obtain ⟨hI_N_160, hG_N_160, q_161c, ⟨hy_N_160, hrw_N_160⟩⟩ := q_161
            have hF_N_160 : Fr f_e_see2m M N_160 := Fr.c hF_N_142 hG_N_160 rfl
            have e_162 : (N_142 164 4) = (M 164 4) := by rw [Fr.e hG_N_142 kd_164 _ rfl]
            refine kx_goto 255 F dX12_see_202 (by decide) ?_
            refine kx_aload_n 256 F 0 dX12_see_255 rfl rfl rfl ?_
            refine kx_getr 259 F fl_X12_7 kd_163 rfl rfl (j := 0) rfl dX12_see_256 (v := 164) (uq_164 (Inv.r hI_N_160 kd_163 rfl 0 rfl rfl)) rfl ?_
            refine kx_iconst 260 F dX12_see_259 rfl ?_
            refine kx_dup2 261 F dX12_see_260 rfl rfl rfl ?_
            refine kx_iald 262 F kd_164 rfl rfl (by omega) (by decide) dX12_see_261 (v := (N_160 164 5)) rfl rfl ?_
            have ha_163 : atlo 5 = (-2147483648) ∧ athi 5 = 2147483647 := at_c 5 0 (o := 5) (lo := (-2147483648)) (hi := 2147483647) (by omega) (by decide) (by decide) (by decide)
            have h_164 := Inv.g hI_N_160 kd_164 rfl 5 (a := (-2147483648)) (b := 2147483647) ha_163.1 ha_163.2
            refine kx_iconst 263 F dX12_see_262 rfl ?_
            refine kx_iadd 264 F (v := (N_160 164 5) + 1) dX12_see_263 rfl rfl ?_
            refine kx_wrapi (fun w_165 h_166 _ => ?_)
            refine kx_iast 265 F kd_164 rfl rfl (by omega) (by decide) dX12_see_264 rfl ?_
            intro N_167 hM_N_167
            have hI_N_167 : Inv true N_167 := Inv.u hI_N_160 hM_N_167 kd_164 (a := (-2147483648)) (b := 2147483647) ha_163.1 ha_163.2 rfl (by omega)
            have hF_N_167 : Fr f_e_see2m M N_167 := Fr.u hF_N_160 hM_N_167 kd_164 rfl
            refine kx_aload_n 266 F 0 dX12_see_265 rfl rfl rfl ?_
            refine kx_aload_n 267 F 0 dX12_see_266 rfl rfl rfl ?_
            have e_168 : (N_167 164 4) = (N_160 164 4) := by rw [hM_N_167, mu_i (by omega)]
            refine kx_Vi 270 (ci := 0) F (As := []) (st := [vR G 163]) vd_X12_522 (c_X12_isTakenNow G l N_167  hI_N_167 (by omega)) kd_163 rfl rfl rfl ⟨by decide, by decide⟩ rfl rfl (Nat.le_of_ble_eq_true rfl) dX12_see_267 rfl ?_
            intro r_169 N_170 q_171
            obtain ⟨rfl, q_171c⟩ := q_171
            refine kx_Vi 273 (ci := 0) F (As := [vI r_169]) (st := []) vd_X12_127 (c_X12_gives G l N_167 r_169 hI_N_167 (by omega)) kd_163 rfl rfl rfl ⟨by decide, by decide⟩ rfl rfl (Nat.le_of_ble_eq_true rfl) dX12_see_270 rfl ?_
            intro r_172 N_173 q_174
            obtain ⟨hI_N_173, hG_N_173, q_174c⟩ := q_174
            have hF_N_173 : Fr f_e_see2m M N_173 := Fr.c hF_N_167 hG_N_173 rfl
            refine kx_topi (e' := r_169) (by omega) ?_
            exact kx_iret F hQ ⟨hI_N_173, hF_N_173, (by omega), ⟨(YY.fr (YY.sta hy_N_160 hI_N_160 hM_N_167 (by omega)) hG_N_173 rfl), (zRW.fr (zRW.sta (zRW.trans (zRW.fr (zRW.rf M) hG_N_142 rfl) hrw_N_160) hM_N_167 (by omega)) hG_N_173 rfl)⟩⟩ dX12_see_273
        · have h_175 : r_144 = 2 := by omega
          · rw [show vI r_144 = vI 2 by rw [h_175]]
            refine kx_look 205 F (by decide) dX12_see_68 (by decide) rfl (by decide) ?_
            refine kx_aload_n 206 F 0 dX12_see_205 rfl rfl rfl ?_
            refine kx_getr 209 F fl_X12_7 kd_163 rfl rfl (j := 0) rfl dX12_see_206 (v := 164) (uq_164 (Inv.r hI_N_142 kd_163 rfl 0 rfl rfl)) rfl ?_
            refine kx_bipush 211 F dX12_see_209 (by decide) rfl ?_
            refine kx_aload_n 212 F 0 dX12_see_211 rfl rfl rfl ?_
            refine kx_getr 215 F fl_X12_7 kd_163 rfl rfl (j := 0) rfl dX12_see_212 (v := 164) (uq_164 (Inv.r hI_N_142 kd_163 rfl 0 rfl rfl)) rfl ?_
            refine kx_bipush 217 F dX12_see_215 (by decide) rfl ?_
            refine kx_iald 218 F kd_164 rfl rfl (by omega) (by decide) dX12_see_217 (v := (M 164 7)) (by rw [Fr.e hG_N_142 kd_164 _ rfl]) rfl ?_
            have ha_176 : atlo 7 = 0 ∧ athi 7 = 7 := at_c 7 0 (o := 7) (lo := 0) (hi := 7) (by omega) (by decide) (by decide) (by decide)
            have h_177 := Inv.g hI_M kd_164 rfl 7 (a := 0) (b := 7) ha_176.1 ha_176.2
            refine kx_aload_n 219 F 0 dX12_see_218 rfl rfl rfl ?_
            refine kx_iload_n 220 F 2 dX12_see_219 rfl rfl rfl ?_
            refine kx_iload_n 221 F 1 dX12_see_220 rfl rfl rfl ?_
            refine kx_bipush 223 F dX12_see_221 (by decide) rfl ?_
            refine kx_Vi 226 (ci := 0) F (As := [vI (M 164 4), vI a1, vI 8]) (st := [vI (M 164 7), vI 7, vR G 164]) vd_X12_323 (e_leads G l N_142 (M 164 4) a1 8 hI_N_142 (by omega)) kd_163 rfl rfl rfl ⟨by decide, by decide⟩ rfl rfl (Nat.le_of_ble_eq_true rfl) dX12_see_223 rfl ?_
            intro r_178 N_179 q_180
            obtain ⟨rfl, q_180c, hz_N_179⟩ := q_180
            refine kx_Si 229 F (As := [vI (M 164 7), vI r_178]) (st := [vI 7, vR G 164]) sd_X12_332 (c_X12_image G l N_142 (M 164 7) r_178 hI_N_142 (by omega)) ⟨by decide, by decide⟩ rfl rfl (Nat.le_of_ble_eq_true rfl) dX12_see_226 rfl ?_
            intro r_181 N_182 q_183
            obtain ⟨rfl, q_183c⟩ := q_183
            refine kx_iast 230 F kd_164 rfl rfl (by omega) (by decide) dX12_see_229 rfl ?_
            intro N_184 hM_N_184
            have hI_N_184 : Inv true N_184 := Inv.u hI_N_142 hM_N_184 kd_164 (a := 0) (b := 7) ha_176.1 ha_176.2 rfl (by omega)
            have hF_N_184 : Fr f_e_see2m M N_184 := Fr.u hF_N_142 hM_N_184 kd_164 rfl
            refine kx_aload_n 231 F 0 dX12_see_230 rfl rfl rfl ?_
            refine kx_getr 234 F fl_X12_7 kd_163 rfl rfl (j := 0) rfl dX12_see_231 (v := 164) (uq_164 (Inv.r hI_N_184 kd_163 rfl 0 rfl rfl)) rfl ?_
            refine kx_bipush 236 F dX12_see_234 (by decide) rfl ?_
            refine kx_aload_n 237 F 0 dX12_see_236 rfl rfl rfl ?_
            refine kx_getr 240 F fl_X12_7 kd_163 rfl rfl (j := 0) rfl dX12_see_237 (v := 164) (uq_164 (Inv.r hI_N_184 kd_163 rfl 0 rfl rfl)) rfl ?_
            refine kx_bipush 242 F dX12_see_240 (by decide) rfl ?_
            refine kx_iald 243 F kd_164 rfl rfl (by omega) (by decide) dX12_see_242 (v := (M 164 8)) (by rw [hM_N_184, mu_i (by omega), Fr.e hG_N_142 kd_164 _ rfl]) rfl ?_
            have ha_185 : atlo 8 = 0 ∧ athi 8 = 511 := at_c 8 0 (o := 8) (lo := 0) (hi := 511) (by omega) (by decide) (by decide) (by decide)
            have h_186 := Inv.g hI_M kd_164 rfl 8 (a := 0) (b := 511) ha_185.1 ha_185.2
            refine kx_aload_n 244 F 0 dX12_see_243 rfl rfl rfl ?_
            refine kx_iload_n 245 F 2 dX12_see_244 rfl rfl rfl ?_
            refine kx_iload_n 246 F 1 dX12_see_245 rfl rfl rfl ?_
            refine kx_bipush 248 F dX12_see_246 (by decide) rfl ?_
            refine kx_Vi 251 (ci := 0) F (As := [vI (M 164 4), vI a1, vI 8]) (st := [vI (M 164 8), vI 8, vR G 164]) vd_X12_323 (e_leads G l N_184 (M 164 4) a1 8 hI_N_184 (by omega)) kd_163 rfl rfl rfl ⟨by decide, by decide⟩ rfl rfl (Nat.le_of_ble_eq_true rfl) dX12_see_248 rfl ?_
            intro r_187 N_188 q_189
            obtain ⟨rfl, q_189c, hz_N_188⟩ := q_189
            refine kx_Si 254 F (As := [vI (M 164 8), vI r_187]) (st := [vI 8, vR G 164]) sd_X12_326 (e_then G l N_184 (M 164 8) r_187 hI_N_184 (by omega)) ⟨by decide, by decide⟩ rfl rfl (Nat.le_of_ble_eq_true rfl) dX12_see_251 rfl ?_
            intro r_190 N_191 q_192
            obtain ⟨rfl, q_192c, hz_N_191⟩ := q_192
            refine kx_iast 255 F kd_164 rfl rfl (by omega) (by decide) dX12_see_254 rfl ?_
            intro N_193 hM_N_193
            have hI_N_193 : Inv true N_193 := Inv.u hI_N_184 hM_N_193 kd_164 (a := 0) (b := 511) ha_185.1 ha_185.2 rfl (by omega)
            have hF_N_193 : Fr f_e_see2m M N_193 := Fr.u hF_N_184 hM_N_193 kd_164 rfl
            refine kx_aload_n 256 F 0 dX12_see_255 rfl rfl rfl ?_
            refine kx_getr 259 F fl_X12_7 kd_163 rfl rfl (j := 0) rfl dX12_see_256 (v := 164) (uq_164 (Inv.r hI_N_193 kd_163 rfl 0 rfl rfl)) rfl ?_
            refine kx_iconst 260 F dX12_see_259 rfl ?_
            refine kx_dup2 261 F dX12_see_260 rfl rfl rfl ?_
            refine kx_iald 262 F kd_164 rfl rfl (by omega) (by decide) dX12_see_261 (v := (M 164 5)) (by rw [hM_N_193, mu_i (by omega), hM_N_184, mu_i (by omega), Fr.e hG_N_142 kd_164 _ rfl]) rfl ?_
            have ha_194 : atlo 5 = (-2147483648) ∧ athi 5 = 2147483647 := at_c 5 0 (o := 5) (lo := (-2147483648)) (hi := 2147483647) (by omega) (by decide) (by decide) (by decide)
            have h_195 := Inv.g hI_M kd_164 rfl 5 (a := (-2147483648)) (b := 2147483647) ha_194.1 ha_194.2
            refine kx_iconst 263 F dX12_see_262 rfl ?_
            refine kx_iadd 264 F (v := (M 164 5) + 1) dX12_see_263 rfl rfl ?_
            refine kx_wrapi (fun w_196 h_197 _ => ?_)
            refine kx_iast 265 F kd_164 rfl rfl (by omega) (by decide) dX12_see_264 rfl ?_
            intro N_198 hM_N_198
            have hI_N_198 : Inv true N_198 := Inv.u hI_N_193 hM_N_198 kd_164 (a := (-2147483648)) (b := 2147483647) ha_194.1 ha_194.2 rfl (by omega)
            have hF_N_198 : Fr f_e_see2m M N_198 := Fr.u hF_N_193 hM_N_198 kd_164 rfl
            refine kx_aload_n 266 F 0 dX12_see_265 rfl rfl rfl ?_
            refine kx_aload_n 267 F 0 dX12_see_266 rfl rfl rfl ?_
            have e_199 : (N_198 164 4) = (M 164 4) := by rw [hM_N_198, mu_i (by omega), hM_N_193, mu_i (by omega), hM_N_184, mu_i (by omega), Fr.e hG_N_142 kd_164 _ rfl]
            refine kx_Vi 270 (ci := 0) F (As := []) (st := [vR G 163]) vd_X12_522 (c_X12_isTakenNow G l N_198  hI_N_198 (by omega)) kd_163 rfl rfl rfl ⟨by decide, by decide⟩ rfl rfl (Nat.le_of_ble_eq_true rfl) dX12_see_267 rfl ?_
            intro r_200 N_201 q_202
            obtain ⟨rfl, q_202c⟩ := q_202
            refine kx_Vi 273 (ci := 0) F (As := [vI r_200]) (st := []) vd_X12_127 (c_X12_gives G l N_198 r_200 hI_N_198 (by omega)) kd_163 rfl rfl rfl ⟨by decide, by decide⟩ rfl rfl (Nat.le_of_ble_eq_true rfl) dX12_see_270 rfl ?_
            intro r_203 N_204 q_205
            obtain ⟨hI_N_204, hG_N_204, q_205c⟩ := q_205
            have hF_N_204 : Fr f_e_see2m M N_204 := Fr.c hF_N_198 hG_N_204 rfl
            refine kx_topi (e' := r_200) (by omega) ?_
            exact kx_iret F hQ ⟨hI_N_204, hF_N_204, (by omega), ⟨(YY.fr (YY.sta (YY.sta (YY.sta (YY.fr hY hG_N_142 rfl) hI_N_142 hM_N_184 (by omega)) hI_N_184 hM_N_193 (by omega)) hI_N_193 hM_N_198 (by omega)) hG_N_204 rfl), (zRW.fr (zRW.sta (zRW.sta (zRW.sta (zRW.fr (zRW.rf M) hG_N_142 rfl) hM_N_184 (by omega)) hM_N_193 (by omega)) hM_N_198 (by omega)) hG_N_204 rfl)⟩⟩ dX12_see_273
    · refine kx_aload_n 27 F 0 dX12_see_26 rfl rfl rfl ?_
      refine kx_bipush 29 F dX12_see_27 (by decide) rfl ?_
      refine kx_Vi 32 (ci := 0) F (As := [vI 6]) (st := []) vd_X12_123 (c_X12_refuse G l M 6 hI_M (by omega)) kd_163 rfl rfl rfl ⟨by decide, by decide⟩ rfl rfl (Nat.le_of_ble_eq_true rfl) dX12_see_29 rfl ?_
      intro r_206 N_207 q_208
      obtain ⟨hI_N_207, hG_N_207, q_208c⟩ := q_208
      have hF_N_207 : Fr f_e_see2m M N_207 := Fr.c hF_M hG_N_207 rfl
      subst q_208c
      exact kx_iret F hQ ⟨hI_N_207, hF_N_207, (by omega), ⟨(YY.fr hY hG_N_207 rfl), (zRW.fr (zRW.rf M) hG_N_207 rfl)⟩⟩ dX12_see_32
  · refine kx_if_ne 15 F 21 dX12_see_12 (by decide) rfl (by omega) (fun h_209 => (by exfalso; omega)) (fun h_209 => ?_)
    refine kx_aload_n 16 F 0 dX12_see_15 rfl rfl rfl ?_
    refine kx_iconst 17 F dX12_see_16 rfl ?_
    refine kx_Vi 20 (ci := 0) F (As := [vI 1]) (st := []) vd_X12_123 (c_X12_refuse G l M 1 hI_M (by omega)) kd_163 rfl rfl rfl ⟨by decide, by decide⟩ rfl rfl (Nat.le_of_ble_eq_true rfl) dX12_see_17 rfl ?_
    intro r_210 N_211 q_212
    obtain ⟨hI_N_211, hG_N_211, q_212c⟩ := q_212
    have hF_N_211 : Fr f_e_see2m M N_211 := Fr.c hF_M hG_N_211 rfl
    subst q_212c
    exact kx_iret F hQ ⟨hI_N_211, hF_N_211, (by omega), ⟨(YY.fr hY hG_N_211 rfl), (zRW.fr (zRW.rf M) hG_N_211 rfl)⟩⟩ dX12_see_20
  · refine kx_if_ne 15 F 21 dX12_see_12 (by decide) rfl (by omega) (fun h_213 => (by exfalso; omega)) (fun h_213 => ?_)
    refine kx_aload_n 16 F 0 dX12_see_15 rfl rfl rfl ?_
    refine kx_iconst 17 F dX12_see_16 rfl ?_
    refine kx_Vi 20 (ci := 0) F (As := [vI 1]) (st := []) vd_X12_123 (c_X12_refuse G l M 1 hI_M (by omega)) kd_163 rfl rfl rfl ⟨by decide, by decide⟩ rfl rfl (Nat.le_of_ble_eq_true rfl) dX12_see_17 rfl ?_
    intro r_214 N_215 q_216
    obtain ⟨hI_N_215, hG_N_215, q_216c⟩ := q_216
    have hF_N_215 : Fr f_e_see2m M N_215 := Fr.c hF_M hG_N_215 rfl
    subst q_216c
    exact kx_iret F hQ ⟨hI_N_215, hF_N_215, (by omega), ⟨(YY.fr hY hG_N_215 rfl), (zRW.fr (zRW.rf M) hG_N_215 rfl)⟩⟩ dX12_see_20
