abbrev f_e_mark2m : List (Nat × Int) := [(64, 2), (64, 50), (65, -1), (66, -1)]
set_option maxHeartbeats 4000000 in
set_option maxRecDepth 100000 in
theorem e_mark2m (G : KG) (l : Launch) (M : Mem) (hI_M : Inv true M) (hY : YY M)  : KC true G l yX12_mark cX12_mark 1 (some .int) (1, 23) [vR G 163] M (fun A => kQi true G A (fun (r : Int) (N : Mem) => Inv true N ∧ Fr f_e_mark2m M N ∧ (((M 163 50) = 3 ∧ r = -1 ∧ (N 163 50) = 3) ∨ ((M 163 50) ≤ 2 ∧ (N 163 50) = (M 163 50) + 1 ∧ r = (M 163 50) + 1)) ∧ ((YY N) ∧ ((M 163 50 ≤ 2 → (∀ i, 0 ≤ i → i < 272 → N 164 (272 * (M 163 50 + 1) + i) = M 164 i) ∧ ∀ i, (i < 272 * (M 163 50 + 1) ∨ 272 * (M 163 50 + 1) + 272 ≤ i) → N 164 i = M 164 i) ∧ (3 ≤ M 163 50 → N 164 = M 164))))) := by
  refine kx_met (lo := [some (vR G 163)]) (by decide) (Nat.le_of_ble_eq_true rfl) rfl ?_
  intro X F hQ
  have hF_M : Fr f_e_mark2m M M := Fr.rf _ _
  refine kx_aload_n 1 F 0 dX12_mark_0 rfl rfl rfl ?_
  refine kx_geti 4 F fl_X12_535 kd_163 rfl rfl (j := 50) rfl dX12_mark_1 (v := (M 163 50)) rfl rfl ?_
  have h_1 := Inv.g hI_M kd_163 rfl 50 (a := 0) (b := 3) rfl rfl
  refine kx_iconst 5 F dX12_mark_4 rfl ?_
  refine kx_icmp_ne 8 F 14 dX12_mark_5 (by decide) rfl (by omega) (by decide) (fun h_2 => ?_) (fun h_2 => ?_)
  · refine kx_aload_n 15 F 0 dX12_mark_14 rfl rfl rfl ?_
    refine kx_dup 16 F dX12_mark_15 rfl rfl ?_
    refine kx_geti 19 F fl_X12_535 kd_163 rfl rfl (j := 50) rfl dX12_mark_16 (v := (M 163 50)) rfl rfl ?_
    refine kx_iconst 20 F dX12_mark_19 rfl ?_
    refine kx_iadd 21 F (v := (M 163 50) + 1) dX12_mark_20 rfl rfl ?_
    refine kx_puti 24 F fw_X12_535 rfl kd_163 rfl rfl (j := 50) rfl dX12_mark_21 rfl ?_
    intro N_3 hM_N_3
    have hI_N_3 : Inv true N_3 := Inv.u hI_M hM_N_3 kd_163 (a := 0) (b := 3) rfl rfl rfl (by omega)
    have hF_N_3 : Fr f_e_mark2m M N_3 := Fr.u hF_M hM_N_3 kd_163 rfl
    refine kx_aload_n 25 F 0 dX12_mark_24 rfl rfl rfl ?_
    refine kx_iconst 26 F dX12_mark_25 rfl ?_
    refine kx_aload_n 27 F 0 dX12_mark_26 rfl rfl rfl ?_
    refine kx_geti 30 F fl_X12_535 kd_163 rfl rfl (j := 50) rfl dX12_mark_27 (v := (M 163 50) + 1) (by rw [hM_N_3, mu_s]) rfl ?_
    refine kx_Vv 33 (ci := 0) F (As := [vI 0, vI ((M 163 50) + 1)]) (st := []) vd_X12_538 (c_X12_copies G l N_3 0 ((M 163 50) + 1) hI_N_3 (by omega)) kd_163 rfl rfl rfl ⟨by decide, by decide⟩ rfl rfl (Nat.le_of_ble_eq_true rfl) dX12_mark_30 rfl ?_
    intro N_4 q_5
    obtain ⟨hI_N_4, hG_N_4, hc_N_4⟩ := q_5
    have hF_N_4 : Fr f_e_mark2m M N_4 := Fr.c hF_N_3 hG_N_4 rfl
    refine kx_aload_n 34 F 0 dX12_mark_33 rfl rfl rfl ?_
    refine kx_aload_n 35 F 0 dX12_mark_34 rfl rfl rfl ?_
    refine kx_geti 38 F fl_X12_535 kd_163 rfl rfl (j := 50) rfl dX12_mark_35 (v := (M 163 50) + 1) (by rw [Fr.e hG_N_4 kd_163 _ rfl, hM_N_3, mu_s]) rfl ?_
    refine kx_Vi 41 (ci := 0) F (As := [vI ((M 163 50) + 1)]) (st := []) vd_X12_127 (c_X12_gives G l N_4 ((M 163 50) + 1) hI_N_4 (by omega)) kd_163 rfl rfl rfl ⟨by decide, by decide⟩ rfl rfl (Nat.le_of_ble_eq_true rfl) dX12_mark_38 rfl ?_
    intro r_6 N_7 q_8
    obtain ⟨hI_N_7, hG_N_7, q_8c⟩ := q_8
    have hF_N_7 : Fr f_e_mark2m M N_7 := Fr.c hF_N_4 hG_N_7 rfl
    refine kx_topi (e' := (M 163 50) + 1) (by omega) ?_
    have e_9 : (N_7 163 50) = (M 163 50) + 1 := by rw [Fr.e hG_N_7 kd_163 _ rfl, Fr.e hG_N_4 kd_163 _ rfl, hM_N_3, mu_s]
    exact kx_iret F hQ ⟨hI_N_7, hF_N_7, (by omega), ⟨(YY.fr (YY.slot0 (YY.st hY hM_N_3 kd_163 rfl) hI_N_3 (by omega) hc_N_4) hG_N_7 rfl), ⟨fun _ => ⟨fun i h0 h1 => by rw [Fr.e hG_N_7 kd_164 _ rfl]; have w := hc_N_4.1 i h0 h1; rw [show 272 * 0 + i = i by omega] at w; rw [hM_N_3, mu_k kd_164 kd_163 rfl] at w; exact w, fun i h1 => by rw [Fr.e hG_N_7 kd_164 _ rfl]; have w := hc_N_4.2 i (by omega); rw [hM_N_3, mu_k kd_164 kd_163 rfl] at w; exact w⟩, fun h => by exfalso; omega⟩⟩⟩ dX12_mark_41
  · refine kx_aload_n 9 F 0 dX12_mark_8 rfl rfl rfl ?_
    refine kx_iconst 10 F dX12_mark_9 rfl ?_
    refine kx_Vi 13 (ci := 0) F (As := [vI 4]) (st := []) vd_X12_123 (c_X12_refuse G l M 4 hI_M (by omega)) kd_163 rfl rfl rfl ⟨by decide, by decide⟩ rfl rfl (Nat.le_of_ble_eq_true rfl) dX12_mark_10 rfl ?_
    intro r_11 N_12 q_13
    obtain ⟨hI_N_12, hG_N_12, q_13c⟩ := q_13
    have hF_N_12 : Fr f_e_mark2m M N_12 := Fr.c hF_M hG_N_12 rfl
    subst q_13c
    have e_14 : (N_12 163 50) = (M 163 50) := by rw [Fr.e hG_N_12 kd_163 _ rfl]
    exact kx_iret F hQ ⟨hI_N_12, hF_N_12, (by omega), ⟨(YY.fr hY hG_N_12 rfl), ⟨fun h => by exfalso; omega, fun _ => (funext (fun i => by rw [Fr.e hG_N_12 kd_164 _ rfl]))⟩⟩⟩ dX12_mark_13
abbrev f_e_undo2m : List (Nat × Int) := [(64, 2), (64, 50), (65, -1), (66, -1)]
set_option maxHeartbeats 4000000 in
set_option maxRecDepth 100000 in
theorem e_undo2m (G : KG) (l : Launch) (M : Mem) (hI_M : Inv true M) (hY : YY M)  : KC true G l yX12_undo cX12_undo 1 (some .int) (1, 23) [vR G 163] M (fun A => kQi true G A (fun (r : Int) (N : Mem) => Inv true N ∧ Fr f_e_undo2m M N ∧ (((M 163 50) = 0 ∧ r = -1 ∧ (N 163 50) = 0) ∨ ((M 163 50) ≥ 1 ∧ (N 163 50) = (M 163 50) - 1 ∧ r = (M 163 50) - 1)) ∧ ((YY N) ∧ ((1 ≤ M 163 50 → (∀ i, 0 ≤ i → i < 272 → N 164 i = M 164 (272 * M 163 50 + i)) ∧ ∀ i, (i < 0 ∨ 272 ≤ i) → N 164 i = M 164 i) ∧ (M 163 50 ≤ 0 → N 164 = M 164))))) := by
  refine kx_met (lo := [some (vR G 163)]) (by decide) (Nat.le_of_ble_eq_true rfl) rfl ?_
  intro X F hQ
  have hF_M : Fr f_e_undo2m M M := Fr.rf _ _
  refine kx_aload_n 1 F 0 dX12_undo_0 rfl rfl rfl ?_
  refine kx_geti 4 F fl_X12_535 kd_163 rfl rfl (j := 50) rfl dX12_undo_1 (v := (M 163 50)) rfl rfl ?_
  have h_1 := Inv.g hI_M kd_163 rfl 50 (a := 0) (b := 3) rfl rfl
  refine kx_if_ne 7 F 14 dX12_undo_4 (by decide) rfl (by omega) (fun h_2 => ?_) (fun h_2 => ?_)
  · refine kx_aload_n 15 F 0 dX12_undo_14 rfl rfl rfl ?_
    refine kx_aload_n 16 F 0 dX12_undo_15 rfl rfl rfl ?_
    refine kx_geti 19 F fl_X12_535 kd_163 rfl rfl (j := 50) rfl dX12_undo_16 (v := (M 163 50)) rfl rfl ?_
    refine kx_iconst 20 F dX12_undo_19 rfl ?_
    refine kx_Vv 23 (ci := 0) F (As := [vI (M 163 50), vI 0]) (st := []) vd_X12_538 (c_X12_copies G l M (M 163 50) 0 hI_M (by omega)) kd_163 rfl rfl rfl ⟨by decide, by decide⟩ rfl rfl (Nat.le_of_ble_eq_true rfl) dX12_undo_20 rfl ?_
    intro N_3 q_4
    obtain ⟨hI_N_3, hG_N_3, hc_N_3⟩ := q_4
    have hF_N_3 : Fr f_e_undo2m M N_3 := Fr.c hF_M hG_N_3 rfl
    refine kx_aload_n 24 F 0 dX12_undo_23 rfl rfl rfl ?_
    refine kx_dup 25 F dX12_undo_24 rfl rfl ?_
    refine kx_geti 28 F fl_X12_535 kd_163 rfl rfl (j := 50) rfl dX12_undo_25 (v := (M 163 50)) (by rw [Fr.e hG_N_3 kd_163 _ rfl]) rfl ?_
    refine kx_iconst 29 F dX12_undo_28 rfl ?_
    refine kx_isub 30 F (v := (M 163 50) - 1) dX12_undo_29 rfl rfl ?_
    refine kx_puti 33 F fw_X12_535 rfl kd_163 rfl rfl (j := 50) rfl dX12_undo_30 rfl ?_
    intro N_5 hM_N_5
    have hI_N_5 : Inv true N_5 := Inv.u hI_N_3 hM_N_5 kd_163 (a := 0) (b := 3) rfl rfl rfl (by omega)
    have hF_N_5 : Fr f_e_undo2m M N_5 := Fr.u hF_N_3 hM_N_5 kd_163 rfl
    refine kx_aload_n 34 F 0 dX12_undo_33 rfl rfl rfl ?_
    refine kx_aload_n 35 F 0 dX12_undo_34 rfl rfl rfl ?_
    refine kx_geti 38 F fl_X12_535 kd_163 rfl rfl (j := 50) rfl dX12_undo_35 (v := (M 163 50) - 1) (by rw [hM_N_5, mu_s]) rfl ?_
    refine kx_Vi 41 (ci := 0) F (As := [vI ((M 163 50) - 1)]) (st := []) vd_X12_127 (c_X12_gives G l N_5 ((M 163 50) - 1) hI_N_5 (by omega)) kd_163 rfl rfl rfl ⟨by decide, by decide⟩ rfl rfl (Nat.le_of_ble_eq_true rfl) dX12_undo_38 rfl ?_
    intro r_6 N_7 q_8
    obtain ⟨hI_N_7, hG_N_7, q_8c⟩ := q_8
    have hF_N_7 : Fr f_e_undo2m M N_7 := Fr.c hF_N_5 hG_N_7 rfl
    refine kx_topi (e' := (M 163 50) - 1) (by omega) ?_
    have e_9 : (N_7 163 50) = (M 163 50) - 1 := by rw [Fr.e hG_N_7 kd_163 _ rfl, hM_N_5, mu_s]
    exact kx_iret F hQ ⟨hI_N_7, hF_N_7, (by omega), ⟨(YY.fr (YY.st (YY.slotB hY hI_M (by omega) hc_N_3) hM_N_5 kd_163 rfl) hG_N_7 rfl), ⟨fun _ => ⟨fun i h0 h1 => by rw [Fr.e hG_N_7 kd_164 _ rfl, hM_N_5, mu_k kd_164 kd_163 rfl]; have w := hc_N_3.1 i h0 h1; rw [show 272 * 0 + i = i by omega] at w; exact w, fun i h1 => by rw [Fr.e hG_N_7 kd_164 _ rfl, hM_N_5, mu_k kd_164 kd_163 rfl]; have w := hc_N_3.2 i (by omega); exact w⟩, fun h => by exfalso; omega⟩⟩⟩ dX12_undo_41
  · refine kx_aload_n 8 F 0 dX12_undo_7 rfl rfl rfl ?_
    refine kx_bipush 10 F dX12_undo_8 (by decide) rfl ?_
    refine kx_Vi 13 (ci := 0) F (As := [vI 6]) (st := []) vd_X12_123 (c_X12_refuse G l M 6 hI_M (by omega)) kd_163 rfl rfl rfl ⟨by decide, by decide⟩ rfl rfl (Nat.le_of_ble_eq_true rfl) dX12_undo_10 rfl ?_
    intro r_11 N_12 q_13
    obtain ⟨hI_N_12, hG_N_12, q_13c⟩ := q_13
    have hF_N_12 : Fr f_e_undo2m M N_12 := Fr.c hF_M hG_N_12 rfl
    subst q_13c
    have e_14 : (N_12 163 50) = (M 163 50) := by rw [Fr.e hG_N_12 kd_163 _ rfl]
    exact kx_iret F hQ ⟨hI_N_12, hF_N_12, (by omega), ⟨(YY.fr hY hG_N_12 rfl), ⟨fun h => by exfalso; omega, fun _ => (funext (fun i => by rw [Fr.e hG_N_12 kd_164 _ rfl]))⟩⟩⟩ dX12_undo_13
