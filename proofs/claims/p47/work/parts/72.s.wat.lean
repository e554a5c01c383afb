set_option maxHeartbeats 4000000 in
set_option maxRecDepth 100000 in
theorem e_isTakenNow3 (G : KG) (l : Launch) (M : Mem) (hI_M : Inv true M) (hpre : (M 164 4) ≥ 0) : KC true G l yX12_isTakenNow cX12_isTakenNow 1 (some .int) (2, 43) [vR G 163] M (fun A => kQi true G A (fun (r : Int) (N : Mem) => M = N ∧ ((r = 1 ∧ (zand (M 164 7) (M 164 (85 * M 164 4 + 103))) ≠ 0) ∨ (r = 0 ∧ (zand (M 164 7) (M 164 (85 * M 164 4 + 103))) = 0)))) := by
  refine kx_met (lo := [some (vR G 163)]) (by decide) (Nat.le_of_ble_eq_true rfl) rfl ?_
  intro X F hQ
  refine kx_aload_n 1 F 0 dX12_isTakenNow_0 rfl rfl rfl ?_
  refine kx_getr 4 F fl_X12_7 kd_163 rfl rfl (j := 0) rfl dX12_isTakenNow_1 (v := 164) (uq_164 (Inv.r hI_M kd_163 rfl 0 rfl rfl)) rfl ?_
  refine kx_bipush 6 F dX12_isTakenNow_4 (by decide) rfl ?_
  refine kx_iald 7 F kd_164 rfl rfl (by omega) (by decide) dX12_isTakenNow_6 (v := (M 164 7)) rfl rfl ?_
  have ha_1 : atlo 7 = 0 ∧ athi 7 = 7 := at_c 7 0 (o := 7) (lo := 0) (hi := 7) (by omega) (by decide) (by decide) (by decide)
  have h_2 := Inv.g hI_M kd_164 rfl 7 (a := 0) (b := 7) ha_1.1 ha_1.2
  refine kx_aload_n 8 F 0 dX12_isTakenNow_7 rfl rfl rfl ?_
  refine kx_aload_n 9 F 0 dX12_isTakenNow_8 rfl rfl rfl ?_
  refine kx_getr 12 F fl_X12_7 kd_163 rfl rfl (j := 0) rfl dX12_isTakenNow_9 (v := 164) (uq_164 (Inv.r hI_M kd_163 rfl 0 rfl rfl)) rfl ?_
  refine kx_iconst 13 F dX12_isTakenNow_12 rfl ?_
  refine kx_iald 14 F kd_164 rfl rfl (by omega) (by decide) dX12_isTakenNow_13 (v := (M 164 4)) rfl rfl ?_
  have ha_3 : atlo 4 = (-1) ∧ athi 4 = 1 := at_c 4 0 (o := 4) (lo := (-1)) (hi := 1) (by omega) (by decide) (by decide) (by decide)
  have h_4 := Inv.g hI_M kd_164 rfl 4 (a := (-1)) (b := 1) ha_3.1 ha_3.2
  refine kx_iconst 15 F dX12_isTakenNow_14 rfl ?_
  refine kx_Vi 18 (ci := 0) F (As := [vI (M 164 4), vI 3]) (st := [vI (M 164 7)]) vd_X12_288 (e_of3 G l M (M 164 4) 3 hI_M (by omega)) kd_163 rfl rfl rfl ⟨by decide, by decide⟩ rfl rfl (Nat.le_of_ble_eq_true rfl) dX12_isTakenNow_15 rfl ?_
  intro r_5 N_6 q_7
  obtain ⟨rfl, q_7c⟩ := q_7
  refine kx_topi (e' := (M 164 (85 * (M 164 4) + 103))) (by omega) ?_
  refine kx_iand 19 F (v := (zand (M 164 7) (M 164 (85 * (M 164 4) + 103)))) dX12_isTakenNow_18 rfl rfl ?_
  have h_8 := zand_r (a := (M 164 7)) (b := (M 164 (85 * (M 164 4) + 103))) (by omega)
  refine kx_if_eq 22 F 26 dX12_isTakenNow_19 (by decide) rfl (by omega) (fun h_9 => ?_) (fun h_9 => ?_)
  · refine kx_iconst 27 F dX12_isTakenNow_26 rfl ?_
    exact kx_iret F hQ ⟨rfl, (by omega)⟩ dX12_isTakenNow_27
  · refine kx_iconst 23 F dX12_isTakenNow_22 rfl ?_
    refine kx_goto 27 F dX12_isTakenNow_23 (by decide) ?_
    exact kx_iret F hQ ⟨rfl, (by omega)⟩ dX12_isTakenNow_27
