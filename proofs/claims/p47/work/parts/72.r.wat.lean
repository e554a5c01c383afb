set_option maxHeartbeats 4000000 in
set_option maxRecDepth 100000 in
theorem e_isTaken3 (G : KG) (l : Launch) (M : Mem) (c0 : Int) (c1 : Int) (hI_M : Inv false M) (hk_c0 : kd c0 = 8) (hk_c1 : kd c1 = 1) : KC false G l yX10_isTaken cX10_isTaken 2 (some .boolean) (0, 0) [vR G c0, vR G c1] M (fun A => kQi false G A (fun (r : Int) (N : Mem) => M = N ∧ ((r = 1 ∧ (zand (M c0 3) (M c1 3)) ≠ 0) ∨ (r = 0 ∧ (zand (M c0 3) (M c1 3)) = 0)))) := by
  refine kx_met (lo := [some (vR G c0), some (vR G c1)]) (by decide) (Nat.le_of_ble_eq_true rfl) rfl ?_
  intro X F hQ
  refine kx_aload_n 1 F 0 dX10_isTaken_0 rfl rfl rfl ?_
  refine kx_geti 4 F fl_X10_36 hk_c0 rfl rfl (j := 3) rfl dX10_isTaken_1 (v := (M c0 3)) rfl rfl ?_
  have h_1 := Inv.g hI_M hk_c0 rfl 3 (a := 0) (b := 7) rfl rfl
  refine kx_aload_n 5 F 1 dX10_isTaken_4 rfl rfl rfl ?_
  refine kx_geti 8 F fl_X10_63 hk_c1 rfl rfl (j := 3) rfl dX10_isTaken_5 (v := (M c1 3)) rfl rfl ?_
  have h_2 := Inv.g hI_M hk_c1 rfl 3 (a := 0) (b := 7) rfl rfl
  refine kx_iand 9 F (v := (zand (M c0 3) (M c1 3))) dX10_isTaken_8 rfl rfl ?_
  have h_3 := zand_r (a := (M c0 3)) (b := (M c1 3)) (by omega)
  refine kx_if_eq 12 F 16 dX10_isTaken_9 (by decide) rfl (by omega) (fun h_4 => ?_) (fun h_4 => ?_)
  · refine kx_iconst 17 F dX10_isTaken_16 rfl ?_
    exact kx_zret F hQ (by omega) ⟨rfl, (by omega)⟩ dX10_isTaken_17
  · refine kx_iconst 13 F dX10_isTaken_12 rfl ?_
    refine kx_goto 17 F dX10_isTaken_13 (by decide) ?_
    exact kx_zret F hQ (by omega) ⟨rfl, (by omega)⟩ dX10_isTaken_17
