theorem dX12_isSign_0 : decode cX12_isSign 0 = .ok (.aload_n 0, 1) := by decide +kernel
theorem dX12_isSign_1 : decode cX12_isSign 1 = .ok (.getfield 168, 3) := by decide +kernel
theorem dX12_isSign_4 : decode cX12_isSign 4 = .ok (.iconst 4, 1) := by decide +kernel
theorem dX12_isSign_5 : decode cX12_isSign 5 = .ok (.if_icmp .ne 15, 3) := by decide +kernel
theorem dX12_isSign_8 : decode cX12_isSign 8 = .ok (.aload_n 0, 1) := by decide +kernel
theorem dX12_isSign_9 : decode cX12_isSign 9 = .ok (.getfield 165, 3) := by decide +kernel
theorem dX12_isSign_12 : decode cX12_isSign 12 = .ok (.iload_n 1, 1) := by decide +kernel
theorem dX12_isSign_13 : decode cX12_isSign 13 = .ok (.if_icmp .ne 7, 3) := by decide +kernel
theorem dX12_isSign_16 : decode cX12_isSign 16 = .ok (.iconst 1, 1) := by decide +kernel
theorem dX12_isSign_17 : decode cX12_isSign 17 = .ok (.goto 4, 3) := by decide +kernel
theorem dX12_isSign_20 : decode cX12_isSign 20 = .ok (.iconst 0, 1) := by decide +kernel
theorem dX12_isSign_21 : decode cX12_isSign 21 = .ok (.ireturn, 1) := by decide +kernel
set_option maxHeartbeats 4000000 in
set_option maxRecDepth 100000 in
theorem c_X12_isSign (G : KG) (l : Launch) (M : Mem) (c0 : Int) (a1 : Int) (hI_M : Inv true M) (hk_c0 : kd c0 = 64) (hpre : -2147483648 ≤ a1 ∧ a1 ≤ 2147483647) : KC true G l yX12_isSign cX12_isSign 2 (some .boolean) (0, 0) [vR G c0, vI a1] M (fun A => kQi true G A (fun (r : Int) (N : Mem) => M = N ∧ (0 ≤ r ∧ r ≤ 1))) := by
  refine kx_met (lo := [some (vR G c0), some (vI a1)]) (by decide) (Nat.le_of_ble_eq_true rfl) rfl ?_
  intro X F hQ
  refine kx_aload_n 1 F 0 dX12_isSign_0 rfl rfl rfl ?_
  refine kx_geti 4 F fl_X12_168 hk_c0 rfl rfl (j := 12) rfl dX12_isSign_1 (v := (M c0 12)) rfl rfl ?_
  have h_1 := Inv.g hI_M hk_c0 rfl 12 (a := 0) (b := 4) rfl rfl
  refine kx_iconst 5 F dX12_isSign_4 rfl ?_
  refine kx_icmp_ne 8 F 20 dX12_isSign_5 (by decide) rfl (by omega) (by decide) (fun h_2 => ?_) (fun h_2 => ?_)
  · refine kx_iconst 21 F dX12_isSign_20 rfl ?_
    exact kx_zret F hQ (by omega) ⟨rfl, (by omega)⟩ dX12_isSign_21
  · refine kx_aload_n 9 F 0 dX12_isSign_8 rfl rfl rfl ?_
    refine kx_geti 12 F fl_X12_165 hk_c0 rfl rfl (j := 15) rfl dX12_isSign_9 (v := (M c0 15)) rfl rfl ?_
    have h_3 := Inv.g hI_M hk_c0 rfl 15 (a := (-2147483648)) (b := 2147483647) rfl rfl
    refine kx_iload_n 13 F 1 dX12_isSign_12 rfl rfl rfl ?_
    refine kx_icmp_ne 16 F 20 dX12_isSign_13 (by decide) rfl (by omega) (by omega) (fun h_4 => ?_) (fun h_4 => ?_)
    · refine kx_iconst 21 F dX12_isSign_20 rfl ?_
      exact kx_zret F hQ (by omega) ⟨rfl, (by omega)⟩ dX12_isSign_21
    · refine kx_iconst 17 F dX12_isSign_16 rfl ?_
      refine kx_goto 21 F dX12_isSign_17 (by decide) ?_
      exact kx_zret F hQ (by omega) ⟨rfl, (by omega)⟩ dX12_isSign_21
