theorem dX12_mark_0 : decode cX12_mark 0 = .ok (.aload_n 0, 1) := by decide +kernel
theorem dX12_mark_1 : decode cX12_mark 1 = .ok (.getfield 535, 3) := by decide +kernel
theorem dX12_mark_4 : decode cX12_mark 4 = .ok (.iconst 3, 1) := by decide +kernel
theorem dX12_mark_5 : decode cX12_mark 5 = .ok (.if_icmp .ne 9, 3) := by decide +kernel
theorem dX12_mark_8 : decode cX12_mark 8 = .ok (.aload_n 0, 1) := by decide +kernel
theorem dX12_mark_9 : decode cX12_mark 9 = .ok (.iconst 4, 1) := by decide +kernel
theorem dX12_mark_10 : decode cX12_mark 10 = .ok (.invokevirtual 123, 3) := by decide +kernel
theorem dX12_mark_13 : decode cX12_mark 13 = .ok (.ireturn, 1) := by decide +kernel
theorem dX12_mark_14 : decode cX12_mark 14 = .ok (.aload_n 0, 1) := by decide +kernel
theorem dX12_mark_15 : decode cX12_mark 15 = .ok (.dup, 1) := by decide +kernel
theorem dX12_mark_16 : decode cX12_mark 16 = .ok (.getfield 535, 3) := by decide +kernel
theorem dX12_mark_19 : decode cX12_mark 19 = .ok (.iconst 1, 1) := by decide +kernel
theorem dX12_mark_20 : decode cX12_mark 20 = .ok (.iadd, 1) := by decide +kernel
theorem dX12_mark_21 : decode cX12_mark 21 = .ok (.putfield 535, 3) := by decide +kernel
theorem dX12_mark_24 : decode cX12_mark 24 = .ok (.aload_n 0, 1) := by decide +kernel
theorem dX12_mark_25 : decode cX12_mark 25 = .ok (.iconst 0, 1) := by decide +kernel
theorem dX12_mark_26 : decode cX12_mark 26 = .ok (.aload_n 0, 1) := by decide +kernel
theorem dX12_mark_27 : decode cX12_mark 27 = .ok (.getfield 535, 3) := by decide +kernel
theorem dX12_mark_30 : decode cX12_mark 30 = .ok (.invokevirtual 538, 3) := by decide +kernel
theorem dX12_mark_33 : decode cX12_mark 33 = .ok (.aload_n 0, 1) := by decide +kernel
theorem dX12_mark_34 : decode cX12_mark 34 = .ok (.aload_n 0, 1) := by decide +kernel
theorem dX12_mark_35 : decode cX12_mark 35 = .ok (.getfield 535, 3) := by decide +kernel
theorem dX12_mark_38 : decode cX12_mark 38 = .ok (.invokevirtual 127, 3) := by decide +kernel
theorem dX12_mark_41 : decode cX12_mark 41 = .ok (.ireturn, 1) := by decide +kernel
abbrev f_c_X12_mark : List (Nat × Int) := [(64, 2), (64, 50), (65, -1), (66, -1)]
set_option maxHeartbeats 4000000 in
set_option maxRecDepth 100000 in
theorem c_X12_mark (G : KG) (l : Launch) (M : Mem) (c0 : Int) (hI_M : Inv true M) (hk_c0 : kd c0 = 64) : KC true G l yX12_mark cX12_mark 1 (some .int) (1, 23) [vR G c0] M (fun A => kQi true G A (fun (r : Int) (N : Mem) => Inv true N ∧ Fr f_c_X12_mark M N ∧ (r ≥ -1 ∧ r ≤ 3))) := by
  refine kx_met (lo := [some (vR G c0)]) (by decide) (Nat.le_of_ble_eq_true rfl) rfl ?_
  intro X F hQ
  have hF_M : Fr f_c_X12_mark M M := Fr.rf _ _
  refine kx_aload_n 1 F 0 dX12_mark_0 rfl rfl rfl ?_
  refine kx_geti 4 F fl_X12_535 hk_c0 rfl rfl (j := 50) rfl dX12_mark_1 (v := (M c0 50)) rfl rfl ?_
  have h_1 := Inv.g hI_M hk_c0 rfl 50 (a := 0) (b := 3) rfl rfl
  refine kx_iconst 5 F dX12_mark_4 rfl ?_
  refine kx_icmp_ne 8 F 14 dX12_mark_5 (by decide) rfl (by omega) (by decide) (fun h_2 => ?_) (fun h_2 => ?_)
  · refine kx_aload_n 15 F 0 dX12_mark_14 rfl rfl rfl ?_
    refine kx_dup 16 F dX12_mark_15 rfl rfl ?_
    refine kx_geti 19 F fl_X12_535 hk_c0 rfl rfl (j := 50) rfl dX12_mark_16 (v := (M c0 50)) rfl rfl ?_
    refine kx_iconst 20 F dX12_mark_19 rfl ?_
    refine kx_iadd 21 F (v := (M c0 50) + 1) dX12_mark_20 rfl rfl ?_
    refine kx_puti 24 F fw_X12_535 rfl hk_c0 rfl rfl (j := 50) rfl dX12_mark_21 rfl ?_
    intro N_3 hM_N_3
    have hI_N_3 : Inv true N_3 := Inv.u hI_M hM_N_3 hk_c0 (a := 0) (b := 3) rfl rfl rfl (by omega)
    have hF_N_3 : Fr f_c_X12_mark M N_3 := Fr.u hF_M hM_N_3 hk_c0 rfl
    refine kx_aload_n 25 F 0 dX12_mark_24 rfl rfl rfl ?_
    refine kx_iconst 26 F dX12_mark_25 rfl ?_
    refine kx_aload_n 27 F 0 dX12_mark_26 rfl rfl rfl ?_
    refine kx_geti 30 F fl_X12_535 hk_c0 rfl rfl (j := 50) rfl dX12_mark_27 (v := (M c0 50) + 1) (by rw [hM_N_3, mu_s]) rfl ?_
    refine kx_Vv 33 (ci := 0) F (As := [vI 0, vI ((M c0 50) + 1)]) (st := []) vd_X12_538 (c_copiesTo G l N_3 c0 0 ((M c0 50) + 1) hI_N_3 hk_c0 (by omega)) hk_c0 rfl rfl rfl ⟨by decide, by decide⟩ rfl rfl (Nat.le_of_ble_eq_true rfl) dX12_mark_30 rfl ?_
    intro N_4 q_5
    obtain ⟨hI_N_4, hG_N_4⟩ := q_5
    have hF_N_4 : Fr f_c_X12_mark M N_4 := Fr.c hF_N_3 hG_N_4 rfl
    refine kx_aload_n 34 F 0 dX12_mark_33 rfl rfl rfl ?_
    refine kx_aload_n 35 F 0 dX12_mark_34 rfl rfl rfl ?_
    refine kx_geti 38 F fl_X12_535 hk_c0 rfl rfl (j := 50) rfl dX12_mark_35 (v := (M c0 50) + 1) (by rw [Fr.e hG_N_4 hk_c0 _ rfl, hM_N_3, mu_s]) rfl ?_
    refine kx_Vi 41 (ci := 0) F (As := [vI ((M c0 50) + 1)]) (st := []) vd_X12_127 (c_X12_gives G l N_4 c0 ((M c0 50) + 1) hI_N_4 hk_c0 (by omega)) hk_c0 rfl rfl rfl ⟨by decide, by decide⟩ rfl rfl (Nat.le_of_ble_eq_true rfl) dX12_mark_38 rfl ?_
    intro r_6 N_7 q_8
    obtain ⟨hI_N_7, hG_N_7, q_8c⟩ := q_8
    have hF_N_7 : Fr f_c_X12_mark M N_7 := Fr.c hF_N_4 hG_N_7 rfl
    refine kx_topi (e' := (M c0 50) + 1) (by omega) ?_
    exact kx_iret F hQ ⟨hI_N_7, hF_N_7, (by omega)⟩ dX12_mark_41
  · refine kx_aload_n 9 F 0 dX12_mark_8 rfl rfl rfl ?_
    refine kx_iconst 10 F dX12_mark_9 rfl ?_
    refine kx_Vi 13 (ci := 0) F (As := [vI 4]) (st := []) vd_X12_123 (c_X12_refuse G l M c0 4 hI_M hk_c0 (by omega)) hk_c0 rfl rfl rfl ⟨by decide, by decide⟩ rfl rfl (Nat.le_of_ble_eq_true rfl) dX12_mark_10 rfl ?_
    intro r_9 N_10 q_11
    obtain ⟨hI_N_10, hG_N_10, q_11c⟩ := q_11
    have hF_N_10 : Fr f_c_X12_mark M N_10 := Fr.c hF_M hG_N_10 rfl
    subst q_11c
    exact kx_iret F hQ ⟨hI_N_10, hF_N_10, (by omega)⟩ dX12_mark_13
