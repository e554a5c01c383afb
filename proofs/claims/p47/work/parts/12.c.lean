set_option maxRecDepth 100000 in
theorem dGR_12_c_174 : (decode cX8_addInnerBlocks 0 = .ok (.aload_n 0, 1)) ∧ (decode cX8_addInnerBlocks 1 = .ok (.getfield 46, 3)) ∧ (decode cX8_addInnerBlocks 4 = .ok (.istore_n 2, 1)) ∧ (decode cX8_addInnerBlocks 5 = .ok (.iload_n 2, 1)) ∧ (decode cX8_addInnerBlocks 6 = .ok (.aload_n 0, 1)) ∧ (decode cX8_addInnerBlocks 7 = .ok (.getfield 50, 3)) ∧ (decode cX8_addInnerBlocks 10 = .ok (.if_icmp .ge 20, 3)) ∧ (decode cX8_addInnerBlocks 13 = .ok (.aload_n 0, 1)) ∧ (decode cX8_addInnerBlocks 14 = .ok (.aload_n 1, 1)) ∧ (decode cX8_addInnerBlocks 15 = .ok (.getfield 117, 3)) ∧ (decode cX8_addInnerBlocks 18 = .ok (.iload_n 2, 1)) ∧ (decode cX8_addInnerBlocks 19 = .ok (.iaload, 1)) := by decide +kernel
theorem dX8_addInnerBlocks_0 : decode cX8_addInnerBlocks 0 = .ok (.aload_n 0, 1) := dGR_12_c_174.1
theorem dX8_addInnerBlocks_1 : decode cX8_addInnerBlocks 1 = .ok (.getfield 46, 3) := dGR_12_c_174.2.1
theorem dX8_addInnerBlocks_4 : decode cX8_addInnerBlocks 4 = .ok (.istore_n 2, 1) := dGR_12_c_174.2.2.1
theorem dX8_addInnerBlocks_5 : decode cX8_addInnerBlocks 5 = .ok (.iload_n 2, 1) := dGR_12_c_174.2.2.2.1
theorem dX8_addInnerBlocks_6 : decode cX8_addInnerBlocks 6 = .ok (.aload_n 0, 1) := dGR_12_c_174.2.2.2.2.1
theorem dX8_addInnerBlocks_7 : decode cX8_addInnerBlocks 7 = .ok (.getfield 50, 3) := dGR_12_c_174.2.2.2.2.2.1
theorem dX8_addInnerBlocks_10 : decode cX8_addInnerBlocks 10 = .ok (.if_icmp .ge 20, 3) := dGR_12_c_174.2.2.2.2.2.2.1
theorem dX8_addInnerBlocks_13 : decode cX8_addInnerBlocks 13 = .ok (.aload_n 0, 1) := dGR_12_c_174.2.2.2.2.2.2.2.1
theorem dX8_addInnerBlocks_14 : decode cX8_addInnerBlocks 14 = .ok (.aload_n 1, 1) := dGR_12_c_174.2.2.2.2.2.2.2.2.1
theorem dX8_addInnerBlocks_15 : decode cX8_addInnerBlocks 15 = .ok (.getfield 117, 3) := dGR_12_c_174.2.2.2.2.2.2.2.2.2.1
theorem dX8_addInnerBlocks_18 : decode cX8_addInnerBlocks 18 = .ok (.iload_n 2, 1) := dGR_12_c_174.2.2.2.2.2.2.2.2.2.2.1
theorem dX8_addInnerBlocks_19 : decode cX8_addInnerBlocks 19 = .ok (.iaload, 1) := dGR_12_c_174.2.2.2.2.2.2.2.2.2.2.2
set_option maxRecDepth 100000 in
theorem dGR_12_c_175 : (decode cX8_addInnerBlocks 20 = .ok (.iload_n 2, 1)) ∧ (decode cX8_addInnerBlocks 21 = .ok (.invokevirtual 120, 3)) ∧ (decode cX8_addInnerBlocks 24 = .ok (.iinc 2 1, 3)) ∧ (decode cX8_addInnerBlocks 27 = .ok (.goto (-22), 3)) ∧ (decode cX8_addInnerBlocks 30 = .ok (.return_, 1)) := by decide +kernel
theorem dX8_addInnerBlocks_20 : decode cX8_addInnerBlocks 20 = .ok (.iload_n 2, 1) := dGR_12_c_175.1
theorem dX8_addInnerBlocks_21 : decode cX8_addInnerBlocks 21 = .ok (.invokevirtual 120, 3) := dGR_12_c_175.2.1
theorem dX8_addInnerBlocks_24 : decode cX8_addInnerBlocks 24 = .ok (.iinc 2 1, 3) := dGR_12_c_175.2.2.1
theorem dX8_addInnerBlocks_27 : decode cX8_addInnerBlocks 27 = .ok (.goto (-22), 3) := dGR_12_c_175.2.2.2.1
theorem dX8_addInnerBlocks_30 : decode cX8_addInnerBlocks 30 = .ok (.return_, 1) := dGR_12_c_175.2.2.2.2
abbrev f_c_X8_addInnerBlocks : List (Nat × Int) := [(47, 7), (51, -1), (52, -1)]
set_option maxHeartbeats 4000000 in
set_option maxRecDepth 100000 in
theorem c_X8_addInnerBlocks (G : KG) (l : Launch) (M : Mem) (c0 : Int) (c1 : Int) (hI_M : Inv false M) (hk_c0 : kd c0 = 47) (hk_c1 : kd c1 = 1) : KC false G l yX8_addInnerBlocks cX8_addInnerBlocks 3 none (1, 22) [vR G c0, vR G c1] M (fun A => kQv false G A (fun (N : Mem) => Inv false N ∧ Fr f_c_X8_addInnerBlocks M N)) := by
  refine kx_met (lo := [some (vR G c0), some (vR G c1), none]) (by decide) (Nat.le_of_ble_eq_true rfl) rfl ?_
  intro X F hQ
  have hF_M : Fr f_c_X8_addInnerBlocks M M := Fr.rf _ _
  refine kx_aload_n 1 F 0 dX8_addInnerBlocks_0 rfl rfl rfl ?_
  refine kx_geti 4 F fl_X8_46 hk_c0 rfl rfl (j := 1) rfl dX8_addInnerBlocks_1 (v := (M c0 1)) rfl rfl ?_
  have h_1 := Inv.g hI_M hk_c0 rfl 1 (a := 0) (b := 4) rfl rfl
  refine kx_istore_n 5 F 2 (lo' := [some (vR G c0), some (vR G c1), some (vI (M c0 1))]) dX8_addInnerBlocks_4 rfl (by decide) rfl rfl rfl ?_
  have L_28 : ∀ (n_29 : Nat) (x2_26 : Int) (N_27 : Mem), Inv false N_27 → Fr f_c_X8_addInnerBlocks M N_27 → 0 ≤ x2_26 ∧ x2_26 ≤ 6 ∧ (M c0 1) ≤ x2_26 → (6 - (x2_26)).toNat = n_29 → KJ false G X N_27 5 [some (vR G c0), some (vR G c1), some (vI x2_26)] [] := by
    intro n_29
    refine Nat.strongRecOn n_29 ?_
    intro n_29 ih_30 x2_26 N_27 hI_N_27 hF_N_27 h_31 hm_32
    refine kx_iload_n 6 F 2 dX8_addInnerBlocks_5 rfl rfl rfl ?_
    refine kx_aload_n 7 F 0 dX8_addInnerBlocks_6 rfl rfl rfl ?_
    refine kx_geti 10 F fl_X8_50 hk_c0 rfl rfl (j := 2) rfl dX8_addInnerBlocks_7 (v := (M c0 2)) (by rw [Fr.e hF_N_27 hk_c0 _ rfl]) rfl ?_
    have h_33 := Inv.g hI_M hk_c0 rfl 2 (a := 0) (b := 6) rfl rfl
    refine kx_icmp_ge 13 F 30 dX8_addInnerBlocks_10 (by decide) rfl (by omega) (by omega) (fun h_34 => ?_) (fun h_34 => ?_)
    · exact kx_vret F hQ ⟨hI_N_27, hF_N_27⟩ dX8_addInnerBlocks_30
    · refine kx_aload_n 14 F 0 dX8_addInnerBlocks_13 rfl rfl rfl ?_
      refine kx_aload_n 15 F 1 dX8_addInnerBlocks_14 rfl rfl rfl ?_
      refine kx_getr 18 F fl_X8_117 hk_c1 rfl rfl (j := 10) rfl dX8_addInnerBlocks_15 (v := (M c1 10)) (by rw [Fr.e hF_N_27 hk_c1 _ rfl]) rfl ?_
      have hk_35 : kd (M c1 10) = 6 := Inv.r hI_M hk_c1 rfl 10 rfl rfl
      refine kx_iload_n 19 F 2 dX8_addInnerBlocks_18 rfl rfl rfl ?_
      refine kx_iald 20 F hk_35 rfl rfl (by omega) (by decide) dX8_addInnerBlocks_19 (v := (M (M c1 10) x2_26)) (by rw [Fr.e hF_N_27 hk_35 _ rfl]) rfl ?_
      have h_36 := Inv.g hI_M hk_35 rfl x2_26 (a := 0) (b := 511) rfl rfl
      refine kx_iload_n 21 F 2 dX8_addInnerBlocks_20 rfl rfl rfl ?_
      refine kx_Vv 24 (ci := 0) F (As := [vI (M (M c1 10) x2_26), vI x2_26]) (st := []) vd_X8_120 (c_X8_addBlock G l N_27 c0 (M (M c1 10) x2_26) x2_26 hI_N_27 hk_c0 (by omega)) hk_c0 rfl rfl rfl ⟨by decide, by decide⟩ rfl rfl (Nat.le_of_ble_eq_true rfl) dX8_addInnerBlocks_21 rfl ?_
      intro N_37 q_38
      obtain ⟨hI_N_37, hG_N_37⟩ := q_38
      have hF_N_37 : Fr f_c_X8_addInnerBlocks M N_37 := Fr.c hF_N_27 hG_N_37 rfl
      refine kx_iinc 27 F 2 (v := x2_26 + 1) (lo' := [some (vR G c0), some (vR G c1), some (vI (x2_26 + 1))]) dX8_addInnerBlocks_24 rfl (by omega) (by decide) rfl rfl rfl ?_
      refine kx_goto 5 F dX8_addInnerBlocks_27 (by decide) ?_
      exact ih_30 _ (by omega) (x2_26 + 1) N_37 hI_N_37 hF_N_37 (by omega) rfl
  exact L_28 _ (M c0 1) M hI_M hF_M (by omega) rfl
set_option maxRecDepth 100000 in
theorem dGR_12_c_176 : (decode cX8_addWrapped 0 = .ok (.iload_n 2, 1)) ∧ (decode cX8_addWrapped 1 = .ok (.iconst 2, 1)) ∧ (decode cX8_addWrapped 2 = .ok (.isub, 1)) ∧ (decode cX8_addWrapped 3 = .ok (.istore_n 3, 1)) ∧ (decode cX8_addWrapped 4 = .ok (.iload_n 3, 1)) ∧ (decode cX8_addWrapped 5 = .ok (.ifCond .ne 7, 3)) ∧ (decode cX8_addWrapped 8 = .ok (.iconst 0, 1)) ∧ (decode cX8_addWrapped 9 = .ok (.goto 11, 3)) ∧ (decode cX8_addWrapped 12 = .ok (.aload_n 0, 1)) ∧ (decode cX8_addWrapped 13 = .ok (.getfield 18, 3)) ∧ (decode cX8_addWrapped 16 = .ok (.iload_n 3, 1)) ∧ (decode cX8_addWrapped 17 = .ok (.iconst 1, 1)) := by decide +kernel
theorem dX8_addWrapped_0 : decode cX8_addWrapped 0 = .ok (.iload_n 2, 1) := dGR_12_c_176.1
theorem dX8_addWrapped_1 : decode cX8_addWrapped 1 = .ok (.iconst 2, 1) := dGR_12_c_176.2.1
theorem dX8_addWrapped_2 : decode cX8_addWrapped 2 = .ok (.isub, 1) := dGR_12_c_176.2.2.1
theorem dX8_addWrapped_3 : decode cX8_addWrapped 3 = .ok (.istore_n 3, 1) := dGR_12_c_176.2.2.2.1
theorem dX8_addWrapped_4 : decode cX8_addWrapped 4 = .ok (.iload_n 3, 1) := dGR_12_c_176.2.2.2.2.1
theorem dX8_addWrapped_5 : decode cX8_addWrapped 5 = .ok (.ifCond .ne 7, 3) := dGR_12_c_176.2.2.2.2.2.1
theorem dX8_addWrapped_8 : decode cX8_addWrapped 8 = .ok (.iconst 0, 1) := dGR_12_c_176.2.2.2.2.2.2.1
theorem dX8_addWrapped_9 : decode cX8_addWrapped 9 = .ok (.goto 11, 3) := dGR_12_c_176.2.2.2.2.2.2.2.1
theorem dX8_addWrapped_12 : decode cX8_addWrapped 12 = .ok (.aload_n 0, 1) := dGR_12_c_176.2.2.2.2.2.2.2.2.1
theorem dX8_addWrapped_13 : decode cX8_addWrapped 13 = .ok (.getfield 18, 3) := dGR_12_c_176.2.2.2.2.2.2.2.2.2.1
theorem dX8_addWrapped_16 : decode cX8_addWrapped 16 = .ok (.iload_n 3, 1) := dGR_12_c_176.2.2.2.2.2.2.2.2.2.2.1
theorem dX8_addWrapped_17 : decode cX8_addWrapped 17 = .ok (.iconst 1, 1) := dGR_12_c_176.2.2.2.2.2.2.2.2.2.2.2
set_option maxRecDepth 100000 in
theorem dGR_12_c_177 : (decode cX8_addWrapped 18 = .ok (.isub, 1)) ∧ (decode cX8_addWrapped 19 = .ok (.iaload, 1)) ∧ (decode cX8_addWrapped 20 = .ok (.istore 4, 2)) ∧ (decode cX8_addWrapped 22 = .ok (.iload 4, 2)) ∧ (decode cX8_addWrapped 24 = .ok (.aload_n 0, 1)) ∧ (decode cX8_addWrapped 25 = .ok (.getfield 18, 3)) ∧ (decode cX8_addWrapped 28 = .ok (.iload_n 3, 1)) ∧ (decode cX8_addWrapped 29 = .ok (.iaload, 1)) ∧ (decode cX8_addWrapped 30 = .ok (.if_icmp .ge 92, 3)) ∧ (decode cX8_addWrapped 33 = .ok (.iconst 0, 1)) ∧ (decode cX8_addWrapped 34 = .ok (.istore 5, 2)) ∧ (decode cX8_addWrapped 36 = .ok (.iload 5, 2)) := by decide +kernel
theorem dX8_addWrapped_18 : decode cX8_addWrapped 18 = .ok (.isub, 1) := dGR_12_c_177.1
theorem dX8_addWrapped_19 : decode cX8_addWrapped 19 = .ok (.iaload, 1) := dGR_12_c_177.2.1
theorem dX8_addWrapped_20 : decode cX8_addWrapped 20 = .ok (.istore 4, 2) := dGR_12_c_177.2.2.1
theorem dX8_addWrapped_22 : decode cX8_addWrapped 22 = .ok (.iload 4, 2) := dGR_12_c_177.2.2.2.1
theorem dX8_addWrapped_24 : decode cX8_addWrapped 24 = .ok (.aload_n 0, 1) := dGR_12_c_177.2.2.2.2.1
theorem dX8_addWrapped_25 : decode cX8_addWrapped 25 = .ok (.getfield 18, 3) := dGR_12_c_177.2.2.2.2.2.1
theorem dX8_addWrapped_28 : decode cX8_addWrapped 28 = .ok (.iload_n 3, 1) := dGR_12_c_177.2.2.2.2.2.2.1
theorem dX8_addWrapped_29 : decode cX8_addWrapped 29 = .ok (.iaload, 1) := dGR_12_c_177.2.2.2.2.2.2.2.1
theorem dX8_addWrapped_30 : decode cX8_addWrapped 30 = .ok (.if_icmp .ge 92, 3) := dGR_12_c_177.2.2.2.2.2.2.2.2.1
theorem dX8_addWrapped_33 : decode cX8_addWrapped 33 = .ok (.iconst 0, 1) := dGR_12_c_177.2.2.2.2.2.2.2.2.2.1
theorem dX8_addWrapped_34 : decode cX8_addWrapped 34 = .ok (.istore 5, 2) := dGR_12_c_177.2.2.2.2.2.2.2.2.2.2.1
theorem dX8_addWrapped_36 : decode cX8_addWrapped 36 = .ok (.iload 5, 2) := dGR_12_c_177.2.2.2.2.2.2.2.2.2.2.2
set_option maxRecDepth 100000 in
theorem dGR_12_c_178 : (decode cX8_addWrapped 38 = .ok (.aload_n 0, 1)) ∧ (decode cX8_addWrapped 39 = .ok (.getfield 42, 3)) ∧ (decode cX8_addWrapped 42 = .ok (.if_icmp .ge 74, 3)) ∧ (decode cX8_addWrapped 45 = .ok (.aload_n 0, 1)) ∧ (decode cX8_addWrapped 46 = .ok (.iload 5, 2)) ∧ (decode cX8_addWrapped 48 = .ok (.iload_n 3, 1)) ∧ (decode cX8_addWrapped 49 = .ok (.aload_n 0, 1)) ∧ (decode cX8_addWrapped 50 = .ok (.getfield 15, 3)) ∧ (decode cX8_addWrapped 53 = .ok (.iload 4, 2)) ∧ (decode cX8_addWrapped 55 = .ok (.iaload, 1)) ∧ (decode cX8_addWrapped 56 = .ok (.invokevirtual 123, 3)) ∧ (decode cX8_addWrapped 59 = .ok (.istore 6, 2)) := by decide +kernel
theorem dX8_addWrapped_38 : decode cX8_addWrapped 38 = .ok (.aload_n 0, 1) := dGR_12_c_178.1
theorem dX8_addWrapped_39 : decode cX8_addWrapped 39 = .ok (.getfield 42, 3) := dGR_12_c_178.2.1
theorem dX8_addWrapped_42 : decode cX8_addWrapped 42 = .ok (.if_icmp .ge 74, 3) := dGR_12_c_178.2.2.1
theorem dX8_addWrapped_45 : decode cX8_addWrapped 45 = .ok (.aload_n 0, 1) := dGR_12_c_178.2.2.2.1
theorem dX8_addWrapped_46 : decode cX8_addWrapped 46 = .ok (.iload 5, 2) := dGR_12_c_178.2.2.2.2.1
theorem dX8_addWrapped_48 : decode cX8_addWrapped 48 = .ok (.iload_n 3, 1) := dGR_12_c_178.2.2.2.2.2.1
theorem dX8_addWrapped_49 : decode cX8_addWrapped 49 = .ok (.aload_n 0, 1) := dGR_12_c_178.2.2.2.2.2.2.1
theorem dX8_addWrapped_50 : decode cX8_addWrapped 50 = .ok (.getfield 15, 3) := dGR_12_c_178.2.2.2.2.2.2.2.1
theorem dX8_addWrapped_53 : decode cX8_addWrapped 53 = .ok (.iload 4, 2) := dGR_12_c_178.2.2.2.2.2.2.2.2.1
theorem dX8_addWrapped_55 : decode cX8_addWrapped 55 = .ok (.iaload, 1) := dGR_12_c_178.2.2.2.2.2.2.2.2.2.1
theorem dX8_addWrapped_56 : decode cX8_addWrapped 56 = .ok (.invokevirtual 123, 3) := dGR_12_c_178.2.2.2.2.2.2.2.2.2.2.1
theorem dX8_addWrapped_59 : decode cX8_addWrapped 59 = .ok (.istore 6, 2) := dGR_12_c_178.2.2.2.2.2.2.2.2.2.2.2
set_option maxRecDepth 100000 in
theorem dGR_12_c_179 : (decode cX8_addWrapped 61 = .ok (.aload_n 0, 1)) ∧ (decode cX8_addWrapped 62 = .ok (.getfield 42, 3)) ∧ (decode cX8_addWrapped 65 = .ok (.istore 7, 2)) ∧ (decode cX8_addWrapped 67 = .ok (.iload 7, 2)) ∧ (decode cX8_addWrapped 69 = .ok (.aload_n 0, 1)) ∧ (decode cX8_addWrapped 70 = .ok (.getfield 46, 3)) ∧ (decode cX8_addWrapped 73 = .ok (.if_icmp .ge 37, 3)) ∧ (decode cX8_addWrapped 76 = .ok (.aload_n 0, 1)) ∧ (decode cX8_addWrapped 77 = .ok (.aload_n 1, 1)) ∧ (decode cX8_addWrapped 78 = .ok (.iload 5, 2)) ∧ (decode cX8_addWrapped 80 = .ok (.iload 7, 2)) ∧ (decode cX8_addWrapped 82 = .ok (.aload_n 0, 1)) := by decide +kernel
theorem dX8_addWrapped_61 : decode cX8_addWrapped 61 = .ok (.aload_n 0, 1) := dGR_12_c_179.1
theorem dX8_addWrapped_62 : decode cX8_addWrapped 62 = .ok (.getfield 42, 3) := dGR_12_c_179.2.1
theorem dX8_addWrapped_65 : decode cX8_addWrapped 65 = .ok (.istore 7, 2) := dGR_12_c_179.2.2.1
theorem dX8_addWrapped_67 : decode cX8_addWrapped 67 = .ok (.iload 7, 2) := dGR_12_c_179.2.2.2.1
theorem dX8_addWrapped_69 : decode cX8_addWrapped 69 = .ok (.aload_n 0, 1) := dGR_12_c_179.2.2.2.2.1
theorem dX8_addWrapped_70 : decode cX8_addWrapped 70 = .ok (.getfield 46, 3) := dGR_12_c_179.2.2.2.2.2.1
theorem dX8_addWrapped_73 : decode cX8_addWrapped 73 = .ok (.if_icmp .ge 37, 3) := dGR_12_c_179.2.2.2.2.2.2.1
theorem dX8_addWrapped_76 : decode cX8_addWrapped 76 = .ok (.aload_n 0, 1) := dGR_12_c_179.2.2.2.2.2.2.2.1
theorem dX8_addWrapped_77 : decode cX8_addWrapped 77 = .ok (.aload_n 1, 1) := dGR_12_c_179.2.2.2.2.2.2.2.2.1
theorem dX8_addWrapped_78 : decode cX8_addWrapped 78 = .ok (.iload 5, 2) := dGR_12_c_179.2.2.2.2.2.2.2.2.2.1
theorem dX8_addWrapped_80 : decode cX8_addWrapped 80 = .ok (.iload 7, 2) := dGR_12_c_179.2.2.2.2.2.2.2.2.2.2.1
theorem dX8_addWrapped_82 : decode cX8_addWrapped 82 = .ok (.aload_n 0, 1) := dGR_12_c_179.2.2.2.2.2.2.2.2.2.2.2
set_option maxRecDepth 100000 in
theorem dGR_12_c_180 : (decode cX8_addWrapped 83 = .ok (.getfield 11, 3)) ∧ (decode cX8_addWrapped 86 = .ok (.iload 4, 2)) ∧ (decode cX8_addWrapped 88 = .ok (.iaload, 1)) ∧ (decode cX8_addWrapped 89 = .ok (.invokevirtual 126, 3)) ∧ (decode cX8_addWrapped 92 = .ok (.aload_n 0, 1)) ∧ (decode cX8_addWrapped 93 = .ok (.iload 6, 2)) ∧ (decode cX8_addWrapped 95 = .ok (.iconst 1, 1)) ∧ (decode cX8_addWrapped 96 = .ok (.iload 7, 2)) ∧ (decode cX8_addWrapped 98 = .ok (.invokevirtual 123, 3)) ∧ (decode cX8_addWrapped 101 = .ok (.invokevirtual 120, 3)) ∧ (decode cX8_addWrapped 104 = .ok (.iinc 7 1, 3)) ∧ (decode cX8_addWrapped 107 = .ok (.goto (-40), 3)) := by decide +kernel
theorem dX8_addWrapped_83 : decode cX8_addWrapped 83 = .ok (.getfield 11, 3) := dGR_12_c_180.1
theorem dX8_addWrapped_86 : decode cX8_addWrapped 86 = .ok (.iload 4, 2) := dGR_12_c_180.2.1
theorem dX8_addWrapped_88 : decode cX8_addWrapped 88 = .ok (.iaload, 1) := dGR_12_c_180.2.2.1
theorem dX8_addWrapped_89 : decode cX8_addWrapped 89 = .ok (.invokevirtual 126, 3) := dGR_12_c_180.2.2.2.1
theorem dX8_addWrapped_92 : decode cX8_addWrapped 92 = .ok (.aload_n 0, 1) := dGR_12_c_180.2.2.2.2.1
theorem dX8_addWrapped_93 : decode cX8_addWrapped 93 = .ok (.iload 6, 2) := dGR_12_c_180.2.2.2.2.2.1
theorem dX8_addWrapped_95 : decode cX8_addWrapped 95 = .ok (.iconst 1, 1) := dGR_12_c_180.2.2.2.2.2.2.1
theorem dX8_addWrapped_96 : decode cX8_addWrapped 96 = .ok (.iload 7, 2) := dGR_12_c_180.2.2.2.2.2.2.2.1
theorem dX8_addWrapped_98 : decode cX8_addWrapped 98 = .ok (.invokevirtual 123, 3) := dGR_12_c_180.2.2.2.2.2.2.2.2.1
theorem dX8_addWrapped_101 : decode cX8_addWrapped 101 = .ok (.invokevirtual 120, 3) := dGR_12_c_180.2.2.2.2.2.2.2.2.2.1
theorem dX8_addWrapped_104 : decode cX8_addWrapped 104 = .ok (.iinc 7 1, 3) := dGR_12_c_180.2.2.2.2.2.2.2.2.2.2.1
theorem dX8_addWrapped_107 : decode cX8_addWrapped 107 = .ok (.goto (-40), 3) := dGR_12_c_180.2.2.2.2.2.2.2.2.2.2.2
set_option maxRecDepth 100000 in
theorem dGR_12_c_181 : (decode cX8_addWrapped 110 = .ok (.iinc 5 1, 3)) ∧ (decode cX8_addWrapped 113 = .ok (.goto (-77), 3)) ∧ (decode cX8_addWrapped 116 = .ok (.iinc 4 1, 3)) ∧ (decode cX8_addWrapped 119 = .ok (.goto (-97), 3)) ∧ (decode cX8_addWrapped 122 = .ok (.return_, 1)) := by decide +kernel
theorem dX8_addWrapped_110 : decode cX8_addWrapped 110 = .ok (.iinc 5 1, 3) := dGR_12_c_181.1
theorem dX8_addWrapped_113 : decode cX8_addWrapped 113 = .ok (.goto (-77), 3) := dGR_12_c_181.2.1
theorem dX8_addWrapped_116 : decode cX8_addWrapped 116 = .ok (.iinc 4 1, 3) := dGR_12_c_181.2.2.1
theorem dX8_addWrapped_119 : decode cX8_addWrapped 119 = .ok (.goto (-97), 3) := dGR_12_c_181.2.2.2.1
theorem dX8_addWrapped_122 : decode cX8_addWrapped 122 = .ok (.return_, 1) := dGR_12_c_181.2.2.2.2
abbrev f_c_X8_addWrapped : List (Nat × Int) := [(47, 7), (51, -1), (52, -1)]
set_option maxHeartbeats 4000000 in
set_option maxRecDepth 100000 in
theorem c_X8_addWrapped (G : KG) (l : Launch) (M : Mem) (c0 : Int) (c1 : Int) (a2 : Int) (hI_M : Inv false M) (hk_c0 : kd c0 = 47) (hk_c1 : kd c1 = 1) (hpre : -2147483648 ≤ a2 ∧ a2 ≤ 2147483647 ∧ 2 ≤ a2 ∧ a2 ≤ 6) : KC false G l yX8_addWrapped cX8_addWrapped 8 none (2, 48) [vR G c0, vR G c1, vI a2] M (fun A => kQv false G A (fun (N : Mem) => Inv false N ∧ Fr f_c_X8_addWrapped M N)) := by
  refine kx_met (lo := [some (vR G c0), some (vR G c1), some (vI a2), none, none, none, none, none]) (by decide) (Nat.le_of_ble_eq_true rfl) rfl ?_
  intro X F hQ
  have hF_M : Fr f_c_X8_addWrapped M M := Fr.rf _ _
  refine kx_iload_n 1 F 2 dX8_addWrapped_0 rfl rfl rfl ?_
  refine kx_iconst 2 F dX8_addWrapped_1 rfl ?_
  refine kx_isub 3 F (v := a2 - 2) dX8_addWrapped_2 rfl rfl ?_
  refine kx_istore_n 4 F 3 (lo' := [some (vR G c0), some (vR G c1), some (vI a2), some (vI (a2 - 2)), none, none, none, none]) dX8_addWrapped_3 rfl (by decide) rfl rfl rfl ?_
  refine kx_iload_n 5 F 3 dX8_addWrapped_4 rfl rfl rfl ?_
  have J_8 : ∀ (y0_7 : Int), 0 ≤ y0_7 ∧ y0_7 ≤ 187 → KJ false G X M 20 [some (vR G c0), some (vR G c1), none, some (vI (a2 - 2)), none, none, none, none] [vI y0_7] := by
    intro y0_7 h_9
    refine kx_istore 22 F 4 (lo' := [some (vR G c0), some (vR G c1), none, some (vI (a2 - 2)), some (vI y0_7), none, none, none]) dX8_addWrapped_20 (by decide) rfl rfl rfl ?_
    have L_302 : ∀ (n_303 : Nat) (x4_300 : Int) (N_301 : Mem), Inv false N_301 → Fr f_c_X8_addWrapped M N_301 → 0 ≤ x4_300 ∧ x4_300 ≤ 187 ∧ y0_7 ≤ x4_300 → (187 - (x4_300)).toNat = n_303 → KJ false G X N_301 22 [some (vR G c0), some (vR G c1), none, some (vI (a2 - 2)), some (vI x4_300), none, none, none] [] := by
      intro n_303
      refine Nat.strongRecOn n_303 ?_
      intro n_303 ih_304 x4_300 N_301 hI_N_301 hF_N_301 h_305 hm_306
      refine kx_iload 24 F 4 dX8_addWrapped_22 rfl rfl ?_
      refine kx_aload_n 25 F 0 dX8_addWrapped_24 rfl rfl rfl ?_
      refine kx_getr 28 F fl_X8_18 hk_c0 rfl rfl (j := 6) rfl dX8_addWrapped_25 (v := (M c0 6)) (by rw [Fr.e hF_N_301 hk_c0 _ rfl]) rfl ?_
      have hk_307 : kd (M c0 6) = 50 := Inv.r hI_M hk_c0 rfl 6 rfl rfl
      refine kx_iload_n 29 F 3 dX8_addWrapped_28 rfl rfl rfl ?_
      refine kx_iald 30 F hk_307 rfl rfl (by omega) (by decide) dX8_addWrapped_29 (v := (M (M c0 6) (a2 - 2))) (by rw [Fr.e hF_N_301 hk_307 _ rfl]) rfl ?_
      have h_308 := Inv.g hI_M hk_307 rfl (a2 - 2) (a := 0) (b := 187) rfl rfl
      refine kx_icmp_ge 33 F 122 dX8_addWrapped_30 (by decide) rfl (by omega) (by omega) (fun h_309 => ?_) (fun h_309 => ?_)
      · exact kx_vret F hQ ⟨hI_N_301, hF_N_301⟩ dX8_addWrapped_122
      · refine kx_iconst 34 F dX8_addWrapped_33 rfl ?_
        refine kx_istore 36 F 5 (lo' := [some (vR G c0), some (vR G c1), none, some (vI (a2 - 2)), some (vI x4_300), some (vI 0), none, none]) dX8_addWrapped_34 (by decide) rfl rfl rfl ?_
        have L_522 : ∀ (n_523 : Nat) (x5_520 : Int) (N_521 : Mem), Inv false N_521 → Fr f_c_X8_addWrapped M N_521 → 0 ≤ x5_520 ∧ x5_520 ≤ 2 → (2 - (x5_520)).toNat = n_523 → KJ false G X N_521 36 [some (vR G c0), some (vR G c1), none, some (vI (a2 - 2)), some (vI x4_300), some (vI x5_520), none, none] [] := by
          intro n_523
          refine Nat.strongRecOn n_523 ?_
          intro n_523 ih_524 x5_520 N_521 hI_N_521 hF_N_521 h_525 hm_526
          refine kx_iload 38 F 5 dX8_addWrapped_36 rfl rfl ?_
          refine kx_aload_n 39 F 0 dX8_addWrapped_38 rfl rfl rfl ?_
          refine kx_geti 42 F fl_X8_42 hk_c0 rfl rfl (j := 0) rfl dX8_addWrapped_39 (v := (M c0 0)) (by rw [Fr.e hF_N_521 hk_c0 _ rfl]) rfl ?_
          have h_527 := Inv.g hI_M hk_c0 rfl 0 (a := 0) (b := 2) rfl rfl
          refine kx_icmp_ge 45 F 116 dX8_addWrapped_42 (by decide) rfl (by omega) (by omega) (fun h_528 => ?_) (fun h_528 => ?_)
          · refine kx_iinc 119 F 4 (v := x4_300 + 1) (lo' := [some (vR G c0), some (vR G c1), none, some (vI (a2 - 2)), some (vI (x4_300 + 1)), some (vI x5_520), none, none]) dX8_addWrapped_116 rfl (by omega) (by decide) rfl rfl rfl ?_
            refine kx_goto 22 F dX8_addWrapped_119 (by decide) ?_
            refine kx_drop 5 (lo' := [some (vR G c0), some (vR G c1), none, some (vI (a2 - 2)), some (vI (x4_300 + 1)), none, none, none]) rfl ?_
            exact ih_304 _ (by omega) (x4_300 + 1) N_521 hI_N_521 hF_N_521 (by omega) rfl
          · refine kx_aload_n 46 F 0 dX8_addWrapped_45 rfl rfl rfl ?_
            refine kx_iload 48 F 5 dX8_addWrapped_46 rfl rfl ?_
            refine kx_iload_n 49 F 3 dX8_addWrapped_48 rfl rfl rfl ?_
            refine kx_aload_n 50 F 0 dX8_addWrapped_49 rfl rfl rfl ?_
            refine kx_getr 53 F fl_X8_15 hk_c0 rfl rfl (j := 5) rfl dX8_addWrapped_50 (v := (M c0 5)) (by rw [Fr.e hF_N_521 hk_c0 _ rfl]) rfl ?_
            have hk_529 : kd (M c0 5) = 49 := Inv.r hI_M hk_c0 rfl 5 rfl rfl
            refine kx_iload 55 F 4 dX8_addWrapped_53 rfl rfl ?_
            refine kx_iald 56 F hk_529 rfl rfl (by omega) (by decide) dX8_addWrapped_55 (v := (M (M c0 5) x4_300)) (by rw [Fr.e hF_N_521 hk_529 _ rfl]) rfl ?_
            have h_530 := Inv.g hI_M hk_529 rfl x4_300 (a := (-2147483648)) (b := 2147483647) rfl rfl
            refine kx_Vi 59 (ci := 0) F (As := [vI x5_520, vI (a2 - 2), vI (M (M c0 5) x4_300)]) (st := []) vd_X8_123 (c_X8_codeOf G l N_521 c0 x5_520 (a2 - 2) (M (M c0 5) x4_300) hI_N_521 hk_c0 (by omega)) hk_c0 rfl rfl rfl ⟨by decide, by decide⟩ rfl rfl (Nat.le_of_ble_eq_true rfl) dX8_addWrapped_56 rfl ?_
            intro r_531 N_532 q_533
            obtain ⟨rfl, q_533c⟩ := q_533
            refine kx_istore 61 F 6 (lo' := [some (vR G c0), some (vR G c1), none, some (vI (a2 - 2)), some (vI x4_300), some (vI x5_520), some (vI r_531), none]) dX8_addWrapped_59 (by decide) rfl rfl rfl ?_
            refine kx_aload_n 62 F 0 dX8_addWrapped_61 rfl rfl rfl ?_
            refine kx_geti 65 F fl_X8_42 hk_c0 rfl rfl (j := 0) rfl dX8_addWrapped_62 (v := (M c0 0)) (by rw [Fr.e hF_N_521 hk_c0 _ rfl]) rfl ?_
            refine kx_istore 67 F 7 (lo' := [some (vR G c0), some (vR G c1), none, some (vI (a2 - 2)), some (vI x4_300), some (vI x5_520), some (vI r_531), some (vI (M c0 0))]) dX8_addWrapped_65 (by decide) rfl rfl rfl ?_
            have L_578 : ∀ (n_579 : Nat) (x7_576 : Int) (N_577 : Mem), Inv false N_577 → Fr f_c_X8_addWrapped M N_577 → 1 ≤ x7_576 ∧ x7_576 ≤ 4 ∧ (M c0 0) ≤ x7_576 → (4 - (x7_576)).toNat = n_579 → KJ false G X N_577 67 [some (vR G c0), some (vR G c1), none, some (vI (a2 - 2)), some (vI x4_300), some (vI x5_520), some (vI r_531), some (vI x7_576)] [] := by
              intro n_579
              refine Nat.strongRecOn n_579 ?_
              intro n_579 ih_580 x7_576 N_577 hI_N_577 hF_N_577 h_581 hm_582
              refine kx_iload 69 F 7 dX8_addWrapped_67 rfl rfl ?_
              refine kx_aload_n 70 F 0 dX8_addWrapped_69 rfl rfl rfl ?_
              refine kx_geti 73 F fl_X8_46 hk_c0 rfl rfl (j := 1) rfl dX8_addWrapped_70 (v := (M c0 1)) (by rw [Fr.e hF_N_577 hk_c0 _ rfl]) rfl ?_
              have h_583 := Inv.g hI_M hk_c0 rfl 1 (a := 0) (b := 4) rfl rfl
              refine kx_icmp_ge 76 F 110 dX8_addWrapped_73 (by decide) rfl (by omega) (by omega) (fun h_584 => ?_) (fun h_584 => ?_)
              · refine kx_iinc 113 F 5 (v := x5_520 + 1) (lo' := [some (vR G c0), some (vR G c1), none, some (vI (a2 - 2)), some (vI x4_300), some (vI (x5_520 + 1)), some (vI r_531), some (vI x7_576)]) dX8_addWrapped_110 rfl (by omega) (by decide) rfl rfl rfl ?_
                refine kx_goto 36 F dX8_addWrapped_113 (by decide) ?_
                refine kx_drop 6 (lo' := [some (vR G c0), some (vR G c1), none, some (vI (a2 - 2)), some (vI x4_300), some (vI (x5_520 + 1)), none, some (vI x7_576)]) rfl ?_
                refine kx_drop 7 (lo' := [some (vR G c0), some (vR G c1), none, some (vI (a2 - 2)), some (vI x4_300), some (vI (x5_520 + 1)), none, none]) rfl ?_
                exact ih_524 _ (by omega) (x5_520 + 1) N_577 hI_N_577 hF_N_577 (by omega) rfl
              · refine kx_aload_n 77 F 0 dX8_addWrapped_76 rfl rfl rfl ?_
                refine kx_aload_n 78 F 1 dX8_addWrapped_77 rfl rfl rfl ?_
                refine kx_iload 80 F 5 dX8_addWrapped_78 rfl rfl ?_
                refine kx_iload 82 F 7 dX8_addWrapped_80 rfl rfl ?_
                refine kx_aload_n 83 F 0 dX8_addWrapped_82 rfl rfl rfl ?_
                refine kx_getr 86 F fl_X8_11 hk_c0 rfl rfl (j := 4) rfl dX8_addWrapped_83 (v := (M c0 4)) (by rw [Fr.e hF_N_577 hk_c0 _ rfl]) rfl ?_
                have hk_585 : kd (M c0 4) = 48 := Inv.r hI_M hk_c0 rfl 4 rfl rfl
                refine kx_iload 88 F 4 dX8_addWrapped_86 rfl rfl ?_
                refine kx_iald 89 F hk_585 rfl rfl (by omega) (by decide) dX8_addWrapped_88 (v := (M (M c0 4) x4_300)) (by rw [Fr.e hF_N_577 hk_585 _ rfl]) rfl ?_
                have h_586 := Inv.g hI_M hk_585 rfl x4_300 (a := 0) (b := 511) rfl rfl
                refine kx_Vi 92 (ci := 0) F (As := [vI x5_520, vI x7_576, vI (M (M c0 4) x4_300)]) (st := [vR G c0]) vd_X8_126 (c_X0_over G l N_577 c1 x5_520 x7_576 (M (M c0 4) x4_300) hI_N_577 hk_c1 (by omega)) hk_c1 rfl rfl rfl ⟨by decide, by decide⟩ rfl rfl (Nat.le_of_ble_eq_true rfl) dX8_addWrapped_89 rfl ?_
                intro r_587 N_588 q_589
                obtain ⟨rfl, q_589c⟩ := q_589
                refine kx_aload_n 93 F 0 dX8_addWrapped_92 rfl rfl rfl ?_
                refine kx_iload 95 F 6 dX8_addWrapped_93 rfl rfl ?_
                refine kx_iconst 96 F dX8_addWrapped_95 rfl ?_
                refine kx_iload 98 F 7 dX8_addWrapped_96 rfl rfl ?_
                refine kx_Vi 101 (ci := 0) F (As := [vI r_531, vI 1, vI x7_576]) (st := [vI r_587, vR G c0]) vd_X8_123 (c_X8_codeOf G l N_577 c0 r_531 1 x7_576 hI_N_577 hk_c0 (by omega)) hk_c0 rfl rfl rfl ⟨by decide, by decide⟩ rfl rfl (Nat.le_of_ble_eq_true rfl) dX8_addWrapped_98 rfl ?_
                intro r_590 N_591 q_592
                obtain ⟨rfl, q_592c⟩ := q_592
                refine kx_Vv 104 (ci := 0) F (As := [vI r_587, vI r_590]) (st := []) vd_X8_120 (c_X8_addBlock G l N_577 c0 r_587 r_590 hI_N_577 hk_c0 (by omega)) hk_c0 rfl rfl rfl ⟨by decide, by decide⟩ rfl rfl (Nat.le_of_ble_eq_true rfl) dX8_addWrapped_101 rfl ?_
                intro N_593 q_594
                obtain ⟨hI_N_593, hG_N_593⟩ := q_594
                have hF_N_593 : Fr f_c_X8_addWrapped M N_593 := Fr.c hF_N_577 hG_N_593 rfl
                refine kx_iinc 107 F 7 (v := x7_576 + 1) (lo' := [some (vR G c0), some (vR G c1), none, some (vI (a2 - 2)), some (vI x4_300), some (vI x5_520), some (vI r_531), some (vI (x7_576 + 1))]) dX8_addWrapped_104 rfl (by omega) (by decide) rfl rfl rfl ?_
                refine kx_goto 67 F dX8_addWrapped_107 (by decide) ?_
                exact ih_580 _ (by omega) (x7_576 + 1) N_593 hI_N_593 hF_N_593 (by omega) rfl
            exact L_578 _ (M c0 0) N_521 hI_N_521 hF_N_521 (by omega) rfl
        exact L_522 _ 0 N_301 hI_N_301 hF_N_301 (by omega) rfl
    exact L_302 _ y0_7 M hI_M hF_M (by omega) rfl
  refine kx_if_ne 8 F 12 dX8_addWrapped_5 (by decide) rfl (by omega) (fun h_595 => ?_) (fun h_595 => ?_)
  · refine kx_aload_n 13 F 0 dX8_addWrapped_12 rfl rfl rfl ?_
    refine kx_getr 16 F fl_X8_18 hk_c0 rfl rfl (j := 6) rfl dX8_addWrapped_13 (v := (M c0 6)) rfl rfl ?_
    have hk_596 : kd (M c0 6) = 50 := Inv.r hI_M hk_c0 rfl 6 rfl rfl
    refine kx_iload_n 17 F 3 dX8_addWrapped_16 rfl rfl rfl ?_
    refine kx_iconst 18 F dX8_addWrapped_17 rfl ?_
    refine kx_isub 19 F (v := a2 - 3) dX8_addWrapped_18 (by omega) rfl ?_
    refine kx_iald 20 F hk_596 rfl rfl (by omega) (by decide) dX8_addWrapped_19 (v := (M (M c0 6) (a2 - 3))) rfl rfl ?_
    have h_597 := Inv.g hI_M hk_596 rfl (a2 - 3) (a := 0) (b := 187) rfl rfl
    refine kx_drop 2 (lo' := [some (vR G c0), some (vR G c1), none, some (vI (a2 - 2)), none, none, none, none]) rfl ?_
    exact J_8 (M (M c0 6) (a2 - 3)) (by omega)
  · refine kx_iconst 9 F dX8_addWrapped_8 rfl ?_
    refine kx_goto 20 F dX8_addWrapped_9 (by decide) ?_
    refine kx_drop 2 (lo' := [some (vR G c0), some (vR G c1), none, some (vI (a2 - 2)), none, none, none, none]) rfl ?_
    exact J_8 0 (by omega)
set_option maxRecDepth 100000 in
theorem dGR_12_c_182 : (decode cX8_addJoined 0 = .ok (.iconst 1, 1)) ∧ (decode cX8_addJoined 1 = .ok (.istore_n 2, 1)) ∧ (decode cX8_addJoined 2 = .ok (.iload_n 2, 1)) ∧ (decode cX8_addJoined 3 = .ok (.iload_n 1, 1)) ∧ (decode cX8_addJoined 4 = .ok (.if_icmp .gt 115, 3)) ∧ (decode cX8_addJoined 7 = .ok (.iload_n 1, 1)) ∧ (decode cX8_addJoined 8 = .ok (.iload_n 2, 1)) ∧ (decode cX8_addJoined 9 = .ok (.isub, 1)) ∧ (decode cX8_addJoined 10 = .ok (.istore_n 3, 1)) ∧ (decode cX8_addJoined 11 = .ok (.iload_n 3, 1)) ∧ (decode cX8_addJoined 12 = .ok (.ifCond .ne 7, 3)) ∧ (decode cX8_addJoined 15 = .ok (.iconst 0, 1)) := by decide +kernel
theorem dX8_addJoined_0 : decode cX8_addJoined 0 = .ok (.iconst 1, 1) := dGR_12_c_182.1
theorem dX8_addJoined_1 : decode cX8_addJoined 1 = .ok (.istore_n 2, 1) := dGR_12_c_182.2.1
theorem dX8_addJoined_2 : decode cX8_addJoined 2 = .ok (.iload_n 2, 1) := dGR_12_c_182.2.2.1
theorem dX8_addJoined_3 : decode cX8_addJoined 3 = .ok (.iload_n 1, 1) := dGR_12_c_182.2.2.2.1
theorem dX8_addJoined_4 : decode cX8_addJoined 4 = .ok (.if_icmp .gt 115, 3) := dGR_12_c_182.2.2.2.2.1
theorem dX8_addJoined_7 : decode cX8_addJoined 7 = .ok (.iload_n 1, 1) := dGR_12_c_182.2.2.2.2.2.1
theorem dX8_addJoined_8 : decode cX8_addJoined 8 = .ok (.iload_n 2, 1) := dGR_12_c_182.2.2.2.2.2.2.1
theorem dX8_addJoined_9 : decode cX8_addJoined 9 = .ok (.isub, 1) := dGR_12_c_182.2.2.2.2.2.2.2.1
theorem dX8_addJoined_10 : decode cX8_addJoined 10 = .ok (.istore_n 3, 1) := dGR_12_c_182.2.2.2.2.2.2.2.2.1
theorem dX8_addJoined_11 : decode cX8_addJoined 11 = .ok (.iload_n 3, 1) := dGR_12_c_182.2.2.2.2.2.2.2.2.2.1
theorem dX8_addJoined_12 : decode cX8_addJoined 12 = .ok (.ifCond .ne 7, 3) := dGR_12_c_182.2.2.2.2.2.2.2.2.2.2.1
theorem dX8_addJoined_15 : decode cX8_addJoined 15 = .ok (.iconst 0, 1) := dGR_12_c_182.2.2.2.2.2.2.2.2.2.2.2
set_option maxRecDepth 100000 in
theorem dGR_12_c_183 : (decode cX8_addJoined 16 = .ok (.goto 11, 3)) ∧ (decode cX8_addJoined 19 = .ok (.aload_n 0, 1)) ∧ (decode cX8_addJoined 20 = .ok (.getfield 18, 3)) ∧ (decode cX8_addJoined 23 = .ok (.iload_n 3, 1)) ∧ (decode cX8_addJoined 24 = .ok (.iconst 1, 1)) ∧ (decode cX8_addJoined 25 = .ok (.isub, 1)) ∧ (decode cX8_addJoined 26 = .ok (.iaload, 1)) ∧ (decode cX8_addJoined 27 = .ok (.istore 4, 2)) ∧ (decode cX8_addJoined 29 = .ok (.iload 4, 2)) ∧ (decode cX8_addJoined 31 = .ok (.aload_n 0, 1)) ∧ (decode cX8_addJoined 32 = .ok (.getfield 18, 3)) ∧ (decode cX8_addJoined 35 = .ok (.iload_n 3, 1)) := by decide +kernel
theorem dX8_addJoined_16 : decode cX8_addJoined 16 = .ok (.goto 11, 3) := dGR_12_c_183.1
theorem dX8_addJoined_19 : decode cX8_addJoined 19 = .ok (.aload_n 0, 1) := dGR_12_c_183.2.1
theorem dX8_addJoined_20 : decode cX8_addJoined 20 = .ok (.getfield 18, 3) := dGR_12_c_183.2.2.1
theorem dX8_addJoined_23 : decode cX8_addJoined 23 = .ok (.iload_n 3, 1) := dGR_12_c_183.2.2.2.1
theorem dX8_addJoined_24 : decode cX8_addJoined 24 = .ok (.iconst 1, 1) := dGR_12_c_183.2.2.2.2.1
theorem dX8_addJoined_25 : decode cX8_addJoined 25 = .ok (.isub, 1) := dGR_12_c_183.2.2.2.2.2.1
theorem dX8_addJoined_26 : decode cX8_addJoined 26 = .ok (.iaload, 1) := dGR_12_c_183.2.2.2.2.2.2.1
theorem dX8_addJoined_27 : decode cX8_addJoined 27 = .ok (.istore 4, 2) := dGR_12_c_183.2.2.2.2.2.2.2.1
theorem dX8_addJoined_29 : decode cX8_addJoined 29 = .ok (.iload 4, 2) := dGR_12_c_183.2.2.2.2.2.2.2.2.1
theorem dX8_addJoined_31 : decode cX8_addJoined 31 = .ok (.aload_n 0, 1) := dGR_12_c_183.2.2.2.2.2.2.2.2.2.1
theorem dX8_addJoined_32 : decode cX8_addJoined 32 = .ok (.getfield 18, 3) := dGR_12_c_183.2.2.2.2.2.2.2.2.2.2.1
theorem dX8_addJoined_35 : decode cX8_addJoined 35 = .ok (.iload_n 3, 1) := dGR_12_c_183.2.2.2.2.2.2.2.2.2.2.2
set_option maxRecDepth 100000 in
theorem dGR_12_c_184 : (decode cX8_addJoined 36 = .ok (.iaload, 1)) ∧ (decode cX8_addJoined 37 = .ok (.if_icmp .ge 76, 3)) ∧ (decode cX8_addJoined 40 = .ok (.aload_n 0, 1)) ∧ (decode cX8_addJoined 41 = .ok (.getfield 27, 3)) ∧ (decode cX8_addJoined 44 = .ok (.iload_n 2, 1)) ∧ (decode cX8_addJoined 45 = .ok (.iconst 1, 1)) ∧ (decode cX8_addJoined 46 = .ok (.isub, 1)) ∧ (decode cX8_addJoined 47 = .ok (.iaload, 1)) ∧ (decode cX8_addJoined 48 = .ok (.istore 5, 2)) ∧ (decode cX8_addJoined 50 = .ok (.iload 5, 2)) ∧ (decode cX8_addJoined 52 = .ok (.aload_n 0, 1)) ∧ (decode cX8_addJoined 53 = .ok (.getfield 27, 3)) := by decide +kernel
theorem dX8_addJoined_36 : decode cX8_addJoined 36 = .ok (.iaload, 1) := dGR_12_c_184.1
theorem dX8_addJoined_37 : decode cX8_addJoined 37 = .ok (.if_icmp .ge 76, 3) := dGR_12_c_184.2.1
theorem dX8_addJoined_40 : decode cX8_addJoined 40 = .ok (.aload_n 0, 1) := dGR_12_c_184.2.2.1
theorem dX8_addJoined_41 : decode cX8_addJoined 41 = .ok (.getfield 27, 3) := dGR_12_c_184.2.2.2.1
theorem dX8_addJoined_44 : decode cX8_addJoined 44 = .ok (.iload_n 2, 1) := dGR_12_c_184.2.2.2.2.1
theorem dX8_addJoined_45 : decode cX8_addJoined 45 = .ok (.iconst 1, 1) := dGR_12_c_184.2.2.2.2.2.1
theorem dX8_addJoined_46 : decode cX8_addJoined 46 = .ok (.isub, 1) := dGR_12_c_184.2.2.2.2.2.2.1
theorem dX8_addJoined_47 : decode cX8_addJoined 47 = .ok (.iaload, 1) := dGR_12_c_184.2.2.2.2.2.2.2.1
theorem dX8_addJoined_48 : decode cX8_addJoined 48 = .ok (.istore 5, 2) := dGR_12_c_184.2.2.2.2.2.2.2.2.1
theorem dX8_addJoined_50 : decode cX8_addJoined 50 = .ok (.iload 5, 2) := dGR_12_c_184.2.2.2.2.2.2.2.2.2.1
theorem dX8_addJoined_52 : decode cX8_addJoined 52 = .ok (.aload_n 0, 1) := dGR_12_c_184.2.2.2.2.2.2.2.2.2.2.1
theorem dX8_addJoined_53 : decode cX8_addJoined 53 = .ok (.getfield 27, 3) := dGR_12_c_184.2.2.2.2.2.2.2.2.2.2.2
set_option maxRecDepth 100000 in
theorem dGR_12_c_185 : (decode cX8_addJoined 56 = .ok (.iload_n 2, 1)) ∧ (decode cX8_addJoined 57 = .ok (.iaload, 1)) ∧ (decode cX8_addJoined 58 = .ok (.if_icmp .ge 49, 3)) ∧ (decode cX8_addJoined 61 = .ok (.aload_n 0, 1)) ∧ (decode cX8_addJoined 62 = .ok (.aload_n 0, 1)) ∧ (decode cX8_addJoined 63 = .ok (.getfield 11, 3)) ∧ (decode cX8_addJoined 66 = .ok (.iload 4, 2)) ∧ (decode cX8_addJoined 68 = .ok (.iaload, 1)) ∧ (decode cX8_addJoined 69 = .ok (.aload_n 0, 1)) ∧ (decode cX8_addJoined 70 = .ok (.getfield 21, 3)) ∧ (decode cX8_addJoined 73 = .ok (.iload 5, 2)) ∧ (decode cX8_addJoined 75 = .ok (.iaload, 1)) := by decide +kernel
theorem dX8_addJoined_56 : decode cX8_addJoined 56 = .ok (.iload_n 2, 1) := dGR_12_c_185.1
theorem dX8_addJoined_57 : decode cX8_addJoined 57 = .ok (.iaload, 1) := dGR_12_c_185.2.1
theorem dX8_addJoined_58 : decode cX8_addJoined 58 = .ok (.if_icmp .ge 49, 3) := dGR_12_c_185.2.2.1
theorem dX8_addJoined_61 : decode cX8_addJoined 61 = .ok (.aload_n 0, 1) := dGR_12_c_185.2.2.2.1
theorem dX8_addJoined_62 : decode cX8_addJoined 62 = .ok (.aload_n 0, 1) := dGR_12_c_185.2.2.2.2.1
theorem dX8_addJoined_63 : decode cX8_addJoined 63 = .ok (.getfield 11, 3) := dGR_12_c_185.2.2.2.2.2.1
theorem dX8_addJoined_66 : decode cX8_addJoined 66 = .ok (.iload 4, 2) := dGR_12_c_185.2.2.2.2.2.2.1
theorem dX8_addJoined_68 : decode cX8_addJoined 68 = .ok (.iaload, 1) := dGR_12_c_185.2.2.2.2.2.2.2.1
theorem dX8_addJoined_69 : decode cX8_addJoined 69 = .ok (.aload_n 0, 1) := dGR_12_c_185.2.2.2.2.2.2.2.2.1
theorem dX8_addJoined_70 : decode cX8_addJoined 70 = .ok (.getfield 21, 3) := dGR_12_c_185.2.2.2.2.2.2.2.2.2.1
theorem dX8_addJoined_73 : decode cX8_addJoined 73 = .ok (.iload 5, 2) := dGR_12_c_185.2.2.2.2.2.2.2.2.2.2.1
theorem dX8_addJoined_75 : decode cX8_addJoined 75 = .ok (.iaload, 1) := dGR_12_c_185.2.2.2.2.2.2.2.2.2.2.2
set_option maxRecDepth 100000 in
theorem dGR_12_c_186 : (decode cX8_addJoined 76 = .ok (.invokestatic 129, 3)) ∧ (decode cX8_addJoined 79 = .ok (.aload_n 0, 1)) ∧ (decode cX8_addJoined 80 = .ok (.aload_n 0, 1)) ∧ (decode cX8_addJoined 81 = .ok (.getfield 15, 3)) ∧ (decode cX8_addJoined 84 = .ok (.iload 4, 2)) ∧ (decode cX8_addJoined 86 = .ok (.iaload, 1)) ∧ (decode cX8_addJoined 87 = .ok (.iload_n 2, 1)) ∧ (decode cX8_addJoined 88 = .ok (.aload_n 0, 1)) ∧ (decode cX8_addJoined 89 = .ok (.getfield 24, 3)) ∧ (decode cX8_addJoined 92 = .ok (.iload 5, 2)) ∧ (decode cX8_addJoined 94 = .ok (.iaload, 1)) ∧ (decode cX8_addJoined 95 = .ok (.invokevirtual 123, 3)) := by decide +kernel
theorem dX8_addJoined_76 : decode cX8_addJoined 76 = .ok (.invokestatic 129, 3) := dGR_12_c_186.1
theorem dX8_addJoined_79 : decode cX8_addJoined 79 = .ok (.aload_n 0, 1) := dGR_12_c_186.2.1
theorem dX8_addJoined_80 : decode cX8_addJoined 80 = .ok (.aload_n 0, 1) := dGR_12_c_186.2.2.1
theorem dX8_addJoined_81 : decode cX8_addJoined 81 = .ok (.getfield 15, 3) := dGR_12_c_186.2.2.2.1
theorem dX8_addJoined_84 : decode cX8_addJoined 84 = .ok (.iload 4, 2) := dGR_12_c_186.2.2.2.2.1
theorem dX8_addJoined_86 : decode cX8_addJoined 86 = .ok (.iaload, 1) := dGR_12_c_186.2.2.2.2.2.1
theorem dX8_addJoined_87 : decode cX8_addJoined 87 = .ok (.iload_n 2, 1) := dGR_12_c_186.2.2.2.2.2.2.1
theorem dX8_addJoined_88 : decode cX8_addJoined 88 = .ok (.aload_n 0, 1) := dGR_12_c_186.2.2.2.2.2.2.2.1
theorem dX8_addJoined_89 : decode cX8_addJoined 89 = .ok (.getfield 24, 3) := dGR_12_c_186.2.2.2.2.2.2.2.2.1
theorem dX8_addJoined_92 : decode cX8_addJoined 92 = .ok (.iload 5, 2) := dGR_12_c_186.2.2.2.2.2.2.2.2.2.1
theorem dX8_addJoined_94 : decode cX8_addJoined 94 = .ok (.iaload, 1) := dGR_12_c_186.2.2.2.2.2.2.2.2.2.2.1
theorem dX8_addJoined_95 : decode cX8_addJoined 95 = .ok (.invokevirtual 123, 3) := dGR_12_c_186.2.2.2.2.2.2.2.2.2.2.2
set_option maxRecDepth 100000 in
theorem dGR_12_c_187 : (decode cX8_addJoined 98 = .ok (.invokevirtual 102, 3)) ∧ (decode cX8_addJoined 101 = .ok (.iinc 5 1, 3)) ∧ (decode cX8_addJoined 104 = .ok (.goto (-54), 3)) ∧ (decode cX8_addJoined 107 = .ok (.iinc 4 1, 3)) ∧ (decode cX8_addJoined 110 = .ok (.goto (-81), 3)) ∧ (decode cX8_addJoined 113 = .ok (.iinc 2 1, 3)) ∧ (decode cX8_addJoined 116 = .ok (.goto (-114), 3)) ∧ (decode cX8_addJoined 119 = .ok (.return_, 1)) := by decide +kernel
theorem dX8_addJoined_98 : decode cX8_addJoined 98 = .ok (.invokevirtual 102, 3) := dGR_12_c_187.1
theorem dX8_addJoined_101 : decode cX8_addJoined 101 = .ok (.iinc 5 1, 3) := dGR_12_c_187.2.1
theorem dX8_addJoined_104 : decode cX8_addJoined 104 = .ok (.goto (-54), 3) := dGR_12_c_187.2.2.1
theorem dX8_addJoined_107 : decode cX8_addJoined 107 = .ok (.iinc 4 1, 3) := dGR_12_c_187.2.2.2.1
theorem dX8_addJoined_110 : decode cX8_addJoined 110 = .ok (.goto (-81), 3) := dGR_12_c_187.2.2.2.2.1
theorem dX8_addJoined_113 : decode cX8_addJoined 113 = .ok (.iinc 2 1, 3) := dGR_12_c_187.2.2.2.2.2.1
theorem dX8_addJoined_116 : decode cX8_addJoined 116 = .ok (.goto (-114), 3) := dGR_12_c_187.2.2.2.2.2.2.1
theorem dX8_addJoined_119 : decode cX8_addJoined 119 = .ok (.return_, 1) := dGR_12_c_187.2.2.2.2.2.2.2
abbrev f_c_X8_addJoined : List (Nat × Int) := [(47, 3), (48, -1), (49, -1)]
set_option maxHeartbeats 4000000 in
set_option maxRecDepth 100000 in
theorem c_X8_addJoined (G : KG) (l : Launch) (M : Mem) (c0 : Int) (a1 : Int) (hI_M : Inv false M) (hk_c0 : kd c0 = 47) (hpre : -2147483648 ≤ a1 ∧ a1 ≤ 2147483647 ∧ 1 ≤ a1 ∧ a1 ≤ 4) : KC false G l yX8_addJoined cX8_addJoined 6 none (2, 46) [vR G c0, vI a1] M (fun A => kQv false G A (fun (N : Mem) => Inv false N ∧ Fr f_c_X8_addJoined M N)) := by
  refine kx_met (lo := [some (vR G c0), some (vI a1), none, none, none, none]) (by decide) (Nat.le_of_ble_eq_true rfl) rfl ?_
  intro X F hQ
  have hF_M : Fr f_c_X8_addJoined M M := Fr.rf _ _
  refine kx_iconst 1 F dX8_addJoined_0 rfl ?_
  refine kx_istore_n 2 F 2 (lo' := [some (vR G c0), some (vI a1), some (vI 1), none, none, none]) dX8_addJoined_1 rfl (by decide) rfl rfl rfl ?_
  have L_2673 : ∀ (n_2674 : Nat) (x2_2671 : Int) (N_2672 : Mem), Inv false N_2672 → Fr f_c_X8_addJoined M N_2672 → 1 ≤ x2_2671 ∧ x2_2671 ≤ 5 → (5 - (x2_2671)).toNat = n_2674 → KJ false G X N_2672 2 [some (vR G c0), some (vI a1), some (vI x2_2671), none, none, none] [] := by
    intro n_2674
    refine Nat.strongRecOn n_2674 ?_
    intro n_2674 ih_2675 x2_2671 N_2672 hI_N_2672 hF_N_2672 h_2676 hm_2677
    refine kx_iload_n 3 F 2 dX8_addJoined_2 rfl rfl rfl ?_
    refine kx_iload_n 4 F 1 dX8_addJoined_3 rfl rfl rfl ?_
    refine kx_icmp_gt 7 F 119 dX8_addJoined_4 (by decide) rfl (by omega) (by omega) (fun h_2678 => ?_) (fun h_2678 => ?_)
    · exact kx_vret F hQ ⟨hI_N_2672, hF_N_2672⟩ dX8_addJoined_119
    · refine kx_iload_n 8 F 1 dX8_addJoined_7 rfl rfl rfl ?_
      refine kx_iload_n 9 F 2 dX8_addJoined_8 rfl rfl rfl ?_
      refine kx_isub 10 F (v := a1 - x2_2671) dX8_addJoined_9 rfl rfl ?_
      refine kx_istore_n 11 F 3 (lo' := [some (vR G c0), some (vI a1), some (vI x2_2671), some (vI (a1 - x2_2671)), none, none]) dX8_addJoined_10 rfl (by decide) rfl rfl rfl ?_
      refine kx_iload_n 12 F 3 dX8_addJoined_11 rfl rfl rfl ?_
      have J_2686 : ∀ (y0_2685 : Int), 0 ≤ y0_2685 ∧ y0_2685 ≤ 187 → KJ false G X N_2672 27 [some (vR G c0), some (vI a1), some (vI x2_2671), some (vI (a1 - x2_2671)), none, none] [vI y0_2685] := by
        intro y0_2685 h_2687
        refine kx_istore 29 F 4 (lo' := [some (vR G c0), some (vI a1), some (vI x2_2671), some (vI (a1 - x2_2671)), some (vI y0_2685), none]) dX8_addJoined_27 (by decide) rfl rfl rfl ?_
        have L_2742 : ∀ (n_2743 : Nat) (x4_2740 : Int) (N_2741 : Mem), Inv false N_2741 → Fr f_c_X8_addJoined M N_2741 → 0 ≤ x4_2740 ∧ x4_2740 ≤ 187 ∧ y0_2685 ≤ x4_2740 → (187 - (x4_2740)).toNat = n_2743 → KJ false G X N_2741 29 [some (vR G c0), some (vI a1), some (vI x2_2671), some (vI (a1 - x2_2671)), some (vI x4_2740), none] [] := by
          intro n_2743
          refine Nat.strongRecOn n_2743 ?_
          intro n_2743 ih_2744 x4_2740 N_2741 hI_N_2741 hF_N_2741 h_2745 hm_2746
          refine kx_iload 31 F 4 dX8_addJoined_29 rfl rfl ?_
          refine kx_aload_n 32 F 0 dX8_addJoined_31 rfl rfl rfl ?_
          refine kx_getr 35 F fl_X8_18 hk_c0 rfl rfl (j := 6) rfl dX8_addJoined_32 (v := (M c0 6)) (by rw [Fr.e hF_N_2741 hk_c0 _ rfl]) rfl ?_
          have hk_2747 : kd (M c0 6) = 50 := Inv.r hI_M hk_c0 rfl 6 rfl rfl
          refine kx_iload_n 36 F 3 dX8_addJoined_35 rfl rfl rfl ?_
          refine kx_iald 37 F hk_2747 rfl rfl (by omega) (by decide) dX8_addJoined_36 (v := (M (M c0 6) (a1 - x2_2671))) (by rw [Fr.e hF_N_2741 hk_2747 _ rfl]) rfl ?_
          have h_2748 := Inv.g hI_M hk_2747 rfl (a1 - x2_2671) (a := 0) (b := 187) rfl rfl
          refine kx_icmp_ge 40 F 113 dX8_addJoined_37 (by decide) rfl (by omega) (by omega) (fun h_2749 => ?_) (fun h_2749 => ?_)
          · refine kx_iinc 116 F 2 (v := x2_2671 + 1) (lo' := [some (vR G c0), some (vI a1), some (vI (x2_2671 + 1)), some (vI (a1 - x2_2671)), some (vI x4_2740), none]) dX8_addJoined_113 rfl (by omega) (by decide) rfl rfl rfl ?_
            refine kx_goto 2 F dX8_addJoined_116 (by decide) ?_
            refine kx_drop 3 (lo' := [some (vR G c0), some (vI a1), some (vI (x2_2671 + 1)), none, some (vI x4_2740), none]) rfl ?_
            refine kx_drop 4 (lo' := [some (vR G c0), some (vI a1), some (vI (x2_2671 + 1)), none, none, none]) rfl ?_
            exact ih_2675 _ (by omega) (x2_2671 + 1) N_2741 hI_N_2741 hF_N_2741 (by omega) rfl
          · refine kx_aload_n 41 F 0 dX8_addJoined_40 rfl rfl rfl ?_
            refine kx_getr 44 F fl_X8_27 hk_c0 rfl rfl (j := 10) rfl dX8_addJoined_41 (v := (M c0 10)) (by rw [Fr.e hF_N_2741 hk_c0 _ rfl]) rfl ?_
            have hk_2750 : kd (M c0 10) = 53 := Inv.r hI_M hk_c0 rfl 10 rfl rfl
            refine kx_iload_n 45 F 2 dX8_addJoined_44 rfl rfl rfl ?_
            refine kx_iconst 46 F dX8_addJoined_45 rfl ?_
            refine kx_isub 47 F (v := x2_2671 - 1) dX8_addJoined_46 rfl rfl ?_
            refine kx_iald 48 F hk_2750 rfl rfl (by omega) (by decide) dX8_addJoined_47 (v := (M (M c0 10) (x2_2671 - 1))) (by rw [Fr.e hF_N_2741 hk_2750 _ rfl]) rfl ?_
            have h_2751 := Inv.g hI_M hk_2750 rfl (x2_2671 - 1) (a := 0) (b := 750) rfl rfl
            refine kx_istore 50 F 5 (lo' := [some (vR G c0), some (vI a1), some (vI x2_2671), some (vI (a1 - x2_2671)), some (vI x4_2740), some (vI (M (M c0 10) (x2_2671 - 1)))]) dX8_addJoined_48 (by decide) rfl rfl rfl ?_
            have L_2774 : ∀ (n_2775 : Nat) (x5_2772 : Int) (N_2773 : Mem), Inv false N_2773 → Fr f_c_X8_addJoined M N_2773 → 0 ≤ x5_2772 ∧ x5_2772 ≤ 750 ∧ (M (M c0 10) (x2_2671 - 1)) ≤ x5_2772 → (750 - (x5_2772)).toNat = n_2775 → KJ false G X N_2773 50 [some (vR G c0), some (vI a1), some (vI x2_2671), some (vI (a1 - x2_2671)), some (vI x4_2740), some (vI x5_2772)] [] := by
              intro n_2775
              refine Nat.strongRecOn n_2775 ?_
              intro n_2775 ih_2776 x5_2772 N_2773 hI_N_2773 hF_N_2773 h_2777 hm_2778
              refine kx_iload 52 F 5 dX8_addJoined_50 rfl rfl ?_
              refine kx_aload_n 53 F 0 dX8_addJoined_52 rfl rfl rfl ?_
              refine kx_getr 56 F fl_X8_27 hk_c0 rfl rfl (j := 10) rfl dX8_addJoined_53 (v := (M c0 10)) (by rw [Fr.e hF_N_2773 hk_c0 _ rfl]) rfl ?_
              refine kx_iload_n 57 F 2 dX8_addJoined_56 rfl rfl rfl ?_
              refine kx_iald 58 F hk_2750 rfl rfl (by omega) (by decide) dX8_addJoined_57 (v := (M (M c0 10) x2_2671)) (by rw [Fr.e hF_N_2773 hk_2750 _ rfl]) rfl ?_
              have h_2779 := Inv.g hI_M hk_2750 rfl x2_2671 (a := 0) (b := 750) rfl rfl
              refine kx_icmp_ge 61 F 107 dX8_addJoined_58 (by decide) rfl (by omega) (by omega) (fun h_2780 => ?_) (fun h_2780 => ?_)
              · refine kx_iinc 110 F 4 (v := x4_2740 + 1) (lo' := [some (vR G c0), some (vI a1), some (vI x2_2671), some (vI (a1 - x2_2671)), some (vI (x4_2740 + 1)), some (vI x5_2772)]) dX8_addJoined_107 rfl (by omega) (by decide) rfl rfl rfl ?_
                refine kx_goto 29 F dX8_addJoined_110 (by decide) ?_
                refine kx_drop 5 (lo' := [some (vR G c0), some (vI a1), some (vI x2_2671), some (vI (a1 - x2_2671)), some (vI (x4_2740 + 1)), none]) rfl ?_
                exact ih_2744 _ (by omega) (x4_2740 + 1) N_2773 hI_N_2773 hF_N_2773 (by omega) rfl
              · refine kx_aload_n 62 F 0 dX8_addJoined_61 rfl rfl rfl ?_
                refine kx_aload_n 63 F 0 dX8_addJoined_62 rfl rfl rfl ?_
                refine kx_getr 66 F fl_X8_11 hk_c0 rfl rfl (j := 4) rfl dX8_addJoined_63 (v := (M c0 4)) (by rw [Fr.e hF_N_2773 hk_c0 _ rfl]) rfl ?_
                have hk_2781 : kd (M c0 4) = 48 := Inv.r hI_M hk_c0 rfl 4 rfl rfl
                refine kx_iload 68 F 4 dX8_addJoined_66 rfl rfl ?_
                refine kx_iald 69 F hk_2781 rfl rfl (by omega) (by decide) dX8_addJoined_68 (v := (N_2773 (M c0 4) x4_2740)) rfl rfl ?_
                have h_2782 := Inv.g hI_N_2773 hk_2781 rfl x4_2740 (a := 0) (b := 511) rfl rfl
                refine kx_aload_n 70 F 0 dX8_addJoined_69 rfl rfl rfl ?_
                refine kx_getr 73 F fl_X8_21 hk_c0 rfl rfl (j := 8) rfl dX8_addJoined_70 (v := (M c0 8)) (by rw [Fr.e hF_N_2773 hk_c0 _ rfl]) rfl ?_
                have hk_2783 : kd (M c0 8) = 51 := Inv.r hI_M hk_c0 rfl 8 rfl rfl
                refine kx_iload 75 F 5 dX8_addJoined_73 rfl rfl ?_
                refine kx_iald 76 F hk_2783 rfl rfl (by omega) (by decide) dX8_addJoined_75 (v := (M (M c0 8) x5_2772)) (by rw [Fr.e hF_N_2773 hk_2783 _ rfl]) rfl ?_
                have h_2784 := Inv.g hI_M hk_2783 rfl x5_2772 (a := 0) (b := 511) rfl rfl
                refine kx_Si 79 F (As := [vI (N_2773 (M c0 4) x4_2740), vI (M (M c0 8) x5_2772)]) (st := [vR G c0]) sd_X8_129 (c_X2_compose G l N_2773 (N_2773 (M c0 4) x4_2740) (M (M c0 8) x5_2772) hI_N_2773 (by omega)) ⟨by decide, by decide⟩ rfl rfl (Nat.le_of_ble_eq_true rfl) dX8_addJoined_76 rfl ?_
                intro r_2785 N_2786 q_2787
                obtain ⟨rfl, q_2787c⟩ := q_2787
                refine kx_aload_n 80 F 0 dX8_addJoined_79 rfl rfl rfl ?_
                refine kx_aload_n 81 F 0 dX8_addJoined_80 rfl rfl rfl ?_
                refine kx_getr 84 F fl_X8_15 hk_c0 rfl rfl (j := 5) rfl dX8_addJoined_81 (v := (M c0 5)) (by rw [Fr.e hF_N_2773 hk_c0 _ rfl]) rfl ?_
                have hk_2788 : kd (M c0 5) = 49 := Inv.r hI_M hk_c0 rfl 5 rfl rfl
                refine kx_iload 86 F 4 dX8_addJoined_84 rfl rfl ?_
                refine kx_iald 87 F hk_2788 rfl rfl (by omega) (by decide) dX8_addJoined_86 (v := (N_2773 (M c0 5) x4_2740)) rfl rfl ?_
                have h_2789 := Inv.g hI_N_2773 hk_2788 rfl x4_2740 (a := (-2147483648)) (b := 2147483647) rfl rfl
                refine kx_iload_n 88 F 2 dX8_addJoined_87 rfl rfl rfl ?_
                refine kx_aload_n 89 F 0 dX8_addJoined_88 rfl rfl rfl ?_
                refine kx_getr 92 F fl_X8_24 hk_c0 rfl rfl (j := 9) rfl dX8_addJoined_89 (v := (M c0 9)) (by rw [Fr.e hF_N_2773 hk_c0 _ rfl]) rfl ?_
                have hk_2790 : kd (M c0 9) = 52 := Inv.r hI_M hk_c0 rfl 9 rfl rfl
                refine kx_iload 94 F 5 dX8_addJoined_92 rfl rfl ?_
                refine kx_iald 95 F hk_2790 rfl rfl (by omega) (by decide) dX8_addJoined_94 (v := (M (M c0 9) x5_2772)) (by rw [Fr.e hF_N_2773 hk_2790 _ rfl]) rfl ?_
                have h_2791 := Inv.g hI_M hk_2790 rfl x5_2772 (a := (-2147483648)) (b := 2147483647) rfl rfl
                refine kx_Vi 98 (ci := 0) F (As := [vI (N_2773 (M c0 5) x4_2740), vI x2_2671, vI (M (M c0 9) x5_2772)]) (st := [vI r_2785, vR G c0]) vd_X8_123 (c_X8_codeOf G l N_2773 c0 (N_2773 (M c0 5) x4_2740) x2_2671 (M (M c0 9) x5_2772) hI_N_2773 hk_c0 (by omega)) hk_c0 rfl rfl rfl ⟨by decide, by decide⟩ rfl rfl (Nat.le_of_ble_eq_true rfl) dX8_addJoined_95 rfl ?_
                intro r_2792 N_2793 q_2794
                obtain ⟨rfl, q_2794c⟩ := q_2794
                refine kx_Vv 101 (ci := 0) F (As := [vI r_2785, vI r_2792]) (st := []) vd_X8_102 (c_X8_addInside G l N_2773 c0 r_2785 r_2792 hI_N_2773 hk_c0 (by omega)) hk_c0 rfl rfl rfl ⟨by decide, by decide⟩ rfl rfl (Nat.le_of_ble_eq_true rfl) dX8_addJoined_98 rfl ?_
                intro N_2795 q_2796
                obtain ⟨hI_N_2795, hG_N_2795⟩ := q_2796
                have hF_N_2795 : Fr f_c_X8_addJoined M N_2795 := Fr.c hF_N_2773 hG_N_2795 rfl
                refine kx_iinc 104 F 5 (v := x5_2772 + 1) (lo' := [some (vR G c0), some (vI a1), some (vI x2_2671), some (vI (a1 - x2_2671)), some (vI x4_2740), some (vI (x5_2772 + 1))]) dX8_addJoined_101 rfl (by omega) (by decide) rfl rfl rfl ?_
                refine kx_goto 50 F dX8_addJoined_104 (by decide) ?_
                exact ih_2776 _ (by omega) (x5_2772 + 1) N_2795 hI_N_2795 hF_N_2795 (by omega) rfl
            exact L_2774 _ (M (M c0 10) (x2_2671 - 1)) N_2741 hI_N_2741 hF_N_2741 (by omega) rfl
        exact L_2742 _ y0_2685 N_2672 hI_N_2672 hF_N_2672 (by omega) rfl
      refine kx_if_ne 15 F 19 dX8_addJoined_12 (by decide) rfl (by omega) (fun h_2797 => ?_) (fun h_2797 => ?_)
      · refine kx_aload_n 20 F 0 dX8_addJoined_19 rfl rfl rfl ?_
        refine kx_getr 23 F fl_X8_18 hk_c0 rfl rfl (j := 6) rfl dX8_addJoined_20 (v := (M c0 6)) (by rw [Fr.e hF_N_2672 hk_c0 _ rfl]) rfl ?_
        have hk_2798 : kd (M c0 6) = 50 := Inv.r hI_M hk_c0 rfl 6 rfl rfl
        refine kx_iload_n 24 F 3 dX8_addJoined_23 rfl rfl rfl ?_
        refine kx_iconst 25 F dX8_addJoined_24 rfl ?_
        refine kx_isub 26 F (v := a1 - x2_2671 - 1) dX8_addJoined_25 rfl rfl ?_
        refine kx_iald 27 F hk_2798 rfl rfl (by omega) (by decide) dX8_addJoined_26 (v := (M (M c0 6) (a1 - x2_2671 - 1))) (by rw [Fr.e hF_N_2672 hk_2798 _ rfl]) rfl ?_
        have h_2799 := Inv.g hI_M hk_2798 rfl (a1 - x2_2671 - 1) (a := 0) (b := 187) rfl rfl
        exact J_2686 (M (M c0 6) (a1 - x2_2671 - 1)) (by omega)
      · refine kx_iconst 16 F dX8_addJoined_15 rfl ?_
        refine kx_goto 27 F dX8_addJoined_16 (by decide) ?_
        exact J_2686 0 (by omega)
  exact L_2673 _ 1 M hI_M hF_M (by omega) rfl
set_option maxRecDepth 100000 in
theorem dGR_12_c_188 : (decode cX8_listBlocks 0 = .ok (.aload_n 0, 1)) ∧ (decode cX8_listBlocks 1 = .ok (.iconst 0, 1)) ∧ (decode cX8_listBlocks 2 = .ok (.putfield 87, 3)) ∧ (decode cX8_listBlocks 5 = .ok (.aload_n 0, 1)) ∧ (decode cX8_listBlocks 6 = .ok (.iconst 0, 1)) ∧ (decode cX8_listBlocks 7 = .ok (.putfield 90, 3)) ∧ (decode cX8_listBlocks 10 = .ok (.aload_n 0, 1)) ∧ (decode cX8_listBlocks 11 = .ok (.aload_n 1, 1)) ∧ (decode cX8_listBlocks 12 = .ok (.getfield 93, 3)) ∧ (decode cX8_listBlocks 15 = .ok (.invokestatic 96, 3)) ∧ (decode cX8_listBlocks 18 = .ok (.iconst 0, 1)) ∧ (decode cX8_listBlocks 19 = .ok (.invokevirtual 102, 3)) := by decide +kernel
theorem dX8_listBlocks_0 : decode cX8_listBlocks 0 = .ok (.aload_n 0, 1) := dGR_12_c_188.1
theorem dX8_listBlocks_1 : decode cX8_listBlocks 1 = .ok (.iconst 0, 1) := dGR_12_c_188.2.1
theorem dX8_listBlocks_2 : decode cX8_listBlocks 2 = .ok (.putfield 87, 3) := dGR_12_c_188.2.2.1
theorem dX8_listBlocks_5 : decode cX8_listBlocks 5 = .ok (.aload_n 0, 1) := dGR_12_c_188.2.2.2.1
theorem dX8_listBlocks_6 : decode cX8_listBlocks 6 = .ok (.iconst 0, 1) := dGR_12_c_188.2.2.2.2.1
theorem dX8_listBlocks_7 : decode cX8_listBlocks 7 = .ok (.putfield 90, 3) := dGR_12_c_188.2.2.2.2.2.1
theorem dX8_listBlocks_10 : decode cX8_listBlocks 10 = .ok (.aload_n 0, 1) := dGR_12_c_188.2.2.2.2.2.2.1
theorem dX8_listBlocks_11 : decode cX8_listBlocks 11 = .ok (.aload_n 1, 1) := dGR_12_c_188.2.2.2.2.2.2.2.1
theorem dX8_listBlocks_12 : decode cX8_listBlocks 12 = .ok (.getfield 93, 3) := dGR_12_c_188.2.2.2.2.2.2.2.2.1
theorem dX8_listBlocks_15 : decode cX8_listBlocks 15 = .ok (.invokestatic 96, 3) := dGR_12_c_188.2.2.2.2.2.2.2.2.2.1
theorem dX8_listBlocks_18 : decode cX8_listBlocks 18 = .ok (.iconst 0, 1) := dGR_12_c_188.2.2.2.2.2.2.2.2.2.2.1
theorem dX8_listBlocks_19 : decode cX8_listBlocks 19 = .ok (.invokevirtual 102, 3) := dGR_12_c_188.2.2.2.2.2.2.2.2.2.2.2
set_option maxRecDepth 100000 in
theorem dGR_12_c_189 : (decode cX8_listBlocks 22 = .ok (.aload_n 0, 1)) ∧ (decode cX8_listBlocks 23 = .ok (.getfield 18, 3)) ∧ (decode cX8_listBlocks 26 = .ok (.iconst 0, 1)) ∧ (decode cX8_listBlocks 27 = .ok (.aload_n 0, 1)) ∧ (decode cX8_listBlocks 28 = .ok (.getfield 87, 3)) ∧ (decode cX8_listBlocks 31 = .ok (.iastore, 1)) ∧ (decode cX8_listBlocks 32 = .ok (.aload_n 0, 1)) ∧ (decode cX8_listBlocks 33 = .ok (.getfield 27, 3)) ∧ (decode cX8_listBlocks 36 = .ok (.iconst 0, 1)) ∧ (decode cX8_listBlocks 37 = .ok (.iconst 0, 1)) ∧ (decode cX8_listBlocks 38 = .ok (.iastore, 1)) ∧ (decode cX8_listBlocks 39 = .ok (.iconst 1, 1)) := by decide +kernel
theorem dX8_listBlocks_22 : decode cX8_listBlocks 22 = .ok (.aload_n 0, 1) := dGR_12_c_189.1
theorem dX8_listBlocks_23 : decode cX8_listBlocks 23 = .ok (.getfield 18, 3) := dGR_12_c_189.2.1
theorem dX8_listBlocks_26 : decode cX8_listBlocks 26 = .ok (.iconst 0, 1) := dGR_12_c_189.2.2.1
theorem dX8_listBlocks_27 : decode cX8_listBlocks 27 = .ok (.aload_n 0, 1) := dGR_12_c_189.2.2.2.1
theorem dX8_listBlocks_28 : decode cX8_listBlocks 28 = .ok (.getfield 87, 3) := dGR_12_c_189.2.2.2.2.1
theorem dX8_listBlocks_31 : decode cX8_listBlocks 31 = .ok (.iastore, 1) := dGR_12_c_189.2.2.2.2.2.1
theorem dX8_listBlocks_32 : decode cX8_listBlocks 32 = .ok (.aload_n 0, 1) := dGR_12_c_189.2.2.2.2.2.2.1
theorem dX8_listBlocks_33 : decode cX8_listBlocks 33 = .ok (.getfield 27, 3) := dGR_12_c_189.2.2.2.2.2.2.2.1
theorem dX8_listBlocks_36 : decode cX8_listBlocks 36 = .ok (.iconst 0, 1) := dGR_12_c_189.2.2.2.2.2.2.2.2.1
theorem dX8_listBlocks_37 : decode cX8_listBlocks 37 = .ok (.iconst 0, 1) := dGR_12_c_189.2.2.2.2.2.2.2.2.2.1
theorem dX8_listBlocks_38 : decode cX8_listBlocks 38 = .ok (.iastore, 1) := dGR_12_c_189.2.2.2.2.2.2.2.2.2.2.1
theorem dX8_listBlocks_39 : decode cX8_listBlocks 39 = .ok (.iconst 1, 1) := dGR_12_c_189.2.2.2.2.2.2.2.2.2.2.2
set_option maxRecDepth 100000 in
theorem dGR_12_c_190 : (decode cX8_listBlocks 40 = .ok (.istore_n 3, 1)) ∧ (decode cX8_listBlocks 41 = .ok (.iload_n 3, 1)) ∧ (decode cX8_listBlocks 42 = .ok (.iload_n 2, 1)) ∧ (decode cX8_listBlocks 43 = .ok (.if_icmp .gt 58, 3)) ∧ (decode cX8_listBlocks 46 = .ok (.iload_n 3, 1)) ∧ (decode cX8_listBlocks 47 = .ok (.iconst 1, 1)) ∧ (decode cX8_listBlocks 48 = .ok (.if_icmp .ne 11, 3)) ∧ (decode cX8_listBlocks 51 = .ok (.aload_n 0, 1)) ∧ (decode cX8_listBlocks 52 = .ok (.aload_n 1, 1)) ∧ (decode cX8_listBlocks 53 = .ok (.invokevirtual 106, 3)) ∧ (decode cX8_listBlocks 56 = .ok (.goto 9, 3)) ∧ (decode cX8_listBlocks 59 = .ok (.aload_n 0, 1)) := by decide +kernel
theorem dX8_listBlocks_40 : decode cX8_listBlocks 40 = .ok (.istore_n 3, 1) := dGR_12_c_190.1
theorem dX8_listBlocks_41 : decode cX8_listBlocks 41 = .ok (.iload_n 3, 1) := dGR_12_c_190.2.1
theorem dX8_listBlocks_42 : decode cX8_listBlocks 42 = .ok (.iload_n 2, 1) := dGR_12_c_190.2.2.1
theorem dX8_listBlocks_43 : decode cX8_listBlocks 43 = .ok (.if_icmp .gt 58, 3) := dGR_12_c_190.2.2.2.1
theorem dX8_listBlocks_46 : decode cX8_listBlocks 46 = .ok (.iload_n 3, 1) := dGR_12_c_190.2.2.2.2.1
theorem dX8_listBlocks_47 : decode cX8_listBlocks 47 = .ok (.iconst 1, 1) := dGR_12_c_190.2.2.2.2.2.1
theorem dX8_listBlocks_48 : decode cX8_listBlocks 48 = .ok (.if_icmp .ne 11, 3) := dGR_12_c_190.2.2.2.2.2.2.1
theorem dX8_listBlocks_51 : decode cX8_listBlocks 51 = .ok (.aload_n 0, 1) := dGR_12_c_190.2.2.2.2.2.2.2.1
theorem dX8_listBlocks_52 : decode cX8_listBlocks 52 = .ok (.aload_n 1, 1) := dGR_12_c_190.2.2.2.2.2.2.2.2.1
theorem dX8_listBlocks_53 : decode cX8_listBlocks 53 = .ok (.invokevirtual 106, 3) := dGR_12_c_190.2.2.2.2.2.2.2.2.2.1
theorem dX8_listBlocks_56 : decode cX8_listBlocks 56 = .ok (.goto 9, 3) := dGR_12_c_190.2.2.2.2.2.2.2.2.2.2.1
theorem dX8_listBlocks_59 : decode cX8_listBlocks 59 = .ok (.aload_n 0, 1) := dGR_12_c_190.2.2.2.2.2.2.2.2.2.2.2
set_option maxRecDepth 100000 in
theorem dGR_12_c_191 : (decode cX8_listBlocks 60 = .ok (.aload_n 1, 1)) ∧ (decode cX8_listBlocks 61 = .ok (.iload_n 3, 1)) ∧ (decode cX8_listBlocks 62 = .ok (.invokevirtual 110, 3)) ∧ (decode cX8_listBlocks 65 = .ok (.aload_n 0, 1)) ∧ (decode cX8_listBlocks 66 = .ok (.getfield 27, 3)) ∧ (decode cX8_listBlocks 69 = .ok (.iload_n 3, 1)) ∧ (decode cX8_listBlocks 70 = .ok (.aload_n 0, 1)) ∧ (decode cX8_listBlocks 71 = .ok (.getfield 90, 3)) ∧ (decode cX8_listBlocks 74 = .ok (.iastore, 1)) ∧ (decode cX8_listBlocks 75 = .ok (.iload_n 3, 1)) ∧ (decode cX8_listBlocks 76 = .ok (.iconst 4, 1)) ∧ (decode cX8_listBlocks 77 = .ok (.if_icmp .gt 8, 3)) := by decide +kernel
theorem dX8_listBlocks_60 : decode cX8_listBlocks 60 = .ok (.aload_n 1, 1) := dGR_12_c_191.1
theorem dX8_listBlocks_61 : decode cX8_listBlocks 61 = .ok (.iload_n 3, 1) := dGR_12_c_191.2.1
theorem dX8_listBlocks_62 : decode cX8_listBlocks 62 = .ok (.invokevirtual 110, 3) := dGR_12_c_191.2.2.1
theorem dX8_listBlocks_65 : decode cX8_listBlocks 65 = .ok (.aload_n 0, 1) := dGR_12_c_191.2.2.2.1
theorem dX8_listBlocks_66 : decode cX8_listBlocks 66 = .ok (.getfield 27, 3) := dGR_12_c_191.2.2.2.2.1
theorem dX8_listBlocks_69 : decode cX8_listBlocks 69 = .ok (.iload_n 3, 1) := dGR_12_c_191.2.2.2.2.2.1
theorem dX8_listBlocks_70 : decode cX8_listBlocks 70 = .ok (.aload_n 0, 1) := dGR_12_c_191.2.2.2.2.2.2.1
theorem dX8_listBlocks_71 : decode cX8_listBlocks 71 = .ok (.getfield 90, 3) := dGR_12_c_191.2.2.2.2.2.2.2.1
theorem dX8_listBlocks_74 : decode cX8_listBlocks 74 = .ok (.iastore, 1) := dGR_12_c_191.2.2.2.2.2.2.2.2.1
theorem dX8_listBlocks_75 : decode cX8_listBlocks 75 = .ok (.iload_n 3, 1) := dGR_12_c_191.2.2.2.2.2.2.2.2.2.1
theorem dX8_listBlocks_76 : decode cX8_listBlocks 76 = .ok (.iconst 4, 1) := dGR_12_c_191.2.2.2.2.2.2.2.2.2.2.1
theorem dX8_listBlocks_77 : decode cX8_listBlocks 77 = .ok (.if_icmp .gt 8, 3) := dGR_12_c_191.2.2.2.2.2.2.2.2.2.2.2
set_option maxRecDepth 100000 in
theorem dGR_12_c_192 : (decode cX8_listBlocks 80 = .ok (.aload_n 0, 1)) ∧ (decode cX8_listBlocks 81 = .ok (.iload_n 3, 1)) ∧ (decode cX8_listBlocks 82 = .ok (.invokevirtual 113, 3)) ∧ (decode cX8_listBlocks 85 = .ok (.aload_n 0, 1)) ∧ (decode cX8_listBlocks 86 = .ok (.getfield 18, 3)) ∧ (decode cX8_listBlocks 89 = .ok (.iload_n 3, 1)) ∧ (decode cX8_listBlocks 90 = .ok (.aload_n 0, 1)) ∧ (decode cX8_listBlocks 91 = .ok (.getfield 87, 3)) ∧ (decode cX8_listBlocks 94 = .ok (.iastore, 1)) ∧ (decode cX8_listBlocks 95 = .ok (.iinc 3 1, 3)) ∧ (decode cX8_listBlocks 98 = .ok (.goto (-57), 3)) ∧ (decode cX8_listBlocks 101 = .ok (.return_, 1)) := by decide +kernel
theorem dX8_listBlocks_80 : decode cX8_listBlocks 80 = .ok (.aload_n 0, 1) := dGR_12_c_192.1
theorem dX8_listBlocks_81 : decode cX8_listBlocks 81 = .ok (.iload_n 3, 1) := dGR_12_c_192.2.1
theorem dX8_listBlocks_82 : decode cX8_listBlocks 82 = .ok (.invokevirtual 113, 3) := dGR_12_c_192.2.2.1
theorem dX8_listBlocks_85 : decode cX8_listBlocks 85 = .ok (.aload_n 0, 1) := dGR_12_c_192.2.2.2.1
theorem dX8_listBlocks_86 : decode cX8_listBlocks 86 = .ok (.getfield 18, 3) := dGR_12_c_192.2.2.2.2.1
theorem dX8_listBlocks_89 : decode cX8_listBlocks 89 = .ok (.iload_n 3, 1) := dGR_12_c_192.2.2.2.2.2.1
theorem dX8_listBlocks_90 : decode cX8_listBlocks 90 = .ok (.aload_n 0, 1) := dGR_12_c_192.2.2.2.2.2.2.1
theorem dX8_listBlocks_91 : decode cX8_listBlocks 91 = .ok (.getfield 87, 3) := dGR_12_c_192.2.2.2.2.2.2.2.1
theorem dX8_listBlocks_94 : decode cX8_listBlocks 94 = .ok (.iastore, 1) := dGR_12_c_192.2.2.2.2.2.2.2.2.1
theorem dX8_listBlocks_95 : decode cX8_listBlocks 95 = .ok (.iinc 3 1, 3) := dGR_12_c_192.2.2.2.2.2.2.2.2.2.1
theorem dX8_listBlocks_98 : decode cX8_listBlocks 98 = .ok (.goto (-57), 3) := dGR_12_c_192.2.2.2.2.2.2.2.2.2.2.1
theorem dX8_listBlocks_101 : decode cX8_listBlocks 101 = .ok (.return_, 1) := dGR_12_c_192.2.2.2.2.2.2.2.2.2.2.2
abbrev f_c_X8_listBlocks : List (Nat × Int) := [(47, 3), (47, 7), (48, -1), (49, -1), (50, -1), (51, -1), (52, -1), (53, -1)]
set_option maxHeartbeats 4000000 in
set_option maxRecDepth 100000 in
theorem c_X8_listBlocks (G : KG) (l : Launch) (M : Mem) (c0 : Int) (c1 : Int) (a2 : Int) (hI_M : Inv false M) (hk_c0 : kd c0 = 47) (hk_c1 : kd c1 = 1) (hpre : -2147483648 ≤ a2 ∧ a2 ≤ 2147483647 ∧ 0 ≤ a2 ∧ a2 ≤ 6) : KC false G l yX8_listBlocks cX8_listBlocks 4 none (3, 75) [vR G c0, vR G c1, vI a2] M (fun A => kQv false G A (fun (N : Mem) => Inv false N ∧ Fr f_c_X8_listBlocks M N)) := by
  refine kx_met (lo := [some (vR G c0), some (vR G c1), some (vI a2), none]) (by decide) (Nat.le_of_ble_eq_true rfl) rfl ?_
  intro X F hQ
  have hF_M : Fr f_c_X8_listBlocks M M := Fr.rf _ _
  refine kx_aload_n 1 F 0 dX8_listBlocks_0 rfl rfl rfl ?_
  refine kx_iconst 2 F dX8_listBlocks_1 rfl ?_
  refine kx_puti 5 F fw_X8_87 rfl hk_c0 rfl rfl (j := 3) rfl dX8_listBlocks_2 rfl ?_
  intro N_1 hM_N_1
  have hI_N_1 : Inv false N_1 := Inv.u hI_M hM_N_1 hk_c0 (a := 0) (b := 187) rfl rfl rfl (by omega)
  have hF_N_1 : Fr f_c_X8_listBlocks M N_1 := Fr.u hF_M hM_N_1 hk_c0 rfl
  refine kx_aload_n 6 F 0 dX8_listBlocks_5 rfl rfl rfl ?_
  refine kx_iconst 7 F dX8_listBlocks_6 rfl ?_
  refine kx_puti 10 F fw_X8_90 rfl hk_c0 rfl rfl (j := 7) rfl dX8_listBlocks_7 rfl ?_
  intro N_2 hM_N_2
  have hI_N_2 : Inv false N_2 := Inv.u hI_N_1 hM_N_2 hk_c0 (a := 0) (b := 750) rfl rfl rfl (by omega)
  have hF_N_2 : Fr f_c_X8_listBlocks M N_2 := Fr.u hF_N_1 hM_N_2 hk_c0 rfl
  refine kx_aload_n 11 F 0 dX8_listBlocks_10 rfl rfl rfl ?_
  refine kx_aload_n 12 F 1 dX8_listBlocks_11 rfl rfl rfl ?_
  refine kx_geti 15 F fl_X8_93 hk_c1 rfl rfl (j := 0) rfl dX8_listBlocks_12 (v := (M c1 0)) (by rw [hM_N_2, mu_k hk_c1 hk_c0 rfl, hM_N_1, mu_k hk_c1 hk_c0 rfl]) rfl ?_
  have h_3 := Inv.g hI_M hk_c1 rfl 0 (a := 0) (b := 3) rfl rfl
  refine kx_Si 18 F (As := [vI (M c1 0)]) (st := [vR G c0]) sd_X8_96 (c_X2_identity G l N_2 (M c1 0) hI_N_2 (by omega)) ⟨by decide, by decide⟩ rfl rfl (Nat.le_of_ble_eq_true rfl) dX8_listBlocks_15 rfl ?_
  intro r_4 N_5 q_6
  obtain ⟨rfl, q_6c⟩ := q_6
  refine kx_iconst 19 F dX8_listBlocks_18 rfl ?_
  refine kx_Vv 22 (ci := 0) F (As := [vI r_4, vI 0]) (st := []) vd_X8_102 (c_X8_addInside G l N_2 c0 r_4 0 hI_N_2 hk_c0 (by omega)) hk_c0 rfl rfl rfl ⟨by decide, by decide⟩ rfl rfl (Nat.le_of_ble_eq_true rfl) dX8_listBlocks_19 rfl ?_
  intro N_7 q_8
  obtain ⟨hI_N_7, hG_N_7⟩ := q_8
  have hF_N_7 : Fr f_c_X8_listBlocks M N_7 := Fr.c hF_N_2 hG_N_7 rfl
  refine kx_aload_n 23 F 0 dX8_listBlocks_22 rfl rfl rfl ?_
  refine kx_getr 26 F fl_X8_18 hk_c0 rfl rfl (j := 6) rfl dX8_listBlocks_23 (v := (M c0 6)) (by rw [Fr.e hG_N_7 hk_c0 _ rfl, hM_N_2, mu_i (by omega), hM_N_1, mu_i (by omega)]) rfl ?_
  have hk_9 : kd (M c0 6) = 50 := Inv.r hI_M hk_c0 rfl 6 rfl rfl
  refine kx_iconst 27 F dX8_listBlocks_26 rfl ?_
  refine kx_aload_n 28 F 0 dX8_listBlocks_27 rfl rfl rfl ?_
  refine kx_geti 31 F fl_X8_87 hk_c0 rfl rfl (j := 3) rfl dX8_listBlocks_28 (v := (N_7 c0 3)) rfl rfl ?_
  have h_10 := Inv.g hI_N_7 hk_c0 rfl 3 (a := 0) (b := 187) rfl rfl
  refine kx_iast 32 F hk_9 rfl rfl (by omega) (by decide) dX8_listBlocks_31 rfl ?_
  intro N_11 hM_N_11
  have hI_N_11 : Inv false N_11 := Inv.u hI_N_7 hM_N_11 hk_9 (a := 0) (b := 187) rfl rfl rfl (by omega)
  have hF_N_11 : Fr f_c_X8_listBlocks M N_11 := Fr.u hF_N_7 hM_N_11 hk_9 rfl
  refine kx_aload_n 33 F 0 dX8_listBlocks_32 rfl rfl rfl ?_
  refine kx_getr 36 F fl_X8_27 hk_c0 rfl rfl (j := 10) rfl dX8_listBlocks_33 (v := (M c0 10)) (by rw [hM_N_11, mu_k hk_c0 hk_9 rfl, Fr.e hG_N_7 hk_c0 _ rfl, hM_N_2, mu_i (by omega), hM_N_1, mu_i (by omega)]) rfl ?_
  have hk_12 : kd (M c0 10) = 53 := Inv.r hI_M hk_c0 rfl 10 rfl rfl
  refine kx_iconst 37 F dX8_listBlocks_36 rfl ?_
  refine kx_iconst 38 F dX8_listBlocks_37 rfl ?_
  refine kx_iast 39 F hk_12 rfl rfl (by omega) (by decide) dX8_listBlocks_38 rfl ?_
  intro N_13 hM_N_13
  have hI_N_13 : Inv false N_13 := Inv.u hI_N_11 hM_N_13 hk_12 (a := 0) (b := 750) rfl rfl rfl (by omega)
  have hF_N_13 : Fr f_c_X8_listBlocks M N_13 := Fr.u hF_N_11 hM_N_13 hk_12 rfl
  refine kx_iconst 40 F dX8_listBlocks_39 rfl ?_
  refine kx_istore_n 41 F 3 (lo' := [some (vR G c0), some (vR G c1), some (vI a2), some (vI 1)]) dX8_listBlocks_40 rfl (by decide) rfl rfl rfl ?_
  have L_167 : ∀ (n_168 : Nat) (x3_165 : Int) (N_166 : Mem), Inv false N_166 → Fr f_c_X8_listBlocks M N_166 → 1 ≤ x3_165 ∧ x3_165 ≤ 7 → (7 - (x3_165)).toNat = n_168 → KJ false G X N_166 41 [some (vR G c0), some (vR G c1), some (vI a2), some (vI x3_165)] [] := by
    intro n_168
    refine Nat.strongRecOn n_168 ?_
    intro n_168 ih_169 x3_165 N_166 hI_N_166 hF_N_166 h_170 hm_171
    refine kx_iload_n 42 F 3 dX8_listBlocks_41 rfl rfl rfl ?_
    refine kx_iload_n 43 F 2 dX8_listBlocks_42 rfl rfl rfl ?_
    refine kx_icmp_gt 46 F 101 dX8_listBlocks_43 (by decide) rfl (by omega) (by omega) (fun h_172 => ?_) (fun h_172 => ?_)
    · exact kx_vret F hQ ⟨hI_N_166, hF_N_166⟩ dX8_listBlocks_101
    · refine kx_iload_n 47 F 3 dX8_listBlocks_46 rfl rfl rfl ?_
      refine kx_iconst 48 F dX8_listBlocks_47 rfl ?_
      have J_179 : ∀ (N_178 : Mem), Inv false N_178 → Fr f_c_X8_listBlocks M N_178 → KJ false G X N_178 65 [some (vR G c0), some (vR G c1), some (vI a2), some (vI x3_165)] [] := by
        intro N_178 hI_N_178 hF_N_178
        refine kx_aload_n 66 F 0 dX8_listBlocks_65 rfl rfl rfl ?_
        refine kx_getr 69 F fl_X8_27 hk_c0 rfl rfl (j := 10) rfl dX8_listBlocks_66 (v := (M c0 10)) (by rw [Fr.e hF_N_178 hk_c0 _ rfl]) rfl ?_
        refine kx_iload_n 70 F 3 dX8_listBlocks_69 rfl rfl rfl ?_
        refine kx_aload_n 71 F 0 dX8_listBlocks_70 rfl rfl rfl ?_
        refine kx_geti 74 F fl_X8_90 hk_c0 rfl rfl (j := 7) rfl dX8_listBlocks_71 (v := (N_178 c0 7)) rfl rfl ?_
        have h_181 := Inv.g hI_N_178 hk_c0 rfl 7 (a := 0) (b := 750) rfl rfl
        refine kx_iast 75 F hk_12 rfl rfl (by omega) (by decide) dX8_listBlocks_74 rfl ?_
        intro N_182 hM_N_182
        have hI_N_182 : Inv false N_182 := Inv.u hI_N_178 hM_N_182 hk_12 (a := 0) (b := 750) rfl rfl rfl (by omega)
        have hF_N_182 : Fr f_c_X8_listBlocks M N_182 := Fr.u hF_N_178 hM_N_182 hk_12 rfl
        refine kx_iload_n 76 F 3 dX8_listBlocks_75 rfl rfl rfl ?_
        refine kx_iconst 77 F dX8_listBlocks_76 rfl ?_
        have J_187 : ∀ (N_186 : Mem), Inv false N_186 → Fr f_c_X8_listBlocks M N_186 → KJ false G X N_186 85 [some (vR G c0), some (vR G c1), some (vI a2), some (vI x3_165)] [] := by
          intro N_186 hI_N_186 hF_N_186
          refine kx_aload_n 86 F 0 dX8_listBlocks_85 rfl rfl rfl ?_
          refine kx_getr 89 F fl_X8_18 hk_c0 rfl rfl (j := 6) rfl dX8_listBlocks_86 (v := (M c0 6)) (by rw [Fr.e hF_N_186 hk_c0 _ rfl]) rfl ?_
          refine kx_iload_n 90 F 3 dX8_listBlocks_89 rfl rfl rfl ?_
          refine kx_aload_n 91 F 0 dX8_listBlocks_90 rfl rfl rfl ?_
          refine kx_geti 94 F fl_X8_87 hk_c0 rfl rfl (j := 3) rfl dX8_listBlocks_91 (v := (N_186 c0 3)) rfl rfl ?_
          have h_189 := Inv.g hI_N_186 hk_c0 rfl 3 (a := 0) (b := 187) rfl rfl
          refine kx_iast 95 F hk_9 rfl rfl (by omega) (by decide) dX8_listBlocks_94 rfl ?_
          intro N_190 hM_N_190
          have hI_N_190 : Inv false N_190 := Inv.u hI_N_186 hM_N_190 hk_9 (a := 0) (b := 187) rfl rfl rfl (by omega)
          have hF_N_190 : Fr f_c_X8_listBlocks M N_190 := Fr.u hF_N_186 hM_N_190 hk_9 rfl
          refine kx_iinc 98 F 3 (v := x3_165 + 1) (lo' := [some (vR G c0), some (vR G c1), some (vI a2), some (vI (x3_165 + 1))]) dX8_listBlocks_95 rfl (by omega) (by decide) rfl rfl rfl ?_
          refine kx_goto 41 F dX8_listBlocks_98 (by decide) ?_
          exact ih_169 _ (by omega) (x3_165 + 1) N_190 hI_N_190 hF_N_190 (by omega) rfl
        refine kx_icmp_gt 80 F 85 dX8_listBlocks_77 (by decide) rfl (by omega) (by decide) (fun h_191 => ?_) (fun h_191 => ?_)
        · exact J_187 N_182 hI_N_182 hF_N_182
        · refine kx_aload_n 81 F 0 dX8_listBlocks_80 rfl rfl rfl ?_
          refine kx_iload_n 82 F 3 dX8_listBlocks_81 rfl rfl rfl ?_
          refine kx_Vv 85 (ci := 0) F (As := [vI x3_165]) (st := []) vd_X8_113 (c_X8_addJoined G l N_182 c0 x3_165 hI_N_182 hk_c0 (by omega)) hk_c0 rfl rfl rfl ⟨by decide, by decide⟩ rfl rfl (Nat.le_of_ble_eq_true rfl) dX8_listBlocks_82 rfl ?_
          intro N_192 q_193
          obtain ⟨hI_N_192, hG_N_192⟩ := q_193
          have hF_N_192 : Fr f_c_X8_listBlocks M N_192 := Fr.c hF_N_182 hG_N_192 rfl
          exact J_187 N_192 hI_N_192 hF_N_192
      refine kx_icmp_ne 51 F 59 dX8_listBlocks_48 (by decide) rfl (by omega) (by decide) (fun h_194 => ?_) (fun h_194 => ?_)
      · refine kx_aload_n 60 F 0 dX8_listBlocks_59 rfl rfl rfl ?_
        refine kx_aload_n 61 F 1 dX8_listBlocks_60 rfl rfl rfl ?_
        refine kx_iload_n 62 F 3 dX8_listBlocks_61 rfl rfl rfl ?_
        refine kx_Vv 65 (ci := 0) F (As := [vR G c1, vI x3_165]) (st := []) vd_X8_110 (c_X8_addWrapped G l N_166 c0 c1 x3_165 hI_N_166 hk_c0 hk_c1 (by omega)) hk_c0 rfl rfl rfl ⟨by decide, by decide⟩ rfl rfl (Nat.le_of_ble_eq_true rfl) dX8_listBlocks_62 rfl ?_
        intro N_195 q_196
        obtain ⟨hI_N_195, hG_N_195⟩ := q_196
        have hF_N_195 : Fr f_c_X8_listBlocks M N_195 := Fr.c hF_N_166 hG_N_195 rfl
        exact J_179 N_195 hI_N_195 hF_N_195
      · refine kx_aload_n 52 F 0 dX8_listBlocks_51 rfl rfl rfl ?_
        refine kx_aload_n 53 F 1 dX8_listBlocks_52 rfl rfl rfl ?_
        refine kx_Vv 56 (ci := 0) F (As := [vR G c1]) (st := []) vd_X8_106 (c_X8_addInnerBlocks G l N_166 c0 c1 hI_N_166 hk_c0 hk_c1) hk_c0 rfl rfl rfl ⟨by decide, by decide⟩ rfl rfl (Nat.le_of_ble_eq_true rfl) dX8_listBlocks_53 rfl ?_
        intro N_197 q_198
        obtain ⟨hI_N_197, hG_N_197⟩ := q_198
        have hF_N_197 : Fr f_c_X8_listBlocks M N_197 := Fr.c hF_N_166 hG_N_197 rfl
        refine kx_goto 65 F dX8_listBlocks_56 (by decide) ?_
        exact J_179 N_197 hI_N_197 hF_N_197
  exact L_167 _ 1 N_13 hI_N_13 hF_N_13 (by omega) rfl
set_option maxRecDepth 100000 in
theorem dGR_12_c_193 : (decode cX8_reckon 0 = .ok (.aload_n 0, 1)) ∧ (decode cX8_reckon 1 = .ok (.aload_n 1, 1)) ∧ (decode cX8_reckon 2 = .ok (.getfield 36, 3)) ∧ (decode cX8_reckon 5 = .ok (.putfield 42, 3)) ∧ (decode cX8_reckon 8 = .ok (.aload_n 0, 1)) ∧ (decode cX8_reckon 9 = .ok (.aload_n 1, 1)) ∧ (decode cX8_reckon 10 = .ok (.getfield 43, 3)) ∧ (decode cX8_reckon 13 = .ok (.putfield 46, 3)) ∧ (decode cX8_reckon 16 = .ok (.aload_n 0, 1)) ∧ (decode cX8_reckon 17 = .ok (.aload_n 1, 1)) ∧ (decode cX8_reckon 18 = .ok (.getfield 47, 3)) ∧ (decode cX8_reckon 21 = .ok (.putfield 50, 3)) := by decide +kernel
theorem dX8_reckon_0 : decode cX8_reckon 0 = .ok (.aload_n 0, 1) := dGR_12_c_193.1
theorem dX8_reckon_1 : decode cX8_reckon 1 = .ok (.aload_n 1, 1) := dGR_12_c_193.2.1
theorem dX8_reckon_2 : decode cX8_reckon 2 = .ok (.getfield 36, 3) := dGR_12_c_193.2.2.1
theorem dX8_reckon_5 : decode cX8_reckon 5 = .ok (.putfield 42, 3) := dGR_12_c_193.2.2.2.1
theorem dX8_reckon_8 : decode cX8_reckon 8 = .ok (.aload_n 0, 1) := dGR_12_c_193.2.2.2.2.1
theorem dX8_reckon_9 : decode cX8_reckon 9 = .ok (.aload_n 1, 1) := dGR_12_c_193.2.2.2.2.2.1
theorem dX8_reckon_10 : decode cX8_reckon 10 = .ok (.getfield 43, 3) := dGR_12_c_193.2.2.2.2.2.2.1
theorem dX8_reckon_13 : decode cX8_reckon 13 = .ok (.putfield 46, 3) := dGR_12_c_193.2.2.2.2.2.2.2.1
theorem dX8_reckon_16 : decode cX8_reckon 16 = .ok (.aload_n 0, 1) := dGR_12_c_193.2.2.2.2.2.2.2.2.1
theorem dX8_reckon_17 : decode cX8_reckon 17 = .ok (.aload_n 1, 1) := dGR_12_c_193.2.2.2.2.2.2.2.2.2.1
theorem dX8_reckon_18 : decode cX8_reckon 18 = .ok (.getfield 47, 3) := dGR_12_c_193.2.2.2.2.2.2.2.2.2.2.1
theorem dX8_reckon_21 : decode cX8_reckon 21 = .ok (.putfield 50, 3) := dGR_12_c_193.2.2.2.2.2.2.2.2.2.2.2
set_option maxRecDepth 100000 in
theorem dGR_12_c_194 : (decode cX8_reckon 24 = .ok (.aload_n 0, 1)) ∧ (decode cX8_reckon 25 = .ok (.aload_n 2, 1)) ∧ (decode cX8_reckon 26 = .ok (.iload_n 3, 1)) ∧ (decode cX8_reckon 27 = .ok (.invokevirtual 51, 3)) ∧ (decode cX8_reckon 30 = .ok (.aload_n 0, 1)) ∧ (decode cX8_reckon 31 = .ok (.getfield 30, 3)) ∧ (decode cX8_reckon 34 = .ok (.iconst 0, 1)) ∧ (decode cX8_reckon 35 = .ok (.invokestatic 55, 3)) ∧ (decode cX8_reckon 38 = .ok (.aload_n 0, 1)) ∧ (decode cX8_reckon 39 = .ok (.getfield 33, 3)) ∧ (decode cX8_reckon 42 = .ok (.iconst (-1), 1)) ∧ (decode cX8_reckon 43 = .ok (.invokestatic 55, 3)) := by decide +kernel
theorem dX8_reckon_24 : decode cX8_reckon 24 = .ok (.aload_n 0, 1) := dGR_12_c_194.1
theorem dX8_reckon_25 : decode cX8_reckon 25 = .ok (.aload_n 2, 1) := dGR_12_c_194.2.1
theorem dX8_reckon_26 : decode cX8_reckon 26 = .ok (.iload_n 3, 1) := dGR_12_c_194.2.2.1
theorem dX8_reckon_27 : decode cX8_reckon 27 = .ok (.invokevirtual 51, 3) := dGR_12_c_194.2.2.2.1
theorem dX8_reckon_30 : decode cX8_reckon 30 = .ok (.aload_n 0, 1) := dGR_12_c_194.2.2.2.2.1
theorem dX8_reckon_31 : decode cX8_reckon 31 = .ok (.getfield 30, 3) := dGR_12_c_194.2.2.2.2.2.1
theorem dX8_reckon_34 : decode cX8_reckon 34 = .ok (.iconst 0, 1) := dGR_12_c_194.2.2.2.2.2.2.1
theorem dX8_reckon_35 : decode cX8_reckon 35 = .ok (.invokestatic 55, 3) := dGR_12_c_194.2.2.2.2.2.2.2.1
theorem dX8_reckon_38 : decode cX8_reckon 38 = .ok (.aload_n 0, 1) := dGR_12_c_194.2.2.2.2.2.2.2.2.1
theorem dX8_reckon_39 : decode cX8_reckon 39 = .ok (.getfield 33, 3) := dGR_12_c_194.2.2.2.2.2.2.2.2.2.1
theorem dX8_reckon_42 : decode cX8_reckon 42 = .ok (.iconst (-1), 1) := dGR_12_c_194.2.2.2.2.2.2.2.2.2.2.1
theorem dX8_reckon_43 : decode cX8_reckon 43 = .ok (.invokestatic 55, 3) := dGR_12_c_194.2.2.2.2.2.2.2.2.2.2.2
set_option maxRecDepth 100000 in
theorem dGR_12_c_195 : (decode cX8_reckon 46 = .ok (.aload_n 0, 1)) ∧ (decode cX8_reckon 47 = .ok (.iconst 0, 1)) ∧ (decode cX8_reckon 48 = .ok (.iconst 0, 1)) ∧ (decode cX8_reckon 49 = .ok (.aload_n 2, 1)) ∧ (decode cX8_reckon 50 = .ok (.getfield 61, 3)) ∧ (decode cX8_reckon 53 = .ok (.iconst 1, 1)) ∧ (decode cX8_reckon 54 = .ok (.iconst 0, 1)) ∧ (decode cX8_reckon 55 = .ok (.invokevirtual 66, 3)) ∧ (decode cX8_reckon 58 = .ok (.iconst 0, 1)) ∧ (decode cX8_reckon 59 = .ok (.istore 4, 2)) ∧ (decode cX8_reckon 61 = .ok (.iload 4, 2)) ∧ (decode cX8_reckon 63 = .ok (.iload_n 3, 1)) := by decide +kernel
theorem dX8_reckon_46 : decode cX8_reckon 46 = .ok (.aload_n 0, 1) := dGR_12_c_195.1
theorem dX8_reckon_47 : decode cX8_reckon 47 = .ok (.iconst 0, 1) := dGR_12_c_195.2.1
theorem dX8_reckon_48 : decode cX8_reckon 48 = .ok (.iconst 0, 1) := dGR_12_c_195.2.2.1
theorem dX8_reckon_49 : decode cX8_reckon 49 = .ok (.aload_n 2, 1) := dGR_12_c_195.2.2.2.1
theorem dX8_reckon_50 : decode cX8_reckon 50 = .ok (.getfield 61, 3) := dGR_12_c_195.2.2.2.2.1
theorem dX8_reckon_53 : decode cX8_reckon 53 = .ok (.iconst 1, 1) := dGR_12_c_195.2.2.2.2.2.1
theorem dX8_reckon_54 : decode cX8_reckon 54 = .ok (.iconst 0, 1) := dGR_12_c_195.2.2.2.2.2.2.1
theorem dX8_reckon_55 : decode cX8_reckon 55 = .ok (.invokevirtual 66, 3) := dGR_12_c_195.2.2.2.2.2.2.2.1
theorem dX8_reckon_58 : decode cX8_reckon 58 = .ok (.iconst 0, 1) := dGR_12_c_195.2.2.2.2.2.2.2.2.1
theorem dX8_reckon_59 : decode cX8_reckon 59 = .ok (.istore 4, 2) := dGR_12_c_195.2.2.2.2.2.2.2.2.2.1
theorem dX8_reckon_61 : decode cX8_reckon 61 = .ok (.iload 4, 2) := dGR_12_c_195.2.2.2.2.2.2.2.2.2.2.1
theorem dX8_reckon_63 : decode cX8_reckon 63 = .ok (.iload_n 3, 1) := dGR_12_c_195.2.2.2.2.2.2.2.2.2.2.2
set_option maxRecDepth 100000 in
theorem dGR_12_c_196 : (decode cX8_reckon 64 = .ok (.if_icmp .ge 47, 3)) ∧ (decode cX8_reckon 67 = .ok (.iconst 1, 1)) ∧ (decode cX8_reckon 68 = .ok (.istore 5, 2)) ∧ (decode cX8_reckon 70 = .ok (.iload 5, 2)) ∧ (decode cX8_reckon 72 = .ok (.bipush 8, 2)) ∧ (decode cX8_reckon 74 = .ok (.if_icmp .ge 31, 3)) ∧ (decode cX8_reckon 77 = .ok (.aload_n 0, 1)) ∧ (decode cX8_reckon 78 = .ok (.aload_n 2, 1)) ∧ (decode cX8_reckon 79 = .ok (.iconst 0, 1)) ∧ (decode cX8_reckon 80 = .ok (.iload 4, 2)) ∧ (decode cX8_reckon 82 = .ok (.iload 5, 2)) ∧ (decode cX8_reckon 84 = .ok (.iload_n 3, 1)) := by decide +kernel
theorem dX8_reckon_64 : decode cX8_reckon 64 = .ok (.if_icmp .ge 47, 3) := dGR_12_c_196.1
theorem dX8_reckon_67 : decode cX8_reckon 67 = .ok (.iconst 1, 1) := dGR_12_c_196.2.1
theorem dX8_reckon_68 : decode cX8_reckon 68 = .ok (.istore 5, 2) := dGR_12_c_196.2.2.1
theorem dX8_reckon_70 : decode cX8_reckon 70 = .ok (.iload 5, 2) := dGR_12_c_196.2.2.2.1
theorem dX8_reckon_72 : decode cX8_reckon 72 = .ok (.bipush 8, 2) := dGR_12_c_196.2.2.2.2.1
theorem dX8_reckon_74 : decode cX8_reckon 74 = .ok (.if_icmp .ge 31, 3) := dGR_12_c_196.2.2.2.2.2.1
theorem dX8_reckon_77 : decode cX8_reckon 77 = .ok (.aload_n 0, 1) := dGR_12_c_196.2.2.2.2.2.2.1
theorem dX8_reckon_78 : decode cX8_reckon 78 = .ok (.aload_n 2, 1) := dGR_12_c_196.2.2.2.2.2.2.2.1
theorem dX8_reckon_79 : decode cX8_reckon 79 = .ok (.iconst 0, 1) := dGR_12_c_196.2.2.2.2.2.2.2.2.1
theorem dX8_reckon_80 : decode cX8_reckon 80 = .ok (.iload 4, 2) := dGR_12_c_196.2.2.2.2.2.2.2.2.2.1
theorem dX8_reckon_82 : decode cX8_reckon 82 = .ok (.iload 5, 2) := dGR_12_c_196.2.2.2.2.2.2.2.2.2.2.1
theorem dX8_reckon_84 : decode cX8_reckon 84 = .ok (.iload_n 3, 1) := dGR_12_c_196.2.2.2.2.2.2.2.2.2.2.2
set_option maxRecDepth 100000 in
theorem dGR_12_c_197 : (decode cX8_reckon 85 = .ok (.invokevirtual 70, 3)) ∧ (decode cX8_reckon 88 = .ok (.aload_n 0, 1)) ∧ (decode cX8_reckon 89 = .ok (.aload_n 2, 1)) ∧ (decode cX8_reckon 90 = .ok (.iconst 1, 1)) ∧ (decode cX8_reckon 91 = .ok (.iload 4, 2)) ∧ (decode cX8_reckon 93 = .ok (.iload 5, 2)) ∧ (decode cX8_reckon 95 = .ok (.iload_n 3, 1)) ∧ (decode cX8_reckon 96 = .ok (.invokevirtual 70, 3)) ∧ (decode cX8_reckon 99 = .ok (.iinc 5 1, 3)) ∧ (decode cX8_reckon 102 = .ok (.goto (-32), 3)) ∧ (decode cX8_reckon 105 = .ok (.iinc 4 1, 3)) ∧ (decode cX8_reckon 108 = .ok (.goto (-47), 3)) := by decide +kernel
theorem dX8_reckon_85 : decode cX8_reckon 85 = .ok (.invokevirtual 70, 3) := dGR_12_c_197.1
theorem dX8_reckon_88 : decode cX8_reckon 88 = .ok (.aload_n 0, 1) := dGR_12_c_197.2.1
theorem dX8_reckon_89 : decode cX8_reckon 89 = .ok (.aload_n 2, 1) := dGR_12_c_197.2.2.1
theorem dX8_reckon_90 : decode cX8_reckon 90 = .ok (.iconst 1, 1) := dGR_12_c_197.2.2.2.1
theorem dX8_reckon_91 : decode cX8_reckon 91 = .ok (.iload 4, 2) := dGR_12_c_197.2.2.2.2.1
theorem dX8_reckon_93 : decode cX8_reckon 93 = .ok (.iload 5, 2) := dGR_12_c_197.2.2.2.2.2.1
theorem dX8_reckon_95 : decode cX8_reckon 95 = .ok (.iload_n 3, 1) := dGR_12_c_197.2.2.2.2.2.2.1
theorem dX8_reckon_96 : decode cX8_reckon 96 = .ok (.invokevirtual 70, 3) := dGR_12_c_197.2.2.2.2.2.2.2.1
theorem dX8_reckon_99 : decode cX8_reckon 99 = .ok (.iinc 5 1, 3) := dGR_12_c_197.2.2.2.2.2.2.2.2.1
theorem dX8_reckon_102 : decode cX8_reckon 102 = .ok (.goto (-32), 3) := dGR_12_c_197.2.2.2.2.2.2.2.2.2.1
theorem dX8_reckon_105 : decode cX8_reckon 105 = .ok (.iinc 4 1, 3) := dGR_12_c_197.2.2.2.2.2.2.2.2.2.2.1
theorem dX8_reckon_108 : decode cX8_reckon 108 = .ok (.goto (-47), 3) := dGR_12_c_197.2.2.2.2.2.2.2.2.2.2.2
theorem dX8_reckon_111 : decode cX8_reckon 111 = .ok (.return_, 1) := by decide +kernel
abbrev f_c_X8_reckon : List (Nat × Int) := [(47, 0), (47, 1), (47, 2), (47, 3), (47, 7), (48, -1), (49, -1), (50, -1), (51, -1), (52, -1), (53, -1), (54, -1), (55, -1)]
set_option maxHeartbeats 4000000 in
set_option maxRecDepth 100000 in
theorem c_X8_reckon (G : KG) (l : Launch) (M : Mem) (c0 : Int) (c1 : Int) (c2 : Int) (a3 : Int) (hI_M : Inv false M) (hk_c0 : kd c0 = 47) (hk_c1 : kd c1 = 12) (hk_c2 : kd c2 = 1) (hpre : -2147483648 ≤ a3 ∧ a3 ≤ 2147483647 ∧ 0 ≤ a3 ∧ a3 ≤ 6) : KC false G l yX8_reckon cX8_reckon 6 none (4, 98) [vR G c0, vR G c1, vR G c2, vI a3] M (fun A => kQv false G A (fun (N : Mem) => Inv false N ∧ Fr f_c_X8_reckon M N)) := by
  refine kx_met (lo := [some (vR G c0), some (vR G c1), some (vR G c2), some (vI a3), none, none]) (by decide) (Nat.le_of_ble_eq_true rfl) rfl ?_
  intro X F hQ
  have hF_M : Fr f_c_X8_reckon M M := Fr.rf _ _
  refine kx_aload_n 1 F 0 dX8_reckon_0 rfl rfl rfl ?_
  refine kx_aload_n 2 F 1 dX8_reckon_1 rfl rfl rfl ?_
  refine kx_geti 5 F fl_X8_36 hk_c1 rfl rfl (j := 0) rfl dX8_reckon_2 (v := (M c1 0)) rfl rfl ?_
  have h_1 := Inv.g hI_M hk_c1 rfl 0 (a := 0) (b := 2) rfl rfl
  refine kx_puti 8 F fw_X8_42 rfl hk_c0 rfl rfl (j := 0) rfl dX8_reckon_5 rfl ?_
  intro N_2 hM_N_2
  have hI_N_2 : Inv false N_2 := Inv.u hI_M hM_N_2 hk_c0 (a := 0) (b := 2) rfl rfl rfl (by omega)
  have hF_N_2 : Fr f_c_X8_reckon M N_2 := Fr.u hF_M hM_N_2 hk_c0 rfl
  refine kx_aload_n 9 F 0 dX8_reckon_8 rfl rfl rfl ?_
  refine kx_aload_n 10 F 1 dX8_reckon_9 rfl rfl rfl ?_
  refine kx_geti 13 F fl_X8_43 hk_c1 rfl rfl (j := 1) rfl dX8_reckon_10 (v := (M c1 1)) (by rw [hM_N_2, mu_k hk_c1 hk_c0 rfl]) rfl ?_
  have h_3 := Inv.g hI_M hk_c1 rfl 1 (a := 0) (b := 4) rfl rfl
  refine kx_puti 16 F fw_X8_46 rfl hk_c0 rfl rfl (j := 1) rfl dX8_reckon_13 rfl ?_
  intro N_4 hM_N_4
  have hI_N_4 : Inv false N_4 := Inv.u hI_N_2 hM_N_4 hk_c0 (a := 0) (b := 4) rfl rfl rfl (by omega)
  have hF_N_4 : Fr f_c_X8_reckon M N_4 := Fr.u hF_N_2 hM_N_4 hk_c0 rfl
  refine kx_aload_n 17 F 0 dX8_reckon_16 rfl rfl rfl ?_
  refine kx_aload_n 18 F 1 dX8_reckon_17 rfl rfl rfl ?_
  refine kx_geti 21 F fl_X8_47 hk_c1 rfl rfl (j := 2) rfl dX8_reckon_18 (v := (M c1 2)) (by rw [hM_N_4, mu_k hk_c1 hk_c0 rfl, hM_N_2, mu_k hk_c1 hk_c0 rfl]) rfl ?_
  have h_5 := Inv.g hI_M hk_c1 rfl 2 (a := 0) (b := 6) rfl rfl
  refine kx_puti 24 F fw_X8_50 rfl hk_c0 rfl rfl (j := 2) rfl dX8_reckon_21 rfl ?_
  intro N_6 hM_N_6
  have hI_N_6 : Inv false N_6 := Inv.u hI_N_4 hM_N_6 hk_c0 (a := 0) (b := 6) rfl rfl rfl (by omega)
  have hF_N_6 : Fr f_c_X8_reckon M N_6 := Fr.u hF_N_4 hM_N_6 hk_c0 rfl
  refine kx_aload_n 25 F 0 dX8_reckon_24 rfl rfl rfl ?_
  refine kx_aload_n 26 F 2 dX8_reckon_25 rfl rfl rfl ?_
  refine kx_iload_n 27 F 3 dX8_reckon_26 rfl rfl rfl ?_
  refine kx_Vv 30 (ci := 0) F (As := [vR G c2, vI a3]) (st := []) vd_X8_51 (c_X8_listBlocks G l N_6 c0 c2 a3 hI_N_6 hk_c0 hk_c2 (by omega)) hk_c0 rfl rfl rfl ⟨by decide, by decide⟩ rfl rfl (Nat.le_of_ble_eq_true rfl) dX8_reckon_27 rfl ?_
  intro N_7 q_8
  obtain ⟨hI_N_7, hG_N_7⟩ := q_8
  have hF_N_7 : Fr f_c_X8_reckon M N_7 := Fr.c hF_N_6 hG_N_7 rfl
  refine kx_aload_n 31 F 0 dX8_reckon_30 rfl rfl rfl ?_
  refine kx_getr 34 F fl_X8_30 hk_c0 rfl rfl (j := 11) rfl dX8_reckon_31 (v := (M c0 11)) (by rw [Fr.e hG_N_7 hk_c0 _ rfl, hM_N_6, mu_i (by omega), hM_N_4, mu_i (by omega), hM_N_2, mu_i (by omega)]) rfl ?_
  have hk_9 : kd (M c0 11) = 54 := Inv.r hI_M hk_c0 rfl 11 rfl rfl
  refine kx_iconst 35 F dX8_reckon_34 rfl ?_
  refine kx_Sv 38 F (As := [vR G (M c0 11), vI 0]) (st := []) sd_X8_55 (c_fill_many G l N_7 (M c0 11) 0 hI_N_7 hk_9 (by omega)) ⟨by decide, by decide⟩ rfl rfl (Nat.le_of_ble_eq_true rfl) dX8_reckon_35 rfl ?_
  intro N_10 q_11
  obtain ⟨hI_N_10, hG_N_10⟩ := q_11
  have hF_N_10 : Fr f_c_X8_reckon M N_10 := Fr.c hF_N_7 hG_N_10 rfl
  refine kx_aload_n 39 F 0 dX8_reckon_38 rfl rfl rfl ?_
  refine kx_getr 42 F fl_X8_33 hk_c0 rfl rfl (j := 12) rfl dX8_reckon_39 (v := (M c0 12)) (by rw [Fr.e hG_N_10 hk_c0 _ rfl, Fr.e hG_N_7 hk_c0 _ rfl, hM_N_6, mu_i (by omega), hM_N_4, mu_i (by omega), hM_N_2, mu_i (by omega)]) rfl ?_
  have hk_12 : kd (M c0 12) = 55 := Inv.r hI_M hk_c0 rfl 12 rfl rfl
  refine kx_iconst 43 F dX8_reckon_42 rfl ?_
  refine kx_Sv 46 F (As := [vR G (M c0 12), vI (-1)]) (st := []) sd_X8_55 (c_fill_last G l N_10 (M c0 12) (-1) hI_N_10 hk_12 (by omega)) ⟨by decide, by decide⟩ rfl rfl (Nat.le_of_ble_eq_true rfl) dX8_reckon_43 rfl ?_
  intro N_13 q_14
  obtain ⟨hI_N_13, hG_N_13⟩ := q_14
  have hF_N_13 : Fr f_c_X8_reckon M N_13 := Fr.c hF_N_10 hG_N_13 rfl
  refine kx_aload_n 47 F 0 dX8_reckon_46 rfl rfl rfl ?_
  refine kx_iconst 48 F dX8_reckon_47 rfl ?_
  refine kx_iconst 49 F dX8_reckon_48 rfl ?_
  refine kx_aload_n 50 F 2 dX8_reckon_49 rfl rfl rfl ?_
  refine kx_geti 53 F fl_X8_61 hk_c2 rfl rfl (j := 2) rfl dX8_reckon_50 (v := (M c2 2)) (by rw [Fr.e hG_N_13 hk_c2 _ rfl, Fr.e hG_N_10 hk_c2 _ rfl, Fr.e hG_N_7 hk_c2 _ rfl, hM_N_6, mu_k hk_c2 hk_c0 rfl, hM_N_4, mu_k hk_c2 hk_c0 rfl, hM_N_2, mu_k hk_c2 hk_c0 rfl]) rfl ?_
  have h_15 := Inv.g hI_M hk_c2 rfl 2 (a := 0) (b := 7) rfl rfl
  refine kx_iconst 54 F dX8_reckon_53 rfl ?_
  refine kx_iconst 55 F dX8_reckon_54 rfl ?_
  refine kx_Vv 58 (ci := 0) F (As := [vI 0, vI 0, vI (M c2 2), vI 1, vI 0]) (st := []) vd_X8_66 (c_X8_lead G l N_13 c0 0 0 (M c2 2) 1 0 hI_N_13 hk_c0 (by omega)) hk_c0 rfl rfl rfl ⟨by decide, by decide⟩ rfl rfl (Nat.le_of_ble_eq_true rfl) dX8_reckon_55 rfl ?_
  intro N_16 q_17
  obtain ⟨hI_N_16, hG_N_16⟩ := q_17
  have hF_N_16 : Fr f_c_X8_reckon M N_16 := Fr.c hF_N_13 hG_N_16 rfl
  refine kx_iconst 59 F dX8_reckon_58 rfl ?_
  refine kx_istore 61 F 4 (lo' := [some (vR G c0), some (vR G c1), some (vR G c2), some (vI a3), some (vI 0), none]) dX8_reckon_59 (by decide) rfl rfl rfl ?_
  have L_468 : ∀ (n_469 : Nat) (x4_466 : Int) (N_467 : Mem), Inv false N_467 → Fr f_c_X8_reckon M N_467 → 0 ≤ x4_466 ∧ x4_466 ≤ 6 → (6 - (x4_466)).toNat = n_469 → KJ false G X N_467 61 [some (vR G c0), none, some (vR G c2), some (vI a3), some (vI x4_466), none] [] := by
    intro n_469
    refine Nat.strongRecOn n_469 ?_
    intro n_469 ih_470 x4_466 N_467 hI_N_467 hF_N_467 h_471 hm_472
    refine kx_iload 63 F 4 dX8_reckon_61 rfl rfl ?_
    refine kx_iload_n 64 F 3 dX8_reckon_63 rfl rfl rfl ?_
    refine kx_icmp_ge 67 F 111 dX8_reckon_64 (by decide) rfl (by omega) (by omega) (fun h_473 => ?_) (fun h_473 => ?_)
    · exact kx_vret F hQ ⟨hI_N_467, hF_N_467⟩ dX8_reckon_111
    · refine kx_iconst 68 F dX8_reckon_67 rfl ?_
      refine kx_istore 70 F 5 (lo' := [some (vR G c0), none, some (vR G c2), some (vI a3), some (vI x4_466), some (vI 1)]) dX8_reckon_68 (by decide) rfl rfl rfl ?_
      have L_525 : ∀ (n_526 : Nat) (x5_523 : Int) (N_524 : Mem), Inv false N_524 → Fr f_c_X8_reckon M N_524 → 1 ≤ x5_523 ∧ x5_523 ≤ 8 → (8 - (x5_523)).toNat = n_526 → KJ false G X N_524 70 [some (vR G c0), none, some (vR G c2), some (vI a3), some (vI x4_466), some (vI x5_523)] [] := by
        intro n_526
        refine Nat.strongRecOn n_526 ?_
        intro n_526 ih_527 x5_523 N_524 hI_N_524 hF_N_524 h_528 hm_529
        refine kx_iload 72 F 5 dX8_reckon_70 rfl rfl ?_
        refine kx_bipush 74 F dX8_reckon_72 (by decide) rfl ?_
        refine kx_icmp_ge 77 F 105 dX8_reckon_74 (by decide) rfl (by omega) (by decide) (fun h_530 => ?_) (fun h_530 => ?_)
        · refine kx_iinc 108 F 4 (v := x4_466 + 1) (lo' := [some (vR G c0), none, some (vR G c2), some (vI a3), some (vI (x4_466 + 1)), some (vI x5_523)]) dX8_reckon_105 rfl (by omega) (by decide) rfl rfl rfl ?_
          refine kx_goto 61 F dX8_reckon_108 (by decide) ?_
          refine kx_drop 5 (lo' := [some (vR G c0), none, some (vR G c2), some (vI a3), some (vI (x4_466 + 1)), none]) rfl ?_
          exact ih_470 _ (by omega) (x4_466 + 1) N_524 hI_N_524 hF_N_524 (by omega) rfl
        · refine kx_aload_n 78 F 0 dX8_reckon_77 rfl rfl rfl ?_
          refine kx_aload_n 79 F 2 dX8_reckon_78 rfl rfl rfl ?_
          refine kx_iconst 80 F dX8_reckon_79 rfl ?_
          refine kx_iload 82 F 4 dX8_reckon_80 rfl rfl ?_
          refine kx_iload 84 F 5 dX8_reckon_82 rfl rfl ?_
          refine kx_iload_n 85 F 3 dX8_reckon_84 rfl rfl rfl ?_
          refine kx_Vv 88 (ci := 0) F (As := [vR G c2, vI 0, vI x4_466, vI x5_523, vI a3]) (st := []) vd_X8_70 (c_X8_follow G l N_524 c0 c2 0 x4_466 x5_523 a3 hI_N_524 hk_c0 hk_c2 (by omega)) hk_c0 rfl rfl rfl ⟨by decide, by decide⟩ rfl rfl (Nat.le_of_ble_eq_true rfl) dX8_reckon_85 rfl ?_
          intro N_531 q_532
          obtain ⟨hI_N_531, hG_N_531⟩ := q_532
          have hF_N_531 : Fr f_c_X8_reckon M N_531 := Fr.c hF_N_524 hG_N_531 rfl
          refine kx_aload_n 89 F 0 dX8_reckon_88 rfl rfl rfl ?_
          refine kx_aload_n 90 F 2 dX8_reckon_89 rfl rfl rfl ?_
          refine kx_iconst 91 F dX8_reckon_90 rfl ?_
          refine kx_iload 93 F 4 dX8_reckon_91 rfl rfl ?_
          refine kx_iload 95 F 5 dX8_reckon_93 rfl rfl ?_
          refine kx_iload_n 96 F 3 dX8_reckon_95 rfl rfl rfl ?_
          refine kx_Vv 99 (ci := 0) F (As := [vR G c2, vI 1, vI x4_466, vI x5_523, vI a3]) (st := []) vd_X8_70 (c_X8_follow G l N_531 c0 c2 1 x4_466 x5_523 a3 hI_N_531 hk_c0 hk_c2 (by omega)) hk_c0 rfl rfl rfl ⟨by decide, by decide⟩ rfl rfl (Nat.le_of_ble_eq_true rfl) dX8_reckon_96 rfl ?_
          intro N_533 q_534
          obtain ⟨hI_N_533, hG_N_533⟩ := q_534
          have hF_N_533 : Fr f_c_X8_reckon M N_533 := Fr.c hF_N_531 hG_N_533 rfl
          refine kx_iinc 102 F 5 (v := x5_523 + 1) (lo' := [some (vR G c0), none, some (vR G c2), some (vI a3), some (vI x4_466), some (vI (x5_523 + 1))]) dX8_reckon_99 rfl (by omega) (by decide) rfl rfl rfl ?_
          refine kx_goto 70 F dX8_reckon_102 (by decide) ?_
          exact ih_527 _ (by omega) (x5_523 + 1) N_533 hI_N_533 hF_N_533 (by omega) rfl
      exact L_525 _ 1 N_467 hI_N_467 hF_N_467 (by omega) rfl
  refine kx_drop 1 (lo' := [some (vR G c0), none, some (vR G c2), some (vI a3), some (vI 0), none]) rfl ?_
  exact L_468 _ 0 N_16 hI_N_16 hF_N_16 (by omega) rfl
set_option maxRecDepth 100000 in
theorem dGR_12_c_198 : (decode cX8_taken 0 = .ok (.iconst 0, 1)) ∧ (decode cX8_taken 1 = .ok (.istore_n 3, 1)) ∧ (decode cX8_taken 2 = .ok (.iconst 1, 1)) ∧ (decode cX8_taken 3 = .ok (.istore 4, 2)) ∧ (decode cX8_taken 5 = .ok (.iload 4, 2)) ∧ (decode cX8_taken 7 = .ok (.bipush 8, 2)) ∧ (decode cX8_taken 9 = .ok (.if_icmp .ge 47, 3)) ∧ (decode cX8_taken 12 = .ok (.iload 4, 2)) ∧ (decode cX8_taken 14 = .ok (.aload_n 1, 1)) ∧ (decode cX8_taken 15 = .ok (.getfield 74, 3)) ∧ (decode cX8_taken 18 = .ok (.iand, 1)) ∧ (decode cX8_taken 19 = .ok (.ifCond .eq 31, 3)) := by decide +kernel
theorem dX8_taken_0 : decode cX8_taken 0 = .ok (.iconst 0, 1) := dGR_12_c_198.1
theorem dX8_taken_1 : decode cX8_taken 1 = .ok (.istore_n 3, 1) := dGR_12_c_198.2.1
theorem dX8_taken_2 : decode cX8_taken 2 = .ok (.iconst 1, 1) := dGR_12_c_198.2.2.1
theorem dX8_taken_3 : decode cX8_taken 3 = .ok (.istore 4, 2) := dGR_12_c_198.2.2.2.1
theorem dX8_taken_5 : decode cX8_taken 5 = .ok (.iload 4, 2) := dGR_12_c_198.2.2.2.2.1
theorem dX8_taken_7 : decode cX8_taken 7 = .ok (.bipush 8, 2) := dGR_12_c_198.2.2.2.2.2.1
theorem dX8_taken_9 : decode cX8_taken 9 = .ok (.if_icmp .ge 47, 3) := dGR_12_c_198.2.2.2.2.2.2.1
theorem dX8_taken_12 : decode cX8_taken 12 = .ok (.iload 4, 2) := dGR_12_c_198.2.2.2.2.2.2.2.1
theorem dX8_taken_14 : decode cX8_taken 14 = .ok (.aload_n 1, 1) := dGR_12_c_198.2.2.2.2.2.2.2.2.1
theorem dX8_taken_15 : decode cX8_taken 15 = .ok (.getfield 74, 3) := dGR_12_c_198.2.2.2.2.2.2.2.2.2.1
theorem dX8_taken_18 : decode cX8_taken 18 = .ok (.iand, 1) := dGR_12_c_198.2.2.2.2.2.2.2.2.2.2.1
theorem dX8_taken_19 : decode cX8_taken 19 = .ok (.ifCond .eq 31, 3) := dGR_12_c_198.2.2.2.2.2.2.2.2.2.2.2
set_option maxRecDepth 100000 in
theorem dGR_12_c_199 : (decode cX8_taken 22 = .ok (.iload_n 3, 1)) ∧ (decode cX8_taken 23 = .ok (.aload_n 0, 1)) ∧ (decode cX8_taken 24 = .ok (.getfield 30, 3)) ∧ (decode cX8_taken 27 = .ok (.iconst 0, 1)) ∧ (decode cX8_taken 28 = .ok (.iload_n 2, 1)) ∧ (decode cX8_taken 29 = .ok (.iload 4, 2)) ∧ (decode cX8_taken 31 = .ok (.invokestatic 77, 3)) ∧ (decode cX8_taken 34 = .ok (.iaload, 1)) ∧ (decode cX8_taken 35 = .ok (.aload_n 0, 1)) ∧ (decode cX8_taken 36 = .ok (.getfield 30, 3)) ∧ (decode cX8_taken 39 = .ok (.iconst 1, 1)) ∧ (decode cX8_taken 40 = .ok (.iload_n 2, 1)) := by decide +kernel
theorem dX8_taken_22 : decode cX8_taken 22 = .ok (.iload_n 3, 1) := dGR_12_c_199.1
theorem dX8_taken_23 : decode cX8_taken 23 = .ok (.aload_n 0, 1) := dGR_12_c_199.2.1
theorem dX8_taken_24 : decode cX8_taken 24 = .ok (.getfield 30, 3) := dGR_12_c_199.2.2.1
theorem dX8_taken_27 : decode cX8_taken 27 = .ok (.iconst 0, 1) := dGR_12_c_199.2.2.2.1
theorem dX8_taken_28 : decode cX8_taken 28 = .ok (.iload_n 2, 1) := dGR_12_c_199.2.2.2.2.1
theorem dX8_taken_29 : decode cX8_taken 29 = .ok (.iload 4, 2) := dGR_12_c_199.2.2.2.2.2.1
theorem dX8_taken_31 : decode cX8_taken 31 = .ok (.invokestatic 77, 3) := dGR_12_c_199.2.2.2.2.2.2.1
theorem dX8_taken_34 : decode cX8_taken 34 = .ok (.iaload, 1) := dGR_12_c_199.2.2.2.2.2.2.2.1
theorem dX8_taken_35 : decode cX8_taken 35 = .ok (.aload_n 0, 1) := dGR_12_c_199.2.2.2.2.2.2.2.2.1
theorem dX8_taken_36 : decode cX8_taken 36 = .ok (.getfield 30, 3) := dGR_12_c_199.2.2.2.2.2.2.2.2.2.1
theorem dX8_taken_39 : decode cX8_taken 39 = .ok (.iconst 1, 1) := dGR_12_c_199.2.2.2.2.2.2.2.2.2.2.1
theorem dX8_taken_40 : decode cX8_taken 40 = .ok (.iload_n 2, 1) := dGR_12_c_199.2.2.2.2.2.2.2.2.2.2.2
set_option maxRecDepth 100000 in
theorem dGR_12_c_200 : (decode cX8_taken 41 = .ok (.iload 4, 2)) ∧ (decode cX8_taken 43 = .ok (.invokestatic 77, 3)) ∧ (decode cX8_taken 46 = .ok (.iaload, 1)) ∧ (decode cX8_taken 47 = .ok (.iadd, 1)) ∧ (decode cX8_taken 48 = .ok (.iadd, 1)) ∧ (decode cX8_taken 49 = .ok (.istore_n 3, 1)) ∧ (decode cX8_taken 50 = .ok (.iinc 4 1, 3)) ∧ (decode cX8_taken 53 = .ok (.goto (-48), 3)) ∧ (decode cX8_taken 56 = .ok (.iload_n 3, 1)) ∧ (decode cX8_taken 57 = .ok (.ireturn, 1)) := by decide +kernel
theorem dX8_taken_41 : decode cX8_taken 41 = .ok (.iload 4, 2) := dGR_12_c_200.1
theorem dX8_taken_43 : decode cX8_taken 43 = .ok (.invokestatic 77, 3) := dGR_12_c_200.2.1
theorem dX8_taken_46 : decode cX8_taken 46 = .ok (.iaload, 1) := dGR_12_c_200.2.2.1
theorem dX8_taken_47 : decode cX8_taken 47 = .ok (.iadd, 1) := dGR_12_c_200.2.2.2.1
theorem dX8_taken_48 : decode cX8_taken 48 = .ok (.iadd, 1) := dGR_12_c_200.2.2.2.2.1
theorem dX8_taken_49 : decode cX8_taken 49 = .ok (.istore_n 3, 1) := dGR_12_c_200.2.2.2.2.2.1
theorem dX8_taken_50 : decode cX8_taken 50 = .ok (.iinc 4 1, 3) := dGR_12_c_200.2.2.2.2.2.2.1
theorem dX8_taken_53 : decode cX8_taken 53 = .ok (.goto (-48), 3) := dGR_12_c_200.2.2.2.2.2.2.2.1
theorem dX8_taken_56 : decode cX8_taken 56 = .ok (.iload_n 3, 1) := dGR_12_c_200.2.2.2.2.2.2.2.2.1
theorem dX8_taken_57 : decode cX8_taken 57 = .ok (.ireturn, 1) := dGR_12_c_200.2.2.2.2.2.2.2.2.2
set_option maxHeartbeats 4000000 in
set_option maxRecDepth 100000 in
theorem c_X8_taken (G : KG) (l : Launch) (M : Mem) (c0 : Int) (c1 : Int) (a2 : Int) (hI_M : Inv false M) (hk_c0 : kd c0 = 47) (hk_c1 : kd c1 = 1) (hpre : -2147483648 ≤ a2 ∧ a2 ≤ 2147483647 ∧ 0 ≤ a2 ∧ a2 ≤ 6) : KC false G l yX8_taken cX8_taken 5 (some .int) (1, 22) [vR G c0, vR G c1, vI a2] M (fun A => kQi false G A (fun (r : Int) (N : Mem) => M = N ∧ (r ≥ -2147483648 ∧ r ≤ 2147483647))) := by
  refine kx_met (lo := [some (vR G c0), some (vR G c1), some (vI a2), none, none]) (by decide) (Nat.le_of_ble_eq_true rfl) rfl ?_
  intro X F hQ
  refine kx_iconst 1 F dX8_taken_0 rfl ?_
  refine kx_istore_n 2 F 3 (lo' := [some (vR G c0), some (vR G c1), some (vI a2), some (vI 0), none]) dX8_taken_1 rfl (by decide) rfl rfl rfl ?_
  refine kx_iconst 3 F dX8_taken_2 rfl ?_
  refine kx_istore 5 F 4 (lo' := [some (vR G c0), some (vR G c1), some (vI a2), some (vI 0), some (vI 1)]) dX8_taken_3 (by decide) rfl rfl rfl ?_
  have L_134 : ∀ (n_135 : Nat) (x3_132 : Int) (x4_133 : Int), (-2147483648) ≤ x3_132 ∧ x3_132 ≤ 2147483647 ∧ 1 ≤ x4_133 ∧ x4_133 ≤ 8 → (8 - (x4_133)).toNat = n_135 → KJ false G X M 5 [some (vR G c0), some (vR G c1), some (vI a2), some (vI x3_132), some (vI x4_133)] [] := by
    intro n_135
    refine Nat.strongRecOn n_135 ?_
    intro n_135 ih_136 x3_132 x4_133 h_137 hm_138
    refine kx_iload 7 F 4 dX8_taken_5 rfl rfl ?_
    refine kx_bipush 9 F dX8_taken_7 (by decide) rfl ?_
    refine kx_icmp_ge 12 F 56 dX8_taken_9 (by decide) rfl (by omega) (by decide) (fun h_139 => ?_) (fun h_139 => ?_)
    · refine kx_iload_n 57 F 3 dX8_taken_56 rfl rfl rfl ?_
      exact kx_iret F hQ ⟨rfl, (by omega)⟩ dX8_taken_57
    · refine kx_iload 14 F 4 dX8_taken_12 rfl rfl ?_
      refine kx_aload_n 15 F 1 dX8_taken_14 rfl rfl rfl ?_
      refine kx_geti 18 F fl_X8_74 hk_c1 rfl rfl (j := 3) rfl dX8_taken_15 (v := (M c1 3)) rfl rfl ?_
      have h_140 := Inv.g hI_M hk_c1 rfl 3 (a := 0) (b := 7) rfl rfl
      refine kx_iand 19 F (v := (zand x4_133 (M c1 3))) dX8_taken_18 rfl rfl ?_
      have h_141 := zand_r (a := x4_133) (b := (M c1 3)) (by omega)
      have J_157 : ∀ (x3_156 : Int), (-2147483648) ≤ x3_156 ∧ x3_156 ≤ 2147483647 → KJ false G X M 50 [some (vR G c0), some (vR G c1), some (vI a2), some (vI x3_156), some (vI x4_133)] [] := by
        intro x3_156 h_158
        refine kx_iinc 53 F 4 (v := x4_133 + 1) (lo' := [some (vR G c0), some (vR G c1), some (vI a2), some (vI x3_156), some (vI (x4_133 + 1))]) dX8_taken_50 rfl (by omega) (by decide) rfl rfl rfl ?_
        refine kx_goto 5 F dX8_taken_53 (by decide) ?_
        exact ih_136 _ (by omega) x3_156 (x4_133 + 1) (by omega) rfl
      refine kx_if_eq 22 F 50 dX8_taken_19 (by decide) rfl (by omega) (fun h_159 => ?_) (fun h_159 => ?_)
      · exact J_157 x3_132 (by omega)
      · refine kx_iload_n 23 F 3 dX8_taken_22 rfl rfl rfl ?_
        refine kx_aload_n 24 F 0 dX8_taken_23 rfl rfl rfl ?_
        refine kx_getr 27 F fl_X8_30 hk_c0 rfl rfl (j := 11) rfl dX8_taken_24 (v := (M c0 11)) rfl rfl ?_
        have hk_160 : kd (M c0 11) = 54 := Inv.r hI_M hk_c0 rfl 11 rfl rfl
        refine kx_iconst 28 F dX8_taken_27 rfl ?_
        refine kx_iload_n 29 F 2 dX8_taken_28 rfl rfl rfl ?_
        refine kx_iload 31 F 4 dX8_taken_29 rfl rfl ?_
        refine kx_Si 34 F (As := [vI 0, vI a2, vI x4_133]) (st := [vR G (M c0 11), vI x3_132]) sd_X8_77 (c_X8_placeOf G l M 0 a2 x4_133 hI_M (by omega)) ⟨by decide, by decide⟩ rfl rfl (Nat.le_of_ble_eq_true rfl) dX8_taken_31 rfl ?_
        intro r_161 N_162 q_163
        obtain ⟨rfl, q_163c⟩ := q_163
        refine kx_iald 35 F hk_160 rfl rfl (by omega) (by decide) dX8_taken_34 (v := (M (M c0 11) r_161)) rfl rfl ?_
        have h_164 := Inv.g hI_M hk_160 rfl r_161 (a := (-2147483648)) (b := 2147483647) rfl rfl
        refine kx_aload_n 36 F 0 dX8_taken_35 rfl rfl rfl ?_
        refine kx_getr 39 F fl_X8_30 hk_c0 rfl rfl (j := 11) rfl dX8_taken_36 (v := (M c0 11)) rfl rfl ?_
        refine kx_iconst 40 F dX8_taken_39 rfl ?_
        refine kx_iload_n 41 F 2 dX8_taken_40 rfl rfl rfl ?_
        refine kx_iload 43 F 4 dX8_taken_41 rfl rfl ?_
        refine kx_Si 46 F (As := [vI 1, vI a2, vI x4_133]) (st := [vR G (M c0 11), vI (M (M c0 11) r_161), vI x3_132]) sd_X8_77 (c_X8_placeOf G l M 1 a2 x4_133 hI_M (by omega)) ⟨by decide, by decide⟩ rfl rfl (Nat.le_of_ble_eq_true rfl) dX8_taken_43 rfl ?_
        intro r_165 N_166 q_167
        obtain ⟨rfl, q_167c⟩ := q_167
        refine kx_iald 47 F hk_160 rfl rfl (by omega) (by decide) dX8_taken_46 (v := (M (M c0 11) r_165)) rfl rfl ?_
        have h_168 := Inv.g hI_M hk_160 rfl r_165 (a := (-2147483648)) (b := 2147483647) rfl rfl
        refine kx_iadd 48 F (v := (M (M c0 11) r_161) + (M (M c0 11) r_165)) dX8_taken_47 rfl rfl ?_
        refine kx_wrapi (fun w_169 h_170 _ => ?_)
        refine kx_iadd 49 F (v := x3_132 + w_169) dX8_taken_48 rfl rfl ?_
        refine kx_wrapi (fun w_171 h_172 _ => ?_)
        refine kx_istore_n 50 F 3 (lo' := [some (vR G c0), some (vR G c1), some (vI a2), some (vI w_171), some (vI x4_133)]) dX8_taken_49 rfl (by decide) rfl rfl rfl ?_
        exact J_157 w_171 (by omega)
  exact L_134 _ 0 1 (by omega) rfl
set_option maxRecDepth 100000 in
theorem dGR_12_c_201 : (decode cX8_lastTaken 0 = .ok (.iconst (-1), 1)) ∧ (decode cX8_lastTaken 1 = .ok (.istore_n 3, 1)) ∧ (decode cX8_lastTaken 2 = .ok (.iconst 1, 1)) ∧ (decode cX8_lastTaken 3 = .ok (.istore 4, 2)) ∧ (decode cX8_lastTaken 5 = .ok (.iload 4, 2)) ∧ (decode cX8_lastTaken 7 = .ok (.bipush 8, 2)) ∧ (decode cX8_lastTaken 9 = .ok (.if_icmp .ge 55, 3)) ∧ (decode cX8_lastTaken 12 = .ok (.iload 4, 2)) ∧ (decode cX8_lastTaken 14 = .ok (.aload_n 1, 1)) ∧ (decode cX8_lastTaken 15 = .ok (.getfield 74, 3)) ∧ (decode cX8_lastTaken 18 = .ok (.iand, 1)) ∧ (decode cX8_lastTaken 19 = .ok (.ifCond .eq 39, 3)) := by decide +kernel
theorem dX8_lastTaken_0 : decode cX8_lastTaken 0 = .ok (.iconst (-1), 1) := dGR_12_c_201.1
theorem dX8_lastTaken_1 : decode cX8_lastTaken 1 = .ok (.istore_n 3, 1) := dGR_12_c_201.2.1
theorem dX8_lastTaken_2 : decode cX8_lastTaken 2 = .ok (.iconst 1, 1) := dGR_12_c_201.2.2.1
theorem dX8_lastTaken_3 : decode cX8_lastTaken 3 = .ok (.istore 4, 2) := dGR_12_c_201.2.2.2.1
theorem dX8_lastTaken_5 : decode cX8_lastTaken 5 = .ok (.iload 4, 2) := dGR_12_c_201.2.2.2.2.1
theorem dX8_lastTaken_7 : decode cX8_lastTaken 7 = .ok (.bipush 8, 2) := dGR_12_c_201.2.2.2.2.2.1
theorem dX8_lastTaken_9 : decode cX8_lastTaken 9 = .ok (.if_icmp .ge 55, 3) := dGR_12_c_201.2.2.2.2.2.2.1
theorem dX8_lastTaken_12 : decode cX8_lastTaken 12 = .ok (.iload 4, 2) := dGR_12_c_201.2.2.2.2.2.2.2.1
theorem dX8_lastTaken_14 : decode cX8_lastTaken 14 = .ok (.aload_n 1, 1) := dGR_12_c_201.2.2.2.2.2.2.2.2.1
theorem dX8_lastTaken_15 : decode cX8_lastTaken 15 = .ok (.getfield 74, 3) := dGR_12_c_201.2.2.2.2.2.2.2.2.2.1
theorem dX8_lastTaken_18 : decode cX8_lastTaken 18 = .ok (.iand, 1) := dGR_12_c_201.2.2.2.2.2.2.2.2.2.2.1
theorem dX8_lastTaken_19 : decode cX8_lastTaken 19 = .ok (.ifCond .eq 39, 3) := dGR_12_c_201.2.2.2.2.2.2.2.2.2.2.2
set_option maxRecDepth 100000 in
theorem dGR_12_c_202 : (decode cX8_lastTaken 22 = .ok (.aload_n 0, 1)) ∧ (decode cX8_lastTaken 23 = .ok (.getfield 33, 3)) ∧ (decode cX8_lastTaken 26 = .ok (.iconst 0, 1)) ∧ (decode cX8_lastTaken 27 = .ok (.iload_n 2, 1)) ∧ (decode cX8_lastTaken 28 = .ok (.iload 4, 2)) ∧ (decode cX8_lastTaken 30 = .ok (.invokestatic 77, 3)) ∧ (decode cX8_lastTaken 33 = .ok (.iaload, 1)) ∧ (decode cX8_lastTaken 34 = .ok (.aload_n 0, 1)) ∧ (decode cX8_lastTaken 35 = .ok (.getfield 33, 3)) ∧ (decode cX8_lastTaken 38 = .ok (.iconst 1, 1)) ∧ (decode cX8_lastTaken 39 = .ok (.iload_n 2, 1)) ∧ (decode cX8_lastTaken 40 = .ok (.iload 4, 2)) := by decide +kernel
theorem dX8_lastTaken_22 : decode cX8_lastTaken 22 = .ok (.aload_n 0, 1) := dGR_12_c_202.1
theorem dX8_lastTaken_23 : decode cX8_lastTaken 23 = .ok (.getfield 33, 3) := dGR_12_c_202.2.1
theorem dX8_lastTaken_26 : decode cX8_lastTaken 26 = .ok (.iconst 0, 1) := dGR_12_c_202.2.2.1
theorem dX8_lastTaken_27 : decode cX8_lastTaken 27 = .ok (.iload_n 2, 1) := dGR_12_c_202.2.2.2.1
theorem dX8_lastTaken_28 : decode cX8_lastTaken 28 = .ok (.iload 4, 2) := dGR_12_c_202.2.2.2.2.1
theorem dX8_lastTaken_30 : decode cX8_lastTaken 30 = .ok (.invokestatic 77, 3) := dGR_12_c_202.2.2.2.2.2.1
theorem dX8_lastTaken_33 : decode cX8_lastTaken 33 = .ok (.iaload, 1) := dGR_12_c_202.2.2.2.2.2.2.1
theorem dX8_lastTaken_34 : decode cX8_lastTaken 34 = .ok (.aload_n 0, 1) := dGR_12_c_202.2.2.2.2.2.2.2.1
theorem dX8_lastTaken_35 : decode cX8_lastTaken 35 = .ok (.getfield 33, 3) := dGR_12_c_202.2.2.2.2.2.2.2.2.1
theorem dX8_lastTaken_38 : decode cX8_lastTaken 38 = .ok (.iconst 1, 1) := dGR_12_c_202.2.2.2.2.2.2.2.2.2.1
theorem dX8_lastTaken_39 : decode cX8_lastTaken 39 = .ok (.iload_n 2, 1) := dGR_12_c_202.2.2.2.2.2.2.2.2.2.2.1
theorem dX8_lastTaken_40 : decode cX8_lastTaken 40 = .ok (.iload 4, 2) := dGR_12_c_202.2.2.2.2.2.2.2.2.2.2.2
set_option maxRecDepth 100000 in
theorem dGR_12_c_203 : (decode cX8_lastTaken 42 = .ok (.invokestatic 77, 3)) ∧ (decode cX8_lastTaken 45 = .ok (.iaload, 1)) ∧ (decode cX8_lastTaken 46 = .ok (.invokestatic 81, 3)) ∧ (decode cX8_lastTaken 49 = .ok (.istore 5, 2)) ∧ (decode cX8_lastTaken 51 = .ok (.iload_n 3, 1)) ∧ (decode cX8_lastTaken 52 = .ok (.iload 5, 2)) ∧ (decode cX8_lastTaken 54 = .ok (.invokestatic 81, 3)) ∧ (decode cX8_lastTaken 57 = .ok (.istore_n 3, 1)) ∧ (decode cX8_lastTaken 58 = .ok (.iinc 4 1, 3)) ∧ (decode cX8_lastTaken 61 = .ok (.goto (-56), 3)) ∧ (decode cX8_lastTaken 64 = .ok (.iload_n 3, 1)) ∧ (decode cX8_lastTaken 65 = .ok (.ireturn, 1)) := by decide +kernel
theorem dX8_lastTaken_42 : decode cX8_lastTaken 42 = .ok (.invokestatic 77, 3) := dGR_12_c_203.1
theorem dX8_lastTaken_45 : decode cX8_lastTaken 45 = .ok (.iaload, 1) := dGR_12_c_203.2.1
theorem dX8_lastTaken_46 : decode cX8_lastTaken 46 = .ok (.invokestatic 81, 3) := dGR_12_c_203.2.2.1
theorem dX8_lastTaken_49 : decode cX8_lastTaken 49 = .ok (.istore 5, 2) := dGR_12_c_203.2.2.2.1
theorem dX8_lastTaken_51 : decode cX8_lastTaken 51 = .ok (.iload_n 3, 1) := dGR_12_c_203.2.2.2.2.1
theorem dX8_lastTaken_52 : decode cX8_lastTaken 52 = .ok (.iload 5, 2) := dGR_12_c_203.2.2.2.2.2.1
theorem dX8_lastTaken_54 : decode cX8_lastTaken 54 = .ok (.invokestatic 81, 3) := dGR_12_c_203.2.2.2.2.2.2.1
theorem dX8_lastTaken_57 : decode cX8_lastTaken 57 = .ok (.istore_n 3, 1) := dGR_12_c_203.2.2.2.2.2.2.2.1
theorem dX8_lastTaken_58 : decode cX8_lastTaken 58 = .ok (.iinc 4 1, 3) := dGR_12_c_203.2.2.2.2.2.2.2.2.1
theorem dX8_lastTaken_61 : decode cX8_lastTaken 61 = .ok (.goto (-56), 3) := dGR_12_c_203.2.2.2.2.2.2.2.2.2.1
theorem dX8_lastTaken_64 : decode cX8_lastTaken 64 = .ok (.iload_n 3, 1) := dGR_12_c_203.2.2.2.2.2.2.2.2.2.2.1
theorem dX8_lastTaken_65 : decode cX8_lastTaken 65 = .ok (.ireturn, 1) := dGR_12_c_203.2.2.2.2.2.2.2.2.2.2.2
set_option maxHeartbeats 4000000 in
set_option maxRecDepth 100000 in
theorem c_X8_lastTaken (G : KG) (l : Launch) (M : Mem) (c0 : Int) (c1 : Int) (a2 : Int) (hI_M : Inv false M) (hk_c0 : kd c0 = 47) (hk_c1 : kd c1 = 1) (hpre : -2147483648 ≤ a2 ∧ a2 ≤ 2147483647 ∧ 0 ≤ a2 ∧ a2 ≤ 6) : KC false G l yX8_lastTaken cX8_lastTaken 6 (some .int) (1, 22) [vR G c0, vR G c1, vI a2] M (fun A => kQi false G A (fun (r : Int) (N : Mem) => M = N ∧ (r ≥ -1 ∧ r ≤ 2147483647))) := by
  refine kx_met (lo := [some (vR G c0), some (vR G c1), some (vI a2), none, none, none]) (by decide) (Nat.le_of_ble_eq_true rfl) rfl ?_
  intro X F hQ
  refine kx_iconst 1 F dX8_lastTaken_0 rfl ?_
  refine kx_istore_n 2 F 3 (lo' := [some (vR G c0), some (vR G c1), some (vI a2), some (vI (-1)), none, none]) dX8_lastTaken_1 rfl (by decide) rfl rfl rfl ?_
  refine kx_iconst 3 F dX8_lastTaken_2 rfl ?_
  refine kx_istore 5 F 4 (lo' := [some (vR G c0), some (vR G c1), some (vI a2), some (vI (-1)), some (vI 1), none]) dX8_lastTaken_3 (by decide) rfl rfl rfl ?_
  have L_136 : ∀ (n_137 : Nat) (x3_134 : Int) (x4_135 : Int), (-1) ≤ x3_134 ∧ x3_134 ≤ 2147483647 ∧ 1 ≤ x4_135 ∧ x4_135 ≤ 8 → (8 - (x4_135)).toNat = n_137 → KJ false G X M 5 [some (vR G c0), some (vR G c1), some (vI a2), some (vI x3_134), some (vI x4_135), none] [] := by
    intro n_137
    refine Nat.strongRecOn n_137 ?_
    intro n_137 ih_138 x3_134 x4_135 h_139 hm_140
    refine kx_iload 7 F 4 dX8_lastTaken_5 rfl rfl ?_
    refine kx_bipush 9 F dX8_lastTaken_7 (by decide) rfl ?_
    refine kx_icmp_ge 12 F 64 dX8_lastTaken_9 (by decide) rfl (by omega) (by decide) (fun h_141 => ?_) (fun h_141 => ?_)
    · refine kx_iload_n 65 F 3 dX8_lastTaken_64 rfl rfl rfl ?_
      exact kx_iret F hQ ⟨rfl, (by omega)⟩ dX8_lastTaken_65
    · refine kx_iload 14 F 4 dX8_lastTaken_12 rfl rfl ?_
      refine kx_aload_n 15 F 1 dX8_lastTaken_14 rfl rfl rfl ?_
      refine kx_geti 18 F fl_X8_74 hk_c1 rfl rfl (j := 3) rfl dX8_lastTaken_15 (v := (M c1 3)) rfl rfl ?_
      have h_142 := Inv.g hI_M hk_c1 rfl 3 (a := 0) (b := 7) rfl rfl
      refine kx_iand 19 F (v := (zand x4_135 (M c1 3))) dX8_lastTaken_18 rfl rfl ?_
      have h_143 := zand_r (a := x4_135) (b := (M c1 3)) (by omega)
      have J_159 : ∀ (x3_158 : Int), (-1) ≤ x3_158 ∧ x3_158 ≤ 2147483647 → KJ false G X M 58 [some (vR G c0), some (vR G c1), some (vI a2), some (vI x3_158), some (vI x4_135), none] [] := by
        intro x3_158 h_160
        refine kx_iinc 61 F 4 (v := x4_135 + 1) (lo' := [some (vR G c0), some (vR G c1), some (vI a2), some (vI x3_158), some (vI (x4_135 + 1)), none]) dX8_lastTaken_58 rfl (by omega) (by decide) rfl rfl rfl ?_
        refine kx_goto 5 F dX8_lastTaken_61 (by decide) ?_
        exact ih_138 _ (by omega) x3_158 (x4_135 + 1) (by omega) rfl
      refine kx_if_eq 22 F 58 dX8_lastTaken_19 (by decide) rfl (by omega) (fun h_161 => ?_) (fun h_161 => ?_)
      · exact J_159 x3_134 (by omega)
      · refine kx_aload_n 23 F 0 dX8_lastTaken_22 rfl rfl rfl ?_
        refine kx_getr 26 F fl_X8_33 hk_c0 rfl rfl (j := 12) rfl dX8_lastTaken_23 (v := (M c0 12)) rfl rfl ?_
        have hk_162 : kd (M c0 12) = 55 := Inv.r hI_M hk_c0 rfl 12 rfl rfl
        refine kx_iconst 27 F dX8_lastTaken_26 rfl ?_
        refine kx_iload_n 28 F 2 dX8_lastTaken_27 rfl rfl rfl ?_
        refine kx_iload 30 F 4 dX8_lastTaken_28 rfl rfl ?_
        refine kx_Si 33 F (As := [vI 0, vI a2, vI x4_135]) (st := [vR G (M c0 12)]) sd_X8_77 (c_X8_placeOf G l M 0 a2 x4_135 hI_M (by omega)) ⟨by decide, by decide⟩ rfl rfl (Nat.le_of_ble_eq_true rfl) dX8_lastTaken_30 rfl ?_
        intro r_163 N_164 q_165
        obtain ⟨rfl, q_165c⟩ := q_165
        refine kx_iald 34 F hk_162 rfl rfl (by omega) (by decide) dX8_lastTaken_33 (v := (M (M c0 12) r_163)) rfl rfl ?_
        have h_166 := Inv.g hI_M hk_162 rfl r_163 (a := (-2147483648)) (b := 2147483647) rfl rfl
        refine kx_aload_n 35 F 0 dX8_lastTaken_34 rfl rfl rfl ?_
        refine kx_getr 38 F fl_X8_33 hk_c0 rfl rfl (j := 12) rfl dX8_lastTaken_35 (v := (M c0 12)) rfl rfl ?_
        refine kx_iconst 39 F dX8_lastTaken_38 rfl ?_
        refine kx_iload_n 40 F 2 dX8_lastTaken_39 rfl rfl rfl ?_
        refine kx_iload 42 F 4 dX8_lastTaken_40 rfl rfl ?_
        refine kx_Si 45 F (As := [vI 1, vI a2, vI x4_135]) (st := [vR G (M c0 12), vI (M (M c0 12) r_163)]) sd_X8_77 (c_X8_placeOf G l M 1 a2 x4_135 hI_M (by omega)) ⟨by decide, by decide⟩ rfl rfl (Nat.le_of_ble_eq_true rfl) dX8_lastTaken_42 rfl ?_
        intro r_167 N_168 q_169
        obtain ⟨rfl, q_169c⟩ := q_169
        refine kx_iald 46 F hk_162 rfl rfl (by omega) (by decide) dX8_lastTaken_45 (v := (M (M c0 12) r_167)) rfl rfl ?_
        have h_170 := Inv.g hI_M hk_162 rfl r_167 (a := (-2147483648)) (b := 2147483647) rfl rfl
        refine kx_mmax 49 F dX8_lastTaken_46 (tt lm_1510 rfl) (tt lm_480 rfl) (tt lm_180 rfl) (tt lm_481 rfl) (by decide) (Nat.le_of_ble_eq_true rfl) (by omega) (by omega) rfl (fun w_171 h_172 => ?_)
        refine kx_istore 51 F 5 (lo' := [some (vR G c0), some (vR G c1), some (vI a2), some (vI x3_134), some (vI x4_135), some (vI w_171)]) dX8_lastTaken_49 (by decide) rfl rfl rfl ?_
        refine kx_iload_n 52 F 3 dX8_lastTaken_51 rfl rfl rfl ?_
        refine kx_iload 54 F 5 dX8_lastTaken_52 rfl rfl ?_
        refine kx_mmax 57 F dX8_lastTaken_54 (tt lm_1510 rfl) (tt lm_480 rfl) (tt lm_180 rfl) (tt lm_481 rfl) (by decide) (Nat.le_of_ble_eq_true rfl) (by omega) (by omega) rfl (fun w_173 h_174 => ?_)
        refine kx_istore_n 58 F 3 (lo' := [some (vR G c0), some (vR G c1), some (vI a2), some (vI w_173), some (vI x4_135), some (vI w_171)]) dX8_lastTaken_57 rfl (by decide) rfl rfl rfl ?_
        refine kx_drop 5 (lo' := [some (vR G c0), some (vR G c1), some (vI a2), some (vI w_173), some (vI x4_135), none]) rfl ?_
        exact J_159 w_173 (by omega)
  exact L_136 _ (-1) 1 (by omega) rfl
set_option maxRecDepth 100000 in
theorem dGR_12_c_204 : (decode cX3_setIdentity 0 = .ok (.iconst 0, 1)) ∧ (decode cX3_setIdentity 1 = .ok (.istore_n 1, 1)) ∧ (decode cX3_setIdentity 2 = .ok (.iload_n 1, 1)) ∧ (decode cX3_setIdentity 3 = .ok (.bipush 9, 2)) ∧ (decode cX3_setIdentity 5 = .ok (.if_icmp .ge 26, 3)) ∧ (decode cX3_setIdentity 8 = .ok (.aload_n 0, 1)) ∧ (decode cX3_setIdentity 9 = .ok (.getfield 11, 3)) ∧ (decode cX3_setIdentity 12 = .ok (.iload_n 1, 1)) ∧ (decode cX3_setIdentity 13 = .ok (.iload_n 1, 1)) ∧ (decode cX3_setIdentity 14 = .ok (.iconst 4, 1)) ∧ (decode cX3_setIdentity 15 = .ok (.irem, 1)) ∧ (decode cX3_setIdentity 16 = .ok (.ifCond .ne 7, 3)) := by decide +kernel
theorem dX3_setIdentity_0 : decode cX3_setIdentity 0 = .ok (.iconst 0, 1) := dGR_12_c_204.1
theorem dX3_setIdentity_1 : decode cX3_setIdentity 1 = .ok (.istore_n 1, 1) := dGR_12_c_204.2.1
theorem dX3_setIdentity_2 : decode cX3_setIdentity 2 = .ok (.iload_n 1, 1) := dGR_12_c_204.2.2.1
theorem dX3_setIdentity_3 : decode cX3_setIdentity 3 = .ok (.bipush 9, 2) := dGR_12_c_204.2.2.2.1
theorem dX3_setIdentity_5 : decode cX3_setIdentity 5 = .ok (.if_icmp .ge 26, 3) := dGR_12_c_204.2.2.2.2.1
theorem dX3_setIdentity_8 : decode cX3_setIdentity 8 = .ok (.aload_n 0, 1) := dGR_12_c_204.2.2.2.2.2.1
theorem dX3_setIdentity_9 : decode cX3_setIdentity 9 = .ok (.getfield 11, 3) := dGR_12_c_204.2.2.2.2.2.2.1
theorem dX3_setIdentity_12 : decode cX3_setIdentity 12 = .ok (.iload_n 1, 1) := dGR_12_c_204.2.2.2.2.2.2.2.1
theorem dX3_setIdentity_13 : decode cX3_setIdentity 13 = .ok (.iload_n 1, 1) := dGR_12_c_204.2.2.2.2.2.2.2.2.1
theorem dX3_setIdentity_14 : decode cX3_setIdentity 14 = .ok (.iconst 4, 1) := dGR_12_c_204.2.2.2.2.2.2.2.2.2.1
theorem dX3_setIdentity_15 : decode cX3_setIdentity 15 = .ok (.irem, 1) := dGR_12_c_204.2.2.2.2.2.2.2.2.2.2.1
theorem dX3_setIdentity_16 : decode cX3_setIdentity 16 = .ok (.ifCond .ne 7, 3) := dGR_12_c_204.2.2.2.2.2.2.2.2.2.2.2
set_option maxRecDepth 100000 in
theorem dGR_12_c_205 : (decode cX3_setIdentity 19 = .ok (.lconst 1, 1)) ∧ (decode cX3_setIdentity 20 = .ok (.goto 4, 3)) ∧ (decode cX3_setIdentity 23 = .ok (.lconst 0, 1)) ∧ (decode cX3_setIdentity 24 = .ok (.lastore, 1)) ∧ (decode cX3_setIdentity 25 = .ok (.iinc 1 1, 3)) ∧ (decode cX3_setIdentity 28 = .ok (.goto (-26), 3)) ∧ (decode cX3_setIdentity 31 = .ok (.return_, 1)) := by decide +kernel
theorem dX3_setIdentity_19 : decode cX3_setIdentity 19 = .ok (.lconst 1, 1) := dGR_12_c_205.1
theorem dX3_setIdentity_20 : decode cX3_setIdentity 20 = .ok (.goto 4, 3) := dGR_12_c_205.2.1
theorem dX3_setIdentity_23 : decode cX3_setIdentity 23 = .ok (.lconst 0, 1) := dGR_12_c_205.2.2.1
theorem dX3_setIdentity_24 : decode cX3_setIdentity 24 = .ok (.lastore, 1) := dGR_12_c_205.2.2.2.1
theorem dX3_setIdentity_25 : decode cX3_setIdentity 25 = .ok (.iinc 1 1, 3) := dGR_12_c_205.2.2.2.2.1
theorem dX3_setIdentity_28 : decode cX3_setIdentity 28 = .ok (.goto (-26), 3) := dGR_12_c_205.2.2.2.2.2.1
theorem dX3_setIdentity_31 : decode cX3_setIdentity 31 = .ok (.return_, 1) := dGR_12_c_205.2.2.2.2.2.2
abbrev f_c_X3_setIdentity : List (Nat × Int) := [(57, -1)]
set_option maxHeartbeats 4000000 in
set_option maxRecDepth 100000 in
theorem c_X3_setIdentity (G : KG) (l : Launch) (M : Mem) (c0 : Int) (hI_M : Inv false M) (hk_c0 : kd c0 = 56) : KC false G l yX3_setIdentity cX3_setIdentity 2 none (0, 0) [vR G c0] M (fun A => kQv false G A (fun (N : Mem) => Inv false N ∧ Fr f_c_X3_setIdentity M N)) := by
  refine kx_met (lo := [some (vR G c0), none]) (by decide) (Nat.le_of_ble_eq_true rfl) rfl ?_
  intro X F hQ
  have hF_M : Fr f_c_X3_setIdentity M M := Fr.rf _ _
  refine kx_iconst 1 F dX3_setIdentity_0 rfl ?_
  refine kx_istore_n 2 F 1 (lo' := [some (vR G c0), some (vI 0)]) dX3_setIdentity_1 rfl (by decide) rfl rfl rfl ?_
  have L_51 : ∀ (n_52 : Nat) (x1_49 : Int) (N_50 : Mem), Inv false N_50 → Fr f_c_X3_setIdentity M N_50 → 0 ≤ x1_49 ∧ x1_49 ≤ 9 → (9 - (x1_49)).toNat = n_52 → KJ false G X N_50 2 [some (vR G c0), some (vI x1_49)] [] := by
    intro n_52
    refine Nat.strongRecOn n_52 ?_
    intro n_52 ih_53 x1_49 N_50 hI_N_50 hF_N_50 h_54 hm_55
    refine kx_iload_n 3 F 1 dX3_setIdentity_2 rfl rfl rfl ?_
    refine kx_bipush 5 F dX3_setIdentity_3 (by decide) rfl ?_
    refine kx_icmp_ge 8 F 31 dX3_setIdentity_5 (by decide) rfl (by omega) (by decide) (fun h_56 => ?_) (fun h_56 => ?_)
    · exact kx_vret F hQ ⟨hI_N_50, hF_N_50⟩ dX3_setIdentity_31
    · refine kx_aload_n 9 F 0 dX3_setIdentity_8 rfl rfl rfl ?_
      refine kx_getr 12 F fl_X3_11 hk_c0 rfl rfl (j := 1) rfl dX3_setIdentity_9 (v := (M c0 1)) (by rw [Fr.e hF_N_50 hk_c0 _ rfl]) rfl ?_
      have hk_57 : kd (M c0 1) = 57 := Inv.r hI_M hk_c0 rfl 1 rfl rfl
      refine kx_iload_n 13 F 1 dX3_setIdentity_12 rfl rfl rfl ?_
      refine kx_iload_n 14 F 1 dX3_setIdentity_13 rfl rfl rfl ?_
      refine kx_iconst 15 F dX3_setIdentity_14 rfl ?_
      refine kx_irem 16 F (v := (x1_49 % 4)) dX3_setIdentity_15 (by omega) (by decide) rfl rfl ?_
      have J_61 : ∀ (y0_60 : Int), 0 ≤ y0_60 ∧ y0_60 ≤ 1 → KJ false G X N_50 24 [some (vR G c0), some (vI x1_49)] [vL y0_60, vI x1_49, vR G (M c0 1)] := by
        intro y0_60 h_62
        refine kx_last 25 F hk_57 rfl rfl (by omega) (by decide) dX3_setIdentity_24 rfl ?_
        intro N_63 hM_N_63
        have hI_N_63 : Inv false N_63 := Inv.u hI_N_50 hM_N_63 hk_57 (a := (-9223372036854775808)) (b := 9223372036854775807) rfl rfl rfl (by omega)
        have hF_N_63 : Fr f_c_X3_setIdentity M N_63 := Fr.u hF_N_50 hM_N_63 hk_57 rfl
        refine kx_iinc 28 F 1 (v := x1_49 + 1) (lo' := [some (vR G c0), some (vI (x1_49 + 1))]) dX3_setIdentity_25 rfl (by omega) (by decide) rfl rfl rfl ?_
        refine kx_goto 2 F dX3_setIdentity_28 (by decide) ?_
        exact ih_53 _ (by omega) (x1_49 + 1) N_63 hI_N_63 hF_N_63 (by omega) rfl
      refine kx_if_ne 19 F 23 dX3_setIdentity_16 (by decide) rfl (by omega) (fun h_64 => ?_) (fun h_64 => ?_)
      · refine kx_lconst 24 (z := 0) F dX3_setIdentity_23 (by decide) rfl ?_
        exact J_61 0 (by omega)
      · refine kx_lconst 20 (z := 1) F dX3_setIdentity_19 (by decide) rfl ?_
        refine kx_goto 24 F dX3_setIdentity_20 (by decide) ?_
        exact J_61 1 (by omega)
  exact L_51 _ 0 M hI_M hF_M (by omega) rfl
set_option maxRecDepth 100000 in
theorem dGR_12_c_206 : (decode cX3_begin 0 = .ok (.aload_n 0, 1)) ∧ (decode cX3_begin 1 = .ok (.iconst 0, 1)) ∧ (decode cX3_begin 2 = .ok (.putfield 31, 3)) ∧ (decode cX3_begin 5 = .ok (.aload_n 0, 1)) ∧ (decode cX3_begin 6 = .ok (.invokevirtual 35, 3)) ∧ (decode cX3_begin 9 = .ok (.return_, 1)) := by decide +kernel
theorem dX3_begin_0 : decode cX3_begin 0 = .ok (.aload_n 0, 1) := dGR_12_c_206.1
theorem dX3_begin_1 : decode cX3_begin 1 = .ok (.iconst 0, 1) := dGR_12_c_206.2.1
theorem dX3_begin_2 : decode cX3_begin 2 = .ok (.putfield 31, 3) := dGR_12_c_206.2.2.1
theorem dX3_begin_5 : decode cX3_begin 5 = .ok (.aload_n 0, 1) := dGR_12_c_206.2.2.2.1
theorem dX3_begin_6 : decode cX3_begin 6 = .ok (.invokevirtual 35, 3) := dGR_12_c_206.2.2.2.2.1
theorem dX3_begin_9 : decode cX3_begin 9 = .ok (.return_, 1) := dGR_12_c_206.2.2.2.2.2
abbrev f_c_X3_begin : List (Nat × Int) := [(56, 0), (57, -1)]
set_option maxHeartbeats 4000000 in
set_option maxRecDepth 100000 in
theorem c_X3_begin (G : KG) (l : Launch) (M : Mem) (c0 : Int) (hI_M : Inv false M) (hk_c0 : kd c0 = 56) : KC false G l yX3_begin cX3_begin 1 none (1, 21) [vR G c0] M (fun A => kQv false G A (fun (N : Mem) => Inv false N ∧ Fr f_c_X3_begin M N)) := by
  refine kx_met (lo := [some (vR G c0)]) (by decide) (Nat.le_of_ble_eq_true rfl) rfl ?_
  intro X F hQ
  have hF_M : Fr f_c_X3_begin M M := Fr.rf _ _
  refine kx_aload_n 1 F 0 dX3_begin_0 rfl rfl rfl ?_
  refine kx_iconst 2 F dX3_begin_1 rfl ?_
  refine kx_puti 5 F fw_X3_31 rfl hk_c0 rfl rfl (j := 0) rfl dX3_begin_2 rfl ?_
  intro N_1 hM_N_1
  have hI_N_1 : Inv false N_1 := Inv.u hI_M hM_N_1 hk_c0 (a := 0) (b := 20) rfl rfl rfl (by omega)
  have hF_N_1 : Fr f_c_X3_begin M N_1 := Fr.u hF_M hM_N_1 hk_c0 rfl
  refine kx_aload_n 6 F 0 dX3_begin_5 rfl rfl rfl ?_
  refine kx_Vv 9 (ci := 0) F (As := []) (st := []) vd_X3_35 (c_X3_setIdentity G l N_1 c0 hI_N_1 hk_c0) hk_c0 rfl rfl rfl ⟨by decide, by decide⟩ rfl rfl (Nat.le_of_ble_eq_true rfl) dX3_begin_6 rfl ?_
  intro N_2 q_3
  obtain ⟨hI_N_2, hG_N_2⟩ := q_3
  have hF_N_2 : Fr f_c_X3_begin M N_2 := Fr.c hF_N_1 hG_N_2 rfl
  exact kx_vret F hQ ⟨hI_N_2, hF_N_2⟩ dX3_begin_9
set_option maxRecDepth 100000 in
theorem dGR_12_c_207 : (decode cX3_addColumn 0 = .ok (.iconst 0, 1)) ∧ (decode cX3_addColumn 1 = .ok (.istore 5, 2)) ∧ (decode cX3_addColumn 3 = .ok (.iload 5, 2)) ∧ (decode cX3_addColumn 5 = .ok (.iconst 3, 1)) ∧ (decode cX3_addColumn 6 = .ok (.if_icmp .ge 34, 3)) ∧ (decode cX3_addColumn 9 = .ok (.aload_n 0, 1)) ∧ (decode cX3_addColumn 10 = .ok (.getfield 15, 3)) ∧ (decode cX3_addColumn 13 = .ok (.iconst 3, 1)) ∧ (decode cX3_addColumn 14 = .ok (.iload 5, 2)) ∧ (decode cX3_addColumn 16 = .ok (.imul, 1)) ∧ (decode cX3_addColumn 17 = .ok (.iload 4, 2)) ∧ (decode cX3_addColumn 19 = .ok (.iadd, 1)) := by decide +kernel
theorem dX3_addColumn_0 : decode cX3_addColumn 0 = .ok (.iconst 0, 1) := dGR_12_c_207.1
theorem dX3_addColumn_1 : decode cX3_addColumn 1 = .ok (.istore 5, 2) := dGR_12_c_207.2.1
theorem dX3_addColumn_3 : decode cX3_addColumn 3 = .ok (.iload 5, 2) := dGR_12_c_207.2.2.1
theorem dX3_addColumn_5 : decode cX3_addColumn 5 = .ok (.iconst 3, 1) := dGR_12_c_207.2.2.2.1
theorem dX3_addColumn_6 : decode cX3_addColumn 6 = .ok (.if_icmp .ge 34, 3) := dGR_12_c_207.2.2.2.2.1
theorem dX3_addColumn_9 : decode cX3_addColumn 9 = .ok (.aload_n 0, 1) := dGR_12_c_207.2.2.2.2.2.1
theorem dX3_addColumn_10 : decode cX3_addColumn 10 = .ok (.getfield 15, 3) := dGR_12_c_207.2.2.2.2.2.2.1
theorem dX3_addColumn_13 : decode cX3_addColumn 13 = .ok (.iconst 3, 1) := dGR_12_c_207.2.2.2.2.2.2.2.1
theorem dX3_addColumn_14 : decode cX3_addColumn 14 = .ok (.iload 5, 2) := dGR_12_c_207.2.2.2.2.2.2.2.2.1
theorem dX3_addColumn_16 : decode cX3_addColumn 16 = .ok (.imul, 1) := dGR_12_c_207.2.2.2.2.2.2.2.2.2.1
theorem dX3_addColumn_17 : decode cX3_addColumn 17 = .ok (.iload 4, 2) := dGR_12_c_207.2.2.2.2.2.2.2.2.2.2.1
theorem dX3_addColumn_19 : decode cX3_addColumn 19 = .ok (.iadd, 1) := dGR_12_c_207.2.2.2.2.2.2.2.2.2.2.2
set_option maxRecDepth 100000 in
theorem dGR_12_c_208 : (decode cX3_addColumn 20 = .ok (.dup2, 1)) ∧ (decode cX3_addColumn 21 = .ok (.laload, 1)) ∧ (decode cX3_addColumn 22 = .ok (.aload_n 1, 1)) ∧ (decode cX3_addColumn 23 = .ok (.iload_n 2, 1)) ∧ (decode cX3_addColumn 24 = .ok (.iconst 3, 1)) ∧ (decode cX3_addColumn 25 = .ok (.iload 5, 2)) ∧ (decode cX3_addColumn 27 = .ok (.imul, 1)) ∧ (decode cX3_addColumn 28 = .ok (.iadd, 1)) ∧ (decode cX3_addColumn 29 = .ok (.iload_n 3, 1)) ∧ (decode cX3_addColumn 30 = .ok (.iadd, 1)) ∧ (decode cX3_addColumn 31 = .ok (.laload, 1)) ∧ (decode cX3_addColumn 32 = .ok (.ladd, 1)) := by decide +kernel
theorem dX3_addColumn_20 : decode cX3_addColumn 20 = .ok (.dup2, 1) := dGR_12_c_208.1
theorem dX3_addColumn_21 : decode cX3_addColumn 21 = .ok (.laload, 1) := dGR_12_c_208.2.1
theorem dX3_addColumn_22 : decode cX3_addColumn 22 = .ok (.aload_n 1, 1) := dGR_12_c_208.2.2.1
theorem dX3_addColumn_23 : decode cX3_addColumn 23 = .ok (.iload_n 2, 1) := dGR_12_c_208.2.2.2.1
theorem dX3_addColumn_24 : decode cX3_addColumn 24 = .ok (.iconst 3, 1) := dGR_12_c_208.2.2.2.2.1
theorem dX3_addColumn_25 : decode cX3_addColumn 25 = .ok (.iload 5, 2) := dGR_12_c_208.2.2.2.2.2.1
theorem dX3_addColumn_27 : decode cX3_addColumn 27 = .ok (.imul, 1) := dGR_12_c_208.2.2.2.2.2.2.1
theorem dX3_addColumn_28 : decode cX3_addColumn 28 = .ok (.iadd, 1) := dGR_12_c_208.2.2.2.2.2.2.2.1
theorem dX3_addColumn_29 : decode cX3_addColumn 29 = .ok (.iload_n 3, 1) := dGR_12_c_208.2.2.2.2.2.2.2.2.1
theorem dX3_addColumn_30 : decode cX3_addColumn 30 = .ok (.iadd, 1) := dGR_12_c_208.2.2.2.2.2.2.2.2.2.1
theorem dX3_addColumn_31 : decode cX3_addColumn 31 = .ok (.laload, 1) := dGR_12_c_208.2.2.2.2.2.2.2.2.2.2.1
theorem dX3_addColumn_32 : decode cX3_addColumn 32 = .ok (.ladd, 1) := dGR_12_c_208.2.2.2.2.2.2.2.2.2.2.2
set_option maxRecDepth 100000 in
theorem dGR_12_c_209 : (decode cX3_addColumn 33 = .ok (.lastore, 1)) ∧ (decode cX3_addColumn 34 = .ok (.iinc 5 1, 3)) ∧ (decode cX3_addColumn 37 = .ok (.goto (-34), 3)) ∧ (decode cX3_addColumn 40 = .ok (.return_, 1)) := by decide +kernel
theorem dX3_addColumn_33 : decode cX3_addColumn 33 = .ok (.lastore, 1) := dGR_12_c_209.1
theorem dX3_addColumn_34 : decode cX3_addColumn 34 = .ok (.iinc 5 1, 3) := dGR_12_c_209.2.1
theorem dX3_addColumn_37 : decode cX3_addColumn 37 = .ok (.goto (-34), 3) := dGR_12_c_209.2.2.1
theorem dX3_addColumn_40 : decode cX3_addColumn 40 = .ok (.return_, 1) := dGR_12_c_209.2.2.2
abbrev f_c_X3_addColumn : List (Nat × Int) := [(58, -1)]
set_option maxHeartbeats 4000000 in
set_option maxRecDepth 100000 in
theorem c_X3_addColumn (G : KG) (l : Launch) (M : Mem) (c0 : Int) (c1 : Int) (a2 : Int) (a3 : Int) (a4 : Int) (hI_M : Inv false M) (hk_c0 : kd c0 = 56) (hk_c1 : kd c1 = 57) (hpre : -2147483648 ≤ a2 ∧ a2 ≤ 2147483647 ∧ -2147483648 ≤ a3 ∧ a3 ≤ 2147483647 ∧ -2147483648 ≤ a4 ∧ a4 ≤ 2147483647 ∧ a2 = 0 ∧ 0 ≤ a3 ∧ a3 ≤ 2 ∧ 0 ≤ a4 ∧ a4 ≤ 2) : KC false G l yX3_addColumn cX3_addColumn 6 none (0, 0) [vR G c0, vR G c1, vI a2, vI a3, vI a4] M (fun A => kQv false G A (fun (N : Mem) => Inv false N ∧ Fr f_c_X3_addColumn M N)) := by
  refine kx_met (lo := [some (vR G c0), some (vR G c1), some (vI a2), some (vI a3), some (vI a4), none]) (by decide) (Nat.le_of_ble_eq_true rfl) rfl ?_
  intro X F hQ
  have hF_M : Fr f_c_X3_addColumn M M := Fr.rf _ _
  refine kx_iconst 1 F dX3_addColumn_0 rfl ?_
  refine kx_istore 3 F 5 (lo' := [some (vR G c0), some (vR G c1), some (vI a2), some (vI a3), some (vI a4), some (vI 0)]) dX3_addColumn_1 (by decide) rfl rfl rfl ?_
  have L_39 : ∀ (n_40 : Nat) (x5_37 : Int) (N_38 : Mem), Inv false N_38 → Fr f_c_X3_addColumn M N_38 → 0 ≤ x5_37 ∧ x5_37 ≤ 3 → (3 - (x5_37)).toNat = n_40 → KJ false G X N_38 3 [some (vR G c0), some (vR G c1), some (vI a2), some (vI a3), some (vI a4), some (vI x5_37)] [] := by
    intro n_40
    refine Nat.strongRecOn n_40 ?_
    intro n_40 ih_41 x5_37 N_38 hI_N_38 hF_N_38 h_42 hm_43
    refine kx_iload 5 F 5 dX3_addColumn_3 rfl rfl ?_
    refine kx_iconst 6 F dX3_addColumn_5 rfl ?_
    refine kx_icmp_ge 9 F 40 dX3_addColumn_6 (by decide) rfl (by omega) (by decide) (fun h_44 => ?_) (fun h_44 => ?_)
    · exact kx_vret F hQ ⟨hI_N_38, hF_N_38⟩ dX3_addColumn_40
    · refine kx_aload_n 10 F 0 dX3_addColumn_9 rfl rfl rfl ?_
      refine kx_getr 13 F fl_X3_15 hk_c0 rfl rfl (j := 2) rfl dX3_addColumn_10 (v := (M c0 2)) (by rw [Fr.e hF_N_38 hk_c0 _ rfl]) rfl ?_
      have hk_45 : kd (M c0 2) = 58 := Inv.r hI_M hk_c0 rfl 2 rfl rfl
      refine kx_iconst 14 F dX3_addColumn_13 rfl ?_
      refine kx_iload 16 F 5 dX3_addColumn_14 rfl rfl ?_
      refine kx_imul 17 F (v := 3 * x5_37) dX3_addColumn_16 (by omega) rfl ?_
      refine kx_iload 19 F 4 dX3_addColumn_17 rfl rfl ?_
      refine kx_iadd 20 F (v := 3 * x5_37 + a4) dX3_addColumn_19 rfl rfl ?_
      refine kx_dup2 21 F dX3_addColumn_20 rfl rfl rfl ?_
      refine kx_lald 22 F hk_45 rfl rfl (by omega) (by decide) dX3_addColumn_21 (v := (N_38 (M c0 2) (3 * x5_37 + a4))) rfl rfl ?_
      have h_46 := Inv.g hI_N_38 hk_45 rfl (3 * x5_37 + a4) (a := (-9223372036854775808)) (b := 9223372036854775807) rfl rfl
      refine kx_aload_n 23 F 1 dX3_addColumn_22 rfl rfl rfl ?_
      refine kx_iload_n 24 F 2 dX3_addColumn_23 rfl rfl rfl ?_
      refine kx_iconst 25 F dX3_addColumn_24 rfl ?_
      refine kx_iload 27 F 5 dX3_addColumn_25 rfl rfl ?_
      refine kx_imul 28 F (v := 3 * x5_37) dX3_addColumn_27 (by omega) rfl ?_
      refine kx_iadd 29 F (v := a2 + 3 * x5_37) dX3_addColumn_28 (by omega) rfl ?_
      refine kx_iload_n 30 F 3 dX3_addColumn_29 rfl rfl rfl ?_
      refine kx_iadd 31 F (v := a2 + 3 * x5_37 + a3) dX3_addColumn_30 rfl rfl ?_
      refine kx_lald 32 F hk_c1 rfl rfl (by omega) (by decide) dX3_addColumn_31 (v := (M c1 (a2 + 3 * x5_37 + a3))) (by rw [Fr.e hF_N_38 hk_c1 _ rfl]) rfl ?_
      have h_47 := Inv.g hI_M hk_c1 rfl (a2 + 3 * x5_37 + a3) (a := (-9223372036854775808)) (b := 9223372036854775807) rfl rfl
      refine kx_ladd 33 F (v := (N_38 (M c0 2) (3 * x5_37 + a4)) + (M c1 (a2 + 3 * x5_37 + a3))) dX3_addColumn_32 rfl rfl ?_
      refine kx_wrapl (fun w_48 h_49 _ => ?_)
      refine kx_last 34 F hk_45 rfl rfl (by omega) (by decide) dX3_addColumn_33 rfl ?_
      intro N_50 hM_N_50
      have hI_N_50 : Inv false N_50 := Inv.u hI_N_38 hM_N_50 hk_45 (a := (-9223372036854775808)) (b := 9223372036854775807) rfl rfl rfl (by omega)
      have hF_N_50 : Fr f_c_X3_addColumn M N_50 := Fr.u hF_N_38 hM_N_50 hk_45 rfl
      refine kx_iinc 37 F 5 (v := x5_37 + 1) (lo' := [some (vR G c0), some (vR G c1), some (vI a2), some (vI a3), some (vI a4), some (vI (x5_37 + 1))]) dX3_addColumn_34 rfl (by omega) (by decide) rfl rfl rfl ?_
      refine kx_goto 3 F dX3_addColumn_37 (by decide) ?_
      exact ih_41 _ (by omega) (x5_37 + 1) N_50 hI_N_50 hF_N_50 (by omega) rfl
  exact L_39 _ 0 M hI_M hF_M (by omega) rfl
set_option maxRecDepth 100000 in
theorem dGR_12_c_210 : (decode cX3_goAlong 0 = .ok (.aload_n 0, 1)) ∧ (decode cX3_goAlong 1 = .ok (.getfield 15, 3)) ∧ (decode cX3_goAlong 4 = .ok (.lconst 0, 1)) ∧ (decode cX3_goAlong 5 = .ok (.invokestatic 52, 3)) ∧ (decode cX3_goAlong 8 = .ok (.iconst 0, 1)) ∧ (decode cX3_goAlong 9 = .ok (.istore_n 3, 1)) ∧ (decode cX3_goAlong 10 = .ok (.iload_n 3, 1)) ∧ (decode cX3_goAlong 11 = .ok (.aload_n 1, 1)) ∧ (decode cX3_goAlong 12 = .ok (.getfield 58, 3)) ∧ (decode cX3_goAlong 15 = .ok (.if_icmp .ge 50, 3)) ∧ (decode cX3_goAlong 18 = .ok (.aload_n 1, 1)) ∧ (decode cX3_goAlong 19 = .ok (.getfield 63, 3)) := by decide +kernel
theorem dX3_goAlong_0 : decode cX3_goAlong 0 = .ok (.aload_n 0, 1) := dGR_12_c_210.1
theorem dX3_goAlong_1 : decode cX3_goAlong 1 = .ok (.getfield 15, 3) := dGR_12_c_210.2.1
theorem dX3_goAlong_4 : decode cX3_goAlong 4 = .ok (.lconst 0, 1) := dGR_12_c_210.2.2.1
theorem dX3_goAlong_5 : decode cX3_goAlong 5 = .ok (.invokestatic 52, 3) := dGR_12_c_210.2.2.2.1
theorem dX3_goAlong_8 : decode cX3_goAlong 8 = .ok (.iconst 0, 1) := dGR_12_c_210.2.2.2.2.1
theorem dX3_goAlong_9 : decode cX3_goAlong 9 = .ok (.istore_n 3, 1) := dGR_12_c_210.2.2.2.2.2.1
theorem dX3_goAlong_10 : decode cX3_goAlong 10 = .ok (.iload_n 3, 1) := dGR_12_c_210.2.2.2.2.2.2.1
theorem dX3_goAlong_11 : decode cX3_goAlong 11 = .ok (.aload_n 1, 1) := dGR_12_c_210.2.2.2.2.2.2.2.1
theorem dX3_goAlong_12 : decode cX3_goAlong 12 = .ok (.getfield 58, 3) := dGR_12_c_210.2.2.2.2.2.2.2.2.1
theorem dX3_goAlong_15 : decode cX3_goAlong 15 = .ok (.if_icmp .ge 50, 3) := dGR_12_c_210.2.2.2.2.2.2.2.2.2.1
theorem dX3_goAlong_18 : decode cX3_goAlong 18 = .ok (.aload_n 1, 1) := dGR_12_c_210.2.2.2.2.2.2.2.2.2.2.1
theorem dX3_goAlong_19 : decode cX3_goAlong 19 = .ok (.getfield 63, 3) := dGR_12_c_210.2.2.2.2.2.2.2.2.2.2.2
set_option maxRecDepth 100000 in
theorem dGR_12_c_211 : (decode cX3_goAlong 22 = .ok (.iload_n 3, 1)) ∧ (decode cX3_goAlong 23 = .ok (.iaload, 1)) ∧ (decode cX3_goAlong 24 = .ok (.iload_n 2, 1)) ∧ (decode cX3_goAlong 25 = .ok (.if_icmp .ne 34, 3)) ∧ (decode cX3_goAlong 28 = .ok (.aload_n 1, 1)) ∧ (decode cX3_goAlong 29 = .ok (.getfield 66, 3)) ∧ (decode cX3_goAlong 32 = .ok (.iload_n 3, 1)) ∧ (decode cX3_goAlong 33 = .ok (.iaload, 1)) ∧ (decode cX3_goAlong 34 = .ok (.iconst (-1), 1)) ∧ (decode cX3_goAlong 35 = .ok (.if_icmp .ne 24, 3)) ∧ (decode cX3_goAlong 38 = .ok (.aload_n 0, 1)) ∧ (decode cX3_goAlong 39 = .ok (.aload_n 0, 1)) := by decide +kernel
theorem dX3_goAlong_22 : decode cX3_goAlong 22 = .ok (.iload_n 3, 1) := dGR_12_c_211.1
theorem dX3_goAlong_23 : decode cX3_goAlong 23 = .ok (.iaload, 1) := dGR_12_c_211.2.1
theorem dX3_goAlong_24 : decode cX3_goAlong 24 = .ok (.iload_n 2, 1) := dGR_12_c_211.2.2.1
theorem dX3_goAlong_25 : decode cX3_goAlong 25 = .ok (.if_icmp .ne 34, 3) := dGR_12_c_211.2.2.2.1
theorem dX3_goAlong_28 : decode cX3_goAlong 28 = .ok (.aload_n 1, 1) := dGR_12_c_211.2.2.2.2.1
theorem dX3_goAlong_29 : decode cX3_goAlong 29 = .ok (.getfield 66, 3) := dGR_12_c_211.2.2.2.2.2.1
theorem dX3_goAlong_32 : decode cX3_goAlong 32 = .ok (.iload_n 3, 1) := dGR_12_c_211.2.2.2.2.2.2.1
theorem dX3_goAlong_33 : decode cX3_goAlong 33 = .ok (.iaload, 1) := dGR_12_c_211.2.2.2.2.2.2.2.1
theorem dX3_goAlong_34 : decode cX3_goAlong 34 = .ok (.iconst (-1), 1) := dGR_12_c_211.2.2.2.2.2.2.2.2.1
theorem dX3_goAlong_35 : decode cX3_goAlong 35 = .ok (.if_icmp .ne 24, 3) := dGR_12_c_211.2.2.2.2.2.2.2.2.2.1
theorem dX3_goAlong_38 : decode cX3_goAlong 38 = .ok (.aload_n 0, 1) := dGR_12_c_211.2.2.2.2.2.2.2.2.2.2.1
theorem dX3_goAlong_39 : decode cX3_goAlong 39 = .ok (.aload_n 0, 1) := dGR_12_c_211.2.2.2.2.2.2.2.2.2.2.2
set_option maxRecDepth 100000 in
theorem dGR_12_c_212 : (decode cX3_goAlong 40 = .ok (.getfield 11, 3)) ∧ (decode cX3_goAlong 43 = .ok (.iconst 0, 1)) ∧ (decode cX3_goAlong 44 = .ok (.aload_n 1, 1)) ∧ (decode cX3_goAlong 45 = .ok (.getfield 69, 3)) ∧ (decode cX3_goAlong 48 = .ok (.iload_n 3, 1)) ∧ (decode cX3_goAlong 49 = .ok (.iaload, 1)) ∧ (decode cX3_goAlong 50 = .ok (.aload_n 1, 1)) ∧ (decode cX3_goAlong 51 = .ok (.getfield 72, 3)) ∧ (decode cX3_goAlong 54 = .ok (.iload_n 3, 1)) ∧ (decode cX3_goAlong 55 = .ok (.iaload, 1)) ∧ (decode cX3_goAlong 56 = .ok (.invokevirtual 75, 3)) ∧ (decode cX3_goAlong 59 = .ok (.iinc 3 1, 3)) := by decide +kernel
theorem dX3_goAlong_40 : decode cX3_goAlong 40 = .ok (.getfield 11, 3) := dGR_12_c_212.1
theorem dX3_goAlong_43 : decode cX3_goAlong 43 = .ok (.iconst 0, 1) := dGR_12_c_212.2.1
theorem dX3_goAlong_44 : decode cX3_goAlong 44 = .ok (.aload_n 1, 1) := dGR_12_c_212.2.2.1
theorem dX3_goAlong_45 : decode cX3_goAlong 45 = .ok (.getfield 69, 3) := dGR_12_c_212.2.2.2.1
theorem dX3_goAlong_48 : decode cX3_goAlong 48 = .ok (.iload_n 3, 1) := dGR_12_c_212.2.2.2.2.1
theorem dX3_goAlong_49 : decode cX3_goAlong 49 = .ok (.iaload, 1) := dGR_12_c_212.2.2.2.2.2.1
theorem dX3_goAlong_50 : decode cX3_goAlong 50 = .ok (.aload_n 1, 1) := dGR_12_c_212.2.2.2.2.2.2.1
theorem dX3_goAlong_51 : decode cX3_goAlong 51 = .ok (.getfield 72, 3) := dGR_12_c_212.2.2.2.2.2.2.2.1
theorem dX3_goAlong_54 : decode cX3_goAlong 54 = .ok (.iload_n 3, 1) := dGR_12_c_212.2.2.2.2.2.2.2.2.1
theorem dX3_goAlong_55 : decode cX3_goAlong 55 = .ok (.iaload, 1) := dGR_12_c_212.2.2.2.2.2.2.2.2.2.1
theorem dX3_goAlong_56 : decode cX3_goAlong 56 = .ok (.invokevirtual 75, 3) := dGR_12_c_212.2.2.2.2.2.2.2.2.2.2.1
theorem dX3_goAlong_59 : decode cX3_goAlong 59 = .ok (.iinc 3 1, 3) := dGR_12_c_212.2.2.2.2.2.2.2.2.2.2.2
set_option maxRecDepth 100000 in
theorem dGR_12_c_213 : (decode cX3_goAlong 62 = .ok (.goto (-52), 3)) ∧ (decode cX3_goAlong 65 = .ok (.aload_n 0, 1)) ∧ (decode cX3_goAlong 66 = .ok (.getfield 15, 3)) ∧ (decode cX3_goAlong 69 = .ok (.iconst 0, 1)) ∧ (decode cX3_goAlong 70 = .ok (.aload_n 0, 1)) ∧ (decode cX3_goAlong 71 = .ok (.getfield 11, 3)) ∧ (decode cX3_goAlong 74 = .ok (.iconst 0, 1)) ∧ (decode cX3_goAlong 75 = .ok (.bipush 9, 2)) ∧ (decode cX3_goAlong 77 = .ok (.invokestatic 38, 3)) ∧ (decode cX3_goAlong 80 = .ok (.return_, 1)) := by decide +kernel
theorem dX3_goAlong_62 : decode cX3_goAlong 62 = .ok (.goto (-52), 3) := dGR_12_c_213.1
theorem dX3_goAlong_65 : decode cX3_goAlong 65 = .ok (.aload_n 0, 1) := dGR_12_c_213.2.1
theorem dX3_goAlong_66 : decode cX3_goAlong 66 = .ok (.getfield 15, 3) := dGR_12_c_213.2.2.1
theorem dX3_goAlong_69 : decode cX3_goAlong 69 = .ok (.iconst 0, 1) := dGR_12_c_213.2.2.2.1
theorem dX3_goAlong_70 : decode cX3_goAlong 70 = .ok (.aload_n 0, 1) := dGR_12_c_213.2.2.2.2.1
theorem dX3_goAlong_71 : decode cX3_goAlong 71 = .ok (.getfield 11, 3) := dGR_12_c_213.2.2.2.2.2.1
theorem dX3_goAlong_74 : decode cX3_goAlong 74 = .ok (.iconst 0, 1) := dGR_12_c_213.2.2.2.2.2.2.1
theorem dX3_goAlong_75 : decode cX3_goAlong 75 = .ok (.bipush 9, 2) := dGR_12_c_213.2.2.2.2.2.2.2.1
theorem dX3_goAlong_77 : decode cX3_goAlong 77 = .ok (.invokestatic 38, 3) := dGR_12_c_213.2.2.2.2.2.2.2.2.1
theorem dX3_goAlong_80 : decode cX3_goAlong 80 = .ok (.return_, 1) := dGR_12_c_213.2.2.2.2.2.2.2.2.2
abbrev f_c_X3_goAlong : List (Nat × Int) := [(57, -1), (58, -1)]
set_option maxHeartbeats 4000000 in
set_option maxRecDepth 100000 in
theorem c_X3_goAlong (G : KG) (l : Launch) (M : Mem) (c0 : Int) (c1 : Int) (a2 : Int) (hI_M : Inv false M) (hk_c0 : kd c0 = 56) (hk_c1 : kd c1 = 1) (hpre : -2147483648 ≤ a2 ∧ a2 ≤ 2147483647) : KC false G l yX3_goAlong cX3_goAlong 4 none (1, 25) [vR G c0, vR G c1, vI a2] M (fun A => kQv false G A (fun (N : Mem) => Inv false N ∧ Fr f_c_X3_goAlong M N)) := by
  refine kx_met (lo := [some (vR G c0), some (vR G c1), some (vI a2), none]) (by decide) (Nat.le_of_ble_eq_true rfl) rfl ?_
  intro X F hQ
  have hF_M : Fr f_c_X3_goAlong M M := Fr.rf _ _
  refine kx_aload_n 1 F 0 dX3_goAlong_0 rfl rfl rfl ?_
  refine kx_getr 4 F fl_X3_15 hk_c0 rfl rfl (j := 2) rfl dX3_goAlong_1 (v := (M c0 2)) rfl rfl ?_
  have hk_1 : kd (M c0 2) = 58 := Inv.r hI_M hk_c0 rfl 2 rfl rfl
  refine kx_lconst 5 (z := 0) F dX3_goAlong_4 (by decide) rfl ?_
  refine kx_Sv 8 F (As := [vR G (M c0 2), vL 0]) (st := []) sd_X3_52 (c_fill_scratch G l M (M c0 2) 0 hI_M hk_1 (by omega)) ⟨by decide, by decide⟩ rfl rfl (Nat.le_of_ble_eq_true rfl) dX3_goAlong_5 rfl ?_
  intro N_2 q_3
  obtain ⟨hI_N_2, hG_N_2⟩ := q_3
  have hF_N_2 : Fr f_c_X3_goAlong M N_2 := Fr.c hF_M hG_N_2 rfl
  refine kx_iconst 9 F dX3_goAlong_8 rfl ?_
  refine kx_istore_n 10 F 3 (lo' := [some (vR G c0), some (vR G c1), some (vI a2), some (vI 0)]) dX3_goAlong_9 rfl (by decide) rfl rfl rfl ?_
  have L_139 : ∀ (n_140 : Nat) (x3_137 : Int) (N_138 : Mem), Inv false N_138 → Fr f_c_X3_goAlong M N_138 → 0 ≤ x3_137 ∧ x3_137 ≤ 20 → (20 - (x3_137)).toNat = n_140 → KJ false G X N_138 10 [some (vR G c0), some (vR G c1), some (vI a2), some (vI x3_137)] [] := by
    intro n_140
    refine Nat.strongRecOn n_140 ?_
    intro n_140 ih_141 x3_137 N_138 hI_N_138 hF_N_138 h_142 hm_143
    refine kx_iload_n 11 F 3 dX3_goAlong_10 rfl rfl rfl ?_
    refine kx_aload_n 12 F 1 dX3_goAlong_11 rfl rfl rfl ?_
    refine kx_geti 15 F fl_X3_58 hk_c1 rfl rfl (j := 4) rfl dX3_goAlong_12 (v := (M c1 4)) (by rw [Fr.e hF_N_138 hk_c1 _ rfl]) rfl ?_
    have h_144 := Inv.g hI_M hk_c1 rfl 4 (a := 0) (b := 20) rfl rfl
    refine kx_icmp_ge 18 F 65 dX3_goAlong_15 (by decide) rfl (by omega) (by omega) (fun h_145 => ?_) (fun h_145 => ?_)
    · refine kx_aload_n 66 F 0 dX3_goAlong_65 rfl rfl rfl ?_
      refine kx_getr 69 F fl_X3_15 hk_c0 rfl rfl (j := 2) rfl dX3_goAlong_66 (v := (M c0 2)) (by rw [Fr.e hF_N_138 hk_c0 _ rfl]) rfl ?_
      refine kx_iconst 70 F dX3_goAlong_69 rfl ?_
      refine kx_aload_n 71 F 0 dX3_goAlong_70 rfl rfl rfl ?_
      refine kx_getr 74 F fl_X3_11 hk_c0 rfl rfl (j := 1) rfl dX3_goAlong_71 (v := (M c0 1)) (by rw [Fr.e hF_N_138 hk_c0 _ rfl]) rfl ?_
      have hk_146 : kd (M c0 1) = 57 := Inv.r hI_M hk_c0 rfl 1 rfl rfl
      refine kx_iconst 75 F dX3_goAlong_74 rfl ?_
      refine kx_bipush 77 F dX3_goAlong_75 (by decide) rfl ?_
      refine kx_copyl 80 F hk_1 rfl rfl hk_146 rfl rfl dX3_goAlong_77 (tt lm_1133 rfl) (tt lm_782 rfl) (tt lm_781 rfl) (tt lm_186 rfl) (by omega) (by decide) (by decide) (Nat.le_of_ble_eq_true rfl) rfl ?_
      intro N_147 hM_N_147
      have hI_N_147 : Inv false N_147 := Inv.cp hI_N_138 hM_N_147 hk_1 hk_146 rfl (x := (-9223372036854775808)) (y := 9223372036854775807) (fun _ => rfl) (fun _ => rfl) (fun _ => rfl) (fun _ => rfl) (fun _ => rfl)
      have hF_N_147 : Fr f_c_X3_goAlong M N_147 := Fr.cp hF_N_138 hM_N_147 hk_146 (fun _ => rfl)
      exact kx_vret F hQ ⟨hI_N_147, hF_N_147⟩ dX3_goAlong_80
    · refine kx_aload_n 19 F 1 dX3_goAlong_18 rfl rfl rfl ?_
      refine kx_getr 22 F fl_X3_63 hk_c1 rfl rfl (j := 6) rfl dX3_goAlong_19 (v := (M c1 6)) (by rw [Fr.e hF_N_138 hk_c1 _ rfl]) rfl ?_
      have hk_148 : kd (M c1 6) = 2 := Inv.r hI_M hk_c1 rfl 6 rfl rfl
      refine kx_iload_n 23 F 3 dX3_goAlong_22 rfl rfl rfl ?_
      refine kx_iald 24 F hk_148 rfl rfl (by omega) (by decide) dX3_goAlong_23 (v := (M (M c1 6) x3_137)) (by rw [Fr.e hF_N_138 hk_148 _ rfl]) rfl ?_
      have h_149 := Inv.g hI_M hk_148 rfl x3_137 (a := 0) (b := 5) rfl rfl
      refine kx_iload_n 25 F 2 dX3_goAlong_24 rfl rfl rfl ?_
      have J_162 : ∀ (N_161 : Mem), Inv false N_161 → Fr f_c_X3_goAlong M N_161 → KJ false G X N_161 59 [some (vR G c0), some (vR G c1), some (vI a2), some (vI x3_137)] [] := by
        intro N_161 hI_N_161 hF_N_161
        refine kx_iinc 62 F 3 (v := x3_137 + 1) (lo' := [some (vR G c0), some (vR G c1), some (vI a2), some (vI (x3_137 + 1))]) dX3_goAlong_59 rfl (by omega) (by decide) rfl rfl rfl ?_
        refine kx_goto 10 F dX3_goAlong_62 (by decide) ?_
        exact ih_141 _ (by omega) (x3_137 + 1) N_161 hI_N_161 hF_N_161 (by omega) rfl
      refine kx_icmp_ne 28 F 59 dX3_goAlong_25 (by decide) rfl (by omega) (by omega) (fun h_164 => ?_) (fun h_164 => ?_)
      · exact J_162 N_138 hI_N_138 hF_N_138
      · refine kx_aload_n 29 F 1 dX3_goAlong_28 rfl rfl rfl ?_
        refine kx_getr 32 F fl_X3_66 hk_c1 rfl rfl (j := 9) rfl dX3_goAlong_29 (v := (M c1 9)) (by rw [Fr.e hF_N_138 hk_c1 _ rfl]) rfl ?_
        have hk_165 : kd (M c1 9) = 5 := Inv.r hI_M hk_c1 rfl 9 rfl rfl
        refine kx_iload_n 33 F 3 dX3_goAlong_32 rfl rfl rfl ?_
        refine kx_iald 34 F hk_165 rfl rfl (by omega) (by decide) dX3_goAlong_33 (v := (M (M c1 9) x3_137)) (by rw [Fr.e hF_N_138 hk_165 _ rfl]) rfl ?_
        have h_166 := Inv.g hI_M hk_165 rfl x3_137 (a := (-1)) (b := 2) rfl rfl
        refine kx_iconst 35 F dX3_goAlong_34 rfl ?_
        refine kx_icmp_ne 38 F 59 dX3_goAlong_35 (by decide) rfl (by omega) (by decide) (fun h_167 => ?_) (fun h_167 => ?_)
        · exact J_162 N_138 hI_N_138 hF_N_138
        · refine kx_aload_n 39 F 0 dX3_goAlong_38 rfl rfl rfl ?_
          refine kx_aload_n 40 F 0 dX3_goAlong_39 rfl rfl rfl ?_
          refine kx_getr 43 F fl_X3_11 hk_c0 rfl rfl (j := 1) rfl dX3_goAlong_40 (v := (M c0 1)) (by rw [Fr.e hF_N_138 hk_c0 _ rfl]) rfl ?_
          have hk_168 : kd (M c0 1) = 57 := Inv.r hI_M hk_c0 rfl 1 rfl rfl
          refine kx_iconst 44 F dX3_goAlong_43 rfl ?_
          refine kx_aload_n 45 F 1 dX3_goAlong_44 rfl rfl rfl ?_
          refine kx_getr 48 F fl_X3_69 hk_c1 rfl rfl (j := 7) rfl dX3_goAlong_45 (v := (M c1 7)) (by rw [Fr.e hF_N_138 hk_c1 _ rfl]) rfl ?_
          have hk_169 : kd (M c1 7) = 3 := Inv.r hI_M hk_c1 rfl 7 rfl rfl
          refine kx_iload_n 49 F 3 dX3_goAlong_48 rfl rfl rfl ?_
          refine kx_iald 50 F hk_169 rfl rfl (by omega) (by decide) dX3_goAlong_49 (v := (M (M c1 7) x3_137)) (by rw [Fr.e hF_N_138 hk_169 _ rfl]) rfl ?_
          have h_170 := Inv.g hI_M hk_169 rfl x3_137 (a := 0) (b := 2) rfl rfl
          refine kx_aload_n 51 F 1 dX3_goAlong_50 rfl rfl rfl ?_
          refine kx_getr 54 F fl_X3_72 hk_c1 rfl rfl (j := 8) rfl dX3_goAlong_51 (v := (M c1 8)) (by rw [Fr.e hF_N_138 hk_c1 _ rfl]) rfl ?_
          have hk_171 : kd (M c1 8) = 4 := Inv.r hI_M hk_c1 rfl 8 rfl rfl
          refine kx_iload_n 55 F 3 dX3_goAlong_54 rfl rfl rfl ?_
          refine kx_iald 56 F hk_171 rfl rfl (by omega) (by decide) dX3_goAlong_55 (v := (M (M c1 8) x3_137)) (by rw [Fr.e hF_N_138 hk_171 _ rfl]) rfl ?_
          have h_172 := Inv.g hI_M hk_171 rfl x3_137 (a := 0) (b := 2) rfl rfl
          refine kx_Vv 59 (ci := 0) F (As := [vR G (M c0 1), vI 0, vI (M (M c1 7) x3_137), vI (M (M c1 8) x3_137)]) (st := []) vd_X3_75 (c_X3_addColumn G l N_138 c0 (M c0 1) 0 (M (M c1 7) x3_137) (M (M c1 8) x3_137) hI_N_138 hk_c0 hk_168 (by omega)) hk_c0 rfl rfl rfl ⟨by decide, by decide⟩ rfl rfl (Nat.le_of_ble_eq_true rfl) dX3_goAlong_56 rfl ?_
          intro N_173 q_174
          obtain ⟨hI_N_173, hG_N_173⟩ := q_174
          have hF_N_173 : Fr f_c_X3_goAlong M N_173 := Fr.c hF_N_138 hG_N_173 rfl
          exact J_162 N_173 hI_N_173 hF_N_173
  exact L_139 _ 0 N_2 hI_N_2 hF_N_2 (by omega) rfl
set_option maxRecDepth 100000 in
theorem dGR_12_c_214 : (decode cX3_productAt 0 = .ok (.lconst 0, 1)) ∧ (decode cX3_productAt 1 = .ok (.lstore_n 3, 1)) ∧ (decode cX3_productAt 2 = .ok (.iconst 0, 1)) ∧ (decode cX3_productAt 3 = .ok (.istore 5, 2)) ∧ (decode cX3_productAt 5 = .ok (.iload 5, 2)) ∧ (decode cX3_productAt 7 = .ok (.iconst 3, 1)) ∧ (decode cX3_productAt 8 = .ok (.if_icmp .ge 43, 3)) ∧ (decode cX3_productAt 11 = .ok (.lload_n 3, 1)) ∧ (decode cX3_productAt 12 = .ok (.aload_n 0, 1)) ∧ (decode cX3_productAt 13 = .ok (.getfield 18, 3)) ∧ (decode cX3_productAt 16 = .ok (.aload_n 0, 1)) ∧ (decode cX3_productAt 17 = .ok (.getfield 31, 3)) := by decide +kernel
theorem dX3_productAt_0 : decode cX3_productAt 0 = .ok (.lconst 0, 1) := dGR_12_c_214.1
theorem dX3_productAt_1 : decode cX3_productAt 1 = .ok (.lstore_n 3, 1) := dGR_12_c_214.2.1
theorem dX3_productAt_2 : decode cX3_productAt 2 = .ok (.iconst 0, 1) := dGR_12_c_214.2.2.1
theorem dX3_productAt_3 : decode cX3_productAt 3 = .ok (.istore 5, 2) := dGR_12_c_214.2.2.2.1
theorem dX3_productAt_5 : decode cX3_productAt 5 = .ok (.iload 5, 2) := dGR_12_c_214.2.2.2.2.1
theorem dX3_productAt_7 : decode cX3_productAt 7 = .ok (.iconst 3, 1) := dGR_12_c_214.2.2.2.2.2.1
theorem dX3_productAt_8 : decode cX3_productAt 8 = .ok (.if_icmp .ge 43, 3) := dGR_12_c_214.2.2.2.2.2.2.1
theorem dX3_productAt_11 : decode cX3_productAt 11 = .ok (.lload_n 3, 1) := dGR_12_c_214.2.2.2.2.2.2.2.1
theorem dX3_productAt_12 : decode cX3_productAt 12 = .ok (.aload_n 0, 1) := dGR_12_c_214.2.2.2.2.2.2.2.2.1
theorem dX3_productAt_13 : decode cX3_productAt 13 = .ok (.getfield 18, 3) := dGR_12_c_214.2.2.2.2.2.2.2.2.2.1
theorem dX3_productAt_16 : decode cX3_productAt 16 = .ok (.aload_n 0, 1) := dGR_12_c_214.2.2.2.2.2.2.2.2.2.2.1
theorem dX3_productAt_17 : decode cX3_productAt 17 = .ok (.getfield 31, 3) := dGR_12_c_214.2.2.2.2.2.2.2.2.2.2.2
set_option maxRecDepth 100000 in
theorem dGR_12_c_215 : (decode cX3_productAt 20 = .ok (.bipush 9, 2)) ∧ (decode cX3_productAt 22 = .ok (.imul, 1)) ∧ (decode cX3_productAt 23 = .ok (.iconst 3, 1)) ∧ (decode cX3_productAt 24 = .ok (.iload_n 1, 1)) ∧ (decode cX3_productAt 25 = .ok (.imul, 1)) ∧ (decode cX3_productAt 26 = .ok (.iadd, 1)) ∧ (decode cX3_productAt 27 = .ok (.iload 5, 2)) ∧ (decode cX3_productAt 29 = .ok (.iadd, 1)) ∧ (decode cX3_productAt 30 = .ok (.laload, 1)) ∧ (decode cX3_productAt 31 = .ok (.aload_n 0, 1)) ∧ (decode cX3_productAt 32 = .ok (.getfield 15, 3)) ∧ (decode cX3_productAt 35 = .ok (.iconst 3, 1)) := by decide +kernel
theorem dX3_productAt_20 : decode cX3_productAt 20 = .ok (.bipush 9, 2) := dGR_12_c_215.1
theorem dX3_productAt_22 : decode cX3_productAt 22 = .ok (.imul, 1) := dGR_12_c_215.2.1
theorem dX3_productAt_23 : decode cX3_productAt 23 = .ok (.iconst 3, 1) := dGR_12_c_215.2.2.1
theorem dX3_productAt_24 : decode cX3_productAt 24 = .ok (.iload_n 1, 1) := dGR_12_c_215.2.2.2.1
theorem dX3_productAt_25 : decode cX3_productAt 25 = .ok (.imul, 1) := dGR_12_c_215.2.2.2.2.1
theorem dX3_productAt_26 : decode cX3_productAt 26 = .ok (.iadd, 1) := dGR_12_c_215.2.2.2.2.2.1
theorem dX3_productAt_27 : decode cX3_productAt 27 = .ok (.iload 5, 2) := dGR_12_c_215.2.2.2.2.2.2.1
theorem dX3_productAt_29 : decode cX3_productAt 29 = .ok (.iadd, 1) := dGR_12_c_215.2.2.2.2.2.2.2.1
theorem dX3_productAt_30 : decode cX3_productAt 30 = .ok (.laload, 1) := dGR_12_c_215.2.2.2.2.2.2.2.2.1
theorem dX3_productAt_31 : decode cX3_productAt 31 = .ok (.aload_n 0, 1) := dGR_12_c_215.2.2.2.2.2.2.2.2.2.1
theorem dX3_productAt_32 : decode cX3_productAt 32 = .ok (.getfield 15, 3) := dGR_12_c_215.2.2.2.2.2.2.2.2.2.2.1
theorem dX3_productAt_35 : decode cX3_productAt 35 = .ok (.iconst 3, 1) := dGR_12_c_215.2.2.2.2.2.2.2.2.2.2.2
set_option maxRecDepth 100000 in
theorem dGR_12_c_216 : (decode cX3_productAt 36 = .ok (.iload 5, 2)) ∧ (decode cX3_productAt 38 = .ok (.imul, 1)) ∧ (decode cX3_productAt 39 = .ok (.iload_n 2, 1)) ∧ (decode cX3_productAt 40 = .ok (.iadd, 1)) ∧ (decode cX3_productAt 41 = .ok (.laload, 1)) ∧ (decode cX3_productAt 42 = .ok (.lmul, 1)) ∧ (decode cX3_productAt 43 = .ok (.ladd, 1)) ∧ (decode cX3_productAt 44 = .ok (.lstore_n 3, 1)) ∧ (decode cX3_productAt 45 = .ok (.iinc 5 1, 3)) ∧ (decode cX3_productAt 48 = .ok (.goto (-43), 3)) ∧ (decode cX3_productAt 51 = .ok (.lload_n 3, 1)) ∧ (decode cX3_productAt 52 = .ok (.lreturn, 1)) := by decide +kernel
theorem dX3_productAt_36 : decode cX3_productAt 36 = .ok (.iload 5, 2) := dGR_12_c_216.1
theorem dX3_productAt_38 : decode cX3_productAt 38 = .ok (.imul, 1) := dGR_12_c_216.2.1
theorem dX3_productAt_39 : decode cX3_productAt 39 = .ok (.iload_n 2, 1) := dGR_12_c_216.2.2.1
theorem dX3_productAt_40 : decode cX3_productAt 40 = .ok (.iadd, 1) := dGR_12_c_216.2.2.2.1
theorem dX3_productAt_41 : decode cX3_productAt 41 = .ok (.laload, 1) := dGR_12_c_216.2.2.2.2.1
theorem dX3_productAt_42 : decode cX3_productAt 42 = .ok (.lmul, 1) := dGR_12_c_216.2.2.2.2.2.1
theorem dX3_productAt_43 : decode cX3_productAt 43 = .ok (.ladd, 1) := dGR_12_c_216.2.2.2.2.2.2.1
theorem dX3_productAt_44 : decode cX3_productAt 44 = .ok (.lstore_n 3, 1) := dGR_12_c_216.2.2.2.2.2.2.2.1
theorem dX3_productAt_45 : decode cX3_productAt 45 = .ok (.iinc 5 1, 3) := dGR_12_c_216.2.2.2.2.2.2.2.2.1
theorem dX3_productAt_48 : decode cX3_productAt 48 = .ok (.goto (-43), 3) := dGR_12_c_216.2.2.2.2.2.2.2.2.2.1
theorem dX3_productAt_51 : decode cX3_productAt 51 = .ok (.lload_n 3, 1) := dGR_12_c_216.2.2.2.2.2.2.2.2.2.2.1
theorem dX3_productAt_52 : decode cX3_productAt 52 = .ok (.lreturn, 1) := dGR_12_c_216.2.2.2.2.2.2.2.2.2.2.2
set_option maxHeartbeats 4000000 in
set_option maxRecDepth 100000 in
theorem c_X3_productAt (G : KG) (l : Launch) (M : Mem) (c0 : Int) (a1 : Int) (a2 : Int) (hI_M : Inv false M) (hk_c0 : kd c0 = 56) (hpre : -2147483648 ≤ a1 ∧ a1 ≤ 2147483647 ∧ -2147483648 ≤ a2 ∧ a2 ≤ 2147483647 ∧ 0 ≤ a1 ∧ a1 ≤ 2 ∧ 0 ≤ a2 ∧ a2 ≤ 2 ∧ (M c0 0) ≤ 19) : KC false G l yX3_productAt cX3_productAt 6 (some .long) (0, 0) [vR G c0, vI a1, vI a2] M (fun A => kQl false G A (fun (r : Int) (N : Mem) => M = N ∧ (r ≥ -9223372036854775808 ∧ r ≤ 9223372036854775807))) := by
  refine kx_met (lo := [some (vR G c0), some (vI a1), some (vI a2), none, none, none]) (by decide) (Nat.le_of_ble_eq_true rfl) rfl ?_
  intro X F hQ
  have h_1 := Inv.g hI_M hk_c0 rfl 0 (a := 0) (b := 20) rfl rfl
  refine kx_lconst 1 (z := 0) F dX3_productAt_0 (by decide) rfl ?_
  refine kx_lstore_n 2 F 3 (lo' := [some (vR G c0), some (vI a1), some (vI a2), some (vL 0), none, none]) dX3_productAt_1 rfl (by decide) rfl rfl rfl ?_
  refine kx_iconst 3 F dX3_productAt_2 rfl ?_
  refine kx_istore 5 F 5 (lo' := [some (vR G c0), some (vI a1), some (vI a2), some (vL 0), none, some (vI 0)]) dX3_productAt_3 (by decide) rfl rfl rfl ?_
  have L_46 : ∀ (n_47 : Nat) (x3_44 : Int) (x5_45 : Int), (-9223372036854775808) ≤ x3_44 ∧ x3_44 ≤ 9223372036854775807 ∧ 0 ≤ x5_45 ∧ x5_45 ≤ 3 → (3 - (x5_45)).toNat = n_47 → KJ false G X M 5 [some (vR G c0), some (vI a1), some (vI a2), some (vL x3_44), none, some (vI x5_45)] [] := by
    intro n_47
    refine Nat.strongRecOn n_47 ?_
    intro n_47 ih_48 x3_44 x5_45 h_49 hm_50
    refine kx_iload 7 F 5 dX3_productAt_5 rfl rfl ?_
    refine kx_iconst 8 F dX3_productAt_7 rfl ?_
    refine kx_icmp_ge 11 F 51 dX3_productAt_8 (by decide) rfl (by omega) (by decide) (fun h_51 => ?_) (fun h_51 => ?_)
    · refine kx_lload_n 52 F 3 dX3_productAt_51 rfl rfl rfl ?_
      exact kx_lret F hQ ⟨rfl, (by omega)⟩ dX3_productAt_52
    · refine kx_lload_n 12 F 3 dX3_productAt_11 rfl rfl rfl ?_
      refine kx_aload_n 13 F 0 dX3_productAt_12 rfl rfl rfl ?_
      refine kx_getr 16 F fl_X3_18 hk_c0 rfl rfl (j := 3) rfl dX3_productAt_13 (v := (M c0 3)) rfl rfl ?_
      have hk_52 : kd (M c0 3) = 59 := Inv.r hI_M hk_c0 rfl 3 rfl rfl
      refine kx_aload_n 17 F 0 dX3_productAt_16 rfl rfl rfl ?_
      refine kx_geti 20 F fl_X3_31 hk_c0 rfl rfl (j := 0) rfl dX3_productAt_17 (v := (M c0 0)) rfl rfl ?_
      refine kx_bipush 22 F dX3_productAt_20 (by decide) rfl ?_
      refine kx_imul 23 F (v := 9 * (M c0 0)) dX3_productAt_22 (by omega) rfl ?_
      refine kx_iconst 24 F dX3_productAt_23 rfl ?_
      refine kx_iload_n 25 F 1 dX3_productAt_24 rfl rfl rfl ?_
      refine kx_imul 26 F (v := 3 * a1) dX3_productAt_25 (by omega) rfl ?_
      refine kx_iadd 27 F (v := 9 * (M c0 0) + 3 * a1) dX3_productAt_26 (by omega) rfl ?_
      refine kx_iload 29 F 5 dX3_productAt_27 rfl rfl ?_
      refine kx_iadd 30 F (v := 9 * (M c0 0) + 3 * a1 + x5_45) dX3_productAt_29 rfl rfl ?_
      refine kx_lald 31 F hk_52 rfl rfl (by omega) (by decide) dX3_productAt_30 (v := (M (M c0 3) (9 * (M c0 0) + 3 * a1 + x5_45))) rfl rfl ?_
      have h_53 := Inv.g hI_M hk_52 rfl (9 * (M c0 0) + 3 * a1 + x5_45) (a := (-9223372036854775808)) (b := 9223372036854775807) rfl rfl
      refine kx_aload_n 32 F 0 dX3_productAt_31 rfl rfl rfl ?_
      refine kx_getr 35 F fl_X3_15 hk_c0 rfl rfl (j := 2) rfl dX3_productAt_32 (v := (M c0 2)) rfl rfl ?_
      have hk_54 : kd (M c0 2) = 58 := Inv.r hI_M hk_c0 rfl 2 rfl rfl
      refine kx_iconst 36 F dX3_productAt_35 rfl ?_
      refine kx_iload 38 F 5 dX3_productAt_36 rfl rfl ?_
      refine kx_imul 39 F (v := 3 * x5_45) dX3_productAt_38 (by omega) rfl ?_
      refine kx_iload_n 40 F 2 dX3_productAt_39 rfl rfl rfl ?_
      refine kx_iadd 41 F (v := 3 * x5_45 + a2) dX3_productAt_40 rfl rfl ?_
      refine kx_lald 42 F hk_54 rfl rfl (by omega) (by decide) dX3_productAt_41 (v := (M (M c0 2) (3 * x5_45 + a2))) rfl rfl ?_
      have h_55 := Inv.g hI_M hk_54 rfl (3 * x5_45 + a2) (a := (-9223372036854775808)) (b := 9223372036854775807) rfl rfl
      refine kx_lmul 43 F (v := ((M (M c0 3) (9 * (M c0 0) + 3 * a1 + x5_45)) * (M (M c0 2) (3 * x5_45 + a2)))) dX3_productAt_42 rfl rfl ?_
      refine kx_wrapl (fun w_56 h_57 _ => ?_)
      refine kx_ladd 44 F (v := x3_44 + w_56) dX3_productAt_43 rfl rfl ?_
      refine kx_wrapl (fun w_58 h_59 _ => ?_)
      refine kx_lstore_n 45 F 3 (lo' := [some (vR G c0), some (vI a1), some (vI a2), some (vL w_58), none, some (vI x5_45)]) dX3_productAt_44 rfl (by decide) rfl rfl rfl ?_
      refine kx_iinc 48 F 5 (v := x5_45 + 1) (lo' := [some (vR G c0), some (vI a1), some (vI a2), some (vL w_58), none, some (vI (x5_45 + 1))]) dX3_productAt_45 rfl (by omega) (by decide) rfl rfl rfl ?_
      refine kx_goto 5 F dX3_productAt_48 (by decide) ?_
      exact ih_48 _ (by omega) w_58 (x5_45 + 1) (by omega) rfl
  exact L_46 _ 0 0 (by omega) rfl
set_option maxRecDepth 100000 in
theorem dGR_12_c_217 : (decode cX3_goBack 0 = .ok (.aload_n 0, 1)) ∧ (decode cX3_goBack 1 = .ok (.getfield 15, 3)) ∧ (decode cX3_goBack 4 = .ok (.lconst 0, 1)) ∧ (decode cX3_goBack 5 = .ok (.invokestatic 52, 3)) ∧ (decode cX3_goBack 8 = .ok (.iconst 0, 1)) ∧ (decode cX3_goBack 9 = .ok (.istore 4, 2)) ∧ (decode cX3_goBack 11 = .ok (.iload 4, 2)) ∧ (decode cX3_goBack 13 = .ok (.aload_n 1, 1)) ∧ (decode cX3_goBack 14 = .ok (.getfield 58, 3)) ∧ (decode cX3_goBack 17 = .ok (.if_icmp .ge 116, 3)) ∧ (decode cX3_goBack 20 = .ok (.aload_n 1, 1)) ∧ (decode cX3_goBack 21 = .ok (.getfield 63, 3)) := by decide +kernel
theorem dX3_goBack_0 : decode cX3_goBack 0 = .ok (.aload_n 0, 1) := dGR_12_c_217.1
theorem dX3_goBack_1 : decode cX3_goBack 1 = .ok (.getfield 15, 3) := dGR_12_c_217.2.1
theorem dX3_goBack_4 : decode cX3_goBack 4 = .ok (.lconst 0, 1) := dGR_12_c_217.2.2.1
theorem dX3_goBack_5 : decode cX3_goBack 5 = .ok (.invokestatic 52, 3) := dGR_12_c_217.2.2.2.1
theorem dX3_goBack_8 : decode cX3_goBack 8 = .ok (.iconst 0, 1) := dGR_12_c_217.2.2.2.2.1
theorem dX3_goBack_9 : decode cX3_goBack 9 = .ok (.istore 4, 2) := dGR_12_c_217.2.2.2.2.2.1
theorem dX3_goBack_11 : decode cX3_goBack 11 = .ok (.iload 4, 2) := dGR_12_c_217.2.2.2.2.2.2.1
theorem dX3_goBack_13 : decode cX3_goBack 13 = .ok (.aload_n 1, 1) := dGR_12_c_217.2.2.2.2.2.2.2.1
theorem dX3_goBack_14 : decode cX3_goBack 14 = .ok (.getfield 58, 3) := dGR_12_c_217.2.2.2.2.2.2.2.2.1
theorem dX3_goBack_17 : decode cX3_goBack 17 = .ok (.if_icmp .ge 116, 3) := dGR_12_c_217.2.2.2.2.2.2.2.2.2.1
theorem dX3_goBack_20 : decode cX3_goBack 20 = .ok (.aload_n 1, 1) := dGR_12_c_217.2.2.2.2.2.2.2.2.2.2.1
theorem dX3_goBack_21 : decode cX3_goBack 21 = .ok (.getfield 63, 3) := dGR_12_c_217.2.2.2.2.2.2.2.2.2.2.2
set_option maxRecDepth 100000 in
theorem dGR_12_c_218 : (decode cX3_goBack 24 = .ok (.iload 4, 2)) ∧ (decode cX3_goBack 26 = .ok (.iaload, 1)) ∧ (decode cX3_goBack 27 = .ok (.iload_n 2, 1)) ∧ (decode cX3_goBack 28 = .ok (.if_icmp .eq 6, 3)) ∧ (decode cX3_goBack 31 = .ok (.goto 96, 3)) ∧ (decode cX3_goBack 34 = .ok (.iconst 0, 1)) ∧ (decode cX3_goBack 35 = .ok (.istore 5, 2)) ∧ (decode cX3_goBack 37 = .ok (.iload 5, 2)) ∧ (decode cX3_goBack 39 = .ok (.aload_n 1, 1)) ∧ (decode cX3_goBack 40 = .ok (.getfield 58, 3)) ∧ (decode cX3_goBack 43 = .ok (.if_icmp .ge 84, 3)) ∧ (decode cX3_goBack 46 = .ok (.aload_n 1, 1)) := by decide +kernel
theorem dX3_goBack_24 : decode cX3_goBack 24 = .ok (.iload 4, 2) := dGR_12_c_218.1
theorem dX3_goBack_26 : decode cX3_goBack 26 = .ok (.iaload, 1) := dGR_12_c_218.2.1
theorem dX3_goBack_27 : decode cX3_goBack 27 = .ok (.iload_n 2, 1) := dGR_12_c_218.2.2.1
theorem dX3_goBack_28 : decode cX3_goBack 28 = .ok (.if_icmp .eq 6, 3) := dGR_12_c_218.2.2.2.1
theorem dX3_goBack_31 : decode cX3_goBack 31 = .ok (.goto 96, 3) := dGR_12_c_218.2.2.2.2.1
theorem dX3_goBack_34 : decode cX3_goBack 34 = .ok (.iconst 0, 1) := dGR_12_c_218.2.2.2.2.2.1
theorem dX3_goBack_35 : decode cX3_goBack 35 = .ok (.istore 5, 2) := dGR_12_c_218.2.2.2.2.2.2.1
theorem dX3_goBack_37 : decode cX3_goBack 37 = .ok (.iload 5, 2) := dGR_12_c_218.2.2.2.2.2.2.2.1
theorem dX3_goBack_39 : decode cX3_goBack 39 = .ok (.aload_n 1, 1) := dGR_12_c_218.2.2.2.2.2.2.2.2.1
theorem dX3_goBack_40 : decode cX3_goBack 40 = .ok (.getfield 58, 3) := dGR_12_c_218.2.2.2.2.2.2.2.2.2.1
theorem dX3_goBack_43 : decode cX3_goBack 43 = .ok (.if_icmp .ge 84, 3) := dGR_12_c_218.2.2.2.2.2.2.2.2.2.2.1
theorem dX3_goBack_46 : decode cX3_goBack 46 = .ok (.aload_n 1, 1) := dGR_12_c_218.2.2.2.2.2.2.2.2.2.2.2
set_option maxRecDepth 100000 in
theorem dGR_12_c_219 : (decode cX3_goBack 47 = .ok (.getfield 63, 3)) ∧ (decode cX3_goBack 50 = .ok (.iload 5, 2)) ∧ (decode cX3_goBack 52 = .ok (.iaload, 1)) ∧ (decode cX3_goBack 53 = .ok (.iload_n 3, 1)) ∧ (decode cX3_goBack 54 = .ok (.if_icmp .ne 67, 3)) ∧ (decode cX3_goBack 57 = .ok (.aload_n 1, 1)) ∧ (decode cX3_goBack 58 = .ok (.getfield 66, 3)) ∧ (decode cX3_goBack 61 = .ok (.iload 5, 2)) ∧ (decode cX3_goBack 63 = .ok (.iaload, 1)) ∧ (decode cX3_goBack 64 = .ok (.aload_n 1, 1)) ∧ (decode cX3_goBack 65 = .ok (.getfield 66, 3)) ∧ (decode cX3_goBack 68 = .ok (.iload 4, 2)) := by decide +kernel
theorem dX3_goBack_47 : decode cX3_goBack 47 = .ok (.getfield 63, 3) := dGR_12_c_219.1
theorem dX3_goBack_50 : decode cX3_goBack 50 = .ok (.iload 5, 2) := dGR_12_c_219.2.1
theorem dX3_goBack_52 : decode cX3_goBack 52 = .ok (.iaload, 1) := dGR_12_c_219.2.2.1
theorem dX3_goBack_53 : decode cX3_goBack 53 = .ok (.iload_n 3, 1) := dGR_12_c_219.2.2.2.1
theorem dX3_goBack_54 : decode cX3_goBack 54 = .ok (.if_icmp .ne 67, 3) := dGR_12_c_219.2.2.2.2.1
theorem dX3_goBack_57 : decode cX3_goBack 57 = .ok (.aload_n 1, 1) := dGR_12_c_219.2.2.2.2.2.1
theorem dX3_goBack_58 : decode cX3_goBack 58 = .ok (.getfield 66, 3) := dGR_12_c_219.2.2.2.2.2.2.1
theorem dX3_goBack_61 : decode cX3_goBack 61 = .ok (.iload 5, 2) := dGR_12_c_219.2.2.2.2.2.2.2.1
theorem dX3_goBack_63 : decode cX3_goBack 63 = .ok (.iaload, 1) := dGR_12_c_219.2.2.2.2.2.2.2.2.1
theorem dX3_goBack_64 : decode cX3_goBack 64 = .ok (.aload_n 1, 1) := dGR_12_c_219.2.2.2.2.2.2.2.2.2.1
theorem dX3_goBack_65 : decode cX3_goBack 65 = .ok (.getfield 66, 3) := dGR_12_c_219.2.2.2.2.2.2.2.2.2.2.1
theorem dX3_goBack_68 : decode cX3_goBack 68 = .ok (.iload 4, 2) := dGR_12_c_219.2.2.2.2.2.2.2.2.2.2.2
set_option maxRecDepth 100000 in
theorem dGR_12_c_220 : (decode cX3_goBack 70 = .ok (.iaload, 1)) ∧ (decode cX3_goBack 71 = .ok (.if_icmp .ne 50, 3)) ∧ (decode cX3_goBack 74 = .ok (.aload_n 0, 1)) ∧ (decode cX3_goBack 75 = .ok (.getfield 15, 3)) ∧ (decode cX3_goBack 78 = .ok (.iconst 3, 1)) ∧ (decode cX3_goBack 79 = .ok (.aload_n 1, 1)) ∧ (decode cX3_goBack 80 = .ok (.getfield 69, 3)) ∧ (decode cX3_goBack 83 = .ok (.iload 4, 2)) ∧ (decode cX3_goBack 85 = .ok (.iaload, 1)) ∧ (decode cX3_goBack 86 = .ok (.imul, 1)) ∧ (decode cX3_goBack 87 = .ok (.aload_n 1, 1)) ∧ (decode cX3_goBack 88 = .ok (.getfield 72, 3)) := by decide +kernel
theorem dX3_goBack_70 : decode cX3_goBack 70 = .ok (.iaload, 1) := dGR_12_c_220.1
theorem dX3_goBack_71 : decode cX3_goBack 71 = .ok (.if_icmp .ne 50, 3) := dGR_12_c_220.2.1
theorem dX3_goBack_74 : decode cX3_goBack 74 = .ok (.aload_n 0, 1) := dGR_12_c_220.2.2.1
theorem dX3_goBack_75 : decode cX3_goBack 75 = .ok (.getfield 15, 3) := dGR_12_c_220.2.2.2.1
theorem dX3_goBack_78 : decode cX3_goBack 78 = .ok (.iconst 3, 1) := dGR_12_c_220.2.2.2.2.1
theorem dX3_goBack_79 : decode cX3_goBack 79 = .ok (.aload_n 1, 1) := dGR_12_c_220.2.2.2.2.2.1
theorem dX3_goBack_80 : decode cX3_goBack 80 = .ok (.getfield 69, 3) := dGR_12_c_220.2.2.2.2.2.2.1
theorem dX3_goBack_83 : decode cX3_goBack 83 = .ok (.iload 4, 2) := dGR_12_c_220.2.2.2.2.2.2.2.1
theorem dX3_goBack_85 : decode cX3_goBack 85 = .ok (.iaload, 1) := dGR_12_c_220.2.2.2.2.2.2.2.2.1
theorem dX3_goBack_86 : decode cX3_goBack 86 = .ok (.imul, 1) := dGR_12_c_220.2.2.2.2.2.2.2.2.2.1
theorem dX3_goBack_87 : decode cX3_goBack 87 = .ok (.aload_n 1, 1) := dGR_12_c_220.2.2.2.2.2.2.2.2.2.2.1
theorem dX3_goBack_88 : decode cX3_goBack 88 = .ok (.getfield 72, 3) := dGR_12_c_220.2.2.2.2.2.2.2.2.2.2.2
set_option maxRecDepth 100000 in
theorem dGR_12_c_221 : (decode cX3_goBack 91 = .ok (.iload 5, 2)) ∧ (decode cX3_goBack 93 = .ok (.iaload, 1)) ∧ (decode cX3_goBack 94 = .ok (.iadd, 1)) ∧ (decode cX3_goBack 95 = .ok (.dup2, 1)) ∧ (decode cX3_goBack 96 = .ok (.laload, 1)) ∧ (decode cX3_goBack 97 = .ok (.aload_n 0, 1)) ∧ (decode cX3_goBack 98 = .ok (.getfield 11, 3)) ∧ (decode cX3_goBack 101 = .ok (.iconst 3, 1)) ∧ (decode cX3_goBack 102 = .ok (.aload_n 1, 1)) ∧ (decode cX3_goBack 103 = .ok (.getfield 72, 3)) ∧ (decode cX3_goBack 106 = .ok (.iload 4, 2)) ∧ (decode cX3_goBack 108 = .ok (.iaload, 1)) := by decide +kernel
theorem dX3_goBack_91 : decode cX3_goBack 91 = .ok (.iload 5, 2) := dGR_12_c_221.1
theorem dX3_goBack_93 : decode cX3_goBack 93 = .ok (.iaload, 1) := dGR_12_c_221.2.1
theorem dX3_goBack_94 : decode cX3_goBack 94 = .ok (.iadd, 1) := dGR_12_c_221.2.2.1
theorem dX3_goBack_95 : decode cX3_goBack 95 = .ok (.dup2, 1) := dGR_12_c_221.2.2.2.1
theorem dX3_goBack_96 : decode cX3_goBack 96 = .ok (.laload, 1) := dGR_12_c_221.2.2.2.2.1
theorem dX3_goBack_97 : decode cX3_goBack 97 = .ok (.aload_n 0, 1) := dGR_12_c_221.2.2.2.2.2.1
theorem dX3_goBack_98 : decode cX3_goBack 98 = .ok (.getfield 11, 3) := dGR_12_c_221.2.2.2.2.2.2.1
theorem dX3_goBack_101 : decode cX3_goBack 101 = .ok (.iconst 3, 1) := dGR_12_c_221.2.2.2.2.2.2.2.1
theorem dX3_goBack_102 : decode cX3_goBack 102 = .ok (.aload_n 1, 1) := dGR_12_c_221.2.2.2.2.2.2.2.2.1
theorem dX3_goBack_103 : decode cX3_goBack 103 = .ok (.getfield 72, 3) := dGR_12_c_221.2.2.2.2.2.2.2.2.2.1
theorem dX3_goBack_106 : decode cX3_goBack 106 = .ok (.iload 4, 2) := dGR_12_c_221.2.2.2.2.2.2.2.2.2.2.1
theorem dX3_goBack_108 : decode cX3_goBack 108 = .ok (.iaload, 1) := dGR_12_c_221.2.2.2.2.2.2.2.2.2.2.2
set_option maxRecDepth 100000 in
theorem dGR_12_c_222 : (decode cX3_goBack 109 = .ok (.imul, 1)) ∧ (decode cX3_goBack 110 = .ok (.aload_n 1, 1)) ∧ (decode cX3_goBack 111 = .ok (.getfield 69, 3)) ∧ (decode cX3_goBack 114 = .ok (.iload 5, 2)) ∧ (decode cX3_goBack 116 = .ok (.iaload, 1)) ∧ (decode cX3_goBack 117 = .ok (.iadd, 1)) ∧ (decode cX3_goBack 118 = .ok (.laload, 1)) ∧ (decode cX3_goBack 119 = .ok (.ladd, 1)) ∧ (decode cX3_goBack 120 = .ok (.lastore, 1)) ∧ (decode cX3_goBack 121 = .ok (.iinc 5 1, 3)) ∧ (decode cX3_goBack 124 = .ok (.goto (-87), 3)) ∧ (decode cX3_goBack 127 = .ok (.iinc 4 1, 3)) := by decide +kernel
theorem dX3_goBack_109 : decode cX3_goBack 109 = .ok (.imul, 1) := dGR_12_c_222.1
theorem dX3_goBack_110 : decode cX3_goBack 110 = .ok (.aload_n 1, 1) := dGR_12_c_222.2.1
theorem dX3_goBack_111 : decode cX3_goBack 111 = .ok (.getfield 69, 3) := dGR_12_c_222.2.2.1
theorem dX3_goBack_114 : decode cX3_goBack 114 = .ok (.iload 5, 2) := dGR_12_c_222.2.2.2.1
theorem dX3_goBack_116 : decode cX3_goBack 116 = .ok (.iaload, 1) := dGR_12_c_222.2.2.2.2.1
theorem dX3_goBack_117 : decode cX3_goBack 117 = .ok (.iadd, 1) := dGR_12_c_222.2.2.2.2.2.1
theorem dX3_goBack_118 : decode cX3_goBack 118 = .ok (.laload, 1) := dGR_12_c_222.2.2.2.2.2.2.1
theorem dX3_goBack_119 : decode cX3_goBack 119 = .ok (.ladd, 1) := dGR_12_c_222.2.2.2.2.2.2.2.1
theorem dX3_goBack_120 : decode cX3_goBack 120 = .ok (.lastore, 1) := dGR_12_c_222.2.2.2.2.2.2.2.2.1
theorem dX3_goBack_121 : decode cX3_goBack 121 = .ok (.iinc 5 1, 3) := dGR_12_c_222.2.2.2.2.2.2.2.2.2.1
theorem dX3_goBack_124 : decode cX3_goBack 124 = .ok (.goto (-87), 3) := dGR_12_c_222.2.2.2.2.2.2.2.2.2.2.1
theorem dX3_goBack_127 : decode cX3_goBack 127 = .ok (.iinc 4 1, 3) := dGR_12_c_222.2.2.2.2.2.2.2.2.2.2.2
set_option maxRecDepth 100000 in
theorem dGR_12_c_223 : (decode cX3_goBack 130 = .ok (.goto (-119), 3)) ∧ (decode cX3_goBack 133 = .ok (.iconst 0, 1)) ∧ (decode cX3_goBack 134 = .ok (.istore 4, 2)) ∧ (decode cX3_goBack 136 = .ok (.iload 4, 2)) ∧ (decode cX3_goBack 138 = .ok (.iconst 3, 1)) ∧ (decode cX3_goBack 139 = .ok (.if_icmp .ge 44, 3)) ∧ (decode cX3_goBack 142 = .ok (.iconst 0, 1)) ∧ (decode cX3_goBack 143 = .ok (.istore 5, 2)) ∧ (decode cX3_goBack 145 = .ok (.iload 5, 2)) ∧ (decode cX3_goBack 147 = .ok (.iconst 3, 1)) ∧ (decode cX3_goBack 148 = .ok (.if_icmp .ge 29, 3)) ∧ (decode cX3_goBack 151 = .ok (.aload_n 0, 1)) := by decide +kernel
theorem dX3_goBack_130 : decode cX3_goBack 130 = .ok (.goto (-119), 3) := dGR_12_c_223.1
theorem dX3_goBack_133 : decode cX3_goBack 133 = .ok (.iconst 0, 1) := dGR_12_c_223.2.1
theorem dX3_goBack_134 : decode cX3_goBack 134 = .ok (.istore 4, 2) := dGR_12_c_223.2.2.1
theorem dX3_goBack_136 : decode cX3_goBack 136 = .ok (.iload 4, 2) := dGR_12_c_223.2.2.2.1
theorem dX3_goBack_138 : decode cX3_goBack 138 = .ok (.iconst 3, 1) := dGR_12_c_223.2.2.2.2.1
theorem dX3_goBack_139 : decode cX3_goBack 139 = .ok (.if_icmp .ge 44, 3) := dGR_12_c_223.2.2.2.2.2.1
theorem dX3_goBack_142 : decode cX3_goBack 142 = .ok (.iconst 0, 1) := dGR_12_c_223.2.2.2.2.2.2.1
theorem dX3_goBack_143 : decode cX3_goBack 143 = .ok (.istore 5, 2) := dGR_12_c_223.2.2.2.2.2.2.2.1
theorem dX3_goBack_145 : decode cX3_goBack 145 = .ok (.iload 5, 2) := dGR_12_c_223.2.2.2.2.2.2.2.2.1
theorem dX3_goBack_147 : decode cX3_goBack 147 = .ok (.iconst 3, 1) := dGR_12_c_223.2.2.2.2.2.2.2.2.2.1
theorem dX3_goBack_148 : decode cX3_goBack 148 = .ok (.if_icmp .ge 29, 3) := dGR_12_c_223.2.2.2.2.2.2.2.2.2.2.1
theorem dX3_goBack_151 : decode cX3_goBack 151 = .ok (.aload_n 0, 1) := dGR_12_c_223.2.2.2.2.2.2.2.2.2.2.2
set_option maxRecDepth 100000 in
theorem dGR_12_c_224 : (decode cX3_goBack 152 = .ok (.getfield 11, 3)) ∧ (decode cX3_goBack 155 = .ok (.iconst 3, 1)) ∧ (decode cX3_goBack 156 = .ok (.iload 4, 2)) ∧ (decode cX3_goBack 158 = .ok (.imul, 1)) ∧ (decode cX3_goBack 159 = .ok (.iload 5, 2)) ∧ (decode cX3_goBack 161 = .ok (.iadd, 1)) ∧ (decode cX3_goBack 162 = .ok (.aload_n 0, 1)) ∧ (decode cX3_goBack 163 = .ok (.iload 4, 2)) ∧ (decode cX3_goBack 165 = .ok (.iload 5, 2)) ∧ (decode cX3_goBack 167 = .ok (.invokevirtual 79, 3)) ∧ (decode cX3_goBack 170 = .ok (.lastore, 1)) ∧ (decode cX3_goBack 171 = .ok (.iinc 5 1, 3)) := by decide +kernel
theorem dX3_goBack_152 : decode cX3_goBack 152 = .ok (.getfield 11, 3) := dGR_12_c_224.1
theorem dX3_goBack_155 : decode cX3_goBack 155 = .ok (.iconst 3, 1) := dGR_12_c_224.2.1
theorem dX3_goBack_156 : decode cX3_goBack 156 = .ok (.iload 4, 2) := dGR_12_c_224.2.2.1
theorem dX3_goBack_158 : decode cX3_goBack 158 = .ok (.imul, 1) := dGR_12_c_224.2.2.2.1
theorem dX3_goBack_159 : decode cX3_goBack 159 = .ok (.iload 5, 2) := dGR_12_c_224.2.2.2.2.1
theorem dX3_goBack_161 : decode cX3_goBack 161 = .ok (.iadd, 1) := dGR_12_c_224.2.2.2.2.2.1
theorem dX3_goBack_162 : decode cX3_goBack 162 = .ok (.aload_n 0, 1) := dGR_12_c_224.2.2.2.2.2.2.1
theorem dX3_goBack_163 : decode cX3_goBack 163 = .ok (.iload 4, 2) := dGR_12_c_224.2.2.2.2.2.2.2.1
theorem dX3_goBack_165 : decode cX3_goBack 165 = .ok (.iload 5, 2) := dGR_12_c_224.2.2.2.2.2.2.2.2.1
theorem dX3_goBack_167 : decode cX3_goBack 167 = .ok (.invokevirtual 79, 3) := dGR_12_c_224.2.2.2.2.2.2.2.2.2.1
theorem dX3_goBack_170 : decode cX3_goBack 170 = .ok (.lastore, 1) := dGR_12_c_224.2.2.2.2.2.2.2.2.2.2.1
theorem dX3_goBack_171 : decode cX3_goBack 171 = .ok (.iinc 5 1, 3) := dGR_12_c_224.2.2.2.2.2.2.2.2.2.2.2
set_option maxRecDepth 100000 in
theorem dGR_12_c_225 : (decode cX3_goBack 174 = .ok (.goto (-29), 3)) ∧ (decode cX3_goBack 177 = .ok (.iinc 4 1, 3)) ∧ (decode cX3_goBack 180 = .ok (.goto (-44), 3)) ∧ (decode cX3_goBack 183 = .ok (.return_, 1)) := by decide +kernel
theorem dX3_goBack_174 : decode cX3_goBack 174 = .ok (.goto (-29), 3) := dGR_12_c_225.1
theorem dX3_goBack_177 : decode cX3_goBack 177 = .ok (.iinc 4 1, 3) := dGR_12_c_225.2.1
theorem dX3_goBack_180 : decode cX3_goBack 180 = .ok (.goto (-44), 3) := dGR_12_c_225.2.2.1
theorem dX3_goBack_183 : decode cX3_goBack 183 = .ok (.return_, 1) := dGR_12_c_225.2.2.2
abbrev f_c_X3_goBack : List (Nat × Int) := [(57, -1), (58, -1)]
set_option maxHeartbeats 4000000 in
set_option maxRecDepth 100000 in
theorem c_X3_goBack (G : KG) (l : Launch) (M : Mem) (c0 : Int) (c1 : Int) (a2 : Int) (a3 : Int) (hI_M : Inv false M) (hk_c0 : kd c0 = 56) (hk_c1 : kd c1 = 1) (hpre : -2147483648 ≤ a2 ∧ a2 ≤ 2147483647 ∧ -2147483648 ≤ a3 ∧ a3 ≤ 2147483647 ∧ (M c0 0) ≤ 19) : KC false G l yX3_goBack cX3_goBack 6 none (1, 25) [vR G c0, vR G c1, vI a2, vI a3] M (fun A => kQv false G A (fun (N : Mem) => Inv false N ∧ Fr f_c_X3_goBack M N)) := by
  refine kx_met (lo := [some (vR G c0), some (vR G c1), some (vI a2), some (vI a3), none, none]) (by decide) (Nat.le_of_ble_eq_true rfl) rfl ?_
  intro X F hQ
  have hF_M : Fr f_c_X3_goBack M M := Fr.rf _ _
  have h_1 := Inv.g hI_M hk_c0 rfl 0 (a := 0) (b := 20) rfl rfl
  refine kx_aload_n 1 F 0 dX3_goBack_0 rfl rfl rfl ?_
  refine kx_getr 4 F fl_X3_15 hk_c0 rfl rfl (j := 2) rfl dX3_goBack_1 (v := (M c0 2)) rfl rfl ?_
  have hk_2 : kd (M c0 2) = 58 := Inv.r hI_M hk_c0 rfl 2 rfl rfl
  refine kx_lconst 5 (z := 0) F dX3_goBack_4 (by decide) rfl ?_
  refine kx_Sv 8 F (As := [vR G (M c0 2), vL 0]) (st := []) sd_X3_52 (c_fill_scratch G l M (M c0 2) 0 hI_M hk_2 (by omega)) ⟨by decide, by decide⟩ rfl rfl (Nat.le_of_ble_eq_true rfl) dX3_goBack_5 rfl ?_
  intro N_3 q_4
  obtain ⟨hI_N_3, hG_N_3⟩ := q_4
  have hF_N_3 : Fr f_c_X3_goBack M N_3 := Fr.c hF_M hG_N_3 rfl
  refine kx_iconst 9 F dX3_goBack_8 rfl ?_
  refine kx_istore 11 F 4 (lo' := [some (vR G c0), some (vR G c1), some (vI a2), some (vI a3), some (vI 0), none]) dX3_goBack_9 (by decide) rfl rfl rfl ?_
  have L_3157 : ∀ (n_3158 : Nat) (x4_3155 : Int) (N_3156 : Mem), Inv false N_3156 → Fr f_c_X3_goBack M N_3156 → 0 ≤ x4_3155 ∧ x4_3155 ≤ 20 → (20 - (x4_3155)).toNat = n_3158 → KJ false G X N_3156 11 [some (vR G c0), some (vR G c1), some (vI a2), some (vI a3), some (vI x4_3155), none] [] := by
    intro n_3158
    refine Nat.strongRecOn n_3158 ?_
    intro n_3158 ih_3159 x4_3155 N_3156 hI_N_3156 hF_N_3156 h_3160 hm_3161
    refine kx_iload 13 F 4 dX3_goBack_11 rfl rfl ?_
    refine kx_aload_n 14 F 1 dX3_goBack_13 rfl rfl rfl ?_
    refine kx_geti 17 F fl_X3_58 hk_c1 rfl rfl (j := 4) rfl dX3_goBack_14 (v := (M c1 4)) (by rw [Fr.e hF_N_3156 hk_c1 _ rfl]) rfl ?_
    have h_3162 := Inv.g hI_M hk_c1 rfl 4 (a := 0) (b := 20) rfl rfl
    refine kx_icmp_ge 20 F 133 dX3_goBack_17 (by decide) rfl (by omega) (by omega) (fun h_3163 => ?_) (fun h_3163 => ?_)
    · refine kx_iconst 134 F dX3_goBack_133 rfl ?_
      refine kx_istore 136 F 4 (lo' := [some (vR G c0), some (vR G c1), some (vI a2), some (vI a3), some (vI 0), none]) dX3_goBack_134 (by decide) rfl rfl rfl ?_
      have L_3378 : ∀ (n_3379 : Nat) (x4_3376 : Int) (N_3377 : Mem), Inv false N_3377 → Fr f_c_X3_goBack M N_3377 → 0 ≤ x4_3376 ∧ x4_3376 ≤ 3 → (3 - (x4_3376)).toNat = n_3379 → KJ false G X N_3377 136 [some (vR G c0), none, none, none, some (vI x4_3376), none] [] := by
        intro n_3379
        refine Nat.strongRecOn n_3379 ?_
        intro n_3379 ih_3380 x4_3376 N_3377 hI_N_3377 hF_N_3377 h_3381 hm_3382
        refine kx_iload 138 F 4 dX3_goBack_136 rfl rfl ?_
        refine kx_iconst 139 F dX3_goBack_138 rfl ?_
        refine kx_icmp_ge 142 F 183 dX3_goBack_139 (by decide) rfl (by omega) (by decide) (fun h_3383 => ?_) (fun h_3383 => ?_)
        · exact kx_vret F hQ ⟨hI_N_3377, hF_N_3377⟩ dX3_goBack_183
        · refine kx_iconst 143 F dX3_goBack_142 rfl ?_
          refine kx_istore 145 F 5 (lo' := [some (vR G c0), none, none, none, some (vI x4_3376), some (vI 0)]) dX3_goBack_143 (by decide) rfl rfl rfl ?_
          have L_3422 : ∀ (n_3423 : Nat) (x5_3420 : Int) (N_3421 : Mem), Inv false N_3421 → Fr f_c_X3_goBack M N_3421 → 0 ≤ x5_3420 ∧ x5_3420 ≤ 3 → (3 - (x5_3420)).toNat = n_3423 → KJ false G X N_3421 145 [some (vR G c0), none, none, none, some (vI x4_3376), some (vI x5_3420)] [] := by
            intro n_3423
            refine Nat.strongRecOn n_3423 ?_
            intro n_3423 ih_3424 x5_3420 N_3421 hI_N_3421 hF_N_3421 h_3425 hm_3426
            refine kx_iload 147 F 5 dX3_goBack_145 rfl rfl ?_
            refine kx_iconst 148 F dX3_goBack_147 rfl ?_
            refine kx_icmp_ge 151 F 177 dX3_goBack_148 (by decide) rfl (by omega) (by decide) (fun h_3427 => ?_) (fun h_3427 => ?_)
            · refine kx_iinc 180 F 4 (v := x4_3376 + 1) (lo' := [some (vR G c0), none, none, none, some (vI (x4_3376 + 1)), some (vI x5_3420)]) dX3_goBack_177 rfl (by omega) (by decide) rfl rfl rfl ?_
              refine kx_goto 136 F dX3_goBack_180 (by decide) ?_
              refine kx_drop 5 (lo' := [some (vR G c0), none, none, none, some (vI (x4_3376 + 1)), none]) rfl ?_
              exact ih_3380 _ (by omega) (x4_3376 + 1) N_3421 hI_N_3421 hF_N_3421 (by omega) rfl
            · refine kx_aload_n 152 F 0 dX3_goBack_151 rfl rfl rfl ?_
              refine kx_getr 155 F fl_X3_11 hk_c0 rfl rfl (j := 1) rfl dX3_goBack_152 (v := (M c0 1)) (by rw [Fr.e hF_N_3421 hk_c0 _ rfl]) rfl ?_
              have hk_3428 : kd (M c0 1) = 57 := Inv.r hI_M hk_c0 rfl 1 rfl rfl
              refine kx_iconst 156 F dX3_goBack_155 rfl ?_
              refine kx_iload 158 F 4 dX3_goBack_156 rfl rfl ?_
              refine kx_imul 159 F (v := 3 * x4_3376) dX3_goBack_158 (by omega) rfl ?_
              refine kx_iload 161 F 5 dX3_goBack_159 rfl rfl ?_
              refine kx_iadd 162 F (v := 3 * x4_3376 + x5_3420) dX3_goBack_161 rfl rfl ?_
              refine kx_aload_n 163 F 0 dX3_goBack_162 rfl rfl rfl ?_
              refine kx_iload 165 F 4 dX3_goBack_163 rfl rfl ?_
              refine kx_iload 167 F 5 dX3_goBack_165 rfl rfl ?_
              have e_3429 : (N_3421 c0 0) = (M c0 0) := by rw [Fr.e hF_N_3421 hk_c0 _ rfl]
              refine kx_Vl 170 (ci := 0) F (As := [vI x4_3376, vI x5_3420]) (st := [vI (3 * x4_3376 + x5_3420), vR G (M c0 1)]) vd_X3_79 (c_X3_productAt G l N_3421 c0 x4_3376 x5_3420 hI_N_3421 hk_c0 (by omega)) hk_c0 rfl rfl rfl ⟨by decide, by decide⟩ rfl rfl (Nat.le_of_ble_eq_true rfl) dX3_goBack_167 rfl ?_
              intro r_3430 N_3431 q_3432
              obtain ⟨rfl, q_3432c⟩ := q_3432
              refine kx_last 171 F hk_3428 rfl rfl (by omega) (by decide) dX3_goBack_170 rfl ?_
              intro N_3433 hM_N_3433
              have hI_N_3433 : Inv false N_3433 := Inv.u hI_N_3421 hM_N_3433 hk_3428 (a := (-9223372036854775808)) (b := 9223372036854775807) rfl rfl rfl (by omega)
              have hF_N_3433 : Fr f_c_X3_goBack M N_3433 := Fr.u hF_N_3421 hM_N_3433 hk_3428 rfl
              refine kx_iinc 174 F 5 (v := x5_3420 + 1) (lo' := [some (vR G c0), none, none, none, some (vI x4_3376), some (vI (x5_3420 + 1))]) dX3_goBack_171 rfl (by omega) (by decide) rfl rfl rfl ?_
              refine kx_goto 145 F dX3_goBack_174 (by decide) ?_
              exact ih_3424 _ (by omega) (x5_3420 + 1) N_3433 hI_N_3433 hF_N_3433 (by omega) rfl
          exact L_3422 _ 0 N_3377 hI_N_3377 hF_N_3377 (by omega) rfl
      refine kx_drop 1 (lo' := [some (vR G c0), none, some (vI a2), some (vI a3), some (vI 0), none]) rfl ?_
      refine kx_drop 2 (lo' := [some (vR G c0), none, none, some (vI a3), some (vI 0), none]) rfl ?_
      refine kx_drop 3 (lo' := [some (vR G c0), none, none, none, some (vI 0), none]) rfl ?_
      exact L_3378 _ 0 N_3156 hI_N_3156 hF_N_3156 (by omega) rfl
    · refine kx_aload_n 21 F 1 dX3_goBack_20 rfl rfl rfl ?_
      refine kx_getr 24 F fl_X3_63 hk_c1 rfl rfl (j := 6) rfl dX3_goBack_21 (v := (M c1 6)) (by rw [Fr.e hF_N_3156 hk_c1 _ rfl]) rfl ?_
      have hk_3434 : kd (M c1 6) = 2 := Inv.r hI_M hk_c1 rfl 6 rfl rfl
      refine kx_iload 26 F 4 dX3_goBack_24 rfl rfl ?_
      refine kx_iald 27 F hk_3434 rfl rfl (by omega) (by decide) dX3_goBack_26 (v := (M (M c1 6) x4_3155)) (by rw [Fr.e hF_N_3156 hk_3434 _ rfl]) rfl ?_
      have h_3435 := Inv.g hI_M hk_3434 rfl x4_3155 (a := 0) (b := 5) rfl rfl
      refine kx_iload_n 28 F 2 dX3_goBack_27 rfl rfl rfl ?_
      have J_3611 : ∀ (N_3610 : Mem), Inv false N_3610 → Fr f_c_X3_goBack M N_3610 → KJ false G X N_3610 127 [some (vR G c0), some (vR G c1), some (vI a2), some (vI a3), some (vI x4_3155), none] [] := by
        intro N_3610 hI_N_3610 hF_N_3610
        refine kx_iinc 130 F 4 (v := x4_3155 + 1) (lo' := [some (vR G c0), some (vR G c1), some (vI a2), some (vI a3), some (vI (x4_3155 + 1)), none]) dX3_goBack_127 rfl (by omega) (by decide) rfl rfl rfl ?_
        refine kx_goto 11 F dX3_goBack_130 (by decide) ?_
        exact ih_3159 _ (by omega) (x4_3155 + 1) N_3610 hI_N_3610 hF_N_3610 (by omega) rfl
      refine kx_icmp_eq 31 F 34 dX3_goBack_28 (by decide) rfl (by omega) (by omega) (fun h_3613 => ?_) (fun h_3613 => ?_)
      · refine kx_iconst 35 F dX3_goBack_34 rfl ?_
        refine kx_istore 37 F 5 (lo' := [some (vR G c0), some (vR G c1), some (vI a2), some (vI a3), some (vI x4_3155), some (vI 0)]) dX3_goBack_35 (by decide) rfl rfl rfl ?_
        have L_3763 : ∀ (n_3764 : Nat) (x5_3761 : Int) (N_3762 : Mem), Inv false N_3762 → Fr f_c_X3_goBack M N_3762 → 0 ≤ x5_3761 ∧ x5_3761 ≤ 20 → (20 - (x5_3761)).toNat = n_3764 → KJ false G X N_3762 37 [some (vR G c0), some (vR G c1), some (vI a2), some (vI a3), some (vI x4_3155), some (vI x5_3761)] [] := by
          intro n_3764
          refine Nat.strongRecOn n_3764 ?_
          intro n_3764 ih_3765 x5_3761 N_3762 hI_N_3762 hF_N_3762 h_3766 hm_3767
          refine kx_iload 39 F 5 dX3_goBack_37 rfl rfl ?_
          refine kx_aload_n 40 F 1 dX3_goBack_39 rfl rfl rfl ?_
          refine kx_geti 43 F fl_X3_58 hk_c1 rfl rfl (j := 4) rfl dX3_goBack_40 (v := (M c1 4)) (by rw [Fr.e hF_N_3762 hk_c1 _ rfl]) rfl ?_
          refine kx_icmp_ge 46 F 127 dX3_goBack_43 (by decide) rfl (by omega) (by omega) (fun h_3768 => ?_) (fun h_3768 => ?_)
          · refine kx_drop 5 (lo' := [some (vR G c0), some (vR G c1), some (vI a2), some (vI a3), some (vI x4_3155), none]) rfl ?_
            exact J_3611 N_3762 hI_N_3762 hF_N_3762
          · refine kx_aload_n 47 F 1 dX3_goBack_46 rfl rfl rfl ?_
            refine kx_getr 50 F fl_X3_63 hk_c1 rfl rfl (j := 6) rfl dX3_goBack_47 (v := (M c1 6)) (by rw [Fr.e hF_N_3762 hk_c1 _ rfl]) rfl ?_
            refine kx_iload 52 F 5 dX3_goBack_50 rfl rfl ?_
            refine kx_iald 53 F hk_3434 rfl rfl (by omega) (by decide) dX3_goBack_52 (v := (M (M c1 6) x5_3761)) (by rw [Fr.e hF_N_3762 hk_3434 _ rfl]) rfl ?_
            have h_3769 := Inv.g hI_M hk_3434 rfl x5_3761 (a := 0) (b := 5) rfl rfl
            refine kx_iload_n 54 F 3 dX3_goBack_53 rfl rfl rfl ?_
            have J_3788 : ∀ (N_3787 : Mem), Inv false N_3787 → Fr f_c_X3_goBack M N_3787 → KJ false G X N_3787 121 [some (vR G c0), some (vR G c1), some (vI a2), some (vI a3), some (vI x4_3155), some (vI x5_3761)] [] := by
              intro N_3787 hI_N_3787 hF_N_3787
              refine kx_iinc 124 F 5 (v := x5_3761 + 1) (lo' := [some (vR G c0), some (vR G c1), some (vI a2), some (vI a3), some (vI x4_3155), some (vI (x5_3761 + 1))]) dX3_goBack_121 rfl (by omega) (by decide) rfl rfl rfl ?_
              refine kx_goto 37 F dX3_goBack_124 (by decide) ?_
              exact ih_3765 _ (by omega) (x5_3761 + 1) N_3787 hI_N_3787 hF_N_3787 (by omega) rfl
            refine kx_icmp_ne 57 F 121 dX3_goBack_54 (by decide) rfl (by omega) (by omega) (fun h_3790 => ?_) (fun h_3790 => ?_)
            · exact J_3788 N_3762 hI_N_3762 hF_N_3762
            · refine kx_aload_n 58 F 1 dX3_goBack_57 rfl rfl rfl ?_
              refine kx_getr 61 F fl_X3_66 hk_c1 rfl rfl (j := 9) rfl dX3_goBack_58 (v := (M c1 9)) (by rw [Fr.e hF_N_3762 hk_c1 _ rfl]) rfl ?_
              have hk_3791 : kd (M c1 9) = 5 := Inv.r hI_M hk_c1 rfl 9 rfl rfl
              refine kx_iload 63 F 5 dX3_goBack_61 rfl rfl ?_
              refine kx_iald 64 F hk_3791 rfl rfl (by omega) (by decide) dX3_goBack_63 (v := (M (M c1 9) x5_3761)) (by rw [Fr.e hF_N_3762 hk_3791 _ rfl]) rfl ?_
              have h_3792 := Inv.g hI_M hk_3791 rfl x5_3761 (a := (-1)) (b := 2) rfl rfl
              refine kx_aload_n 65 F 1 dX3_goBack_64 rfl rfl rfl ?_
              refine kx_getr 68 F fl_X3_66 hk_c1 rfl rfl (j := 9) rfl dX3_goBack_65 (v := (M c1 9)) (by rw [Fr.e hF_N_3762 hk_c1 _ rfl]) rfl ?_
              refine kx_iload 70 F 4 dX3_goBack_68 rfl rfl ?_
              refine kx_iald 71 F hk_3791 rfl rfl (by omega) (by decide) dX3_goBack_70 (v := (M (M c1 9) x4_3155)) (by rw [Fr.e hF_N_3762 hk_3791 _ rfl]) rfl ?_
              have h_3793 := Inv.g hI_M hk_3791 rfl x4_3155 (a := (-1)) (b := 2) rfl rfl
              refine kx_icmp_ne 74 F 121 dX3_goBack_71 (by decide) rfl (by omega) (by omega) (fun h_3794 => ?_) (fun h_3794 => ?_)
              · exact J_3788 N_3762 hI_N_3762 hF_N_3762
              · refine kx_aload_n 75 F 0 dX3_goBack_74 rfl rfl rfl ?_
                refine kx_getr 78 F fl_X3_15 hk_c0 rfl rfl (j := 2) rfl dX3_goBack_75 (v := (M c0 2)) (by rw [Fr.e hF_N_3762 hk_c0 _ rfl]) rfl ?_
                refine kx_iconst 79 F dX3_goBack_78 rfl ?_
                refine kx_aload_n 80 F 1 dX3_goBack_79 rfl rfl rfl ?_
                refine kx_getr 83 F fl_X3_69 hk_c1 rfl rfl (j := 7) rfl dX3_goBack_80 (v := (M c1 7)) (by rw [Fr.e hF_N_3762 hk_c1 _ rfl]) rfl ?_
                have hk_3795 : kd (M c1 7) = 3 := Inv.r hI_M hk_c1 rfl 7 rfl rfl
                refine kx_iload 85 F 4 dX3_goBack_83 rfl rfl ?_
                refine kx_iald 86 F hk_3795 rfl rfl (by omega) (by decide) dX3_goBack_85 (v := (M (M c1 7) x4_3155)) (by rw [Fr.e hF_N_3762 hk_3795 _ rfl]) rfl ?_
                have h_3796 := Inv.g hI_M hk_3795 rfl x4_3155 (a := 0) (b := 2) rfl rfl
                refine kx_imul 87 F (v := 3 * (M (M c1 7) x4_3155)) dX3_goBack_86 (by omega) rfl ?_
                refine kx_aload_n 88 F 1 dX3_goBack_87 rfl rfl rfl ?_
                refine kx_getr 91 F fl_X3_72 hk_c1 rfl rfl (j := 8) rfl dX3_goBack_88 (v := (M c1 8)) (by rw [Fr.e hF_N_3762 hk_c1 _ rfl]) rfl ?_
                have hk_3797 : kd (M c1 8) = 4 := Inv.r hI_M hk_c1 rfl 8 rfl rfl
                refine kx_iload 93 F 5 dX3_goBack_91 rfl rfl ?_
                refine kx_iald 94 F hk_3797 rfl rfl (by omega) (by decide) dX3_goBack_93 (v := (M (M c1 8) x5_3761)) (by rw [Fr.e hF_N_3762 hk_3797 _ rfl]) rfl ?_
                have h_3798 := Inv.g hI_M hk_3797 rfl x5_3761 (a := 0) (b := 2) rfl rfl
                refine kx_iadd 95 F (v := 3 * (M (M c1 7) x4_3155) + (M (M c1 8) x5_3761)) dX3_goBack_94 rfl rfl ?_
                refine kx_dup2 96 F dX3_goBack_95 rfl rfl rfl ?_
                refine kx_lald 97 F hk_2 rfl rfl (by omega) (by decide) dX3_goBack_96 (v := (N_3762 (M c0 2) (3 * (M (M c1 7) x4_3155) + (M (M c1 8) x5_3761)))) rfl rfl ?_
                have h_3799 := Inv.g hI_N_3762 hk_2 rfl (3 * (M (M c1 7) x4_3155) + (M (M c1 8) x5_3761)) (a := (-9223372036854775808)) (b := 9223372036854775807) rfl rfl
                refine kx_aload_n 98 F 0 dX3_goBack_97 rfl rfl rfl ?_
                refine kx_getr 101 F fl_X3_11 hk_c0 rfl rfl (j := 1) rfl dX3_goBack_98 (v := (M c0 1)) (by rw [Fr.e hF_N_3762 hk_c0 _ rfl]) rfl ?_
                have hk_3800 : kd (M c0 1) = 57 := Inv.r hI_M hk_c0 rfl 1 rfl rfl
                refine kx_iconst 102 F dX3_goBack_101 rfl ?_
                refine kx_aload_n 103 F 1 dX3_goBack_102 rfl rfl rfl ?_
                refine kx_getr 106 F fl_X3_72 hk_c1 rfl rfl (j := 8) rfl dX3_goBack_103 (v := (M c1 8)) (by rw [Fr.e hF_N_3762 hk_c1 _ rfl]) rfl ?_
                refine kx_iload 108 F 4 dX3_goBack_106 rfl rfl ?_
                refine kx_iald 109 F hk_3797 rfl rfl (by omega) (by decide) dX3_goBack_108 (v := (M (M c1 8) x4_3155)) (by rw [Fr.e hF_N_3762 hk_3797 _ rfl]) rfl ?_
                have h_3801 := Inv.g hI_M hk_3797 rfl x4_3155 (a := 0) (b := 2) rfl rfl
                refine kx_imul 110 F (v := 3 * (M (M c1 8) x4_3155)) dX3_goBack_109 (by omega) rfl ?_
                refine kx_aload_n 111 F 1 dX3_goBack_110 rfl rfl rfl ?_
                refine kx_getr 114 F fl_X3_69 hk_c1 rfl rfl (j := 7) rfl dX3_goBack_111 (v := (M c1 7)) (by rw [Fr.e hF_N_3762 hk_c1 _ rfl]) rfl ?_
                refine kx_iload 116 F 5 dX3_goBack_114 rfl rfl ?_
                refine kx_iald 117 F hk_3795 rfl rfl (by omega) (by decide) dX3_goBack_116 (v := (M (M c1 7) x5_3761)) (by rw [Fr.e hF_N_3762 hk_3795 _ rfl]) rfl ?_
                have h_3802 := Inv.g hI_M hk_3795 rfl x5_3761 (a := 0) (b := 2) rfl rfl
                refine kx_iadd 118 F (v := 3 * (M (M c1 8) x4_3155) + (M (M c1 7) x5_3761)) dX3_goBack_117 rfl rfl ?_
                refine kx_lald 119 F hk_3800 rfl rfl (by omega) (by decide) dX3_goBack_118 (v := (N_3762 (M c0 1) (3 * (M (M c1 8) x4_3155) + (M (M c1 7) x5_3761)))) rfl rfl ?_
                have h_3803 := Inv.g hI_N_3762 hk_3800 rfl (3 * (M (M c1 8) x4_3155) + (M (M c1 7) x5_3761)) (a := (-9223372036854775808)) (b := 9223372036854775807) rfl rfl
                refine kx_ladd 120 F (v := (N_3762 (M c0 2) (3 * (M (M c1 7) x4_3155) + (M (M c1 8) x5_3761))) + (N_3762 (M c0 1) (3 * (M (M c1 8) x4_3155) + (M (M c1 7) x5_3761)))) dX3_goBack_119 rfl rfl ?_
                refine kx_wrapl (fun w_3804 h_3805 _ => ?_)
                refine kx_last 121 F hk_2 rfl rfl (by omega) (by decide) dX3_goBack_120 rfl ?_
                intro N_3806 hM_N_3806
                have hI_N_3806 : Inv false N_3806 := Inv.u hI_N_3762 hM_N_3806 hk_2 (a := (-9223372036854775808)) (b := 9223372036854775807) rfl rfl rfl (by omega)
                have hF_N_3806 : Fr f_c_X3_goBack M N_3806 := Fr.u hF_N_3762 hM_N_3806 hk_2 rfl
                exact J_3788 N_3806 hI_N_3806 hF_N_3806
        exact L_3763 _ 0 N_3156 hI_N_3156 hF_N_3156 (by omega) rfl
      · refine kx_goto 127 F dX3_goBack_31 (by decide) ?_
        exact J_3611 N_3156 hI_N_3156 hF_N_3156
  exact L_3157 _ 0 N_3 hI_N_3 hF_N_3 (by omega) rfl
set_option maxRecDepth 100000 in
theorem dGR_12_c_226 : (decode cX3_go 0 = .ok (.iload_n 3, 1)) ∧ (decode cX3_go 1 = .ok (.ifCond .ne 60, 3)) ∧ (decode cX3_go 4 = .ok (.aload_n 0, 1)) ∧ (decode cX3_go 5 = .ok (.getfield 31, 3)) ∧ (decode cX3_go 8 = .ok (.bipush 20, 2)) ∧ (decode cX3_go 10 = .ok (.if_icmp .ge 51, 3)) ∧ (decode cX3_go 13 = .ok (.aload_n 0, 1)) ∧ (decode cX3_go 14 = .ok (.getfield 11, 3)) ∧ (decode cX3_go 17 = .ok (.iconst 0, 1)) ∧ (decode cX3_go 18 = .ok (.aload_n 0, 1)) ∧ (decode cX3_go 19 = .ok (.getfield 18, 3)) ∧ (decode cX3_go 22 = .ok (.aload_n 0, 1)) := by decide +kernel
theorem dX3_go_0 : decode cX3_go 0 = .ok (.iload_n 3, 1) := dGR_12_c_226.1
theorem dX3_go_1 : decode cX3_go 1 = .ok (.ifCond .ne 60, 3) := dGR_12_c_226.2.1
theorem dX3_go_4 : decode cX3_go 4 = .ok (.aload_n 0, 1) := dGR_12_c_226.2.2.1
theorem dX3_go_5 : decode cX3_go 5 = .ok (.getfield 31, 3) := dGR_12_c_226.2.2.2.1
theorem dX3_go_8 : decode cX3_go 8 = .ok (.bipush 20, 2) := dGR_12_c_226.2.2.2.2.1
theorem dX3_go_10 : decode cX3_go 10 = .ok (.if_icmp .ge 51, 3) := dGR_12_c_226.2.2.2.2.2.1
theorem dX3_go_13 : decode cX3_go 13 = .ok (.aload_n 0, 1) := dGR_12_c_226.2.2.2.2.2.2.1
theorem dX3_go_14 : decode cX3_go 14 = .ok (.getfield 11, 3) := dGR_12_c_226.2.2.2.2.2.2.2.1
theorem dX3_go_17 : decode cX3_go 17 = .ok (.iconst 0, 1) := dGR_12_c_226.2.2.2.2.2.2.2.2.1
theorem dX3_go_18 : decode cX3_go 18 = .ok (.aload_n 0, 1) := dGR_12_c_226.2.2.2.2.2.2.2.2.2.1
theorem dX3_go_19 : decode cX3_go 19 = .ok (.getfield 18, 3) := dGR_12_c_226.2.2.2.2.2.2.2.2.2.2.1
theorem dX3_go_22 : decode cX3_go 22 = .ok (.aload_n 0, 1) := dGR_12_c_226.2.2.2.2.2.2.2.2.2.2.2
set_option maxRecDepth 100000 in
theorem dGR_12_c_227 : (decode cX3_go 23 = .ok (.getfield 31, 3)) ∧ (decode cX3_go 26 = .ok (.bipush 9, 2)) ∧ (decode cX3_go 28 = .ok (.imul, 1)) ∧ (decode cX3_go 29 = .ok (.bipush 9, 2)) ∧ (decode cX3_go 31 = .ok (.invokestatic 38, 3)) ∧ (decode cX3_go 34 = .ok (.aload_n 0, 1)) ∧ (decode cX3_go 35 = .ok (.getfield 21, 3)) ∧ (decode cX3_go 38 = .ok (.aload_n 0, 1)) ∧ (decode cX3_go 39 = .ok (.getfield 31, 3)) ∧ (decode cX3_go 42 = .ok (.iload_n 2, 1)) ∧ (decode cX3_go 43 = .ok (.iastore, 1)) ∧ (decode cX3_go 44 = .ok (.aload_n 0, 1)) := by decide +kernel
theorem dX3_go_23 : decode cX3_go 23 = .ok (.getfield 31, 3) := dGR_12_c_227.1
theorem dX3_go_26 : decode cX3_go 26 = .ok (.bipush 9, 2) := dGR_12_c_227.2.1
theorem dX3_go_28 : decode cX3_go 28 = .ok (.imul, 1) := dGR_12_c_227.2.2.1
theorem dX3_go_29 : decode cX3_go 29 = .ok (.bipush 9, 2) := dGR_12_c_227.2.2.2.1
theorem dX3_go_31 : decode cX3_go 31 = .ok (.invokestatic 38, 3) := dGR_12_c_227.2.2.2.2.1
theorem dX3_go_34 : decode cX3_go 34 = .ok (.aload_n 0, 1) := dGR_12_c_227.2.2.2.2.2.1
theorem dX3_go_35 : decode cX3_go 35 = .ok (.getfield 21, 3) := dGR_12_c_227.2.2.2.2.2.2.1
theorem dX3_go_38 : decode cX3_go 38 = .ok (.aload_n 0, 1) := dGR_12_c_227.2.2.2.2.2.2.2.1
theorem dX3_go_39 : decode cX3_go 39 = .ok (.getfield 31, 3) := dGR_12_c_227.2.2.2.2.2.2.2.2.1
theorem dX3_go_42 : decode cX3_go 42 = .ok (.iload_n 2, 1) := dGR_12_c_227.2.2.2.2.2.2.2.2.2.1
theorem dX3_go_43 : decode cX3_go 43 = .ok (.iastore, 1) := dGR_12_c_227.2.2.2.2.2.2.2.2.2.2.1
theorem dX3_go_44 : decode cX3_go 44 = .ok (.aload_n 0, 1) := dGR_12_c_227.2.2.2.2.2.2.2.2.2.2.2
set_option maxRecDepth 100000 in
theorem dGR_12_c_228 : (decode cX3_go 45 = .ok (.dup, 1)) ∧ (decode cX3_go 46 = .ok (.getfield 31, 3)) ∧ (decode cX3_go 49 = .ok (.iconst 1, 1)) ∧ (decode cX3_go 50 = .ok (.iadd, 1)) ∧ (decode cX3_go 51 = .ok (.putfield 31, 3)) ∧ (decode cX3_go 54 = .ok (.aload_n 0, 1)) ∧ (decode cX3_go 55 = .ok (.invokevirtual 35, 3)) ∧ (decode cX3_go 58 = .ok (.goto 49, 3)) ∧ (decode cX3_go 61 = .ok (.iload_n 3, 1)) ∧ (decode cX3_go 62 = .ok (.iconst 1, 1)) ∧ (decode cX3_go 63 = .ok (.if_icmp .ne 38, 3)) ∧ (decode cX3_go 66 = .ok (.aload_n 0, 1)) := by decide +kernel
theorem dX3_go_45 : decode cX3_go 45 = .ok (.dup, 1) := dGR_12_c_228.1
theorem dX3_go_46 : decode cX3_go 46 = .ok (.getfield 31, 3) := dGR_12_c_228.2.1
theorem dX3_go_49 : decode cX3_go 49 = .ok (.iconst 1, 1) := dGR_12_c_228.2.2.1
theorem dX3_go_50 : decode cX3_go 50 = .ok (.iadd, 1) := dGR_12_c_228.2.2.2.1
theorem dX3_go_51 : decode cX3_go 51 = .ok (.putfield 31, 3) := dGR_12_c_228.2.2.2.2.1
theorem dX3_go_54 : decode cX3_go 54 = .ok (.aload_n 0, 1) := dGR_12_c_228.2.2.2.2.2.1
theorem dX3_go_55 : decode cX3_go 55 = .ok (.invokevirtual 35, 3) := dGR_12_c_228.2.2.2.2.2.2.1
theorem dX3_go_58 : decode cX3_go 58 = .ok (.goto 49, 3) := dGR_12_c_228.2.2.2.2.2.2.2.1
theorem dX3_go_61 : decode cX3_go 61 = .ok (.iload_n 3, 1) := dGR_12_c_228.2.2.2.2.2.2.2.2.1
theorem dX3_go_62 : decode cX3_go 62 = .ok (.iconst 1, 1) := dGR_12_c_228.2.2.2.2.2.2.2.2.2.1
theorem dX3_go_63 : decode cX3_go 63 = .ok (.if_icmp .ne 38, 3) := dGR_12_c_228.2.2.2.2.2.2.2.2.2.2.1
theorem dX3_go_66 : decode cX3_go 66 = .ok (.aload_n 0, 1) := dGR_12_c_228.2.2.2.2.2.2.2.2.2.2.2
set_option maxRecDepth 100000 in
theorem dGR_12_c_229 : (decode cX3_go 67 = .ok (.getfield 31, 3)) ∧ (decode cX3_go 70 = .ok (.ifCond .le 31, 3)) ∧ (decode cX3_go 73 = .ok (.aload_n 0, 1)) ∧ (decode cX3_go 74 = .ok (.dup, 1)) ∧ (decode cX3_go 75 = .ok (.getfield 31, 3)) ∧ (decode cX3_go 78 = .ok (.iconst 1, 1)) ∧ (decode cX3_go 79 = .ok (.isub, 1)) ∧ (decode cX3_go 80 = .ok (.putfield 31, 3)) ∧ (decode cX3_go 83 = .ok (.aload_n 0, 1)) ∧ (decode cX3_go 84 = .ok (.aload_n 1, 1)) ∧ (decode cX3_go 85 = .ok (.aload_n 0, 1)) ∧ (decode cX3_go 86 = .ok (.getfield 21, 3)) := by decide +kernel
theorem dX3_go_67 : decode cX3_go 67 = .ok (.getfield 31, 3) := dGR_12_c_229.1
theorem dX3_go_70 : decode cX3_go 70 = .ok (.ifCond .le 31, 3) := dGR_12_c_229.2.1
theorem dX3_go_73 : decode cX3_go 73 = .ok (.aload_n 0, 1) := dGR_12_c_229.2.2.1
theorem dX3_go_74 : decode cX3_go 74 = .ok (.dup, 1) := dGR_12_c_229.2.2.2.1
theorem dX3_go_75 : decode cX3_go 75 = .ok (.getfield 31, 3) := dGR_12_c_229.2.2.2.2.1
theorem dX3_go_78 : decode cX3_go 78 = .ok (.iconst 1, 1) := dGR_12_c_229.2.2.2.2.2.1
theorem dX3_go_79 : decode cX3_go 79 = .ok (.isub, 1) := dGR_12_c_229.2.2.2.2.2.2.1
theorem dX3_go_80 : decode cX3_go 80 = .ok (.putfield 31, 3) := dGR_12_c_229.2.2.2.2.2.2.2.1
theorem dX3_go_83 : decode cX3_go 83 = .ok (.aload_n 0, 1) := dGR_12_c_229.2.2.2.2.2.2.2.2.1
theorem dX3_go_84 : decode cX3_go 84 = .ok (.aload_n 1, 1) := dGR_12_c_229.2.2.2.2.2.2.2.2.2.1
theorem dX3_go_85 : decode cX3_go 85 = .ok (.aload_n 0, 1) := dGR_12_c_229.2.2.2.2.2.2.2.2.2.2.1
theorem dX3_go_86 : decode cX3_go 86 = .ok (.getfield 21, 3) := dGR_12_c_229.2.2.2.2.2.2.2.2.2.2.2
set_option maxRecDepth 100000 in
theorem dGR_12_c_230 : (decode cX3_go 89 = .ok (.aload_n 0, 1)) ∧ (decode cX3_go 90 = .ok (.getfield 31, 3)) ∧ (decode cX3_go 93 = .ok (.iaload, 1)) ∧ (decode cX3_go 94 = .ok (.iload_n 2, 1)) ∧ (decode cX3_go 95 = .ok (.invokevirtual 44, 3)) ∧ (decode cX3_go 98 = .ok (.goto 9, 3)) ∧ (decode cX3_go 101 = .ok (.aload_n 0, 1)) ∧ (decode cX3_go 102 = .ok (.aload_n 1, 1)) ∧ (decode cX3_go 103 = .ok (.iload_n 2, 1)) ∧ (decode cX3_go 104 = .ok (.invokevirtual 48, 3)) ∧ (decode cX3_go 107 = .ok (.return_, 1)) := by decide +kernel
theorem dX3_go_89 : decode cX3_go 89 = .ok (.aload_n 0, 1) := dGR_12_c_230.1
theorem dX3_go_90 : decode cX3_go 90 = .ok (.getfield 31, 3) := dGR_12_c_230.2.1
theorem dX3_go_93 : decode cX3_go 93 = .ok (.iaload, 1) := dGR_12_c_230.2.2.1
theorem dX3_go_94 : decode cX3_go 94 = .ok (.iload_n 2, 1) := dGR_12_c_230.2.2.2.1
theorem dX3_go_95 : decode cX3_go 95 = .ok (.invokevirtual 44, 3) := dGR_12_c_230.2.2.2.2.1
theorem dX3_go_98 : decode cX3_go 98 = .ok (.goto 9, 3) := dGR_12_c_230.2.2.2.2.2.1
theorem dX3_go_101 : decode cX3_go 101 = .ok (.aload_n 0, 1) := dGR_12_c_230.2.2.2.2.2.2.1
theorem dX3_go_102 : decode cX3_go 102 = .ok (.aload_n 1, 1) := dGR_12_c_230.2.2.2.2.2.2.2.1
theorem dX3_go_103 : decode cX3_go 103 = .ok (.iload_n 2, 1) := dGR_12_c_230.2.2.2.2.2.2.2.2.1
theorem dX3_go_104 : decode cX3_go 104 = .ok (.invokevirtual 48, 3) := dGR_12_c_230.2.2.2.2.2.2.2.2.2.1
theorem dX3_go_107 : decode cX3_go 107 = .ok (.return_, 1) := dGR_12_c_230.2.2.2.2.2.2.2.2.2.2
abbrev f_c_X3_go : List (Nat × Int) := [(56, 0), (57, -1), (58, -1), (59, -1), (60, -1)]
set_option maxHeartbeats 4000000 in
set_option maxRecDepth 100000 in
theorem c_X3_go (G : KG) (l : Launch) (M : Mem) (c0 : Int) (c1 : Int) (a2 : Int) (a3 : Int) (hI_M : Inv false M) (hk_c0 : kd c0 = 56) (hk_c1 : kd c1 = 1) (hpre : -2147483648 ≤ a2 ∧ a2 ≤ 2147483647 ∧ -2147483648 ≤ a3 ∧ a3 ≤ 2147483647 ∧ 0 ≤ a2 ∧ a2 ≤ 5) : KC false G l yX3_go cX3_go 4 none (2, 50) [vR G c0, vR G c1, vI a2, vI a3] M (fun A => kQv false G A (fun (N : Mem) => Inv false N ∧ Fr f_c_X3_go M N)) := by
  refine kx_met (lo := [some (vR G c0), some (vR G c1), some (vI a2), some (vI a3)]) (by decide) (Nat.le_of_ble_eq_true rfl) rfl ?_
  intro X F hQ
  have hF_M : Fr f_c_X3_go M M := Fr.rf _ _
  refine kx_iload_n 1 F 3 dX3_go_0 rfl rfl rfl ?_
  have J_12 : KJ false G X M 61 [some (vR G c0), some (vR G c1), some (vI a2), some (vI a3)] [] := by
    refine kx_iload_n 62 F 3 dX3_go_61 rfl rfl rfl ?_
    refine kx_iconst 63 F dX3_go_62 rfl ?_
    refine kx_icmp_ne 66 F 101 dX3_go_63 (by decide) rfl (by omega) (by decide) (fun h_14 => ?_) (fun h_14 => ?_)
    · refine kx_aload_n 102 F 0 dX3_go_101 rfl rfl rfl ?_
      refine kx_aload_n 103 F 1 dX3_go_102 rfl rfl rfl ?_
      refine kx_iload_n 104 F 2 dX3_go_103 rfl rfl rfl ?_
      refine kx_Vv 107 (ci := 0) F (As := [vR G c1, vI a2]) (st := []) vd_X3_48 (c_X3_goAlong G l M c0 c1 a2 hI_M hk_c0 hk_c1 (by omega)) hk_c0 rfl rfl rfl ⟨by decide, by decide⟩ rfl rfl (Nat.le_of_ble_eq_true rfl) dX3_go_104 rfl ?_
      intro N_15 q_16
      obtain ⟨hI_N_15, hG_N_15⟩ := q_16
      have hF_N_15 : Fr f_c_X3_go M N_15 := Fr.c hF_M hG_N_15 rfl
      exact kx_vret F hQ ⟨hI_N_15, hF_N_15⟩ dX3_go_107
    · refine kx_aload_n 67 F 0 dX3_go_66 rfl rfl rfl ?_
      refine kx_geti 70 F fl_X3_31 hk_c0 rfl rfl (j := 0) rfl dX3_go_67 (v := (M c0 0)) rfl rfl ?_
      have h_17 := Inv.g hI_M hk_c0 rfl 0 (a := 0) (b := 20) rfl rfl
      refine kx_if_le 73 F 101 dX3_go_70 (by decide) rfl (by omega) (fun h_18 => ?_) (fun h_18 => ?_)
      · refine kx_aload_n 102 F 0 dX3_go_101 rfl rfl rfl ?_
        refine kx_aload_n 103 F 1 dX3_go_102 rfl rfl rfl ?_
        refine kx_iload_n 104 F 2 dX3_go_103 rfl rfl rfl ?_
        refine kx_Vv 107 (ci := 0) F (As := [vR G c1, vI a2]) (st := []) vd_X3_48 (c_X3_goAlong G l M c0 c1 a2 hI_M hk_c0 hk_c1 (by omega)) hk_c0 rfl rfl rfl ⟨by decide, by decide⟩ rfl rfl (Nat.le_of_ble_eq_true rfl) dX3_go_104 rfl ?_
        intro N_19 q_20
        obtain ⟨hI_N_19, hG_N_19⟩ := q_20
        have hF_N_19 : Fr f_c_X3_go M N_19 := Fr.c hF_M hG_N_19 rfl
        exact kx_vret F hQ ⟨hI_N_19, hF_N_19⟩ dX3_go_107
      · refine kx_aload_n 74 F 0 dX3_go_73 rfl rfl rfl ?_
        refine kx_dup 75 F dX3_go_74 rfl rfl ?_
        refine kx_geti 78 F fl_X3_31 hk_c0 rfl rfl (j := 0) rfl dX3_go_75 (v := (M c0 0)) rfl rfl ?_
        refine kx_iconst 79 F dX3_go_78 rfl ?_
        refine kx_isub 80 F (v := (M c0 0) - 1) dX3_go_79 rfl rfl ?_
        refine kx_puti 83 F fw_X3_31 rfl hk_c0 rfl rfl (j := 0) rfl dX3_go_80 rfl ?_
        intro N_21 hM_N_21
        have hI_N_21 : Inv false N_21 := Inv.u hI_M hM_N_21 hk_c0 (a := 0) (b := 20) rfl rfl rfl (by omega)
        have hF_N_21 : Fr f_c_X3_go M N_21 := Fr.u hF_M hM_N_21 hk_c0 rfl
        refine kx_aload_n 84 F 0 dX3_go_83 rfl rfl rfl ?_
        refine kx_aload_n 85 F 1 dX3_go_84 rfl rfl rfl ?_
        refine kx_aload_n 86 F 0 dX3_go_85 rfl rfl rfl ?_
        refine kx_getr 89 F fl_X3_21 hk_c0 rfl rfl (j := 4) rfl dX3_go_86 (v := (M c0 4)) (by rw [hM_N_21, mu_i (by omega)]) rfl ?_
        have hk_22 : kd (M c0 4) = 60 := Inv.r hI_M hk_c0 rfl 4 rfl rfl
        refine kx_aload_n 90 F 0 dX3_go_89 rfl rfl rfl ?_
        refine kx_geti 93 F fl_X3_31 hk_c0 rfl rfl (j := 0) rfl dX3_go_90 (v := (M c0 0) - 1) (by rw [hM_N_21, mu_s]) rfl ?_
        refine kx_iald 94 F hk_22 rfl rfl (by omega) (by decide) dX3_go_93 (v := (M (M c0 4) ((M c0 0) - 1))) (by rw [hM_N_21, mu_k hk_22 hk_c0 rfl]) rfl ?_
        have h_23 := Inv.g hI_M hk_22 rfl ((M c0 0) - 1) (a := 0) (b := 5) rfl rfl
        refine kx_iload_n 95 F 2 dX3_go_94 rfl rfl rfl ?_
        have e_24 : (N_21 c0 0) = (M c0 0) - 1 := by rw [hM_N_21, mu_s]
        refine kx_Vv 98 (ci := 0) F (As := [vR G c1, vI (M (M c0 4) ((M c0 0) - 1)), vI a2]) (st := []) vd_X3_44 (c_X3_goBack G l N_21 c0 c1 (M (M c0 4) ((M c0 0) - 1)) a2 hI_N_21 hk_c0 hk_c1 (by omega)) hk_c0 rfl rfl rfl ⟨by decide, by decide⟩ rfl rfl (Nat.le_of_ble_eq_true rfl) dX3_go_95 rfl ?_
        intro N_25 q_26
        obtain ⟨hI_N_25, hG_N_25⟩ := q_26
        have hF_N_25 : Fr f_c_X3_go M N_25 := Fr.c hF_N_21 hG_N_25 rfl
        refine kx_goto 107 F dX3_go_98 (by decide) ?_
        exact kx_vret F hQ ⟨hI_N_25, hF_N_25⟩ dX3_go_107
  refine kx_if_ne 4 F 61 dX3_go_1 (by decide) rfl (by omega) (fun h_27 => ?_) (fun h_27 => ?_)
  · exact J_12
  · refine kx_aload_n 5 F 0 dX3_go_4 rfl rfl rfl ?_
    refine kx_geti 8 F fl_X3_31 hk_c0 rfl rfl (j := 0) rfl dX3_go_5 (v := (M c0 0)) rfl rfl ?_
    have h_28 := Inv.g hI_M hk_c0 rfl 0 (a := 0) (b := 20) rfl rfl
    refine kx_bipush 10 F dX3_go_8 (by decide) rfl ?_
    refine kx_icmp_ge 13 F 61 dX3_go_10 (by decide) rfl (by omega) (by decide) (fun h_29 => ?_) (fun h_29 => ?_)
    · exact J_12
    · refine kx_aload_n 14 F 0 dX3_go_13 rfl rfl rfl ?_
      refine kx_getr 17 F fl_X3_11 hk_c0 rfl rfl (j := 1) rfl dX3_go_14 (v := (M c0 1)) rfl rfl ?_
      have hk_30 : kd (M c0 1) = 57 := Inv.r hI_M hk_c0 rfl 1 rfl rfl
      refine kx_iconst 18 F dX3_go_17 rfl ?_
      refine kx_aload_n 19 F 0 dX3_go_18 rfl rfl rfl ?_
      refine kx_getr 22 F fl_X3_18 hk_c0 rfl rfl (j := 3) rfl dX3_go_19 (v := (M c0 3)) rfl rfl ?_
      have hk_31 : kd (M c0 3) = 59 := Inv.r hI_M hk_c0 rfl 3 rfl rfl
      refine kx_aload_n 23 F 0 dX3_go_22 rfl rfl rfl ?_
      refine kx_geti 26 F fl_X3_31 hk_c0 rfl rfl (j := 0) rfl dX3_go_23 (v := (M c0 0)) rfl rfl ?_
      refine kx_bipush 28 F dX3_go_26 (by decide) rfl ?_
      refine kx_imul 29 F (v := 9 * (M c0 0)) dX3_go_28 (by omega) rfl ?_
      refine kx_bipush 31 F dX3_go_29 (by decide) rfl ?_
      refine kx_copyl 34 F hk_30 rfl rfl hk_31 rfl rfl dX3_go_31 (tt lm_1133 rfl) (tt lm_782 rfl) (tt lm_781 rfl) (tt lm_186 rfl) (by omega) (by decide) (by decide) (Nat.le_of_ble_eq_true rfl) rfl ?_
      intro N_32 hM_N_32
      have hI_N_32 : Inv false N_32 := Inv.cp hI_M hM_N_32 hk_30 hk_31 rfl (x := (-9223372036854775808)) (y := 9223372036854775807) (fun _ => rfl) (fun _ => rfl) (fun _ => rfl) (fun _ => rfl) (fun _ => rfl)
      have hF_N_32 : Fr f_c_X3_go M N_32 := Fr.cp hF_M hM_N_32 hk_31 (fun _ => rfl)
      refine kx_aload_n 35 F 0 dX3_go_34 rfl rfl rfl ?_
      refine kx_getr 38 F fl_X3_21 hk_c0 rfl rfl (j := 4) rfl dX3_go_35 (v := (M c0 4)) (by rw [hM_N_32, mcp_k hk_c0 hk_31 rfl]) rfl ?_
      have hk_33 : kd (M c0 4) = 60 := Inv.r hI_M hk_c0 rfl 4 rfl rfl
      refine kx_aload_n 39 F 0 dX3_go_38 rfl rfl rfl ?_
      refine kx_geti 42 F fl_X3_31 hk_c0 rfl rfl (j := 0) rfl dX3_go_39 (v := (M c0 0)) (by rw [hM_N_32, mcp_k hk_c0 hk_31 rfl]) rfl ?_
      refine kx_iload_n 43 F 2 dX3_go_42 rfl rfl rfl ?_
      refine kx_iast 44 F hk_33 rfl rfl (by omega) (by decide) dX3_go_43 rfl ?_
      intro N_34 hM_N_34
      have hI_N_34 : Inv false N_34 := Inv.u hI_N_32 hM_N_34 hk_33 (a := 0) (b := 5) rfl rfl rfl (by omega)
      have hF_N_34 : Fr f_c_X3_go M N_34 := Fr.u hF_N_32 hM_N_34 hk_33 rfl
      refine kx_aload_n 45 F 0 dX3_go_44 rfl rfl rfl ?_
      refine kx_dup 46 F dX3_go_45 rfl rfl ?_
      refine kx_geti 49 F fl_X3_31 hk_c0 rfl rfl (j := 0) rfl dX3_go_46 (v := (M c0 0)) (by rw [hM_N_34, mu_k hk_c0 hk_33 rfl, hM_N_32, mcp_k hk_c0 hk_31 rfl]) rfl ?_
      refine kx_iconst 50 F dX3_go_49 rfl ?_
      refine kx_iadd 51 F (v := (M c0 0) + 1) dX3_go_50 rfl rfl ?_
      refine kx_puti 54 F fw_X3_31 rfl hk_c0 rfl rfl (j := 0) rfl dX3_go_51 rfl ?_
      intro N_35 hM_N_35
      have hI_N_35 : Inv false N_35 := Inv.u hI_N_34 hM_N_35 hk_c0 (a := 0) (b := 20) rfl rfl rfl (by omega)
      have hF_N_35 : Fr f_c_X3_go M N_35 := Fr.u hF_N_34 hM_N_35 hk_c0 rfl
      refine kx_aload_n 55 F 0 dX3_go_54 rfl rfl rfl ?_
      refine kx_Vv 58 (ci := 0) F (As := []) (st := []) vd_X3_35 (c_X3_setIdentity G l N_35 c0 hI_N_35 hk_c0) hk_c0 rfl rfl rfl ⟨by decide, by decide⟩ rfl rfl (Nat.le_of_ble_eq_true rfl) dX3_go_55 rfl ?_
      intro N_36 q_37
      obtain ⟨hI_N_36, hG_N_36⟩ := q_37
      have hF_N_36 : Fr f_c_X3_go M N_36 := Fr.c hF_N_35 hG_N_36 rfl
      refine kx_goto 107 F dX3_go_58 (by decide) ?_
      exact kx_vret F hQ ⟨hI_N_36, hF_N_36⟩ dX3_go_107
set_option maxRecDepth 100000 in
theorem dGR_12_c_231 : (decode cX3_swap 0 = .ok (.aload_n 0, 1)) ∧ (decode cX3_swap 1 = .ok (.getfield 25, 3)) ∧ (decode cX3_swap 4 = .ok (.astore_n 1, 1)) ∧ (decode cX3_swap 5 = .ok (.aload_n 0, 1)) ∧ (decode cX3_swap 6 = .ok (.aload_n 0, 1)) ∧ (decode cX3_swap 7 = .ok (.getfield 28, 3)) ∧ (decode cX3_swap 10 = .ok (.putfield 25, 3)) ∧ (decode cX3_swap 13 = .ok (.aload_n 0, 1)) ∧ (decode cX3_swap 14 = .ok (.aload_n 1, 1)) ∧ (decode cX3_swap 15 = .ok (.putfield 28, 3)) ∧ (decode cX3_swap 18 = .ok (.return_, 1)) := by decide +kernel
theorem dX3_swap_0 : decode cX3_swap 0 = .ok (.aload_n 0, 1) := dGR_12_c_231.1
theorem dX3_swap_1 : decode cX3_swap 1 = .ok (.getfield 25, 3) := dGR_12_c_231.2.1
theorem dX3_swap_4 : decode cX3_swap 4 = .ok (.astore_n 1, 1) := dGR_12_c_231.2.2.1
theorem dX3_swap_5 : decode cX3_swap 5 = .ok (.aload_n 0, 1) := dGR_12_c_231.2.2.2.1
theorem dX3_swap_6 : decode cX3_swap 6 = .ok (.aload_n 0, 1) := dGR_12_c_231.2.2.2.2.1
theorem dX3_swap_7 : decode cX3_swap 7 = .ok (.getfield 28, 3) := dGR_12_c_231.2.2.2.2.2.1
theorem dX3_swap_10 : decode cX3_swap 10 = .ok (.putfield 25, 3) := dGR_12_c_231.2.2.2.2.2.2.1
theorem dX3_swap_13 : decode cX3_swap 13 = .ok (.aload_n 0, 1) := dGR_12_c_231.2.2.2.2.2.2.2.1
theorem dX3_swap_14 : decode cX3_swap 14 = .ok (.aload_n 1, 1) := dGR_12_c_231.2.2.2.2.2.2.2.2.1
theorem dX3_swap_15 : decode cX3_swap 15 = .ok (.putfield 28, 3) := dGR_12_c_231.2.2.2.2.2.2.2.2.2.1
theorem dX3_swap_18 : decode cX3_swap 18 = .ok (.return_, 1) := dGR_12_c_231.2.2.2.2.2.2.2.2.2.2
abbrev f_c_X3_swap : List (Nat × Int) := [(56, 5), (56, 6)]
set_option maxHeartbeats 4000000 in
set_option maxRecDepth 100000 in
theorem c_X3_swap (G : KG) (l : Launch) (M : Mem) (c0 : Int) (hI_M : Inv false M) (hk_c0 : kd c0 = 56) : KC false G l yX3_swap cX3_swap 2 none (0, 0) [vR G c0] M (fun A => kQv false G A (fun (N : Mem) => Inv false N ∧ Fr f_c_X3_swap M N)) := by
  refine kx_met (lo := [some (vR G c0), none]) (by decide) (Nat.le_of_ble_eq_true rfl) rfl ?_
  intro X F hQ
  have hF_M : Fr f_c_X3_swap M M := Fr.rf _ _
  refine kx_aload_n 1 F 0 dX3_swap_0 rfl rfl rfl ?_
  refine kx_getr 4 F fl_X3_25 hk_c0 rfl rfl (j := 5) rfl dX3_swap_1 (v := (M c0 5)) rfl rfl ?_
  have hk_1 : kd (M c0 5) = 61 := Inv.r hI_M hk_c0 rfl 5 rfl rfl
  refine kx_astore_n 5 F 1 (lo' := [some (vR G c0), some (vR G (M c0 5))]) dX3_swap_4 rfl (by decide) rfl rfl rfl ?_
  refine kx_aload_n 6 F 0 dX3_swap_5 rfl rfl rfl ?_
  refine kx_aload_n 7 F 0 dX3_swap_6 rfl rfl rfl ?_
  refine kx_getr 10 F fl_X3_28 hk_c0 rfl rfl (j := 6) rfl dX3_swap_7 (v := (M c0 6)) rfl rfl ?_
  have hk_2 : kd (M c0 6) = 61 := Inv.r hI_M hk_c0 rfl 6 rfl rfl
  refine kx_putr 13 F fw_X3_25 (Or.inr ⟨_, rfl⟩) hk_c0 rfl rfl (j := 5) rfl dX3_swap_10 rfl ?_
  intro N_3 hM_N_3
  have hI_N_3 : Inv false N_3 := Inv.ur hI_M hM_N_3 hk_c0 rfl rfl rfl hk_2 rfl rfl rfl
  have hF_N_3 : Fr f_c_X3_swap M N_3 := Fr.u hF_M hM_N_3 hk_c0 rfl
  refine kx_aload_n 14 F 0 dX3_swap_13 rfl rfl rfl ?_
  refine kx_aload_n 15 F 1 dX3_swap_14 rfl rfl rfl ?_
  refine kx_putr 18 F fw_X3_28 (Or.inr ⟨_, rfl⟩) hk_c0 rfl rfl (j := 6) rfl dX3_swap_15 rfl ?_
  intro N_4 hM_N_4
  have hI_N_4 : Inv false N_4 := Inv.ur hI_N_3 hM_N_4 hk_c0 rfl rfl rfl hk_1 rfl rfl rfl
  have hF_N_4 : Fr f_c_X3_swap M N_4 := Fr.u hF_N_3 hM_N_4 hk_c0 rfl
  exact kx_vret F hQ ⟨hI_N_4, hF_N_4⟩ dX3_swap_18
set_option maxRecDepth 100000 in
theorem dGR_12_c_232 : (decode cX3_leadOver 0 = .ok (.aload_n 0, 1)) ∧ (decode cX3_leadOver 1 = .ok (.getfield 28, 3)) ∧ (decode cX3_leadOver 4 = .ok (.lconst 0, 1)) ∧ (decode cX3_leadOver 5 = .ok (.invokestatic 52, 3)) ∧ (decode cX3_leadOver 8 = .ok (.iconst 0, 1)) ∧ (decode cX3_leadOver 9 = .ok (.istore_n 3, 1)) ∧ (decode cX3_leadOver 10 = .ok (.iload_n 3, 1)) ∧ (decode cX3_leadOver 11 = .ok (.bipush 9, 2)) ∧ (decode cX3_leadOver 13 = .ok (.if_icmp .ge 34, 3)) ∧ (decode cX3_leadOver 16 = .ok (.aload_n 0, 1)) ∧ (decode cX3_leadOver 17 = .ok (.getfield 28, 3)) ∧ (decode cX3_leadOver 20 = .ok (.iload_n 3, 1)) := by decide +kernel
theorem dX3_leadOver_0 : decode cX3_leadOver 0 = .ok (.aload_n 0, 1) := dGR_12_c_232.1
theorem dX3_leadOver_1 : decode cX3_leadOver 1 = .ok (.getfield 28, 3) := dGR_12_c_232.2.1
theorem dX3_leadOver_4 : decode cX3_leadOver 4 = .ok (.lconst 0, 1) := dGR_12_c_232.2.2.1
theorem dX3_leadOver_5 : decode cX3_leadOver 5 = .ok (.invokestatic 52, 3) := dGR_12_c_232.2.2.2.1
theorem dX3_leadOver_8 : decode cX3_leadOver 8 = .ok (.iconst 0, 1) := dGR_12_c_232.2.2.2.2.1
theorem dX3_leadOver_9 : decode cX3_leadOver 9 = .ok (.istore_n 3, 1) := dGR_12_c_232.2.2.2.2.2.1
theorem dX3_leadOver_10 : decode cX3_leadOver 10 = .ok (.iload_n 3, 1) := dGR_12_c_232.2.2.2.2.2.2.1
theorem dX3_leadOver_11 : decode cX3_leadOver 11 = .ok (.bipush 9, 2) := dGR_12_c_232.2.2.2.2.2.2.2.1
theorem dX3_leadOver_13 : decode cX3_leadOver 13 = .ok (.if_icmp .ge 34, 3) := dGR_12_c_232.2.2.2.2.2.2.2.2.1
theorem dX3_leadOver_16 : decode cX3_leadOver 16 = .ok (.aload_n 0, 1) := dGR_12_c_232.2.2.2.2.2.2.2.2.2.1
theorem dX3_leadOver_17 : decode cX3_leadOver 17 = .ok (.getfield 28, 3) := dGR_12_c_232.2.2.2.2.2.2.2.2.2.2.1
theorem dX3_leadOver_20 : decode cX3_leadOver 20 = .ok (.iload_n 3, 1) := dGR_12_c_232.2.2.2.2.2.2.2.2.2.2.2
set_option maxRecDepth 100000 in
theorem dGR_12_c_233 : (decode cX3_leadOver 21 = .ok (.iconst 3, 1)) ∧ (decode cX3_leadOver 22 = .ok (.irem, 1)) ∧ (decode cX3_leadOver 23 = .ok (.dup2, 1)) ∧ (decode cX3_leadOver 24 = .ok (.laload, 1)) ∧ (decode cX3_leadOver 25 = .ok (.aload_n 0, 1)) ∧ (decode cX3_leadOver 26 = .ok (.getfield 25, 3)) ∧ (decode cX3_leadOver 29 = .ok (.iload_n 3, 1)) ∧ (decode cX3_leadOver 30 = .ok (.iconst 3, 1)) ∧ (decode cX3_leadOver 31 = .ok (.idiv, 1)) ∧ (decode cX3_leadOver 32 = .ok (.laload, 1)) ∧ (decode cX3_leadOver 33 = .ok (.aload_n 1, 1)) ∧ (decode cX3_leadOver 34 = .ok (.iload_n 2, 1)) := by decide +kernel
theorem dX3_leadOver_21 : decode cX3_leadOver 21 = .ok (.iconst 3, 1) := dGR_12_c_233.1
theorem dX3_leadOver_22 : decode cX3_leadOver 22 = .ok (.irem, 1) := dGR_12_c_233.2.1
theorem dX3_leadOver_23 : decode cX3_leadOver 23 = .ok (.dup2, 1) := dGR_12_c_233.2.2.1
theorem dX3_leadOver_24 : decode cX3_leadOver 24 = .ok (.laload, 1) := dGR_12_c_233.2.2.2.1
theorem dX3_leadOver_25 : decode cX3_leadOver 25 = .ok (.aload_n 0, 1) := dGR_12_c_233.2.2.2.2.1
theorem dX3_leadOver_26 : decode cX3_leadOver 26 = .ok (.getfield 25, 3) := dGR_12_c_233.2.2.2.2.2.1
theorem dX3_leadOver_29 : decode cX3_leadOver 29 = .ok (.iload_n 3, 1) := dGR_12_c_233.2.2.2.2.2.2.1
theorem dX3_leadOver_30 : decode cX3_leadOver 30 = .ok (.iconst 3, 1) := dGR_12_c_233.2.2.2.2.2.2.2.1
theorem dX3_leadOver_31 : decode cX3_leadOver 31 = .ok (.idiv, 1) := dGR_12_c_233.2.2.2.2.2.2.2.2.1
theorem dX3_leadOver_32 : decode cX3_leadOver 32 = .ok (.laload, 1) := dGR_12_c_233.2.2.2.2.2.2.2.2.2.1
theorem dX3_leadOver_33 : decode cX3_leadOver 33 = .ok (.aload_n 1, 1) := dGR_12_c_233.2.2.2.2.2.2.2.2.2.2.1
theorem dX3_leadOver_34 : decode cX3_leadOver 34 = .ok (.iload_n 2, 1) := dGR_12_c_233.2.2.2.2.2.2.2.2.2.2.2
set_option maxRecDepth 100000 in
theorem dGR_12_c_234 : (decode cX3_leadOver 35 = .ok (.iload_n 3, 1)) ∧ (decode cX3_leadOver 36 = .ok (.iadd, 1)) ∧ (decode cX3_leadOver 37 = .ok (.laload, 1)) ∧ (decode cX3_leadOver 38 = .ok (.lmul, 1)) ∧ (decode cX3_leadOver 39 = .ok (.ladd, 1)) ∧ (decode cX3_leadOver 40 = .ok (.lastore, 1)) ∧ (decode cX3_leadOver 41 = .ok (.iinc 3 1, 3)) ∧ (decode cX3_leadOver 44 = .ok (.goto (-34), 3)) ∧ (decode cX3_leadOver 47 = .ok (.aload_n 0, 1)) ∧ (decode cX3_leadOver 48 = .ok (.invokevirtual 96, 3)) ∧ (decode cX3_leadOver 51 = .ok (.return_, 1)) := by decide +kernel
theorem dX3_leadOver_35 : decode cX3_leadOver 35 = .ok (.iload_n 3, 1) := dGR_12_c_234.1
theorem dX3_leadOver_36 : decode cX3_leadOver 36 = .ok (.iadd, 1) := dGR_12_c_234.2.1
theorem dX3_leadOver_37 : decode cX3_leadOver 37 = .ok (.laload, 1) := dGR_12_c_234.2.2.1
theorem dX3_leadOver_38 : decode cX3_leadOver 38 = .ok (.lmul, 1) := dGR_12_c_234.2.2.2.1
theorem dX3_leadOver_39 : decode cX3_leadOver 39 = .ok (.ladd, 1) := dGR_12_c_234.2.2.2.2.1
theorem dX3_leadOver_40 : decode cX3_leadOver 40 = .ok (.lastore, 1) := dGR_12_c_234.2.2.2.2.2.1
theorem dX3_leadOver_41 : decode cX3_leadOver 41 = .ok (.iinc 3 1, 3) := dGR_12_c_234.2.2.2.2.2.2.1
theorem dX3_leadOver_44 : decode cX3_leadOver 44 = .ok (.goto (-34), 3) := dGR_12_c_234.2.2.2.2.2.2.2.1
theorem dX3_leadOver_47 : decode cX3_leadOver 47 = .ok (.aload_n 0, 1) := dGR_12_c_234.2.2.2.2.2.2.2.2.1
theorem dX3_leadOver_48 : decode cX3_leadOver 48 = .ok (.invokevirtual 96, 3) := dGR_12_c_234.2.2.2.2.2.2.2.2.2.1
theorem dX3_leadOver_51 : decode cX3_leadOver 51 = .ok (.return_, 1) := dGR_12_c_234.2.2.2.2.2.2.2.2.2.2
abbrev f_c_X3_leadOverB : List (Nat × Int) := [(56, 5), (56, 6), (61, -1)]
set_option maxHeartbeats 4000000 in
set_option maxRecDepth 100000 in
theorem c_X3_leadOverB (G : KG) (l : Launch) (M : Mem) (c0 : Int) (c1 : Int) (a2 : Int) (hI_M : Inv false M) (hk_c0 : kd c0 = 56) (hk_c1 : kd c1 = 59) (hpre : -2147483648 ≤ a2 ∧ a2 ≤ 2147483647 ∧ 0 ≤ a2 ∧ a2 ≤ 171) : KC false G l yX3_leadOver cX3_leadOver 4 none (1, 24) [vR G c0, vR G c1, vI a2] M (fun A => kQv false G A (fun (N : Mem) => Inv false N ∧ Fr f_c_X3_leadOverB M N)) := by
  refine kx_met (lo := [some (vR G c0), some (vR G c1), some (vI a2), none]) (by decide) (Nat.le_of_ble_eq_true rfl) rfl ?_
  intro X F hQ
  have hF_M : Fr f_c_X3_leadOverB M M := Fr.rf _ _
  refine kx_aload_n 1 F 0 dX3_leadOver_0 rfl rfl rfl ?_
  refine kx_getr 4 F fl_X3_28 hk_c0 rfl rfl (j := 6) rfl dX3_leadOver_1 (v := (M c0 6)) rfl rfl ?_
  have hk_1 : kd (M c0 6) = 61 := Inv.r hI_M hk_c0 rfl 6 rfl rfl
  refine kx_lconst 5 (z := 0) F dX3_leadOver_4 (by decide) rfl ?_
  refine kx_Sv 8 F (As := [vR G (M c0 6), vL 0]) (st := []) sd_X3_52 (c_fill_ends G l M (M c0 6) 0 hI_M hk_1 (by omega)) ⟨by decide, by decide⟩ rfl rfl (Nat.le_of_ble_eq_true rfl) dX3_leadOver_5 rfl ?_
  intro N_2 q_3
  obtain ⟨hI_N_2, hG_N_2⟩ := q_3
  have hF_N_2 : Fr f_c_X3_leadOverB M N_2 := Fr.c hF_M hG_N_2 rfl
  refine kx_iconst 9 F dX3_leadOver_8 rfl ?_
  refine kx_istore_n 10 F 3 (lo' := [some (vR G c0), some (vR G c1), some (vI a2), some (vI 0)]) dX3_leadOver_9 rfl (by decide) rfl rfl rfl ?_
  have L_101 : ∀ (n_102 : Nat) (x3_99 : Int) (N_100 : Mem), Inv false N_100 → Fr f_c_X3_leadOverB M N_100 → 0 ≤ x3_99 ∧ x3_99 ≤ 9 → (9 - (x3_99)).toNat = n_102 → KJ false G X N_100 10 [some (vR G c0), some (vR G c1), some (vI a2), some (vI x3_99)] [] := by
    intro n_102
    refine Nat.strongRecOn n_102 ?_
    intro n_102 ih_103 x3_99 N_100 hI_N_100 hF_N_100 h_104 hm_105
    refine kx_iload_n 11 F 3 dX3_leadOver_10 rfl rfl rfl ?_
    refine kx_bipush 13 F dX3_leadOver_11 (by decide) rfl ?_
    refine kx_icmp_ge 16 F 47 dX3_leadOver_13 (by decide) rfl (by omega) (by decide) (fun h_106 => ?_) (fun h_106 => ?_)
    · refine kx_aload_n 48 F 0 dX3_leadOver_47 rfl rfl rfl ?_
      refine kx_Vv 51 (ci := 0) F (As := []) (st := []) vd_X3_96 (c_X3_swap G l N_100 c0 hI_N_100 hk_c0) hk_c0 rfl rfl rfl ⟨by decide, by decide⟩ rfl rfl (Nat.le_of_ble_eq_true rfl) dX3_leadOver_48 rfl ?_
      intro N_107 q_108
      obtain ⟨hI_N_107, hG_N_107⟩ := q_108
      have hF_N_107 : Fr f_c_X3_leadOverB M N_107 := Fr.c hF_N_100 hG_N_107 rfl
      exact kx_vret F hQ ⟨hI_N_107, hF_N_107⟩ dX3_leadOver_51
    · refine kx_aload_n 17 F 0 dX3_leadOver_16 rfl rfl rfl ?_
      refine kx_getr 20 F fl_X3_28 hk_c0 rfl rfl (j := 6) rfl dX3_leadOver_17 (v := (N_100 c0 6)) rfl rfl ?_
      have hk_109 : kd (N_100 c0 6) = 61 := Inv.r hI_N_100 hk_c0 rfl 6 rfl rfl
      refine kx_iload_n 21 F 3 dX3_leadOver_20 rfl rfl rfl ?_
      refine kx_iconst 22 F dX3_leadOver_21 rfl ?_
      refine kx_irem 23 F (v := (x3_99 % 3)) dX3_leadOver_22 (by omega) (by decide) rfl rfl ?_
      refine kx_dup2 24 F dX3_leadOver_23 rfl rfl rfl ?_
      refine kx_lald 25 F hk_109 rfl rfl (by omega) (by decide) dX3_leadOver_24 (v := (N_100 (N_100 c0 6) (x3_99 % 3))) rfl rfl ?_
      have h_110 := Inv.g hI_N_100 hk_109 rfl (x3_99 % 3) (a := (-9223372036854775808)) (b := 9223372036854775807) rfl rfl
      refine kx_aload_n 26 F 0 dX3_leadOver_25 rfl rfl rfl ?_
      refine kx_getr 29 F fl_X3_25 hk_c0 rfl rfl (j := 5) rfl dX3_leadOver_26 (v := (N_100 c0 5)) rfl rfl ?_
      have hk_111 : kd (N_100 c0 5) = 61 := Inv.r hI_N_100 hk_c0 rfl 5 rfl rfl
      refine kx_iload_n 30 F 3 dX3_leadOver_29 rfl rfl rfl ?_
      refine kx_iconst 31 F dX3_leadOver_30 rfl ?_
      refine kx_idiv 32 F (v := (x3_99 / 3)) dX3_leadOver_31 (by omega) (by decide) rfl rfl ?_
      refine kx_lald 33 F hk_111 rfl rfl (by omega) (by decide) dX3_leadOver_32 (v := (N_100 (N_100 c0 5) (x3_99 / 3))) rfl rfl ?_
      have h_112 := Inv.g hI_N_100 hk_111 rfl (x3_99 / 3) (a := (-9223372036854775808)) (b := 9223372036854775807) rfl rfl
      refine kx_aload_n 34 F 1 dX3_leadOver_33 rfl rfl rfl ?_
      refine kx_iload_n 35 F 2 dX3_leadOver_34 rfl rfl rfl ?_
      refine kx_iload_n 36 F 3 dX3_leadOver_35 rfl rfl rfl ?_
      refine kx_iadd 37 F (v := a2 + x3_99) dX3_leadOver_36 rfl rfl ?_
      refine kx_lald 38 F hk_c1 rfl rfl (by omega) (by decide) dX3_leadOver_37 (v := (M c1 (a2 + x3_99))) (by rw [Fr.e hF_N_100 hk_c1 _ rfl]) rfl ?_
      have h_113 := Inv.g hI_M hk_c1 rfl (a2 + x3_99) (a := (-9223372036854775808)) (b := 9223372036854775807) rfl rfl
      refine kx_lmul 39 F (v := ((N_100 (N_100 c0 5) (x3_99 / 3)) * (M c1 (a2 + x3_99)))) dX3_leadOver_38 rfl rfl ?_
      refine kx_wrapl (fun w_114 h_115 _ => ?_)
      refine kx_ladd 40 F (v := (N_100 (N_100 c0 6) (x3_99 % 3)) + w_114) dX3_leadOver_39 rfl rfl ?_
      refine kx_wrapl (fun w_116 h_117 _ => ?_)
      refine kx_last 41 F hk_109 rfl rfl (by omega) (by decide) dX3_leadOver_40 rfl ?_
      intro N_118 hM_N_118
      have hI_N_118 : Inv false N_118 := Inv.u hI_N_100 hM_N_118 hk_109 (a := (-9223372036854775808)) (b := 9223372036854775807) rfl rfl rfl (by omega)
      have hF_N_118 : Fr f_c_X3_leadOverB M N_118 := Fr.u hF_N_100 hM_N_118 hk_109 rfl
      refine kx_iinc 44 F 3 (v := x3_99 + 1) (lo' := [some (vR G c0), some (vR G c1), some (vI a2), some (vI (x3_99 + 1))]) dX3_leadOver_41 rfl (by omega) (by decide) rfl rfl rfl ?_
      refine kx_goto 10 F dX3_leadOver_44 (by decide) ?_
      exact ih_103 _ (by omega) (x3_99 + 1) N_118 hI_N_118 hF_N_118 (by omega) rfl
  exact L_101 _ 0 N_2 hI_N_2 hF_N_2 (by omega) rfl
abbrev f_c_X3_leadOverN : List (Nat × Int) := [(56, 5), (56, 6), (61, -1)]
set_option maxHeartbeats 4000000 in
set_option maxRecDepth 100000 in
theorem c_X3_leadOverN (G : KG) (l : Launch) (M : Mem) (c0 : Int) (c1 : Int) (a2 : Int) (hI_M : Inv false M) (hk_c0 : kd c0 = 56) (hk_c1 : kd c1 = 57) (hpre : -2147483648 ≤ a2 ∧ a2 ≤ 2147483647 ∧ a2 = 0) : KC false G l yX3_leadOver cX3_leadOver 4 none (1, 24) [vR G c0, vR G c1, vI a2] M (fun A => kQv false G A (fun (N : Mem) => Inv false N ∧ Fr f_c_X3_leadOverN M N)) := by
  refine kx_met (lo := [some (vR G c0), some (vR G c1), some (vI a2), none]) (by decide) (Nat.le_of_ble_eq_true rfl) rfl ?_
  intro X F hQ
  have hF_M : Fr f_c_X3_leadOverN M M := Fr.rf _ _
  refine kx_aload_n 1 F 0 dX3_leadOver_0 rfl rfl rfl ?_
  refine kx_getr 4 F fl_X3_28 hk_c0 rfl rfl (j := 6) rfl dX3_leadOver_1 (v := (M c0 6)) rfl rfl ?_
  have hk_1 : kd (M c0 6) = 61 := Inv.r hI_M hk_c0 rfl 6 rfl rfl
  refine kx_lconst 5 (z := 0) F dX3_leadOver_4 (by decide) rfl ?_
  refine kx_Sv 8 F (As := [vR G (M c0 6), vL 0]) (st := []) sd_X3_52 (c_fill_ends G l M (M c0 6) 0 hI_M hk_1 (by omega)) ⟨by decide, by decide⟩ rfl rfl (Nat.le_of_ble_eq_true rfl) dX3_leadOver_5 rfl ?_
  intro N_2 q_3
  obtain ⟨hI_N_2, hG_N_2⟩ := q_3
  have hF_N_2 : Fr f_c_X3_leadOverN M N_2 := Fr.c hF_M hG_N_2 rfl
  refine kx_iconst 9 F dX3_leadOver_8 rfl ?_
  refine kx_istore_n 10 F 3 (lo' := [some (vR G c0), some (vR G c1), some (vI a2), some (vI 0)]) dX3_leadOver_9 rfl (by decide) rfl rfl rfl ?_
  have L_101 : ∀ (n_102 : Nat) (x3_99 : Int) (N_100 : Mem), Inv false N_100 → Fr f_c_X3_leadOverN M N_100 → 0 ≤ x3_99 ∧ x3_99 ≤ 9 → (9 - (x3_99)).toNat = n_102 → KJ false G X N_100 10 [some (vR G c0), some (vR G c1), some (vI a2), some (vI x3_99)] [] := by
    intro n_102
    refine Nat.strongRecOn n_102 ?_
    intro n_102 ih_103 x3_99 N_100 hI_N_100 hF_N_100 h_104 hm_105
    refine kx_iload_n 11 F 3 dX3_leadOver_10 rfl rfl rfl ?_
    refine kx_bipush 13 F dX3_leadOver_11 (by decide) rfl ?_
    refine kx_icmp_ge 16 F 47 dX3_leadOver_13 (by decide) rfl (by omega) (by decide) (fun h_106 => ?_) (fun h_106 => ?_)
    · refine kx_aload_n 48 F 0 dX3_leadOver_47 rfl rfl rfl ?_
      refine kx_Vv 51 (ci := 0) F (As := []) (st := []) vd_X3_96 (c_X3_swap G l N_100 c0 hI_N_100 hk_c0) hk_c0 rfl rfl rfl ⟨by decide, by decide⟩ rfl rfl (Nat.le_of_ble_eq_true rfl) dX3_leadOver_48 rfl ?_
      intro N_107 q_108
      obtain ⟨hI_N_107, hG_N_107⟩ := q_108
      have hF_N_107 : Fr f_c_X3_leadOverN M N_107 := Fr.c hF_N_100 hG_N_107 rfl
      exact kx_vret F hQ ⟨hI_N_107, hF_N_107⟩ dX3_leadOver_51
    · refine kx_aload_n 17 F 0 dX3_leadOver_16 rfl rfl rfl ?_
      refine kx_getr 20 F fl_X3_28 hk_c0 rfl rfl (j := 6) rfl dX3_leadOver_17 (v := (N_100 c0 6)) rfl rfl ?_
      have hk_109 : kd (N_100 c0 6) = 61 := Inv.r hI_N_100 hk_c0 rfl 6 rfl rfl
      refine kx_iload_n 21 F 3 dX3_leadOver_20 rfl rfl rfl ?_
      refine kx_iconst 22 F dX3_leadOver_21 rfl ?_
      refine kx_irem 23 F (v := (x3_99 % 3)) dX3_leadOver_22 (by omega) (by decide) rfl rfl ?_
      refine kx_dup2 24 F dX3_leadOver_23 rfl rfl rfl ?_
      refine kx_lald 25 F hk_109 rfl rfl (by omega) (by decide) dX3_leadOver_24 (v := (N_100 (N_100 c0 6) (x3_99 % 3))) rfl rfl ?_
      have h_110 := Inv.g hI_N_100 hk_109 rfl (x3_99 % 3) (a := (-9223372036854775808)) (b := 9223372036854775807) rfl rfl
      refine kx_aload_n 26 F 0 dX3_leadOver_25 rfl rfl rfl ?_
      refine kx_getr 29 F fl_X3_25 hk_c0 rfl rfl (j := 5) rfl dX3_leadOver_26 (v := (N_100 c0 5)) rfl rfl ?_
      have hk_111 : kd (N_100 c0 5) = 61 := Inv.r hI_N_100 hk_c0 rfl 5 rfl rfl
      refine kx_iload_n 30 F 3 dX3_leadOver_29 rfl rfl rfl ?_
      refine kx_iconst 31 F dX3_leadOver_30 rfl ?_
      refine kx_idiv 32 F (v := (x3_99 / 3)) dX3_leadOver_31 (by omega) (by decide) rfl rfl ?_
      refine kx_lald 33 F hk_111 rfl rfl (by omega) (by decide) dX3_leadOver_32 (v := (N_100 (N_100 c0 5) (x3_99 / 3))) rfl rfl ?_
      have h_112 := Inv.g hI_N_100 hk_111 rfl (x3_99 / 3) (a := (-9223372036854775808)) (b := 9223372036854775807) rfl rfl
      refine kx_aload_n 34 F 1 dX3_leadOver_33 rfl rfl rfl ?_
      refine kx_iload_n 35 F 2 dX3_leadOver_34 rfl rfl rfl ?_
      refine kx_iload_n 36 F 3 dX3_leadOver_35 rfl rfl rfl ?_
      refine kx_iadd 37 F (v := a2 + x3_99) dX3_leadOver_36 rfl rfl ?_
      refine kx_lald 38 F hk_c1 rfl rfl (by omega) (by decide) dX3_leadOver_37 (v := (M c1 (a2 + x3_99))) (by rw [Fr.e hF_N_100 hk_c1 _ rfl]) rfl ?_
      have h_113 := Inv.g hI_M hk_c1 rfl (a2 + x3_99) (a := (-9223372036854775808)) (b := 9223372036854775807) rfl rfl
      refine kx_lmul 39 F (v := ((N_100 (N_100 c0 5) (x3_99 / 3)) * (M c1 (a2 + x3_99)))) dX3_leadOver_38 rfl rfl ?_
      refine kx_wrapl (fun w_114 h_115 _ => ?_)
      refine kx_ladd 40 F (v := (N_100 (N_100 c0 6) (x3_99 % 3)) + w_114) dX3_leadOver_39 rfl rfl ?_
      refine kx_wrapl (fun w_116 h_117 _ => ?_)
      refine kx_last 41 F hk_109 rfl rfl (by omega) (by decide) dX3_leadOver_40 rfl ?_
      intro N_118 hM_N_118
      have hI_N_118 : Inv false N_118 := Inv.u hI_N_100 hM_N_118 hk_109 (a := (-9223372036854775808)) (b := 9223372036854775807) rfl rfl rfl (by omega)
      have hF_N_118 : Fr f_c_X3_leadOverN M N_118 := Fr.u hF_N_100 hM_N_118 hk_109 rfl
      refine kx_iinc 44 F 3 (v := x3_99 + 1) (lo' := [some (vR G c0), some (vR G c1), some (vI a2), some (vI (x3_99 + 1))]) dX3_leadOver_41 rfl (by omega) (by decide) rfl rfl rfl ?_
      refine kx_goto 10 F dX3_leadOver_44 (by decide) ?_
      exact ih_103 _ (by omega) (x3_99 + 1) N_118 hI_N_118 hF_N_118 (by omega) rfl
  exact L_101 _ 0 N_2 hI_N_2 hF_N_2 (by omega) rfl
set_option maxRecDepth 100000 in
theorem dGR_12_c_235 : (decode cX3_leadByCall 0 = .ok (.aload_n 0, 1)) ∧ (decode cX3_leadByCall 1 = .ok (.getfield 28, 3)) ∧ (decode cX3_leadByCall 4 = .ok (.lconst 0, 1)) ∧ (decode cX3_leadByCall 5 = .ok (.invokestatic 52, 3)) ∧ (decode cX3_leadByCall 8 = .ok (.iconst 0, 1)) ∧ (decode cX3_leadByCall 9 = .ok (.istore_n 3, 1)) ∧ (decode cX3_leadByCall 10 = .ok (.iload_n 3, 1)) ∧ (decode cX3_leadByCall 11 = .ok (.aload_n 1, 1)) ∧ (decode cX3_leadByCall 12 = .ok (.getfield 58, 3)) ∧ (decode cX3_leadByCall 15 = .ok (.if_icmp .ge 44, 3)) ∧ (decode cX3_leadByCall 18 = .ok (.aload_n 1, 1)) ∧ (decode cX3_leadByCall 19 = .ok (.getfield 63, 3)) := by decide +kernel
theorem dX3_leadByCall_0 : decode cX3_leadByCall 0 = .ok (.aload_n 0, 1) := dGR_12_c_235.1
theorem dX3_leadByCall_1 : decode cX3_leadByCall 1 = .ok (.getfield 28, 3) := dGR_12_c_235.2.1
theorem dX3_leadByCall_4 : decode cX3_leadByCall 4 = .ok (.lconst 0, 1) := dGR_12_c_235.2.2.1
theorem dX3_leadByCall_5 : decode cX3_leadByCall 5 = .ok (.invokestatic 52, 3) := dGR_12_c_235.2.2.2.1
theorem dX3_leadByCall_8 : decode cX3_leadByCall 8 = .ok (.iconst 0, 1) := dGR_12_c_235.2.2.2.2.1
theorem dX3_leadByCall_9 : decode cX3_leadByCall 9 = .ok (.istore_n 3, 1) := dGR_12_c_235.2.2.2.2.2.1
theorem dX3_leadByCall_10 : decode cX3_leadByCall 10 = .ok (.iload_n 3, 1) := dGR_12_c_235.2.2.2.2.2.2.1
theorem dX3_leadByCall_11 : decode cX3_leadByCall 11 = .ok (.aload_n 1, 1) := dGR_12_c_235.2.2.2.2.2.2.2.1
theorem dX3_leadByCall_12 : decode cX3_leadByCall 12 = .ok (.getfield 58, 3) := dGR_12_c_235.2.2.2.2.2.2.2.2.1
theorem dX3_leadByCall_15 : decode cX3_leadByCall 15 = .ok (.if_icmp .ge 44, 3) := dGR_12_c_235.2.2.2.2.2.2.2.2.2.1
theorem dX3_leadByCall_18 : decode cX3_leadByCall 18 = .ok (.aload_n 1, 1) := dGR_12_c_235.2.2.2.2.2.2.2.2.2.2.1
theorem dX3_leadByCall_19 : decode cX3_leadByCall 19 = .ok (.getfield 63, 3) := dGR_12_c_235.2.2.2.2.2.2.2.2.2.2.2
set_option maxRecDepth 100000 in
theorem dGR_12_c_236 : (decode cX3_leadByCall 22 = .ok (.iload_n 3, 1)) ∧ (decode cX3_leadByCall 23 = .ok (.iaload, 1)) ∧ (decode cX3_leadByCall 24 = .ok (.iload_n 2, 1)) ∧ (decode cX3_leadByCall 25 = .ok (.if_icmp .ne 28, 3)) ∧ (decode cX3_leadByCall 28 = .ok (.aload_n 0, 1)) ∧ (decode cX3_leadByCall 29 = .ok (.getfield 28, 3)) ∧ (decode cX3_leadByCall 32 = .ok (.aload_n 1, 1)) ∧ (decode cX3_leadByCall 33 = .ok (.getfield 72, 3)) ∧ (decode cX3_leadByCall 36 = .ok (.iload_n 3, 1)) ∧ (decode cX3_leadByCall 37 = .ok (.iaload, 1)) ∧ (decode cX3_leadByCall 38 = .ok (.dup2, 1)) ∧ (decode cX3_leadByCall 39 = .ok (.laload, 1)) := by decide +kernel
theorem dX3_leadByCall_22 : decode cX3_leadByCall 22 = .ok (.iload_n 3, 1) := dGR_12_c_236.1
theorem dX3_leadByCall_23 : decode cX3_leadByCall 23 = .ok (.iaload, 1) := dGR_12_c_236.2.1
theorem dX3_leadByCall_24 : decode cX3_leadByCall 24 = .ok (.iload_n 2, 1) := dGR_12_c_236.2.2.1
theorem dX3_leadByCall_25 : decode cX3_leadByCall 25 = .ok (.if_icmp .ne 28, 3) := dGR_12_c_236.2.2.2.1
theorem dX3_leadByCall_28 : decode cX3_leadByCall 28 = .ok (.aload_n 0, 1) := dGR_12_c_236.2.2.2.2.1
theorem dX3_leadByCall_29 : decode cX3_leadByCall 29 = .ok (.getfield 28, 3) := dGR_12_c_236.2.2.2.2.2.1
theorem dX3_leadByCall_32 : decode cX3_leadByCall 32 = .ok (.aload_n 1, 1) := dGR_12_c_236.2.2.2.2.2.2.1
theorem dX3_leadByCall_33 : decode cX3_leadByCall 33 = .ok (.getfield 72, 3) := dGR_12_c_236.2.2.2.2.2.2.2.1
theorem dX3_leadByCall_36 : decode cX3_leadByCall 36 = .ok (.iload_n 3, 1) := dGR_12_c_236.2.2.2.2.2.2.2.2.1
theorem dX3_leadByCall_37 : decode cX3_leadByCall 37 = .ok (.iaload, 1) := dGR_12_c_236.2.2.2.2.2.2.2.2.2.1
theorem dX3_leadByCall_38 : decode cX3_leadByCall 38 = .ok (.dup2, 1) := dGR_12_c_236.2.2.2.2.2.2.2.2.2.2.1
theorem dX3_leadByCall_39 : decode cX3_leadByCall 39 = .ok (.laload, 1) := dGR_12_c_236.2.2.2.2.2.2.2.2.2.2.2
set_option maxRecDepth 100000 in
theorem dGR_12_c_237 : (decode cX3_leadByCall 40 = .ok (.aload_n 0, 1)) ∧ (decode cX3_leadByCall 41 = .ok (.getfield 25, 3)) ∧ (decode cX3_leadByCall 44 = .ok (.aload_n 1, 1)) ∧ (decode cX3_leadByCall 45 = .ok (.getfield 69, 3)) ∧ (decode cX3_leadByCall 48 = .ok (.iload_n 3, 1)) ∧ (decode cX3_leadByCall 49 = .ok (.iaload, 1)) ∧ (decode cX3_leadByCall 50 = .ok (.laload, 1)) ∧ (decode cX3_leadByCall 51 = .ok (.ladd, 1)) ∧ (decode cX3_leadByCall 52 = .ok (.lastore, 1)) ∧ (decode cX3_leadByCall 53 = .ok (.iinc 3 1, 3)) ∧ (decode cX3_leadByCall 56 = .ok (.goto (-46), 3)) ∧ (decode cX3_leadByCall 59 = .ok (.aload_n 0, 1)) := by decide +kernel
theorem dX3_leadByCall_40 : decode cX3_leadByCall 40 = .ok (.aload_n 0, 1) := dGR_12_c_237.1
theorem dX3_leadByCall_41 : decode cX3_leadByCall 41 = .ok (.getfield 25, 3) := dGR_12_c_237.2.1
theorem dX3_leadByCall_44 : decode cX3_leadByCall 44 = .ok (.aload_n 1, 1) := dGR_12_c_237.2.2.1
theorem dX3_leadByCall_45 : decode cX3_leadByCall 45 = .ok (.getfield 69, 3) := dGR_12_c_237.2.2.2.1
theorem dX3_leadByCall_48 : decode cX3_leadByCall 48 = .ok (.iload_n 3, 1) := dGR_12_c_237.2.2.2.2.1
theorem dX3_leadByCall_49 : decode cX3_leadByCall 49 = .ok (.iaload, 1) := dGR_12_c_237.2.2.2.2.2.1
theorem dX3_leadByCall_50 : decode cX3_leadByCall 50 = .ok (.laload, 1) := dGR_12_c_237.2.2.2.2.2.2.1
theorem dX3_leadByCall_51 : decode cX3_leadByCall 51 = .ok (.ladd, 1) := dGR_12_c_237.2.2.2.2.2.2.2.1
theorem dX3_leadByCall_52 : decode cX3_leadByCall 52 = .ok (.lastore, 1) := dGR_12_c_237.2.2.2.2.2.2.2.2.1
theorem dX3_leadByCall_53 : decode cX3_leadByCall 53 = .ok (.iinc 3 1, 3) := dGR_12_c_237.2.2.2.2.2.2.2.2.2.1
theorem dX3_leadByCall_56 : decode cX3_leadByCall 56 = .ok (.goto (-46), 3) := dGR_12_c_237.2.2.2.2.2.2.2.2.2.2.1
theorem dX3_leadByCall_59 : decode cX3_leadByCall 59 = .ok (.aload_n 0, 1) := dGR_12_c_237.2.2.2.2.2.2.2.2.2.2.2
theorem dX3_leadByCall_60 : decode cX3_leadByCall 60 = .ok (.invokevirtual 96, 3) := by decide +kernel
theorem dX3_leadByCall_63 : decode cX3_leadByCall 63 = .ok (.return_, 1) := by decide +kernel
abbrev f_c_X3_leadByCall : List (Nat × Int) := [(56, 5), (56, 6), (61, -1)]
set_option maxHeartbeats 4000000 in
set_option maxRecDepth 100000 in
theorem c_X3_leadByCall (G : KG) (l : Launch) (M : Mem) (c0 : Int) (c1 : Int) (a2 : Int) (hI_M : Inv false M) (hk_c0 : kd c0 = 56) (hk_c1 : kd c1 = 1) (hpre : -2147483648 ≤ a2 ∧ a2 ≤ 2147483647) : KC false G l yX3_leadByCall cX3_leadByCall 4 none (1, 24) [vR G c0, vR G c1, vI a2] M (fun A => kQv false G A (fun (N : Mem) => Inv false N ∧ Fr f_c_X3_leadByCall M N)) := by
  refine kx_met (lo := [some (vR G c0), some (vR G c1), some (vI a2), none]) (by decide) (Nat.le_of_ble_eq_true rfl) rfl ?_
  intro X F hQ
  have hF_M : Fr f_c_X3_leadByCall M M := Fr.rf _ _
  refine kx_aload_n 1 F 0 dX3_leadByCall_0 rfl rfl rfl ?_
  refine kx_getr 4 F fl_X3_28 hk_c0 rfl rfl (j := 6) rfl dX3_leadByCall_1 (v := (M c0 6)) rfl rfl ?_
  have hk_1 : kd (M c0 6) = 61 := Inv.r hI_M hk_c0 rfl 6 rfl rfl
  refine kx_lconst 5 (z := 0) F dX3_leadByCall_4 (by decide) rfl ?_
  refine kx_Sv 8 F (As := [vR G (M c0 6), vL 0]) (st := []) sd_X3_52 (c_fill_ends G l M (M c0 6) 0 hI_M hk_1 (by omega)) ⟨by decide, by decide⟩ rfl rfl (Nat.le_of_ble_eq_true rfl) dX3_leadByCall_5 rfl ?_
  intro N_2 q_3
  obtain ⟨hI_N_2, hG_N_2⟩ := q_3
  have hF_N_2 : Fr f_c_X3_leadByCall M N_2 := Fr.c hF_M hG_N_2 rfl
  refine kx_iconst 9 F dX3_leadByCall_8 rfl ?_
  refine kx_istore_n 10 F 3 (lo' := [some (vR G c0), some (vR G c1), some (vI a2), some (vI 0)]) dX3_leadByCall_9 rfl (by decide) rfl rfl rfl ?_
  have L_146 : ∀ (n_147 : Nat) (x3_144 : Int) (N_145 : Mem), Inv false N_145 → Fr f_c_X3_leadByCall M N_145 → 0 ≤ x3_144 ∧ x3_144 ≤ 20 → (20 - (x3_144)).toNat = n_147 → KJ false G X N_145 10 [some (vR G c0), some (vR G c1), some (vI a2), some (vI x3_144)] [] := by
    intro n_147
    refine Nat.strongRecOn n_147 ?_
    intro n_147 ih_148 x3_144 N_145 hI_N_145 hF_N_145 h_149 hm_150
    refine kx_iload_n 11 F 3 dX3_leadByCall_10 rfl rfl rfl ?_
    refine kx_aload_n 12 F 1 dX3_leadByCall_11 rfl rfl rfl ?_
    refine kx_geti 15 F fl_X3_58 hk_c1 rfl rfl (j := 4) rfl dX3_leadByCall_12 (v := (M c1 4)) (by rw [Fr.e hF_N_145 hk_c1 _ rfl]) rfl ?_
    have h_151 := Inv.g hI_M hk_c1 rfl 4 (a := 0) (b := 20) rfl rfl
    refine kx_icmp_ge 18 F 59 dX3_leadByCall_15 (by decide) rfl (by omega) (by omega) (fun h_152 => ?_) (fun h_152 => ?_)
    · refine kx_aload_n 60 F 0 dX3_leadByCall_59 rfl rfl rfl ?_
      refine kx_Vv 63 (ci := 0) F (As := []) (st := []) vd_X3_96 (c_X3_swap G l N_145 c0 hI_N_145 hk_c0) hk_c0 rfl rfl rfl ⟨by decide, by decide⟩ rfl rfl (Nat.le_of_ble_eq_true rfl) dX3_leadByCall_60 rfl ?_
      intro N_153 q_154
      obtain ⟨hI_N_153, hG_N_153⟩ := q_154
      have hF_N_153 : Fr f_c_X3_leadByCall M N_153 := Fr.c hF_N_145 hG_N_153 rfl
      exact kx_vret F hQ ⟨hI_N_153, hF_N_153⟩ dX3_leadByCall_63
    · refine kx_aload_n 19 F 1 dX3_leadByCall_18 rfl rfl rfl ?_
      refine kx_getr 22 F fl_X3_63 hk_c1 rfl rfl (j := 6) rfl dX3_leadByCall_19 (v := (M c1 6)) (by rw [Fr.e hF_N_145 hk_c1 _ rfl]) rfl ?_
      have hk_155 : kd (M c1 6) = 2 := Inv.r hI_M hk_c1 rfl 6 rfl rfl
      refine kx_iload_n 23 F 3 dX3_leadByCall_22 rfl rfl rfl ?_
      refine kx_iald 24 F hk_155 rfl rfl (by omega) (by decide) dX3_leadByCall_23 (v := (M (M c1 6) x3_144)) (by rw [Fr.e hF_N_145 hk_155 _ rfl]) rfl ?_
      have h_156 := Inv.g hI_M hk_155 rfl x3_144 (a := 0) (b := 5) rfl rfl
      refine kx_iload_n 25 F 2 dX3_leadByCall_24 rfl rfl rfl ?_
      have J_170 : ∀ (N_169 : Mem), Inv false N_169 → Fr f_c_X3_leadByCall M N_169 → KJ false G X N_169 53 [some (vR G c0), some (vR G c1), some (vI a2), some (vI x3_144)] [] := by
        intro N_169 hI_N_169 hF_N_169
        refine kx_iinc 56 F 3 (v := x3_144 + 1) (lo' := [some (vR G c0), some (vR G c1), some (vI a2), some (vI (x3_144 + 1))]) dX3_leadByCall_53 rfl (by omega) (by decide) rfl rfl rfl ?_
        refine kx_goto 10 F dX3_leadByCall_56 (by decide) ?_
        exact ih_148 _ (by omega) (x3_144 + 1) N_169 hI_N_169 hF_N_169 (by omega) rfl
      refine kx_icmp_ne 28 F 53 dX3_leadByCall_25 (by decide) rfl (by omega) (by omega) (fun h_172 => ?_) (fun h_172 => ?_)
      · exact J_170 N_145 hI_N_145 hF_N_145
      · refine kx_aload_n 29 F 0 dX3_leadByCall_28 rfl rfl rfl ?_
        refine kx_getr 32 F fl_X3_28 hk_c0 rfl rfl (j := 6) rfl dX3_leadByCall_29 (v := (N_145 c0 6)) rfl rfl ?_
        have hk_173 : kd (N_145 c0 6) = 61 := Inv.r hI_N_145 hk_c0 rfl 6 rfl rfl
        refine kx_aload_n 33 F 1 dX3_leadByCall_32 rfl rfl rfl ?_
        refine kx_getr 36 F fl_X3_72 hk_c1 rfl rfl (j := 8) rfl dX3_leadByCall_33 (v := (M c1 8)) (by rw [Fr.e hF_N_145 hk_c1 _ rfl]) rfl ?_
        have hk_174 : kd (M c1 8) = 4 := Inv.r hI_M hk_c1 rfl 8 rfl rfl
        refine kx_iload_n 37 F 3 dX3_leadByCall_36 rfl rfl rfl ?_
        refine kx_iald 38 F hk_174 rfl rfl (by omega) (by decide) dX3_leadByCall_37 (v := (M (M c1 8) x3_144)) (by rw [Fr.e hF_N_145 hk_174 _ rfl]) rfl ?_
        have h_175 := Inv.g hI_M hk_174 rfl x3_144 (a := 0) (b := 2) rfl rfl
        refine kx_dup2 39 F dX3_leadByCall_38 rfl rfl rfl ?_
        refine kx_lald 40 F hk_173 rfl rfl (by omega) (by decide) dX3_leadByCall_39 (v := (N_145 (N_145 c0 6) (M (M c1 8) x3_144))) rfl rfl ?_
        have h_176 := Inv.g hI_N_145 hk_173 rfl (M (M c1 8) x3_144) (a := (-9223372036854775808)) (b := 9223372036854775807) rfl rfl
        refine kx_aload_n 41 F 0 dX3_leadByCall_40 rfl rfl rfl ?_
        refine kx_getr 44 F fl_X3_25 hk_c0 rfl rfl (j := 5) rfl dX3_leadByCall_41 (v := (N_145 c0 5)) rfl rfl ?_
        have hk_177 : kd (N_145 c0 5) = 61 := Inv.r hI_N_145 hk_c0 rfl 5 rfl rfl
        refine kx_aload_n 45 F 1 dX3_leadByCall_44 rfl rfl rfl ?_
        refine kx_getr 48 F fl_X3_69 hk_c1 rfl rfl (j := 7) rfl dX3_leadByCall_45 (v := (M c1 7)) (by rw [Fr.e hF_N_145 hk_c1 _ rfl]) rfl ?_
        have hk_178 : kd (M c1 7) = 3 := Inv.r hI_M hk_c1 rfl 7 rfl rfl
        refine kx_iload_n 49 F 3 dX3_leadByCall_48 rfl rfl rfl ?_
        refine kx_iald 50 F hk_178 rfl rfl (by omega) (by decide) dX3_leadByCall_49 (v := (M (M c1 7) x3_144)) (by rw [Fr.e hF_N_145 hk_178 _ rfl]) rfl ?_
        have h_179 := Inv.g hI_M hk_178 rfl x3_144 (a := 0) (b := 2) rfl rfl
        refine kx_lald 51 F hk_177 rfl rfl (by omega) (by decide) dX3_leadByCall_50 (v := (N_145 (N_145 c0 5) (M (M c1 7) x3_144))) rfl rfl ?_
        have h_180 := Inv.g hI_N_145 hk_177 rfl (M (M c1 7) x3_144) (a := (-9223372036854775808)) (b := 9223372036854775807) rfl rfl
        refine kx_ladd 52 F (v := (N_145 (N_145 c0 6) (M (M c1 8) x3_144)) + (N_145 (N_145 c0 5) (M (M c1 7) x3_144))) dX3_leadByCall_51 rfl rfl ?_
        refine kx_wrapl (fun w_181 h_182 _ => ?_)
        refine kx_last 53 F hk_173 rfl rfl (by omega) (by decide) dX3_leadByCall_52 rfl ?_
        intro N_183 hM_N_183
        have hI_N_183 : Inv false N_183 := Inv.u hI_N_145 hM_N_183 hk_173 (a := (-9223372036854775808)) (b := 9223372036854775807) rfl rfl rfl (by omega)
        have hF_N_183 : Fr f_c_X3_leadByCall M N_183 := Fr.u hF_N_145 hM_N_183 hk_173 rfl
        exact J_170 N_183 hI_N_183 hF_N_183
  exact L_146 _ 0 N_2 hI_N_2 hF_N_2 (by omega) rfl
set_option maxRecDepth 100000 in
theorem dGR_12_c_238 : (decode cX3_total 0 = .ok (.iconst 0, 1)) ∧ (decode cX3_total 1 = .ok (.istore_n 2, 1)) ∧ (decode cX3_total 2 = .ok (.iload_n 2, 1)) ∧ (decode cX3_total 3 = .ok (.iconst 3, 1)) ∧ (decode cX3_total 4 = .ok (.if_icmp .ge 24, 3)) ∧ (decode cX3_total 7 = .ok (.aload_n 0, 1)) ∧ (decode cX3_total 8 = .ok (.getfield 25, 3)) ∧ (decode cX3_total 11 = .ok (.iload_n 2, 1)) ∧ (decode cX3_total 12 = .ok (.aload_n 1, 1)) ∧ (decode cX3_total 13 = .ok (.getfield 83, 3)) ∧ (decode cX3_total 16 = .ok (.iload_n 2, 1)) ∧ (decode cX3_total 17 = .ok (.ishr, 1)) := by decide +kernel
theorem dX3_total_0 : decode cX3_total 0 = .ok (.iconst 0, 1) := dGR_12_c_238.1
theorem dX3_total_1 : decode cX3_total 1 = .ok (.istore_n 2, 1) := dGR_12_c_238.2.1
theorem dX3_total_2 : decode cX3_total 2 = .ok (.iload_n 2, 1) := dGR_12_c_238.2.2.1
theorem dX3_total_3 : decode cX3_total 3 = .ok (.iconst 3, 1) := dGR_12_c_238.2.2.2.1
theorem dX3_total_4 : decode cX3_total 4 = .ok (.if_icmp .ge 24, 3) := dGR_12_c_238.2.2.2.2.1
theorem dX3_total_7 : decode cX3_total 7 = .ok (.aload_n 0, 1) := dGR_12_c_238.2.2.2.2.2.1
theorem dX3_total_8 : decode cX3_total 8 = .ok (.getfield 25, 3) := dGR_12_c_238.2.2.2.2.2.2.1
theorem dX3_total_11 : decode cX3_total 11 = .ok (.iload_n 2, 1) := dGR_12_c_238.2.2.2.2.2.2.2.1
theorem dX3_total_12 : decode cX3_total 12 = .ok (.aload_n 1, 1) := dGR_12_c_238.2.2.2.2.2.2.2.2.1
theorem dX3_total_13 : decode cX3_total 13 = .ok (.getfield 83, 3) := dGR_12_c_238.2.2.2.2.2.2.2.2.2.1
theorem dX3_total_16 : decode cX3_total 16 = .ok (.iload_n 2, 1) := dGR_12_c_238.2.2.2.2.2.2.2.2.2.2.1
theorem dX3_total_17 : decode cX3_total 17 = .ok (.ishr, 1) := dGR_12_c_238.2.2.2.2.2.2.2.2.2.2.2
set_option maxRecDepth 100000 in
theorem dGR_12_c_239 : (decode cX3_total 18 = .ok (.iconst 1, 1)) ∧ (decode cX3_total 19 = .ok (.iand, 1)) ∧ (decode cX3_total 20 = .ok (.i2l, 1)) ∧ (decode cX3_total 21 = .ok (.lastore, 1)) ∧ (decode cX3_total 22 = .ok (.iinc 2 1, 3)) ∧ (decode cX3_total 25 = .ok (.goto (-23), 3)) ∧ (decode cX3_total 28 = .ok (.iconst 0, 1)) ∧ (decode cX3_total 29 = .ok (.istore_n 2, 1)) ∧ (decode cX3_total 30 = .ok (.iload_n 2, 1)) ∧ (decode cX3_total 31 = .ok (.aload_n 0, 1)) ∧ (decode cX3_total 32 = .ok (.getfield 31, 3)) ∧ (decode cX3_total 35 = .ok (.if_icmp .ge 32, 3)) := by decide +kernel
theorem dX3_total_18 : decode cX3_total 18 = .ok (.iconst 1, 1) := dGR_12_c_239.1
theorem dX3_total_19 : decode cX3_total 19 = .ok (.iand, 1) := dGR_12_c_239.2.1
theorem dX3_total_20 : decode cX3_total 20 = .ok (.i2l, 1) := dGR_12_c_239.2.2.1
theorem dX3_total_21 : decode cX3_total 21 = .ok (.lastore, 1) := dGR_12_c_239.2.2.2.1
theorem dX3_total_22 : decode cX3_total 22 = .ok (.iinc 2 1, 3) := dGR_12_c_239.2.2.2.2.1
theorem dX3_total_25 : decode cX3_total 25 = .ok (.goto (-23), 3) := dGR_12_c_239.2.2.2.2.2.1
theorem dX3_total_28 : decode cX3_total 28 = .ok (.iconst 0, 1) := dGR_12_c_239.2.2.2.2.2.2.1
theorem dX3_total_29 : decode cX3_total 29 = .ok (.istore_n 2, 1) := dGR_12_c_239.2.2.2.2.2.2.2.1
theorem dX3_total_30 : decode cX3_total 30 = .ok (.iload_n 2, 1) := dGR_12_c_239.2.2.2.2.2.2.2.2.1
theorem dX3_total_31 : decode cX3_total 31 = .ok (.aload_n 0, 1) := dGR_12_c_239.2.2.2.2.2.2.2.2.2.1
theorem dX3_total_32 : decode cX3_total 32 = .ok (.getfield 31, 3) := dGR_12_c_239.2.2.2.2.2.2.2.2.2.2.1
theorem dX3_total_35 : decode cX3_total 35 = .ok (.if_icmp .ge 32, 3) := dGR_12_c_239.2.2.2.2.2.2.2.2.2.2.2
set_option maxRecDepth 100000 in
theorem dGR_12_c_240 : (decode cX3_total 38 = .ok (.aload_n 0, 1)) ∧ (decode cX3_total 39 = .ok (.aload_n 0, 1)) ∧ (decode cX3_total 40 = .ok (.getfield 18, 3)) ∧ (decode cX3_total 43 = .ok (.iload_n 2, 1)) ∧ (decode cX3_total 44 = .ok (.bipush 9, 2)) ∧ (decode cX3_total 46 = .ok (.imul, 1)) ∧ (decode cX3_total 47 = .ok (.invokevirtual 86, 3)) ∧ (decode cX3_total 50 = .ok (.aload_n 0, 1)) ∧ (decode cX3_total 51 = .ok (.aload_n 1, 1)) ∧ (decode cX3_total 52 = .ok (.aload_n 0, 1)) ∧ (decode cX3_total 53 = .ok (.getfield 21, 3)) ∧ (decode cX3_total 56 = .ok (.iload_n 2, 1)) := by decide +kernel
theorem dX3_total_38 : decode cX3_total 38 = .ok (.aload_n 0, 1) := dGR_12_c_240.1
theorem dX3_total_39 : decode cX3_total 39 = .ok (.aload_n 0, 1) := dGR_12_c_240.2.1
theorem dX3_total_40 : decode cX3_total 40 = .ok (.getfield 18, 3) := dGR_12_c_240.2.2.1
theorem dX3_total_43 : decode cX3_total 43 = .ok (.iload_n 2, 1) := dGR_12_c_240.2.2.2.1
theorem dX3_total_44 : decode cX3_total 44 = .ok (.bipush 9, 2) := dGR_12_c_240.2.2.2.2.1
theorem dX3_total_46 : decode cX3_total 46 = .ok (.imul, 1) := dGR_12_c_240.2.2.2.2.2.1
theorem dX3_total_47 : decode cX3_total 47 = .ok (.invokevirtual 86, 3) := dGR_12_c_240.2.2.2.2.2.2.1
theorem dX3_total_50 : decode cX3_total 50 = .ok (.aload_n 0, 1) := dGR_12_c_240.2.2.2.2.2.2.2.1
theorem dX3_total_51 : decode cX3_total 51 = .ok (.aload_n 1, 1) := dGR_12_c_240.2.2.2.2.2.2.2.2.1
theorem dX3_total_52 : decode cX3_total 52 = .ok (.aload_n 0, 1) := dGR_12_c_240.2.2.2.2.2.2.2.2.2.1
theorem dX3_total_53 : decode cX3_total 53 = .ok (.getfield 21, 3) := dGR_12_c_240.2.2.2.2.2.2.2.2.2.2.1
theorem dX3_total_56 : decode cX3_total 56 = .ok (.iload_n 2, 1) := dGR_12_c_240.2.2.2.2.2.2.2.2.2.2.2
set_option maxRecDepth 100000 in
theorem dGR_12_c_241 : (decode cX3_total 57 = .ok (.iaload, 1)) ∧ (decode cX3_total 58 = .ok (.invokevirtual 90, 3)) ∧ (decode cX3_total 61 = .ok (.iinc 2 1, 3)) ∧ (decode cX3_total 64 = .ok (.goto (-34), 3)) ∧ (decode cX3_total 67 = .ok (.aload_n 0, 1)) ∧ (decode cX3_total 68 = .ok (.aload_n 0, 1)) ∧ (decode cX3_total 69 = .ok (.getfield 11, 3)) ∧ (decode cX3_total 72 = .ok (.iconst 0, 1)) ∧ (decode cX3_total 73 = .ok (.invokevirtual 86, 3)) ∧ (decode cX3_total 76 = .ok (.lconst 0, 1)) ∧ (decode cX3_total 77 = .ok (.lstore_n 2, 1)) ∧ (decode cX3_total 78 = .ok (.iconst 0, 1)) := by decide +kernel
theorem dX3_total_57 : decode cX3_total 57 = .ok (.iaload, 1) := dGR_12_c_241.1
theorem dX3_total_58 : decode cX3_total 58 = .ok (.invokevirtual 90, 3) := dGR_12_c_241.2.1
theorem dX3_total_61 : decode cX3_total 61 = .ok (.iinc 2 1, 3) := dGR_12_c_241.2.2.1
theorem dX3_total_64 : decode cX3_total 64 = .ok (.goto (-34), 3) := dGR_12_c_241.2.2.2.1
theorem dX3_total_67 : decode cX3_total 67 = .ok (.aload_n 0, 1) := dGR_12_c_241.2.2.2.2.1
theorem dX3_total_68 : decode cX3_total 68 = .ok (.aload_n 0, 1) := dGR_12_c_241.2.2.2.2.2.1
theorem dX3_total_69 : decode cX3_total 69 = .ok (.getfield 11, 3) := dGR_12_c_241.2.2.2.2.2.2.1
theorem dX3_total_72 : decode cX3_total 72 = .ok (.iconst 0, 1) := dGR_12_c_241.2.2.2.2.2.2.2.1
theorem dX3_total_73 : decode cX3_total 73 = .ok (.invokevirtual 86, 3) := dGR_12_c_241.2.2.2.2.2.2.2.2.1
theorem dX3_total_76 : decode cX3_total 76 = .ok (.lconst 0, 1) := dGR_12_c_241.2.2.2.2.2.2.2.2.2.1
theorem dX3_total_77 : decode cX3_total 77 = .ok (.lstore_n 2, 1) := dGR_12_c_241.2.2.2.2.2.2.2.2.2.2.1
theorem dX3_total_78 : decode cX3_total 78 = .ok (.iconst 0, 1) := dGR_12_c_241.2.2.2.2.2.2.2.2.2.2.2
set_option maxRecDepth 100000 in
theorem dGR_12_c_242 : (decode cX3_total 79 = .ok (.istore 4, 2)) ∧ (decode cX3_total 81 = .ok (.iload 4, 2)) ∧ (decode cX3_total 83 = .ok (.iconst 3, 1)) ∧ (decode cX3_total 84 = .ok (.if_icmp .ge 35, 3)) ∧ (decode cX3_total 87 = .ok (.lload_n 2, 1)) ∧ (decode cX3_total 88 = .ok (.aload_n 1, 1)) ∧ (decode cX3_total 89 = .ok (.getfield 93, 3)) ∧ (decode cX3_total 92 = .ok (.iload 4, 2)) ∧ (decode cX3_total 94 = .ok (.ishr, 1)) ∧ (decode cX3_total 95 = .ok (.iconst 1, 1)) ∧ (decode cX3_total 96 = .ok (.iand, 1)) ∧ (decode cX3_total 97 = .ok (.ifCond .eq 13, 3)) := by decide +kernel
theorem dX3_total_79 : decode cX3_total 79 = .ok (.istore 4, 2) := dGR_12_c_242.1
theorem dX3_total_81 : decode cX3_total 81 = .ok (.iload 4, 2) := dGR_12_c_242.2.1
theorem dX3_total_83 : decode cX3_total 83 = .ok (.iconst 3, 1) := dGR_12_c_242.2.2.1
theorem dX3_total_84 : decode cX3_total 84 = .ok (.if_icmp .ge 35, 3) := dGR_12_c_242.2.2.2.1
theorem dX3_total_87 : decode cX3_total 87 = .ok (.lload_n 2, 1) := dGR_12_c_242.2.2.2.2.1
theorem dX3_total_88 : decode cX3_total 88 = .ok (.aload_n 1, 1) := dGR_12_c_242.2.2.2.2.2.1
theorem dX3_total_89 : decode cX3_total 89 = .ok (.getfield 93, 3) := dGR_12_c_242.2.2.2.2.2.2.1
theorem dX3_total_92 : decode cX3_total 92 = .ok (.iload 4, 2) := dGR_12_c_242.2.2.2.2.2.2.2.1
theorem dX3_total_94 : decode cX3_total 94 = .ok (.ishr, 1) := dGR_12_c_242.2.2.2.2.2.2.2.2.1
theorem dX3_total_95 : decode cX3_total 95 = .ok (.iconst 1, 1) := dGR_12_c_242.2.2.2.2.2.2.2.2.2.1
theorem dX3_total_96 : decode cX3_total 96 = .ok (.iand, 1) := dGR_12_c_242.2.2.2.2.2.2.2.2.2.2.1
theorem dX3_total_97 : decode cX3_total 97 = .ok (.ifCond .eq 13, 3) := dGR_12_c_242.2.2.2.2.2.2.2.2.2.2.2
set_option maxRecDepth 100000 in
theorem dGR_12_c_243 : (decode cX3_total 100 = .ok (.aload_n 0, 1)) ∧ (decode cX3_total 101 = .ok (.getfield 25, 3)) ∧ (decode cX3_total 104 = .ok (.iload 4, 2)) ∧ (decode cX3_total 106 = .ok (.laload, 1)) ∧ (decode cX3_total 107 = .ok (.goto 4, 3)) ∧ (decode cX3_total 110 = .ok (.lconst 0, 1)) ∧ (decode cX3_total 111 = .ok (.ladd, 1)) ∧ (decode cX3_total 112 = .ok (.lstore_n 2, 1)) ∧ (decode cX3_total 113 = .ok (.iinc 4 1, 3)) ∧ (decode cX3_total 116 = .ok (.goto (-35), 3)) ∧ (decode cX3_total 119 = .ok (.lload_n 2, 1)) ∧ (decode cX3_total 120 = .ok (.lreturn, 1)) := by decide +kernel
theorem dX3_total_100 : decode cX3_total 100 = .ok (.aload_n 0, 1) := dGR_12_c_243.1
theorem dX3_total_101 : decode cX3_total 101 = .ok (.getfield 25, 3) := dGR_12_c_243.2.1
theorem dX3_total_104 : decode cX3_total 104 = .ok (.iload 4, 2) := dGR_12_c_243.2.2.1
theorem dX3_total_106 : decode cX3_total 106 = .ok (.laload, 1) := dGR_12_c_243.2.2.2.1
theorem dX3_total_107 : decode cX3_total 107 = .ok (.goto 4, 3) := dGR_12_c_243.2.2.2.2.1
theorem dX3_total_110 : decode cX3_total 110 = .ok (.lconst 0, 1) := dGR_12_c_243.2.2.2.2.2.1
theorem dX3_total_111 : decode cX3_total 111 = .ok (.ladd, 1) := dGR_12_c_243.2.2.2.2.2.2.1
theorem dX3_total_112 : decode cX3_total 112 = .ok (.lstore_n 2, 1) := dGR_12_c_243.2.2.2.2.2.2.2.1
theorem dX3_total_113 : decode cX3_total 113 = .ok (.iinc 4 1, 3) := dGR_12_c_243.2.2.2.2.2.2.2.2.1
theorem dX3_total_116 : decode cX3_total 116 = .ok (.goto (-35), 3) := dGR_12_c_243.2.2.2.2.2.2.2.2.2.1
theorem dX3_total_119 : decode cX3_total 119 = .ok (.lload_n 2, 1) := dGR_12_c_243.2.2.2.2.2.2.2.2.2.2.1
theorem dX3_total_120 : decode cX3_total 120 = .ok (.lreturn, 1) := dGR_12_c_243.2.2.2.2.2.2.2.2.2.2.2
abbrev f_c_X3_total : List (Nat × Int) := [(56, 5), (56, 6), (61, -1)]
set_option maxHeartbeats 4000000 in
set_option maxRecDepth 100000 in
theorem c_X3_total (G : KG) (l : Launch) (M : Mem) (c0 : Int) (c1 : Int) (hI_M : Inv false M) (hk_c0 : kd c0 = 56) (hk_c1 : kd c1 = 1) : KC false G l yX3_total cX3_total 5 (some .long) (2, 47) [vR G c0, vR G c1] M (fun A => kQl false G A (fun (r : Int) (N : Mem) => Inv false N ∧ Fr f_c_X3_total M N ∧ (r ≥ -9223372036854775808 ∧ r ≤ 9223372036854775807))) := by
  refine kx_met (lo := [some (vR G c0), some (vR G c1), none, none, none]) (by decide) (Nat.le_of_ble_eq_true rfl) rfl ?_
  intro X F hQ
  have hF_M : Fr f_c_X3_total M M := Fr.rf _ _
  refine kx_iconst 1 F dX3_total_0 rfl ?_
  refine kx_istore_n 2 F 2 (lo' := [some (vR G c0), some (vR G c1), some (vI 0), none, none]) dX3_total_1 rfl (by decide) rfl rfl rfl ?_
  have L_616 : ∀ (n_617 : Nat) (x2_614 : Int) (N_615 : Mem), Inv false N_615 → Fr f_c_X3_total M N_615 → 0 ≤ x2_614 ∧ x2_614 ≤ 3 → (3 - (x2_614)).toNat = n_617 → KJ false G X N_615 2 [some (vR G c0), some (vR G c1), some (vI x2_614), none, none] [] := by
    intro n_617
    refine Nat.strongRecOn n_617 ?_
    intro n_617 ih_618 x2_614 N_615 hI_N_615 hF_N_615 h_619 hm_620
    refine kx_iload_n 3 F 2 dX3_total_2 rfl rfl rfl ?_
    refine kx_iconst 4 F dX3_total_3 rfl ?_
    refine kx_icmp_ge 7 F 28 dX3_total_4 (by decide) rfl (by omega) (by decide) (fun h_621 => ?_) (fun h_621 => ?_)
    · refine kx_iconst 29 F dX3_total_28 rfl ?_
      refine kx_istore_n 30 F 2 (lo' := [some (vR G c0), some (vR G c1), some (vI 0), none, none]) dX3_total_29 rfl (by decide) rfl rfl rfl ?_
      have L_1128 : ∀ (n_1129 : Nat) (x2_1126 : Int) (N_1127 : Mem), Inv false N_1127 → Fr f_c_X3_total M N_1127 → 0 ≤ x2_1126 ∧ x2_1126 ≤ 20 → (20 - (x2_1126)).toNat = n_1129 → KJ false G X N_1127 30 [some (vR G c0), some (vR G c1), some (vI x2_1126), none, none] [] := by
        intro n_1129
        refine Nat.strongRecOn n_1129 ?_
        intro n_1129 ih_1130 x2_1126 N_1127 hI_N_1127 hF_N_1127 h_1131 hm_1132
        refine kx_iload_n 31 F 2 dX3_total_30 rfl rfl rfl ?_
        refine kx_aload_n 32 F 0 dX3_total_31 rfl rfl rfl ?_
        refine kx_geti 35 F fl_X3_31 hk_c0 rfl rfl (j := 0) rfl dX3_total_32 (v := (M c0 0)) (by rw [Fr.e hF_N_1127 hk_c0 _ rfl]) rfl ?_
        have h_1133 := Inv.g hI_M hk_c0 rfl 0 (a := 0) (b := 20) rfl rfl
        refine kx_icmp_ge 38 F 67 dX3_total_35 (by decide) rfl (by omega) (by omega) (fun h_1134 => ?_) (fun h_1134 => ?_)
        · refine kx_aload_n 68 F 0 dX3_total_67 rfl rfl rfl ?_
          refine kx_aload_n 69 F 0 dX3_total_68 rfl rfl rfl ?_
          refine kx_getr 72 F fl_X3_11 hk_c0 rfl rfl (j := 1) rfl dX3_total_69 (v := (M c0 1)) (by rw [Fr.e hF_N_1127 hk_c0 _ rfl]) rfl ?_
          have hk_1135 : kd (M c0 1) = 57 := Inv.r hI_M hk_c0 rfl 1 rfl rfl
          refine kx_iconst 73 F dX3_total_72 rfl ?_
          refine kx_Vv 76 (ci := 0) F (As := [vR G (M c0 1), vI 0]) (st := []) vd_X3_86 (c_X3_leadOverN G l N_1127 c0 (M c0 1) 0 hI_N_1127 hk_c0 hk_1135 (by omega)) hk_c0 rfl rfl rfl ⟨by decide, by decide⟩ rfl rfl (Nat.le_of_ble_eq_true rfl) dX3_total_73 rfl ?_
          intro N_1136 q_1137
          obtain ⟨hI_N_1136, hG_N_1136⟩ := q_1137
          have hF_N_1136 : Fr f_c_X3_total M N_1136 := Fr.c hF_N_1127 hG_N_1136 rfl
          refine kx_lconst 77 (z := 0) F dX3_total_76 (by decide) rfl ?_
          refine kx_lstore_n 78 F 2 (lo' := [some (vR G c0), some (vR G c1), some (vL 0), none, none]) dX3_total_77 rfl (by decide) rfl rfl rfl ?_
          refine kx_iconst 79 F dX3_total_78 rfl ?_
          refine kx_istore 81 F 4 (lo' := [some (vR G c0), some (vR G c1), some (vL 0), none, some (vI 0)]) dX3_total_79 (by decide) rfl rfl rfl ?_
          have L_1182 : ∀ (n_1183 : Nat) (x2_1180 : Int) (x4_1181 : Int), (-9223372036854775808) ≤ x2_1180 ∧ x2_1180 ≤ 9223372036854775807 ∧ 0 ≤ x4_1181 ∧ x4_1181 ≤ 3 → (3 - (x4_1181)).toNat = n_1183 → KJ false G X N_1136 81 [some (vR G c0), some (vR G c1), some (vL x2_1180), none, some (vI x4_1181)] [] := by
            intro n_1183
            refine Nat.strongRecOn n_1183 ?_
            intro n_1183 ih_1184 x2_1180 x4_1181 h_1185 hm_1186
            refine kx_iload 83 F 4 dX3_total_81 rfl rfl ?_
            refine kx_iconst 84 F dX3_total_83 rfl ?_
            refine kx_icmp_ge 87 F 119 dX3_total_84 (by decide) rfl (by omega) (by decide) (fun h_1187 => ?_) (fun h_1187 => ?_)
            · refine kx_lload_n 120 F 2 dX3_total_119 rfl rfl rfl ?_
              exact kx_lret F hQ ⟨hI_N_1136, hF_N_1136, (by omega)⟩ dX3_total_120
            · refine kx_lload_n 88 F 2 dX3_total_87 rfl rfl rfl ?_
              refine kx_aload_n 89 F 1 dX3_total_88 rfl rfl rfl ?_
              refine kx_geti 92 F fl_X3_93 hk_c1 rfl rfl (j := 3) rfl dX3_total_89 (v := (M c1 3)) (by rw [Fr.e hG_N_1136 hk_c1 _ rfl, Fr.e hF_N_1127 hk_c1 _ rfl]) rfl ?_
              have h_1188 := Inv.g hI_M hk_c1 rfl 3 (a := 0) (b := 7) rfl rfl
              refine kx_iload 94 F 4 dX3_total_92 rfl rfl ?_
              refine kx_ishr 95 F (v := (zshr (M c1 3) x4_1181)) dX3_total_94 rfl rfl ?_
              have h_1189 := zshr_r (a := (M c1 3)) (b := x4_1181) (by omega)
              refine kx_iconst 96 F dX3_total_95 rfl ?_
              refine kx_iand 97 F (v := (zand (zshr (M c1 3) x4_1181) 1)) dX3_total_96 rfl rfl ?_
              have h_1190 := zand_r (a := (zshr (M c1 3) x4_1181)) (b := 1) (by omega)
              have J_1198 : ∀ (y0_1197 : Int), (-9223372036854775808) ≤ y0_1197 ∧ y0_1197 ≤ 9223372036854775807 → KJ false G X N_1136 111 [some (vR G c0), some (vR G c1), none, none, some (vI x4_1181)] [vL y0_1197, vL x2_1180] := by
                intro y0_1197 h_1199
                refine kx_ladd 112 F (v := x2_1180 + y0_1197) dX3_total_111 rfl rfl ?_
                refine kx_wrapl (fun w_1200 h_1201 _ => ?_)
                refine kx_lstore_n 113 F 2 (lo' := [some (vR G c0), some (vR G c1), some (vL w_1200), none, some (vI x4_1181)]) dX3_total_112 rfl (by decide) rfl rfl rfl ?_
                refine kx_iinc 116 F 4 (v := x4_1181 + 1) (lo' := [some (vR G c0), some (vR G c1), some (vL w_1200), none, some (vI (x4_1181 + 1))]) dX3_total_113 rfl (by omega) (by decide) rfl rfl rfl ?_
                refine kx_goto 81 F dX3_total_116 (by decide) ?_
                exact ih_1184 _ (by omega) w_1200 (x4_1181 + 1) (by omega) rfl
              refine kx_if_eq 100 F 110 dX3_total_97 (by decide) rfl (by omega) (fun h_1202 => ?_) (fun h_1202 => ?_)
              · refine kx_lconst 111 (z := 0) F dX3_total_110 (by decide) rfl ?_
                refine kx_drop 2 (lo' := [some (vR G c0), some (vR G c1), none, none, some (vI x4_1181)]) rfl ?_
                exact J_1198 0 (by omega)
              · refine kx_aload_n 101 F 0 dX3_total_100 rfl rfl rfl ?_
                refine kx_getr 104 F fl_X3_25 hk_c0 rfl rfl (j := 5) rfl dX3_total_101 (v := (N_1136 c0 5)) rfl rfl ?_
                have hk_1203 : kd (N_1136 c0 5) = 61 := Inv.r hI_N_1136 hk_c0 rfl 5 rfl rfl
                refine kx_iload 106 F 4 dX3_total_104 rfl rfl ?_
                refine kx_lald 107 F hk_1203 rfl rfl (by omega) (by decide) dX3_total_106 (v := (N_1136 (N_1136 c0 5) x4_1181)) rfl rfl ?_
                have h_1204 := Inv.g hI_N_1136 hk_1203 rfl x4_1181 (a := (-9223372036854775808)) (b := 9223372036854775807) rfl rfl
                refine kx_goto 111 F dX3_total_107 (by decide) ?_
                refine kx_drop 2 (lo' := [some (vR G c0), some (vR G c1), none, none, some (vI x4_1181)]) rfl ?_
                exact J_1198 (N_1136 (N_1136 c0 5) x4_1181) (by omega)
          exact L_1182 _ 0 0 (by omega) rfl
        · refine kx_aload_n 39 F 0 dX3_total_38 rfl rfl rfl ?_
          refine kx_aload_n 40 F 0 dX3_total_39 rfl rfl rfl ?_
          refine kx_getr 43 F fl_X3_18 hk_c0 rfl rfl (j := 3) rfl dX3_total_40 (v := (M c0 3)) (by rw [Fr.e hF_N_1127 hk_c0 _ rfl]) rfl ?_
          have hk_1205 : kd (M c0 3) = 59 := Inv.r hI_M hk_c0 rfl 3 rfl rfl
          refine kx_iload_n 44 F 2 dX3_total_43 rfl rfl rfl ?_
          refine kx_bipush 46 F dX3_total_44 (by decide) rfl ?_
          refine kx_imul 47 F (v := 9 * x2_1126) dX3_total_46 (by omega) rfl ?_
          refine kx_Vv 50 (ci := 0) F (As := [vR G (M c0 3), vI (9 * x2_1126)]) (st := []) vd_X3_86 (c_X3_leadOverB G l N_1127 c0 (M c0 3) (9 * x2_1126) hI_N_1127 hk_c0 hk_1205 (by omega)) hk_c0 rfl rfl rfl ⟨by decide, by decide⟩ rfl rfl (Nat.le_of_ble_eq_true rfl) dX3_total_47 rfl ?_
          intro N_1206 q_1207
          obtain ⟨hI_N_1206, hG_N_1206⟩ := q_1207
          have hF_N_1206 : Fr f_c_X3_total M N_1206 := Fr.c hF_N_1127 hG_N_1206 rfl
          refine kx_aload_n 51 F 0 dX3_total_50 rfl rfl rfl ?_
          refine kx_aload_n 52 F 1 dX3_total_51 rfl rfl rfl ?_
          refine kx_aload_n 53 F 0 dX3_total_52 rfl rfl rfl ?_
          refine kx_getr 56 F fl_X3_21 hk_c0 rfl rfl (j := 4) rfl dX3_total_53 (v := (M c0 4)) (by rw [Fr.e hG_N_1206 hk_c0 _ rfl, Fr.e hF_N_1127 hk_c0 _ rfl]) rfl ?_
          have hk_1208 : kd (M c0 4) = 60 := Inv.r hI_M hk_c0 rfl 4 rfl rfl
          refine kx_iload_n 57 F 2 dX3_total_56 rfl rfl rfl ?_
          refine kx_iald 58 F hk_1208 rfl rfl (by omega) (by decide) dX3_total_57 (v := (M (M c0 4) x2_1126)) (by rw [Fr.e hG_N_1206 hk_1208 _ rfl, Fr.e hF_N_1127 hk_1208 _ rfl]) rfl ?_
          have h_1209 := Inv.g hI_M hk_1208 rfl x2_1126 (a := 0) (b := 5) rfl rfl
          refine kx_Vv 61 (ci := 0) F (As := [vR G c1, vI (M (M c0 4) x2_1126)]) (st := []) vd_X3_90 (c_X3_leadByCall G l N_1206 c0 c1 (M (M c0 4) x2_1126) hI_N_1206 hk_c0 hk_c1 (by omega)) hk_c0 rfl rfl rfl ⟨by decide, by decide⟩ rfl rfl (Nat.le_of_ble_eq_true rfl) dX3_total_58 rfl ?_
          intro N_1210 q_1211
          obtain ⟨hI_N_1210, hG_N_1210⟩ := q_1211
          have hF_N_1210 : Fr f_c_X3_total M N_1210 := Fr.c hF_N_1206 hG_N_1210 rfl
          refine kx_iinc 64 F 2 (v := x2_1126 + 1) (lo' := [some (vR G c0), some (vR G c1), some (vI (x2_1126 + 1)), none, none]) dX3_total_61 rfl (by omega) (by decide) rfl rfl rfl ?_
          refine kx_goto 30 F dX3_total_64 (by decide) ?_
          exact ih_1130 _ (by omega) (x2_1126 + 1) N_1210 hI_N_1210 hF_N_1210 (by omega) rfl
      exact L_1128 _ 0 N_615 hI_N_615 hF_N_615 (by omega) rfl
    · refine kx_aload_n 8 F 0 dX3_total_7 rfl rfl rfl ?_
      refine kx_getr 11 F fl_X3_25 hk_c0 rfl rfl (j := 5) rfl dX3_total_8 (v := (N_615 c0 5)) rfl rfl ?_
      have hk_1212 : kd (N_615 c0 5) = 61 := Inv.r hI_N_615 hk_c0 rfl 5 rfl rfl
      refine kx_iload_n 12 F 2 dX3_total_11 rfl rfl rfl ?_
      refine kx_aload_n 13 F 1 dX3_total_12 rfl rfl rfl ?_
      refine kx_geti 16 F fl_X3_83 hk_c1 rfl rfl (j := 2) rfl dX3_total_13 (v := (M c1 2)) (by rw [Fr.e hF_N_615 hk_c1 _ rfl]) rfl ?_
      have h_1213 := Inv.g hI_M hk_c1 rfl 2 (a := 0) (b := 7) rfl rfl
      refine kx_iload_n 17 F 2 dX3_total_16 rfl rfl rfl ?_
      refine kx_ishr 18 F (v := (zshr (M c1 2) x2_614)) dX3_total_17 rfl rfl ?_
      have h_1214 := zshr_r (a := (M c1 2)) (b := x2_614) (by omega)
      refine kx_iconst 19 F dX3_total_18 rfl ?_
      refine kx_iand 20 F (v := (zand (zshr (M c1 2) x2_614) 1)) dX3_total_19 rfl rfl ?_
      have h_1215 := zand_r (a := (zshr (M c1 2) x2_614)) (b := 1) (by omega)
      refine kx_i2l 21 F dX3_total_20 (by omega) rfl ?_
      refine kx_last 22 F hk_1212 rfl rfl (by omega) (by decide) dX3_total_21 rfl ?_
      intro N_1216 hM_N_1216
      have hI_N_1216 : Inv false N_1216 := Inv.u hI_N_615 hM_N_1216 hk_1212 (a := (-9223372036854775808)) (b := 9223372036854775807) rfl rfl rfl (by omega)
      have hF_N_1216 : Fr f_c_X3_total M N_1216 := Fr.u hF_N_615 hM_N_1216 hk_1212 rfl
      refine kx_iinc 25 F 2 (v := x2_614 + 1) (lo' := [some (vR G c0), some (vR G c1), some (vI (x2_614 + 1)), none, none]) dX3_total_22 rfl (by omega) (by decide) rfl rfl rfl ?_
      refine kx_goto 2 F dX3_total_25 (by decide) ?_
      exact ih_618 _ (by omega) (x2_614 + 1) N_1216 hI_N_1216 hF_N_1216 (by omega) rfl
  exact L_616 _ 0 M hI_M hF_M (by omega) rfl
set_option maxRecDepth 100000 in
theorem dGR_12_c_244 : (decode cX6_isBefore 0 = .ok (.iload_n 0, 1)) ∧ (decode cX6_isBefore 1 = .ok (.iload_n 2, 1)) ∧ (decode cX6_isBefore 2 = .ok (.if_icmp .lt 13, 3)) ∧ (decode cX6_isBefore 5 = .ok (.iload_n 0, 1)) ∧ (decode cX6_isBefore 6 = .ok (.iload_n 2, 1)) ∧ (decode cX6_isBefore 7 = .ok (.if_icmp .ne 12, 3)) ∧ (decode cX6_isBefore 10 = .ok (.iload_n 1, 1)) ∧ (decode cX6_isBefore 11 = .ok (.iload_n 3, 1)) ∧ (decode cX6_isBefore 12 = .ok (.if_icmp .ge 7, 3)) ∧ (decode cX6_isBefore 15 = .ok (.iconst 1, 1)) ∧ (decode cX6_isBefore 16 = .ok (.goto 4, 3)) ∧ (decode cX6_isBefore 19 = .ok (.iconst 0, 1)) := by decide +kernel
theorem dX6_isBefore_0 : decode cX6_isBefore 0 = .ok (.iload_n 0, 1) := dGR_12_c_244.1
theorem dX6_isBefore_1 : decode cX6_isBefore 1 = .ok (.iload_n 2, 1) := dGR_12_c_244.2.1
theorem dX6_isBefore_2 : decode cX6_isBefore 2 = .ok (.if_icmp .lt 13, 3) := dGR_12_c_244.2.2.1
theorem dX6_isBefore_5 : decode cX6_isBefore 5 = .ok (.iload_n 0, 1) := dGR_12_c_244.2.2.2.1
theorem dX6_isBefore_6 : decode cX6_isBefore 6 = .ok (.iload_n 2, 1) := dGR_12_c_244.2.2.2.2.1
theorem dX6_isBefore_7 : decode cX6_isBefore 7 = .ok (.if_icmp .ne 12, 3) := dGR_12_c_244.2.2.2.2.2.1
theorem dX6_isBefore_10 : decode cX6_isBefore 10 = .ok (.iload_n 1, 1) := dGR_12_c_244.2.2.2.2.2.2.1
theorem dX6_isBefore_11 : decode cX6_isBefore 11 = .ok (.iload_n 3, 1) := dGR_12_c_244.2.2.2.2.2.2.2.1
theorem dX6_isBefore_12 : decode cX6_isBefore 12 = .ok (.if_icmp .ge 7, 3) := dGR_12_c_244.2.2.2.2.2.2.2.2.1
theorem dX6_isBefore_15 : decode cX6_isBefore 15 = .ok (.iconst 1, 1) := dGR_12_c_244.2.2.2.2.2.2.2.2.2.1
theorem dX6_isBefore_16 : decode cX6_isBefore 16 = .ok (.goto 4, 3) := dGR_12_c_244.2.2.2.2.2.2.2.2.2.2.1
theorem dX6_isBefore_19 : decode cX6_isBefore 19 = .ok (.iconst 0, 1) := dGR_12_c_244.2.2.2.2.2.2.2.2.2.2.2
theorem dX6_isBefore_20 : decode cX6_isBefore 20 = .ok (.ireturn, 1) := by decide +kernel
set_option maxHeartbeats 4000000 in
set_option maxRecDepth 100000 in
theorem c_X6_isBefore (G : KG) (l : Launch) (M : Mem) (a0 : Int) (a1 : Int) (a2 : Int) (a3 : Int) (hI_M : Inv false M) (hpre : -2147483648 ≤ a0 ∧ a0 ≤ 2147483647 ∧ -2147483648 ≤ a1 ∧ a1 ≤ 2147483647 ∧ -2147483648 ≤ a2 ∧ a2 ≤ 2147483647 ∧ -2147483648 ≤ a3 ∧ a3 ≤ 2147483647) : KC false G l yX6_isBefore cX6_isBefore 4 (some .boolean) (0, 0) [vI a0, vI a1, vI a2, vI a3] M (fun A => kQi false G A (fun (r : Int) (N : Mem) => M = N ∧ (0 ≤ r ∧ r ≤ 1))) := by
  refine kx_met (lo := [some (vI a0), some (vI a1), some (vI a2), some (vI a3)]) (by decide) (Nat.le_of_ble_eq_true rfl) rfl ?_
  intro X F hQ
  refine kx_iload_n 1 F 0 dX6_isBefore_0 rfl rfl rfl ?_
  refine kx_iload_n 2 F 2 dX6_isBefore_1 rfl rfl rfl ?_
  refine kx_icmp_lt 5 F 15 dX6_isBefore_2 (by decide) rfl (by omega) (by omega) (fun h_1 => ?_) (fun h_1 => ?_)
  · refine kx_iconst 16 F dX6_isBefore_15 rfl ?_
    refine kx_goto 20 F dX6_isBefore_16 (by decide) ?_
    exact kx_zret F hQ (by omega) ⟨rfl, (by omega)⟩ dX6_isBefore_20
  · refine kx_iload_n 6 F 0 dX6_isBefore_5 rfl rfl rfl ?_
    refine kx_iload_n 7 F 2 dX6_isBefore_6 rfl rfl rfl ?_
    refine kx_icmp_ne 10 F 19 dX6_isBefore_7 (by decide) rfl (by omega) (by omega) (fun h_2 => ?_) (fun h_2 => ?_)
    · refine kx_iconst 20 F dX6_isBefore_19 rfl ?_
      exact kx_zret F hQ (by omega) ⟨rfl, (by omega)⟩ dX6_isBefore_20
    · refine kx_iload_n 11 F 1 dX6_isBefore_10 rfl rfl rfl ?_
      refine kx_iload_n 12 F 3 dX6_isBefore_11 rfl rfl rfl ?_
      refine kx_icmp_ge 15 F 19 dX6_isBefore_12 (by decide) rfl (by omega) (by omega) (fun h_3 => ?_) (fun h_3 => ?_)
      · refine kx_iconst 20 F dX6_isBefore_19 rfl ?_
        exact kx_zret F hQ (by omega) ⟨rfl, (by omega)⟩ dX6_isBefore_20
      · refine kx_iconst 16 F dX6_isBefore_15 rfl ?_
        refine kx_goto 20 F dX6_isBefore_16 (by decide) ?_
        exact kx_zret F hQ (by omega) ⟨rfl, (by omega)⟩ dX6_isBefore_20
set_option maxRecDepth 100000 in
theorem dGR_12_c_245 : (decode cX6_nearest 0 = .ok (.iconst (-1), 1)) ∧ (decode cX6_nearest 1 = .ok (.istore_n 1, 1)) ∧ (decode cX6_nearest 2 = .ok (.iconst 0, 1)) ∧ (decode cX6_nearest 3 = .ok (.istore_n 2, 1)) ∧ (decode cX6_nearest 4 = .ok (.iload_n 2, 1)) ∧ (decode cX6_nearest 5 = .ok (.aload_n 0, 1)) ∧ (decode cX6_nearest 6 = .ok (.getfield 30, 3)) ∧ (decode cX6_nearest 9 = .ok (.if_icmp .ge 48, 3)) ∧ (decode cX6_nearest 12 = .ok (.aload_n 0, 1)) ∧ (decode cX6_nearest 13 = .ok (.getfield 15, 3)) ∧ (decode cX6_nearest 16 = .ok (.iload_n 2, 1)) ∧ (decode cX6_nearest 17 = .ok (.iaload, 1)) := by decide +kernel
theorem dX6_nearest_0 : decode cX6_nearest 0 = .ok (.iconst (-1), 1) := dGR_12_c_245.1
theorem dX6_nearest_1 : decode cX6_nearest 1 = .ok (.istore_n 1, 1) := dGR_12_c_245.2.1
theorem dX6_nearest_2 : decode cX6_nearest 2 = .ok (.iconst 0, 1) := dGR_12_c_245.2.2.1
theorem dX6_nearest_3 : decode cX6_nearest 3 = .ok (.istore_n 2, 1) := dGR_12_c_245.2.2.2.1
theorem dX6_nearest_4 : decode cX6_nearest 4 = .ok (.iload_n 2, 1) := dGR_12_c_245.2.2.2.2.1
theorem dX6_nearest_5 : decode cX6_nearest 5 = .ok (.aload_n 0, 1) := dGR_12_c_245.2.2.2.2.2.1
theorem dX6_nearest_6 : decode cX6_nearest 6 = .ok (.getfield 30, 3) := dGR_12_c_245.2.2.2.2.2.2.1
theorem dX6_nearest_9 : decode cX6_nearest 9 = .ok (.if_icmp .ge 48, 3) := dGR_12_c_245.2.2.2.2.2.2.2.1
theorem dX6_nearest_12 : decode cX6_nearest 12 = .ok (.aload_n 0, 1) := dGR_12_c_245.2.2.2.2.2.2.2.2.1
theorem dX6_nearest_13 : decode cX6_nearest 13 = .ok (.getfield 15, 3) := dGR_12_c_245.2.2.2.2.2.2.2.2.2.1
theorem dX6_nearest_16 : decode cX6_nearest 16 = .ok (.iload_n 2, 1) := dGR_12_c_245.2.2.2.2.2.2.2.2.2.2.1
theorem dX6_nearest_17 : decode cX6_nearest 17 = .ok (.iaload, 1) := dGR_12_c_245.2.2.2.2.2.2.2.2.2.2.2
set_option maxRecDepth 100000 in
theorem dGR_12_c_246 : (decode cX6_nearest 18 = .ok (.istore_n 3, 1)) ∧ (decode cX6_nearest 19 = .ok (.aload_n 0, 1)) ∧ (decode cX6_nearest 20 = .ok (.getfield 27, 3)) ∧ (decode cX6_nearest 23 = .ok (.iload_n 3, 1)) ∧ (decode cX6_nearest 24 = .ok (.iaload, 1)) ∧ (decode cX6_nearest 25 = .ok (.iconst 1, 1)) ∧ (decode cX6_nearest 26 = .ok (.if_icmp .ne 25, 3)) ∧ (decode cX6_nearest 29 = .ok (.iload_n 1, 1)) ∧ (decode cX6_nearest 30 = .ok (.iconst (-1), 1)) ∧ (decode cX6_nearest 31 = .ok (.if_icmp .eq 13, 3)) ∧ (decode cX6_nearest 34 = .ok (.aload_n 0, 1)) ∧ (decode cX6_nearest 35 = .ok (.getfield 21, 3)) := by decide +kernel
theorem dX6_nearest_18 : decode cX6_nearest 18 = .ok (.istore_n 3, 1) := dGR_12_c_246.1
theorem dX6_nearest_19 : decode cX6_nearest 19 = .ok (.aload_n 0, 1) := dGR_12_c_246.2.1
theorem dX6_nearest_20 : decode cX6_nearest 20 = .ok (.getfield 27, 3) := dGR_12_c_246.2.2.1
theorem dX6_nearest_23 : decode cX6_nearest 23 = .ok (.iload_n 3, 1) := dGR_12_c_246.2.2.2.1
theorem dX6_nearest_24 : decode cX6_nearest 24 = .ok (.iaload, 1) := dGR_12_c_246.2.2.2.2.1
theorem dX6_nearest_25 : decode cX6_nearest 25 = .ok (.iconst 1, 1) := dGR_12_c_246.2.2.2.2.2.1
theorem dX6_nearest_26 : decode cX6_nearest 26 = .ok (.if_icmp .ne 25, 3) := dGR_12_c_246.2.2.2.2.2.2.1
theorem dX6_nearest_29 : decode cX6_nearest 29 = .ok (.iload_n 1, 1) := dGR_12_c_246.2.2.2.2.2.2.2.1
theorem dX6_nearest_30 : decode cX6_nearest 30 = .ok (.iconst (-1), 1) := dGR_12_c_246.2.2.2.2.2.2.2.2.1
theorem dX6_nearest_31 : decode cX6_nearest 31 = .ok (.if_icmp .eq 13, 3) := dGR_12_c_246.2.2.2.2.2.2.2.2.2.1
theorem dX6_nearest_34 : decode cX6_nearest 34 = .ok (.aload_n 0, 1) := dGR_12_c_246.2.2.2.2.2.2.2.2.2.2.1
theorem dX6_nearest_35 : decode cX6_nearest 35 = .ok (.getfield 21, 3) := dGR_12_c_246.2.2.2.2.2.2.2.2.2.2.2
set_option maxRecDepth 100000 in
theorem dGR_12_c_247 : (decode cX6_nearest 38 = .ok (.iload_n 3, 1)) ∧ (decode cX6_nearest 39 = .ok (.iaload, 1)) ∧ (decode cX6_nearest 40 = .ok (.iload_n 1, 1)) ∧ (decode cX6_nearest 41 = .ok (.if_icmp .ge 10, 3)) ∧ (decode cX6_nearest 44 = .ok (.aload_n 0, 1)) ∧ (decode cX6_nearest 45 = .ok (.getfield 21, 3)) ∧ (decode cX6_nearest 48 = .ok (.iload_n 3, 1)) ∧ (decode cX6_nearest 49 = .ok (.iaload, 1)) ∧ (decode cX6_nearest 50 = .ok (.istore_n 1, 1)) ∧ (decode cX6_nearest 51 = .ok (.iinc 2 1, 3)) ∧ (decode cX6_nearest 54 = .ok (.goto (-50), 3)) ∧ (decode cX6_nearest 57 = .ok (.iload_n 1, 1)) := by decide +kernel
theorem dX6_nearest_38 : decode cX6_nearest 38 = .ok (.iload_n 3, 1) := dGR_12_c_247.1
theorem dX6_nearest_39 : decode cX6_nearest 39 = .ok (.iaload, 1) := dGR_12_c_247.2.1
theorem dX6_nearest_40 : decode cX6_nearest 40 = .ok (.iload_n 1, 1) := dGR_12_c_247.2.2.1
theorem dX6_nearest_41 : decode cX6_nearest 41 = .ok (.if_icmp .ge 10, 3) := dGR_12_c_247.2.2.2.1
theorem dX6_nearest_44 : decode cX6_nearest 44 = .ok (.aload_n 0, 1) := dGR_12_c_247.2.2.2.2.1
theorem dX6_nearest_45 : decode cX6_nearest 45 = .ok (.getfield 21, 3) := dGR_12_c_247.2.2.2.2.2.1
theorem dX6_nearest_48 : decode cX6_nearest 48 = .ok (.iload_n 3, 1) := dGR_12_c_247.2.2.2.2.2.2.1
theorem dX6_nearest_49 : decode cX6_nearest 49 = .ok (.iaload, 1) := dGR_12_c_247.2.2.2.2.2.2.2.1
theorem dX6_nearest_50 : decode cX6_nearest 50 = .ok (.istore_n 1, 1) := dGR_12_c_247.2.2.2.2.2.2.2.2.1
theorem dX6_nearest_51 : decode cX6_nearest 51 = .ok (.iinc 2 1, 3) := dGR_12_c_247.2.2.2.2.2.2.2.2.2.1
theorem dX6_nearest_54 : decode cX6_nearest 54 = .ok (.goto (-50), 3) := dGR_12_c_247.2.2.2.2.2.2.2.2.2.2.1
theorem dX6_nearest_57 : decode cX6_nearest 57 = .ok (.iload_n 1, 1) := dGR_12_c_247.2.2.2.2.2.2.2.2.2.2.2
theorem dX6_nearest_58 : decode cX6_nearest 58 = .ok (.ireturn, 1) := by decide +kernel
set_option maxHeartbeats 4000000 in
set_option maxRecDepth 100000 in
theorem c_X6_nearestA (G : KG) (l : Launch) (M : Mem) (c0 : Int) (hI_M : Inv false M) (hk_c0 : kd c0 = 26) : KC false G l yX6_nearest cX6_nearest 4 (some .int) (0, 0) [vR G c0] M (fun A => kQi false G A (fun (r : Int) (N : Mem) => M = N ∧ (r ≥ -1 ∧ r ≤ 1000000000))) := by
  refine kx_met (lo := [some (vR G c0), none, none, none]) (by decide) (Nat.le_of_ble_eq_true rfl) rfl ?_
  intro X F hQ
  refine kx_iconst 1 F dX6_nearest_0 rfl ?_
  refine kx_istore_n 2 F 1 (lo' := [some (vR G c0), some (vI (-1)), none, none]) dX6_nearest_1 rfl (by decide) rfl rfl rfl ?_
  refine kx_iconst 3 F dX6_nearest_2 rfl ?_
  refine kx_istore_n 4 F 2 (lo' := [some (vR G c0), some (vI (-1)), some (vI 0), none]) dX6_nearest_3 rfl (by decide) rfl rfl rfl ?_
  have L_105 : ∀ (n_106 : Nat) (x1_103 : Int) (x2_104 : Int), (-1) ≤ x1_103 ∧ x1_103 ≤ 1000000000 ∧ 0 ≤ x2_104 ∧ x2_104 ≤ 576 → (576 - (x2_104)).toNat = n_106 → KJ false G X M 4 [some (vR G c0), some (vI x1_103), some (vI x2_104), none] [] := by
    intro n_106
    refine Nat.strongRecOn n_106 ?_
    intro n_106 ih_107 x1_103 x2_104 h_108 hm_109
    refine kx_iload_n 5 F 2 dX6_nearest_4 rfl rfl rfl ?_
    refine kx_aload_n 6 F 0 dX6_nearest_5 rfl rfl rfl ?_
    refine kx_geti 9 F fl_X6_30 hk_c0 rfl rfl (j := 0) rfl dX6_nearest_6 (v := (M c0 0)) rfl rfl ?_
    have h_110 := Inv.g hI_M hk_c0 rfl 0 (a := 0) (b := 576) rfl rfl
    refine kx_icmp_ge 12 F 57 dX6_nearest_9 (by decide) rfl (by omega) (by omega) (fun h_111 => ?_) (fun h_111 => ?_)
    · refine kx_iload_n 58 F 1 dX6_nearest_57 rfl rfl rfl ?_
      exact kx_iret F hQ ⟨rfl, (by omega)⟩ dX6_nearest_58
    · refine kx_aload_n 13 F 0 dX6_nearest_12 rfl rfl rfl ?_
      refine kx_getr 16 F fl_X6_15 hk_c0 rfl rfl (j := 1) rfl dX6_nearest_13 (v := (M c0 1)) rfl rfl ?_
      have hk_112 : kd (M c0 1) = 27 := Inv.r hI_M hk_c0 rfl 1 rfl rfl
      refine kx_iload_n 17 F 2 dX6_nearest_16 rfl rfl rfl ?_
      refine kx_iald 18 F hk_112 rfl rfl (by omega) (by decide) dX6_nearest_17 (v := (M (M c0 1) x2_104)) rfl rfl ?_
      have h_113 := Inv.g hI_M hk_112 rfl x2_104 (a := 0) (b := 575) rfl rfl
      refine kx_istore_n 19 F 3 (lo' := [some (vR G c0), some (vI x1_103), some (vI x2_104), some (vI (M (M c0 1) x2_104))]) dX6_nearest_18 rfl (by decide) rfl rfl rfl ?_
      refine kx_aload_n 20 F 0 dX6_nearest_19 rfl rfl rfl ?_
      refine kx_getr 23 F fl_X6_27 hk_c0 rfl rfl (j := 4) rfl dX6_nearest_20 (v := (M c0 4)) rfl rfl ?_
      have hk_114 : kd (M c0 4) = 30 := Inv.r hI_M hk_c0 rfl 4 rfl rfl
      refine kx_iload_n 24 F 3 dX6_nearest_23 rfl rfl rfl ?_
      refine kx_iald 25 F hk_114 rfl rfl (by omega) (by decide) dX6_nearest_24 (v := (M (M c0 4) (M (M c0 1) x2_104))) rfl rfl ?_
      have h_115 := Inv.g hI_M hk_114 rfl (M (M c0 1) x2_104) (a := 0) (b := 2) rfl rfl
      refine kx_iconst 26 F dX6_nearest_25 rfl ?_
      have J_124 : ∀ (x1_123 : Int), (-1) ≤ x1_123 ∧ x1_123 ≤ 1000000000 → KJ false G X M 51 [some (vR G c0), some (vI x1_123), some (vI x2_104), none] [] := by
        intro x1_123 h_125
        refine kx_iinc 54 F 2 (v := x2_104 + 1) (lo' := [some (vR G c0), some (vI x1_123), some (vI (x2_104 + 1)), none]) dX6_nearest_51 rfl (by omega) (by decide) rfl rfl rfl ?_
        refine kx_goto 4 F dX6_nearest_54 (by decide) ?_
        exact ih_107 _ (by omega) x1_123 (x2_104 + 1) (by omega) rfl
      refine kx_icmp_ne 29 F 51 dX6_nearest_26 (by decide) rfl (by omega) (by decide) (fun h_126 => ?_) (fun h_126 => ?_)
      · refine kx_drop 3 (lo' := [some (vR G c0), some (vI x1_103), some (vI x2_104), none]) rfl ?_
        exact J_124 x1_103 (by omega)
      · refine kx_iload_n 30 F 1 dX6_nearest_29 rfl rfl rfl ?_
        refine kx_iconst 31 F dX6_nearest_30 rfl ?_
        have J_131 : KJ false G X M 44 [some (vR G c0), none, some (vI x2_104), some (vI (M (M c0 1) x2_104))] [] := by
          refine kx_aload_n 45 F 0 dX6_nearest_44 rfl rfl rfl ?_
          refine kx_getr 48 F fl_X6_21 hk_c0 rfl rfl (j := 2) rfl dX6_nearest_45 (v := (M c0 2)) rfl rfl ?_
          have hk_133 : kd (M c0 2) = 28 := Inv.r hI_M hk_c0 rfl 2 rfl rfl
          refine kx_iload_n 49 F 3 dX6_nearest_48 rfl rfl rfl ?_
          refine kx_iald 50 F hk_133 rfl rfl (by omega) (by decide) dX6_nearest_49 (v := (M (M c0 2) (M (M c0 1) x2_104))) rfl rfl ?_
          have h_134 := Inv.g hI_M hk_133 rfl (M (M c0 1) x2_104) (a := 0) (b := 1000000000) rfl rfl
          refine kx_istore_n 51 F 1 (lo' := [some (vR G c0), some (vI (M (M c0 2) (M (M c0 1) x2_104))), some (vI x2_104), some (vI (M (M c0 1) x2_104))]) dX6_nearest_50 rfl (by decide) rfl rfl rfl ?_
          refine kx_drop 3 (lo' := [some (vR G c0), some (vI (M (M c0 2) (M (M c0 1) x2_104))), some (vI x2_104), none]) rfl ?_
          exact J_124 (M (M c0 2) (M (M c0 1) x2_104)) (by omega)
        refine kx_icmp_eq 34 F 44 dX6_nearest_31 (by decide) rfl (by omega) (by decide) (fun h_135 => ?_) (fun h_135 => ?_)
        · refine kx_drop 1 (lo' := [some (vR G c0), none, some (vI x2_104), some (vI (M (M c0 1) x2_104))]) rfl ?_
          exact J_131 
        · refine kx_aload_n 35 F 0 dX6_nearest_34 rfl rfl rfl ?_
          refine kx_getr 38 F fl_X6_21 hk_c0 rfl rfl (j := 2) rfl dX6_nearest_35 (v := (M c0 2)) rfl rfl ?_
          have hk_136 : kd (M c0 2) = 28 := Inv.r hI_M hk_c0 rfl 2 rfl rfl
          refine kx_iload_n 39 F 3 dX6_nearest_38 rfl rfl rfl ?_
          refine kx_iald 40 F hk_136 rfl rfl (by omega) (by decide) dX6_nearest_39 (v := (M (M c0 2) (M (M c0 1) x2_104))) rfl rfl ?_
          have h_137 := Inv.g hI_M hk_136 rfl (M (M c0 1) x2_104) (a := 0) (b := 1000000000) rfl rfl
          refine kx_iload_n 41 F 1 dX6_nearest_40 rfl rfl rfl ?_
          refine kx_icmp_ge 44 F 51 dX6_nearest_41 (by decide) rfl (by omega) (by omega) (fun h_138 => ?_) (fun h_138 => ?_)
          · refine kx_drop 3 (lo' := [some (vR G c0), some (vI x1_103), some (vI x2_104), none]) rfl ?_
            exact J_124 x1_103 (by omega)
          · refine kx_drop 1 (lo' := [some (vR G c0), none, some (vI x2_104), some (vI (M (M c0 1) x2_104))]) rfl ?_
            exact J_131 
  exact L_105 _ (-1) 0 (by omega) rfl
set_option maxRecDepth 100000 in
theorem dGR_12_c_248 : (decode cX6_isClosed 0 = .ok (.iload_n 1, 1)) ∧ (decode cX6_isClosed 1 = .ok (.ifCond .lt 26, 3)) ∧ (decode cX6_isClosed 4 = .ok (.iload_n 1, 1)) ∧ (decode cX6_isClosed 5 = .ok (.aload_n 0, 1)) ∧ (decode cX6_isClosed 6 = .ok (.getfield 27, 3)) ∧ (decode cX6_isClosed 9 = .ok (.arraylength, 1)) ∧ (decode cX6_isClosed 10 = .ok (.if_icmp .ge 17, 3)) ∧ (decode cX6_isClosed 13 = .ok (.aload_n 0, 1)) ∧ (decode cX6_isClosed 14 = .ok (.getfield 27, 3)) ∧ (decode cX6_isClosed 17 = .ok (.iload_n 1, 1)) ∧ (decode cX6_isClosed 18 = .ok (.iaload, 1)) ∧ (decode cX6_isClosed 19 = .ok (.iconst 2, 1)) := by decide +kernel
theorem dX6_isClosed_0 : decode cX6_isClosed 0 = .ok (.iload_n 1, 1) := dGR_12_c_248.1
theorem dX6_isClosed_1 : decode cX6_isClosed 1 = .ok (.ifCond .lt 26, 3) := dGR_12_c_248.2.1
theorem dX6_isClosed_4 : decode cX6_isClosed 4 = .ok (.iload_n 1, 1) := dGR_12_c_248.2.2.1
theorem dX6_isClosed_5 : decode cX6_isClosed 5 = .ok (.aload_n 0, 1) := dGR_12_c_248.2.2.2.1
theorem dX6_isClosed_6 : decode cX6_isClosed 6 = .ok (.getfield 27, 3) := dGR_12_c_248.2.2.2.2.1
theorem dX6_isClosed_9 : decode cX6_isClosed 9 = .ok (.arraylength, 1) := dGR_12_c_248.2.2.2.2.2.1
theorem dX6_isClosed_10 : decode cX6_isClosed 10 = .ok (.if_icmp .ge 17, 3) := dGR_12_c_248.2.2.2.2.2.2.1
theorem dX6_isClosed_13 : decode cX6_isClosed 13 = .ok (.aload_n 0, 1) := dGR_12_c_248.2.2.2.2.2.2.2.1
theorem dX6_isClosed_14 : decode cX6_isClosed 14 = .ok (.getfield 27, 3) := dGR_12_c_248.2.2.2.2.2.2.2.2.1
theorem dX6_isClosed_17 : decode cX6_isClosed 17 = .ok (.iload_n 1, 1) := dGR_12_c_248.2.2.2.2.2.2.2.2.2.1
theorem dX6_isClosed_18 : decode cX6_isClosed 18 = .ok (.iaload, 1) := dGR_12_c_248.2.2.2.2.2.2.2.2.2.2.1
theorem dX6_isClosed_19 : decode cX6_isClosed 19 = .ok (.iconst 2, 1) := dGR_12_c_248.2.2.2.2.2.2.2.2.2.2.2
set_option maxRecDepth 100000 in
theorem dGR_12_c_249 : (decode cX6_isClosed 20 = .ok (.if_icmp .ne 7, 3)) ∧ (decode cX6_isClosed 23 = .ok (.iconst 1, 1)) ∧ (decode cX6_isClosed 24 = .ok (.goto 4, 3)) ∧ (decode cX6_isClosed 27 = .ok (.iconst 0, 1)) ∧ (decode cX6_isClosed 28 = .ok (.ireturn, 1)) := by decide +kernel
theorem dX6_isClosed_20 : decode cX6_isClosed 20 = .ok (.if_icmp .ne 7, 3) := dGR_12_c_249.1
theorem dX6_isClosed_23 : decode cX6_isClosed 23 = .ok (.iconst 1, 1) := dGR_12_c_249.2.1
theorem dX6_isClosed_24 : decode cX6_isClosed 24 = .ok (.goto 4, 3) := dGR_12_c_249.2.2.1
theorem dX6_isClosed_27 : decode cX6_isClosed 27 = .ok (.iconst 0, 1) := dGR_12_c_249.2.2.2.1
theorem dX6_isClosed_28 : decode cX6_isClosed 28 = .ok (.ireturn, 1) := dGR_12_c_249.2.2.2.2
set_option maxHeartbeats 4000000 in
set_option maxRecDepth 100000 in
theorem c_X6_isClosedA (G : KG) (l : Launch) (M : Mem) (c0 : Int) (a1 : Int) (hI_M : Inv false M) (hk_c0 : kd c0 = 26) (hpre : -2147483648 ≤ a1 ∧ a1 ≤ 2147483647) : KC false G l yX6_isClosed cX6_isClosed 2 (some .boolean) (0, 0) [vR G c0, vI a1] M (fun A => kQi false G A (fun (r : Int) (N : Mem) => M = N ∧ ((r = 1 ∧ 0 ≤ a1 ∧ a1 ≤ 575) ∨ (r = 0)))) := by
  refine kx_met (lo := [some (vR G c0), some (vI a1)]) (by decide) (Nat.le_of_ble_eq_true rfl) rfl ?_
  intro X F hQ
  refine kx_iload_n 1 F 1 dX6_isClosed_0 rfl rfl rfl ?_
  refine kx_if_lt 4 F 27 dX6_isClosed_1 (by decide) rfl (by omega) (fun h_1 => ?_) (fun h_1 => ?_)
  · refine kx_iconst 28 F dX6_isClosed_27 rfl ?_
    exact kx_zret F hQ (by omega) ⟨rfl, (by omega)⟩ dX6_isClosed_28
  · refine kx_iload_n 5 F 1 dX6_isClosed_4 rfl rfl rfl ?_
    refine kx_aload_n 6 F 0 dX6_isClosed_5 rfl rfl rfl ?_
    refine kx_getr 9 F fl_X6_27 hk_c0 rfl rfl (j := 4) rfl dX6_isClosed_6 (v := (M c0 4)) rfl rfl ?_
    have hk_2 : kd (M c0 4) = 30 := Inv.r hI_M hk_c0 rfl 4 rfl rfl
    refine kx_alen 10 F hk_2 rfl rfl (z := 576) (by decide) dX6_isClosed_9 rfl ?_
    refine kx_icmp_ge 13 F 27 dX6_isClosed_10 (by decide) rfl (by omega) (by decide) (fun h_3 => ?_) (fun h_3 => ?_)
    · refine kx_iconst 28 F dX6_isClosed_27 rfl ?_
      exact kx_zret F hQ (by omega) ⟨rfl, (by omega)⟩ dX6_isClosed_28
    · refine kx_aload_n 14 F 0 dX6_isClosed_13 rfl rfl rfl ?_
      refine kx_getr 17 F fl_X6_27 hk_c0 rfl rfl (j := 4) rfl dX6_isClosed_14 (v := (M c0 4)) rfl rfl ?_
      refine kx_iload_n 18 F 1 dX6_isClosed_17 rfl rfl rfl ?_
      refine kx_iald 19 F hk_2 rfl rfl (by omega) (by decide) dX6_isClosed_18 (v := (M (M c0 4) a1)) rfl rfl ?_
      have h_4 := Inv.g hI_M hk_2 rfl a1 (a := 0) (b := 2) rfl rfl
      refine kx_iconst 20 F dX6_isClosed_19 rfl ?_
      refine kx_icmp_ne 23 F 27 dX6_isClosed_20 (by decide) rfl (by omega) (by decide) (fun h_5 => ?_) (fun h_5 => ?_)
      · refine kx_iconst 28 F dX6_isClosed_27 rfl ?_
        exact kx_zret F hQ (by omega) ⟨rfl, (by omega)⟩ dX6_isClosed_28
      · refine kx_iconst 24 F dX6_isClosed_23 rfl ?_
        refine kx_goto 28 F dX6_isClosed_24 (by decide) ?_
        exact kx_zret F hQ (by omega) ⟨rfl, (by omega)⟩ dX6_isClosed_28
