set_option maxRecDepth 100000 in
theorem dGR_14_c_297 : (decode cX4_closeWords 0 = .ok (.aload_n 0, 1)) ∧ (decode cX4_closeWords 1 = .ok (.getfield 36, 3)) ∧ (decode cX4_closeWords 4 = .ok (.getfield 150, 3)) ∧ (decode cX4_closeWords 7 = .ok (.istore_n 2, 1)) ∧ (decode cX4_closeWords 8 = .ok (.iconst 0, 1)) ∧ (decode cX4_closeWords 9 = .ok (.istore_n 3, 1)) ∧ (decode cX4_closeWords 10 = .ok (.iload_n 3, 1)) ∧ (decode cX4_closeWords 11 = .ok (.iload_n 2, 1)) ∧ (decode cX4_closeWords 12 = .ok (.if_icmp .ge 99, 3)) ∧ (decode cX4_closeWords 15 = .ok (.aload_n 0, 1)) ∧ (decode cX4_closeWords 16 = .ok (.getfield 36, 3)) ∧ (decode cX4_closeWords 19 = .ok (.getfield 153, 3)) := by decide +kernel
theorem dX4_closeWords_0 : decode cX4_closeWords 0 = .ok (.aload_n 0, 1) := dGR_14_c_297.1
theorem dX4_closeWords_1 : decode cX4_closeWords 1 = .ok (.getfield 36, 3) := dGR_14_c_297.2.1
theorem dX4_closeWords_4 : decode cX4_closeWords 4 = .ok (.getfield 150, 3) := dGR_14_c_297.2.2.1
theorem dX4_closeWords_7 : decode cX4_closeWords 7 = .ok (.istore_n 2, 1) := dGR_14_c_297.2.2.2.1
theorem dX4_closeWords_8 : decode cX4_closeWords 8 = .ok (.iconst 0, 1) := dGR_14_c_297.2.2.2.2.1
theorem dX4_closeWords_9 : decode cX4_closeWords 9 = .ok (.istore_n 3, 1) := dGR_14_c_297.2.2.2.2.2.1
theorem dX4_closeWords_10 : decode cX4_closeWords 10 = .ok (.iload_n 3, 1) := dGR_14_c_297.2.2.2.2.2.2.1
theorem dX4_closeWords_11 : decode cX4_closeWords 11 = .ok (.iload_n 2, 1) := dGR_14_c_297.2.2.2.2.2.2.2.1
theorem dX4_closeWords_12 : decode cX4_closeWords 12 = .ok (.if_icmp .ge 99, 3) := dGR_14_c_297.2.2.2.2.2.2.2.2.1
theorem dX4_closeWords_15 : decode cX4_closeWords 15 = .ok (.aload_n 0, 1) := dGR_14_c_297.2.2.2.2.2.2.2.2.2.1
theorem dX4_closeWords_16 : decode cX4_closeWords 16 = .ok (.getfield 36, 3) := dGR_14_c_297.2.2.2.2.2.2.2.2.2.2.1
theorem dX4_closeWords_19 : decode cX4_closeWords 19 = .ok (.getfield 153, 3) := dGR_14_c_297.2.2.2.2.2.2.2.2.2.2.2
set_option maxRecDepth 100000 in
theorem dGR_14_c_298 : (decode cX4_closeWords 22 = .ok (.iload_n 3, 1)) ∧ (decode cX4_closeWords 23 = .ok (.iaload, 1)) ∧ (decode cX4_closeWords 24 = .ok (.istore 4, 2)) ∧ (decode cX4_closeWords 26 = .ok (.aload_n 0, 1)) ∧ (decode cX4_closeWords 27 = .ok (.getfield 36, 3)) ∧ (decode cX4_closeWords 30 = .ok (.iload 4, 2)) ∧ (decode cX4_closeWords 32 = .ok (.iload_n 1, 1)) ∧ (decode cX4_closeWords 33 = .ok (.invokevirtual 156, 3)) ∧ (decode cX4_closeWords 36 = .ok (.ifCond .ne 6, 3)) ∧ (decode cX4_closeWords 39 = .ok (.goto 66, 3)) ∧ (decode cX4_closeWords 42 = .ok (.iconst 0, 1)) ∧ (decode cX4_closeWords 43 = .ok (.istore 5, 2)) := by decide +kernel
theorem dX4_closeWords_22 : decode cX4_closeWords 22 = .ok (.iload_n 3, 1) := dGR_14_c_298.1
theorem dX4_closeWords_23 : decode cX4_closeWords 23 = .ok (.iaload, 1) := dGR_14_c_298.2.1
theorem dX4_closeWords_24 : decode cX4_closeWords 24 = .ok (.istore 4, 2) := dGR_14_c_298.2.2.1
theorem dX4_closeWords_26 : decode cX4_closeWords 26 = .ok (.aload_n 0, 1) := dGR_14_c_298.2.2.2.1
theorem dX4_closeWords_27 : decode cX4_closeWords 27 = .ok (.getfield 36, 3) := dGR_14_c_298.2.2.2.2.1
theorem dX4_closeWords_30 : decode cX4_closeWords 30 = .ok (.iload 4, 2) := dGR_14_c_298.2.2.2.2.2.1
theorem dX4_closeWords_32 : decode cX4_closeWords 32 = .ok (.iload_n 1, 1) := dGR_14_c_298.2.2.2.2.2.2.1
theorem dX4_closeWords_33 : decode cX4_closeWords 33 = .ok (.invokevirtual 156, 3) := dGR_14_c_298.2.2.2.2.2.2.2.1
theorem dX4_closeWords_36 : decode cX4_closeWords 36 = .ok (.ifCond .ne 6, 3) := dGR_14_c_298.2.2.2.2.2.2.2.2.1
theorem dX4_closeWords_39 : decode cX4_closeWords 39 = .ok (.goto 66, 3) := dGR_14_c_298.2.2.2.2.2.2.2.2.2.1
theorem dX4_closeWords_42 : decode cX4_closeWords 42 = .ok (.iconst 0, 1) := dGR_14_c_298.2.2.2.2.2.2.2.2.2.2.1
theorem dX4_closeWords_43 : decode cX4_closeWords 43 = .ok (.istore 5, 2) := dGR_14_c_298.2.2.2.2.2.2.2.2.2.2.2
set_option maxRecDepth 100000 in
theorem dGR_14_c_299 : (decode cX4_closeWords 45 = .ok (.iload 5, 2)) ∧ (decode cX4_closeWords 47 = .ok (.aload_n 0, 1)) ∧ (decode cX4_closeWords 48 = .ok (.getfield 40, 3)) ∧ (decode cX4_closeWords 51 = .ok (.getfield 150, 3)) ∧ (decode cX4_closeWords 54 = .ok (.if_icmp .ge 45, 3)) ∧ (decode cX4_closeWords 57 = .ok (.aload_n 0, 1)) ∧ (decode cX4_closeWords 58 = .ok (.getfield 40, 3)) ∧ (decode cX4_closeWords 61 = .ok (.aload_n 0, 1)) ∧ (decode cX4_closeWords 62 = .ok (.getfield 40, 3)) ∧ (decode cX4_closeWords 65 = .ok (.getfield 153, 3)) ∧ (decode cX4_closeWords 68 = .ok (.iload 5, 2)) ∧ (decode cX4_closeWords 70 = .ok (.iaload, 1)) := by decide +kernel
theorem dX4_closeWords_45 : decode cX4_closeWords 45 = .ok (.iload 5, 2) := dGR_14_c_299.1
theorem dX4_closeWords_47 : decode cX4_closeWords 47 = .ok (.aload_n 0, 1) := dGR_14_c_299.2.1
theorem dX4_closeWords_48 : decode cX4_closeWords 48 = .ok (.getfield 40, 3) := dGR_14_c_299.2.2.1
theorem dX4_closeWords_51 : decode cX4_closeWords 51 = .ok (.getfield 150, 3) := dGR_14_c_299.2.2.2.1
theorem dX4_closeWords_54 : decode cX4_closeWords 54 = .ok (.if_icmp .ge 45, 3) := dGR_14_c_299.2.2.2.2.1
theorem dX4_closeWords_57 : decode cX4_closeWords 57 = .ok (.aload_n 0, 1) := dGR_14_c_299.2.2.2.2.2.1
theorem dX4_closeWords_58 : decode cX4_closeWords 58 = .ok (.getfield 40, 3) := dGR_14_c_299.2.2.2.2.2.2.1
theorem dX4_closeWords_61 : decode cX4_closeWords 61 = .ok (.aload_n 0, 1) := dGR_14_c_299.2.2.2.2.2.2.2.1
theorem dX4_closeWords_62 : decode cX4_closeWords 62 = .ok (.getfield 40, 3) := dGR_14_c_299.2.2.2.2.2.2.2.2.1
theorem dX4_closeWords_65 : decode cX4_closeWords 65 = .ok (.getfield 153, 3) := dGR_14_c_299.2.2.2.2.2.2.2.2.2.1
theorem dX4_closeWords_68 : decode cX4_closeWords 68 = .ok (.iload 5, 2) := dGR_14_c_299.2.2.2.2.2.2.2.2.2.2.1
theorem dX4_closeWords_70 : decode cX4_closeWords 70 = .ok (.iaload, 1) := dGR_14_c_299.2.2.2.2.2.2.2.2.2.2.2
set_option maxRecDepth 100000 in
theorem dGR_14_c_300 : (decode cX4_closeWords 71 = .ok (.invokevirtual 90, 3)) ∧ (decode cX4_closeWords 74 = .ok (.ifCond .eq 19, 3)) ∧ (decode cX4_closeWords 77 = .ok (.aload_n 0, 1)) ∧ (decode cX4_closeWords 78 = .ok (.iload 4, 2)) ∧ (decode cX4_closeWords 80 = .ok (.aload_n 0, 1)) ∧ (decode cX4_closeWords 81 = .ok (.getfield 40, 3)) ∧ (decode cX4_closeWords 84 = .ok (.getfield 153, 3)) ∧ (decode cX4_closeWords 87 = .ok (.iload 5, 2)) ∧ (decode cX4_closeWords 89 = .ok (.iaload, 1)) ∧ (decode cX4_closeWords 90 = .ok (.invokevirtual 160, 3)) ∧ (decode cX4_closeWords 93 = .ok (.iinc 5 1, 3)) ∧ (decode cX4_closeWords 96 = .ok (.goto (-51), 3)) := by decide +kernel
theorem dX4_closeWords_71 : decode cX4_closeWords 71 = .ok (.invokevirtual 90, 3) := dGR_14_c_300.1
theorem dX4_closeWords_74 : decode cX4_closeWords 74 = .ok (.ifCond .eq 19, 3) := dGR_14_c_300.2.1
theorem dX4_closeWords_77 : decode cX4_closeWords 77 = .ok (.aload_n 0, 1) := dGR_14_c_300.2.2.1
theorem dX4_closeWords_78 : decode cX4_closeWords 78 = .ok (.iload 4, 2) := dGR_14_c_300.2.2.2.1
theorem dX4_closeWords_80 : decode cX4_closeWords 80 = .ok (.aload_n 0, 1) := dGR_14_c_300.2.2.2.2.1
theorem dX4_closeWords_81 : decode cX4_closeWords 81 = .ok (.getfield 40, 3) := dGR_14_c_300.2.2.2.2.2.1
theorem dX4_closeWords_84 : decode cX4_closeWords 84 = .ok (.getfield 153, 3) := dGR_14_c_300.2.2.2.2.2.2.1
theorem dX4_closeWords_87 : decode cX4_closeWords 87 = .ok (.iload 5, 2) := dGR_14_c_300.2.2.2.2.2.2.2.1
theorem dX4_closeWords_89 : decode cX4_closeWords 89 = .ok (.iaload, 1) := dGR_14_c_300.2.2.2.2.2.2.2.2.1
theorem dX4_closeWords_90 : decode cX4_closeWords 90 = .ok (.invokevirtual 160, 3) := dGR_14_c_300.2.2.2.2.2.2.2.2.2.1
theorem dX4_closeWords_93 : decode cX4_closeWords 93 = .ok (.iinc 5 1, 3) := dGR_14_c_300.2.2.2.2.2.2.2.2.2.2.1
theorem dX4_closeWords_96 : decode cX4_closeWords 96 = .ok (.goto (-51), 3) := dGR_14_c_300.2.2.2.2.2.2.2.2.2.2.2
set_option maxRecDepth 100000 in
theorem dGR_14_c_301 : (decode cX4_closeWords 99 = .ok (.aload_n 0, 1)) ∧ (decode cX4_closeWords 100 = .ok (.iload 4, 2)) ∧ (decode cX4_closeWords 102 = .ok (.invokevirtual 164, 3)) ∧ (decode cX4_closeWords 105 = .ok (.iinc 3 1, 3)) ∧ (decode cX4_closeWords 108 = .ok (.goto (-98), 3)) ∧ (decode cX4_closeWords 111 = .ok (.return_, 1)) := by decide +kernel
theorem dX4_closeWords_99 : decode cX4_closeWords 99 = .ok (.aload_n 0, 1) := dGR_14_c_301.1
theorem dX4_closeWords_100 : decode cX4_closeWords 100 = .ok (.iload 4, 2) := dGR_14_c_301.2.1
theorem dX4_closeWords_102 : decode cX4_closeWords 102 = .ok (.invokevirtual 164, 3) := dGR_14_c_301.2.2.1
theorem dX4_closeWords_105 : decode cX4_closeWords 105 = .ok (.iinc 3 1, 3) := dGR_14_c_301.2.2.2.1
theorem dX4_closeWords_108 : decode cX4_closeWords 108 = .ok (.goto (-98), 3) := dGR_14_c_301.2.2.2.2.1
theorem dX4_closeWords_111 : decode cX4_closeWords 111 = .ok (.return_, 1) := dGR_14_c_301.2.2.2.2.2
abbrev f_c_X4_closeWords : List (Nat × Int) := [(26, 0), (27, -1), (28, -1), (29, -1), (30, -1), (36, 0), (37, -1), (38, -1), (39, -1), (40, -1), (41, 13), (44, -1), (45, -1)]
set_option maxHeartbeats 4000000 in
set_option maxRecDepth 100000 in
theorem c_X4_closeWords (G : KG) (l : Launch) (M : Mem) (c0 : Int) (a1 : Int) (hI_M : Inv false M) (hk_c0 : kd c0 = 41) (hpre : -2147483648 ≤ a1 ∧ a1 ≤ 2147483647) (hX_M : XX M) : KC false G l yX4_closeWords cX4_closeWords 6 none (4, 98) [vR G c0, vI a1] M (fun A => kQv false G A (fun (N : Mem) => Inv false N ∧ Fr f_c_X4_closeWords M N ∧ XX N)) := by
  refine kx_met (lo := [some (vR G c0), some (vI a1), none, none, none, none]) (by decide) (Nat.le_of_ble_eq_true rfl) rfl ?_
  intro X F hQ
  have hF_M : Fr f_c_X4_closeWords M M := Fr.rf _ _
  refine kx_aload_n 1 F 0 dX4_closeWords_0 rfl rfl rfl ?_
  refine kx_getr 4 F fl_X4_36 hk_c0 rfl rfl (j := 10) rfl dX4_closeWords_1 (v := (M c0 10)) rfl rfl ?_
  have hk_1 : kd (M c0 10) = 26 := Inv.r hI_M hk_c0 rfl 10 rfl rfl
  refine kx_geti 7 F fl_X4_150 hk_1 rfl rfl (j := 0) rfl dX4_closeWords_4 (v := (M (M c0 10) 0)) rfl rfl ?_
  have h_2 := Inv.g hI_M hk_1 rfl 0 (a := 0) (b := 576) rfl rfl
  refine kx_istore_n 8 F 2 (lo' := [some (vR G c0), some (vI a1), some (vI (M (M c0 10) 0)), none, none, none]) dX4_closeWords_7 rfl (by decide) rfl rfl rfl ?_
  refine kx_iconst 9 F dX4_closeWords_8 rfl ?_
  refine kx_istore_n 10 F 3 (lo' := [some (vR G c0), some (vI a1), some (vI (M (M c0 10) 0)), some (vI 0), none, none]) dX4_closeWords_9 rfl (by decide) rfl rfl rfl ?_
  have L_999 : ∀ (n_1000 : Nat) (x3_997 : Int) (N_998 : Mem), Inv false N_998 → Fr f_c_X4_closeWords M N_998 → XX N_998 → 0 ≤ x3_997 ∧ x3_997 ≤ 576 → (576 - (x3_997)).toNat = n_1000 → KJ false G X N_998 10 [some (vR G c0), some (vI a1), some (vI (M (M c0 10) 0)), some (vI x3_997), none, none] [] := by
    intro n_1000
    refine Nat.strongRecOn n_1000 ?_
    intro n_1000 ih_1001 x3_997 N_998 hI_N_998 hF_N_998 hX_N_998 h_1002 hm_1003
    refine kx_iload_n 11 F 3 dX4_closeWords_10 rfl rfl rfl ?_
    refine kx_iload_n 12 F 2 dX4_closeWords_11 rfl rfl rfl ?_
    refine kx_icmp_ge 15 F 111 dX4_closeWords_12 (by decide) rfl (by omega) (by omega) (fun h_1004 => ?_) (fun h_1004 => ?_)
    · exact kx_vret F hQ ⟨hI_N_998, hF_N_998, hX_N_998⟩ dX4_closeWords_111
    · refine kx_aload_n 16 F 0 dX4_closeWords_15 rfl rfl rfl ?_
      refine kx_getr 19 F fl_X4_36 hk_c0 rfl rfl (j := 10) rfl dX4_closeWords_16 (v := (M c0 10)) (by rw [Fr.e hF_N_998 hk_c0 _ rfl]) rfl ?_
      refine kx_getr 22 F fl_X4_153 hk_1 rfl rfl (j := 1) rfl dX4_closeWords_19 (v := (M (M c0 10) 1)) (by rw [Fr.e hF_N_998 hk_1 _ rfl]) rfl ?_
      have hk_1005 : kd (M (M c0 10) 1) = 27 := Inv.r hI_M hk_1 rfl 1 rfl rfl
      refine kx_iload_n 23 F 3 dX4_closeWords_22 rfl rfl rfl ?_
      refine kx_iald 24 F hk_1005 rfl rfl (by omega) (by decide) dX4_closeWords_23 (v := (N_998 (M (M c0 10) 1) x3_997)) rfl rfl ?_
      have h_1006 := Inv.g hI_N_998 hk_1005 rfl x3_997 (a := 0) (b := 575) rfl rfl
      refine kx_istore 26 F 4 (lo' := [some (vR G c0), some (vI a1), some (vI (M (M c0 10) 0)), some (vI x3_997), some (vI (N_998 (M (M c0 10) 1) x3_997)), none]) dX4_closeWords_24 (by decide) rfl rfl rfl ?_
      refine kx_aload_n 27 F 0 dX4_closeWords_26 rfl rfl rfl ?_
      refine kx_getr 30 F fl_X4_36 hk_c0 rfl rfl (j := 10) rfl dX4_closeWords_27 (v := (M c0 10)) (by rw [Fr.e hF_N_998 hk_c0 _ rfl]) rfl ?_
      refine kx_iload 32 F 4 dX4_closeWords_30 rfl rfl ?_
      refine kx_iload_n 33 F 1 dX4_closeWords_32 rfl rfl rfl ?_
      refine kx_Vi 36 (ci := 0) F (As := [vI (N_998 (M (M c0 10) 1) x3_997), vI a1]) (st := []) vd_X4_156 (c_X6_closesA G l N_998 (M c0 10) (N_998 (M (M c0 10) 1) x3_997) a1 hI_N_998 hk_1 (by omega) hX_N_998) hk_1 rfl rfl rfl ⟨by decide, by decide⟩ rfl rfl (Nat.le_of_ble_eq_true rfl) dX4_closeWords_33 rfl ?_
      intro r_1007 N_1008 q_1009
      obtain ⟨hI_N_1008, hG_N_1008, q_1009c, hX_N_1008⟩ := q_1009
      have hF_N_1008 : Fr f_c_X4_closeWords M N_1008 := Fr.c hF_N_998 hG_N_1008 rfl
      have J_1145 : ∀ (N_1144 : Mem), Inv false N_1144 → Fr f_c_X4_closeWords M N_1144 → XX N_1144 → KJ false G X N_1144 105 [some (vR G c0), some (vI a1), some (vI (M (M c0 10) 0)), some (vI x3_997), none, none] [] := by
        intro N_1144 hI_N_1144 hF_N_1144 hX_N_1144
        refine kx_iinc 108 F 3 (v := x3_997 + 1) (lo' := [some (vR G c0), some (vI a1), some (vI (M (M c0 10) 0)), some (vI (x3_997 + 1)), none, none]) dX4_closeWords_105 rfl (by omega) (by decide) rfl rfl rfl ?_
        refine kx_goto 10 F dX4_closeWords_108 (by decide) ?_
        exact ih_1001 _ (by omega) (x3_997 + 1) N_1144 hI_N_1144 hF_N_1144 hX_N_1144 (by omega) rfl
      refine kx_if_ne 39 F 42 dX4_closeWords_36 (by decide) rfl (by omega) (fun h_1147 => ?_) (fun h_1147 => ?_)
      · refine kx_iconst 43 F dX4_closeWords_42 rfl ?_
        refine kx_istore 45 F 5 (lo' := [some (vR G c0), some (vI a1), some (vI (M (M c0 10) 0)), some (vI x3_997), some (vI (N_998 (M (M c0 10) 1) x3_997)), some (vI 0)]) dX4_closeWords_43 (by decide) rfl rfl rfl ?_
        have L_1262 : ∀ (n_1263 : Nat) (x5_1260 : Int) (N_1261 : Mem), Inv false N_1261 → Fr f_c_X4_closeWords M N_1261 → XX N_1261 → 0 ≤ x5_1260 ∧ x5_1260 ≤ 576 → (576 - (x5_1260)).toNat = n_1263 → KJ false G X N_1261 45 [some (vR G c0), some (vI a1), some (vI (M (M c0 10) 0)), some (vI x3_997), some (vI (N_998 (M (M c0 10) 1) x3_997)), some (vI x5_1260)] [] := by
          intro n_1263
          refine Nat.strongRecOn n_1263 ?_
          intro n_1263 ih_1264 x5_1260 N_1261 hI_N_1261 hF_N_1261 hX_N_1261 h_1265 hm_1266
          refine kx_iload 47 F 5 dX4_closeWords_45 rfl rfl ?_
          refine kx_aload_n 48 F 0 dX4_closeWords_47 rfl rfl rfl ?_
          refine kx_getr 51 F fl_X4_40 hk_c0 rfl rfl (j := 11) rfl dX4_closeWords_48 (v := (M c0 11)) (by rw [Fr.e hF_N_1261 hk_c0 _ rfl]) rfl ?_
          have hk_1267 : kd (M c0 11) = 36 := Inv.r hI_M hk_c0 rfl 11 rfl rfl
          refine kx_geti 54 F fl_X4_150 hk_1267 rfl rfl (j := 0) rfl dX4_closeWords_51 (v := (N_1261 (M c0 11) 0)) rfl rfl ?_
          have h_1268 := Inv.g hI_N_1261 hk_1267 rfl 0 (a := 0) (b := 576) rfl rfl
          refine kx_icmp_ge 57 F 99 dX4_closeWords_54 (by decide) rfl (by omega) (by omega) (fun h_1269 => ?_) (fun h_1269 => ?_)
          · refine kx_aload_n 100 F 0 dX4_closeWords_99 rfl rfl rfl ?_
            refine kx_iload 102 F 4 dX4_closeWords_100 rfl rfl ?_
            refine kx_Vv 105 (ci := 0) F (As := [vI (N_998 (M (M c0 10) 1) x3_997)]) (st := []) vd_X4_164 (c_X4_wrap G l N_1261 c0 (N_998 (M (M c0 10) 1) x3_997) hI_N_1261 hk_c0 (by omega) hX_N_1261) hk_c0 rfl rfl rfl ⟨by decide, by decide⟩ rfl rfl (Nat.le_of_ble_eq_true rfl) dX4_closeWords_102 rfl ?_
            intro N_1270 q_1271
            obtain ⟨hI_N_1270, hG_N_1270, hX_N_1270⟩ := q_1271
            have hF_N_1270 : Fr f_c_X4_closeWords M N_1270 := Fr.c hF_N_1261 hG_N_1270 rfl
            refine kx_drop 4 (lo' := [some (vR G c0), some (vI a1), some (vI (M (M c0 10) 0)), some (vI x3_997), none, some (vI x5_1260)]) rfl ?_
            refine kx_drop 5 (lo' := [some (vR G c0), some (vI a1), some (vI (M (M c0 10) 0)), some (vI x3_997), none, none]) rfl ?_
            exact J_1145 N_1270 hI_N_1270 hF_N_1270 hX_N_1270
          · refine kx_aload_n 58 F 0 dX4_closeWords_57 rfl rfl rfl ?_
            refine kx_getr 61 F fl_X4_40 hk_c0 rfl rfl (j := 11) rfl dX4_closeWords_58 (v := (M c0 11)) (by rw [Fr.e hF_N_1261 hk_c0 _ rfl]) rfl ?_
            refine kx_aload_n 62 F 0 dX4_closeWords_61 rfl rfl rfl ?_
            refine kx_getr 65 F fl_X4_40 hk_c0 rfl rfl (j := 11) rfl dX4_closeWords_62 (v := (M c0 11)) (by rw [Fr.e hF_N_1261 hk_c0 _ rfl]) rfl ?_
            refine kx_getr 68 F fl_X4_153 hk_1267 rfl rfl (j := 1) rfl dX4_closeWords_65 (v := (M (M c0 11) 1)) (by rw [Fr.e hF_N_1261 hk_1267 _ rfl]) rfl ?_
            have hk_1272 : kd (M (M c0 11) 1) = 37 := Inv.r hI_M hk_1267 rfl 1 rfl rfl
            refine kx_iload 70 F 5 dX4_closeWords_68 rfl rfl ?_
            refine kx_iald 71 F hk_1272 rfl rfl (by omega) (by decide) dX4_closeWords_70 (v := (N_1261 (M (M c0 11) 1) x5_1260)) rfl rfl ?_
            have h_1273 := Inv.g hI_N_1261 hk_1272 rfl x5_1260 (a := 0) (b := 575) rfl rfl
            refine kx_Vi 74 (ci := 0) F (As := [vI (N_1261 (M (M c0 11) 1) x5_1260)]) (st := []) vd_X4_90 (c_X6_isClosedC G l N_1261 (M c0 11) (N_1261 (M (M c0 11) 1) x5_1260) hI_N_1261 hk_1267 (by omega)) hk_1267 rfl rfl rfl ⟨by decide, by decide⟩ rfl rfl (Nat.le_of_ble_eq_true rfl) dX4_closeWords_71 rfl ?_
            intro r_1274 N_1275 q_1276
            obtain ⟨rfl, q_1276c⟩ := q_1276
            rcases q_1276c with q_1276c | q_1276c
            · have J_1281 : ∀ (N_1280 : Mem), Inv false N_1280 → Fr f_c_X4_closeWords M N_1280 → XX N_1280 → KJ false G X N_1280 93 [some (vR G c0), some (vI a1), some (vI (M (M c0 10) 0)), some (vI x3_997), some (vI (N_998 (M (M c0 10) 1) x3_997)), some (vI x5_1260)] [] := by
                intro N_1280 hI_N_1280 hF_N_1280 hX_N_1280
                refine kx_iinc 96 F 5 (v := x5_1260 + 1) (lo' := [some (vR G c0), some (vI a1), some (vI (M (M c0 10) 0)), some (vI x3_997), some (vI (N_998 (M (M c0 10) 1) x3_997)), some (vI (x5_1260 + 1))]) dX4_closeWords_93 rfl (by omega) (by decide) rfl rfl rfl ?_
                refine kx_goto 45 F dX4_closeWords_96 (by decide) ?_
                exact ih_1264 _ (by omega) (x5_1260 + 1) N_1280 hI_N_1280 hF_N_1280 hX_N_1280 (by omega) rfl
              refine kx_if_eq 77 F 93 dX4_closeWords_74 (by decide) rfl (by omega) (fun h_1283 => (by exfalso; omega)) (fun h_1283 => ?_)
              refine kx_aload_n 78 F 0 dX4_closeWords_77 rfl rfl rfl ?_
              refine kx_iload 80 F 4 dX4_closeWords_78 rfl rfl ?_
              refine kx_aload_n 81 F 0 dX4_closeWords_80 rfl rfl rfl ?_
              refine kx_getr 84 F fl_X4_40 hk_c0 rfl rfl (j := 11) rfl dX4_closeWords_81 (v := (M c0 11)) (by rw [Fr.e hF_N_1261 hk_c0 _ rfl]) rfl ?_
              refine kx_getr 87 F fl_X4_153 hk_1267 rfl rfl (j := 1) rfl dX4_closeWords_84 (v := (M (M c0 11) 1)) (by rw [Fr.e hF_N_1261 hk_1267 _ rfl]) rfl ?_
              refine kx_iload 89 F 5 dX4_closeWords_87 rfl rfl ?_
              refine kx_iald 90 F hk_1272 rfl rfl (by omega) (by decide) dX4_closeWords_89 (v := (N_1261 (M (M c0 11) 1) x5_1260)) rfl rfl ?_
              refine kx_Vv 93 (ci := 0) F (As := [vI (N_998 (M (M c0 10) 1) x3_997), vI (N_1261 (M (M c0 11) 1) x5_1260)]) (st := []) vd_X4_160 (c_X4_join G l N_1261 c0 (N_998 (M (M c0 10) 1) x3_997) (N_1261 (M (M c0 11) 1) x5_1260) hI_N_1261 hk_c0 (by omega) hX_N_1261) hk_c0 rfl rfl rfl ⟨by decide, by decide⟩ rfl rfl (Nat.le_of_ble_eq_true rfl) dX4_closeWords_90 rfl ?_
              intro N_1284 q_1285
              obtain ⟨hI_N_1284, hG_N_1284, hX_N_1284⟩ := q_1285
              have hF_N_1284 : Fr f_c_X4_closeWords M N_1284 := Fr.c hF_N_1261 hG_N_1284 rfl
              exact J_1281 N_1284 hI_N_1284 hF_N_1284 hX_N_1284
            · have J_1288 : ∀ (N_1287 : Mem), Inv false N_1287 → Fr f_c_X4_closeWords M N_1287 → XX N_1287 → KJ false G X N_1287 93 [some (vR G c0), some (vI a1), some (vI (M (M c0 10) 0)), some (vI x3_997), some (vI (N_998 (M (M c0 10) 1) x3_997)), some (vI x5_1260)] [] := by
                intro N_1287 hI_N_1287 hF_N_1287 hX_N_1287
                refine kx_iinc 96 F 5 (v := x5_1260 + 1) (lo' := [some (vR G c0), some (vI a1), some (vI (M (M c0 10) 0)), some (vI x3_997), some (vI (N_998 (M (M c0 10) 1) x3_997)), some (vI (x5_1260 + 1))]) dX4_closeWords_93 rfl (by omega) (by decide) rfl rfl rfl ?_
                refine kx_goto 45 F dX4_closeWords_96 (by decide) ?_
                exact ih_1264 _ (by omega) (x5_1260 + 1) N_1287 hI_N_1287 hF_N_1287 hX_N_1287 (by omega) rfl
              refine kx_if_eq 77 F 93 dX4_closeWords_74 (by decide) rfl (by omega) (fun h_1290 => ?_) (fun h_1290 => (by exfalso; omega))
              exact J_1288 N_1261 hI_N_1261 hF_N_1261 hX_N_1261
        exact L_1262 _ 0 N_1008 hI_N_1008 hF_N_1008 hX_N_1008 (by omega) rfl
      · refine kx_goto 105 F dX4_closeWords_39 (by decide) ?_
        refine kx_drop 4 (lo' := [some (vR G c0), some (vI a1), some (vI (M (M c0 10) 0)), some (vI x3_997), none, none]) rfl ?_
        exact J_1145 N_1008 hI_N_1008 hF_N_1008 hX_N_1008
  exact L_999 _ 0 M hI_M hF_M hX_M (by omega) rfl
set_option maxRecDepth 100000 in
theorem dGR_14_c_302 : (decode cX4_findWords 0 = .ok (.aload_n 0, 1)) ∧ (decode cX4_findWords 1 = .ok (.aload_n 0, 1)) ∧ (decode cX4_findWords 2 = .ok (.getfield 36, 3)) ∧ (decode cX4_findWords 5 = .ok (.aload_n 0, 1)) ∧ (decode cX4_findWords 6 = .ok (.getfield 25, 3)) ∧ (decode cX4_findWords 9 = .ok (.getfield 126, 3)) ∧ (decode cX4_findWords 12 = .ok (.invokestatic 129, 3)) ∧ (decode cX4_findWords 15 = .ok (.aload_n 0, 1)) ∧ (decode cX4_findWords 16 = .ok (.getfield 28, 3)) ∧ (decode cX4_findWords 19 = .ok (.getfield 126, 3)) ∧ (decode cX4_findWords 22 = .ok (.invokestatic 129, 3)) ∧ (decode cX4_findWords 25 = .ok (.iconst 0, 1)) := by decide +kernel
theorem dX4_findWords_0 : decode cX4_findWords 0 = .ok (.aload_n 0, 1) := dGR_14_c_302.1
theorem dX4_findWords_1 : decode cX4_findWords 1 = .ok (.aload_n 0, 1) := dGR_14_c_302.2.1
theorem dX4_findWords_2 : decode cX4_findWords 2 = .ok (.getfield 36, 3) := dGR_14_c_302.2.2.1
theorem dX4_findWords_5 : decode cX4_findWords 5 = .ok (.aload_n 0, 1) := dGR_14_c_302.2.2.2.1
theorem dX4_findWords_6 : decode cX4_findWords 6 = .ok (.getfield 25, 3) := dGR_14_c_302.2.2.2.2.1
theorem dX4_findWords_9 : decode cX4_findWords 9 = .ok (.getfield 126, 3) := dGR_14_c_302.2.2.2.2.2.1
theorem dX4_findWords_12 : decode cX4_findWords 12 = .ok (.invokestatic 129, 3) := dGR_14_c_302.2.2.2.2.2.2.1
theorem dX4_findWords_15 : decode cX4_findWords 15 = .ok (.aload_n 0, 1) := dGR_14_c_302.2.2.2.2.2.2.2.1
theorem dX4_findWords_16 : decode cX4_findWords 16 = .ok (.getfield 28, 3) := dGR_14_c_302.2.2.2.2.2.2.2.2.1
theorem dX4_findWords_19 : decode cX4_findWords 19 = .ok (.getfield 126, 3) := dGR_14_c_302.2.2.2.2.2.2.2.2.2.1
theorem dX4_findWords_22 : decode cX4_findWords 22 = .ok (.invokestatic 129, 3) := dGR_14_c_302.2.2.2.2.2.2.2.2.2.2.1
theorem dX4_findWords_25 : decode cX4_findWords 25 = .ok (.iconst 0, 1) := dGR_14_c_302.2.2.2.2.2.2.2.2.2.2.2
set_option maxRecDepth 100000 in
theorem dGR_14_c_303 : (decode cX4_findWords 26 = .ok (.iconst 0, 1)) ∧ (decode cX4_findWords 27 = .ok (.invokevirtual 133, 3)) ∧ (decode cX4_findWords 30 = .ok (.aload_n 0, 1)) ∧ (decode cX4_findWords 31 = .ok (.getfield 104, 3)) ∧ (decode cX4_findWords 34 = .ok (.istore_n 1, 1)) ∧ (decode cX4_findWords 35 = .ok (.iload_n 1, 1)) ∧ (decode cX4_findWords 36 = .ok (.aload_n 0, 1)) ∧ (decode cX4_findWords 37 = .ok (.getfield 108, 3)) ∧ (decode cX4_findWords 40 = .ok (.if_icmp .ge 37, 3)) ∧ (decode cX4_findWords 43 = .ok (.aload_n 0, 1)) ∧ (decode cX4_findWords 44 = .ok (.aload_n 0, 1)) ∧ (decode cX4_findWords 45 = .ok (.getfield 40, 3)) := by decide +kernel
theorem dX4_findWords_26 : decode cX4_findWords 26 = .ok (.iconst 0, 1) := dGR_14_c_303.1
theorem dX4_findWords_27 : decode cX4_findWords 27 = .ok (.invokevirtual 133, 3) := dGR_14_c_303.2.1
theorem dX4_findWords_30 : decode cX4_findWords 30 = .ok (.aload_n 0, 1) := dGR_14_c_303.2.2.1
theorem dX4_findWords_31 : decode cX4_findWords 31 = .ok (.getfield 104, 3) := dGR_14_c_303.2.2.2.1
theorem dX4_findWords_34 : decode cX4_findWords 34 = .ok (.istore_n 1, 1) := dGR_14_c_303.2.2.2.2.1
theorem dX4_findWords_35 : decode cX4_findWords 35 = .ok (.iload_n 1, 1) := dGR_14_c_303.2.2.2.2.2.1
theorem dX4_findWords_36 : decode cX4_findWords 36 = .ok (.aload_n 0, 1) := dGR_14_c_303.2.2.2.2.2.2.1
theorem dX4_findWords_37 : decode cX4_findWords 37 = .ok (.getfield 108, 3) := dGR_14_c_303.2.2.2.2.2.2.2.1
theorem dX4_findWords_40 : decode cX4_findWords 40 = .ok (.if_icmp .ge 37, 3) := dGR_14_c_303.2.2.2.2.2.2.2.2.1
theorem dX4_findWords_43 : decode cX4_findWords 43 = .ok (.aload_n 0, 1) := dGR_14_c_303.2.2.2.2.2.2.2.2.2.1
theorem dX4_findWords_44 : decode cX4_findWords 44 = .ok (.aload_n 0, 1) := dGR_14_c_303.2.2.2.2.2.2.2.2.2.2.1
theorem dX4_findWords_45 : decode cX4_findWords 45 = .ok (.getfield 40, 3) := dGR_14_c_303.2.2.2.2.2.2.2.2.2.2.2
set_option maxRecDepth 100000 in
theorem dGR_14_c_304 : (decode cX4_findWords 48 = .ok (.aload_n 0, 1)) ∧ (decode cX4_findWords 49 = .ok (.getfield 25, 3)) ∧ (decode cX4_findWords 52 = .ok (.getfield 137, 3)) ∧ (decode cX4_findWords 55 = .ok (.iload_n 1, 1)) ∧ (decode cX4_findWords 56 = .ok (.iaload, 1)) ∧ (decode cX4_findWords 57 = .ok (.aload_n 0, 1)) ∧ (decode cX4_findWords 58 = .ok (.getfield 28, 3)) ∧ (decode cX4_findWords 61 = .ok (.getfield 137, 3)) ∧ (decode cX4_findWords 64 = .ok (.iload_n 1, 1)) ∧ (decode cX4_findWords 65 = .ok (.iaload, 1)) ∧ (decode cX4_findWords 66 = .ok (.iconst 1, 1)) ∧ (decode cX4_findWords 67 = .ok (.iload_n 1, 1)) := by decide +kernel
theorem dX4_findWords_48 : decode cX4_findWords 48 = .ok (.aload_n 0, 1) := dGR_14_c_304.1
theorem dX4_findWords_49 : decode cX4_findWords 49 = .ok (.getfield 25, 3) := dGR_14_c_304.2.1
theorem dX4_findWords_52 : decode cX4_findWords 52 = .ok (.getfield 137, 3) := dGR_14_c_304.2.2.1
theorem dX4_findWords_55 : decode cX4_findWords 55 = .ok (.iload_n 1, 1) := dGR_14_c_304.2.2.2.1
theorem dX4_findWords_56 : decode cX4_findWords 56 = .ok (.iaload, 1) := dGR_14_c_304.2.2.2.2.1
theorem dX4_findWords_57 : decode cX4_findWords 57 = .ok (.aload_n 0, 1) := dGR_14_c_304.2.2.2.2.2.1
theorem dX4_findWords_58 : decode cX4_findWords 58 = .ok (.getfield 28, 3) := dGR_14_c_304.2.2.2.2.2.2.1
theorem dX4_findWords_61 : decode cX4_findWords 61 = .ok (.getfield 137, 3) := dGR_14_c_304.2.2.2.2.2.2.2.1
theorem dX4_findWords_64 : decode cX4_findWords 64 = .ok (.iload_n 1, 1) := dGR_14_c_304.2.2.2.2.2.2.2.2.1
theorem dX4_findWords_65 : decode cX4_findWords 65 = .ok (.iaload, 1) := dGR_14_c_304.2.2.2.2.2.2.2.2.2.1
theorem dX4_findWords_66 : decode cX4_findWords 66 = .ok (.iconst 1, 1) := dGR_14_c_304.2.2.2.2.2.2.2.2.2.2.1
theorem dX4_findWords_67 : decode cX4_findWords 67 = .ok (.iload_n 1, 1) := dGR_14_c_304.2.2.2.2.2.2.2.2.2.2.2
set_option maxRecDepth 100000 in
theorem dGR_14_c_305 : (decode cX4_findWords 68 = .ok (.invokevirtual 133, 3)) ∧ (decode cX4_findWords 71 = .ok (.iinc 1 1, 3)) ∧ (decode cX4_findWords 74 = .ok (.goto (-39), 3)) ∧ (decode cX4_findWords 77 = .ok (.iconst 0, 1)) ∧ (decode cX4_findWords 78 = .ok (.istore_n 1, 1)) ∧ (decode cX4_findWords 79 = .ok (.iload_n 1, 1)) ∧ (decode cX4_findWords 80 = .ok (.sipush 1152, 3)) ∧ (decode cX4_findWords 83 = .ok (.if_icmp .ge 60, 3)) ∧ (decode cX4_findWords 86 = .ok (.aload_n 0, 1)) ∧ (decode cX4_findWords 87 = .ok (.getfield 36, 3)) ∧ (decode cX4_findWords 90 = .ok (.invokevirtual 140, 3)) ∧ (decode cX4_findWords 93 = .ok (.istore_n 2, 1)) := by decide +kernel
theorem dX4_findWords_68 : decode cX4_findWords 68 = .ok (.invokevirtual 133, 3) := dGR_14_c_305.1
theorem dX4_findWords_71 : decode cX4_findWords 71 = .ok (.iinc 1 1, 3) := dGR_14_c_305.2.1
theorem dX4_findWords_74 : decode cX4_findWords 74 = .ok (.goto (-39), 3) := dGR_14_c_305.2.2.1
theorem dX4_findWords_77 : decode cX4_findWords 77 = .ok (.iconst 0, 1) := dGR_14_c_305.2.2.2.1
theorem dX4_findWords_78 : decode cX4_findWords 78 = .ok (.istore_n 1, 1) := dGR_14_c_305.2.2.2.2.1
theorem dX4_findWords_79 : decode cX4_findWords 79 = .ok (.iload_n 1, 1) := dGR_14_c_305.2.2.2.2.2.1
theorem dX4_findWords_80 : decode cX4_findWords 80 = .ok (.sipush 1152, 3) := dGR_14_c_305.2.2.2.2.2.2.1
theorem dX4_findWords_83 : decode cX4_findWords 83 = .ok (.if_icmp .ge 60, 3) := dGR_14_c_305.2.2.2.2.2.2.2.1
theorem dX4_findWords_86 : decode cX4_findWords 86 = .ok (.aload_n 0, 1) := dGR_14_c_305.2.2.2.2.2.2.2.2.1
theorem dX4_findWords_87 : decode cX4_findWords 87 = .ok (.getfield 36, 3) := dGR_14_c_305.2.2.2.2.2.2.2.2.2.1
theorem dX4_findWords_90 : decode cX4_findWords 90 = .ok (.invokevirtual 140, 3) := dGR_14_c_305.2.2.2.2.2.2.2.2.2.2.1
theorem dX4_findWords_93 : decode cX4_findWords 93 = .ok (.istore_n 2, 1) := dGR_14_c_305.2.2.2.2.2.2.2.2.2.2.2
set_option maxRecDepth 100000 in
theorem dGR_14_c_306 : (decode cX4_findWords 94 = .ok (.aload_n 0, 1)) ∧ (decode cX4_findWords 95 = .ok (.getfield 40, 3)) ∧ (decode cX4_findWords 98 = .ok (.invokevirtual 140, 3)) ∧ (decode cX4_findWords 101 = .ok (.istore_n 3, 1)) ∧ (decode cX4_findWords 102 = .ok (.iload_n 2, 1)) ∧ (decode cX4_findWords 103 = .ok (.iconst (-1), 1)) ∧ (decode cX4_findWords 104 = .ok (.if_icmp .eq 13, 3)) ∧ (decode cX4_findWords 107 = .ok (.iload_n 3, 1)) ∧ (decode cX4_findWords 108 = .ok (.iconst (-1), 1)) ∧ (decode cX4_findWords 109 = .ok (.if_icmp .eq 10, 3)) ∧ (decode cX4_findWords 112 = .ok (.iload_n 3, 1)) ∧ (decode cX4_findWords 113 = .ok (.iload_n 2, 1)) := by decide +kernel
theorem dX4_findWords_94 : decode cX4_findWords 94 = .ok (.aload_n 0, 1) := dGR_14_c_306.1
theorem dX4_findWords_95 : decode cX4_findWords 95 = .ok (.getfield 40, 3) := dGR_14_c_306.2.1
theorem dX4_findWords_98 : decode cX4_findWords 98 = .ok (.invokevirtual 140, 3) := dGR_14_c_306.2.2.1
theorem dX4_findWords_101 : decode cX4_findWords 101 = .ok (.istore_n 3, 1) := dGR_14_c_306.2.2.2.1
theorem dX4_findWords_102 : decode cX4_findWords 102 = .ok (.iload_n 2, 1) := dGR_14_c_306.2.2.2.2.1
theorem dX4_findWords_103 : decode cX4_findWords 103 = .ok (.iconst (-1), 1) := dGR_14_c_306.2.2.2.2.2.1
theorem dX4_findWords_104 : decode cX4_findWords 104 = .ok (.if_icmp .eq 13, 3) := dGR_14_c_306.2.2.2.2.2.2.1
theorem dX4_findWords_107 : decode cX4_findWords 107 = .ok (.iload_n 3, 1) := dGR_14_c_306.2.2.2.2.2.2.2.1
theorem dX4_findWords_108 : decode cX4_findWords 108 = .ok (.iconst (-1), 1) := dGR_14_c_306.2.2.2.2.2.2.2.2.1
theorem dX4_findWords_109 : decode cX4_findWords 109 = .ok (.if_icmp .eq 10, 3) := dGR_14_c_306.2.2.2.2.2.2.2.2.2.1
theorem dX4_findWords_112 : decode cX4_findWords 112 = .ok (.iload_n 3, 1) := dGR_14_c_306.2.2.2.2.2.2.2.2.2.2.1
theorem dX4_findWords_113 : decode cX4_findWords 113 = .ok (.iload_n 2, 1) := dGR_14_c_306.2.2.2.2.2.2.2.2.2.2.2
set_option maxRecDepth 100000 in
theorem dGR_14_c_307 : (decode cX4_findWords 114 = .ok (.if_icmp .ge 5, 3)) ∧ (decode cX4_findWords 117 = .ok (.iload_n 3, 1)) ∧ (decode cX4_findWords 118 = .ok (.istore_n 2, 1)) ∧ (decode cX4_findWords 119 = .ok (.iload_n 2, 1)) ∧ (decode cX4_findWords 120 = .ok (.iconst (-1), 1)) ∧ (decode cX4_findWords 121 = .ok (.if_icmp .ne 6, 3)) ∧ (decode cX4_findWords 124 = .ok (.goto 19, 3)) ∧ (decode cX4_findWords 127 = .ok (.aload_n 0, 1)) ∧ (decode cX4_findWords 128 = .ok (.iload_n 2, 1)) ∧ (decode cX4_findWords 129 = .ok (.invokevirtual 144, 3)) ∧ (decode cX4_findWords 132 = .ok (.aload_n 0, 1)) ∧ (decode cX4_findWords 133 = .ok (.iload_n 2, 1)) := by decide +kernel
theorem dX4_findWords_114 : decode cX4_findWords 114 = .ok (.if_icmp .ge 5, 3) := dGR_14_c_307.1
theorem dX4_findWords_117 : decode cX4_findWords 117 = .ok (.iload_n 3, 1) := dGR_14_c_307.2.1
theorem dX4_findWords_118 : decode cX4_findWords 118 = .ok (.istore_n 2, 1) := dGR_14_c_307.2.2.1
theorem dX4_findWords_119 : decode cX4_findWords 119 = .ok (.iload_n 2, 1) := dGR_14_c_307.2.2.2.1
theorem dX4_findWords_120 : decode cX4_findWords 120 = .ok (.iconst (-1), 1) := dGR_14_c_307.2.2.2.2.1
theorem dX4_findWords_121 : decode cX4_findWords 121 = .ok (.if_icmp .ne 6, 3) := dGR_14_c_307.2.2.2.2.2.1
theorem dX4_findWords_124 : decode cX4_findWords 124 = .ok (.goto 19, 3) := dGR_14_c_307.2.2.2.2.2.2.1
theorem dX4_findWords_127 : decode cX4_findWords 127 = .ok (.aload_n 0, 1) := dGR_14_c_307.2.2.2.2.2.2.2.1
theorem dX4_findWords_128 : decode cX4_findWords 128 = .ok (.iload_n 2, 1) := dGR_14_c_307.2.2.2.2.2.2.2.2.1
theorem dX4_findWords_129 : decode cX4_findWords 129 = .ok (.invokevirtual 144, 3) := dGR_14_c_307.2.2.2.2.2.2.2.2.2.1
theorem dX4_findWords_132 : decode cX4_findWords 132 = .ok (.aload_n 0, 1) := dGR_14_c_307.2.2.2.2.2.2.2.2.2.2.1
theorem dX4_findWords_133 : decode cX4_findWords 133 = .ok (.iload_n 2, 1) := dGR_14_c_307.2.2.2.2.2.2.2.2.2.2.2
set_option maxRecDepth 100000 in
theorem dGR_14_c_308 : (decode cX4_findWords 134 = .ok (.invokevirtual 147, 3)) ∧ (decode cX4_findWords 137 = .ok (.iinc 1 1, 3)) ∧ (decode cX4_findWords 140 = .ok (.goto (-61), 3)) ∧ (decode cX4_findWords 143 = .ok (.return_, 1)) := by decide +kernel
theorem dX4_findWords_134 : decode cX4_findWords 134 = .ok (.invokevirtual 147, 3) := dGR_14_c_308.1
theorem dX4_findWords_137 : decode cX4_findWords 137 = .ok (.iinc 1 1, 3) := dGR_14_c_308.2.1
theorem dX4_findWords_140 : decode cX4_findWords 140 = .ok (.goto (-61), 3) := dGR_14_c_308.2.2.1
theorem dX4_findWords_143 : decode cX4_findWords 143 = .ok (.return_, 1) := dGR_14_c_308.2.2.2
abbrev f_c_X4_findWords : List (Nat × Int) := [(26, 0), (27, -1), (28, -1), (29, -1), (30, -1), (36, 0), (37, -1), (38, -1), (39, -1), (40, -1), (41, 13), (44, -1), (45, -1)]
set_option maxHeartbeats 4000000 in
set_option maxRecDepth 100000 in
theorem c_X4_findWords (G : KG) (l : Launch) (M : Mem) (c0 : Int) (hI_M : Inv false M) (hk_c0 : kd c0 = 41) (hX_M : XX M) : KC false G l yX4_findWords cX4_findWords 4 none (5, 123) [vR G c0] M (fun A => kQv false G A (fun (N : Mem) => Inv false N ∧ Fr f_c_X4_findWords M N ∧ XX N)) := by
  refine kx_met (lo := [some (vR G c0), none, none, none]) (by decide) (Nat.le_of_ble_eq_true rfl) rfl ?_
  intro X F hQ
  have hF_M : Fr f_c_X4_findWords M M := Fr.rf _ _
  refine kx_aload_n 1 F 0 dX4_findWords_0 rfl rfl rfl ?_
  refine kx_aload_n 2 F 0 dX4_findWords_1 rfl rfl rfl ?_
  refine kx_getr 5 F fl_X4_36 hk_c0 rfl rfl (j := 10) rfl dX4_findWords_2 (v := (M c0 10)) rfl rfl ?_
  have hk_1 : kd (M c0 10) = 26 := Inv.r hI_M hk_c0 rfl 10 rfl rfl
  refine kx_aload_n 6 F 0 dX4_findWords_5 rfl rfl rfl ?_
  refine kx_getr 9 F fl_X4_25 hk_c0 rfl rfl (j := 7) rfl dX4_findWords_6 (v := (M c0 7)) rfl rfl ?_
  have hk_2 : kd (M c0 7) = 1 := Inv.r hI_M hk_c0 rfl 7 rfl rfl
  refine kx_geti 12 F fl_X4_126 hk_2 rfl rfl (j := 0) rfl dX4_findWords_9 (v := (M (M c0 7) 0)) rfl rfl ?_
  have h_3 := Inv.g hI_M hk_2 rfl 0 (a := 0) (b := 3) rfl rfl
  refine kx_Si 15 F (As := [vI (M (M c0 7) 0)]) (st := [vR G (M c0 10), vR G c0]) sd_X4_129 (c_X2_identity G l M (M (M c0 7) 0) hI_M (by omega)) ⟨by decide, by decide⟩ rfl rfl (Nat.le_of_ble_eq_true rfl) dX4_findWords_12 rfl ?_
  intro r_4 N_5 q_6
  obtain ⟨rfl, q_6c⟩ := q_6
  refine kx_aload_n 16 F 0 dX4_findWords_15 rfl rfl rfl ?_
  refine kx_getr 19 F fl_X4_28 hk_c0 rfl rfl (j := 8) rfl dX4_findWords_16 (v := (M c0 8)) rfl rfl ?_
  have hk_7 : kd (M c0 8) = 1 := Inv.r hI_M hk_c0 rfl 8 rfl rfl
  refine kx_geti 22 F fl_X4_126 hk_7 rfl rfl (j := 0) rfl dX4_findWords_19 (v := (M (M c0 8) 0)) rfl rfl ?_
  have h_8 := Inv.g hI_M hk_7 rfl 0 (a := 0) (b := 3) rfl rfl
  refine kx_Si 25 F (As := [vI (M (M c0 8) 0)]) (st := [vI r_4, vR G (M c0 10), vR G c0]) sd_X4_129 (c_X2_identity G l M (M (M c0 8) 0) hI_M (by omega)) ⟨by decide, by decide⟩ rfl rfl (Nat.le_of_ble_eq_true rfl) dX4_findWords_22 rfl ?_
  intro r_9 N_10 q_11
  obtain ⟨rfl, q_11c⟩ := q_11
  refine kx_iconst 26 F dX4_findWords_25 rfl ?_
  refine kx_iconst 27 F dX4_findWords_26 rfl ?_
  refine kx_Vv 30 (ci := 0) F (As := [vR G (M c0 10), vI r_4, vI r_9, vI 0, vI 0]) (st := []) vd_X4_133 (c_X4_offerAllA G l M c0 (M c0 10) r_4 r_9 0 0 hI_M hk_c0 hk_1 (by omega) hX_M) hk_c0 rfl rfl rfl ⟨by decide, by decide⟩ rfl rfl (Nat.le_of_ble_eq_true rfl) dX4_findWords_27 rfl ?_
  intro N_12 q_13
  obtain ⟨hI_N_12, hG_N_12, hX_N_12⟩ := q_13
  have hF_N_12 : Fr f_c_X4_findWords M N_12 := Fr.c hF_M hG_N_12 rfl
  refine kx_aload_n 31 F 0 dX4_findWords_30 rfl rfl rfl ?_
  refine kx_geti 34 F fl_X4_104 hk_c0 rfl rfl (j := 4) rfl dX4_findWords_31 (v := (M c0 4)) (by rw [Fr.e hG_N_12 hk_c0 _ rfl]) rfl ?_
  have h_14 := Inv.g hI_M hk_c0 rfl 4 (a := 0) (b := 4) rfl rfl
  refine kx_istore_n 35 F 1 (lo' := [some (vR G c0), some (vI (M c0 4)), none, none]) dX4_findWords_34 rfl (by decide) rfl rfl rfl ?_
  have L_857 : ∀ (n_858 : Nat) (x1_855 : Int) (N_856 : Mem), Inv false N_856 → Fr f_c_X4_findWords M N_856 → XX N_856 → 0 ≤ x1_855 ∧ x1_855 ≤ 6 ∧ (M c0 4) ≤ x1_855 → (6 - (x1_855)).toNat = n_858 → KJ false G X N_856 35 [some (vR G c0), some (vI x1_855), none, none] [] := by
    intro n_858
    refine Nat.strongRecOn n_858 ?_
    intro n_858 ih_859 x1_855 N_856 hI_N_856 hF_N_856 hX_N_856 h_860 hm_861
    refine kx_iload_n 36 F 1 dX4_findWords_35 rfl rfl rfl ?_
    refine kx_aload_n 37 F 0 dX4_findWords_36 rfl rfl rfl ?_
    refine kx_geti 40 F fl_X4_108 hk_c0 rfl rfl (j := 5) rfl dX4_findWords_37 (v := (M c0 5)) (by rw [Fr.e hF_N_856 hk_c0 _ rfl]) rfl ?_
    have h_862 := Inv.g hI_M hk_c0 rfl 5 (a := 0) (b := 6) rfl rfl
    refine kx_icmp_ge 43 F 77 dX4_findWords_40 (by decide) rfl (by omega) (by omega) (fun h_863 => ?_) (fun h_863 => ?_)
    · refine kx_iconst 78 F dX4_findWords_77 rfl ?_
      refine kx_istore_n 79 F 1 (lo' := [some (vR G c0), some (vI 0), none, none]) dX4_findWords_78 rfl (by decide) rfl rfl rfl ?_
      have L_1097 : ∀ (n_1098 : Nat) (x1_1095 : Int) (N_1096 : Mem), Inv false N_1096 → Fr f_c_X4_findWords M N_1096 → XX N_1096 → 0 ≤ x1_1095 ∧ x1_1095 ≤ 1152 → (1152 - (x1_1095)).toNat = n_1098 → KJ false G X N_1096 79 [some (vR G c0), some (vI x1_1095), none, none] [] := by
        intro n_1098
        refine Nat.strongRecOn n_1098 ?_
        intro n_1098 ih_1099 x1_1095 N_1096 hI_N_1096 hF_N_1096 hX_N_1096 h_1100 hm_1101
        refine kx_iload_n 80 F 1 dX4_findWords_79 rfl rfl rfl ?_
        refine kx_sipush 83 F dX4_findWords_80 (by decide) rfl ?_
        refine kx_icmp_ge 86 F 143 dX4_findWords_83 (by decide) rfl (by omega) (by decide) (fun h_1102 => ?_) (fun h_1102 => ?_)
        · exact kx_vret F hQ ⟨hI_N_1096, hF_N_1096, hX_N_1096⟩ dX4_findWords_143
        · refine kx_aload_n 87 F 0 dX4_findWords_86 rfl rfl rfl ?_
          refine kx_getr 90 F fl_X4_36 hk_c0 rfl rfl (j := 10) rfl dX4_findWords_87 (v := (M c0 10)) (by rw [Fr.e hF_N_1096 hk_c0 _ rfl]) rfl ?_
          refine kx_Vi 93 (ci := 0) F (As := []) (st := []) vd_X4_140 (c_X6_nearestA G l N_1096 (M c0 10) hI_N_1096 hk_1) hk_1 rfl rfl rfl ⟨by decide, by decide⟩ rfl rfl (Nat.le_of_ble_eq_true rfl) dX4_findWords_90 rfl ?_
          intro r_1103 N_1104 q_1105
          obtain ⟨rfl, q_1105c⟩ := q_1105
          refine kx_istore_n 94 F 2 (lo' := [some (vR G c0), some (vI x1_1095), some (vI r_1103), none]) dX4_findWords_93 rfl (by decide) rfl rfl rfl ?_
          refine kx_aload_n 95 F 0 dX4_findWords_94 rfl rfl rfl ?_
          refine kx_getr 98 F fl_X4_40 hk_c0 rfl rfl (j := 11) rfl dX4_findWords_95 (v := (M c0 11)) (by rw [Fr.e hF_N_1096 hk_c0 _ rfl]) rfl ?_
          have hk_1106 : kd (M c0 11) = 36 := Inv.r hI_M hk_c0 rfl 11 rfl rfl
          refine kx_Vi 101 (ci := 0) F (As := []) (st := []) vd_X4_140 (c_X6_nearestC G l N_1096 (M c0 11) hI_N_1096 hk_1106) hk_1106 rfl rfl rfl ⟨by decide, by decide⟩ rfl rfl (Nat.le_of_ble_eq_true rfl) dX4_findWords_98 rfl ?_
          intro r_1107 N_1108 q_1109
          obtain ⟨rfl, q_1109c⟩ := q_1109
          refine kx_istore_n 102 F 3 (lo' := [some (vR G c0), some (vI x1_1095), some (vI r_1103), some (vI r_1107)]) dX4_findWords_101 rfl (by decide) rfl rfl rfl ?_
          refine kx_iload_n 103 F 2 dX4_findWords_102 rfl rfl rfl ?_
          refine kx_iconst 104 F dX4_findWords_103 rfl ?_
          have J_1114 : ∀ (x2_1113 : Int), (-1) ≤ x2_1113 ∧ x2_1113 ≤ 1000000000 → KJ false G X N_1096 119 [some (vR G c0), some (vI x1_1095), some (vI x2_1113), none] [] := by
            intro x2_1113 h_1115
            refine kx_iload_n 120 F 2 dX4_findWords_119 rfl rfl rfl ?_
            refine kx_iconst 121 F dX4_findWords_120 rfl ?_
            refine kx_icmp_ne 124 F 127 dX4_findWords_121 (by decide) rfl (by omega) (by decide) (fun h_1116 => ?_) (fun h_1116 => ?_)
            · refine kx_aload_n 128 F 0 dX4_findWords_127 rfl rfl rfl ?_
              refine kx_iload_n 129 F 2 dX4_findWords_128 rfl rfl rfl ?_
              refine kx_Vv 132 (ci := 0) F (As := [vI x2_1113]) (st := []) vd_X4_144 (c_X4_closeBlocks G l N_1096 c0 x2_1113 hI_N_1096 hk_c0 (by omega) hX_N_1096) hk_c0 rfl rfl rfl ⟨by decide, by decide⟩ rfl rfl (Nat.le_of_ble_eq_true rfl) dX4_findWords_129 rfl ?_
              intro N_1117 q_1118
              obtain ⟨hI_N_1117, hG_N_1117, hX_N_1117⟩ := q_1118
              have hF_N_1117 : Fr f_c_X4_findWords M N_1117 := Fr.c hF_N_1096 hG_N_1117 rfl
              refine kx_aload_n 133 F 0 dX4_findWords_132 rfl rfl rfl ?_
              refine kx_iload_n 134 F 2 dX4_findWords_133 rfl rfl rfl ?_
              refine kx_Vv 137 (ci := 0) F (As := [vI x2_1113]) (st := []) vd_X4_147 (c_X4_closeWords G l N_1117 c0 x2_1113 hI_N_1117 hk_c0 (by omega) hX_N_1117) hk_c0 rfl rfl rfl ⟨by decide, by decide⟩ rfl rfl (Nat.le_of_ble_eq_true rfl) dX4_findWords_134 rfl ?_
              intro N_1119 q_1120
              obtain ⟨hI_N_1119, hG_N_1119, hX_N_1119⟩ := q_1120
              have hF_N_1119 : Fr f_c_X4_findWords M N_1119 := Fr.c hF_N_1117 hG_N_1119 rfl
              refine kx_iinc 140 F 1 (v := x1_1095 + 1) (lo' := [some (vR G c0), some (vI (x1_1095 + 1)), some (vI x2_1113), none]) dX4_findWords_137 rfl (by omega) (by decide) rfl rfl rfl ?_
              refine kx_goto 79 F dX4_findWords_140 (by decide) ?_
              refine kx_drop 2 (lo' := [some (vR G c0), some (vI (x1_1095 + 1)), none, none]) rfl ?_
              exact ih_1099 _ (by omega) (x1_1095 + 1) N_1119 hI_N_1119 hF_N_1119 hX_N_1119 (by omega) rfl
            · refine kx_goto 143 F dX4_findWords_124 (by decide) ?_
              exact kx_vret F hQ ⟨hI_N_1096, hF_N_1096, hX_N_1096⟩ dX4_findWords_143
          have J_1134 : KJ false G X N_1096 117 [some (vR G c0), some (vI x1_1095), none, some (vI r_1107)] [] := by
            refine kx_iload_n 118 F 3 dX4_findWords_117 rfl rfl rfl ?_
            refine kx_istore_n 119 F 2 (lo' := [some (vR G c0), some (vI x1_1095), some (vI r_1107), some (vI r_1107)]) dX4_findWords_118 rfl (by decide) rfl rfl rfl ?_
            refine kx_drop 3 (lo' := [some (vR G c0), some (vI x1_1095), some (vI r_1107), none]) rfl ?_
            exact J_1114 r_1107 (by omega)
          refine kx_icmp_eq 107 F 117 dX4_findWords_104 (by decide) rfl (by omega) (by decide) (fun h_1136 => ?_) (fun h_1136 => ?_)
          · refine kx_drop 2 (lo' := [some (vR G c0), some (vI x1_1095), none, some (vI r_1107)]) rfl ?_
            exact J_1134 
          · refine kx_iload_n 108 F 3 dX4_findWords_107 rfl rfl rfl ?_
            refine kx_iconst 109 F dX4_findWords_108 rfl ?_
            refine kx_icmp_eq 112 F 119 dX4_findWords_109 (by decide) rfl (by omega) (by decide) (fun h_1137 => ?_) (fun h_1137 => ?_)
            · refine kx_drop 3 (lo' := [some (vR G c0), some (vI x1_1095), some (vI r_1103), none]) rfl ?_
              exact J_1114 r_1103 (by omega)
            · refine kx_iload_n 113 F 3 dX4_findWords_112 rfl rfl rfl ?_
              refine kx_iload_n 114 F 2 dX4_findWords_113 rfl rfl rfl ?_
              refine kx_icmp_ge 117 F 119 dX4_findWords_114 (by decide) rfl (by omega) (by omega) (fun h_1138 => ?_) (fun h_1138 => ?_)
              · refine kx_drop 3 (lo' := [some (vR G c0), some (vI x1_1095), some (vI r_1103), none]) rfl ?_
                exact J_1114 r_1103 (by omega)
              · refine kx_drop 2 (lo' := [some (vR G c0), some (vI x1_1095), none, some (vI r_1107)]) rfl ?_
                exact J_1134 
      exact L_1097 _ 0 N_856 hI_N_856 hF_N_856 hX_N_856 (by omega) rfl
    · refine kx_aload_n 44 F 0 dX4_findWords_43 rfl rfl rfl ?_
      refine kx_aload_n 45 F 0 dX4_findWords_44 rfl rfl rfl ?_
      refine kx_getr 48 F fl_X4_40 hk_c0 rfl rfl (j := 11) rfl dX4_findWords_45 (v := (M c0 11)) (by rw [Fr.e hF_N_856 hk_c0 _ rfl]) rfl ?_
      have hk_1139 : kd (M c0 11) = 36 := Inv.r hI_M hk_c0 rfl 11 rfl rfl
      refine kx_aload_n 49 F 0 dX4_findWords_48 rfl rfl rfl ?_
      refine kx_getr 52 F fl_X4_25 hk_c0 rfl rfl (j := 7) rfl dX4_findWords_49 (v := (M c0 7)) (by rw [Fr.e hF_N_856 hk_c0 _ rfl]) rfl ?_
      refine kx_getr 55 F fl_X4_137 hk_2 rfl rfl (j := 10) rfl dX4_findWords_52 (v := (M (M c0 7) 10)) (by rw [Fr.e hF_N_856 hk_2 _ rfl]) rfl ?_
      have hk_1140 : kd (M (M c0 7) 10) = 6 := Inv.r hI_M hk_2 rfl 10 rfl rfl
      refine kx_iload_n 56 F 1 dX4_findWords_55 rfl rfl rfl ?_
      refine kx_iald 57 F hk_1140 rfl rfl (by omega) (by decide) dX4_findWords_56 (v := (M (M (M c0 7) 10) x1_855)) (by rw [Fr.e hF_N_856 hk_1140 _ rfl]) rfl ?_
      have h_1141 := Inv.g hI_M hk_1140 rfl x1_855 (a := 0) (b := 511) rfl rfl
      refine kx_aload_n 58 F 0 dX4_findWords_57 rfl rfl rfl ?_
      refine kx_getr 61 F fl_X4_28 hk_c0 rfl rfl (j := 8) rfl dX4_findWords_58 (v := (M c0 8)) (by rw [Fr.e hF_N_856 hk_c0 _ rfl]) rfl ?_
      refine kx_getr 64 F fl_X4_137 hk_7 rfl rfl (j := 10) rfl dX4_findWords_61 (v := (M (M c0 8) 10)) (by rw [Fr.e hF_N_856 hk_7 _ rfl]) rfl ?_
      have hk_1142 : kd (M (M c0 8) 10) = 6 := Inv.r hI_M hk_7 rfl 10 rfl rfl
      refine kx_iload_n 65 F 1 dX4_findWords_64 rfl rfl rfl ?_
      refine kx_iald 66 F hk_1142 rfl rfl (by omega) (by decide) dX4_findWords_65 (v := (M (M (M c0 8) 10) x1_855)) (by rw [Fr.e hF_N_856 hk_1142 _ rfl]) rfl ?_
      have h_1143 := Inv.g hI_M hk_1142 rfl x1_855 (a := 0) (b := 511) rfl rfl
      refine kx_iconst 67 F dX4_findWords_66 rfl ?_
      refine kx_iload_n 68 F 1 dX4_findWords_67 rfl rfl rfl ?_
      refine kx_Vv 71 (ci := 0) F (As := [vR G (M c0 11), vI (M (M (M c0 7) 10) x1_855), vI (M (M (M c0 8) 10) x1_855), vI 1, vI x1_855]) (st := []) vd_X4_133 (c_X4_offerAllC G l N_856 c0 (M c0 11) (M (M (M c0 7) 10) x1_855) (M (M (M c0 8) 10) x1_855) 1 x1_855 hI_N_856 hk_c0 hk_1139 (by omega) hX_N_856) hk_c0 rfl rfl rfl ⟨by decide, by decide⟩ rfl rfl (Nat.le_of_ble_eq_true rfl) dX4_findWords_68 rfl ?_
      intro N_1144 q_1145
      obtain ⟨hI_N_1144, hG_N_1144, hX_N_1144⟩ := q_1145
      have hF_N_1144 : Fr f_c_X4_findWords M N_1144 := Fr.c hF_N_856 hG_N_1144 rfl
      refine kx_iinc 74 F 1 (v := x1_855 + 1) (lo' := [some (vR G c0), some (vI (x1_855 + 1)), none, none]) dX4_findWords_71 rfl (by omega) (by decide) rfl rfl rfl ?_
      refine kx_goto 35 F dX4_findWords_74 (by decide) ?_
      exact ih_859 _ (by omega) (x1_855 + 1) N_1144 hI_N_1144 hF_N_1144 hX_N_1144 (by omega) rfl
  exact L_857 _ (M c0 4) N_12 hI_N_12 hF_N_12 hX_N_12 (by omega) rfl
set_option maxRecDepth 100000 in
theorem dGR_14_c_309 : (decode cX4_prepare 0 = .ok (.aload_n 0, 1)) ∧ (decode cX4_prepare 1 = .ok (.aload_n 1, 1)) ∧ (decode cX4_prepare 2 = .ok (.getfield 97, 3)) ∧ (decode cX4_prepare 5 = .ok (.putfield 100, 3)) ∧ (decode cX4_prepare 8 = .ok (.aload_n 0, 1)) ∧ (decode cX4_prepare 9 = .ok (.aload_n 1, 1)) ∧ (decode cX4_prepare 10 = .ok (.getfield 101, 3)) ∧ (decode cX4_prepare 13 = .ok (.putfield 104, 3)) ∧ (decode cX4_prepare 16 = .ok (.aload_n 0, 1)) ∧ (decode cX4_prepare 17 = .ok (.aload_n 1, 1)) ∧ (decode cX4_prepare 18 = .ok (.getfield 105, 3)) ∧ (decode cX4_prepare 21 = .ok (.putfield 108, 3)) := by decide +kernel
theorem dX4_prepare_0 : decode cX4_prepare 0 = .ok (.aload_n 0, 1) := dGR_14_c_309.1
theorem dX4_prepare_1 : decode cX4_prepare 1 = .ok (.aload_n 1, 1) := dGR_14_c_309.2.1
theorem dX4_prepare_2 : decode cX4_prepare 2 = .ok (.getfield 97, 3) := dGR_14_c_309.2.2.1
theorem dX4_prepare_5 : decode cX4_prepare 5 = .ok (.putfield 100, 3) := dGR_14_c_309.2.2.2.1
theorem dX4_prepare_8 : decode cX4_prepare 8 = .ok (.aload_n 0, 1) := dGR_14_c_309.2.2.2.2.1
theorem dX4_prepare_9 : decode cX4_prepare 9 = .ok (.aload_n 1, 1) := dGR_14_c_309.2.2.2.2.2.1
theorem dX4_prepare_10 : decode cX4_prepare 10 = .ok (.getfield 101, 3) := dGR_14_c_309.2.2.2.2.2.2.1
theorem dX4_prepare_13 : decode cX4_prepare 13 = .ok (.putfield 104, 3) := dGR_14_c_309.2.2.2.2.2.2.2.1
theorem dX4_prepare_16 : decode cX4_prepare 16 = .ok (.aload_n 0, 1) := dGR_14_c_309.2.2.2.2.2.2.2.2.1
theorem dX4_prepare_17 : decode cX4_prepare 17 = .ok (.aload_n 1, 1) := dGR_14_c_309.2.2.2.2.2.2.2.2.2.1
theorem dX4_prepare_18 : decode cX4_prepare 18 = .ok (.getfield 105, 3) := dGR_14_c_309.2.2.2.2.2.2.2.2.2.2.1
theorem dX4_prepare_21 : decode cX4_prepare 21 = .ok (.putfield 108, 3) := dGR_14_c_309.2.2.2.2.2.2.2.2.2.2.2
set_option maxRecDepth 100000 in
theorem dGR_14_c_310 : (decode cX4_prepare 24 = .ok (.aload_n 0, 1)) ∧ (decode cX4_prepare 25 = .ok (.aload_n 2, 1)) ∧ (decode cX4_prepare 26 = .ok (.putfield 25, 3)) ∧ (decode cX4_prepare 29 = .ok (.aload_n 0, 1)) ∧ (decode cX4_prepare 30 = .ok (.aload_n 3, 1)) ∧ (decode cX4_prepare 31 = .ok (.putfield 28, 3)) ∧ (decode cX4_prepare 34 = .ok (.aload_n 0, 1)) ∧ (decode cX4_prepare 35 = .ok (.iload 4, 2)) ∧ (decode cX4_prepare 37 = .ok (.putfield 109, 3)) ∧ (decode cX4_prepare 40 = .ok (.aload_n 0, 1)) ∧ (decode cX4_prepare 41 = .ok (.getfield 36, 3)) ∧ (decode cX4_prepare 44 = .ok (.invokevirtual 113, 3)) := by decide +kernel
theorem dX4_prepare_24 : decode cX4_prepare 24 = .ok (.aload_n 0, 1) := dGR_14_c_310.1
theorem dX4_prepare_25 : decode cX4_prepare 25 = .ok (.aload_n 2, 1) := dGR_14_c_310.2.1
theorem dX4_prepare_26 : decode cX4_prepare 26 = .ok (.putfield 25, 3) := dGR_14_c_310.2.2.1
theorem dX4_prepare_29 : decode cX4_prepare 29 = .ok (.aload_n 0, 1) := dGR_14_c_310.2.2.2.1
theorem dX4_prepare_30 : decode cX4_prepare 30 = .ok (.aload_n 3, 1) := dGR_14_c_310.2.2.2.2.1
theorem dX4_prepare_31 : decode cX4_prepare 31 = .ok (.putfield 28, 3) := dGR_14_c_310.2.2.2.2.2.1
theorem dX4_prepare_34 : decode cX4_prepare 34 = .ok (.aload_n 0, 1) := dGR_14_c_310.2.2.2.2.2.2.1
theorem dX4_prepare_35 : decode cX4_prepare 35 = .ok (.iload 4, 2) := dGR_14_c_310.2.2.2.2.2.2.2.1
theorem dX4_prepare_37 : decode cX4_prepare 37 = .ok (.putfield 109, 3) := dGR_14_c_310.2.2.2.2.2.2.2.2.1
theorem dX4_prepare_40 : decode cX4_prepare 40 = .ok (.aload_n 0, 1) := dGR_14_c_310.2.2.2.2.2.2.2.2.2.1
theorem dX4_prepare_41 : decode cX4_prepare 41 = .ok (.getfield 36, 3) := dGR_14_c_310.2.2.2.2.2.2.2.2.2.2.1
theorem dX4_prepare_44 : decode cX4_prepare 44 = .ok (.invokevirtual 113, 3) := dGR_14_c_310.2.2.2.2.2.2.2.2.2.2.2
set_option maxRecDepth 100000 in
theorem dGR_14_c_311 : (decode cX4_prepare 47 = .ok (.aload_n 0, 1)) ∧ (decode cX4_prepare 48 = .ok (.getfield 40, 3)) ∧ (decode cX4_prepare 51 = .ok (.invokevirtual 113, 3)) ∧ (decode cX4_prepare 54 = .ok (.aload_n 0, 1)) ∧ (decode cX4_prepare 55 = .ok (.getfield 43, 3)) ∧ (decode cX4_prepare 58 = .ok (.invokevirtual 113, 3)) ∧ (decode cX4_prepare 61 = .ok (.iconst 0, 1)) ∧ (decode cX4_prepare 62 = .ok (.istore 5, 2)) ∧ (decode cX4_prepare 64 = .ok (.iload 5, 2)) ∧ (decode cX4_prepare 66 = .ok (.aload_n 0, 1)) ∧ (decode cX4_prepare 67 = .ok (.getfield 116, 3)) ∧ (decode cX4_prepare 70 = .ok (.if_icmp .ge 22, 3)) := by decide +kernel
theorem dX4_prepare_47 : decode cX4_prepare 47 = .ok (.aload_n 0, 1) := dGR_14_c_311.1
theorem dX4_prepare_48 : decode cX4_prepare 48 = .ok (.getfield 40, 3) := dGR_14_c_311.2.1
theorem dX4_prepare_51 : decode cX4_prepare 51 = .ok (.invokevirtual 113, 3) := dGR_14_c_311.2.2.1
theorem dX4_prepare_54 : decode cX4_prepare 54 = .ok (.aload_n 0, 1) := dGR_14_c_311.2.2.2.1
theorem dX4_prepare_55 : decode cX4_prepare 55 = .ok (.getfield 43, 3) := dGR_14_c_311.2.2.2.2.1
theorem dX4_prepare_58 : decode cX4_prepare 58 = .ok (.invokevirtual 113, 3) := dGR_14_c_311.2.2.2.2.2.1
theorem dX4_prepare_61 : decode cX4_prepare 61 = .ok (.iconst 0, 1) := dGR_14_c_311.2.2.2.2.2.2.1
theorem dX4_prepare_62 : decode cX4_prepare 62 = .ok (.istore 5, 2) := dGR_14_c_311.2.2.2.2.2.2.2.1
theorem dX4_prepare_64 : decode cX4_prepare 64 = .ok (.iload 5, 2) := dGR_14_c_311.2.2.2.2.2.2.2.2.1
theorem dX4_prepare_66 : decode cX4_prepare 66 = .ok (.aload_n 0, 1) := dGR_14_c_311.2.2.2.2.2.2.2.2.2.1
theorem dX4_prepare_67 : decode cX4_prepare 67 = .ok (.getfield 116, 3) := dGR_14_c_311.2.2.2.2.2.2.2.2.2.2.1
theorem dX4_prepare_70 : decode cX4_prepare 70 = .ok (.if_icmp .ge 22, 3) := dGR_14_c_311.2.2.2.2.2.2.2.2.2.2.2
set_option maxRecDepth 100000 in
theorem dGR_14_c_312 : (decode cX4_prepare 73 = .ok (.aload_n 0, 1)) ∧ (decode cX4_prepare 74 = .ok (.getfield 49, 3)) ∧ (decode cX4_prepare 77 = .ok (.aload_n 0, 1)) ∧ (decode cX4_prepare 78 = .ok (.getfield 46, 3)) ∧ (decode cX4_prepare 81 = .ok (.iload 5, 2)) ∧ (decode cX4_prepare 83 = .ok (.iaload, 1)) ∧ (decode cX4_prepare 84 = .ok (.iconst (-1), 1)) ∧ (decode cX4_prepare 85 = .ok (.iastore, 1)) ∧ (decode cX4_prepare 86 = .ok (.iinc 5 1, 3)) ∧ (decode cX4_prepare 89 = .ok (.goto (-25), 3)) ∧ (decode cX4_prepare 92 = .ok (.aload_n 0, 1)) ∧ (decode cX4_prepare 93 = .ok (.iconst 0, 1)) := by decide +kernel
theorem dX4_prepare_73 : decode cX4_prepare 73 = .ok (.aload_n 0, 1) := dGR_14_c_312.1
theorem dX4_prepare_74 : decode cX4_prepare 74 = .ok (.getfield 49, 3) := dGR_14_c_312.2.1
theorem dX4_prepare_77 : decode cX4_prepare 77 = .ok (.aload_n 0, 1) := dGR_14_c_312.2.2.1
theorem dX4_prepare_78 : decode cX4_prepare 78 = .ok (.getfield 46, 3) := dGR_14_c_312.2.2.2.1
theorem dX4_prepare_81 : decode cX4_prepare 81 = .ok (.iload 5, 2) := dGR_14_c_312.2.2.2.2.1
theorem dX4_prepare_83 : decode cX4_prepare 83 = .ok (.iaload, 1) := dGR_14_c_312.2.2.2.2.2.1
theorem dX4_prepare_84 : decode cX4_prepare 84 = .ok (.iconst (-1), 1) := dGR_14_c_312.2.2.2.2.2.2.1
theorem dX4_prepare_85 : decode cX4_prepare 85 = .ok (.iastore, 1) := dGR_14_c_312.2.2.2.2.2.2.2.1
theorem dX4_prepare_86 : decode cX4_prepare 86 = .ok (.iinc 5 1, 3) := dGR_14_c_312.2.2.2.2.2.2.2.2.1
theorem dX4_prepare_89 : decode cX4_prepare 89 = .ok (.goto (-25), 3) := dGR_14_c_312.2.2.2.2.2.2.2.2.2.1
theorem dX4_prepare_92 : decode cX4_prepare 92 = .ok (.aload_n 0, 1) := dGR_14_c_312.2.2.2.2.2.2.2.2.2.2.1
theorem dX4_prepare_93 : decode cX4_prepare 93 = .ok (.iconst 0, 1) := dGR_14_c_312.2.2.2.2.2.2.2.2.2.2.2
set_option maxRecDepth 100000 in
theorem dGR_14_c_313 : (decode cX4_prepare 94 = .ok (.putfield 116, 3)) ∧ (decode cX4_prepare 97 = .ok (.iconst 0, 1)) ∧ (decode cX4_prepare 98 = .ok (.istore 5, 2)) ∧ (decode cX4_prepare 100 = .ok (.iload 5, 2)) ∧ (decode cX4_prepare 102 = .ok (.bipush 6, 2)) ∧ (decode cX4_prepare 104 = .ok (.if_icmp .gt 25, 3)) ∧ (decode cX4_prepare 107 = .ok (.aload_n 0, 1)) ∧ (decode cX4_prepare 108 = .ok (.getfield 52, 3)) ∧ (decode cX4_prepare 111 = .ok (.iload 5, 2)) ∧ (decode cX4_prepare 113 = .ok (.aload_n 0, 1)) ∧ (decode cX4_prepare 114 = .ok (.getfield 108, 3)) ∧ (decode cX4_prepare 117 = .ok (.iload 5, 2)) := by decide +kernel
theorem dX4_prepare_94 : decode cX4_prepare 94 = .ok (.putfield 116, 3) := dGR_14_c_313.1
theorem dX4_prepare_97 : decode cX4_prepare 97 = .ok (.iconst 0, 1) := dGR_14_c_313.2.1
theorem dX4_prepare_98 : decode cX4_prepare 98 = .ok (.istore 5, 2) := dGR_14_c_313.2.2.1
theorem dX4_prepare_100 : decode cX4_prepare 100 = .ok (.iload 5, 2) := dGR_14_c_313.2.2.2.1
theorem dX4_prepare_102 : decode cX4_prepare 102 = .ok (.bipush 6, 2) := dGR_14_c_313.2.2.2.2.1
theorem dX4_prepare_104 : decode cX4_prepare 104 = .ok (.if_icmp .gt 25, 3) := dGR_14_c_313.2.2.2.2.2.1
theorem dX4_prepare_107 : decode cX4_prepare 107 = .ok (.aload_n 0, 1) := dGR_14_c_313.2.2.2.2.2.2.1
theorem dX4_prepare_108 : decode cX4_prepare 108 = .ok (.getfield 52, 3) := dGR_14_c_313.2.2.2.2.2.2.2.1
theorem dX4_prepare_111 : decode cX4_prepare 111 = .ok (.iload 5, 2) := dGR_14_c_313.2.2.2.2.2.2.2.2.1
theorem dX4_prepare_113 : decode cX4_prepare 113 = .ok (.aload_n 0, 1) := dGR_14_c_313.2.2.2.2.2.2.2.2.2.1
theorem dX4_prepare_114 : decode cX4_prepare 114 = .ok (.getfield 108, 3) := dGR_14_c_313.2.2.2.2.2.2.2.2.2.2.1
theorem dX4_prepare_117 : decode cX4_prepare 117 = .ok (.iload 5, 2) := dGR_14_c_313.2.2.2.2.2.2.2.2.2.2.2
set_option maxRecDepth 100000 in
theorem dGR_14_c_314 : (decode cX4_prepare 119 = .ok (.invokestatic 119, 3)) ∧ (decode cX4_prepare 122 = .ok (.iastore, 1)) ∧ (decode cX4_prepare 123 = .ok (.iinc 5 1, 3)) ∧ (decode cX4_prepare 126 = .ok (.goto (-26), 3)) ∧ (decode cX4_prepare 129 = .ok (.return_, 1)) := by decide +kernel
theorem dX4_prepare_119 : decode cX4_prepare 119 = .ok (.invokestatic 119, 3) := dGR_14_c_314.1
theorem dX4_prepare_122 : decode cX4_prepare 122 = .ok (.iastore, 1) := dGR_14_c_314.2.1
theorem dX4_prepare_123 : decode cX4_prepare 123 = .ok (.iinc 5 1, 3) := dGR_14_c_314.2.2.1
theorem dX4_prepare_126 : decode cX4_prepare 126 = .ok (.goto (-26), 3) := dGR_14_c_314.2.2.2.1
theorem dX4_prepare_129 : decode cX4_prepare 129 = .ok (.return_, 1) := dGR_14_c_314.2.2.2.2
abbrev f_c_X4_prepare : List (Nat × Int) := [(26, 0), (30, -1), (31, 0), (35, -1), (36, 0), (40, -1), (41, 3), (41, 4), (41, 5), (41, 7), (41, 8), (41, 9), (41, 13), (45, -1), (46, -1)]
set_option maxHeartbeats 4000000 in
set_option maxRecDepth 100000 in
theorem c_X4_prepare (G : KG) (l : Launch) (M : Mem) (c0 : Int) (c1 : Int) (c2 : Int) (c3 : Int) (a4 : Int) (hI_M : Inv false M) (hk_c0 : kd c0 = 41) (hk_c1 : kd c1 = 12) (hk_c2 : kd c2 = 1) (hk_c3 : kd c3 = 1) (hpre : 0 ≤ a4 ∧ a4 ≤ 1) (hX_M : XX M) : KC false G l yX4_prepare cX4_prepare 6 none (1, 23) [vR G c0, vR G c1, vR G c2, vR G c3, vI a4] M (fun A => kQv false G A (fun (N : Mem) => Inv false N ∧ Fr f_c_X4_prepare M N ∧ XX N)) := by
  refine kx_met (lo := [some (vR G c0), some (vR G c1), some (vR G c2), some (vR G c3), some (vI a4), none]) (by decide) (Nat.le_of_ble_eq_true rfl) rfl ?_
  intro X F hQ
  have hF_M : Fr f_c_X4_prepare M M := Fr.rf _ _
  refine kx_aload_n 1 F 0 dX4_prepare_0 rfl rfl rfl ?_
  refine kx_aload_n 2 F 1 dX4_prepare_1 rfl rfl rfl ?_
  refine kx_geti 5 F fl_X4_97 hk_c1 rfl rfl (j := 0) rfl dX4_prepare_2 (v := (M c1 0)) rfl rfl ?_
  have h_1 := Inv.g hI_M hk_c1 rfl 0 (a := 0) (b := 2) rfl rfl
  refine kx_puti 8 F fw_X4_100 rfl hk_c0 rfl rfl (j := 3) rfl dX4_prepare_5 rfl ?_
  intro N_2 hM_N_2
  have hI_N_2 : Inv false N_2 := Inv.u hI_M hM_N_2 hk_c0 (a := 0) (b := 2) rfl rfl rfl (by omega)
  have hF_N_2 : Fr f_c_X4_prepare M N_2 := Fr.u hF_M hM_N_2 hk_c0 rfl
  have hX_N_2 : XX N_2 := XX.st hX_M hI_M hM_N_2 hk_c0 rfl
  refine kx_aload_n 9 F 0 dX4_prepare_8 rfl rfl rfl ?_
  refine kx_aload_n 10 F 1 dX4_prepare_9 rfl rfl rfl ?_
  refine kx_geti 13 F fl_X4_101 hk_c1 rfl rfl (j := 1) rfl dX4_prepare_10 (v := (M c1 1)) (by rw [hM_N_2, mu_k hk_c1 hk_c0 rfl]) rfl ?_
  have h_3 := Inv.g hI_M hk_c1 rfl 1 (a := 0) (b := 4) rfl rfl
  refine kx_puti 16 F fw_X4_104 rfl hk_c0 rfl rfl (j := 4) rfl dX4_prepare_13 rfl ?_
  intro N_4 hM_N_4
  have hI_N_4 : Inv false N_4 := Inv.u hI_N_2 hM_N_4 hk_c0 (a := 0) (b := 4) rfl rfl rfl (by omega)
  have hF_N_4 : Fr f_c_X4_prepare M N_4 := Fr.u hF_N_2 hM_N_4 hk_c0 rfl
  have hX_N_4 : XX N_4 := XX.st hX_N_2 hI_N_2 hM_N_4 hk_c0 rfl
  refine kx_aload_n 17 F 0 dX4_prepare_16 rfl rfl rfl ?_
  refine kx_aload_n 18 F 1 dX4_prepare_17 rfl rfl rfl ?_
  refine kx_geti 21 F fl_X4_105 hk_c1 rfl rfl (j := 2) rfl dX4_prepare_18 (v := (M c1 2)) (by rw [hM_N_4, mu_k hk_c1 hk_c0 rfl, hM_N_2, mu_k hk_c1 hk_c0 rfl]) rfl ?_
  have h_5 := Inv.g hI_M hk_c1 rfl 2 (a := 0) (b := 6) rfl rfl
  refine kx_puti 24 F fw_X4_108 rfl hk_c0 rfl rfl (j := 5) rfl dX4_prepare_21 rfl ?_
  intro N_6 hM_N_6
  have hI_N_6 : Inv false N_6 := Inv.u hI_N_4 hM_N_6 hk_c0 (a := 0) (b := 6) rfl rfl rfl (by omega)
  have hF_N_6 : Fr f_c_X4_prepare M N_6 := Fr.u hF_N_4 hM_N_6 hk_c0 rfl
  have hX_N_6 : XX N_6 := XX.st hX_N_4 hI_N_4 hM_N_6 hk_c0 rfl
  refine kx_aload_n 25 F 0 dX4_prepare_24 rfl rfl rfl ?_
  refine kx_aload_n 26 F 2 dX4_prepare_25 rfl rfl rfl ?_
  refine kx_putr 29 F fw_X4_25 (Or.inl ⟨_, rfl⟩) hk_c0 rfl rfl (j := 7) rfl dX4_prepare_26 rfl ?_
  intro N_7 hM_N_7
  have hI_N_7 : Inv false N_7 := Inv.ur hI_N_6 hM_N_7 hk_c0 rfl rfl rfl hk_c2 rfl rfl rfl
  have hF_N_7 : Fr f_c_X4_prepare M N_7 := Fr.u hF_N_6 hM_N_7 hk_c0 rfl
  have hX_N_7 : XX N_7 := XX.st hX_N_6 hI_N_6 hM_N_7 hk_c0 rfl
  refine kx_aload_n 30 F 0 dX4_prepare_29 rfl rfl rfl ?_
  refine kx_aload_n 31 F 3 dX4_prepare_30 rfl rfl rfl ?_
  refine kx_putr 34 F fw_X4_28 (Or.inl ⟨_, rfl⟩) hk_c0 rfl rfl (j := 8) rfl dX4_prepare_31 rfl ?_
  intro N_8 hM_N_8
  have hI_N_8 : Inv false N_8 := Inv.ur hI_N_7 hM_N_8 hk_c0 rfl rfl rfl hk_c3 rfl rfl rfl
  have hF_N_8 : Fr f_c_X4_prepare M N_8 := Fr.u hF_N_7 hM_N_8 hk_c0 rfl
  have hX_N_8 : XX N_8 := XX.st hX_N_7 hI_N_7 hM_N_8 hk_c0 rfl
  refine kx_aload_n 35 F 0 dX4_prepare_34 rfl rfl rfl ?_
  refine kx_iload 37 F 4 dX4_prepare_35 rfl rfl ?_
  refine kx_putz 40 F fw_X4_109 rfl (by omega) hk_c0 rfl rfl (j := 9) rfl dX4_prepare_37 rfl ?_
  intro N_9 hM_N_9
  have hI_N_9 : Inv false N_9 := Inv.u hI_N_8 hM_N_9 hk_c0 (a := 0) (b := 1) rfl rfl rfl (by omega)
  have hF_N_9 : Fr f_c_X4_prepare M N_9 := Fr.u hF_N_8 hM_N_9 hk_c0 rfl
  have hX_N_9 : XX N_9 := XX.st hX_N_8 hI_N_8 hM_N_9 hk_c0 rfl
  refine kx_aload_n 41 F 0 dX4_prepare_40 rfl rfl rfl ?_
  refine kx_getr 44 F fl_X4_36 hk_c0 rfl rfl (j := 10) rfl dX4_prepare_41 (v := (M c0 10)) (by rw [hM_N_9, mu_i (by omega), hM_N_8, mu_i (by omega), hM_N_7, mu_i (by omega), hM_N_6, mu_i (by omega), hM_N_4, mu_i (by omega), hM_N_2, mu_i (by omega)]) rfl ?_
  have hk_10 : kd (M c0 10) = 26 := Inv.r hI_M hk_c0 rfl 10 rfl rfl
  refine kx_Vv 47 (ci := 0) F (As := []) (st := []) vd_X4_113 (c_X6_clearA G l N_9 (M c0 10) hI_N_9 hk_10 hX_N_9) hk_10 rfl rfl rfl ⟨by decide, by decide⟩ rfl rfl (Nat.le_of_ble_eq_true rfl) dX4_prepare_44 rfl ?_
  intro N_11 q_12
  obtain ⟨hI_N_11, hG_N_11, hX_N_11⟩ := q_12
  have hF_N_11 : Fr f_c_X4_prepare M N_11 := Fr.c hF_N_9 hG_N_11 rfl
  refine kx_aload_n 48 F 0 dX4_prepare_47 rfl rfl rfl ?_
  refine kx_getr 51 F fl_X4_40 hk_c0 rfl rfl (j := 11) rfl dX4_prepare_48 (v := (M c0 11)) (by rw [Fr.e hG_N_11 hk_c0 _ rfl, hM_N_9, mu_i (by omega), hM_N_8, mu_i (by omega), hM_N_7, mu_i (by omega), hM_N_6, mu_i (by omega), hM_N_4, mu_i (by omega), hM_N_2, mu_i (by omega)]) rfl ?_
  have hk_13 : kd (M c0 11) = 36 := Inv.r hI_M hk_c0 rfl 11 rfl rfl
  refine kx_Vv 54 (ci := 0) F (As := []) (st := []) vd_X4_113 (c_X6_clearC G l N_11 (M c0 11) hI_N_11 hk_13 hX_N_11) hk_13 rfl rfl rfl ⟨by decide, by decide⟩ rfl rfl (Nat.le_of_ble_eq_true rfl) dX4_prepare_51 rfl ?_
  intro N_14 q_15
  obtain ⟨hI_N_14, hG_N_14, hX_N_14⟩ := q_15
  have hF_N_14 : Fr f_c_X4_prepare M N_14 := Fr.c hF_N_11 hG_N_14 rfl
  refine kx_aload_n 55 F 0 dX4_prepare_54 rfl rfl rfl ?_
  refine kx_getr 58 F fl_X4_43 hk_c0 rfl rfl (j := 12) rfl dX4_prepare_55 (v := (M c0 12)) (by rw [Fr.e hG_N_14 hk_c0 _ rfl, Fr.e hG_N_11 hk_c0 _ rfl, hM_N_9, mu_i (by omega), hM_N_8, mu_i (by omega), hM_N_7, mu_i (by omega), hM_N_6, mu_i (by omega), hM_N_4, mu_i (by omega), hM_N_2, mu_i (by omega)]) rfl ?_
  have hk_16 : kd (M c0 12) = 31 := Inv.r hI_M hk_c0 rfl 12 rfl rfl
  refine kx_Vv 61 (ci := 0) F (As := []) (st := []) vd_X4_113 (c_X6_clearB G l N_14 (M c0 12) hI_N_14 hk_16 hX_N_14) hk_16 rfl rfl rfl ⟨by decide, by decide⟩ rfl rfl (Nat.le_of_ble_eq_true rfl) dX4_prepare_58 rfl ?_
  intro N_17 q_18
  obtain ⟨hI_N_17, hG_N_17, hX_N_17⟩ := q_18
  have hF_N_17 : Fr f_c_X4_prepare M N_17 := Fr.c hF_N_14 hG_N_17 rfl
  refine kx_iconst 62 F dX4_prepare_61 rfl ?_
  refine kx_istore 64 F 5 (lo' := [some (vR G c0), some (vR G c1), some (vR G c2), some (vR G c3), some (vI a4), some (vI 0)]) dX4_prepare_62 (by decide) rfl rfl rfl ?_
  have L_623 : ∀ (n_624 : Nat) (x5_621 : Int) (N_622 : Mem), Inv false N_622 → Fr f_c_X4_prepare M N_622 → XX N_622 → 0 ≤ x5_621 ∧ x5_621 ≤ 64 → (64 - (x5_621)).toNat = n_624 → KJ false G X N_622 64 [some (vR G c0), none, none, none, none, some (vI x5_621)] [] := by
    intro n_624
    refine Nat.strongRecOn n_624 ?_
    intro n_624 ih_625 x5_621 N_622 hI_N_622 hF_N_622 hX_N_622 h_626 hm_627
    refine kx_iload 66 F 5 dX4_prepare_64 rfl rfl ?_
    refine kx_aload_n 67 F 0 dX4_prepare_66 rfl rfl rfl ?_
    refine kx_geti 70 F fl_X4_116 hk_c0 rfl rfl (j := 13) rfl dX4_prepare_67 (v := (N_622 c0 13)) rfl rfl ?_
    have h_628 := Inv.g hI_N_622 hk_c0 rfl 13 (a := 0) (b := 64) rfl rfl
    refine kx_icmp_ge 73 F 92 dX4_prepare_70 (by decide) rfl (by omega) (by omega) (fun h_629 => ?_) (fun h_629 => ?_)
    · refine kx_aload_n 93 F 0 dX4_prepare_92 rfl rfl rfl ?_
      refine kx_iconst 94 F dX4_prepare_93 rfl ?_
      refine kx_puti 97 F fw_X4_116 rfl hk_c0 rfl rfl (j := 13) rfl dX4_prepare_94 rfl ?_
      intro N_630 hM_N_630
      have hI_N_630 : Inv false N_630 := Inv.u hI_N_622 hM_N_630 hk_c0 (a := 0) (b := 64) rfl rfl rfl (by omega)
      have hF_N_630 : Fr f_c_X4_prepare M N_630 := Fr.u hF_N_622 hM_N_630 hk_c0 rfl
      have hX_N_630 : XX N_630 := XX.st hX_N_622 hI_N_622 hM_N_630 hk_c0 rfl
      refine kx_iconst 98 F dX4_prepare_97 rfl ?_
      refine kx_istore 100 F 5 (lo' := [some (vR G c0), none, none, none, none, some (vI 0)]) dX4_prepare_98 (by decide) rfl rfl rfl ?_
      have L_696 : ∀ (n_697 : Nat) (x5_694 : Int) (N_695 : Mem), Inv false N_695 → Fr f_c_X4_prepare M N_695 → XX N_695 → 0 ≤ x5_694 ∧ x5_694 ≤ 7 → (7 - (x5_694)).toNat = n_697 → KJ false G X N_695 100 [some (vR G c0), none, none, none, none, some (vI x5_694)] [] := by
        intro n_697
        refine Nat.strongRecOn n_697 ?_
        intro n_697 ih_698 x5_694 N_695 hI_N_695 hF_N_695 hX_N_695 h_699 hm_700
        refine kx_iload 102 F 5 dX4_prepare_100 rfl rfl ?_
        refine kx_bipush 104 F dX4_prepare_102 (by decide) rfl ?_
        refine kx_icmp_gt 107 F 129 dX4_prepare_104 (by decide) rfl (by omega) (by decide) (fun h_701 => ?_) (fun h_701 => ?_)
        · exact kx_vret F hQ ⟨hI_N_695, hF_N_695, hX_N_695⟩ dX4_prepare_129
        · refine kx_aload_n 108 F 0 dX4_prepare_107 rfl rfl rfl ?_
          refine kx_getr 111 F fl_X4_52 hk_c0 rfl rfl (j := 16) rfl dX4_prepare_108 (v := (M c0 16)) (by rw [Fr.e hF_N_695 hk_c0 _ rfl]) rfl ?_
          have hk_702 : kd (M c0 16) = 46 := Inv.r hI_M hk_c0 rfl 16 rfl rfl
          refine kx_iload 113 F 5 dX4_prepare_111 rfl rfl ?_
          refine kx_aload_n 114 F 0 dX4_prepare_113 rfl rfl rfl ?_
          refine kx_geti 117 F fl_X4_108 hk_c0 rfl rfl (j := 5) rfl dX4_prepare_114 (v := (N_695 c0 5)) rfl rfl ?_
          have h_703 := Inv.g hI_N_695 hk_c0 rfl 5 (a := 0) (b := 6) rfl rfl
          refine kx_iload 119 F 5 dX4_prepare_117 rfl rfl ?_
          refine kx_Si 122 F (As := [vI (N_695 c0 5), vI x5_694]) (st := [vI x5_694, vR G (M c0 16)]) sd_X4_119 (c_X2_power G l N_695 (N_695 c0 5) x5_694 hI_N_695 (by omega)) ⟨by decide, by decide⟩ rfl rfl (Nat.le_of_ble_eq_true rfl) dX4_prepare_119 rfl ?_
          intro r_704 N_705 q_706
          obtain ⟨rfl, q_706c⟩ := q_706
          refine kx_iast 123 F hk_702 rfl rfl (by omega) (by decide) dX4_prepare_122 rfl ?_
          intro N_707 hM_N_707
          have hI_N_707 : Inv false N_707 := Inv.u hI_N_695 hM_N_707 hk_702 (a := (-2147483648)) (b := 2147483647) rfl rfl rfl (by omega)
          have hF_N_707 : Fr f_c_X4_prepare M N_707 := Fr.u hF_N_695 hM_N_707 hk_702 rfl
          have hX_N_707 : XX N_707 := XX.st hX_N_695 hI_N_695 hM_N_707 hk_702 rfl
          refine kx_iinc 126 F 5 (v := x5_694 + 1) (lo' := [some (vR G c0), none, none, none, none, some (vI (x5_694 + 1))]) dX4_prepare_123 rfl (by omega) (by decide) rfl rfl rfl ?_
          refine kx_goto 100 F dX4_prepare_126 (by decide) ?_
          exact ih_698 _ (by omega) (x5_694 + 1) N_707 hI_N_707 hF_N_707 hX_N_707 (by omega) rfl
      exact L_696 _ 0 N_630 hI_N_630 hF_N_630 hX_N_630 (by omega) rfl
    · refine kx_aload_n 74 F 0 dX4_prepare_73 rfl rfl rfl ?_
      refine kx_getr 77 F fl_X4_49 hk_c0 rfl rfl (j := 15) rfl dX4_prepare_74 (v := (M c0 15)) (by rw [Fr.e hF_N_622 hk_c0 _ rfl]) rfl ?_
      have hk_708 : kd (M c0 15) = 45 := Inv.r hI_M hk_c0 rfl 15 rfl rfl
      refine kx_aload_n 78 F 0 dX4_prepare_77 rfl rfl rfl ?_
      refine kx_getr 81 F fl_X4_46 hk_c0 rfl rfl (j := 14) rfl dX4_prepare_78 (v := (M c0 14)) (by rw [Fr.e hF_N_622 hk_c0 _ rfl]) rfl ?_
      have hk_709 : kd (M c0 14) = 44 := Inv.r hI_M hk_c0 rfl 14 rfl rfl
      refine kx_iload 83 F 5 dX4_prepare_81 rfl rfl ?_
      refine kx_iald 84 F hk_709 rfl rfl (by omega) (by decide) dX4_prepare_83 (v := (M (M c0 14) x5_621)) (by rw [Fr.e hF_N_622 hk_709 _ rfl]) rfl ?_
      have h_710 := Inv.g hI_M hk_709 rfl x5_621 (a := 0) (b := 511) rfl rfl
      refine kx_iconst 85 F dX4_prepare_84 rfl ?_
      refine kx_iast 86 F hk_708 rfl rfl (by omega) (by decide) dX4_prepare_85 rfl ?_
      intro N_711 hM_N_711
      have hI_N_711 : Inv false N_711 := Inv.u hI_N_622 hM_N_711 hk_708 (a := (-1)) (b := 63) rfl rfl rfl (by omega)
      have hF_N_711 : Fr f_c_X4_prepare M N_711 := Fr.u hF_N_622 hM_N_711 hk_708 rfl
      have hX_N_711 : XX N_711 := XX.st hX_N_622 hI_N_622 hM_N_711 hk_708 rfl
      refine kx_iinc 89 F 5 (v := x5_621 + 1) (lo' := [some (vR G c0), none, none, none, none, some (vI (x5_621 + 1))]) dX4_prepare_86 rfl (by omega) (by decide) rfl rfl rfl ?_
      refine kx_goto 64 F dX4_prepare_89 (by decide) ?_
      exact ih_625 _ (by omega) (x5_621 + 1) N_711 hI_N_711 hF_N_711 hX_N_711 (by omega) rfl
  refine kx_drop 1 (lo' := [some (vR G c0), none, some (vR G c2), some (vR G c3), some (vI a4), some (vI 0)]) rfl ?_
  refine kx_drop 2 (lo' := [some (vR G c0), none, none, some (vR G c3), some (vI a4), some (vI 0)]) rfl ?_
  refine kx_drop 3 (lo' := [some (vR G c0), none, none, none, some (vI a4), some (vI 0)]) rfl ?_
  refine kx_drop 4 (lo' := [some (vR G c0), none, none, none, none, some (vI 0)]) rfl ?_
  exact L_623 _ 0 N_17 hI_N_17 hF_N_17 hX_N_17 (by omega) rfl
set_option maxRecDepth 100000 in
theorem dGR_14_c_315 : (decode cX4_stateOf 0 = .ok (.iload_n 0, 1)) ∧ (decode cX4_stateOf 1 = .ok (.bipush 8, 2)) ∧ (decode cX4_stateOf 3 = .ok (.idiv, 1)) ∧ (decode cX4_stateOf 4 = .ok (.iconst 3, 1)) ∧ (decode cX4_stateOf 5 = .ok (.irem, 1)) ∧ (decode cX4_stateOf 6 = .ok (.ireturn, 1)) := by decide +kernel
theorem dX4_stateOf_0 : decode cX4_stateOf 0 = .ok (.iload_n 0, 1) := dGR_14_c_315.1
theorem dX4_stateOf_1 : decode cX4_stateOf 1 = .ok (.bipush 8, 2) := dGR_14_c_315.2.1
theorem dX4_stateOf_3 : decode cX4_stateOf 3 = .ok (.idiv, 1) := dGR_14_c_315.2.2.1
theorem dX4_stateOf_4 : decode cX4_stateOf 4 = .ok (.iconst 3, 1) := dGR_14_c_315.2.2.2.1
theorem dX4_stateOf_5 : decode cX4_stateOf 5 = .ok (.irem, 1) := dGR_14_c_315.2.2.2.2.1
theorem dX4_stateOf_6 : decode cX4_stateOf 6 = .ok (.ireturn, 1) := dGR_14_c_315.2.2.2.2.2
set_option maxHeartbeats 4000000 in
set_option maxRecDepth 100000 in
theorem c_X4_stateOf (G : KG) (l : Launch) (M : Mem) (a0 : Int) (hI_M : Inv false M) (hpre : -2147483648 ≤ a0 ∧ a0 ≤ 2147483647 ∧ 0 ≤ a0 ∧ a0 ≤ 47) : KC false G l yX4_stateOf cX4_stateOf 1 (some .int) (0, 0) [vI a0] M (fun A => kQi false G A (fun (r : Int) (N : Mem) => M = N ∧ (0 ≤ r ∧ r ≤ 2))) := by
  refine kx_met (lo := [some (vI a0)]) (by decide) (Nat.le_of_ble_eq_true rfl) rfl ?_
  intro X F hQ
  refine kx_iload_n 1 F 0 dX4_stateOf_0 rfl rfl rfl ?_
  refine kx_bipush 3 F dX4_stateOf_1 (by decide) rfl ?_
  refine kx_idiv 4 F (v := (a0 / 8)) dX4_stateOf_3 (by omega) (by decide) rfl rfl ?_
  refine kx_iconst 5 F dX4_stateOf_4 rfl ?_
  refine kx_irem 6 F (v := ((a0 / 8) % 3)) dX4_stateOf_5 (by omega) (by decide) rfl rfl ?_
  exact kx_iret F hQ ⟨rfl, (by omega)⟩ dX4_stateOf_6
set_option maxRecDepth 100000 in
theorem dGR_14_c_316 : (decode cX4_pendingOf 0 = .ok (.iload_n 0, 1)) ∧ (decode cX4_pendingOf 1 = .ok (.bipush 24, 2)) ∧ (decode cX4_pendingOf 3 = .ok (.idiv, 1)) ∧ (decode cX4_pendingOf 4 = .ok (.ireturn, 1)) := by decide +kernel
theorem dX4_pendingOf_0 : decode cX4_pendingOf 0 = .ok (.iload_n 0, 1) := dGR_14_c_316.1
theorem dX4_pendingOf_1 : decode cX4_pendingOf 1 = .ok (.bipush 24, 2) := dGR_14_c_316.2.1
theorem dX4_pendingOf_3 : decode cX4_pendingOf 3 = .ok (.idiv, 1) := dGR_14_c_316.2.2.1
theorem dX4_pendingOf_4 : decode cX4_pendingOf 4 = .ok (.ireturn, 1) := dGR_14_c_316.2.2.2
set_option maxHeartbeats 4000000 in
set_option maxRecDepth 100000 in
theorem c_X4_pendingOf (G : KG) (l : Launch) (M : Mem) (a0 : Int) (hI_M : Inv false M) (hpre : -2147483648 ≤ a0 ∧ a0 ≤ 2147483647 ∧ 0 ≤ a0 ∧ a0 ≤ 47) : KC false G l yX4_pendingOf cX4_pendingOf 1 (some .int) (0, 0) [vI a0] M (fun A => kQi false G A (fun (r : Int) (N : Mem) => M = N ∧ (0 ≤ r ∧ r ≤ 1))) := by
  refine kx_met (lo := [some (vI a0)]) (by decide) (Nat.le_of_ble_eq_true rfl) rfl ?_
  intro X F hQ
  refine kx_iload_n 1 F 0 dX4_pendingOf_0 rfl rfl rfl ?_
  refine kx_bipush 3 F dX4_pendingOf_1 (by decide) rfl ?_
  refine kx_idiv 4 F (v := (a0 / 24)) dX4_pendingOf_3 (by omega) (by decide) rfl rfl ?_
  exact kx_iret F hQ ⟨rfl, (by omega)⟩ dX4_pendingOf_4
set_option maxRecDepth 100000 in
theorem dGR_14_c_317 : (decode cX4_isSought 0 = .ok (.iload_n 1, 1)) ∧ (decode cX4_isSought 1 = .ok (.bipush 8, 2)) ∧ (decode cX4_isSought 3 = .ok (.irem, 1)) ∧ (decode cX4_isSought 4 = .ok (.aload_n 0, 1)) ∧ (decode cX4_isSought 5 = .ok (.getfield 28, 3)) ∧ (decode cX4_isSought 8 = .ok (.getfield 212, 3)) ∧ (decode cX4_isSought 11 = .ok (.iand, 1)) ∧ (decode cX4_isSought 12 = .ok (.ifCond .eq 7, 3)) ∧ (decode cX4_isSought 15 = .ok (.iconst 1, 1)) ∧ (decode cX4_isSought 16 = .ok (.goto 4, 3)) ∧ (decode cX4_isSought 19 = .ok (.iconst 0, 1)) ∧ (decode cX4_isSought 20 = .ok (.istore_n 2, 1)) := by decide +kernel
theorem dX4_isSought_0 : decode cX4_isSought 0 = .ok (.iload_n 1, 1) := dGR_14_c_317.1
theorem dX4_isSought_1 : decode cX4_isSought 1 = .ok (.bipush 8, 2) := dGR_14_c_317.2.1
theorem dX4_isSought_3 : decode cX4_isSought 3 = .ok (.irem, 1) := dGR_14_c_317.2.2.1
theorem dX4_isSought_4 : decode cX4_isSought 4 = .ok (.aload_n 0, 1) := dGR_14_c_317.2.2.2.1
theorem dX4_isSought_5 : decode cX4_isSought 5 = .ok (.getfield 28, 3) := dGR_14_c_317.2.2.2.2.1
theorem dX4_isSought_8 : decode cX4_isSought 8 = .ok (.getfield 212, 3) := dGR_14_c_317.2.2.2.2.2.1
theorem dX4_isSought_11 : decode cX4_isSought 11 = .ok (.iand, 1) := dGR_14_c_317.2.2.2.2.2.2.1
theorem dX4_isSought_12 : decode cX4_isSought 12 = .ok (.ifCond .eq 7, 3) := dGR_14_c_317.2.2.2.2.2.2.2.1
theorem dX4_isSought_15 : decode cX4_isSought 15 = .ok (.iconst 1, 1) := dGR_14_c_317.2.2.2.2.2.2.2.2.1
theorem dX4_isSought_16 : decode cX4_isSought 16 = .ok (.goto 4, 3) := dGR_14_c_317.2.2.2.2.2.2.2.2.2.1
theorem dX4_isSought_19 : decode cX4_isSought 19 = .ok (.iconst 0, 1) := dGR_14_c_317.2.2.2.2.2.2.2.2.2.2.1
theorem dX4_isSought_20 : decode cX4_isSought 20 = .ok (.istore_n 2, 1) := dGR_14_c_317.2.2.2.2.2.2.2.2.2.2.2
set_option maxRecDepth 100000 in
theorem dGR_14_c_318 : (decode cX4_isSought 21 = .ok (.aload_n 0, 1)) ∧ (decode cX4_isSought 22 = .ok (.getfield 25, 3)) ∧ (decode cX4_isSought 25 = .ok (.getfield 212, 3)) ∧ (decode cX4_isSought 28 = .ok (.iload_n 1, 1)) ∧ (decode cX4_isSought 29 = .ok (.invokestatic 203, 3)) ∧ (decode cX4_isSought 32 = .ok (.ishr, 1)) ∧ (decode cX4_isSought 33 = .ok (.iconst 1, 1)) ∧ (decode cX4_isSought 34 = .ok (.iand, 1)) ∧ (decode cX4_isSought 35 = .ok (.ifCond .eq 15, 3)) ∧ (decode cX4_isSought 38 = .ok (.iload_n 2, 1)) ∧ (decode cX4_isSought 39 = .ok (.aload_n 0, 1)) ∧ (decode cX4_isSought 40 = .ok (.getfield 109, 3)) := by decide +kernel
theorem dX4_isSought_21 : decode cX4_isSought 21 = .ok (.aload_n 0, 1) := dGR_14_c_318.1
theorem dX4_isSought_22 : decode cX4_isSought 22 = .ok (.getfield 25, 3) := dGR_14_c_318.2.1
theorem dX4_isSought_25 : decode cX4_isSought 25 = .ok (.getfield 212, 3) := dGR_14_c_318.2.2.1
theorem dX4_isSought_28 : decode cX4_isSought 28 = .ok (.iload_n 1, 1) := dGR_14_c_318.2.2.2.1
theorem dX4_isSought_29 : decode cX4_isSought 29 = .ok (.invokestatic 203, 3) := dGR_14_c_318.2.2.2.2.1
theorem dX4_isSought_32 : decode cX4_isSought 32 = .ok (.ishr, 1) := dGR_14_c_318.2.2.2.2.2.1
theorem dX4_isSought_33 : decode cX4_isSought 33 = .ok (.iconst 1, 1) := dGR_14_c_318.2.2.2.2.2.2.1
theorem dX4_isSought_34 : decode cX4_isSought 34 = .ok (.iand, 1) := dGR_14_c_318.2.2.2.2.2.2.2.1
theorem dX4_isSought_35 : decode cX4_isSought 35 = .ok (.ifCond .eq 15, 3) := dGR_14_c_318.2.2.2.2.2.2.2.2.1
theorem dX4_isSought_38 : decode cX4_isSought 38 = .ok (.iload_n 2, 1) := dGR_14_c_318.2.2.2.2.2.2.2.2.2.1
theorem dX4_isSought_39 : decode cX4_isSought 39 = .ok (.aload_n 0, 1) := dGR_14_c_318.2.2.2.2.2.2.2.2.2.2.1
theorem dX4_isSought_40 : decode cX4_isSought 40 = .ok (.getfield 109, 3) := dGR_14_c_318.2.2.2.2.2.2.2.2.2.2.2
set_option maxRecDepth 100000 in
theorem dGR_14_c_319 : (decode cX4_isSought 43 = .ok (.if_icmp .eq 7, 3)) ∧ (decode cX4_isSought 46 = .ok (.iconst 1, 1)) ∧ (decode cX4_isSought 47 = .ok (.goto 4, 3)) ∧ (decode cX4_isSought 50 = .ok (.iconst 0, 1)) ∧ (decode cX4_isSought 51 = .ok (.ireturn, 1)) := by decide +kernel
theorem dX4_isSought_43 : decode cX4_isSought 43 = .ok (.if_icmp .eq 7, 3) := dGR_14_c_319.1
theorem dX4_isSought_46 : decode cX4_isSought 46 = .ok (.iconst 1, 1) := dGR_14_c_319.2.1
theorem dX4_isSought_47 : decode cX4_isSought 47 = .ok (.goto 4, 3) := dGR_14_c_319.2.2.1
theorem dX4_isSought_50 : decode cX4_isSought 50 = .ok (.iconst 0, 1) := dGR_14_c_319.2.2.2.1
theorem dX4_isSought_51 : decode cX4_isSought 51 = .ok (.ireturn, 1) := dGR_14_c_319.2.2.2.2
set_option maxHeartbeats 4000000 in
set_option maxRecDepth 100000 in
theorem c_X4_isSought (G : KG) (l : Launch) (M : Mem) (c0 : Int) (a1 : Int) (hI_M : Inv false M) (hk_c0 : kd c0 = 41) (hpre : -2147483648 ≤ a1 ∧ a1 ≤ 2147483647 ∧ 0 ≤ a1 ∧ a1 ≤ 47) : KC false G l yX4_isSought cX4_isSought 3 (some .boolean) (1, 20) [vR G c0, vI a1] M (fun A => kQi false G A (fun (r : Int) (N : Mem) => M = N ∧ (0 ≤ r ∧ r ≤ 1))) := by
  refine kx_met (lo := [some (vR G c0), some (vI a1), none]) (by decide) (Nat.le_of_ble_eq_true rfl) rfl ?_
  intro X F hQ
  refine kx_iload_n 1 F 1 dX4_isSought_0 rfl rfl rfl ?_
  refine kx_bipush 3 F dX4_isSought_1 (by decide) rfl ?_
  refine kx_irem 4 F (v := (a1 % 8)) dX4_isSought_3 (by omega) (by decide) rfl rfl ?_
  refine kx_aload_n 5 F 0 dX4_isSought_4 rfl rfl rfl ?_
  refine kx_getr 8 F fl_X4_28 hk_c0 rfl rfl (j := 8) rfl dX4_isSought_5 (v := (M c0 8)) rfl rfl ?_
  have hk_1 : kd (M c0 8) = 1 := Inv.r hI_M hk_c0 rfl 8 rfl rfl
  refine kx_geti 11 F fl_X4_212 hk_1 rfl rfl (j := 3) rfl dX4_isSought_8 (v := (M (M c0 8) 3)) rfl rfl ?_
  have h_2 := Inv.g hI_M hk_1 rfl 3 (a := 0) (b := 7) rfl rfl
  refine kx_iand 12 F (v := (zand (a1 % 8) (M (M c0 8) 3))) dX4_isSought_11 rfl rfl ?_
  have h_3 := zand_r (a := (a1 % 8)) (b := (M (M c0 8) 3)) (by omega)
  have J_7 : ∀ (y0_6 : Int), 0 ≤ y0_6 ∧ y0_6 ≤ 1 → KJ false G X M 20 [some (vR G c0), some (vI a1), none] [vI y0_6] := by
    intro y0_6 h_8
    refine kx_istore_n 21 F 2 (lo' := [some (vR G c0), some (vI a1), some (vI y0_6)]) dX4_isSought_20 rfl (by decide) rfl rfl rfl ?_
    refine kx_aload_n 22 F 0 dX4_isSought_21 rfl rfl rfl ?_
    refine kx_getr 25 F fl_X4_25 hk_c0 rfl rfl (j := 7) rfl dX4_isSought_22 (v := (M c0 7)) rfl rfl ?_
    have hk_9 : kd (M c0 7) = 1 := Inv.r hI_M hk_c0 rfl 7 rfl rfl
    refine kx_geti 28 F fl_X4_212 hk_9 rfl rfl (j := 3) rfl dX4_isSought_25 (v := (M (M c0 7) 3)) rfl rfl ?_
    have h_10 := Inv.g hI_M hk_9 rfl 3 (a := 0) (b := 7) rfl rfl
    refine kx_iload_n 29 F 1 dX4_isSought_28 rfl rfl rfl ?_
    refine kx_Si 32 F (As := [vI a1]) (st := [vI (M (M c0 7) 3)]) sd_X4_203 (c_X4_stateOf G l M a1 hI_M (by omega)) ⟨by decide, by decide⟩ rfl rfl (Nat.le_of_ble_eq_true rfl) dX4_isSought_29 rfl ?_
    intro r_11 N_12 q_13
    obtain ⟨rfl, q_13c⟩ := q_13
    refine kx_ishr 33 F (v := (zshr (M (M c0 7) 3) r_11)) dX4_isSought_32 rfl rfl ?_
    have h_14 := zshr_r (a := (M (M c0 7) 3)) (b := r_11) (by omega)
    refine kx_iconst 34 F dX4_isSought_33 rfl ?_
    refine kx_iand 35 F (v := (zand (zshr (M (M c0 7) 3) r_11) 1)) dX4_isSought_34 rfl rfl ?_
    have h_15 := zand_r (a := (zshr (M (M c0 7) 3) r_11)) (b := 1) (by omega)
    refine kx_if_eq 38 F 50 dX4_isSought_35 (by decide) rfl (by omega) (fun h_16 => ?_) (fun h_16 => ?_)
    · refine kx_iconst 51 F dX4_isSought_50 rfl ?_
      exact kx_zret F hQ (by omega) ⟨rfl, (by omega)⟩ dX4_isSought_51
    · refine kx_iload_n 39 F 2 dX4_isSought_38 rfl rfl rfl ?_
      refine kx_aload_n 40 F 0 dX4_isSought_39 rfl rfl rfl ?_
      refine kx_geti 43 F fl_X4_109 hk_c0 rfl rfl (j := 9) rfl dX4_isSought_40 (v := (M c0 9)) rfl rfl ?_
      have h_17 := Inv.g hI_M hk_c0 rfl 9 (a := 0) (b := 1) rfl rfl
      refine kx_icmp_eq 46 F 50 dX4_isSought_43 (by decide) rfl (by omega) (by omega) (fun h_18 => ?_) (fun h_18 => ?_)
      · refine kx_iconst 51 F dX4_isSought_50 rfl ?_
        exact kx_zret F hQ (by omega) ⟨rfl, (by omega)⟩ dX4_isSought_51
      · refine kx_iconst 47 F dX4_isSought_46 rfl ?_
        refine kx_goto 51 F dX4_isSought_47 (by decide) ?_
        exact kx_zret F hQ (by omega) ⟨rfl, (by omega)⟩ dX4_isSought_51
  refine kx_if_eq 15 F 19 dX4_isSought_12 (by decide) rfl (by omega) (fun h_19 => ?_) (fun h_19 => ?_)
  · refine kx_iconst 20 F dX4_isSought_19 rfl ?_
    exact J_7 0 (by omega)
  · refine kx_iconst 16 F dX4_isSought_15 rfl ?_
    refine kx_goto 20 F dX4_isSought_16 (by decide) ?_
    exact J_7 1 (by omega)
set_option maxRecDepth 100000 in
theorem dGR_14_c_320 : (decode cX4_offerNodes 0 = .ok (.iconst 0, 1)) ∧ (decode cX4_offerNodes 1 = .ok (.istore 6, 2)) ∧ (decode cX4_offerNodes 3 = .ok (.iload 6, 2)) ∧ (decode cX4_offerNodes 5 = .ok (.iconst 3, 1)) ∧ (decode cX4_offerNodes 6 = .ok (.if_icmp .ge 99, 3)) ∧ (decode cX4_offerNodes 9 = .ok (.iload_n 2, 1)) ∧ (decode cX4_offerNodes 10 = .ok (.iload 6, 2)) ∧ (decode cX4_offerNodes 12 = .ok (.ishr, 1)) ∧ (decode cX4_offerNodes 13 = .ok (.iconst 1, 1)) ∧ (decode cX4_offerNodes 14 = .ok (.iand, 1)) ∧ (decode cX4_offerNodes 15 = .ok (.ifCond .ne 6, 3)) ∧ (decode cX4_offerNodes 18 = .ok (.goto 81, 3)) := by decide +kernel
theorem dX4_offerNodes_0 : decode cX4_offerNodes 0 = .ok (.iconst 0, 1) := dGR_14_c_320.1
theorem dX4_offerNodes_1 : decode cX4_offerNodes 1 = .ok (.istore 6, 2) := dGR_14_c_320.2.1
theorem dX4_offerNodes_3 : decode cX4_offerNodes 3 = .ok (.iload 6, 2) := dGR_14_c_320.2.2.1
theorem dX4_offerNodes_5 : decode cX4_offerNodes 5 = .ok (.iconst 3, 1) := dGR_14_c_320.2.2.2.1
theorem dX4_offerNodes_6 : decode cX4_offerNodes 6 = .ok (.if_icmp .ge 99, 3) := dGR_14_c_320.2.2.2.2.1
theorem dX4_offerNodes_9 : decode cX4_offerNodes 9 = .ok (.iload_n 2, 1) := dGR_14_c_320.2.2.2.2.2.1
theorem dX4_offerNodes_10 : decode cX4_offerNodes 10 = .ok (.iload 6, 2) := dGR_14_c_320.2.2.2.2.2.2.1
theorem dX4_offerNodes_12 : decode cX4_offerNodes 12 = .ok (.ishr, 1) := dGR_14_c_320.2.2.2.2.2.2.2.1
theorem dX4_offerNodes_13 : decode cX4_offerNodes 13 = .ok (.iconst 1, 1) := dGR_14_c_320.2.2.2.2.2.2.2.2.1
theorem dX4_offerNodes_14 : decode cX4_offerNodes 14 = .ok (.iand, 1) := dGR_14_c_320.2.2.2.2.2.2.2.2.2.1
theorem dX4_offerNodes_15 : decode cX4_offerNodes 15 = .ok (.ifCond .ne 6, 3) := dGR_14_c_320.2.2.2.2.2.2.2.2.2.2.1
theorem dX4_offerNodes_18 : decode cX4_offerNodes 18 = .ok (.goto 81, 3) := dGR_14_c_320.2.2.2.2.2.2.2.2.2.2.2
set_option maxRecDepth 100000 in
theorem dGR_14_c_321 : (decode cX4_offerNodes 21 = .ok (.iload_n 1, 1)) ∧ (decode cX4_offerNodes 22 = .ok (.iconst 3, 1)) ∧ (decode cX4_offerNodes 23 = .ok (.imul, 1)) ∧ (decode cX4_offerNodes 24 = .ok (.iload 6, 2)) ∧ (decode cX4_offerNodes 26 = .ok (.iadd, 1)) ∧ (decode cX4_offerNodes 27 = .ok (.bipush 8, 2)) ∧ (decode cX4_offerNodes 29 = .ok (.imul, 1)) ∧ (decode cX4_offerNodes 30 = .ok (.istore 7, 2)) ∧ (decode cX4_offerNodes 32 = .ok (.aload_n 0, 1)) ∧ (decode cX4_offerNodes 33 = .ok (.getfield 109, 3)) ∧ (decode cX4_offerNodes 36 = .ok (.ifCond .eq 21, 3)) ∧ (decode cX4_offerNodes 39 = .ok (.aload_n 0, 1)) := by decide +kernel
theorem dX4_offerNodes_21 : decode cX4_offerNodes 21 = .ok (.iload_n 1, 1) := dGR_14_c_321.1
theorem dX4_offerNodes_22 : decode cX4_offerNodes 22 = .ok (.iconst 3, 1) := dGR_14_c_321.2.1
theorem dX4_offerNodes_23 : decode cX4_offerNodes 23 = .ok (.imul, 1) := dGR_14_c_321.2.2.1
theorem dX4_offerNodes_24 : decode cX4_offerNodes 24 = .ok (.iload 6, 2) := dGR_14_c_321.2.2.2.1
theorem dX4_offerNodes_26 : decode cX4_offerNodes 26 = .ok (.iadd, 1) := dGR_14_c_321.2.2.2.2.1
theorem dX4_offerNodes_27 : decode cX4_offerNodes 27 = .ok (.bipush 8, 2) := dGR_14_c_321.2.2.2.2.2.1
theorem dX4_offerNodes_29 : decode cX4_offerNodes 29 = .ok (.imul, 1) := dGR_14_c_321.2.2.2.2.2.2.1
theorem dX4_offerNodes_30 : decode cX4_offerNodes 30 = .ok (.istore 7, 2) := dGR_14_c_321.2.2.2.2.2.2.2.1
theorem dX4_offerNodes_32 : decode cX4_offerNodes 32 = .ok (.aload_n 0, 1) := dGR_14_c_321.2.2.2.2.2.2.2.2.1
theorem dX4_offerNodes_33 : decode cX4_offerNodes 33 = .ok (.getfield 109, 3) := dGR_14_c_321.2.2.2.2.2.2.2.2.2.1
theorem dX4_offerNodes_36 : decode cX4_offerNodes 36 = .ok (.ifCond .eq 21, 3) := dGR_14_c_321.2.2.2.2.2.2.2.2.2.2.1
theorem dX4_offerNodes_39 : decode cX4_offerNodes 39 = .ok (.aload_n 0, 1) := dGR_14_c_321.2.2.2.2.2.2.2.2.2.2.2
set_option maxRecDepth 100000 in
theorem dGR_14_c_322 : (decode cX4_offerNodes 40 = .ok (.getfield 43, 3)) ∧ (decode cX4_offerNodes 43 = .ok (.iload 7, 2)) ∧ (decode cX4_offerNodes 45 = .ok (.iload_n 3, 1)) ∧ (decode cX4_offerNodes 46 = .ok (.iadd, 1)) ∧ (decode cX4_offerNodes 47 = .ok (.iload 4, 2)) ∧ (decode cX4_offerNodes 49 = .ok (.iload 5, 2)) ∧ (decode cX4_offerNodes 51 = .ok (.invokevirtual 122, 3)) ∧ (decode cX4_offerNodes 54 = .ok (.goto 45, 3)) ∧ (decode cX4_offerNodes 57 = .ok (.iconst 1, 1)) ∧ (decode cX4_offerNodes 58 = .ok (.istore 8, 2)) ∧ (decode cX4_offerNodes 60 = .ok (.iload 8, 2)) ∧ (decode cX4_offerNodes 62 = .ok (.bipush 8, 2)) := by decide +kernel
theorem dX4_offerNodes_40 : decode cX4_offerNodes 40 = .ok (.getfield 43, 3) := dGR_14_c_322.1
theorem dX4_offerNodes_43 : decode cX4_offerNodes 43 = .ok (.iload 7, 2) := dGR_14_c_322.2.1
theorem dX4_offerNodes_45 : decode cX4_offerNodes 45 = .ok (.iload_n 3, 1) := dGR_14_c_322.2.2.1
theorem dX4_offerNodes_46 : decode cX4_offerNodes 46 = .ok (.iadd, 1) := dGR_14_c_322.2.2.2.1
theorem dX4_offerNodes_47 : decode cX4_offerNodes 47 = .ok (.iload 4, 2) := dGR_14_c_322.2.2.2.2.1
theorem dX4_offerNodes_49 : decode cX4_offerNodes 49 = .ok (.iload 5, 2) := dGR_14_c_322.2.2.2.2.2.1
theorem dX4_offerNodes_51 : decode cX4_offerNodes 51 = .ok (.invokevirtual 122, 3) := dGR_14_c_322.2.2.2.2.2.2.1
theorem dX4_offerNodes_54 : decode cX4_offerNodes 54 = .ok (.goto 45, 3) := dGR_14_c_322.2.2.2.2.2.2.2.1
theorem dX4_offerNodes_57 : decode cX4_offerNodes 57 = .ok (.iconst 1, 1) := dGR_14_c_322.2.2.2.2.2.2.2.2.1
theorem dX4_offerNodes_58 : decode cX4_offerNodes 58 = .ok (.istore 8, 2) := dGR_14_c_322.2.2.2.2.2.2.2.2.2.1
theorem dX4_offerNodes_60 : decode cX4_offerNodes 60 = .ok (.iload 8, 2) := dGR_14_c_322.2.2.2.2.2.2.2.2.2.2.1
theorem dX4_offerNodes_62 : decode cX4_offerNodes 62 = .ok (.bipush 8, 2) := dGR_14_c_322.2.2.2.2.2.2.2.2.2.2.2
set_option maxRecDepth 100000 in
theorem dGR_14_c_323 : (decode cX4_offerNodes 64 = .ok (.if_icmp .ge 35, 3)) ∧ (decode cX4_offerNodes 67 = .ok (.iload_n 3, 1)) ∧ (decode cX4_offerNodes 68 = .ok (.iload 8, 2)) ∧ (decode cX4_offerNodes 70 = .ok (.iand, 1)) ∧ (decode cX4_offerNodes 71 = .ok (.ifCond .eq 19, 3)) ∧ (decode cX4_offerNodes 74 = .ok (.aload_n 0, 1)) ∧ (decode cX4_offerNodes 75 = .ok (.getfield 43, 3)) ∧ (decode cX4_offerNodes 78 = .ok (.iload 7, 2)) ∧ (decode cX4_offerNodes 80 = .ok (.iload 8, 2)) ∧ (decode cX4_offerNodes 82 = .ok (.iadd, 1)) ∧ (decode cX4_offerNodes 83 = .ok (.iload 4, 2)) ∧ (decode cX4_offerNodes 85 = .ok (.iload 5, 2)) := by decide +kernel
theorem dX4_offerNodes_64 : decode cX4_offerNodes 64 = .ok (.if_icmp .ge 35, 3) := dGR_14_c_323.1
theorem dX4_offerNodes_67 : decode cX4_offerNodes 67 = .ok (.iload_n 3, 1) := dGR_14_c_323.2.1
theorem dX4_offerNodes_68 : decode cX4_offerNodes 68 = .ok (.iload 8, 2) := dGR_14_c_323.2.2.1
theorem dX4_offerNodes_70 : decode cX4_offerNodes 70 = .ok (.iand, 1) := dGR_14_c_323.2.2.2.1
theorem dX4_offerNodes_71 : decode cX4_offerNodes 71 = .ok (.ifCond .eq 19, 3) := dGR_14_c_323.2.2.2.2.1
theorem dX4_offerNodes_74 : decode cX4_offerNodes 74 = .ok (.aload_n 0, 1) := dGR_14_c_323.2.2.2.2.2.1
theorem dX4_offerNodes_75 : decode cX4_offerNodes 75 = .ok (.getfield 43, 3) := dGR_14_c_323.2.2.2.2.2.2.1
theorem dX4_offerNodes_78 : decode cX4_offerNodes 78 = .ok (.iload 7, 2) := dGR_14_c_323.2.2.2.2.2.2.2.1
theorem dX4_offerNodes_80 : decode cX4_offerNodes 80 = .ok (.iload 8, 2) := dGR_14_c_323.2.2.2.2.2.2.2.2.1
theorem dX4_offerNodes_82 : decode cX4_offerNodes 82 = .ok (.iadd, 1) := dGR_14_c_323.2.2.2.2.2.2.2.2.2.1
theorem dX4_offerNodes_83 : decode cX4_offerNodes 83 = .ok (.iload 4, 2) := dGR_14_c_323.2.2.2.2.2.2.2.2.2.2.1
theorem dX4_offerNodes_85 : decode cX4_offerNodes 85 = .ok (.iload 5, 2) := dGR_14_c_323.2.2.2.2.2.2.2.2.2.2.2
set_option maxRecDepth 100000 in
theorem dGR_14_c_324 : (decode cX4_offerNodes 87 = .ok (.invokevirtual 122, 3)) ∧ (decode cX4_offerNodes 90 = .ok (.iload 8, 2)) ∧ (decode cX4_offerNodes 92 = .ok (.iconst 1, 1)) ∧ (decode cX4_offerNodes 93 = .ok (.ishl, 1)) ∧ (decode cX4_offerNodes 94 = .ok (.istore 8, 2)) ∧ (decode cX4_offerNodes 96 = .ok (.goto (-36), 3)) ∧ (decode cX4_offerNodes 99 = .ok (.iinc 6 1, 3)) ∧ (decode cX4_offerNodes 102 = .ok (.goto (-99), 3)) ∧ (decode cX4_offerNodes 105 = .ok (.return_, 1)) := by decide +kernel
theorem dX4_offerNodes_87 : decode cX4_offerNodes 87 = .ok (.invokevirtual 122, 3) := dGR_14_c_324.1
theorem dX4_offerNodes_90 : decode cX4_offerNodes 90 = .ok (.iload 8, 2) := dGR_14_c_324.2.1
theorem dX4_offerNodes_92 : decode cX4_offerNodes 92 = .ok (.iconst 1, 1) := dGR_14_c_324.2.2.1
theorem dX4_offerNodes_93 : decode cX4_offerNodes 93 = .ok (.ishl, 1) := dGR_14_c_324.2.2.2.1
theorem dX4_offerNodes_94 : decode cX4_offerNodes 94 = .ok (.istore 8, 2) := dGR_14_c_324.2.2.2.2.1
theorem dX4_offerNodes_96 : decode cX4_offerNodes 96 = .ok (.goto (-36), 3) := dGR_14_c_324.2.2.2.2.2.1
theorem dX4_offerNodes_99 : decode cX4_offerNodes 99 = .ok (.iinc 6 1, 3) := dGR_14_c_324.2.2.2.2.2.2.1
theorem dX4_offerNodes_102 : decode cX4_offerNodes 102 = .ok (.goto (-99), 3) := dGR_14_c_324.2.2.2.2.2.2.2.1
theorem dX4_offerNodes_105 : decode cX4_offerNodes 105 = .ok (.return_, 1) := dGR_14_c_324.2.2.2.2.2.2.2.2
abbrev f_c_X4_offerNodes : List (Nat × Int) := [(31, 0), (32, -1), (33, -1), (34, -1), (35, -1)]
set_option maxHeartbeats 4000000 in
set_option maxRecDepth 100000 in
theorem c_X4_offerNodes (G : KG) (l : Launch) (M : Mem) (c0 : Int) (a1 : Int) (a2 : Int) (a3 : Int) (a4 : Int) (a5 : Int) (hI_M : Inv false M) (hk_c0 : kd c0 = 41) (hpre : -2147483648 ≤ a1 ∧ a1 ≤ 2147483647 ∧ -2147483648 ≤ a2 ∧ a2 ≤ 2147483647 ∧ -2147483648 ≤ a3 ∧ a3 ≤ 2147483647 ∧ -2147483648 ≤ a4 ∧ a4 ≤ 2147483647 ∧ -2147483648 ≤ a5 ∧ a5 ≤ 2147483647 ∧ 0 ≤ a1 ∧ a1 ≤ 1 ∧ 0 ≤ a2 ∧ a2 ≤ 7 ∧ 0 ≤ a3 ∧ a3 ≤ 7 ∧ 0 ≤ a4 ∧ a4 ≤ 1000000000) (hX_M : XX M) : KC false G l yX4_offerNodes cX4_offerNodes 9 none (2, 46) [vR G c0, vI a1, vI a2, vI a3, vI a4, vI a5] M (fun A => kQv false G A (fun (N : Mem) => Inv false N ∧ Fr f_c_X4_offerNodes M N ∧ XX N)) := by
  refine kx_met (lo := [some (vR G c0), some (vI a1), some (vI a2), some (vI a3), some (vI a4), some (vI a5), none, none, none]) (by decide) (Nat.le_of_ble_eq_true rfl) rfl ?_
  intro X F hQ
  have hF_M : Fr f_c_X4_offerNodes M M := Fr.rf _ _
  refine kx_iconst 1 F dX4_offerNodes_0 rfl ?_
  refine kx_istore 3 F 6 (lo' := [some (vR G c0), some (vI a1), some (vI a2), some (vI a3), some (vI a4), some (vI a5), some (vI 0), none, none]) dX4_offerNodes_1 (by decide) rfl rfl rfl ?_
  have L_291 : ∀ (n_292 : Nat) (x6_289 : Int) (N_290 : Mem), Inv false N_290 → Fr f_c_X4_offerNodes M N_290 → XX N_290 → 0 ≤ x6_289 ∧ x6_289 ≤ 3 → (3 - (x6_289)).toNat = n_292 → KJ false G X N_290 3 [some (vR G c0), some (vI a1), some (vI a2), some (vI a3), some (vI a4), some (vI a5), some (vI x6_289), none, none] [] := by
    intro n_292
    refine Nat.strongRecOn n_292 ?_
    intro n_292 ih_293 x6_289 N_290 hI_N_290 hF_N_290 hX_N_290 h_294 hm_295
    refine kx_iload 5 F 6 dX4_offerNodes_3 rfl rfl ?_
    refine kx_iconst 6 F dX4_offerNodes_5 rfl ?_
    refine kx_icmp_ge 9 F 105 dX4_offerNodes_6 (by decide) rfl (by omega) (by decide) (fun h_296 => ?_) (fun h_296 => ?_)
    · exact kx_vret F hQ ⟨hI_N_290, hF_N_290, hX_N_290⟩ dX4_offerNodes_105
    · refine kx_iload_n 10 F 2 dX4_offerNodes_9 rfl rfl rfl ?_
      refine kx_iload 12 F 6 dX4_offerNodes_10 rfl rfl ?_
      refine kx_ishr 13 F (v := (zshr a2 x6_289)) dX4_offerNodes_12 rfl rfl ?_
      have h_297 := zshr_r (a := a2) (b := x6_289) (by omega)
      refine kx_iconst 14 F dX4_offerNodes_13 rfl ?_
      refine kx_iand 15 F (v := (zand (zshr a2 x6_289) 1)) dX4_offerNodes_14 rfl rfl ?_
      have h_298 := zand_r (a := (zshr a2 x6_289)) (b := 1) (by omega)
      have J_367 : ∀ (N_366 : Mem), Inv false N_366 → Fr f_c_X4_offerNodes M N_366 → XX N_366 → KJ false G X N_366 99 [some (vR G c0), some (vI a1), some (vI a2), some (vI a3), some (vI a4), some (vI a5), some (vI x6_289), none, none] [] := by
        intro N_366 hI_N_366 hF_N_366 hX_N_366
        refine kx_iinc 102 F 6 (v := x6_289 + 1) (lo' := [some (vR G c0), some (vI a1), some (vI a2), some (vI a3), some (vI a4), some (vI a5), some (vI (x6_289 + 1)), none, none]) dX4_offerNodes_99 rfl (by omega) (by decide) rfl rfl rfl ?_
        refine kx_goto 3 F dX4_offerNodes_102 (by decide) ?_
        exact ih_293 _ (by omega) (x6_289 + 1) N_366 hI_N_366 hF_N_366 hX_N_366 (by omega) rfl
      refine kx_if_ne 18 F 21 dX4_offerNodes_15 (by decide) rfl (by omega) (fun h_369 => ?_) (fun h_369 => ?_)
      · refine kx_iload_n 22 F 1 dX4_offerNodes_21 rfl rfl rfl ?_
        refine kx_iconst 23 F dX4_offerNodes_22 rfl ?_
        refine kx_imul 24 F (v := 3 * a1) dX4_offerNodes_23 (by omega) rfl ?_
        refine kx_iload 26 F 6 dX4_offerNodes_24 rfl rfl ?_
        refine kx_iadd 27 F (v := 3 * a1 + x6_289) dX4_offerNodes_26 rfl rfl ?_
        refine kx_bipush 29 F dX4_offerNodes_27 (by decide) rfl ?_
        refine kx_imul 30 F (v := 24 * a1 + 8 * x6_289) dX4_offerNodes_29 (by omega) rfl ?_
        refine kx_istore 32 F 7 (lo' := [some (vR G c0), some (vI a1), some (vI a2), some (vI a3), some (vI a4), some (vI a5), some (vI x6_289), some (vI (24 * a1 + 8 * x6_289)), none]) dX4_offerNodes_30 (by decide) rfl rfl rfl ?_
        refine kx_aload_n 33 F 0 dX4_offerNodes_32 rfl rfl rfl ?_
        refine kx_geti 36 F fl_X4_109 hk_c0 rfl rfl (j := 9) rfl dX4_offerNodes_33 (v := (M c0 9)) (by rw [Fr.e hF_N_290 hk_c0 _ rfl]) rfl ?_
        have h_370 := Inv.g hI_M hk_c0 rfl 9 (a := 0) (b := 1) rfl rfl
        refine kx_if_eq 39 F 57 dX4_offerNodes_36 (by decide) rfl (by omega) (fun h_371 => ?_) (fun h_371 => ?_)
        · refine kx_iconst 58 F dX4_offerNodes_57 rfl ?_
          refine kx_istore 60 F 8 (lo' := [some (vR G c0), some (vI a1), some (vI a2), some (vI a3), some (vI a4), some (vI a5), some (vI x6_289), some (vI (24 * a1 + 8 * x6_289)), some (vI 1)]) dX4_offerNodes_58 (by decide) rfl rfl rfl ?_
          have L_422 : ∀ (n_423 : Nat) (x8_420 : Int) (N_421 : Mem), Inv false N_421 → Fr f_c_X4_offerNodes M N_421 → XX N_421 → 1 ≤ x8_420 ∧ x8_420 ≤ 14 → (14 - (x8_420)).toNat = n_423 → KJ false G X N_421 60 [some (vR G c0), some (vI a1), some (vI a2), some (vI a3), some (vI a4), some (vI a5), some (vI x6_289), some (vI (24 * a1 + 8 * x6_289)), some (vI x8_420)] [] := by
            intro n_423
            refine Nat.strongRecOn n_423 ?_
            intro n_423 ih_424 x8_420 N_421 hI_N_421 hF_N_421 hX_N_421 h_425 hm_426
            refine kx_iload 62 F 8 dX4_offerNodes_60 rfl rfl ?_
            refine kx_bipush 64 F dX4_offerNodes_62 (by decide) rfl ?_
            refine kx_icmp_ge 67 F 99 dX4_offerNodes_64 (by decide) rfl (by omega) (by decide) (fun h_427 => ?_) (fun h_427 => ?_)
            · refine kx_drop 7 (lo' := [some (vR G c0), some (vI a1), some (vI a2), some (vI a3), some (vI a4), some (vI a5), some (vI x6_289), none, some (vI x8_420)]) rfl ?_
              refine kx_drop 8 (lo' := [some (vR G c0), some (vI a1), some (vI a2), some (vI a3), some (vI a4), some (vI a5), some (vI x6_289), none, none]) rfl ?_
              exact J_367 N_421 hI_N_421 hF_N_421 hX_N_421
            · refine kx_iload_n 68 F 3 dX4_offerNodes_67 rfl rfl rfl ?_
              refine kx_iload 70 F 8 dX4_offerNodes_68 rfl rfl ?_
              refine kx_iand 71 F (v := (zand a3 x8_420)) dX4_offerNodes_70 rfl rfl ?_
              have h_428 := zand_r (a := a3) (b := x8_420) (by omega)
              have J_434 : ∀ (N_433 : Mem), Inv false N_433 → Fr f_c_X4_offerNodes M N_433 → XX N_433 → KJ false G X N_433 90 [some (vR G c0), some (vI a1), some (vI a2), some (vI a3), some (vI a4), some (vI a5), some (vI x6_289), some (vI (24 * a1 + 8 * x6_289)), some (vI x8_420)] [] := by
                intro N_433 hI_N_433 hF_N_433 hX_N_433
                refine kx_iload 92 F 8 dX4_offerNodes_90 rfl rfl ?_
                refine kx_iconst 93 F dX4_offerNodes_92 rfl ?_
                refine kx_ishl 94 F (v := 2 * x8_420) dX4_offerNodes_93 ((zshl_c 1 (by decide) (by omega)).trans (by omega)) rfl ?_
                refine kx_istore 96 F 8 (lo' := [some (vR G c0), some (vI a1), some (vI a2), some (vI a3), some (vI a4), some (vI a5), some (vI x6_289), some (vI (24 * a1 + 8 * x6_289)), some (vI (2 * x8_420))]) dX4_offerNodes_94 (by decide) rfl rfl rfl ?_
                refine kx_goto 60 F dX4_offerNodes_96 (by decide) ?_
                exact ih_424 _ (by omega) (2 * x8_420) N_433 hI_N_433 hF_N_433 hX_N_433 (by omega) rfl
              refine kx_if_eq 74 F 90 dX4_offerNodes_71 (by decide) rfl (by omega) (fun h_436 => ?_) (fun h_436 => ?_)
              · exact J_434 N_421 hI_N_421 hF_N_421 hX_N_421
              · refine kx_aload_n 75 F 0 dX4_offerNodes_74 rfl rfl rfl ?_
                refine kx_getr 78 F fl_X4_43 hk_c0 rfl rfl (j := 12) rfl dX4_offerNodes_75 (v := (M c0 12)) (by rw [Fr.e hF_N_421 hk_c0 _ rfl]) rfl ?_
                have hk_437 : kd (M c0 12) = 31 := Inv.r hI_M hk_c0 rfl 12 rfl rfl
                refine kx_iload 80 F 7 dX4_offerNodes_78 rfl rfl ?_
                refine kx_iload 82 F 8 dX4_offerNodes_80 rfl rfl ?_
                refine kx_iadd 83 F (v := 24 * a1 + 8 * x6_289 + x8_420) dX4_offerNodes_82 rfl rfl ?_
                refine kx_iload 85 F 4 dX4_offerNodes_83 rfl rfl ?_
                refine kx_iload 87 F 5 dX4_offerNodes_85 rfl rfl ?_
                refine kx_Vv 90 (ci := 0) F (As := [vI (24 * a1 + 8 * x6_289 + x8_420), vI a4, vI a5]) (st := []) vd_X4_122 (c_X6_offerB G l N_421 (M c0 12) (24 * a1 + 8 * x6_289 + x8_420) a4 a5 hI_N_421 hk_437 (by omega) hX_N_421) hk_437 rfl rfl rfl ⟨by decide, by decide⟩ rfl rfl (Nat.le_of_ble_eq_true rfl) dX4_offerNodes_87 rfl ?_
                intro N_438 q_439
                obtain ⟨hI_N_438, hG_N_438, hX_N_438⟩ := q_439
                have hF_N_438 : Fr f_c_X4_offerNodes M N_438 := Fr.c hF_N_421 hG_N_438 rfl
                exact J_434 N_438 hI_N_438 hF_N_438 hX_N_438
          exact L_422 _ 1 N_290 hI_N_290 hF_N_290 hX_N_290 (by omega) rfl
        · refine kx_aload_n 40 F 0 dX4_offerNodes_39 rfl rfl rfl ?_
          refine kx_getr 43 F fl_X4_43 hk_c0 rfl rfl (j := 12) rfl dX4_offerNodes_40 (v := (M c0 12)) (by rw [Fr.e hF_N_290 hk_c0 _ rfl]) rfl ?_
          have hk_440 : kd (M c0 12) = 31 := Inv.r hI_M hk_c0 rfl 12 rfl rfl
          refine kx_iload 45 F 7 dX4_offerNodes_43 rfl rfl ?_
          refine kx_iload_n 46 F 3 dX4_offerNodes_45 rfl rfl rfl ?_
          refine kx_iadd 47 F (v := 24 * a1 + 8 * x6_289 + a3) dX4_offerNodes_46 rfl rfl ?_
          refine kx_iload 49 F 4 dX4_offerNodes_47 rfl rfl ?_
          refine kx_iload 51 F 5 dX4_offerNodes_49 rfl rfl ?_
          refine kx_Vv 54 (ci := 0) F (As := [vI (24 * a1 + 8 * x6_289 + a3), vI a4, vI a5]) (st := []) vd_X4_122 (c_X6_offerB G l N_290 (M c0 12) (24 * a1 + 8 * x6_289 + a3) a4 a5 hI_N_290 hk_440 (by omega) hX_N_290) hk_440 rfl rfl rfl ⟨by decide, by decide⟩ rfl rfl (Nat.le_of_ble_eq_true rfl) dX4_offerNodes_51 rfl ?_
          intro N_441 q_442
          obtain ⟨hI_N_441, hG_N_441, hX_N_441⟩ := q_442
          have hF_N_441 : Fr f_c_X4_offerNodes M N_441 := Fr.c hF_N_290 hG_N_441 rfl
          refine kx_goto 99 F dX4_offerNodes_54 (by decide) ?_
          refine kx_drop 7 (lo' := [some (vR G c0), some (vI a1), some (vI a2), some (vI a3), some (vI a4), some (vI a5), some (vI x6_289), none, none]) rfl ?_
          exact J_367 N_441 hI_N_441 hF_N_441 hX_N_441
      · refine kx_goto 99 F dX4_offerNodes_18 (by decide) ?_
        exact J_367 N_290 hI_N_290 hF_N_290 hX_N_290
  exact L_291 _ 0 M hI_M hF_M hX_M (by omega) rfl
set_option maxRecDepth 100000 in
theorem dGR_14_c_325 : (decode cX4_followBlocks 0 = .ok (.aload_n 0, 1)) ∧ (decode cX4_followBlocks 1 = .ok (.getfield 43, 3)) ∧ (decode cX4_followBlocks 4 = .ok (.getfield 94, 3)) ∧ (decode cX4_followBlocks 7 = .ok (.iload_n 1, 1)) ∧ (decode cX4_followBlocks 8 = .ok (.iaload, 1)) ∧ (decode cX4_followBlocks 9 = .ok (.istore_n 2, 1)) ∧ (decode cX4_followBlocks 10 = .ok (.iconst 0, 1)) ∧ (decode cX4_followBlocks 11 = .ok (.istore_n 3, 1)) ∧ (decode cX4_followBlocks 12 = .ok (.iload_n 3, 1)) ∧ (decode cX4_followBlocks 13 = .ok (.aload_n 0, 1)) ∧ (decode cX4_followBlocks 14 = .ok (.getfield 40, 3)) ∧ (decode cX4_followBlocks 17 = .ok (.getfield 150, 3)) := by decide +kernel
theorem dX4_followBlocks_0 : decode cX4_followBlocks 0 = .ok (.aload_n 0, 1) := dGR_14_c_325.1
theorem dX4_followBlocks_1 : decode cX4_followBlocks 1 = .ok (.getfield 43, 3) := dGR_14_c_325.2.1
theorem dX4_followBlocks_4 : decode cX4_followBlocks 4 = .ok (.getfield 94, 3) := dGR_14_c_325.2.2.1
theorem dX4_followBlocks_7 : decode cX4_followBlocks 7 = .ok (.iload_n 1, 1) := dGR_14_c_325.2.2.2.1
theorem dX4_followBlocks_8 : decode cX4_followBlocks 8 = .ok (.iaload, 1) := dGR_14_c_325.2.2.2.2.1
theorem dX4_followBlocks_9 : decode cX4_followBlocks 9 = .ok (.istore_n 2, 1) := dGR_14_c_325.2.2.2.2.2.1
theorem dX4_followBlocks_10 : decode cX4_followBlocks 10 = .ok (.iconst 0, 1) := dGR_14_c_325.2.2.2.2.2.2.1
theorem dX4_followBlocks_11 : decode cX4_followBlocks 11 = .ok (.istore_n 3, 1) := dGR_14_c_325.2.2.2.2.2.2.2.1
theorem dX4_followBlocks_12 : decode cX4_followBlocks 12 = .ok (.iload_n 3, 1) := dGR_14_c_325.2.2.2.2.2.2.2.2.1
theorem dX4_followBlocks_13 : decode cX4_followBlocks 13 = .ok (.aload_n 0, 1) := dGR_14_c_325.2.2.2.2.2.2.2.2.2.1
theorem dX4_followBlocks_14 : decode cX4_followBlocks 14 = .ok (.getfield 40, 3) := dGR_14_c_325.2.2.2.2.2.2.2.2.2.2.1
theorem dX4_followBlocks_17 : decode cX4_followBlocks 17 = .ok (.getfield 150, 3) := dGR_14_c_325.2.2.2.2.2.2.2.2.2.2.2
set_option maxRecDepth 100000 in
theorem dGR_14_c_326 : (decode cX4_followBlocks 20 = .ok (.if_icmp .ge 117, 3)) ∧ (decode cX4_followBlocks 23 = .ok (.aload_n 0, 1)) ∧ (decode cX4_followBlocks 24 = .ok (.getfield 40, 3)) ∧ (decode cX4_followBlocks 27 = .ok (.getfield 153, 3)) ∧ (decode cX4_followBlocks 30 = .ok (.iload_n 3, 1)) ∧ (decode cX4_followBlocks 31 = .ok (.iaload, 1)) ∧ (decode cX4_followBlocks 32 = .ok (.istore 4, 2)) ∧ (decode cX4_followBlocks 34 = .ok (.iload 4, 2)) ∧ (decode cX4_followBlocks 36 = .ok (.bipush 64, 2)) ∧ (decode cX4_followBlocks 38 = .ok (.idiv, 1)) ∧ (decode cX4_followBlocks 39 = .ok (.istore 5, 2)) ∧ (decode cX4_followBlocks 41 = .ok (.iload 5, 2)) := by decide +kernel
theorem dX4_followBlocks_20 : decode cX4_followBlocks 20 = .ok (.if_icmp .ge 117, 3) := dGR_14_c_326.1
theorem dX4_followBlocks_23 : decode cX4_followBlocks 23 = .ok (.aload_n 0, 1) := dGR_14_c_326.2.1
theorem dX4_followBlocks_24 : decode cX4_followBlocks 24 = .ok (.getfield 40, 3) := dGR_14_c_326.2.2.1
theorem dX4_followBlocks_27 : decode cX4_followBlocks 27 = .ok (.getfield 153, 3) := dGR_14_c_326.2.2.2.1
theorem dX4_followBlocks_30 : decode cX4_followBlocks 30 = .ok (.iload_n 3, 1) := dGR_14_c_326.2.2.2.2.1
theorem dX4_followBlocks_31 : decode cX4_followBlocks 31 = .ok (.iaload, 1) := dGR_14_c_326.2.2.2.2.2.1
theorem dX4_followBlocks_32 : decode cX4_followBlocks 32 = .ok (.istore 4, 2) := dGR_14_c_326.2.2.2.2.2.2.1
theorem dX4_followBlocks_34 : decode cX4_followBlocks 34 = .ok (.iload 4, 2) := dGR_14_c_326.2.2.2.2.2.2.2.1
theorem dX4_followBlocks_36 : decode cX4_followBlocks 36 = .ok (.bipush 64, 2) := dGR_14_c_326.2.2.2.2.2.2.2.2.1
theorem dX4_followBlocks_38 : decode cX4_followBlocks 38 = .ok (.idiv, 1) := dGR_14_c_326.2.2.2.2.2.2.2.2.2.1
theorem dX4_followBlocks_39 : decode cX4_followBlocks 39 = .ok (.istore 5, 2) := dGR_14_c_326.2.2.2.2.2.2.2.2.2.2.1
theorem dX4_followBlocks_41 : decode cX4_followBlocks 41 = .ok (.iload 5, 2) := dGR_14_c_326.2.2.2.2.2.2.2.2.2.2.2
set_option maxRecDepth 100000 in
theorem dGR_14_c_327 : (decode cX4_followBlocks 43 = .ok (.iconst 3, 1)) ∧ (decode cX4_followBlocks 44 = .ok (.idiv, 1)) ∧ (decode cX4_followBlocks 45 = .ok (.iload_n 1, 1)) ∧ (decode cX4_followBlocks 46 = .ok (.invokestatic 203, 3)) ∧ (decode cX4_followBlocks 49 = .ok (.if_icmp .ne 82, 3)) ∧ (decode cX4_followBlocks 52 = .ok (.aload_n 0, 1)) ∧ (decode cX4_followBlocks 53 = .ok (.iload_n 1, 1)) ∧ (decode cX4_followBlocks 54 = .ok (.invokestatic 206, 3)) ∧ (decode cX4_followBlocks 57 = .ok (.iconst 1, 1)) ∧ (decode cX4_followBlocks 58 = .ok (.iload 5, 2)) ∧ (decode cX4_followBlocks 60 = .ok (.iconst 3, 1)) ∧ (decode cX4_followBlocks 61 = .ok (.irem, 1)) := by decide +kernel
theorem dX4_followBlocks_43 : decode cX4_followBlocks 43 = .ok (.iconst 3, 1) := dGR_14_c_327.1
theorem dX4_followBlocks_44 : decode cX4_followBlocks 44 = .ok (.idiv, 1) := dGR_14_c_327.2.1
theorem dX4_followBlocks_45 : decode cX4_followBlocks 45 = .ok (.iload_n 1, 1) := dGR_14_c_327.2.2.1
theorem dX4_followBlocks_46 : decode cX4_followBlocks 46 = .ok (.invokestatic 203, 3) := dGR_14_c_327.2.2.2.1
theorem dX4_followBlocks_49 : decode cX4_followBlocks 49 = .ok (.if_icmp .ne 82, 3) := dGR_14_c_327.2.2.2.2.1
theorem dX4_followBlocks_52 : decode cX4_followBlocks 52 = .ok (.aload_n 0, 1) := dGR_14_c_327.2.2.2.2.2.1
theorem dX4_followBlocks_53 : decode cX4_followBlocks 53 = .ok (.iload_n 1, 1) := dGR_14_c_327.2.2.2.2.2.2.1
theorem dX4_followBlocks_54 : decode cX4_followBlocks 54 = .ok (.invokestatic 206, 3) := dGR_14_c_327.2.2.2.2.2.2.2.1
theorem dX4_followBlocks_57 : decode cX4_followBlocks 57 = .ok (.iconst 1, 1) := dGR_14_c_327.2.2.2.2.2.2.2.2.1
theorem dX4_followBlocks_58 : decode cX4_followBlocks 58 = .ok (.iload 5, 2) := dGR_14_c_327.2.2.2.2.2.2.2.2.2.1
theorem dX4_followBlocks_60 : decode cX4_followBlocks 60 = .ok (.iconst 3, 1) := dGR_14_c_327.2.2.2.2.2.2.2.2.2.2.1
theorem dX4_followBlocks_61 : decode cX4_followBlocks 61 = .ok (.irem, 1) := dGR_14_c_327.2.2.2.2.2.2.2.2.2.2.2
set_option maxRecDepth 100000 in
theorem dGR_14_c_328 : (decode cX4_followBlocks 62 = .ok (.ishl, 1)) ∧ (decode cX4_followBlocks 63 = .ok (.iload_n 1, 1)) ∧ (decode cX4_followBlocks 64 = .ok (.bipush 8, 2)) ∧ (decode cX4_followBlocks 66 = .ok (.irem, 1)) ∧ (decode cX4_followBlocks 67 = .ok (.aload_n 0, 1)) ∧ (decode cX4_followBlocks 68 = .ok (.getfield 46, 3)) ∧ (decode cX4_followBlocks 71 = .ok (.iload 4, 2)) ∧ (decode cX4_followBlocks 73 = .ok (.bipush 64, 2)) ∧ (decode cX4_followBlocks 75 = .ok (.irem, 1)) ∧ (decode cX4_followBlocks 76 = .ok (.iaload, 1)) ∧ (decode cX4_followBlocks 77 = .ok (.invokestatic 209, 3)) ∧ (decode cX4_followBlocks 80 = .ok (.iload_n 2, 1)) := by decide +kernel
theorem dX4_followBlocks_62 : decode cX4_followBlocks 62 = .ok (.ishl, 1) := dGR_14_c_328.1
theorem dX4_followBlocks_63 : decode cX4_followBlocks 63 = .ok (.iload_n 1, 1) := dGR_14_c_328.2.1
theorem dX4_followBlocks_64 : decode cX4_followBlocks 64 = .ok (.bipush 8, 2) := dGR_14_c_328.2.2.1
theorem dX4_followBlocks_66 : decode cX4_followBlocks 66 = .ok (.irem, 1) := dGR_14_c_328.2.2.2.1
theorem dX4_followBlocks_67 : decode cX4_followBlocks 67 = .ok (.aload_n 0, 1) := dGR_14_c_328.2.2.2.2.1
theorem dX4_followBlocks_68 : decode cX4_followBlocks 68 = .ok (.getfield 46, 3) := dGR_14_c_328.2.2.2.2.2.1
theorem dX4_followBlocks_71 : decode cX4_followBlocks 71 = .ok (.iload 4, 2) := dGR_14_c_328.2.2.2.2.2.2.1
theorem dX4_followBlocks_73 : decode cX4_followBlocks 73 = .ok (.bipush 64, 2) := dGR_14_c_328.2.2.2.2.2.2.2.1
theorem dX4_followBlocks_75 : decode cX4_followBlocks 75 = .ok (.irem, 1) := dGR_14_c_328.2.2.2.2.2.2.2.2.1
theorem dX4_followBlocks_76 : decode cX4_followBlocks 76 = .ok (.iaload, 1) := dGR_14_c_328.2.2.2.2.2.2.2.2.2.1
theorem dX4_followBlocks_77 : decode cX4_followBlocks 77 = .ok (.invokestatic 209, 3) := dGR_14_c_328.2.2.2.2.2.2.2.2.2.2.1
theorem dX4_followBlocks_80 : decode cX4_followBlocks 80 = .ok (.iload_n 2, 1) := dGR_14_c_328.2.2.2.2.2.2.2.2.2.2.2
set_option maxRecDepth 100000 in
theorem dGR_14_c_329 : (decode cX4_followBlocks 81 = .ok (.aload_n 0, 1)) ∧ (decode cX4_followBlocks 82 = .ok (.getfield 40, 3)) ∧ (decode cX4_followBlocks 85 = .ok (.getfield 94, 3)) ∧ (decode cX4_followBlocks 88 = .ok (.iload 4, 2)) ∧ (decode cX4_followBlocks 90 = .ok (.iaload, 1)) ∧ (decode cX4_followBlocks 91 = .ok (.invokestatic 170, 3)) ∧ (decode cX4_followBlocks 94 = .ok (.aload_n 0, 1)) ∧ (decode cX4_followBlocks 95 = .ok (.iload_n 2, 1)) ∧ (decode cX4_followBlocks 96 = .ok (.aload_n 0, 1)) ∧ (decode cX4_followBlocks 97 = .ok (.getfield 43, 3)) ∧ (decode cX4_followBlocks 100 = .ok (.getfield 173, 3)) ∧ (decode cX4_followBlocks 103 = .ok (.iload_n 1, 1)) := by decide +kernel
theorem dX4_followBlocks_81 : decode cX4_followBlocks 81 = .ok (.aload_n 0, 1) := dGR_14_c_329.1
theorem dX4_followBlocks_82 : decode cX4_followBlocks 82 = .ok (.getfield 40, 3) := dGR_14_c_329.2.1
theorem dX4_followBlocks_85 : decode cX4_followBlocks 85 = .ok (.getfield 94, 3) := dGR_14_c_329.2.2.1
theorem dX4_followBlocks_88 : decode cX4_followBlocks 88 = .ok (.iload 4, 2) := dGR_14_c_329.2.2.2.1
theorem dX4_followBlocks_90 : decode cX4_followBlocks 90 = .ok (.iaload, 1) := dGR_14_c_329.2.2.2.2.1
theorem dX4_followBlocks_91 : decode cX4_followBlocks 91 = .ok (.invokestatic 170, 3) := dGR_14_c_329.2.2.2.2.2.1
theorem dX4_followBlocks_94 : decode cX4_followBlocks 94 = .ok (.aload_n 0, 1) := dGR_14_c_329.2.2.2.2.2.2.1
theorem dX4_followBlocks_95 : decode cX4_followBlocks 95 = .ok (.iload_n 2, 1) := dGR_14_c_329.2.2.2.2.2.2.2.1
theorem dX4_followBlocks_96 : decode cX4_followBlocks 96 = .ok (.aload_n 0, 1) := dGR_14_c_329.2.2.2.2.2.2.2.2.1
theorem dX4_followBlocks_97 : decode cX4_followBlocks 97 = .ok (.getfield 43, 3) := dGR_14_c_329.2.2.2.2.2.2.2.2.2.1
theorem dX4_followBlocks_100 : decode cX4_followBlocks 100 = .ok (.getfield 173, 3) := dGR_14_c_329.2.2.2.2.2.2.2.2.2.2.1
theorem dX4_followBlocks_103 : decode cX4_followBlocks 103 = .ok (.iload_n 1, 1) := dGR_14_c_329.2.2.2.2.2.2.2.2.2.2.2
set_option maxRecDepth 100000 in
theorem dGR_14_c_330 : (decode cX4_followBlocks 104 = .ok (.iaload, 1)) ∧ (decode cX4_followBlocks 105 = .ok (.aload_n 0, 1)) ∧ (decode cX4_followBlocks 106 = .ok (.getfield 40, 3)) ∧ (decode cX4_followBlocks 109 = .ok (.getfield 94, 3)) ∧ (decode cX4_followBlocks 112 = .ok (.iload 4, 2)) ∧ (decode cX4_followBlocks 114 = .ok (.iaload, 1)) ∧ (decode cX4_followBlocks 115 = .ok (.aload_n 0, 1)) ∧ (decode cX4_followBlocks 116 = .ok (.getfield 40, 3)) ∧ (decode cX4_followBlocks 119 = .ok (.getfield 173, 3)) ∧ (decode cX4_followBlocks 122 = .ok (.iload 4, 2)) ∧ (decode cX4_followBlocks 124 = .ok (.iaload, 1)) ∧ (decode cX4_followBlocks 125 = .ok (.invokevirtual 176, 3)) := by decide +kernel
theorem dX4_followBlocks_104 : decode cX4_followBlocks 104 = .ok (.iaload, 1) := dGR_14_c_330.1
theorem dX4_followBlocks_105 : decode cX4_followBlocks 105 = .ok (.aload_n 0, 1) := dGR_14_c_330.2.1
theorem dX4_followBlocks_106 : decode cX4_followBlocks 106 = .ok (.getfield 40, 3) := dGR_14_c_330.2.2.1
theorem dX4_followBlocks_109 : decode cX4_followBlocks 109 = .ok (.getfield 94, 3) := dGR_14_c_330.2.2.2.1
theorem dX4_followBlocks_112 : decode cX4_followBlocks 112 = .ok (.iload 4, 2) := dGR_14_c_330.2.2.2.2.1
theorem dX4_followBlocks_114 : decode cX4_followBlocks 114 = .ok (.iaload, 1) := dGR_14_c_330.2.2.2.2.2.1
theorem dX4_followBlocks_115 : decode cX4_followBlocks 115 = .ok (.aload_n 0, 1) := dGR_14_c_330.2.2.2.2.2.2.1
theorem dX4_followBlocks_116 : decode cX4_followBlocks 116 = .ok (.getfield 40, 3) := dGR_14_c_330.2.2.2.2.2.2.2.1
theorem dX4_followBlocks_119 : decode cX4_followBlocks 119 = .ok (.getfield 173, 3) := dGR_14_c_330.2.2.2.2.2.2.2.2.1
theorem dX4_followBlocks_122 : decode cX4_followBlocks 122 = .ok (.iload 4, 2) := dGR_14_c_330.2.2.2.2.2.2.2.2.2.1
theorem dX4_followBlocks_124 : decode cX4_followBlocks 124 = .ok (.iaload, 1) := dGR_14_c_330.2.2.2.2.2.2.2.2.2.2.1
theorem dX4_followBlocks_125 : decode cX4_followBlocks 125 = .ok (.invokevirtual 176, 3) := dGR_14_c_330.2.2.2.2.2.2.2.2.2.2.2
set_option maxRecDepth 100000 in
theorem dGR_14_c_331 : (decode cX4_followBlocks 128 = .ok (.invokevirtual 193, 3)) ∧ (decode cX4_followBlocks 131 = .ok (.iinc 3 1, 3)) ∧ (decode cX4_followBlocks 134 = .ok (.goto (-122), 3)) ∧ (decode cX4_followBlocks 137 = .ok (.return_, 1)) := by decide +kernel
theorem dX4_followBlocks_128 : decode cX4_followBlocks 128 = .ok (.invokevirtual 193, 3) := dGR_14_c_331.1
theorem dX4_followBlocks_131 : decode cX4_followBlocks 131 = .ok (.iinc 3 1, 3) := dGR_14_c_331.2.1
theorem dX4_followBlocks_134 : decode cX4_followBlocks 134 = .ok (.goto (-122), 3) := dGR_14_c_331.2.2.1
theorem dX4_followBlocks_137 : decode cX4_followBlocks 137 = .ok (.return_, 1) := dGR_14_c_331.2.2.2
abbrev f_c_X4_followBlocks : List (Nat × Int) := [(31, 0), (32, -1), (33, -1), (34, -1), (35, -1)]
set_option maxHeartbeats 4000000 in
set_option maxRecDepth 100000 in
theorem c_X4_followBlocks (G : KG) (l : Launch) (M : Mem) (c0 : Int) (a1 : Int) (hI_M : Inv false M) (hk_c0 : kd c0 = 41) (hpre : -2147483648 ≤ a1 ∧ a1 ≤ 2147483647 ∧ 0 ≤ a1 ∧ a1 ≤ 47) (hX_M : XX M) : KC false G l yX4_followBlocks cX4_followBlocks 6 none (3, 74) [vR G c0, vI a1] M (fun A => kQv false G A (fun (N : Mem) => Inv false N ∧ Fr f_c_X4_followBlocks M N ∧ XX N)) := by
  refine kx_met (lo := [some (vR G c0), some (vI a1), none, none, none, none]) (by decide) (Nat.le_of_ble_eq_true rfl) rfl ?_
  intro X F hQ
  have hF_M : Fr f_c_X4_followBlocks M M := Fr.rf _ _
  refine kx_aload_n 1 F 0 dX4_followBlocks_0 rfl rfl rfl ?_
  refine kx_getr 4 F fl_X4_43 hk_c0 rfl rfl (j := 12) rfl dX4_followBlocks_1 (v := (M c0 12)) rfl rfl ?_
  have hk_1 : kd (M c0 12) = 31 := Inv.r hI_M hk_c0 rfl 12 rfl rfl
  refine kx_getr 7 F fl_X4_94 hk_1 rfl rfl (j := 2) rfl dX4_followBlocks_4 (v := (M (M c0 12) 2)) rfl rfl ?_
  have hk_2 : kd (M (M c0 12) 2) = 33 := Inv.r hI_M hk_1 rfl 2 rfl rfl
  refine kx_iload_n 8 F 1 dX4_followBlocks_7 rfl rfl rfl ?_
  refine kx_iald 9 F hk_2 rfl rfl (by omega) (by decide) dX4_followBlocks_8 (v := (M (M (M c0 12) 2) a1)) rfl rfl ?_
  have h_3 := Inv.g hI_M hk_2 rfl a1 (a := 0) (b := 1000000000) rfl rfl
  refine kx_istore_n 10 F 2 (lo' := [some (vR G c0), some (vI a1), some (vI (M (M (M c0 12) 2) a1)), none, none, none]) dX4_followBlocks_9 rfl (by decide) rfl rfl rfl ?_
  refine kx_iconst 11 F dX4_followBlocks_10 rfl ?_
  refine kx_istore_n 12 F 3 (lo' := [some (vR G c0), some (vI a1), some (vI (M (M (M c0 12) 2) a1)), some (vI 0), none, none]) dX4_followBlocks_11 rfl (by decide) rfl rfl rfl ?_
  have L_244 : ∀ (n_245 : Nat) (x3_242 : Int) (N_243 : Mem), Inv false N_243 → Fr f_c_X4_followBlocks M N_243 → XX N_243 → 0 ≤ x3_242 ∧ x3_242 ≤ 576 → (576 - (x3_242)).toNat = n_245 → KJ false G X N_243 12 [some (vR G c0), some (vI a1), some (vI (M (M (M c0 12) 2) a1)), some (vI x3_242), none, none] [] := by
    intro n_245
    refine Nat.strongRecOn n_245 ?_
    intro n_245 ih_246 x3_242 N_243 hI_N_243 hF_N_243 hX_N_243 h_247 hm_248
    refine kx_iload_n 13 F 3 dX4_followBlocks_12 rfl rfl rfl ?_
    refine kx_aload_n 14 F 0 dX4_followBlocks_13 rfl rfl rfl ?_
    refine kx_getr 17 F fl_X4_40 hk_c0 rfl rfl (j := 11) rfl dX4_followBlocks_14 (v := (M c0 11)) (by rw [Fr.e hF_N_243 hk_c0 _ rfl]) rfl ?_
    have hk_249 : kd (M c0 11) = 36 := Inv.r hI_M hk_c0 rfl 11 rfl rfl
    refine kx_geti 20 F fl_X4_150 hk_249 rfl rfl (j := 0) rfl dX4_followBlocks_17 (v := (M (M c0 11) 0)) (by rw [Fr.e hF_N_243 hk_249 _ rfl]) rfl ?_
    have h_250 := Inv.g hI_M hk_249 rfl 0 (a := 0) (b := 576) rfl rfl
    refine kx_icmp_ge 23 F 137 dX4_followBlocks_20 (by decide) rfl (by omega) (by omega) (fun h_251 => ?_) (fun h_251 => ?_)
    · exact kx_vret F hQ ⟨hI_N_243, hF_N_243, hX_N_243⟩ dX4_followBlocks_137
    · refine kx_aload_n 24 F 0 dX4_followBlocks_23 rfl rfl rfl ?_
      refine kx_getr 27 F fl_X4_40 hk_c0 rfl rfl (j := 11) rfl dX4_followBlocks_24 (v := (M c0 11)) (by rw [Fr.e hF_N_243 hk_c0 _ rfl]) rfl ?_
      refine kx_getr 30 F fl_X4_153 hk_249 rfl rfl (j := 1) rfl dX4_followBlocks_27 (v := (M (M c0 11) 1)) (by rw [Fr.e hF_N_243 hk_249 _ rfl]) rfl ?_
      have hk_252 : kd (M (M c0 11) 1) = 37 := Inv.r hI_M hk_249 rfl 1 rfl rfl
      refine kx_iload_n 31 F 3 dX4_followBlocks_30 rfl rfl rfl ?_
      refine kx_iald 32 F hk_252 rfl rfl (by omega) (by decide) dX4_followBlocks_31 (v := (M (M (M c0 11) 1) x3_242)) (by rw [Fr.e hF_N_243 hk_252 _ rfl]) rfl ?_
      have h_253 := Inv.g hI_M hk_252 rfl x3_242 (a := 0) (b := 575) rfl rfl
      refine kx_istore 34 F 4 (lo' := [some (vR G c0), some (vI a1), some (vI (M (M (M c0 12) 2) a1)), some (vI x3_242), some (vI (M (M (M c0 11) 1) x3_242)), none]) dX4_followBlocks_32 (by decide) rfl rfl rfl ?_
      refine kx_iload 36 F 4 dX4_followBlocks_34 rfl rfl ?_
      refine kx_bipush 38 F dX4_followBlocks_36 (by decide) rfl ?_
      refine kx_idiv 39 F (v := ((M (M (M c0 11) 1) x3_242) / 64)) dX4_followBlocks_38 (by omega) (by decide) rfl rfl ?_
      refine kx_istore 41 F 5 (lo' := [some (vR G c0), some (vI a1), some (vI (M (M (M c0 12) 2) a1)), some (vI x3_242), some (vI (M (M (M c0 11) 1) x3_242)), some (vI ((M (M (M c0 11) 1) x3_242) / 64))]) dX4_followBlocks_39 (by decide) rfl rfl rfl ?_
      refine kx_iload 43 F 5 dX4_followBlocks_41 rfl rfl ?_
      refine kx_iconst 44 F dX4_followBlocks_43 rfl ?_
      refine kx_idiv 45 F (v := (((M (M (M c0 11) 1) x3_242) / 64) / 3)) dX4_followBlocks_44 (by omega) (by decide) rfl rfl ?_
      refine kx_iload_n 46 F 1 dX4_followBlocks_45 rfl rfl rfl ?_
      refine kx_Si 49 F (As := [vI a1]) (st := [vI (((M (M (M c0 11) 1) x3_242) / 64) / 3)]) sd_X4_203 (c_X4_stateOf G l N_243 a1 hI_N_243 (by omega)) ⟨by decide, by decide⟩ rfl rfl (Nat.le_of_ble_eq_true rfl) dX4_followBlocks_46 rfl ?_
      intro r_254 N_255 q_256
      obtain ⟨rfl, q_256c⟩ := q_256
      have J_282 : ∀ (N_281 : Mem), Inv false N_281 → Fr f_c_X4_followBlocks M N_281 → XX N_281 → KJ false G X N_281 131 [some (vR G c0), some (vI a1), some (vI (M (M (M c0 12) 2) a1)), some (vI x3_242), none, none] [] := by
        intro N_281 hI_N_281 hF_N_281 hX_N_281
        refine kx_iinc 134 F 3 (v := x3_242 + 1) (lo' := [some (vR G c0), some (vI a1), some (vI (M (M (M c0 12) 2) a1)), some (vI (x3_242 + 1)), none, none]) dX4_followBlocks_131 rfl (by omega) (by decide) rfl rfl rfl ?_
        refine kx_goto 12 F dX4_followBlocks_134 (by decide) ?_
        exact ih_246 _ (by omega) (x3_242 + 1) N_281 hI_N_281 hF_N_281 hX_N_281 (by omega) rfl
      refine kx_icmp_ne 52 F 131 dX4_followBlocks_49 (by decide) rfl (by omega) (by omega) (fun h_284 => ?_) (fun h_284 => ?_)
      · refine kx_drop 4 (lo' := [some (vR G c0), some (vI a1), some (vI (M (M (M c0 12) 2) a1)), some (vI x3_242), none, some (vI ((M (M (M c0 11) 1) x3_242) / 64))]) rfl ?_
        refine kx_drop 5 (lo' := [some (vR G c0), some (vI a1), some (vI (M (M (M c0 12) 2) a1)), some (vI x3_242), none, none]) rfl ?_
        exact J_282 N_243 hI_N_243 hF_N_243 hX_N_243
      · refine kx_aload_n 53 F 0 dX4_followBlocks_52 rfl rfl rfl ?_
        refine kx_iload_n 54 F 1 dX4_followBlocks_53 rfl rfl rfl ?_
        refine kx_Si 57 F (As := [vI a1]) (st := [vR G c0]) sd_X4_206 (c_X4_pendingOf G l N_243 a1 hI_N_243 (by omega)) ⟨by decide, by decide⟩ rfl rfl (Nat.le_of_ble_eq_true rfl) dX4_followBlocks_54 rfl ?_
        intro r_285 N_286 q_287
        obtain ⟨rfl, q_287c⟩ := q_287
        refine kx_iconst 58 F dX4_followBlocks_57 rfl ?_
        refine kx_iload 60 F 5 dX4_followBlocks_58 rfl rfl ?_
        refine kx_iconst 61 F dX4_followBlocks_60 rfl ?_
        refine kx_irem 62 F (v := (((M (M (M c0 11) 1) x3_242) / 64) % 3)) dX4_followBlocks_61 (by omega) (by decide) rfl rfl ?_
        refine kx_ishl 63 F (v := (zshl 1 (((M (M (M c0 11) 1) x3_242) / 64) % 3))) dX4_followBlocks_62 rfl rfl ?_
        have h_288 := zshl_1 (b := (((M (M (M c0 11) 1) x3_242) / 64) % 3)) 2 (by decide) (by omega)
        refine kx_iload_n 64 F 1 dX4_followBlocks_63 rfl rfl rfl ?_
        refine kx_bipush 66 F dX4_followBlocks_64 (by decide) rfl ?_
        refine kx_irem 67 F (v := (a1 % 8)) dX4_followBlocks_66 (by omega) (by decide) rfl rfl ?_
        refine kx_aload_n 68 F 0 dX4_followBlocks_67 rfl rfl rfl ?_
        refine kx_getr 71 F fl_X4_46 hk_c0 rfl rfl (j := 14) rfl dX4_followBlocks_68 (v := (M c0 14)) (by rw [Fr.e hF_N_243 hk_c0 _ rfl]) rfl ?_
        have hk_289 : kd (M c0 14) = 44 := Inv.r hI_M hk_c0 rfl 14 rfl rfl
        refine kx_iload 73 F 4 dX4_followBlocks_71 rfl rfl ?_
        refine kx_bipush 75 F dX4_followBlocks_73 (by decide) rfl ?_
        refine kx_irem 76 F (v := ((M (M (M c0 11) 1) x3_242) % 64)) dX4_followBlocks_75 (by omega) (by decide) rfl rfl ?_
        refine kx_iald 77 F hk_289 rfl rfl (by omega) (by decide) dX4_followBlocks_76 (v := (M (M c0 14) ((M (M (M c0 11) 1) x3_242) % 64))) (by rw [Fr.e hF_N_243 hk_289 _ rfl]) rfl ?_
        have h_290 := Inv.g hI_M hk_289 rfl ((M (M (M c0 11) 1) x3_242) % 64) (a := 0) (b := 511) rfl rfl
        refine kx_Si 80 F (As := [vI (a1 % 8), vI (M (M c0 14) ((M (M (M c0 11) 1) x3_242) % 64))]) (st := [vI (zshl 1 (((M (M (M c0 11) 1) x3_242) / 64) % 3)), vI r_285, vR G c0]) sd_X4_209 (c_X2_image G l N_243 (a1 % 8) (M (M c0 14) ((M (M (M c0 11) 1) x3_242) % 64)) hI_N_243 (by omega)) ⟨by decide, by decide⟩ rfl rfl (Nat.le_of_ble_eq_true rfl) dX4_followBlocks_77 rfl ?_
        intro r_291 N_292 q_293
        obtain ⟨rfl, q_293c⟩ := q_293
        refine kx_iload_n 81 F 2 dX4_followBlocks_80 rfl rfl rfl ?_
        refine kx_aload_n 82 F 0 dX4_followBlocks_81 rfl rfl rfl ?_
        refine kx_getr 85 F fl_X4_40 hk_c0 rfl rfl (j := 11) rfl dX4_followBlocks_82 (v := (M c0 11)) (by rw [Fr.e hF_N_243 hk_c0 _ rfl]) rfl ?_
        refine kx_getr 88 F fl_X4_94 hk_249 rfl rfl (j := 2) rfl dX4_followBlocks_85 (v := (M (M c0 11) 2)) (by rw [Fr.e hF_N_243 hk_249 _ rfl]) rfl ?_
        have hk_294 : kd (M (M c0 11) 2) = 38 := Inv.r hI_M hk_249 rfl 2 rfl rfl
        refine kx_iload 90 F 4 dX4_followBlocks_88 rfl rfl ?_
        refine kx_iald 91 F hk_294 rfl rfl (by omega) (by decide) dX4_followBlocks_90 (v := (M (M (M c0 11) 2) (M (M (M c0 11) 1) x3_242))) (by rw [Fr.e hF_N_243 hk_294 _ rfl]) rfl ?_
        have h_295 := Inv.g hI_M hk_294 rfl (M (M (M c0 11) 1) x3_242) (a := 0) (b := 1000000000) rfl rfl
        refine kx_Si 94 F (As := [vI (M (M (M c0 12) 2) a1), vI (M (M (M c0 11) 2) (M (M (M c0 11) 1) x3_242))]) (st := [vI r_291, vI (zshl 1 (((M (M (M c0 11) 1) x3_242) / 64) % 3)), vI r_285, vR G c0]) sd_X4_170 (c_X4_lengthOf G l N_243 (M (M (M c0 12) 2) a1) (M (M (M c0 11) 2) (M (M (M c0 11) 1) x3_242)) hI_N_243 (by omega)) ⟨by decide, by decide⟩ rfl rfl (Nat.le_of_ble_eq_true rfl) dX4_followBlocks_91 rfl ?_
        intro r_296 N_297 q_298
        obtain ⟨rfl, q_298c⟩ := q_298
        refine kx_aload_n 95 F 0 dX4_followBlocks_94 rfl rfl rfl ?_
        refine kx_iload_n 96 F 2 dX4_followBlocks_95 rfl rfl rfl ?_
        refine kx_aload_n 97 F 0 dX4_followBlocks_96 rfl rfl rfl ?_
        refine kx_getr 100 F fl_X4_43 hk_c0 rfl rfl (j := 12) rfl dX4_followBlocks_97 (v := (M c0 12)) (by rw [Fr.e hF_N_243 hk_c0 _ rfl]) rfl ?_
        refine kx_getr 103 F fl_X4_173 hk_1 rfl rfl (j := 3) rfl dX4_followBlocks_100 (v := (M (M c0 12) 3)) (by rw [Fr.e hF_N_243 hk_1 _ rfl]) rfl ?_
        have hk_299 : kd (M (M c0 12) 3) = 34 := Inv.r hI_M hk_1 rfl 3 rfl rfl
        refine kx_iload_n 104 F 1 dX4_followBlocks_103 rfl rfl rfl ?_
        refine kx_iald 105 F hk_299 rfl rfl (by omega) (by decide) dX4_followBlocks_104 (v := (N_243 (M (M c0 12) 3) a1)) rfl rfl ?_
        have h_300 := Inv.g hI_N_243 hk_299 rfl a1 (a := (-2147483648)) (b := 2147483647) rfl rfl
        refine kx_aload_n 106 F 0 dX4_followBlocks_105 rfl rfl rfl ?_
        refine kx_getr 109 F fl_X4_40 hk_c0 rfl rfl (j := 11) rfl dX4_followBlocks_106 (v := (M c0 11)) (by rw [Fr.e hF_N_243 hk_c0 _ rfl]) rfl ?_
        refine kx_getr 112 F fl_X4_94 hk_249 rfl rfl (j := 2) rfl dX4_followBlocks_109 (v := (M (M c0 11) 2)) (by rw [Fr.e hF_N_243 hk_249 _ rfl]) rfl ?_
        refine kx_iload 114 F 4 dX4_followBlocks_112 rfl rfl ?_
        refine kx_iald 115 F hk_294 rfl rfl (by omega) (by decide) dX4_followBlocks_114 (v := (M (M (M c0 11) 2) (M (M (M c0 11) 1) x3_242))) (by rw [Fr.e hF_N_243 hk_294 _ rfl]) rfl ?_
        refine kx_aload_n 116 F 0 dX4_followBlocks_115 rfl rfl rfl ?_
        refine kx_getr 119 F fl_X4_40 hk_c0 rfl rfl (j := 11) rfl dX4_followBlocks_116 (v := (M c0 11)) (by rw [Fr.e hF_N_243 hk_c0 _ rfl]) rfl ?_
        refine kx_getr 122 F fl_X4_173 hk_249 rfl rfl (j := 3) rfl dX4_followBlocks_119 (v := (M (M c0 11) 3)) (by rw [Fr.e hF_N_243 hk_249 _ rfl]) rfl ?_
        have hk_301 : kd (M (M c0 11) 3) = 39 := Inv.r hI_M hk_249 rfl 3 rfl rfl
        refine kx_iload 124 F 4 dX4_followBlocks_122 rfl rfl ?_
        refine kx_iald 125 F hk_301 rfl rfl (by omega) (by decide) dX4_followBlocks_124 (v := (M (M (M c0 11) 3) (M (M (M c0 11) 1) x3_242))) (by rw [Fr.e hF_N_243 hk_301 _ rfl]) rfl ?_
        have h_302 := Inv.g hI_M hk_301 rfl (M (M (M c0 11) 1) x3_242) (a := (-2147483648)) (b := 2147483647) rfl rfl
        refine kx_Vi 128 (ci := 0) F (As := [vI (M (M (M c0 12) 2) a1), vI (N_243 (M (M c0 12) 3) a1), vI (M (M (M c0 11) 2) (M (M (M c0 11) 1) x3_242)), vI (M (M (M c0 11) 3) (M (M (M c0 11) 1) x3_242))]) (st := [vI r_296, vI r_291, vI (zshl 1 (((M (M (M c0 11) 1) x3_242) / 64) % 3)), vI r_285, vR G c0]) vd_X4_176 (c_X4_codeOf G l N_243 c0 (M (M (M c0 12) 2) a1) (N_243 (M (M c0 12) 3) a1) (M (M (M c0 11) 2) (M (M (M c0 11) 1) x3_242)) (M (M (M c0 11) 3) (M (M (M c0 11) 1) x3_242)) hI_N_243 hk_c0 (by omega)) hk_c0 rfl rfl rfl ⟨by decide, by decide⟩ rfl rfl (Nat.le_of_ble_eq_true rfl) dX4_followBlocks_125 rfl ?_
        intro r_303 N_304 q_305
        obtain ⟨rfl, q_305c⟩ := q_305
        refine kx_Vv 131 (ci := 0) F (As := [vI r_285, vI (zshl 1 (((M (M (M c0 11) 1) x3_242) / 64) % 3)), vI r_291, vI r_296, vI r_303]) (st := []) vd_X4_193 (c_X4_offerNodes G l N_243 c0 r_285 (zshl 1 (((M (M (M c0 11) 1) x3_242) / 64) % 3)) r_291 r_296 r_303 hI_N_243 hk_c0 (by omega) hX_N_243) hk_c0 rfl rfl rfl ⟨by decide, by decide⟩ rfl rfl (Nat.le_of_ble_eq_true rfl) dX4_followBlocks_128 rfl ?_
        intro N_306 q_307
        obtain ⟨hI_N_306, hG_N_306, hX_N_306⟩ := q_307
        have hF_N_306 : Fr f_c_X4_followBlocks M N_306 := Fr.c hF_N_243 hG_N_306 rfl
        refine kx_drop 4 (lo' := [some (vR G c0), some (vI a1), some (vI (M (M (M c0 12) 2) a1)), some (vI x3_242), none, some (vI ((M (M (M c0 11) 1) x3_242) / 64))]) rfl ?_
        refine kx_drop 5 (lo' := [some (vR G c0), some (vI a1), some (vI (M (M (M c0 12) 2) a1)), some (vI x3_242), none, none]) rfl ?_
        exact J_282 N_306 hI_N_306 hF_N_306 hX_N_306
  exact L_244 _ 0 M hI_M hF_M hX_M (by omega) rfl
set_option maxRecDepth 100000 in
theorem dGR_14_c_332 : (decode cX4_followLetters 0 = .ok (.iload_n 1, 1)) ∧ (decode cX4_followLetters 1 = .ok (.invokestatic 206, 3)) ∧ (decode cX4_followLetters 4 = .ok (.istore_n 2, 1)) ∧ (decode cX4_followLetters 5 = .ok (.iconst 1, 1)) ∧ (decode cX4_followLetters 6 = .ok (.iload_n 1, 1)) ∧ (decode cX4_followLetters 7 = .ok (.invokestatic 203, 3)) ∧ (decode cX4_followLetters 10 = .ok (.ishl, 1)) ∧ (decode cX4_followLetters 11 = .ok (.istore_n 3, 1)) ∧ (decode cX4_followLetters 12 = .ok (.aload_n 0, 1)) ∧ (decode cX4_followLetters 13 = .ok (.getfield 43, 3)) ∧ (decode cX4_followLetters 16 = .ok (.getfield 94, 3)) ∧ (decode cX4_followLetters 19 = .ok (.iload_n 1, 1)) := by decide +kernel
theorem dX4_followLetters_0 : decode cX4_followLetters 0 = .ok (.iload_n 1, 1) := dGR_14_c_332.1
theorem dX4_followLetters_1 : decode cX4_followLetters 1 = .ok (.invokestatic 206, 3) := dGR_14_c_332.2.1
theorem dX4_followLetters_4 : decode cX4_followLetters 4 = .ok (.istore_n 2, 1) := dGR_14_c_332.2.2.1
theorem dX4_followLetters_5 : decode cX4_followLetters 5 = .ok (.iconst 1, 1) := dGR_14_c_332.2.2.2.1
theorem dX4_followLetters_6 : decode cX4_followLetters 6 = .ok (.iload_n 1, 1) := dGR_14_c_332.2.2.2.2.1
theorem dX4_followLetters_7 : decode cX4_followLetters 7 = .ok (.invokestatic 203, 3) := dGR_14_c_332.2.2.2.2.2.1
theorem dX4_followLetters_10 : decode cX4_followLetters 10 = .ok (.ishl, 1) := dGR_14_c_332.2.2.2.2.2.2.1
theorem dX4_followLetters_11 : decode cX4_followLetters 11 = .ok (.istore_n 3, 1) := dGR_14_c_332.2.2.2.2.2.2.2.1
theorem dX4_followLetters_12 : decode cX4_followLetters 12 = .ok (.aload_n 0, 1) := dGR_14_c_332.2.2.2.2.2.2.2.2.1
theorem dX4_followLetters_13 : decode cX4_followLetters 13 = .ok (.getfield 43, 3) := dGR_14_c_332.2.2.2.2.2.2.2.2.2.1
theorem dX4_followLetters_16 : decode cX4_followLetters 16 = .ok (.getfield 94, 3) := dGR_14_c_332.2.2.2.2.2.2.2.2.2.2.1
theorem dX4_followLetters_19 : decode cX4_followLetters 19 = .ok (.iload_n 1, 1) := dGR_14_c_332.2.2.2.2.2.2.2.2.2.2.2
set_option maxRecDepth 100000 in
theorem dGR_14_c_333 : (decode cX4_followLetters 20 = .ok (.iaload, 1)) ∧ (decode cX4_followLetters 21 = .ok (.istore 4, 2)) ∧ (decode cX4_followLetters 23 = .ok (.iload_n 2, 1)) ∧ (decode cX4_followLetters 24 = .ok (.ifCond .ne 10, 3)) ∧ (decode cX4_followLetters 27 = .ok (.aload_n 0, 1)) ∧ (decode cX4_followLetters 28 = .ok (.getfield 104, 3)) ∧ (decode cX4_followLetters 31 = .ok (.goto 7, 3)) ∧ (decode cX4_followLetters 34 = .ok (.aload_n 0, 1)) ∧ (decode cX4_followLetters 35 = .ok (.getfield 100, 3)) ∧ (decode cX4_followLetters 38 = .ok (.istore 5, 2)) ∧ (decode cX4_followLetters 40 = .ok (.iconst 0, 1)) ∧ (decode cX4_followLetters 41 = .ok (.istore 6, 2)) := by decide +kernel
theorem dX4_followLetters_20 : decode cX4_followLetters 20 = .ok (.iaload, 1) := dGR_14_c_333.1
theorem dX4_followLetters_21 : decode cX4_followLetters 21 = .ok (.istore 4, 2) := dGR_14_c_333.2.1
theorem dX4_followLetters_23 : decode cX4_followLetters 23 = .ok (.iload_n 2, 1) := dGR_14_c_333.2.2.1
theorem dX4_followLetters_24 : decode cX4_followLetters 24 = .ok (.ifCond .ne 10, 3) := dGR_14_c_333.2.2.2.1
theorem dX4_followLetters_27 : decode cX4_followLetters 27 = .ok (.aload_n 0, 1) := dGR_14_c_333.2.2.2.2.1
theorem dX4_followLetters_28 : decode cX4_followLetters 28 = .ok (.getfield 104, 3) := dGR_14_c_333.2.2.2.2.2.1
theorem dX4_followLetters_31 : decode cX4_followLetters 31 = .ok (.goto 7, 3) := dGR_14_c_333.2.2.2.2.2.2.1
theorem dX4_followLetters_34 : decode cX4_followLetters 34 = .ok (.aload_n 0, 1) := dGR_14_c_333.2.2.2.2.2.2.2.1
theorem dX4_followLetters_35 : decode cX4_followLetters 35 = .ok (.getfield 100, 3) := dGR_14_c_333.2.2.2.2.2.2.2.2.1
theorem dX4_followLetters_38 : decode cX4_followLetters 38 = .ok (.istore 5, 2) := dGR_14_c_333.2.2.2.2.2.2.2.2.2.1
theorem dX4_followLetters_40 : decode cX4_followLetters 40 = .ok (.iconst 0, 1) := dGR_14_c_333.2.2.2.2.2.2.2.2.2.2.1
theorem dX4_followLetters_41 : decode cX4_followLetters 41 = .ok (.istore 6, 2) := dGR_14_c_333.2.2.2.2.2.2.2.2.2.2.2
set_option maxRecDepth 100000 in
theorem dGR_14_c_334 : (decode cX4_followLetters 43 = .ok (.iload 6, 2)) ∧ (decode cX4_followLetters 45 = .ok (.iload 5, 2)) ∧ (decode cX4_followLetters 47 = .ok (.if_icmp .ge 82, 3)) ∧ (decode cX4_followLetters 50 = .ok (.aload_n 0, 1)) ∧ (decode cX4_followLetters 51 = .ok (.iload 6, 2)) ∧ (decode cX4_followLetters 53 = .ok (.aload_n 0, 1)) ∧ (decode cX4_followLetters 54 = .ok (.getfield 100, 3)) ∧ (decode cX4_followLetters 57 = .ok (.if_icmp .ge 7, 3)) ∧ (decode cX4_followLetters 60 = .ok (.iconst 1, 1)) ∧ (decode cX4_followLetters 61 = .ok (.goto 4, 3)) ∧ (decode cX4_followLetters 64 = .ok (.iload_n 2, 1)) ∧ (decode cX4_followLetters 65 = .ok (.iload_n 3, 1)) := by decide +kernel
theorem dX4_followLetters_43 : decode cX4_followLetters 43 = .ok (.iload 6, 2) := dGR_14_c_334.1
theorem dX4_followLetters_45 : decode cX4_followLetters 45 = .ok (.iload 5, 2) := dGR_14_c_334.2.1
theorem dX4_followLetters_47 : decode cX4_followLetters 47 = .ok (.if_icmp .ge 82, 3) := dGR_14_c_334.2.2.1
theorem dX4_followLetters_50 : decode cX4_followLetters 50 = .ok (.aload_n 0, 1) := dGR_14_c_334.2.2.2.1
theorem dX4_followLetters_51 : decode cX4_followLetters 51 = .ok (.iload 6, 2) := dGR_14_c_334.2.2.2.2.1
theorem dX4_followLetters_53 : decode cX4_followLetters 53 = .ok (.aload_n 0, 1) := dGR_14_c_334.2.2.2.2.2.1
theorem dX4_followLetters_54 : decode cX4_followLetters 54 = .ok (.getfield 100, 3) := dGR_14_c_334.2.2.2.2.2.2.1
theorem dX4_followLetters_57 : decode cX4_followLetters 57 = .ok (.if_icmp .ge 7, 3) := dGR_14_c_334.2.2.2.2.2.2.2.1
theorem dX4_followLetters_60 : decode cX4_followLetters 60 = .ok (.iconst 1, 1) := dGR_14_c_334.2.2.2.2.2.2.2.2.1
theorem dX4_followLetters_61 : decode cX4_followLetters 61 = .ok (.goto 4, 3) := dGR_14_c_334.2.2.2.2.2.2.2.2.2.1
theorem dX4_followLetters_64 : decode cX4_followLetters 64 = .ok (.iload_n 2, 1) := dGR_14_c_334.2.2.2.2.2.2.2.2.2.2.1
theorem dX4_followLetters_65 : decode cX4_followLetters 65 = .ok (.iload_n 3, 1) := dGR_14_c_334.2.2.2.2.2.2.2.2.2.2.2
set_option maxRecDepth 100000 in
theorem dGR_14_c_335 : (decode cX4_followLetters 66 = .ok (.aload_n 0, 1)) ∧ (decode cX4_followLetters 67 = .ok (.getfield 25, 3)) ∧ (decode cX4_followLetters 70 = .ok (.getfield 137, 3)) ∧ (decode cX4_followLetters 73 = .ok (.iload 6, 2)) ∧ (decode cX4_followLetters 75 = .ok (.iaload, 1)) ∧ (decode cX4_followLetters 76 = .ok (.invokestatic 209, 3)) ∧ (decode cX4_followLetters 79 = .ok (.iload_n 1, 1)) ∧ (decode cX4_followLetters 80 = .ok (.bipush 8, 2)) ∧ (decode cX4_followLetters 82 = .ok (.irem, 1)) ∧ (decode cX4_followLetters 83 = .ok (.aload_n 0, 1)) ∧ (decode cX4_followLetters 84 = .ok (.getfield 28, 3)) ∧ (decode cX4_followLetters 87 = .ok (.getfield 137, 3)) := by decide +kernel
theorem dX4_followLetters_66 : decode cX4_followLetters 66 = .ok (.aload_n 0, 1) := dGR_14_c_335.1
theorem dX4_followLetters_67 : decode cX4_followLetters 67 = .ok (.getfield 25, 3) := dGR_14_c_335.2.1
theorem dX4_followLetters_70 : decode cX4_followLetters 70 = .ok (.getfield 137, 3) := dGR_14_c_335.2.2.1
theorem dX4_followLetters_73 : decode cX4_followLetters 73 = .ok (.iload 6, 2) := dGR_14_c_335.2.2.2.1
theorem dX4_followLetters_75 : decode cX4_followLetters 75 = .ok (.iaload, 1) := dGR_14_c_335.2.2.2.2.1
theorem dX4_followLetters_76 : decode cX4_followLetters 76 = .ok (.invokestatic 209, 3) := dGR_14_c_335.2.2.2.2.2.1
theorem dX4_followLetters_79 : decode cX4_followLetters 79 = .ok (.iload_n 1, 1) := dGR_14_c_335.2.2.2.2.2.2.1
theorem dX4_followLetters_80 : decode cX4_followLetters 80 = .ok (.bipush 8, 2) := dGR_14_c_335.2.2.2.2.2.2.2.1
theorem dX4_followLetters_82 : decode cX4_followLetters 82 = .ok (.irem, 1) := dGR_14_c_335.2.2.2.2.2.2.2.2.1
theorem dX4_followLetters_83 : decode cX4_followLetters 83 = .ok (.aload_n 0, 1) := dGR_14_c_335.2.2.2.2.2.2.2.2.2.1
theorem dX4_followLetters_84 : decode cX4_followLetters 84 = .ok (.getfield 28, 3) := dGR_14_c_335.2.2.2.2.2.2.2.2.2.2.1
theorem dX4_followLetters_87 : decode cX4_followLetters 87 = .ok (.getfield 137, 3) := dGR_14_c_335.2.2.2.2.2.2.2.2.2.2.2
set_option maxRecDepth 100000 in
theorem dGR_14_c_336 : (decode cX4_followLetters 90 = .ok (.iload 6, 2)) ∧ (decode cX4_followLetters 92 = .ok (.iaload, 1)) ∧ (decode cX4_followLetters 93 = .ok (.invokestatic 209, 3)) ∧ (decode cX4_followLetters 96 = .ok (.iload 4, 2)) ∧ (decode cX4_followLetters 98 = .ok (.iconst 1, 1)) ∧ (decode cX4_followLetters 99 = .ok (.invokestatic 170, 3)) ∧ (decode cX4_followLetters 102 = .ok (.aload_n 0, 1)) ∧ (decode cX4_followLetters 103 = .ok (.iload 4, 2)) ∧ (decode cX4_followLetters 105 = .ok (.aload_n 0, 1)) ∧ (decode cX4_followLetters 106 = .ok (.getfield 43, 3)) ∧ (decode cX4_followLetters 109 = .ok (.getfield 173, 3)) ∧ (decode cX4_followLetters 112 = .ok (.iload_n 1, 1)) := by decide +kernel
theorem dX4_followLetters_90 : decode cX4_followLetters 90 = .ok (.iload 6, 2) := dGR_14_c_336.1
theorem dX4_followLetters_92 : decode cX4_followLetters 92 = .ok (.iaload, 1) := dGR_14_c_336.2.1
theorem dX4_followLetters_93 : decode cX4_followLetters 93 = .ok (.invokestatic 209, 3) := dGR_14_c_336.2.2.1
theorem dX4_followLetters_96 : decode cX4_followLetters 96 = .ok (.iload 4, 2) := dGR_14_c_336.2.2.2.1
theorem dX4_followLetters_98 : decode cX4_followLetters 98 = .ok (.iconst 1, 1) := dGR_14_c_336.2.2.2.2.1
theorem dX4_followLetters_99 : decode cX4_followLetters 99 = .ok (.invokestatic 170, 3) := dGR_14_c_336.2.2.2.2.2.1
theorem dX4_followLetters_102 : decode cX4_followLetters 102 = .ok (.aload_n 0, 1) := dGR_14_c_336.2.2.2.2.2.2.1
theorem dX4_followLetters_103 : decode cX4_followLetters 103 = .ok (.iload 4, 2) := dGR_14_c_336.2.2.2.2.2.2.2.1
theorem dX4_followLetters_105 : decode cX4_followLetters 105 = .ok (.aload_n 0, 1) := dGR_14_c_336.2.2.2.2.2.2.2.2.1
theorem dX4_followLetters_106 : decode cX4_followLetters 106 = .ok (.getfield 43, 3) := dGR_14_c_336.2.2.2.2.2.2.2.2.2.1
theorem dX4_followLetters_109 : decode cX4_followLetters 109 = .ok (.getfield 173, 3) := dGR_14_c_336.2.2.2.2.2.2.2.2.2.2.1
theorem dX4_followLetters_112 : decode cX4_followLetters 112 = .ok (.iload_n 1, 1) := dGR_14_c_336.2.2.2.2.2.2.2.2.2.2.2
set_option maxRecDepth 100000 in
theorem dGR_14_c_337 : (decode cX4_followLetters 113 = .ok (.iaload, 1)) ∧ (decode cX4_followLetters 114 = .ok (.iconst 1, 1)) ∧ (decode cX4_followLetters 115 = .ok (.iload 6, 2)) ∧ (decode cX4_followLetters 117 = .ok (.invokevirtual 176, 3)) ∧ (decode cX4_followLetters 120 = .ok (.invokevirtual 193, 3)) ∧ (decode cX4_followLetters 123 = .ok (.iinc 6 1, 3)) ∧ (decode cX4_followLetters 126 = .ok (.goto (-83), 3)) ∧ (decode cX4_followLetters 129 = .ok (.return_, 1)) := by decide +kernel
theorem dX4_followLetters_113 : decode cX4_followLetters 113 = .ok (.iaload, 1) := dGR_14_c_337.1
theorem dX4_followLetters_114 : decode cX4_followLetters 114 = .ok (.iconst 1, 1) := dGR_14_c_337.2.1
theorem dX4_followLetters_115 : decode cX4_followLetters 115 = .ok (.iload 6, 2) := dGR_14_c_337.2.2.1
theorem dX4_followLetters_117 : decode cX4_followLetters 117 = .ok (.invokevirtual 176, 3) := dGR_14_c_337.2.2.2.1
theorem dX4_followLetters_120 : decode cX4_followLetters 120 = .ok (.invokevirtual 193, 3) := dGR_14_c_337.2.2.2.2.1
theorem dX4_followLetters_123 : decode cX4_followLetters 123 = .ok (.iinc 6 1, 3) := dGR_14_c_337.2.2.2.2.2.1
theorem dX4_followLetters_126 : decode cX4_followLetters 126 = .ok (.goto (-83), 3) := dGR_14_c_337.2.2.2.2.2.2.1
theorem dX4_followLetters_129 : decode cX4_followLetters 129 = .ok (.return_, 1) := dGR_14_c_337.2.2.2.2.2.2.2
abbrev f_c_X4_followLetters : List (Nat × Int) := [(31, 0), (32, -1), (33, -1), (34, -1), (35, -1)]
set_option maxHeartbeats 4000000 in
set_option maxRecDepth 100000 in
theorem c_X4_followLetters (G : KG) (l : Launch) (M : Mem) (c0 : Int) (a1 : Int) (hI_M : Inv false M) (hk_c0 : kd c0 = 41) (hpre : -2147483648 ≤ a1 ∧ a1 ≤ 2147483647 ∧ 0 ≤ a1 ∧ a1 ≤ 47) (hX_M : XX M) : KC false G l yX4_followLetters cX4_followLetters 7 none (3, 74) [vR G c0, vI a1] M (fun A => kQv false G A (fun (N : Mem) => Inv false N ∧ Fr f_c_X4_followLetters M N ∧ XX N)) := by
  refine kx_met (lo := [some (vR G c0), some (vI a1), none, none, none, none, none]) (by decide) (Nat.le_of_ble_eq_true rfl) rfl ?_
  intro X F hQ
  have hF_M : Fr f_c_X4_followLetters M M := Fr.rf _ _
  refine kx_iload_n 1 F 1 dX4_followLetters_0 rfl rfl rfl ?_
  refine kx_Si 4 F (As := [vI a1]) (st := []) sd_X4_206 (c_X4_pendingOf G l M a1 hI_M (by omega)) ⟨by decide, by decide⟩ rfl rfl (Nat.le_of_ble_eq_true rfl) dX4_followLetters_1 rfl ?_
  intro r_1 N_2 q_3
  obtain ⟨rfl, q_3c⟩ := q_3
  refine kx_istore_n 5 F 2 (lo' := [some (vR G c0), some (vI a1), some (vI r_1), none, none, none, none]) dX4_followLetters_4 rfl (by decide) rfl rfl rfl ?_
  refine kx_iconst 6 F dX4_followLetters_5 rfl ?_
  refine kx_iload_n 7 F 1 dX4_followLetters_6 rfl rfl rfl ?_
  refine kx_Si 10 F (As := [vI a1]) (st := [vI 1]) sd_X4_203 (c_X4_stateOf G l M a1 hI_M (by omega)) ⟨by decide, by decide⟩ rfl rfl (Nat.le_of_ble_eq_true rfl) dX4_followLetters_7 rfl ?_
  intro r_4 N_5 q_6
  obtain ⟨rfl, q_6c⟩ := q_6
  refine kx_ishl 11 F (v := (zshl 1 r_4)) dX4_followLetters_10 rfl rfl ?_
  have h_7 := zshl_1 (b := r_4) 2 (by decide) (by omega)
  refine kx_istore_n 12 F 3 (lo' := [some (vR G c0), some (vI a1), some (vI r_1), some (vI (zshl 1 r_4)), none, none, none]) dX4_followLetters_11 rfl (by decide) rfl rfl rfl ?_
  refine kx_aload_n 13 F 0 dX4_followLetters_12 rfl rfl rfl ?_
  refine kx_getr 16 F fl_X4_43 hk_c0 rfl rfl (j := 12) rfl dX4_followLetters_13 (v := (M c0 12)) rfl rfl ?_
  have hk_8 : kd (M c0 12) = 31 := Inv.r hI_M hk_c0 rfl 12 rfl rfl
  refine kx_getr 19 F fl_X4_94 hk_8 rfl rfl (j := 2) rfl dX4_followLetters_16 (v := (M (M c0 12) 2)) rfl rfl ?_
  have hk_9 : kd (M (M c0 12) 2) = 33 := Inv.r hI_M hk_8 rfl 2 rfl rfl
  refine kx_iload_n 20 F 1 dX4_followLetters_19 rfl rfl rfl ?_
  refine kx_iald 21 F hk_9 rfl rfl (by omega) (by decide) dX4_followLetters_20 (v := (M (M (M c0 12) 2) a1)) rfl rfl ?_
  have h_10 := Inv.g hI_M hk_9 rfl a1 (a := 0) (b := 1000000000) rfl rfl
  refine kx_istore 23 F 4 (lo' := [some (vR G c0), some (vI a1), some (vI r_1), some (vI (zshl 1 r_4)), some (vI (M (M (M c0 12) 2) a1)), none, none]) dX4_followLetters_21 (by decide) rfl rfl rfl ?_
  refine kx_iload_n 24 F 2 dX4_followLetters_23 rfl rfl rfl ?_
  have J_18 : ∀ (y0_17 : Int), 0 ≤ y0_17 ∧ y0_17 ≤ 4 → KJ false G X M 38 [some (vR G c0), some (vI a1), some (vI r_1), some (vI (zshl 1 r_4)), some (vI (M (M (M c0 12) 2) a1)), none, none] [vI y0_17] := by
    intro y0_17 h_19
    refine kx_istore 40 F 5 (lo' := [some (vR G c0), some (vI a1), some (vI r_1), some (vI (zshl 1 r_4)), some (vI (M (M (M c0 12) 2) a1)), some (vI y0_17), none]) dX4_followLetters_38 (by decide) rfl rfl rfl ?_
    refine kx_iconst 41 F dX4_followLetters_40 rfl ?_
    refine kx_istore 43 F 6 (lo' := [some (vR G c0), some (vI a1), some (vI r_1), some (vI (zshl 1 r_4)), some (vI (M (M (M c0 12) 2) a1)), some (vI y0_17), some (vI 0)]) dX4_followLetters_41 (by decide) rfl rfl rfl ?_
    have L_267 : ∀ (n_268 : Nat) (x6_265 : Int) (N_266 : Mem), Inv false N_266 → Fr f_c_X4_followLetters M N_266 → XX N_266 → 0 ≤ x6_265 ∧ x6_265 ≤ 4 → (4 - (x6_265)).toNat = n_268 → KJ false G X N_266 43 [some (vR G c0), some (vI a1), some (vI r_1), some (vI (zshl 1 r_4)), some (vI (M (M (M c0 12) 2) a1)), some (vI y0_17), some (vI x6_265)] [] := by
      intro n_268
      refine Nat.strongRecOn n_268 ?_
      intro n_268 ih_269 x6_265 N_266 hI_N_266 hF_N_266 hX_N_266 h_270 hm_271
      refine kx_iload 45 F 6 dX4_followLetters_43 rfl rfl ?_
      refine kx_iload 47 F 5 dX4_followLetters_45 rfl rfl ?_
      refine kx_icmp_ge 50 F 129 dX4_followLetters_47 (by decide) rfl (by omega) (by omega) (fun h_272 => ?_) (fun h_272 => ?_)
      · exact kx_vret F hQ ⟨hI_N_266, hF_N_266, hX_N_266⟩ dX4_followLetters_129
      · refine kx_aload_n 51 F 0 dX4_followLetters_50 rfl rfl rfl ?_
        refine kx_iload 53 F 6 dX4_followLetters_51 rfl rfl ?_
        refine kx_aload_n 54 F 0 dX4_followLetters_53 rfl rfl rfl ?_
        refine kx_geti 57 F fl_X4_100 hk_c0 rfl rfl (j := 3) rfl dX4_followLetters_54 (v := (M c0 3)) (by rw [Fr.e hF_N_266 hk_c0 _ rfl]) rfl ?_
        have h_273 := Inv.g hI_M hk_c0 rfl 3 (a := 0) (b := 2) rfl rfl
        have J_277 : ∀ (y0_276 : Int), 0 ≤ y0_276 ∧ y0_276 ≤ 1 → KJ false G X N_266 65 [some (vR G c0), some (vI a1), some (vI r_1), some (vI (zshl 1 r_4)), some (vI (M (M (M c0 12) 2) a1)), some (vI y0_17), some (vI x6_265)] [vI y0_276, vR G c0] := by
          intro y0_276 h_278
          refine kx_iload_n 66 F 3 dX4_followLetters_65 rfl rfl rfl ?_
          refine kx_aload_n 67 F 0 dX4_followLetters_66 rfl rfl rfl ?_
          refine kx_getr 70 F fl_X4_25 hk_c0 rfl rfl (j := 7) rfl dX4_followLetters_67 (v := (M c0 7)) (by rw [Fr.e hF_N_266 hk_c0 _ rfl]) rfl ?_
          have hk_279 : kd (M c0 7) = 1 := Inv.r hI_M hk_c0 rfl 7 rfl rfl
          refine kx_getr 73 F fl_X4_137 hk_279 rfl rfl (j := 10) rfl dX4_followLetters_70 (v := (M (M c0 7) 10)) (by rw [Fr.e hF_N_266 hk_279 _ rfl]) rfl ?_
          have hk_280 : kd (M (M c0 7) 10) = 6 := Inv.r hI_M hk_279 rfl 10 rfl rfl
          refine kx_iload 75 F 6 dX4_followLetters_73 rfl rfl ?_
          refine kx_iald 76 F hk_280 rfl rfl (by omega) (by decide) dX4_followLetters_75 (v := (M (M (M c0 7) 10) x6_265)) (by rw [Fr.e hF_N_266 hk_280 _ rfl]) rfl ?_
          have h_281 := Inv.g hI_M hk_280 rfl x6_265 (a := 0) (b := 511) rfl rfl
          refine kx_Si 79 F (As := [vI (zshl 1 r_4), vI (M (M (M c0 7) 10) x6_265)]) (st := [vI y0_276, vR G c0]) sd_X4_209 (c_X2_image G l N_266 (zshl 1 r_4) (M (M (M c0 7) 10) x6_265) hI_N_266 (by omega)) ⟨by decide, by decide⟩ rfl rfl (Nat.le_of_ble_eq_true rfl) dX4_followLetters_76 rfl ?_
          intro r_282 N_283 q_284
          obtain ⟨rfl, q_284c⟩ := q_284
          refine kx_iload_n 80 F 1 dX4_followLetters_79 rfl rfl rfl ?_
          refine kx_bipush 82 F dX4_followLetters_80 (by decide) rfl ?_
          refine kx_irem 83 F (v := (a1 % 8)) dX4_followLetters_82 (by omega) (by decide) rfl rfl ?_
          refine kx_aload_n 84 F 0 dX4_followLetters_83 rfl rfl rfl ?_
          refine kx_getr 87 F fl_X4_28 hk_c0 rfl rfl (j := 8) rfl dX4_followLetters_84 (v := (M c0 8)) (by rw [Fr.e hF_N_266 hk_c0 _ rfl]) rfl ?_
          have hk_285 : kd (M c0 8) = 1 := Inv.r hI_M hk_c0 rfl 8 rfl rfl
          refine kx_getr 90 F fl_X4_137 hk_285 rfl rfl (j := 10) rfl dX4_followLetters_87 (v := (M (M c0 8) 10)) (by rw [Fr.e hF_N_266 hk_285 _ rfl]) rfl ?_
          have hk_286 : kd (M (M c0 8) 10) = 6 := Inv.r hI_M hk_285 rfl 10 rfl rfl
          refine kx_iload 92 F 6 dX4_followLetters_90 rfl rfl ?_
          refine kx_iald 93 F hk_286 rfl rfl (by omega) (by decide) dX4_followLetters_92 (v := (M (M (M c0 8) 10) x6_265)) (by rw [Fr.e hF_N_266 hk_286 _ rfl]) rfl ?_
          have h_287 := Inv.g hI_M hk_286 rfl x6_265 (a := 0) (b := 511) rfl rfl
          refine kx_Si 96 F (As := [vI (a1 % 8), vI (M (M (M c0 8) 10) x6_265)]) (st := [vI r_282, vI y0_276, vR G c0]) sd_X4_209 (c_X2_image G l N_266 (a1 % 8) (M (M (M c0 8) 10) x6_265) hI_N_266 (by omega)) ⟨by decide, by decide⟩ rfl rfl (Nat.le_of_ble_eq_true rfl) dX4_followLetters_93 rfl ?_
          intro r_288 N_289 q_290
          obtain ⟨rfl, q_290c⟩ := q_290
          refine kx_iload 98 F 4 dX4_followLetters_96 rfl rfl ?_
          refine kx_iconst 99 F dX4_followLetters_98 rfl ?_
          refine kx_Si 102 F (As := [vI (M (M (M c0 12) 2) a1), vI 1]) (st := [vI r_288, vI r_282, vI y0_276, vR G c0]) sd_X4_170 (c_X4_lengthOf G l N_266 (M (M (M c0 12) 2) a1) 1 hI_N_266 (by omega)) ⟨by decide, by decide⟩ rfl rfl (Nat.le_of_ble_eq_true rfl) dX4_followLetters_99 rfl ?_
          intro r_291 N_292 q_293
          obtain ⟨rfl, q_293c⟩ := q_293
          refine kx_aload_n 103 F 0 dX4_followLetters_102 rfl rfl rfl ?_
          refine kx_iload 105 F 4 dX4_followLetters_103 rfl rfl ?_
          refine kx_aload_n 106 F 0 dX4_followLetters_105 rfl rfl rfl ?_
          refine kx_getr 109 F fl_X4_43 hk_c0 rfl rfl (j := 12) rfl dX4_followLetters_106 (v := (M c0 12)) (by rw [Fr.e hF_N_266 hk_c0 _ rfl]) rfl ?_
          refine kx_getr 112 F fl_X4_173 hk_8 rfl rfl (j := 3) rfl dX4_followLetters_109 (v := (M (M c0 12) 3)) (by rw [Fr.e hF_N_266 hk_8 _ rfl]) rfl ?_
          have hk_294 : kd (M (M c0 12) 3) = 34 := Inv.r hI_M hk_8 rfl 3 rfl rfl
          refine kx_iload_n 113 F 1 dX4_followLetters_112 rfl rfl rfl ?_
          refine kx_iald 114 F hk_294 rfl rfl (by omega) (by decide) dX4_followLetters_113 (v := (N_266 (M (M c0 12) 3) a1)) rfl rfl ?_
          have h_295 := Inv.g hI_N_266 hk_294 rfl a1 (a := (-2147483648)) (b := 2147483647) rfl rfl
          refine kx_iconst 115 F dX4_followLetters_114 rfl ?_
          refine kx_iload 117 F 6 dX4_followLetters_115 rfl rfl ?_
          refine kx_Vi 120 (ci := 0) F (As := [vI (M (M (M c0 12) 2) a1), vI (N_266 (M (M c0 12) 3) a1), vI 1, vI x6_265]) (st := [vI r_291, vI r_288, vI r_282, vI y0_276, vR G c0]) vd_X4_176 (c_X4_codeOf G l N_266 c0 (M (M (M c0 12) 2) a1) (N_266 (M (M c0 12) 3) a1) 1 x6_265 hI_N_266 hk_c0 (by omega)) hk_c0 rfl rfl rfl ⟨by decide, by decide⟩ rfl rfl (Nat.le_of_ble_eq_true rfl) dX4_followLetters_117 rfl ?_
          intro r_296 N_297 q_298
          obtain ⟨rfl, q_298c⟩ := q_298
          refine kx_Vv 123 (ci := 0) F (As := [vI y0_276, vI r_282, vI r_288, vI r_291, vI r_296]) (st := []) vd_X4_193 (c_X4_offerNodes G l N_266 c0 y0_276 r_282 r_288 r_291 r_296 hI_N_266 hk_c0 (by omega) hX_N_266) hk_c0 rfl rfl rfl ⟨by decide, by decide⟩ rfl rfl (Nat.le_of_ble_eq_true rfl) dX4_followLetters_120 rfl ?_
          intro N_299 q_300
          obtain ⟨hI_N_299, hG_N_299, hX_N_299⟩ := q_300
          have hF_N_299 : Fr f_c_X4_followLetters M N_299 := Fr.c hF_N_266 hG_N_299 rfl
          refine kx_iinc 126 F 6 (v := x6_265 + 1) (lo' := [some (vR G c0), some (vI a1), some (vI r_1), some (vI (zshl 1 r_4)), some (vI (M (M (M c0 12) 2) a1)), some (vI y0_17), some (vI (x6_265 + 1))]) dX4_followLetters_123 rfl (by omega) (by decide) rfl rfl rfl ?_
          refine kx_goto 43 F dX4_followLetters_126 (by decide) ?_
          exact ih_269 _ (by omega) (x6_265 + 1) N_299 hI_N_299 hF_N_299 hX_N_299 (by omega) rfl
        refine kx_icmp_ge 60 F 64 dX4_followLetters_57 (by decide) rfl (by omega) (by omega) (fun h_301 => ?_) (fun h_301 => ?_)
        · refine kx_iload_n 65 F 2 dX4_followLetters_64 rfl rfl rfl ?_
          exact J_277 r_1 (by omega)
        · refine kx_iconst 61 F dX4_followLetters_60 rfl ?_
          refine kx_goto 65 F dX4_followLetters_61 (by decide) ?_
          exact J_277 1 (by omega)
    exact L_267 _ 0 M hI_M hF_M hX_M (by omega) rfl
  refine kx_if_ne 27 F 34 dX4_followLetters_24 (by decide) rfl (by omega) (fun h_302 => ?_) (fun h_302 => ?_)
  · refine kx_aload_n 35 F 0 dX4_followLetters_34 rfl rfl rfl ?_
    refine kx_geti 38 F fl_X4_100 hk_c0 rfl rfl (j := 3) rfl dX4_followLetters_35 (v := (M c0 3)) rfl rfl ?_
    have h_303 := Inv.g hI_M hk_c0 rfl 3 (a := 0) (b := 2) rfl rfl
    exact J_18 (M c0 3) (by omega)
  · refine kx_aload_n 28 F 0 dX4_followLetters_27 rfl rfl rfl ?_
    refine kx_geti 31 F fl_X4_104 hk_c0 rfl rfl (j := 4) rfl dX4_followLetters_28 (v := (M c0 4)) rfl rfl ?_
    have h_304 := Inv.g hI_M hk_c0 rfl 4 (a := 0) (b := 4) rfl rfl
    refine kx_goto 38 F dX4_followLetters_31 (by decide) ?_
    exact J_18 (M c0 4) (by omega)
set_option maxRecDepth 100000 in
theorem dGR_14_c_338 : (decode cX4_findNodes 0 = .ok (.aload_n 0, 1)) ∧ (decode cX4_findNodes 1 = .ok (.iconst 0, 1)) ∧ (decode cX4_findNodes 2 = .ok (.aload_n 0, 1)) ∧ (decode cX4_findNodes 3 = .ok (.getfield 25, 3)) ∧ (decode cX4_findNodes 6 = .ok (.getfield 190, 3)) ∧ (decode cX4_findNodes 9 = .ok (.aload_n 0, 1)) ∧ (decode cX4_findNodes 10 = .ok (.getfield 28, 3)) ∧ (decode cX4_findNodes 13 = .ok (.getfield 190, 3)) ∧ (decode cX4_findNodes 16 = .ok (.iconst 0, 1)) ∧ (decode cX4_findNodes 17 = .ok (.iconst 0, 1)) ∧ (decode cX4_findNodes 18 = .ok (.invokevirtual 193, 3)) ∧ (decode cX4_findNodes 21 = .ok (.iconst 0, 1)) := by decide +kernel
theorem dX4_findNodes_0 : decode cX4_findNodes 0 = .ok (.aload_n 0, 1) := dGR_14_c_338.1
theorem dX4_findNodes_1 : decode cX4_findNodes 1 = .ok (.iconst 0, 1) := dGR_14_c_338.2.1
theorem dX4_findNodes_2 : decode cX4_findNodes 2 = .ok (.aload_n 0, 1) := dGR_14_c_338.2.2.1
theorem dX4_findNodes_3 : decode cX4_findNodes 3 = .ok (.getfield 25, 3) := dGR_14_c_338.2.2.2.1
theorem dX4_findNodes_6 : decode cX4_findNodes 6 = .ok (.getfield 190, 3) := dGR_14_c_338.2.2.2.2.1
theorem dX4_findNodes_9 : decode cX4_findNodes 9 = .ok (.aload_n 0, 1) := dGR_14_c_338.2.2.2.2.2.1
theorem dX4_findNodes_10 : decode cX4_findNodes 10 = .ok (.getfield 28, 3) := dGR_14_c_338.2.2.2.2.2.2.1
theorem dX4_findNodes_13 : decode cX4_findNodes 13 = .ok (.getfield 190, 3) := dGR_14_c_338.2.2.2.2.2.2.2.1
theorem dX4_findNodes_16 : decode cX4_findNodes 16 = .ok (.iconst 0, 1) := dGR_14_c_338.2.2.2.2.2.2.2.2.1
theorem dX4_findNodes_17 : decode cX4_findNodes 17 = .ok (.iconst 0, 1) := dGR_14_c_338.2.2.2.2.2.2.2.2.2.1
theorem dX4_findNodes_18 : decode cX4_findNodes 18 = .ok (.invokevirtual 193, 3) := dGR_14_c_338.2.2.2.2.2.2.2.2.2.2.1
theorem dX4_findNodes_21 : decode cX4_findNodes 21 = .ok (.iconst 0, 1) := dGR_14_c_338.2.2.2.2.2.2.2.2.2.2.2
set_option maxRecDepth 100000 in
theorem dGR_14_c_339 : (decode cX4_findNodes 22 = .ok (.istore_n 1, 1)) ∧ (decode cX4_findNodes 23 = .ok (.iload_n 1, 1)) ∧ (decode cX4_findNodes 24 = .ok (.bipush 48, 2)) ∧ (decode cX4_findNodes 26 = .ok (.if_icmp .ge 85, 3)) ∧ (decode cX4_findNodes 29 = .ok (.aload_n 0, 1)) ∧ (decode cX4_findNodes 30 = .ok (.getfield 43, 3)) ∧ (decode cX4_findNodes 33 = .ok (.invokevirtual 140, 3)) ∧ (decode cX4_findNodes 36 = .ok (.istore_n 2, 1)) ∧ (decode cX4_findNodes 37 = .ok (.iload_n 2, 1)) ∧ (decode cX4_findNodes 38 = .ok (.iconst (-1), 1)) ∧ (decode cX4_findNodes 39 = .ok (.if_icmp .ne 6, 3)) ∧ (decode cX4_findNodes 42 = .ok (.goto 69, 3)) := by decide +kernel
theorem dX4_findNodes_22 : decode cX4_findNodes 22 = .ok (.istore_n 1, 1) := dGR_14_c_339.1
theorem dX4_findNodes_23 : decode cX4_findNodes 23 = .ok (.iload_n 1, 1) := dGR_14_c_339.2.1
theorem dX4_findNodes_24 : decode cX4_findNodes 24 = .ok (.bipush 48, 2) := dGR_14_c_339.2.2.1
theorem dX4_findNodes_26 : decode cX4_findNodes 26 = .ok (.if_icmp .ge 85, 3) := dGR_14_c_339.2.2.2.1
theorem dX4_findNodes_29 : decode cX4_findNodes 29 = .ok (.aload_n 0, 1) := dGR_14_c_339.2.2.2.2.1
theorem dX4_findNodes_30 : decode cX4_findNodes 30 = .ok (.getfield 43, 3) := dGR_14_c_339.2.2.2.2.2.1
theorem dX4_findNodes_33 : decode cX4_findNodes 33 = .ok (.invokevirtual 140, 3) := dGR_14_c_339.2.2.2.2.2.2.1
theorem dX4_findNodes_36 : decode cX4_findNodes 36 = .ok (.istore_n 2, 1) := dGR_14_c_339.2.2.2.2.2.2.2.1
theorem dX4_findNodes_37 : decode cX4_findNodes 37 = .ok (.iload_n 2, 1) := dGR_14_c_339.2.2.2.2.2.2.2.2.1
theorem dX4_findNodes_38 : decode cX4_findNodes 38 = .ok (.iconst (-1), 1) := dGR_14_c_339.2.2.2.2.2.2.2.2.2.1
theorem dX4_findNodes_39 : decode cX4_findNodes 39 = .ok (.if_icmp .ne 6, 3) := dGR_14_c_339.2.2.2.2.2.2.2.2.2.2.1
theorem dX4_findNodes_42 : decode cX4_findNodes 42 = .ok (.goto 69, 3) := dGR_14_c_339.2.2.2.2.2.2.2.2.2.2.2
set_option maxRecDepth 100000 in
theorem dGR_14_c_340 : (decode cX4_findNodes 45 = .ok (.aload_n 0, 1)) ∧ (decode cX4_findNodes 46 = .ok (.getfield 43, 3)) ∧ (decode cX4_findNodes 49 = .ok (.getfield 150, 3)) ∧ (decode cX4_findNodes 52 = .ok (.istore_n 3, 1)) ∧ (decode cX4_findNodes 53 = .ok (.iconst 0, 1)) ∧ (decode cX4_findNodes 54 = .ok (.istore 4, 2)) ∧ (decode cX4_findNodes 56 = .ok (.iload 4, 2)) ∧ (decode cX4_findNodes 58 = .ok (.iload_n 3, 1)) ∧ (decode cX4_findNodes 59 = .ok (.if_icmp .ge 46, 3)) ∧ (decode cX4_findNodes 62 = .ok (.aload_n 0, 1)) ∧ (decode cX4_findNodes 63 = .ok (.getfield 43, 3)) ∧ (decode cX4_findNodes 66 = .ok (.getfield 153, 3)) := by decide +kernel
theorem dX4_findNodes_45 : decode cX4_findNodes 45 = .ok (.aload_n 0, 1) := dGR_14_c_340.1
theorem dX4_findNodes_46 : decode cX4_findNodes 46 = .ok (.getfield 43, 3) := dGR_14_c_340.2.1
theorem dX4_findNodes_49 : decode cX4_findNodes 49 = .ok (.getfield 150, 3) := dGR_14_c_340.2.2.1
theorem dX4_findNodes_52 : decode cX4_findNodes 52 = .ok (.istore_n 3, 1) := dGR_14_c_340.2.2.2.1
theorem dX4_findNodes_53 : decode cX4_findNodes 53 = .ok (.iconst 0, 1) := dGR_14_c_340.2.2.2.2.1
theorem dX4_findNodes_54 : decode cX4_findNodes 54 = .ok (.istore 4, 2) := dGR_14_c_340.2.2.2.2.2.1
theorem dX4_findNodes_56 : decode cX4_findNodes 56 = .ok (.iload 4, 2) := dGR_14_c_340.2.2.2.2.2.2.1
theorem dX4_findNodes_58 : decode cX4_findNodes 58 = .ok (.iload_n 3, 1) := dGR_14_c_340.2.2.2.2.2.2.2.1
theorem dX4_findNodes_59 : decode cX4_findNodes 59 = .ok (.if_icmp .ge 46, 3) := dGR_14_c_340.2.2.2.2.2.2.2.2.1
theorem dX4_findNodes_62 : decode cX4_findNodes 62 = .ok (.aload_n 0, 1) := dGR_14_c_340.2.2.2.2.2.2.2.2.2.1
theorem dX4_findNodes_63 : decode cX4_findNodes 63 = .ok (.getfield 43, 3) := dGR_14_c_340.2.2.2.2.2.2.2.2.2.2.1
theorem dX4_findNodes_66 : decode cX4_findNodes 66 = .ok (.getfield 153, 3) := dGR_14_c_340.2.2.2.2.2.2.2.2.2.2.2
set_option maxRecDepth 100000 in
theorem dGR_14_c_341 : (decode cX4_findNodes 69 = .ok (.iload 4, 2)) ∧ (decode cX4_findNodes 71 = .ok (.iaload, 1)) ∧ (decode cX4_findNodes 72 = .ok (.istore 5, 2)) ∧ (decode cX4_findNodes 74 = .ok (.aload_n 0, 1)) ∧ (decode cX4_findNodes 75 = .ok (.getfield 43, 3)) ∧ (decode cX4_findNodes 78 = .ok (.iload 5, 2)) ∧ (decode cX4_findNodes 80 = .ok (.iload_n 2, 1)) ∧ (decode cX4_findNodes 81 = .ok (.invokevirtual 156, 3)) ∧ (decode cX4_findNodes 84 = .ok (.ifCond .eq 15, 3)) ∧ (decode cX4_findNodes 87 = .ok (.aload_n 0, 1)) ∧ (decode cX4_findNodes 88 = .ok (.iload 5, 2)) ∧ (decode cX4_findNodes 90 = .ok (.invokevirtual 197, 3)) := by decide +kernel
theorem dX4_findNodes_69 : decode cX4_findNodes 69 = .ok (.iload 4, 2) := dGR_14_c_341.1
theorem dX4_findNodes_71 : decode cX4_findNodes 71 = .ok (.iaload, 1) := dGR_14_c_341.2.1
theorem dX4_findNodes_72 : decode cX4_findNodes 72 = .ok (.istore 5, 2) := dGR_14_c_341.2.2.1
theorem dX4_findNodes_74 : decode cX4_findNodes 74 = .ok (.aload_n 0, 1) := dGR_14_c_341.2.2.2.1
theorem dX4_findNodes_75 : decode cX4_findNodes 75 = .ok (.getfield 43, 3) := dGR_14_c_341.2.2.2.2.1
theorem dX4_findNodes_78 : decode cX4_findNodes 78 = .ok (.iload 5, 2) := dGR_14_c_341.2.2.2.2.2.1
theorem dX4_findNodes_80 : decode cX4_findNodes 80 = .ok (.iload_n 2, 1) := dGR_14_c_341.2.2.2.2.2.2.1
theorem dX4_findNodes_81 : decode cX4_findNodes 81 = .ok (.invokevirtual 156, 3) := dGR_14_c_341.2.2.2.2.2.2.2.1
theorem dX4_findNodes_84 : decode cX4_findNodes 84 = .ok (.ifCond .eq 15, 3) := dGR_14_c_341.2.2.2.2.2.2.2.2.1
theorem dX4_findNodes_87 : decode cX4_findNodes 87 = .ok (.aload_n 0, 1) := dGR_14_c_341.2.2.2.2.2.2.2.2.2.1
theorem dX4_findNodes_88 : decode cX4_findNodes 88 = .ok (.iload 5, 2) := dGR_14_c_341.2.2.2.2.2.2.2.2.2.2.1
theorem dX4_findNodes_90 : decode cX4_findNodes 90 = .ok (.invokevirtual 197, 3) := dGR_14_c_341.2.2.2.2.2.2.2.2.2.2.2
set_option maxRecDepth 100000 in
theorem dGR_14_c_342 : (decode cX4_findNodes 93 = .ok (.aload_n 0, 1)) ∧ (decode cX4_findNodes 94 = .ok (.iload 5, 2)) ∧ (decode cX4_findNodes 96 = .ok (.invokevirtual 200, 3)) ∧ (decode cX4_findNodes 99 = .ok (.iinc 4 1, 3)) ∧ (decode cX4_findNodes 102 = .ok (.goto (-46), 3)) ∧ (decode cX4_findNodes 105 = .ok (.iinc 1 1, 3)) ∧ (decode cX4_findNodes 108 = .ok (.goto (-85), 3)) ∧ (decode cX4_findNodes 111 = .ok (.return_, 1)) := by decide +kernel
theorem dX4_findNodes_93 : decode cX4_findNodes 93 = .ok (.aload_n 0, 1) := dGR_14_c_342.1
theorem dX4_findNodes_94 : decode cX4_findNodes 94 = .ok (.iload 5, 2) := dGR_14_c_342.2.1
theorem dX4_findNodes_96 : decode cX4_findNodes 96 = .ok (.invokevirtual 200, 3) := dGR_14_c_342.2.2.1
theorem dX4_findNodes_99 : decode cX4_findNodes 99 = .ok (.iinc 4 1, 3) := dGR_14_c_342.2.2.2.1
theorem dX4_findNodes_102 : decode cX4_findNodes 102 = .ok (.goto (-46), 3) := dGR_14_c_342.2.2.2.2.1
theorem dX4_findNodes_105 : decode cX4_findNodes 105 = .ok (.iinc 1 1, 3) := dGR_14_c_342.2.2.2.2.2.1
theorem dX4_findNodes_108 : decode cX4_findNodes 108 = .ok (.goto (-85), 3) := dGR_14_c_342.2.2.2.2.2.2.1
theorem dX4_findNodes_111 : decode cX4_findNodes 111 = .ok (.return_, 1) := dGR_14_c_342.2.2.2.2.2.2.2
abbrev f_c_X4_findNodes : List (Nat × Int) := [(31, 0), (32, -1), (33, -1), (34, -1), (35, -1)]
set_option maxHeartbeats 4000000 in
set_option maxRecDepth 100000 in
theorem c_X4_findNodes (G : KG) (l : Launch) (M : Mem) (c0 : Int) (hI_M : Inv false M) (hk_c0 : kd c0 = 41) (hX_M : XX M) : KC false G l yX4_findNodes cX4_findNodes 6 none (4, 100) [vR G c0] M (fun A => kQv false G A (fun (N : Mem) => Inv false N ∧ Fr f_c_X4_findNodes M N ∧ XX N)) := by
  refine kx_met (lo := [some (vR G c0), none, none, none, none, none]) (by decide) (Nat.le_of_ble_eq_true rfl) rfl ?_
  intro X F hQ
  have hF_M : Fr f_c_X4_findNodes M M := Fr.rf _ _
  refine kx_aload_n 1 F 0 dX4_findNodes_0 rfl rfl rfl ?_
  refine kx_iconst 2 F dX4_findNodes_1 rfl ?_
  refine kx_aload_n 3 F 0 dX4_findNodes_2 rfl rfl rfl ?_
  refine kx_getr 6 F fl_X4_25 hk_c0 rfl rfl (j := 7) rfl dX4_findNodes_3 (v := (M c0 7)) rfl rfl ?_
  have hk_1 : kd (M c0 7) = 1 := Inv.r hI_M hk_c0 rfl 7 rfl rfl
  refine kx_geti 9 F fl_X4_190 hk_1 rfl rfl (j := 2) rfl dX4_findNodes_6 (v := (M (M c0 7) 2)) rfl rfl ?_
  have h_2 := Inv.g hI_M hk_1 rfl 2 (a := 0) (b := 7) rfl rfl
  refine kx_aload_n 10 F 0 dX4_findNodes_9 rfl rfl rfl ?_
  refine kx_getr 13 F fl_X4_28 hk_c0 rfl rfl (j := 8) rfl dX4_findNodes_10 (v := (M c0 8)) rfl rfl ?_
  have hk_3 : kd (M c0 8) = 1 := Inv.r hI_M hk_c0 rfl 8 rfl rfl
  refine kx_geti 16 F fl_X4_190 hk_3 rfl rfl (j := 2) rfl dX4_findNodes_13 (v := (M (M c0 8) 2)) rfl rfl ?_
  have h_4 := Inv.g hI_M hk_3 rfl 2 (a := 0) (b := 7) rfl rfl
  refine kx_iconst 17 F dX4_findNodes_16 rfl ?_
  refine kx_iconst 18 F dX4_findNodes_17 rfl ?_
  refine kx_Vv 21 (ci := 0) F (As := [vI 0, vI (M (M c0 7) 2), vI (M (M c0 8) 2), vI 0, vI 0]) (st := []) vd_X4_193 (c_X4_offerNodes G l M c0 0 (M (M c0 7) 2) (M (M c0 8) 2) 0 0 hI_M hk_c0 (by omega) hX_M) hk_c0 rfl rfl rfl ⟨by decide, by decide⟩ rfl rfl (Nat.le_of_ble_eq_true rfl) dX4_findNodes_18 rfl ?_
  intro N_5 q_6
  obtain ⟨hI_N_5, hG_N_5, hX_N_5⟩ := q_6
  have hF_N_5 : Fr f_c_X4_findNodes M N_5 := Fr.c hF_M hG_N_5 rfl
  refine kx_iconst 22 F dX4_findNodes_21 rfl ?_
  refine kx_istore_n 23 F 1 (lo' := [some (vR G c0), some (vI 0), none, none, none, none]) dX4_findNodes_22 rfl (by decide) rfl rfl rfl ?_
  have L_835 : ∀ (n_836 : Nat) (x1_833 : Int) (N_834 : Mem), Inv false N_834 → Fr f_c_X4_findNodes M N_834 → XX N_834 → 0 ≤ x1_833 ∧ x1_833 ≤ 48 → (48 - (x1_833)).toNat = n_836 → KJ false G X N_834 23 [some (vR G c0), some (vI x1_833), none, none, none, none] [] := by
    intro n_836
    refine Nat.strongRecOn n_836 ?_
    intro n_836 ih_837 x1_833 N_834 hI_N_834 hF_N_834 hX_N_834 h_838 hm_839
    refine kx_iload_n 24 F 1 dX4_findNodes_23 rfl rfl rfl ?_
    refine kx_bipush 26 F dX4_findNodes_24 (by decide) rfl ?_
    refine kx_icmp_ge 29 F 111 dX4_findNodes_26 (by decide) rfl (by omega) (by decide) (fun h_840 => ?_) (fun h_840 => ?_)
    · exact kx_vret F hQ ⟨hI_N_834, hF_N_834, hX_N_834⟩ dX4_findNodes_111
    · refine kx_aload_n 30 F 0 dX4_findNodes_29 rfl rfl rfl ?_
      refine kx_getr 33 F fl_X4_43 hk_c0 rfl rfl (j := 12) rfl dX4_findNodes_30 (v := (M c0 12)) (by rw [Fr.e hF_N_834 hk_c0 _ rfl]) rfl ?_
      have hk_841 : kd (M c0 12) = 31 := Inv.r hI_M hk_c0 rfl 12 rfl rfl
      refine kx_Vi 36 (ci := 0) F (As := []) (st := []) vd_X4_140 (c_X6_nearestB G l N_834 (M c0 12) hI_N_834 hk_841) hk_841 rfl rfl rfl ⟨by decide, by decide⟩ rfl rfl (Nat.le_of_ble_eq_true rfl) dX4_findNodes_33 rfl ?_
      intro r_842 N_843 q_844
      obtain ⟨rfl, q_844c⟩ := q_844
      refine kx_istore_n 37 F 2 (lo' := [some (vR G c0), some (vI x1_833), some (vI r_842), none, none, none]) dX4_findNodes_36 rfl (by decide) rfl rfl rfl ?_
      refine kx_iload_n 38 F 2 dX4_findNodes_37 rfl rfl rfl ?_
      refine kx_iconst 39 F dX4_findNodes_38 rfl ?_
      refine kx_icmp_ne 42 F 45 dX4_findNodes_39 (by decide) rfl (by omega) (by decide) (fun h_845 => ?_) (fun h_845 => ?_)
      · refine kx_aload_n 46 F 0 dX4_findNodes_45 rfl rfl rfl ?_
        refine kx_getr 49 F fl_X4_43 hk_c0 rfl rfl (j := 12) rfl dX4_findNodes_46 (v := (M c0 12)) (by rw [Fr.e hF_N_834 hk_c0 _ rfl]) rfl ?_
        refine kx_geti 52 F fl_X4_150 hk_841 rfl rfl (j := 0) rfl dX4_findNodes_49 (v := (N_834 (M c0 12) 0)) rfl rfl ?_
        have h_846 := Inv.g hI_N_834 hk_841 rfl 0 (a := 0) (b := 48) rfl rfl
        refine kx_istore_n 53 F 3 (lo' := [some (vR G c0), some (vI x1_833), some (vI r_842), some (vI (N_834 (M c0 12) 0)), none, none]) dX4_findNodes_52 rfl (by decide) rfl rfl rfl ?_
        refine kx_iconst 54 F dX4_findNodes_53 rfl ?_
        refine kx_istore 56 F 4 (lo' := [some (vR G c0), some (vI x1_833), some (vI r_842), some (vI (N_834 (M c0 12) 0)), some (vI 0), none]) dX4_findNodes_54 (by decide) rfl rfl rfl ?_
        have L_940 : ∀ (n_941 : Nat) (x4_938 : Int) (N_939 : Mem), Inv false N_939 → Fr f_c_X4_findNodes M N_939 → XX N_939 → 0 ≤ x4_938 ∧ x4_938 ≤ 48 → (48 - (x4_938)).toNat = n_941 → KJ false G X N_939 56 [some (vR G c0), some (vI x1_833), some (vI r_842), some (vI (N_834 (M c0 12) 0)), some (vI x4_938), none] [] := by
          intro n_941
          refine Nat.strongRecOn n_941 ?_
          intro n_941 ih_942 x4_938 N_939 hI_N_939 hF_N_939 hX_N_939 h_943 hm_944
          refine kx_iload 58 F 4 dX4_findNodes_56 rfl rfl ?_
          refine kx_iload_n 59 F 3 dX4_findNodes_58 rfl rfl rfl ?_
          refine kx_icmp_ge 62 F 105 dX4_findNodes_59 (by decide) rfl (by omega) (by omega) (fun h_945 => ?_) (fun h_945 => ?_)
          · refine kx_iinc 108 F 1 (v := x1_833 + 1) (lo' := [some (vR G c0), some (vI (x1_833 + 1)), some (vI r_842), some (vI (N_834 (M c0 12) 0)), some (vI x4_938), none]) dX4_findNodes_105 rfl (by omega) (by decide) rfl rfl rfl ?_
            refine kx_goto 23 F dX4_findNodes_108 (by decide) ?_
            refine kx_drop 2 (lo' := [some (vR G c0), some (vI (x1_833 + 1)), none, some (vI (N_834 (M c0 12) 0)), some (vI x4_938), none]) rfl ?_
            refine kx_drop 3 (lo' := [some (vR G c0), some (vI (x1_833 + 1)), none, none, some (vI x4_938), none]) rfl ?_
            refine kx_drop 4 (lo' := [some (vR G c0), some (vI (x1_833 + 1)), none, none, none, none]) rfl ?_
            exact ih_837 _ (by omega) (x1_833 + 1) N_939 hI_N_939 hF_N_939 hX_N_939 (by omega) rfl
          · refine kx_aload_n 63 F 0 dX4_findNodes_62 rfl rfl rfl ?_
            refine kx_getr 66 F fl_X4_43 hk_c0 rfl rfl (j := 12) rfl dX4_findNodes_63 (v := (M c0 12)) (by rw [Fr.e hF_N_939 hk_c0 _ rfl]) rfl ?_
            refine kx_getr 69 F fl_X4_153 hk_841 rfl rfl (j := 1) rfl dX4_findNodes_66 (v := (M (M c0 12) 1)) (by rw [Fr.e hF_N_939 hk_841 _ rfl]) rfl ?_
            have hk_946 : kd (M (M c0 12) 1) = 32 := Inv.r hI_M hk_841 rfl 1 rfl rfl
            refine kx_iload 71 F 4 dX4_findNodes_69 rfl rfl ?_
            refine kx_iald 72 F hk_946 rfl rfl (by omega) (by decide) dX4_findNodes_71 (v := (N_939 (M (M c0 12) 1) x4_938)) rfl rfl ?_
            have h_947 := Inv.g hI_N_939 hk_946 rfl x4_938 (a := 0) (b := 47) rfl rfl
            refine kx_istore 74 F 5 (lo' := [some (vR G c0), some (vI x1_833), some (vI r_842), some (vI (N_834 (M c0 12) 0)), some (vI x4_938), some (vI (N_939 (M (M c0 12) 1) x4_938))]) dX4_findNodes_72 (by decide) rfl rfl rfl ?_
            refine kx_aload_n 75 F 0 dX4_findNodes_74 rfl rfl rfl ?_
            refine kx_getr 78 F fl_X4_43 hk_c0 rfl rfl (j := 12) rfl dX4_findNodes_75 (v := (M c0 12)) (by rw [Fr.e hF_N_939 hk_c0 _ rfl]) rfl ?_
            refine kx_iload 80 F 5 dX4_findNodes_78 rfl rfl ?_
            refine kx_iload_n 81 F 2 dX4_findNodes_80 rfl rfl rfl ?_
            refine kx_Vi 84 (ci := 0) F (As := [vI (N_939 (M (M c0 12) 1) x4_938), vI r_842]) (st := []) vd_X4_156 (c_X6_closesB G l N_939 (M c0 12) (N_939 (M (M c0 12) 1) x4_938) r_842 hI_N_939 hk_841 (by omega) hX_N_939) hk_841 rfl rfl rfl ⟨by decide, by decide⟩ rfl rfl (Nat.le_of_ble_eq_true rfl) dX4_findNodes_81 rfl ?_
            intro r_948 N_949 q_950
            obtain ⟨hI_N_949, hG_N_949, q_950c, hX_N_949⟩ := q_950
            have hF_N_949 : Fr f_c_X4_findNodes M N_949 := Fr.c hF_N_939 hG_N_949 rfl
            have J_957 : ∀ (N_956 : Mem), Inv false N_956 → Fr f_c_X4_findNodes M N_956 → XX N_956 → KJ false G X N_956 99 [some (vR G c0), some (vI x1_833), some (vI r_842), some (vI (N_834 (M c0 12) 0)), some (vI x4_938), none] [] := by
              intro N_956 hI_N_956 hF_N_956 hX_N_956
              refine kx_iinc 102 F 4 (v := x4_938 + 1) (lo' := [some (vR G c0), some (vI x1_833), some (vI r_842), some (vI (N_834 (M c0 12) 0)), some (vI (x4_938 + 1)), none]) dX4_findNodes_99 rfl (by omega) (by decide) rfl rfl rfl ?_
              refine kx_goto 56 F dX4_findNodes_102 (by decide) ?_
              exact ih_942 _ (by omega) (x4_938 + 1) N_956 hI_N_956 hF_N_956 hX_N_956 (by omega) rfl
            refine kx_if_eq 87 F 99 dX4_findNodes_84 (by decide) rfl (by omega) (fun h_959 => ?_) (fun h_959 => ?_)
            · refine kx_drop 5 (lo' := [some (vR G c0), some (vI x1_833), some (vI r_842), some (vI (N_834 (M c0 12) 0)), some (vI x4_938), none]) rfl ?_
              exact J_957 N_949 hI_N_949 hF_N_949 hX_N_949
            · refine kx_aload_n 88 F 0 dX4_findNodes_87 rfl rfl rfl ?_
              refine kx_iload 90 F 5 dX4_findNodes_88 rfl rfl ?_
              refine kx_Vv 93 (ci := 0) F (As := [vI (N_939 (M (M c0 12) 1) x4_938)]) (st := []) vd_X4_197 (c_X4_followBlocks G l N_949 c0 (N_939 (M (M c0 12) 1) x4_938) hI_N_949 hk_c0 (by omega) hX_N_949) hk_c0 rfl rfl rfl ⟨by decide, by decide⟩ rfl rfl (Nat.le_of_ble_eq_true rfl) dX4_findNodes_90 rfl ?_
              intro N_960 q_961
              obtain ⟨hI_N_960, hG_N_960, hX_N_960⟩ := q_961
              have hF_N_960 : Fr f_c_X4_findNodes M N_960 := Fr.c hF_N_949 hG_N_960 rfl
              refine kx_aload_n 94 F 0 dX4_findNodes_93 rfl rfl rfl ?_
              refine kx_iload 96 F 5 dX4_findNodes_94 rfl rfl ?_
              refine kx_Vv 99 (ci := 0) F (As := [vI (N_939 (M (M c0 12) 1) x4_938)]) (st := []) vd_X4_200 (c_X4_followLetters G l N_960 c0 (N_939 (M (M c0 12) 1) x4_938) hI_N_960 hk_c0 (by omega) hX_N_960) hk_c0 rfl rfl rfl ⟨by decide, by decide⟩ rfl rfl (Nat.le_of_ble_eq_true rfl) dX4_findNodes_96 rfl ?_
              intro N_962 q_963
              obtain ⟨hI_N_962, hG_N_962, hX_N_962⟩ := q_963
              have hF_N_962 : Fr f_c_X4_findNodes M N_962 := Fr.c hF_N_960 hG_N_962 rfl
              refine kx_drop 5 (lo' := [some (vR G c0), some (vI x1_833), some (vI r_842), some (vI (N_834 (M c0 12) 0)), some (vI x4_938), none]) rfl ?_
              exact J_957 N_962 hI_N_962 hF_N_962 hX_N_962
        exact L_940 _ 0 N_834 hI_N_834 hF_N_834 hX_N_834 (by omega) rfl
      · refine kx_goto 111 F dX4_findNodes_42 (by decide) ?_
        exact kx_vret F hQ ⟨hI_N_834, hF_N_834, hX_N_834⟩ dX4_findNodes_111
  exact L_835 _ 0 N_5 hI_N_5 hF_N_5 hX_N_5 (by omega) rfl
set_option maxRecDepth 100000 in
theorem dGR_14_c_343 : (decode cX4_keepBest 0 = .ok (.aload_n 0, 1)) ∧ (decode cX4_keepBest 1 = .ok (.getfield 9, 3)) ∧ (decode cX4_keepBest 4 = .ok (.iload_n 1, 1)) ∧ (decode cX4_keepBest 5 = .ok (.iconst (-1), 1)) ∧ (decode cX4_keepBest 6 = .ok (.iastore, 1)) ∧ (decode cX4_keepBest 7 = .ok (.aload_n 0, 1)) ∧ (decode cX4_keepBest 8 = .ok (.getfield 15, 3)) ∧ (decode cX4_keepBest 11 = .ok (.iload_n 1, 1)) ∧ (decode cX4_keepBest 12 = .ok (.iconst 0, 1)) ∧ (decode cX4_keepBest 13 = .ok (.iastore, 1)) ∧ (decode cX4_keepBest 14 = .ok (.iconst 0, 1)) ∧ (decode cX4_keepBest 15 = .ok (.istore_n 2, 1)) := by decide +kernel
theorem dX4_keepBest_0 : decode cX4_keepBest 0 = .ok (.aload_n 0, 1) := dGR_14_c_343.1
theorem dX4_keepBest_1 : decode cX4_keepBest 1 = .ok (.getfield 9, 3) := dGR_14_c_343.2.1
theorem dX4_keepBest_4 : decode cX4_keepBest 4 = .ok (.iload_n 1, 1) := dGR_14_c_343.2.2.1
theorem dX4_keepBest_5 : decode cX4_keepBest 5 = .ok (.iconst (-1), 1) := dGR_14_c_343.2.2.2.1
theorem dX4_keepBest_6 : decode cX4_keepBest 6 = .ok (.iastore, 1) := dGR_14_c_343.2.2.2.2.1
theorem dX4_keepBest_7 : decode cX4_keepBest 7 = .ok (.aload_n 0, 1) := dGR_14_c_343.2.2.2.2.2.1
theorem dX4_keepBest_8 : decode cX4_keepBest 8 = .ok (.getfield 15, 3) := dGR_14_c_343.2.2.2.2.2.2.1
theorem dX4_keepBest_11 : decode cX4_keepBest 11 = .ok (.iload_n 1, 1) := dGR_14_c_343.2.2.2.2.2.2.2.1
theorem dX4_keepBest_12 : decode cX4_keepBest 12 = .ok (.iconst 0, 1) := dGR_14_c_343.2.2.2.2.2.2.2.2.1
theorem dX4_keepBest_13 : decode cX4_keepBest 13 = .ok (.iastore, 1) := dGR_14_c_343.2.2.2.2.2.2.2.2.2.1
theorem dX4_keepBest_14 : decode cX4_keepBest 14 = .ok (.iconst 0, 1) := dGR_14_c_343.2.2.2.2.2.2.2.2.2.2.1
theorem dX4_keepBest_15 : decode cX4_keepBest 15 = .ok (.istore_n 2, 1) := dGR_14_c_343.2.2.2.2.2.2.2.2.2.2.2
set_option maxRecDepth 100000 in
theorem dGR_14_c_344 : (decode cX4_keepBest 16 = .ok (.iload_n 2, 1)) ∧ (decode cX4_keepBest 17 = .ok (.aload_n 0, 1)) ∧ (decode cX4_keepBest 18 = .ok (.getfield 43, 3)) ∧ (decode cX4_keepBest 21 = .ok (.getfield 150, 3)) ∧ (decode cX4_keepBest 24 = .ok (.if_icmp .ge 103, 3)) ∧ (decode cX4_keepBest 27 = .ok (.aload_n 0, 1)) ∧ (decode cX4_keepBest 28 = .ok (.getfield 43, 3)) ∧ (decode cX4_keepBest 31 = .ok (.getfield 153, 3)) ∧ (decode cX4_keepBest 34 = .ok (.iload_n 2, 1)) ∧ (decode cX4_keepBest 35 = .ok (.iaload, 1)) ∧ (decode cX4_keepBest 36 = .ok (.istore_n 3, 1)) ∧ (decode cX4_keepBest 37 = .ok (.aload_n 0, 1)) := by decide +kernel
theorem dX4_keepBest_16 : decode cX4_keepBest 16 = .ok (.iload_n 2, 1) := dGR_14_c_344.1
theorem dX4_keepBest_17 : decode cX4_keepBest 17 = .ok (.aload_n 0, 1) := dGR_14_c_344.2.1
theorem dX4_keepBest_18 : decode cX4_keepBest 18 = .ok (.getfield 43, 3) := dGR_14_c_344.2.2.1
theorem dX4_keepBest_21 : decode cX4_keepBest 21 = .ok (.getfield 150, 3) := dGR_14_c_344.2.2.2.1
theorem dX4_keepBest_24 : decode cX4_keepBest 24 = .ok (.if_icmp .ge 103, 3) := dGR_14_c_344.2.2.2.2.1
theorem dX4_keepBest_27 : decode cX4_keepBest 27 = .ok (.aload_n 0, 1) := dGR_14_c_344.2.2.2.2.2.1
theorem dX4_keepBest_28 : decode cX4_keepBest 28 = .ok (.getfield 43, 3) := dGR_14_c_344.2.2.2.2.2.2.1
theorem dX4_keepBest_31 : decode cX4_keepBest 31 = .ok (.getfield 153, 3) := dGR_14_c_344.2.2.2.2.2.2.2.1
theorem dX4_keepBest_34 : decode cX4_keepBest 34 = .ok (.iload_n 2, 1) := dGR_14_c_344.2.2.2.2.2.2.2.2.1
theorem dX4_keepBest_35 : decode cX4_keepBest 35 = .ok (.iaload, 1) := dGR_14_c_344.2.2.2.2.2.2.2.2.2.1
theorem dX4_keepBest_36 : decode cX4_keepBest 36 = .ok (.istore_n 3, 1) := dGR_14_c_344.2.2.2.2.2.2.2.2.2.2.1
theorem dX4_keepBest_37 : decode cX4_keepBest 37 = .ok (.aload_n 0, 1) := dGR_14_c_344.2.2.2.2.2.2.2.2.2.2.2
set_option maxRecDepth 100000 in
theorem dGR_14_c_345 : (decode cX4_keepBest 38 = .ok (.iload_n 3, 1)) ∧ (decode cX4_keepBest 39 = .ok (.invokevirtual 215, 3)) ∧ (decode cX4_keepBest 42 = .ok (.ifCond .eq 79, 3)) ∧ (decode cX4_keepBest 45 = .ok (.aload_n 0, 1)) ∧ (decode cX4_keepBest 46 = .ok (.getfield 9, 3)) ∧ (decode cX4_keepBest 49 = .ok (.iload_n 1, 1)) ∧ (decode cX4_keepBest 50 = .ok (.iaload, 1)) ∧ (decode cX4_keepBest 51 = .ok (.iconst (-1), 1)) ∧ (decode cX4_keepBest 52 = .ok (.if_icmp .eq 39, 3)) ∧ (decode cX4_keepBest 55 = .ok (.aload_n 0, 1)) ∧ (decode cX4_keepBest 56 = .ok (.getfield 43, 3)) ∧ (decode cX4_keepBest 59 = .ok (.getfield 94, 3)) := by decide +kernel
theorem dX4_keepBest_38 : decode cX4_keepBest 38 = .ok (.iload_n 3, 1) := dGR_14_c_345.1
theorem dX4_keepBest_39 : decode cX4_keepBest 39 = .ok (.invokevirtual 215, 3) := dGR_14_c_345.2.1
theorem dX4_keepBest_42 : decode cX4_keepBest 42 = .ok (.ifCond .eq 79, 3) := dGR_14_c_345.2.2.1
theorem dX4_keepBest_45 : decode cX4_keepBest 45 = .ok (.aload_n 0, 1) := dGR_14_c_345.2.2.2.1
theorem dX4_keepBest_46 : decode cX4_keepBest 46 = .ok (.getfield 9, 3) := dGR_14_c_345.2.2.2.2.1
theorem dX4_keepBest_49 : decode cX4_keepBest 49 = .ok (.iload_n 1, 1) := dGR_14_c_345.2.2.2.2.2.1
theorem dX4_keepBest_50 : decode cX4_keepBest 50 = .ok (.iaload, 1) := dGR_14_c_345.2.2.2.2.2.2.1
theorem dX4_keepBest_51 : decode cX4_keepBest 51 = .ok (.iconst (-1), 1) := dGR_14_c_345.2.2.2.2.2.2.2.1
theorem dX4_keepBest_52 : decode cX4_keepBest 52 = .ok (.if_icmp .eq 39, 3) := dGR_14_c_345.2.2.2.2.2.2.2.2.1
theorem dX4_keepBest_55 : decode cX4_keepBest 55 = .ok (.aload_n 0, 1) := dGR_14_c_345.2.2.2.2.2.2.2.2.2.1
theorem dX4_keepBest_56 : decode cX4_keepBest 56 = .ok (.getfield 43, 3) := dGR_14_c_345.2.2.2.2.2.2.2.2.2.2.1
theorem dX4_keepBest_59 : decode cX4_keepBest 59 = .ok (.getfield 94, 3) := dGR_14_c_345.2.2.2.2.2.2.2.2.2.2.2
set_option maxRecDepth 100000 in
theorem dGR_14_c_346 : (decode cX4_keepBest 62 = .ok (.iload_n 3, 1)) ∧ (decode cX4_keepBest 63 = .ok (.iaload, 1)) ∧ (decode cX4_keepBest 64 = .ok (.aload_n 0, 1)) ∧ (decode cX4_keepBest 65 = .ok (.getfield 43, 3)) ∧ (decode cX4_keepBest 68 = .ok (.getfield 173, 3)) ∧ (decode cX4_keepBest 71 = .ok (.iload_n 3, 1)) ∧ (decode cX4_keepBest 72 = .ok (.iaload, 1)) ∧ (decode cX4_keepBest 73 = .ok (.aload_n 0, 1)) ∧ (decode cX4_keepBest 74 = .ok (.getfield 9, 3)) ∧ (decode cX4_keepBest 77 = .ok (.iload_n 1, 1)) ∧ (decode cX4_keepBest 78 = .ok (.iaload, 1)) ∧ (decode cX4_keepBest 79 = .ok (.aload_n 0, 1)) := by decide +kernel
theorem dX4_keepBest_62 : decode cX4_keepBest 62 = .ok (.iload_n 3, 1) := dGR_14_c_346.1
theorem dX4_keepBest_63 : decode cX4_keepBest 63 = .ok (.iaload, 1) := dGR_14_c_346.2.1
theorem dX4_keepBest_64 : decode cX4_keepBest 64 = .ok (.aload_n 0, 1) := dGR_14_c_346.2.2.1
theorem dX4_keepBest_65 : decode cX4_keepBest 65 = .ok (.getfield 43, 3) := dGR_14_c_346.2.2.2.1
theorem dX4_keepBest_68 : decode cX4_keepBest 68 = .ok (.getfield 173, 3) := dGR_14_c_346.2.2.2.2.1
theorem dX4_keepBest_71 : decode cX4_keepBest 71 = .ok (.iload_n 3, 1) := dGR_14_c_346.2.2.2.2.2.1
theorem dX4_keepBest_72 : decode cX4_keepBest 72 = .ok (.iaload, 1) := dGR_14_c_346.2.2.2.2.2.2.1
theorem dX4_keepBest_73 : decode cX4_keepBest 73 = .ok (.aload_n 0, 1) := dGR_14_c_346.2.2.2.2.2.2.2.1
theorem dX4_keepBest_74 : decode cX4_keepBest 74 = .ok (.getfield 9, 3) := dGR_14_c_346.2.2.2.2.2.2.2.2.1
theorem dX4_keepBest_77 : decode cX4_keepBest 77 = .ok (.iload_n 1, 1) := dGR_14_c_346.2.2.2.2.2.2.2.2.2.1
theorem dX4_keepBest_78 : decode cX4_keepBest 78 = .ok (.iaload, 1) := dGR_14_c_346.2.2.2.2.2.2.2.2.2.2.1
theorem dX4_keepBest_79 : decode cX4_keepBest 79 = .ok (.aload_n 0, 1) := dGR_14_c_346.2.2.2.2.2.2.2.2.2.2.2
set_option maxRecDepth 100000 in
theorem dGR_14_c_347 : (decode cX4_keepBest 80 = .ok (.getfield 15, 3)) ∧ (decode cX4_keepBest 83 = .ok (.iload_n 1, 1)) ∧ (decode cX4_keepBest 84 = .ok (.iaload, 1)) ∧ (decode cX4_keepBest 85 = .ok (.invokestatic 218, 3)) ∧ (decode cX4_keepBest 88 = .ok (.ifCond .eq 33, 3)) ∧ (decode cX4_keepBest 91 = .ok (.aload_n 0, 1)) ∧ (decode cX4_keepBest 92 = .ok (.getfield 9, 3)) ∧ (decode cX4_keepBest 95 = .ok (.iload_n 1, 1)) ∧ (decode cX4_keepBest 96 = .ok (.aload_n 0, 1)) ∧ (decode cX4_keepBest 97 = .ok (.getfield 43, 3)) ∧ (decode cX4_keepBest 100 = .ok (.getfield 94, 3)) ∧ (decode cX4_keepBest 103 = .ok (.iload_n 3, 1)) := by decide +kernel
theorem dX4_keepBest_80 : decode cX4_keepBest 80 = .ok (.getfield 15, 3) := dGR_14_c_347.1
theorem dX4_keepBest_83 : decode cX4_keepBest 83 = .ok (.iload_n 1, 1) := dGR_14_c_347.2.1
theorem dX4_keepBest_84 : decode cX4_keepBest 84 = .ok (.iaload, 1) := dGR_14_c_347.2.2.1
theorem dX4_keepBest_85 : decode cX4_keepBest 85 = .ok (.invokestatic 218, 3) := dGR_14_c_347.2.2.2.1
theorem dX4_keepBest_88 : decode cX4_keepBest 88 = .ok (.ifCond .eq 33, 3) := dGR_14_c_347.2.2.2.2.1
theorem dX4_keepBest_91 : decode cX4_keepBest 91 = .ok (.aload_n 0, 1) := dGR_14_c_347.2.2.2.2.2.1
theorem dX4_keepBest_92 : decode cX4_keepBest 92 = .ok (.getfield 9, 3) := dGR_14_c_347.2.2.2.2.2.2.1
theorem dX4_keepBest_95 : decode cX4_keepBest 95 = .ok (.iload_n 1, 1) := dGR_14_c_347.2.2.2.2.2.2.2.1
theorem dX4_keepBest_96 : decode cX4_keepBest 96 = .ok (.aload_n 0, 1) := dGR_14_c_347.2.2.2.2.2.2.2.2.1
theorem dX4_keepBest_97 : decode cX4_keepBest 97 = .ok (.getfield 43, 3) := dGR_14_c_347.2.2.2.2.2.2.2.2.2.1
theorem dX4_keepBest_100 : decode cX4_keepBest 100 = .ok (.getfield 94, 3) := dGR_14_c_347.2.2.2.2.2.2.2.2.2.2.1
theorem dX4_keepBest_103 : decode cX4_keepBest 103 = .ok (.iload_n 3, 1) := dGR_14_c_347.2.2.2.2.2.2.2.2.2.2.2
set_option maxRecDepth 100000 in
theorem dGR_14_c_348 : (decode cX4_keepBest 104 = .ok (.iaload, 1)) ∧ (decode cX4_keepBest 105 = .ok (.iastore, 1)) ∧ (decode cX4_keepBest 106 = .ok (.aload_n 0, 1)) ∧ (decode cX4_keepBest 107 = .ok (.getfield 15, 3)) ∧ (decode cX4_keepBest 110 = .ok (.iload_n 1, 1)) ∧ (decode cX4_keepBest 111 = .ok (.aload_n 0, 1)) ∧ (decode cX4_keepBest 112 = .ok (.getfield 43, 3)) ∧ (decode cX4_keepBest 115 = .ok (.getfield 173, 3)) ∧ (decode cX4_keepBest 118 = .ok (.iload_n 3, 1)) ∧ (decode cX4_keepBest 119 = .ok (.iaload, 1)) ∧ (decode cX4_keepBest 120 = .ok (.iastore, 1)) ∧ (decode cX4_keepBest 121 = .ok (.iinc 2 1, 3)) := by decide +kernel
theorem dX4_keepBest_104 : decode cX4_keepBest 104 = .ok (.iaload, 1) := dGR_14_c_348.1
theorem dX4_keepBest_105 : decode cX4_keepBest 105 = .ok (.iastore, 1) := dGR_14_c_348.2.1
theorem dX4_keepBest_106 : decode cX4_keepBest 106 = .ok (.aload_n 0, 1) := dGR_14_c_348.2.2.1
theorem dX4_keepBest_107 : decode cX4_keepBest 107 = .ok (.getfield 15, 3) := dGR_14_c_348.2.2.2.1
theorem dX4_keepBest_110 : decode cX4_keepBest 110 = .ok (.iload_n 1, 1) := dGR_14_c_348.2.2.2.2.1
theorem dX4_keepBest_111 : decode cX4_keepBest 111 = .ok (.aload_n 0, 1) := dGR_14_c_348.2.2.2.2.2.1
theorem dX4_keepBest_112 : decode cX4_keepBest 112 = .ok (.getfield 43, 3) := dGR_14_c_348.2.2.2.2.2.2.1
theorem dX4_keepBest_115 : decode cX4_keepBest 115 = .ok (.getfield 173, 3) := dGR_14_c_348.2.2.2.2.2.2.2.1
theorem dX4_keepBest_118 : decode cX4_keepBest 118 = .ok (.iload_n 3, 1) := dGR_14_c_348.2.2.2.2.2.2.2.2.1
theorem dX4_keepBest_119 : decode cX4_keepBest 119 = .ok (.iaload, 1) := dGR_14_c_348.2.2.2.2.2.2.2.2.2.1
theorem dX4_keepBest_120 : decode cX4_keepBest 120 = .ok (.iastore, 1) := dGR_14_c_348.2.2.2.2.2.2.2.2.2.2.1
theorem dX4_keepBest_121 : decode cX4_keepBest 121 = .ok (.iinc 2 1, 3) := dGR_14_c_348.2.2.2.2.2.2.2.2.2.2.2
theorem dX4_keepBest_124 : decode cX4_keepBest 124 = .ok (.goto (-108), 3) := by decide +kernel
theorem dX4_keepBest_127 : decode cX4_keepBest 127 = .ok (.return_, 1) := by decide +kernel
abbrev f_c_X4_keepBest : List (Nat × Int) := [(42, -1), (43, -1)]
set_option maxHeartbeats 4000000 in
set_option maxRecDepth 100000 in
theorem c_X4_keepBest (G : KG) (l : Launch) (M : Mem) (c0 : Int) (a1 : Int) (hI_M : Inv false M) (hk_c0 : kd c0 = 41) (hpre : -2147483648 ≤ a1 ∧ a1 ≤ 2147483647 ∧ 0 ≤ a1 ∧ a1 ≤ 15) : KC false G l yX4_keepBest cX4_keepBest 4 none (2, 42) [vR G c0, vI a1] M (fun A => kQv false G A (fun (N : Mem) => Inv false N ∧ Fr f_c_X4_keepBest M N)) := by
  refine kx_met (lo := [some (vR G c0), some (vI a1), none, none]) (by decide) (Nat.le_of_ble_eq_true rfl) rfl ?_
  intro X F hQ
  have hF_M : Fr f_c_X4_keepBest M M := Fr.rf _ _
  refine kx_aload_n 1 F 0 dX4_keepBest_0 rfl rfl rfl ?_
  refine kx_getr 4 F fl_X4_9 hk_c0 rfl rfl (j := 0) rfl dX4_keepBest_1 (v := (M c0 0)) rfl rfl ?_
  have hk_1 : kd (M c0 0) = 42 := Inv.r hI_M hk_c0 rfl 0 rfl rfl
  refine kx_iload_n 5 F 1 dX4_keepBest_4 rfl rfl rfl ?_
  refine kx_iconst 6 F dX4_keepBest_5 rfl ?_
  refine kx_iast 7 F hk_1 rfl rfl (by omega) (by decide) dX4_keepBest_6 rfl ?_
  intro N_2 hM_N_2
  have hI_N_2 : Inv false N_2 := Inv.u hI_M hM_N_2 hk_1 (a := (-1)) (b := 1000000000) rfl rfl rfl (by omega)
  have hF_N_2 : Fr f_c_X4_keepBest M N_2 := Fr.u hF_M hM_N_2 hk_1 rfl
  refine kx_aload_n 8 F 0 dX4_keepBest_7 rfl rfl rfl ?_
  refine kx_getr 11 F fl_X4_15 hk_c0 rfl rfl (j := 1) rfl dX4_keepBest_8 (v := (M c0 1)) (by rw [hM_N_2, mu_k hk_c0 hk_1 rfl]) rfl ?_
  have hk_3 : kd (M c0 1) = 43 := Inv.r hI_M hk_c0 rfl 1 rfl rfl
  refine kx_iload_n 12 F 1 dX4_keepBest_11 rfl rfl rfl ?_
  refine kx_iconst 13 F dX4_keepBest_12 rfl ?_
  refine kx_iast 14 F hk_3 rfl rfl (by omega) (by decide) dX4_keepBest_13 rfl ?_
  intro N_4 hM_N_4
  have hI_N_4 : Inv false N_4 := Inv.u hI_N_2 hM_N_4 hk_3 (a := (-2147483648)) (b := 2147483647) rfl rfl rfl (by omega)
  have hF_N_4 : Fr f_c_X4_keepBest M N_4 := Fr.u hF_N_2 hM_N_4 hk_3 rfl
  refine kx_iconst 15 F dX4_keepBest_14 rfl ?_
  refine kx_istore_n 16 F 2 (lo' := [some (vR G c0), some (vI a1), some (vI 0), none]) dX4_keepBest_15 rfl (by decide) rfl rfl rfl ?_
  have L_217 : ∀ (n_218 : Nat) (x2_215 : Int) (N_216 : Mem), Inv false N_216 → Fr f_c_X4_keepBest M N_216 → 0 ≤ x2_215 ∧ x2_215 ≤ 48 → (48 - (x2_215)).toNat = n_218 → KJ false G X N_216 16 [some (vR G c0), some (vI a1), some (vI x2_215), none] [] := by
    intro n_218
    refine Nat.strongRecOn n_218 ?_
    intro n_218 ih_219 x2_215 N_216 hI_N_216 hF_N_216 h_220 hm_221
    refine kx_iload_n 17 F 2 dX4_keepBest_16 rfl rfl rfl ?_
    refine kx_aload_n 18 F 0 dX4_keepBest_17 rfl rfl rfl ?_
    refine kx_getr 21 F fl_X4_43 hk_c0 rfl rfl (j := 12) rfl dX4_keepBest_18 (v := (M c0 12)) (by rw [Fr.e hF_N_216 hk_c0 _ rfl]) rfl ?_
    have hk_222 : kd (M c0 12) = 31 := Inv.r hI_M hk_c0 rfl 12 rfl rfl
    refine kx_geti 24 F fl_X4_150 hk_222 rfl rfl (j := 0) rfl dX4_keepBest_21 (v := (M (M c0 12) 0)) (by rw [Fr.e hF_N_216 hk_222 _ rfl]) rfl ?_
    have h_223 := Inv.g hI_M hk_222 rfl 0 (a := 0) (b := 48) rfl rfl
    refine kx_icmp_ge 27 F 127 dX4_keepBest_24 (by decide) rfl (by omega) (by omega) (fun h_224 => ?_) (fun h_224 => ?_)
    · exact kx_vret F hQ ⟨hI_N_216, hF_N_216⟩ dX4_keepBest_127
    · refine kx_aload_n 28 F 0 dX4_keepBest_27 rfl rfl rfl ?_
      refine kx_getr 31 F fl_X4_43 hk_c0 rfl rfl (j := 12) rfl dX4_keepBest_28 (v := (M c0 12)) (by rw [Fr.e hF_N_216 hk_c0 _ rfl]) rfl ?_
      refine kx_getr 34 F fl_X4_153 hk_222 rfl rfl (j := 1) rfl dX4_keepBest_31 (v := (M (M c0 12) 1)) (by rw [Fr.e hF_N_216 hk_222 _ rfl]) rfl ?_
      have hk_225 : kd (M (M c0 12) 1) = 32 := Inv.r hI_M hk_222 rfl 1 rfl rfl
      refine kx_iload_n 35 F 2 dX4_keepBest_34 rfl rfl rfl ?_
      refine kx_iald 36 F hk_225 rfl rfl (by omega) (by decide) dX4_keepBest_35 (v := (M (M (M c0 12) 1) x2_215)) (by rw [Fr.e hF_N_216 hk_225 _ rfl]) rfl ?_
      have h_226 := Inv.g hI_M hk_225 rfl x2_215 (a := 0) (b := 47) rfl rfl
      refine kx_istore_n 37 F 3 (lo' := [some (vR G c0), some (vI a1), some (vI x2_215), some (vI (M (M (M c0 12) 1) x2_215))]) dX4_keepBest_36 rfl (by decide) rfl rfl rfl ?_
      refine kx_aload_n 38 F 0 dX4_keepBest_37 rfl rfl rfl ?_
      refine kx_iload_n 39 F 3 dX4_keepBest_38 rfl rfl rfl ?_
      refine kx_Vi 42 (ci := 0) F (As := [vI (M (M (M c0 12) 1) x2_215)]) (st := []) vd_X4_215 (c_X4_isSought G l N_216 c0 (M (M (M c0 12) 1) x2_215) hI_N_216 hk_c0 (by omega)) hk_c0 rfl rfl rfl ⟨by decide, by decide⟩ rfl rfl (Nat.le_of_ble_eq_true rfl) dX4_keepBest_39 rfl ?_
      intro r_227 N_228 q_229
      obtain ⟨rfl, q_229c⟩ := q_229
      have J_251 : ∀ (N_250 : Mem), Inv false N_250 → Fr f_c_X4_keepBest M N_250 → KJ false G X N_250 121 [some (vR G c0), some (vI a1), some (vI x2_215), none] [] := by
        intro N_250 hI_N_250 hF_N_250
        refine kx_iinc 124 F 2 (v := x2_215 + 1) (lo' := [some (vR G c0), some (vI a1), some (vI (x2_215 + 1)), none]) dX4_keepBest_121 rfl (by omega) (by decide) rfl rfl rfl ?_
        refine kx_goto 16 F dX4_keepBest_124 (by decide) ?_
        exact ih_219 _ (by omega) (x2_215 + 1) N_250 hI_N_250 hF_N_250 (by omega) rfl
      refine kx_if_eq 45 F 121 dX4_keepBest_42 (by decide) rfl (by omega) (fun h_253 => ?_) (fun h_253 => ?_)
      · refine kx_drop 3 (lo' := [some (vR G c0), some (vI a1), some (vI x2_215), none]) rfl ?_
        exact J_251 N_216 hI_N_216 hF_N_216
      · refine kx_aload_n 46 F 0 dX4_keepBest_45 rfl rfl rfl ?_
        refine kx_getr 49 F fl_X4_9 hk_c0 rfl rfl (j := 0) rfl dX4_keepBest_46 (v := (M c0 0)) (by rw [Fr.e hF_N_216 hk_c0 _ rfl]) rfl ?_
        refine kx_iload_n 50 F 1 dX4_keepBest_49 rfl rfl rfl ?_
        refine kx_iald 51 F hk_1 rfl rfl (by omega) (by decide) dX4_keepBest_50 (v := (N_216 (M c0 0) a1)) rfl rfl ?_
        have h_254 := Inv.g hI_N_216 hk_1 rfl a1 (a := (-1)) (b := 1000000000) rfl rfl
        refine kx_iconst 52 F dX4_keepBest_51 rfl ?_
        have J_265 : KJ false G X N_216 91 [some (vR G c0), some (vI a1), some (vI x2_215), some (vI (M (M (M c0 12) 1) x2_215))] [] := by
          refine kx_aload_n 92 F 0 dX4_keepBest_91 rfl rfl rfl ?_
          refine kx_getr 95 F fl_X4_9 hk_c0 rfl rfl (j := 0) rfl dX4_keepBest_92 (v := (M c0 0)) (by rw [Fr.e hF_N_216 hk_c0 _ rfl]) rfl ?_
          refine kx_iload_n 96 F 1 dX4_keepBest_95 rfl rfl rfl ?_
          refine kx_aload_n 97 F 0 dX4_keepBest_96 rfl rfl rfl ?_
          refine kx_getr 100 F fl_X4_43 hk_c0 rfl rfl (j := 12) rfl dX4_keepBest_97 (v := (M c0 12)) (by rw [Fr.e hF_N_216 hk_c0 _ rfl]) rfl ?_
          refine kx_getr 103 F fl_X4_94 hk_222 rfl rfl (j := 2) rfl dX4_keepBest_100 (v := (M (M c0 12) 2)) (by rw [Fr.e hF_N_216 hk_222 _ rfl]) rfl ?_
          have hk_267 : kd (M (M c0 12) 2) = 33 := Inv.r hI_M hk_222 rfl 2 rfl rfl
          refine kx_iload_n 104 F 3 dX4_keepBest_103 rfl rfl rfl ?_
          refine kx_iald 105 F hk_267 rfl rfl (by omega) (by decide) dX4_keepBest_104 (v := (M (M (M c0 12) 2) (M (M (M c0 12) 1) x2_215))) (by rw [Fr.e hF_N_216 hk_267 _ rfl]) rfl ?_
          have h_268 := Inv.g hI_M hk_267 rfl (M (M (M c0 12) 1) x2_215) (a := 0) (b := 1000000000) rfl rfl
          refine kx_iast 106 F hk_1 rfl rfl (by omega) (by decide) dX4_keepBest_105 rfl ?_
          intro N_269 hM_N_269
          have hI_N_269 : Inv false N_269 := Inv.u hI_N_216 hM_N_269 hk_1 (a := (-1)) (b := 1000000000) rfl rfl rfl (by omega)
          have hF_N_269 : Fr f_c_X4_keepBest M N_269 := Fr.u hF_N_216 hM_N_269 hk_1 rfl
          refine kx_aload_n 107 F 0 dX4_keepBest_106 rfl rfl rfl ?_
          refine kx_getr 110 F fl_X4_15 hk_c0 rfl rfl (j := 1) rfl dX4_keepBest_107 (v := (M c0 1)) (by rw [hM_N_269, mu_k hk_c0 hk_1 rfl, Fr.e hF_N_216 hk_c0 _ rfl]) rfl ?_
          refine kx_iload_n 111 F 1 dX4_keepBest_110 rfl rfl rfl ?_
          refine kx_aload_n 112 F 0 dX4_keepBest_111 rfl rfl rfl ?_
          refine kx_getr 115 F fl_X4_43 hk_c0 rfl rfl (j := 12) rfl dX4_keepBest_112 (v := (M c0 12)) (by rw [hM_N_269, mu_k hk_c0 hk_1 rfl, Fr.e hF_N_216 hk_c0 _ rfl]) rfl ?_
          refine kx_getr 118 F fl_X4_173 hk_222 rfl rfl (j := 3) rfl dX4_keepBest_115 (v := (M (M c0 12) 3)) (by rw [hM_N_269, mu_k hk_222 hk_1 rfl, Fr.e hF_N_216 hk_222 _ rfl]) rfl ?_
          have hk_270 : kd (M (M c0 12) 3) = 34 := Inv.r hI_M hk_222 rfl 3 rfl rfl
          refine kx_iload_n 119 F 3 dX4_keepBest_118 rfl rfl rfl ?_
          refine kx_iald 120 F hk_270 rfl rfl (by omega) (by decide) dX4_keepBest_119 (v := (M (M (M c0 12) 3) (M (M (M c0 12) 1) x2_215))) (by rw [hM_N_269, mu_k hk_270 hk_1 rfl, Fr.e hF_N_216 hk_270 _ rfl]) rfl ?_
          have h_271 := Inv.g hI_M hk_270 rfl (M (M (M c0 12) 1) x2_215) (a := (-2147483648)) (b := 2147483647) rfl rfl
          refine kx_iast 121 F hk_3 rfl rfl (by omega) (by decide) dX4_keepBest_120 rfl ?_
          intro N_272 hM_N_272
          have hI_N_272 : Inv false N_272 := Inv.u hI_N_269 hM_N_272 hk_3 (a := (-2147483648)) (b := 2147483647) rfl rfl rfl (by omega)
          have hF_N_272 : Fr f_c_X4_keepBest M N_272 := Fr.u hF_N_269 hM_N_272 hk_3 rfl
          refine kx_drop 3 (lo' := [some (vR G c0), some (vI a1), some (vI x2_215), none]) rfl ?_
          exact J_251 N_272 hI_N_272 hF_N_272
        refine kx_icmp_eq 55 F 91 dX4_keepBest_52 (by decide) rfl (by omega) (by decide) (fun h_273 => ?_) (fun h_273 => ?_)
        · exact J_265
        · refine kx_aload_n 56 F 0 dX4_keepBest_55 rfl rfl rfl ?_
          refine kx_getr 59 F fl_X4_43 hk_c0 rfl rfl (j := 12) rfl dX4_keepBest_56 (v := (M c0 12)) (by rw [Fr.e hF_N_216 hk_c0 _ rfl]) rfl ?_
          refine kx_getr 62 F fl_X4_94 hk_222 rfl rfl (j := 2) rfl dX4_keepBest_59 (v := (M (M c0 12) 2)) (by rw [Fr.e hF_N_216 hk_222 _ rfl]) rfl ?_
          have hk_274 : kd (M (M c0 12) 2) = 33 := Inv.r hI_M hk_222 rfl 2 rfl rfl
          refine kx_iload_n 63 F 3 dX4_keepBest_62 rfl rfl rfl ?_
          refine kx_iald 64 F hk_274 rfl rfl (by omega) (by decide) dX4_keepBest_63 (v := (M (M (M c0 12) 2) (M (M (M c0 12) 1) x2_215))) (by rw [Fr.e hF_N_216 hk_274 _ rfl]) rfl ?_
          have h_275 := Inv.g hI_M hk_274 rfl (M (M (M c0 12) 1) x2_215) (a := 0) (b := 1000000000) rfl rfl
          refine kx_aload_n 65 F 0 dX4_keepBest_64 rfl rfl rfl ?_
          refine kx_getr 68 F fl_X4_43 hk_c0 rfl rfl (j := 12) rfl dX4_keepBest_65 (v := (M c0 12)) (by rw [Fr.e hF_N_216 hk_c0 _ rfl]) rfl ?_
          refine kx_getr 71 F fl_X4_173 hk_222 rfl rfl (j := 3) rfl dX4_keepBest_68 (v := (M (M c0 12) 3)) (by rw [Fr.e hF_N_216 hk_222 _ rfl]) rfl ?_
          have hk_276 : kd (M (M c0 12) 3) = 34 := Inv.r hI_M hk_222 rfl 3 rfl rfl
          refine kx_iload_n 72 F 3 dX4_keepBest_71 rfl rfl rfl ?_
          refine kx_iald 73 F hk_276 rfl rfl (by omega) (by decide) dX4_keepBest_72 (v := (M (M (M c0 12) 3) (M (M (M c0 12) 1) x2_215))) (by rw [Fr.e hF_N_216 hk_276 _ rfl]) rfl ?_
          have h_277 := Inv.g hI_M hk_276 rfl (M (M (M c0 12) 1) x2_215) (a := (-2147483648)) (b := 2147483647) rfl rfl
          refine kx_aload_n 74 F 0 dX4_keepBest_73 rfl rfl rfl ?_
          refine kx_getr 77 F fl_X4_9 hk_c0 rfl rfl (j := 0) rfl dX4_keepBest_74 (v := (M c0 0)) (by rw [Fr.e hF_N_216 hk_c0 _ rfl]) rfl ?_
          refine kx_iload_n 78 F 1 dX4_keepBest_77 rfl rfl rfl ?_
          refine kx_iald 79 F hk_1 rfl rfl (by omega) (by decide) dX4_keepBest_78 (v := (N_216 (M c0 0) a1)) rfl rfl ?_
          refine kx_aload_n 80 F 0 dX4_keepBest_79 rfl rfl rfl ?_
          refine kx_getr 83 F fl_X4_15 hk_c0 rfl rfl (j := 1) rfl dX4_keepBest_80 (v := (M c0 1)) (by rw [Fr.e hF_N_216 hk_c0 _ rfl]) rfl ?_
          refine kx_iload_n 84 F 1 dX4_keepBest_83 rfl rfl rfl ?_
          refine kx_iald 85 F hk_3 rfl rfl (by omega) (by decide) dX4_keepBest_84 (v := (N_216 (M c0 1) a1)) rfl rfl ?_
          have h_278 := Inv.g hI_N_216 hk_3 rfl a1 (a := (-2147483648)) (b := 2147483647) rfl rfl
          refine kx_Si 88 F (As := [vI (M (M (M c0 12) 2) (M (M (M c0 12) 1) x2_215)), vI (M (M (M c0 12) 3) (M (M (M c0 12) 1) x2_215)), vI (N_216 (M c0 0) a1), vI (N_216 (M c0 1) a1)]) (st := []) sd_X4_218 (c_X6_isBefore G l N_216 (M (M (M c0 12) 2) (M (M (M c0 12) 1) x2_215)) (M (M (M c0 12) 3) (M (M (M c0 12) 1) x2_215)) (N_216 (M c0 0) a1) (N_216 (M c0 1) a1) hI_N_216 (by omega)) ⟨by decide, by decide⟩ rfl rfl (Nat.le_of_ble_eq_true rfl) dX4_keepBest_85 rfl ?_
          intro r_279 N_280 q_281
          obtain ⟨rfl, q_281c⟩ := q_281
          refine kx_if_eq 91 F 121 dX4_keepBest_88 (by decide) rfl (by omega) (fun h_282 => ?_) (fun h_282 => ?_)
          · refine kx_drop 3 (lo' := [some (vR G c0), some (vI a1), some (vI x2_215), none]) rfl ?_
            exact J_251 N_216 hI_N_216 hF_N_216
          · exact J_265
  exact L_217 _ 0 N_4 hI_N_4 hF_N_4 (by omega) rfl
set_option maxRecDepth 100000 in
theorem dGR_14_c_349 : (decode cX4_slotOf 0 = .ok (.iload_n 2, 1)) ∧ (decode cX4_slotOf 1 = .ok (.iconst 4, 1)) ∧ (decode cX4_slotOf 2 = .ok (.imul, 1)) ∧ (decode cX4_slotOf 3 = .ok (.iload_n 3, 1)) ∧ (decode cX4_slotOf 4 = .ok (.iconst 2, 1)) ∧ (decode cX4_slotOf 5 = .ok (.imul, 1)) ∧ (decode cX4_slotOf 6 = .ok (.iadd, 1)) ∧ (decode cX4_slotOf 7 = .ok (.iload 4, 2)) ∧ (decode cX4_slotOf 9 = .ok (.iadd, 1)) ∧ (decode cX4_slotOf 10 = .ok (.bipush 15, 2)) ∧ (decode cX4_slotOf 12 = .ok (.iand, 1)) ∧ (decode cX4_slotOf 13 = .ok (.istore 5, 2)) := by decide +kernel
theorem dX4_slotOf_0 : decode cX4_slotOf 0 = .ok (.iload_n 2, 1) := dGR_14_c_349.1
theorem dX4_slotOf_1 : decode cX4_slotOf 1 = .ok (.iconst 4, 1) := dGR_14_c_349.2.1
theorem dX4_slotOf_2 : decode cX4_slotOf 2 = .ok (.imul, 1) := dGR_14_c_349.2.2.1
theorem dX4_slotOf_3 : decode cX4_slotOf 3 = .ok (.iload_n 3, 1) := dGR_14_c_349.2.2.2.1
theorem dX4_slotOf_4 : decode cX4_slotOf 4 = .ok (.iconst 2, 1) := dGR_14_c_349.2.2.2.2.1
theorem dX4_slotOf_5 : decode cX4_slotOf 5 = .ok (.imul, 1) := dGR_14_c_349.2.2.2.2.2.1
theorem dX4_slotOf_6 : decode cX4_slotOf 6 = .ok (.iadd, 1) := dGR_14_c_349.2.2.2.2.2.2.1
theorem dX4_slotOf_7 : decode cX4_slotOf 7 = .ok (.iload 4, 2) := dGR_14_c_349.2.2.2.2.2.2.2.1
theorem dX4_slotOf_9 : decode cX4_slotOf 9 = .ok (.iadd, 1) := dGR_14_c_349.2.2.2.2.2.2.2.2.1
theorem dX4_slotOf_10 : decode cX4_slotOf 10 = .ok (.bipush 15, 2) := dGR_14_c_349.2.2.2.2.2.2.2.2.2.1
theorem dX4_slotOf_12 : decode cX4_slotOf 12 = .ok (.iand, 1) := dGR_14_c_349.2.2.2.2.2.2.2.2.2.2.1
theorem dX4_slotOf_13 : decode cX4_slotOf 13 = .ok (.istore 5, 2) := dGR_14_c_349.2.2.2.2.2.2.2.2.2.2.2
set_option maxRecDepth 100000 in
theorem dGR_14_c_350 : (decode cX4_slotOf 15 = .ok (.aload_n 0, 1)) ∧ (decode cX4_slotOf 16 = .ok (.getfield 58, 3)) ∧ (decode cX4_slotOf 19 = .ok (.iload 5, 2)) ∧ (decode cX4_slotOf 21 = .ok (.ishr, 1)) ∧ (decode cX4_slotOf 22 = .ok (.iconst 1, 1)) ∧ (decode cX4_slotOf 23 = .ok (.iand, 1)) ∧ (decode cX4_slotOf 24 = .ok (.ifCond .ne 92, 3)) ∧ (decode cX4_slotOf 27 = .ok (.aload_n 0, 1)) ∧ (decode cX4_slotOf 28 = .ok (.dup, 1)) ∧ (decode cX4_slotOf 29 = .ok (.getfield 58, 3)) ∧ (decode cX4_slotOf 32 = .ok (.iconst 1, 1)) ∧ (decode cX4_slotOf 33 = .ok (.iload 5, 2)) := by decide +kernel
theorem dX4_slotOf_15 : decode cX4_slotOf 15 = .ok (.aload_n 0, 1) := dGR_14_c_350.1
theorem dX4_slotOf_16 : decode cX4_slotOf 16 = .ok (.getfield 58, 3) := dGR_14_c_350.2.1
theorem dX4_slotOf_19 : decode cX4_slotOf 19 = .ok (.iload 5, 2) := dGR_14_c_350.2.2.1
theorem dX4_slotOf_21 : decode cX4_slotOf 21 = .ok (.ishr, 1) := dGR_14_c_350.2.2.2.1
theorem dX4_slotOf_22 : decode cX4_slotOf 22 = .ok (.iconst 1, 1) := dGR_14_c_350.2.2.2.2.1
theorem dX4_slotOf_23 : decode cX4_slotOf 23 = .ok (.iand, 1) := dGR_14_c_350.2.2.2.2.2.1
theorem dX4_slotOf_24 : decode cX4_slotOf 24 = .ok (.ifCond .ne 92, 3) := dGR_14_c_350.2.2.2.2.2.2.1
theorem dX4_slotOf_27 : decode cX4_slotOf 27 = .ok (.aload_n 0, 1) := dGR_14_c_350.2.2.2.2.2.2.2.1
theorem dX4_slotOf_28 : decode cX4_slotOf 28 = .ok (.dup, 1) := dGR_14_c_350.2.2.2.2.2.2.2.2.1
theorem dX4_slotOf_29 : decode cX4_slotOf 29 = .ok (.getfield 58, 3) := dGR_14_c_350.2.2.2.2.2.2.2.2.2.1
theorem dX4_slotOf_32 : decode cX4_slotOf 32 = .ok (.iconst 1, 1) := dGR_14_c_350.2.2.2.2.2.2.2.2.2.2.1
theorem dX4_slotOf_33 : decode cX4_slotOf 33 = .ok (.iload 5, 2) := dGR_14_c_350.2.2.2.2.2.2.2.2.2.2.2
set_option maxRecDepth 100000 in
theorem dGR_14_c_351 : (decode cX4_slotOf 35 = .ok (.ishl, 1)) ∧ (decode cX4_slotOf 36 = .ok (.ior, 1)) ∧ (decode cX4_slotOf 37 = .ok (.putfield 58, 3)) ∧ (decode cX4_slotOf 40 = .ok (.iload_n 2, 1)) ∧ (decode cX4_slotOf 41 = .ok (.iconst 3, 1)) ∧ (decode cX4_slotOf 42 = .ok (.if_icmp .ne 10, 3)) ∧ (decode cX4_slotOf 45 = .ok (.aload_n 0, 1)) ∧ (decode cX4_slotOf 46 = .ok (.getfield 21, 3)) ∧ (decode cX4_slotOf 49 = .ok (.goto 8, 3)) ∧ (decode cX4_slotOf 52 = .ok (.aload_n 1, 1)) ∧ (decode cX4_slotOf 53 = .ok (.iload_n 3, 1)) ∧ (decode cX4_slotOf 54 = .ok (.invokevirtual 62, 3)) := by decide +kernel
theorem dX4_slotOf_35 : decode cX4_slotOf 35 = .ok (.ishl, 1) := dGR_14_c_351.1
theorem dX4_slotOf_36 : decode cX4_slotOf 36 = .ok (.ior, 1) := dGR_14_c_351.2.1
theorem dX4_slotOf_37 : decode cX4_slotOf 37 = .ok (.putfield 58, 3) := dGR_14_c_351.2.2.1
theorem dX4_slotOf_40 : decode cX4_slotOf 40 = .ok (.iload_n 2, 1) := dGR_14_c_351.2.2.2.1
theorem dX4_slotOf_41 : decode cX4_slotOf 41 = .ok (.iconst 3, 1) := dGR_14_c_351.2.2.2.2.1
theorem dX4_slotOf_42 : decode cX4_slotOf 42 = .ok (.if_icmp .ne 10, 3) := dGR_14_c_351.2.2.2.2.2.1
theorem dX4_slotOf_45 : decode cX4_slotOf 45 = .ok (.aload_n 0, 1) := dGR_14_c_351.2.2.2.2.2.2.1
theorem dX4_slotOf_46 : decode cX4_slotOf 46 = .ok (.getfield 21, 3) := dGR_14_c_351.2.2.2.2.2.2.2.1
theorem dX4_slotOf_49 : decode cX4_slotOf 49 = .ok (.goto 8, 3) := dGR_14_c_351.2.2.2.2.2.2.2.2.1
theorem dX4_slotOf_52 : decode cX4_slotOf 52 = .ok (.aload_n 1, 1) := dGR_14_c_351.2.2.2.2.2.2.2.2.2.1
theorem dX4_slotOf_53 : decode cX4_slotOf 53 = .ok (.iload_n 3, 1) := dGR_14_c_351.2.2.2.2.2.2.2.2.2.2.1
theorem dX4_slotOf_54 : decode cX4_slotOf 54 = .ok (.invokevirtual 62, 3) := dGR_14_c_351.2.2.2.2.2.2.2.2.2.2.2
set_option maxRecDepth 100000 in
theorem dGR_14_c_352 : (decode cX4_slotOf 57 = .ok (.astore 6, 2)) ∧ (decode cX4_slotOf 59 = .ok (.iload_n 2, 1)) ∧ (decode cX4_slotOf 60 = .ok (.ifCond .ne 10, 3)) ∧ (decode cX4_slotOf 63 = .ok (.aload_n 0, 1)) ∧ (decode cX4_slotOf 64 = .ok (.getfield 21, 3)) ∧ (decode cX4_slotOf 67 = .ok (.goto 9, 3)) ∧ (decode cX4_slotOf 70 = .ok (.aload_n 1, 1)) ∧ (decode cX4_slotOf 71 = .ok (.iload 4, 2)) ∧ (decode cX4_slotOf 73 = .ok (.invokevirtual 62, 3)) ∧ (decode cX4_slotOf 76 = .ok (.astore 7, 2)) ∧ (decode cX4_slotOf 78 = .ok (.aload_n 0, 1)) ∧ (decode cX4_slotOf 79 = .ok (.aload_n 1, 1)) := by decide +kernel
theorem dX4_slotOf_57 : decode cX4_slotOf 57 = .ok (.astore 6, 2) := dGR_14_c_352.1
theorem dX4_slotOf_59 : decode cX4_slotOf 59 = .ok (.iload_n 2, 1) := dGR_14_c_352.2.1
theorem dX4_slotOf_60 : decode cX4_slotOf 60 = .ok (.ifCond .ne 10, 3) := dGR_14_c_352.2.2.1
theorem dX4_slotOf_63 : decode cX4_slotOf 63 = .ok (.aload_n 0, 1) := dGR_14_c_352.2.2.2.1
theorem dX4_slotOf_64 : decode cX4_slotOf 64 = .ok (.getfield 21, 3) := dGR_14_c_352.2.2.2.2.1
theorem dX4_slotOf_67 : decode cX4_slotOf 67 = .ok (.goto 9, 3) := dGR_14_c_352.2.2.2.2.2.1
theorem dX4_slotOf_70 : decode cX4_slotOf 70 = .ok (.aload_n 1, 1) := dGR_14_c_352.2.2.2.2.2.2.1
theorem dX4_slotOf_71 : decode cX4_slotOf 71 = .ok (.iload 4, 2) := dGR_14_c_352.2.2.2.2.2.2.2.1
theorem dX4_slotOf_73 : decode cX4_slotOf 73 = .ok (.invokevirtual 62, 3) := dGR_14_c_352.2.2.2.2.2.2.2.2.1
theorem dX4_slotOf_76 : decode cX4_slotOf 76 = .ok (.astore 7, 2) := dGR_14_c_352.2.2.2.2.2.2.2.2.2.1
theorem dX4_slotOf_78 : decode cX4_slotOf 78 = .ok (.aload_n 0, 1) := dGR_14_c_352.2.2.2.2.2.2.2.2.2.2.1
theorem dX4_slotOf_79 : decode cX4_slotOf 79 = .ok (.aload_n 1, 1) := dGR_14_c_352.2.2.2.2.2.2.2.2.2.2.2
set_option maxRecDepth 100000 in
theorem dGR_14_c_353 : (decode cX4_slotOf 80 = .ok (.aload 6, 2)) ∧ (decode cX4_slotOf 82 = .ok (.aload 7, 2)) ∧ (decode cX4_slotOf 84 = .ok (.iload_n 2, 1)) ∧ (decode cX4_slotOf 85 = .ok (.iconst 2, 1)) ∧ (decode cX4_slotOf 86 = .ok (.if_icmp .eq 8, 3)) ∧ (decode cX4_slotOf 89 = .ok (.iload_n 2, 1)) ∧ (decode cX4_slotOf 90 = .ok (.iconst 3, 1)) ∧ (decode cX4_slotOf 91 = .ok (.if_icmp .ne 7, 3)) ∧ (decode cX4_slotOf 94 = .ok (.iconst 1, 1)) ∧ (decode cX4_slotOf 95 = .ok (.goto 4, 3)) ∧ (decode cX4_slotOf 98 = .ok (.iconst 0, 1)) ∧ (decode cX4_slotOf 99 = .ok (.invokevirtual 68, 3)) := by decide +kernel
theorem dX4_slotOf_80 : decode cX4_slotOf 80 = .ok (.aload 6, 2) := dGR_14_c_353.1
theorem dX4_slotOf_82 : decode cX4_slotOf 82 = .ok (.aload 7, 2) := dGR_14_c_353.2.1
theorem dX4_slotOf_84 : decode cX4_slotOf 84 = .ok (.iload_n 2, 1) := dGR_14_c_353.2.2.1
theorem dX4_slotOf_85 : decode cX4_slotOf 85 = .ok (.iconst 2, 1) := dGR_14_c_353.2.2.2.1
theorem dX4_slotOf_86 : decode cX4_slotOf 86 = .ok (.if_icmp .eq 8, 3) := dGR_14_c_353.2.2.2.2.1
theorem dX4_slotOf_89 : decode cX4_slotOf 89 = .ok (.iload_n 2, 1) := dGR_14_c_353.2.2.2.2.2.1
theorem dX4_slotOf_90 : decode cX4_slotOf 90 = .ok (.iconst 3, 1) := dGR_14_c_353.2.2.2.2.2.2.1
theorem dX4_slotOf_91 : decode cX4_slotOf 91 = .ok (.if_icmp .ne 7, 3) := dGR_14_c_353.2.2.2.2.2.2.2.1
theorem dX4_slotOf_94 : decode cX4_slotOf 94 = .ok (.iconst 1, 1) := dGR_14_c_353.2.2.2.2.2.2.2.2.1
theorem dX4_slotOf_95 : decode cX4_slotOf 95 = .ok (.goto 4, 3) := dGR_14_c_353.2.2.2.2.2.2.2.2.2.1
theorem dX4_slotOf_98 : decode cX4_slotOf 98 = .ok (.iconst 0, 1) := dGR_14_c_353.2.2.2.2.2.2.2.2.2.2.1
theorem dX4_slotOf_99 : decode cX4_slotOf 99 = .ok (.invokevirtual 68, 3) := dGR_14_c_353.2.2.2.2.2.2.2.2.2.2.2
set_option maxRecDepth 100000 in
theorem dGR_14_c_354 : (decode cX4_slotOf 102 = .ok (.aload_n 0, 1)) ∧ (decode cX4_slotOf 103 = .ok (.invokevirtual 72, 3)) ∧ (decode cX4_slotOf 106 = .ok (.aload_n 0, 1)) ∧ (decode cX4_slotOf 107 = .ok (.invokevirtual 75, 3)) ∧ (decode cX4_slotOf 110 = .ok (.aload_n 0, 1)) ∧ (decode cX4_slotOf 111 = .ok (.iload 5, 2)) ∧ (decode cX4_slotOf 113 = .ok (.invokevirtual 78, 3)) ∧ (decode cX4_slotOf 116 = .ok (.iload 5, 2)) ∧ (decode cX4_slotOf 118 = .ok (.ireturn, 1)) := by decide +kernel
theorem dX4_slotOf_102 : decode cX4_slotOf 102 = .ok (.aload_n 0, 1) := dGR_14_c_354.1
theorem dX4_slotOf_103 : decode cX4_slotOf 103 = .ok (.invokevirtual 72, 3) := dGR_14_c_354.2.1
theorem dX4_slotOf_106 : decode cX4_slotOf 106 = .ok (.aload_n 0, 1) := dGR_14_c_354.2.2.1
theorem dX4_slotOf_107 : decode cX4_slotOf 107 = .ok (.invokevirtual 75, 3) := dGR_14_c_354.2.2.2.1
theorem dX4_slotOf_110 : decode cX4_slotOf 110 = .ok (.aload_n 0, 1) := dGR_14_c_354.2.2.2.2.1
theorem dX4_slotOf_111 : decode cX4_slotOf 111 = .ok (.iload 5, 2) := dGR_14_c_354.2.2.2.2.2.1
theorem dX4_slotOf_113 : decode cX4_slotOf 113 = .ok (.invokevirtual 78, 3) := dGR_14_c_354.2.2.2.2.2.2.1
theorem dX4_slotOf_116 : decode cX4_slotOf 116 = .ok (.iload 5, 2) := dGR_14_c_354.2.2.2.2.2.2.2.1
theorem dX4_slotOf_118 : decode cX4_slotOf 118 = .ok (.ireturn, 1) := dGR_14_c_354.2.2.2.2.2.2.2.2
abbrev f_c_X4_slotOf : List (Nat × Int) := [(26, 0), (27, -1), (28, -1), (29, -1), (30, -1), (31, 0), (32, -1), (33, -1), (34, -1), (35, -1), (36, 0), (37, -1), (38, -1), (39, -1), (40, -1), (41, 2), (41, 3), (41, 4), (41, 5), (41, 7), (41, 8), (41, 9), (41, 13), (42, -1), (43, -1), (44, -1), (45, -1), (46, -1)]
set_option maxHeartbeats 4000000 in
set_option maxRecDepth 100000 in
theorem c_X4_slotOf (G : KG) (l : Launch) (M : Mem) (c0 : Int) (c1 : Int) (a2 : Int) (a3 : Int) (a4 : Int) (hI_M : Inv false M) (hk_c0 : kd c0 = 41) (hk_c1 : kd c1 = 12) (hpre : -2147483648 ≤ a2 ∧ a2 ≤ 2147483647 ∧ -2147483648 ≤ a3 ∧ a3 ≤ 2147483647 ∧ -2147483648 ≤ a4 ∧ a4 ≤ 2147483647) (hX_M : XX M) : KC false G l yX4_slotOf cX4_slotOf 8 (some .int) (6, 146) [vR G c0, vR G c1, vI a2, vI a3, vI a4] M (fun A => kQi false G A (fun (r : Int) (N : Mem) => Inv false N ∧ Fr f_c_X4_slotOf M N ∧ (0 ≤ r ∧ r ≤ 15) ∧ XX N)) := by
  refine kx_met (lo := [some (vR G c0), some (vR G c1), some (vI a2), some (vI a3), some (vI a4), none, none, none]) (by decide) (Nat.le_of_ble_eq_true rfl) rfl ?_
  intro X F hQ
  have hF_M : Fr f_c_X4_slotOf M M := Fr.rf _ _
  refine kx_iload_n 1 F 2 dX4_slotOf_0 rfl rfl rfl ?_
  refine kx_iconst 2 F dX4_slotOf_1 rfl ?_
  refine kx_imul 3 F (v := 4 * a2) dX4_slotOf_2 (by omega) rfl ?_
  refine kx_wrapi (fun w_1 h_2 _ => ?_)
  refine kx_iload_n 4 F 3 dX4_slotOf_3 rfl rfl rfl ?_
  refine kx_iconst 5 F dX4_slotOf_4 rfl ?_
  refine kx_imul 6 F (v := 2 * a3) dX4_slotOf_5 (by omega) rfl ?_
  refine kx_wrapi (fun w_3 h_4 _ => ?_)
  refine kx_iadd 7 F (v := w_1 + w_3) dX4_slotOf_6 rfl rfl ?_
  refine kx_wrapi (fun w_5 h_6 _ => ?_)
  refine kx_iload 9 F 4 dX4_slotOf_7 rfl rfl ?_
  refine kx_iadd 10 F (v := w_5 + a4) dX4_slotOf_9 rfl rfl ?_
  refine kx_wrapi (fun w_7 h_8 _ => ?_)
  refine kx_bipush 12 F dX4_slotOf_10 (by decide) rfl ?_
  refine kx_iand 13 F (v := (zand w_7 15)) dX4_slotOf_12 rfl rfl ?_
  have h_9 := zand_r (a := w_7) (b := 15) (by omega)
  refine kx_istore 15 F 5 (lo' := [some (vR G c0), some (vR G c1), some (vI a2), some (vI a3), some (vI a4), some (vI (zand w_7 15)), none, none]) dX4_slotOf_13 (by decide) rfl rfl rfl ?_
  refine kx_aload_n 16 F 0 dX4_slotOf_15 rfl rfl rfl ?_
  refine kx_geti 19 F fl_X4_58 hk_c0 rfl rfl (j := 2) rfl dX4_slotOf_16 (v := (M c0 2)) rfl rfl ?_
  have h_10 := Inv.g hI_M hk_c0 rfl 2 (a := (-2147483648)) (b := 2147483647) rfl rfl
  refine kx_iload 21 F 5 dX4_slotOf_19 rfl rfl ?_
  refine kx_ishr 22 F (v := (zshr (M c0 2) (zand w_7 15))) dX4_slotOf_21 rfl rfl ?_
  have h_11 := zshr_rng (M c0 2) (zand w_7 15)
  refine kx_iconst 23 F dX4_slotOf_22 rfl ?_
  refine kx_iand 24 F (v := (zand (zshr (M c0 2) (zand w_7 15)) 1)) dX4_slotOf_23 rfl rfl ?_
  have h_12 := zand_r (a := (zshr (M c0 2) (zand w_7 15))) (b := 1) (by omega)
  refine kx_if_ne 27 F 116 dX4_slotOf_24 (by decide) rfl (by omega) (fun h_13 => ?_) (fun h_13 => ?_)
  · refine kx_iload 118 F 5 dX4_slotOf_116 rfl rfl ?_
    exact kx_iret F hQ ⟨hI_M, hF_M, (by omega), hX_M⟩ dX4_slotOf_118
  · refine kx_aload_n 28 F 0 dX4_slotOf_27 rfl rfl rfl ?_
    refine kx_dup 29 F dX4_slotOf_28 rfl rfl ?_
    refine kx_geti 32 F fl_X4_58 hk_c0 rfl rfl (j := 2) rfl dX4_slotOf_29 (v := (M c0 2)) rfl rfl ?_
    refine kx_iconst 33 F dX4_slotOf_32 rfl ?_
    refine kx_iload 35 F 5 dX4_slotOf_33 rfl rfl ?_
    refine kx_ishl 36 F (v := (zshl 1 (zand w_7 15))) dX4_slotOf_35 rfl rfl ?_
    have h_14 := zshl_1 (b := (zand w_7 15)) 15 (by decide) (by omega)
    refine kx_ior 37 F (v := (zor (M c0 2) (zshl 1 (zand w_7 15)))) dX4_slotOf_36 rfl rfl ?_
    have h_15 := zor_rng (M c0 2) (zshl 1 (zand w_7 15))
    refine kx_puti 40 F fw_X4_58 rfl hk_c0 rfl rfl (j := 2) rfl dX4_slotOf_37 rfl ?_
    intro N_16 hM_N_16
    have hI_N_16 : Inv false N_16 := Inv.u hI_M hM_N_16 hk_c0 (a := (-2147483648)) (b := 2147483647) rfl rfl rfl (by omega)
    have hF_N_16 : Fr f_c_X4_slotOf M N_16 := Fr.u hF_M hM_N_16 hk_c0 rfl
    have hX_N_16 : XX N_16 := XX.st hX_M hI_M hM_N_16 hk_c0 rfl
    refine kx_iload_n 41 F 2 dX4_slotOf_40 rfl rfl rfl ?_
    refine kx_iconst 42 F dX4_slotOf_41 rfl ?_
    have J_31 : ∀ (y0_29 : Int), kd y0_29 = 1 → KJ false G X N_16 57 [some (vR G c0), some (vR G c1), some (vI a2), none, some (vI a4), some (vI (zand w_7 15)), none, none] [vR G y0_29] := by
      intro y0_29 hk_30
      refine kx_astore 59 F 6 (lo' := [some (vR G c0), some (vR G c1), some (vI a2), none, some (vI a4), some (vI (zand w_7 15)), some (vR G y0_29), none]) dX4_slotOf_57 (by decide) rfl rfl rfl ?_
      refine kx_iload_n 60 F 2 dX4_slotOf_59 rfl rfl rfl ?_
      have J_47 : ∀ (y0_45 : Int), kd y0_45 = 1 → KJ false G X N_16 76 [some (vR G c0), some (vR G c1), some (vI a2), none, none, some (vI (zand w_7 15)), some (vR G y0_29), none] [vR G y0_45] := by
        intro y0_45 hk_46
        refine kx_astore 78 F 7 (lo' := [some (vR G c0), some (vR G c1), some (vI a2), none, none, some (vI (zand w_7 15)), some (vR G y0_29), some (vR G y0_45)]) dX4_slotOf_76 (by decide) rfl rfl rfl ?_
        refine kx_aload_n 79 F 0 dX4_slotOf_78 rfl rfl rfl ?_
        refine kx_aload_n 80 F 1 dX4_slotOf_79 rfl rfl rfl ?_
        refine kx_aload 82 F 6 dX4_slotOf_80 rfl rfl ?_
        refine kx_aload 84 F 7 dX4_slotOf_82 rfl rfl ?_
        refine kx_iload_n 85 F 2 dX4_slotOf_84 rfl rfl rfl ?_
        refine kx_iconst 86 F dX4_slotOf_85 rfl ?_
        have J_54 : ∀ (y0_53 : Int), 0 ≤ y0_53 ∧ y0_53 ≤ 1 → KJ false G X N_16 99 [some (vR G c0), none, none, none, none, some (vI (zand w_7 15)), none, none] [vI y0_53, vR G y0_45, vR G y0_29, vR G c1, vR G c0] := by
          intro y0_53 h_55
          refine kx_Vv 102 (ci := 0) F (As := [vR G c1, vR G y0_29, vR G y0_45, vI y0_53]) (st := []) vd_X4_68 (c_X4_prepare G l N_16 c0 c1 y0_29 y0_45 y0_53 hI_N_16 hk_c0 hk_c1 hk_30 hk_46 (by omega) hX_N_16) hk_c0 rfl rfl rfl ⟨by decide, by decide⟩ rfl rfl (Nat.le_of_ble_eq_true rfl) dX4_slotOf_99 rfl ?_
          intro N_56 q_57
          obtain ⟨hI_N_56, hG_N_56, hX_N_56⟩ := q_57
          have hF_N_56 : Fr f_c_X4_slotOf M N_56 := Fr.c hF_N_16 hG_N_56 rfl
          refine kx_aload_n 103 F 0 dX4_slotOf_102 rfl rfl rfl ?_
          refine kx_Vv 106 (ci := 0) F (As := []) (st := []) vd_X4_72 (c_X4_findWords G l N_56 c0 hI_N_56 hk_c0 hX_N_56) hk_c0 rfl rfl rfl ⟨by decide, by decide⟩ rfl rfl (Nat.le_of_ble_eq_true rfl) dX4_slotOf_103 rfl ?_
          intro N_58 q_59
          obtain ⟨hI_N_58, hG_N_58, hX_N_58⟩ := q_59
          have hF_N_58 : Fr f_c_X4_slotOf M N_58 := Fr.c hF_N_56 hG_N_58 rfl
          refine kx_aload_n 107 F 0 dX4_slotOf_106 rfl rfl rfl ?_
          refine kx_Vv 110 (ci := 0) F (As := []) (st := []) vd_X4_75 (c_X4_findNodes G l N_58 c0 hI_N_58 hk_c0 hX_N_58) hk_c0 rfl rfl rfl ⟨by decide, by decide⟩ rfl rfl (Nat.le_of_ble_eq_true rfl) dX4_slotOf_107 rfl ?_
          intro N_60 q_61
          obtain ⟨hI_N_60, hG_N_60, hX_N_60⟩ := q_61
          have hF_N_60 : Fr f_c_X4_slotOf M N_60 := Fr.c hF_N_58 hG_N_60 rfl
          refine kx_aload_n 111 F 0 dX4_slotOf_110 rfl rfl rfl ?_
          refine kx_iload 113 F 5 dX4_slotOf_111 rfl rfl ?_
          refine kx_Vv 116 (ci := 0) F (As := [vI (zand w_7 15)]) (st := []) vd_X4_78 (c_X4_keepBest G l N_60 c0 (zand w_7 15) hI_N_60 hk_c0 (by omega)) hk_c0 rfl rfl rfl ⟨by decide, by decide⟩ rfl rfl (Nat.le_of_ble_eq_true rfl) dX4_slotOf_113 rfl ?_
          intro N_62 q_63
          obtain ⟨hI_N_62, hG_N_62⟩ := q_63
          have hF_N_62 : Fr f_c_X4_slotOf M N_62 := Fr.c hF_N_60 hG_N_62 rfl
          have hX_N_62 : XX N_62 := XX.fr hX_N_60 hI_N_60 hG_N_62 rfl
          refine kx_iload 118 F 5 dX4_slotOf_116 rfl rfl ?_
          exact kx_iret F hQ ⟨hI_N_62, hF_N_62, (by omega), hX_N_62⟩ dX4_slotOf_118
        have J_74 : KJ false G X N_16 94 [some (vR G c0), none, none, none, none, some (vI (zand w_7 15)), none, none] [vR G y0_45, vR G y0_29, vR G c1, vR G c0] := by
          refine kx_iconst 95 F dX4_slotOf_94 rfl ?_
          refine kx_goto 99 F dX4_slotOf_95 (by decide) ?_
          exact J_54 1 (by omega)
        refine kx_icmp_eq 89 F 94 dX4_slotOf_86 (by decide) rfl (by omega) (by decide) (fun h_76 => ?_) (fun h_76 => ?_)
        · refine kx_drop 1 (lo' := [some (vR G c0), none, some (vI a2), none, none, some (vI (zand w_7 15)), some (vR G y0_29), some (vR G y0_45)]) rfl ?_
          refine kx_drop 2 (lo' := [some (vR G c0), none, none, none, none, some (vI (zand w_7 15)), some (vR G y0_29), some (vR G y0_45)]) rfl ?_
          refine kx_drop 6 (lo' := [some (vR G c0), none, none, none, none, some (vI (zand w_7 15)), none, some (vR G y0_45)]) rfl ?_
          refine kx_drop 7 (lo' := [some (vR G c0), none, none, none, none, some (vI (zand w_7 15)), none, none]) rfl ?_
          exact J_74 
        · refine kx_iload_n 90 F 2 dX4_slotOf_89 rfl rfl rfl ?_
          refine kx_iconst 91 F dX4_slotOf_90 rfl ?_
          refine kx_icmp_ne 94 F 98 dX4_slotOf_91 (by decide) rfl (by omega) (by decide) (fun h_77 => ?_) (fun h_77 => ?_)
          · refine kx_iconst 99 F dX4_slotOf_98 rfl ?_
            refine kx_drop 1 (lo' := [some (vR G c0), none, some (vI a2), none, none, some (vI (zand w_7 15)), some (vR G y0_29), some (vR G y0_45)]) rfl ?_
            refine kx_drop 2 (lo' := [some (vR G c0), none, none, none, none, some (vI (zand w_7 15)), some (vR G y0_29), some (vR G y0_45)]) rfl ?_
            refine kx_drop 6 (lo' := [some (vR G c0), none, none, none, none, some (vI (zand w_7 15)), none, some (vR G y0_45)]) rfl ?_
            refine kx_drop 7 (lo' := [some (vR G c0), none, none, none, none, some (vI (zand w_7 15)), none, none]) rfl ?_
            exact J_54 0 (by omega)
          · refine kx_drop 1 (lo' := [some (vR G c0), none, some (vI a2), none, none, some (vI (zand w_7 15)), some (vR G y0_29), some (vR G y0_45)]) rfl ?_
            refine kx_drop 2 (lo' := [some (vR G c0), none, none, none, none, some (vI (zand w_7 15)), some (vR G y0_29), some (vR G y0_45)]) rfl ?_
            refine kx_drop 6 (lo' := [some (vR G c0), none, none, none, none, some (vI (zand w_7 15)), none, some (vR G y0_45)]) rfl ?_
            refine kx_drop 7 (lo' := [some (vR G c0), none, none, none, none, some (vI (zand w_7 15)), none, none]) rfl ?_
            exact J_74 
      refine kx_if_ne 63 F 70 dX4_slotOf_60 (by decide) rfl (by omega) (fun h_78 => ?_) (fun h_78 => ?_)
      · refine kx_aload_n 71 F 1 dX4_slotOf_70 rfl rfl rfl ?_
        refine kx_iload 73 F 4 dX4_slotOf_71 rfl rfl ?_
        refine kx_Vr 76 (ci := 0) F (As := [vI a4]) (st := []) vd_X4_62 (c_X5_pick G l N_16 c1 a4 hI_N_16 hk_c1 (by omega)) hk_c1 rfl rfl rfl ⟨by decide, by decide⟩ rfl rfl (Nat.le_of_ble_eq_true rfl) dX4_slotOf_73 rfl ?_
        intro r_79 N_80 q_81
        obtain ⟨rfl, hk_82⟩ := q_81
        refine kx_drop 4 (lo' := [some (vR G c0), some (vR G c1), some (vI a2), none, none, some (vI (zand w_7 15)), some (vR G y0_29), none]) rfl ?_
        exact J_47 r_79 hk_82
      · refine kx_aload_n 64 F 0 dX4_slotOf_63 rfl rfl rfl ?_
        refine kx_getr 67 F fl_X4_21 hk_c0 rfl rfl (j := 6) rfl dX4_slotOf_64 (v := (M c0 6)) (by rw [hM_N_16, mu_i (by omega)]) rfl ?_
        have hk_83 : kd (M c0 6) = 1 := Inv.r hI_M hk_c0 rfl 6 rfl rfl
        refine kx_goto 76 F dX4_slotOf_67 (by decide) ?_
        refine kx_drop 4 (lo' := [some (vR G c0), some (vR G c1), some (vI a2), none, none, some (vI (zand w_7 15)), some (vR G y0_29), none]) rfl ?_
        exact J_47 (M c0 6) hk_83
    refine kx_icmp_ne 45 F 52 dX4_slotOf_42 (by decide) rfl (by omega) (by decide) (fun h_84 => ?_) (fun h_84 => ?_)
    · refine kx_aload_n 53 F 1 dX4_slotOf_52 rfl rfl rfl ?_
      refine kx_iload_n 54 F 3 dX4_slotOf_53 rfl rfl rfl ?_
      refine kx_Vr 57 (ci := 0) F (As := [vI a3]) (st := []) vd_X4_62 (c_X5_pick G l N_16 c1 a3 hI_N_16 hk_c1 (by omega)) hk_c1 rfl rfl rfl ⟨by decide, by decide⟩ rfl rfl (Nat.le_of_ble_eq_true rfl) dX4_slotOf_54 rfl ?_
      intro r_85 N_86 q_87
      obtain ⟨rfl, hk_88⟩ := q_87
      refine kx_drop 3 (lo' := [some (vR G c0), some (vR G c1), some (vI a2), none, some (vI a4), some (vI (zand w_7 15)), none, none]) rfl ?_
      exact J_31 r_85 hk_88
    · refine kx_aload_n 46 F 0 dX4_slotOf_45 rfl rfl rfl ?_
      refine kx_getr 49 F fl_X4_21 hk_c0 rfl rfl (j := 6) rfl dX4_slotOf_46 (v := (M c0 6)) (by rw [hM_N_16, mu_i (by omega)]) rfl ?_
      have hk_89 : kd (M c0 6) = 1 := Inv.r hI_M hk_c0 rfl 6 rfl rfl
      refine kx_goto 57 F dX4_slotOf_49 (by decide) ?_
      refine kx_drop 3 (lo' := [some (vR G c0), some (vR G c1), some (vI a2), none, some (vI a4), some (vI (zand w_7 15)), none, none]) rfl ?_
      exact J_31 (M c0 6) hk_89
set_option maxRecDepth 100000 in
theorem dGR_14_c_355 : (decode cX4_wellLength 0 = .ok (.aload_n 0, 1)) ∧ (decode cX4_wellLength 1 = .ok (.aload_n 1, 1)) ∧ (decode cX4_wellLength 2 = .ok (.aload_n 2, 1)) ∧ (decode cX4_wellLength 3 = .ok (.aload_n 0, 1)) ∧ (decode cX4_wellLength 4 = .ok (.getfield 21, 3)) ∧ (decode cX4_wellLength 7 = .ok (.iconst 0, 1)) ∧ (decode cX4_wellLength 8 = .ok (.invokevirtual 68, 3)) ∧ (decode cX4_wellLength 11 = .ok (.aload_n 0, 1)) ∧ (decode cX4_wellLength 12 = .ok (.invokevirtual 72, 3)) ∧ (decode cX4_wellLength 15 = .ok (.aload_n 0, 1)) ∧ (decode cX4_wellLength 16 = .ok (.iconst 3, 1)) ∧ (decode cX4_wellLength 17 = .ok (.iload_n 3, 1)) := by decide +kernel
theorem dX4_wellLength_0 : decode cX4_wellLength 0 = .ok (.aload_n 0, 1) := dGR_14_c_355.1
theorem dX4_wellLength_1 : decode cX4_wellLength 1 = .ok (.aload_n 1, 1) := dGR_14_c_355.2.1
theorem dX4_wellLength_2 : decode cX4_wellLength 2 = .ok (.aload_n 2, 1) := dGR_14_c_355.2.2.1
theorem dX4_wellLength_3 : decode cX4_wellLength 3 = .ok (.aload_n 0, 1) := dGR_14_c_355.2.2.2.1
theorem dX4_wellLength_4 : decode cX4_wellLength 4 = .ok (.getfield 21, 3) := dGR_14_c_355.2.2.2.2.1
theorem dX4_wellLength_7 : decode cX4_wellLength 7 = .ok (.iconst 0, 1) := dGR_14_c_355.2.2.2.2.2.1
theorem dX4_wellLength_8 : decode cX4_wellLength 8 = .ok (.invokevirtual 68, 3) := dGR_14_c_355.2.2.2.2.2.2.1
theorem dX4_wellLength_11 : decode cX4_wellLength 11 = .ok (.aload_n 0, 1) := dGR_14_c_355.2.2.2.2.2.2.2.1
theorem dX4_wellLength_12 : decode cX4_wellLength 12 = .ok (.invokevirtual 72, 3) := dGR_14_c_355.2.2.2.2.2.2.2.2.1
theorem dX4_wellLength_15 : decode cX4_wellLength 15 = .ok (.aload_n 0, 1) := dGR_14_c_355.2.2.2.2.2.2.2.2.2.1
theorem dX4_wellLength_16 : decode cX4_wellLength 16 = .ok (.iconst 3, 1) := dGR_14_c_355.2.2.2.2.2.2.2.2.2.2.1
theorem dX4_wellLength_17 : decode cX4_wellLength 17 = .ok (.iload_n 3, 1) := dGR_14_c_355.2.2.2.2.2.2.2.2.2.2.2
set_option maxRecDepth 100000 in
theorem dGR_14_c_356 : (decode cX4_wellLength 18 = .ok (.imul, 1)) ∧ (decode cX4_wellLength 19 = .ok (.iload 4, 2)) ∧ (decode cX4_wellLength 21 = .ok (.iadd, 1)) ∧ (decode cX4_wellLength 22 = .ok (.iconst 0, 1)) ∧ (decode cX4_wellLength 23 = .ok (.iconst 0, 1)) ∧ (decode cX4_wellLength 24 = .ok (.invokestatic 81, 3)) ∧ (decode cX4_wellLength 27 = .ok (.invokevirtual 87, 3)) ∧ (decode cX4_wellLength 30 = .ok (.istore 5, 2)) ∧ (decode cX4_wellLength 32 = .ok (.aload_n 0, 1)) ∧ (decode cX4_wellLength 33 = .ok (.getfield 36, 3)) ∧ (decode cX4_wellLength 36 = .ok (.iload 5, 2)) ∧ (decode cX4_wellLength 38 = .ok (.invokevirtual 90, 3)) := by decide +kernel
theorem dX4_wellLength_18 : decode cX4_wellLength 18 = .ok (.imul, 1) := dGR_14_c_356.1
theorem dX4_wellLength_19 : decode cX4_wellLength 19 = .ok (.iload 4, 2) := dGR_14_c_356.2.1
theorem dX4_wellLength_21 : decode cX4_wellLength 21 = .ok (.iadd, 1) := dGR_14_c_356.2.2.1
theorem dX4_wellLength_22 : decode cX4_wellLength 22 = .ok (.iconst 0, 1) := dGR_14_c_356.2.2.2.1
theorem dX4_wellLength_23 : decode cX4_wellLength 23 = .ok (.iconst 0, 1) := dGR_14_c_356.2.2.2.2.1
theorem dX4_wellLength_24 : decode cX4_wellLength 24 = .ok (.invokestatic 81, 3) := dGR_14_c_356.2.2.2.2.2.1
theorem dX4_wellLength_27 : decode cX4_wellLength 27 = .ok (.invokevirtual 87, 3) := dGR_14_c_356.2.2.2.2.2.2.1
theorem dX4_wellLength_30 : decode cX4_wellLength 30 = .ok (.istore 5, 2) := dGR_14_c_356.2.2.2.2.2.2.2.1
theorem dX4_wellLength_32 : decode cX4_wellLength 32 = .ok (.aload_n 0, 1) := dGR_14_c_356.2.2.2.2.2.2.2.2.1
theorem dX4_wellLength_33 : decode cX4_wellLength 33 = .ok (.getfield 36, 3) := dGR_14_c_356.2.2.2.2.2.2.2.2.2.1
theorem dX4_wellLength_36 : decode cX4_wellLength 36 = .ok (.iload 5, 2) := dGR_14_c_356.2.2.2.2.2.2.2.2.2.2.1
theorem dX4_wellLength_38 : decode cX4_wellLength 38 = .ok (.invokevirtual 90, 3) := dGR_14_c_356.2.2.2.2.2.2.2.2.2.2.2
set_option maxRecDepth 100000 in
theorem dGR_14_c_357 : (decode cX4_wellLength 41 = .ok (.ifCond .eq 16, 3)) ∧ (decode cX4_wellLength 44 = .ok (.aload_n 0, 1)) ∧ (decode cX4_wellLength 45 = .ok (.getfield 36, 3)) ∧ (decode cX4_wellLength 48 = .ok (.getfield 94, 3)) ∧ (decode cX4_wellLength 51 = .ok (.iload 5, 2)) ∧ (decode cX4_wellLength 53 = .ok (.iaload, 1)) ∧ (decode cX4_wellLength 54 = .ok (.goto 4, 3)) ∧ (decode cX4_wellLength 57 = .ok (.iconst (-1), 1)) ∧ (decode cX4_wellLength 58 = .ok (.ireturn, 1)) := by decide +kernel
theorem dX4_wellLength_41 : decode cX4_wellLength 41 = .ok (.ifCond .eq 16, 3) := dGR_14_c_357.1
theorem dX4_wellLength_44 : decode cX4_wellLength 44 = .ok (.aload_n 0, 1) := dGR_14_c_357.2.1
theorem dX4_wellLength_45 : decode cX4_wellLength 45 = .ok (.getfield 36, 3) := dGR_14_c_357.2.2.1
theorem dX4_wellLength_48 : decode cX4_wellLength 48 = .ok (.getfield 94, 3) := dGR_14_c_357.2.2.2.1
theorem dX4_wellLength_51 : decode cX4_wellLength 51 = .ok (.iload 5, 2) := dGR_14_c_357.2.2.2.2.1
theorem dX4_wellLength_53 : decode cX4_wellLength 53 = .ok (.iaload, 1) := dGR_14_c_357.2.2.2.2.2.1
theorem dX4_wellLength_54 : decode cX4_wellLength 54 = .ok (.goto 4, 3) := dGR_14_c_357.2.2.2.2.2.2.1
theorem dX4_wellLength_57 : decode cX4_wellLength 57 = .ok (.iconst (-1), 1) := dGR_14_c_357.2.2.2.2.2.2.2.1
theorem dX4_wellLength_58 : decode cX4_wellLength 58 = .ok (.ireturn, 1) := dGR_14_c_357.2.2.2.2.2.2.2.2
abbrev f_c_X4_wellLength : List (Nat × Int) := [(26, 0), (27, -1), (28, -1), (29, -1), (30, -1), (31, 0), (35, -1), (36, 0), (37, -1), (38, -1), (39, -1), (40, -1), (41, 3), (41, 4), (41, 5), (41, 7), (41, 8), (41, 9), (41, 13), (44, -1), (45, -1), (46, -1)]
set_option maxHeartbeats 4000000 in
set_option maxRecDepth 100000 in
theorem c_X4_wellLength (G : KG) (l : Launch) (M : Mem) (c0 : Int) (c1 : Int) (c2 : Int) (a3 : Int) (a4 : Int) (hI_M : Inv false M) (hk_c0 : kd c0 = 41) (hk_c1 : kd c1 = 12) (hk_c2 : kd c2 = 1) (hpre : -2147483648 ≤ a3 ∧ a3 ≤ 2147483647 ∧ -2147483648 ≤ a4 ∧ a4 ≤ 2147483647 ∧ 0 ≤ a3 ∧ a3 ≤ 2 ∧ 0 ≤ a4 ∧ a4 ≤ 2) (hX_M : XX M) : KC false G l yX4_wellLength cX4_wellLength 6 (some .int) (6, 146) [vR G c0, vR G c1, vR G c2, vI a3, vI a4] M (fun A => kQi false G A (fun (r : Int) (N : Mem) => Inv false N ∧ Fr f_c_X4_wellLength M N ∧ (r ≥ -1 ∧ r ≤ 1000000000) ∧ XX N)) := by
  refine kx_met (lo := [some (vR G c0), some (vR G c1), some (vR G c2), some (vI a3), some (vI a4), none]) (by decide) (Nat.le_of_ble_eq_true rfl) rfl ?_
  intro X F hQ
  have hF_M : Fr f_c_X4_wellLength M M := Fr.rf _ _
  refine kx_aload_n 1 F 0 dX4_wellLength_0 rfl rfl rfl ?_
  refine kx_aload_n 2 F 1 dX4_wellLength_1 rfl rfl rfl ?_
  refine kx_aload_n 3 F 2 dX4_wellLength_2 rfl rfl rfl ?_
  refine kx_aload_n 4 F 0 dX4_wellLength_3 rfl rfl rfl ?_
  refine kx_getr 7 F fl_X4_21 hk_c0 rfl rfl (j := 6) rfl dX4_wellLength_4 (v := (M c0 6)) rfl rfl ?_
  have hk_1 : kd (M c0 6) = 1 := Inv.r hI_M hk_c0 rfl 6 rfl rfl
  refine kx_iconst 8 F dX4_wellLength_7 rfl ?_
  refine kx_Vv 11 (ci := 0) F (As := [vR G c1, vR G c2, vR G (M c0 6), vI 0]) (st := []) vd_X4_68 (c_X4_prepare G l M c0 c1 c2 (M c0 6) 0 hI_M hk_c0 hk_c1 hk_c2 hk_1 (by omega) hX_M) hk_c0 rfl rfl rfl ⟨by decide, by decide⟩ rfl rfl (Nat.le_of_ble_eq_true rfl) dX4_wellLength_8 rfl ?_
  intro N_2 q_3
  obtain ⟨hI_N_2, hG_N_2, hX_N_2⟩ := q_3
  have hF_N_2 : Fr f_c_X4_wellLength M N_2 := Fr.c hF_M hG_N_2 rfl
  refine kx_aload_n 12 F 0 dX4_wellLength_11 rfl rfl rfl ?_
  refine kx_Vv 15 (ci := 0) F (As := []) (st := []) vd_X4_72 (c_X4_findWords G l N_2 c0 hI_N_2 hk_c0 hX_N_2) hk_c0 rfl rfl rfl ⟨by decide, by decide⟩ rfl rfl (Nat.le_of_ble_eq_true rfl) dX4_wellLength_12 rfl ?_
  intro N_4 q_5
  obtain ⟨hI_N_4, hG_N_4, hX_N_4⟩ := q_5
  have hF_N_4 : Fr f_c_X4_wellLength M N_4 := Fr.c hF_N_2 hG_N_4 rfl
  refine kx_aload_n 16 F 0 dX4_wellLength_15 rfl rfl rfl ?_
  refine kx_iconst 17 F dX4_wellLength_16 rfl ?_
  refine kx_iload_n 18 F 3 dX4_wellLength_17 rfl rfl rfl ?_
  refine kx_imul 19 F (v := 3 * a3) dX4_wellLength_18 (by omega) rfl ?_
  refine kx_iload 21 F 4 dX4_wellLength_19 rfl rfl ?_
  refine kx_iadd 22 F (v := 3 * a3 + a4) dX4_wellLength_21 rfl rfl ?_
  refine kx_iconst 23 F dX4_wellLength_22 rfl ?_
  refine kx_iconst 24 F dX4_wellLength_23 rfl ?_
  refine kx_Si 27 F (As := [vI 0, vI 0]) (st := [vI (3 * a3 + a4), vR G c0]) sd_X4_81 (c_X2_pair G l N_4 0 0 hI_N_4 (by omega)) ⟨by decide, by decide⟩ rfl rfl (Nat.le_of_ble_eq_true rfl) dX4_wellLength_24 rfl ?_
  intro r_6 N_7 q_8
  obtain ⟨rfl, q_8c⟩ := q_8
  refine kx_Vi 30 (ci := 0) F (As := [vI (3 * a3 + a4), vI r_6]) (st := []) vd_X4_87 (c_X4_itemOf G l N_4 c0 (3 * a3 + a4) r_6 hI_N_4 hk_c0 (by omega)) hk_c0 rfl rfl rfl ⟨by decide, by decide⟩ rfl rfl (Nat.le_of_ble_eq_true rfl) dX4_wellLength_27 rfl ?_
  intro r_9 N_10 q_11
  obtain ⟨hI_N_10, hG_N_10, q_11c⟩ := q_11
  have hF_N_10 : Fr f_c_X4_wellLength M N_10 := Fr.c hF_N_4 hG_N_10 rfl
  have hX_N_10 : XX N_10 := XX.fr hX_N_4 hI_N_4 hG_N_10 rfl
  refine kx_istore 32 F 5 (lo' := [some (vR G c0), some (vR G c1), some (vR G c2), some (vI a3), some (vI a4), some (vI r_9)]) dX4_wellLength_30 (by decide) rfl rfl rfl ?_
  refine kx_aload_n 33 F 0 dX4_wellLength_32 rfl rfl rfl ?_
  refine kx_getr 36 F fl_X4_36 hk_c0 rfl rfl (j := 10) rfl dX4_wellLength_33 (v := (M c0 10)) (by rw [Fr.e hG_N_10 hk_c0 _ rfl, Fr.e hG_N_4 hk_c0 _ rfl, Fr.e hG_N_2 hk_c0 _ rfl]) rfl ?_
  have hk_12 : kd (M c0 10) = 26 := Inv.r hI_M hk_c0 rfl 10 rfl rfl
  refine kx_iload 38 F 5 dX4_wellLength_36 rfl rfl ?_
  refine kx_Vi 41 (ci := 0) F (As := [vI r_9]) (st := []) vd_X4_90 (c_X6_isClosedA G l N_10 (M c0 10) r_9 hI_N_10 hk_12 (by omega)) hk_12 rfl rfl rfl ⟨by decide, by decide⟩ rfl rfl (Nat.le_of_ble_eq_true rfl) dX4_wellLength_38 rfl ?_
  intro r_13 N_14 q_15
  obtain ⟨rfl, q_15c⟩ := q_15
  rcases q_15c with q_15c | q_15c
  · refine kx_if_eq 44 F 57 dX4_wellLength_41 (by decide) rfl (by omega) (fun h_16 => (by exfalso; omega)) (fun h_16 => ?_)
    refine kx_aload_n 45 F 0 dX4_wellLength_44 rfl rfl rfl ?_
    refine kx_getr 48 F fl_X4_36 hk_c0 rfl rfl (j := 10) rfl dX4_wellLength_45 (v := (M c0 10)) (by rw [Fr.e hG_N_10 hk_c0 _ rfl, Fr.e hG_N_4 hk_c0 _ rfl, Fr.e hG_N_2 hk_c0 _ rfl]) rfl ?_
    refine kx_getr 51 F fl_X4_94 hk_12 rfl rfl (j := 2) rfl dX4_wellLength_48 (v := (M (M c0 10) 2)) (by rw [Fr.e hG_N_10 hk_12 _ rfl, Fr.e hG_N_4 hk_12 _ rfl, Fr.e hG_N_2 hk_12 _ rfl]) rfl ?_
    have hk_17 : kd (M (M c0 10) 2) = 28 := Inv.r hI_M hk_12 rfl 2 rfl rfl
    refine kx_iload 53 F 5 dX4_wellLength_51 rfl rfl ?_
    refine kx_iald 54 F hk_17 rfl rfl (by omega) (by decide) dX4_wellLength_53 (v := (N_4 (M (M c0 10) 2) r_9)) (by rw [Fr.e hG_N_10 hk_17 _ rfl]) rfl ?_
    have h_18 := Inv.g hI_N_4 hk_17 rfl r_9 (a := 0) (b := 1000000000) rfl rfl
    refine kx_goto 58 F dX4_wellLength_54 (by decide) ?_
    exact kx_iret F hQ ⟨hI_N_10, hF_N_10, (by omega), hX_N_10⟩ dX4_wellLength_58
  · refine kx_if_eq 44 F 57 dX4_wellLength_41 (by decide) rfl (by omega) (fun h_19 => ?_) (fun h_19 => (by exfalso; omega))
    refine kx_iconst 58 F dX4_wellLength_57 rfl ?_
    exact kx_iret F hQ ⟨hI_N_10, hF_N_10, (by omega), hX_N_10⟩ dX4_wellLength_58
set_option maxRecDepth 100000 in
theorem dGR_14_c_358 : (decode cX11_status 0 = .ok (.aload_n 0, 1)) ∧ (decode cX11_status 1 = .ok (.getfield 72, 3)) ∧ (decode cX11_status 4 = .ok (.ireturn, 1)) := by decide +kernel
theorem dX11_status_0 : decode cX11_status 0 = .ok (.aload_n 0, 1) := dGR_14_c_358.1
theorem dX11_status_1 : decode cX11_status 1 = .ok (.getfield 72, 3) := dGR_14_c_358.2.1
theorem dX11_status_4 : decode cX11_status 4 = .ok (.ireturn, 1) := dGR_14_c_358.2.2
set_option maxHeartbeats 4000000 in
set_option maxRecDepth 100000 in
theorem c_X11_status (G : KG) (l : Launch) (M : Mem) (c0 : Int) (hI_M : Inv false M) (hk_c0 : kd c0 = 62) : KC false G l yX11_status cX11_status 1 (some .int) (0, 0) [vR G c0] M (fun A => kQi false G A (fun (r : Int) (N : Mem) => M = N ∧ (r ≥ -2147483648 ∧ r ≤ 2147483647))) := by
  refine kx_met (lo := [some (vR G c0)]) (by decide) (Nat.le_of_ble_eq_true rfl) rfl ?_
  intro X F hQ
  refine kx_aload_n 1 F 0 dX11_status_0 rfl rfl rfl ?_
  refine kx_geti 4 F fl_X11_72 hk_c0 rfl rfl (j := 0) rfl dX11_status_1 (v := (M c0 0)) rfl rfl ?_
  have h_1 := Inv.g hI_M hk_c0 rfl 0 (a := (-2147483648)) (b := 2147483647) rfl rfl
  exact kx_iret F hQ ⟨rfl, (by omega)⟩ dX11_status_4
set_option maxRecDepth 100000 in
theorem dGR_14_c_359 : (decode cX11_top 0 = .ok (.aload_n 0, 1)) ∧ (decode cX11_top 1 = .ok (.getfield 76, 3)) ∧ (decode cX11_top 4 = .ok (.lreturn, 1)) := by decide +kernel
theorem dX11_top_0 : decode cX11_top 0 = .ok (.aload_n 0, 1) := dGR_14_c_359.1
theorem dX11_top_1 : decode cX11_top 1 = .ok (.getfield 76, 3) := dGR_14_c_359.2.1
theorem dX11_top_4 : decode cX11_top 4 = .ok (.lreturn, 1) := dGR_14_c_359.2.2
set_option maxHeartbeats 4000000 in
set_option maxRecDepth 100000 in
theorem c_X11_top (G : KG) (l : Launch) (M : Mem) (c0 : Int) (hI_M : Inv false M) (hk_c0 : kd c0 = 62) : KC false G l yX11_top cX11_top 1 (some .long) (0, 0) [vR G c0] M (fun A => kQl false G A (fun (r : Int) (N : Mem) => M = N ∧ (r ≥ -9223372036854775808 ∧ r ≤ 9223372036854775807))) := by
  refine kx_met (lo := [some (vR G c0)]) (by decide) (Nat.le_of_ble_eq_true rfl) rfl ?_
  intro X F hQ
  refine kx_aload_n 1 F 0 dX11_top_0 rfl rfl rfl ?_
  refine kx_getl 4 F fl_X11_76 hk_c0 rfl rfl (j := 1) rfl dX11_top_1 (v := (M c0 1)) rfl rfl ?_
  have h_1 := Inv.g hI_M hk_c0 rfl 1 (a := (-9223372036854775808)) (b := 9223372036854775807) rfl rfl
  exact kx_lret F hQ ⟨rfl, (by omega)⟩ dX11_top_4
set_option maxRecDepth 100000 in
theorem dGR_14_c_360 : (decode cX11_bottom 0 = .ok (.aload_n 0, 1)) ∧ (decode cX11_bottom 1 = .ok (.getfield 80, 3)) ∧ (decode cX11_bottom 4 = .ok (.lreturn, 1)) := by decide +kernel
theorem dX11_bottom_0 : decode cX11_bottom 0 = .ok (.aload_n 0, 1) := dGR_14_c_360.1
theorem dX11_bottom_1 : decode cX11_bottom 1 = .ok (.getfield 80, 3) := dGR_14_c_360.2.1
theorem dX11_bottom_4 : decode cX11_bottom 4 = .ok (.lreturn, 1) := dGR_14_c_360.2.2
set_option maxHeartbeats 4000000 in
set_option maxRecDepth 100000 in
theorem c_X11_bottom (G : KG) (l : Launch) (M : Mem) (c0 : Int) (hI_M : Inv false M) (hk_c0 : kd c0 = 62) : KC false G l yX11_bottom cX11_bottom 1 (some .long) (0, 0) [vR G c0] M (fun A => kQl false G A (fun (r : Int) (N : Mem) => M = N ∧ (r ≥ -9223372036854775808 ∧ r ≤ 9223372036854775807))) := by
  refine kx_met (lo := [some (vR G c0)]) (by decide) (Nat.le_of_ble_eq_true rfl) rfl ?_
  intro X F hQ
  refine kx_aload_n 1 F 0 dX11_bottom_0 rfl rfl rfl ?_
  refine kx_getl 4 F fl_X11_80 hk_c0 rfl rfl (j := 2) rfl dX11_bottom_1 (v := (M c0 2)) rfl rfl ?_
  have h_1 := Inv.g hI_M hk_c0 rfl 2 (a := (-9223372036854775808)) (b := 9223372036854775807) rfl rfl
  exact kx_lret F hQ ⟨rfl, (by omega)⟩ dX11_bottom_4
set_option maxRecDepth 100000 in
theorem dGR_14_c_361 : (decode cX11_answer 0 = .ok (.aload_n 0, 1)) ∧ (decode cX11_answer 1 = .ok (.iconst 0, 1)) ∧ (decode cX11_answer 2 = .ok (.putfield 72, 3)) ∧ (decode cX11_answer 5 = .ok (.iload_n 1, 1)) ∧ (decode cX11_answer 6 = .ok (.ireturn, 1)) := by decide +kernel
theorem dX11_answer_0 : decode cX11_answer 0 = .ok (.aload_n 0, 1) := dGR_14_c_361.1
theorem dX11_answer_1 : decode cX11_answer 1 = .ok (.iconst 0, 1) := dGR_14_c_361.2.1
theorem dX11_answer_2 : decode cX11_answer 2 = .ok (.putfield 72, 3) := dGR_14_c_361.2.2.1
theorem dX11_answer_5 : decode cX11_answer 5 = .ok (.iload_n 1, 1) := dGR_14_c_361.2.2.2.1
theorem dX11_answer_6 : decode cX11_answer 6 = .ok (.ireturn, 1) := dGR_14_c_361.2.2.2.2
abbrev f_c_X11_answer : List (Nat × Int) := [(62, 0)]
set_option maxHeartbeats 4000000 in
set_option maxRecDepth 100000 in
theorem c_X11_answer (G : KG) (l : Launch) (M : Mem) (c0 : Int) (a1 : Int) (hI_M : Inv false M) (hk_c0 : kd c0 = 62) (hpre : -2147483648 ≤ a1 ∧ a1 ≤ 2147483647) : KC false G l yX11_answer cX11_answer 2 (some .int) (0, 0) [vR G c0, vI a1] M (fun A => kQi false G A (fun (r : Int) (N : Mem) => Inv false N ∧ Fr f_c_X11_answer M N ∧ (r = a1))) := by
  refine kx_met (lo := [some (vR G c0), some (vI a1)]) (by decide) (Nat.le_of_ble_eq_true rfl) rfl ?_
  intro X F hQ
  have hF_M : Fr f_c_X11_answer M M := Fr.rf _ _
  refine kx_aload_n 1 F 0 dX11_answer_0 rfl rfl rfl ?_
  refine kx_iconst 2 F dX11_answer_1 rfl ?_
  refine kx_puti 5 F fw_X11_72 rfl hk_c0 rfl rfl (j := 0) rfl dX11_answer_2 rfl ?_
  intro N_1 hM_N_1
  have hI_N_1 : Inv false N_1 := Inv.u hI_M hM_N_1 hk_c0 (a := (-2147483648)) (b := 2147483647) rfl rfl rfl (by omega)
  have hF_N_1 : Fr f_c_X11_answer M N_1 := Fr.u hF_M hM_N_1 hk_c0 rfl
  refine kx_iload_n 6 F 1 dX11_answer_5 rfl rfl rfl ?_
  exact kx_iret F hQ ⟨hI_N_1, hF_N_1, (by omega)⟩ dX11_answer_6
set_option maxRecDepth 100000 in
theorem dGR_14_c_362 : (decode cX11_refuse 0 = .ok (.aload_n 0, 1)) ∧ (decode cX11_refuse 1 = .ok (.iload_n 1, 1)) ∧ (decode cX11_refuse 2 = .ok (.putfield 72, 3)) ∧ (decode cX11_refuse 5 = .ok (.iconst (-1), 1)) ∧ (decode cX11_refuse 6 = .ok (.ireturn, 1)) := by decide +kernel
theorem dX11_refuse_0 : decode cX11_refuse 0 = .ok (.aload_n 0, 1) := dGR_14_c_362.1
theorem dX11_refuse_1 : decode cX11_refuse 1 = .ok (.iload_n 1, 1) := dGR_14_c_362.2.1
theorem dX11_refuse_2 : decode cX11_refuse 2 = .ok (.putfield 72, 3) := dGR_14_c_362.2.2.1
theorem dX11_refuse_5 : decode cX11_refuse 5 = .ok (.iconst (-1), 1) := dGR_14_c_362.2.2.2.1
theorem dX11_refuse_6 : decode cX11_refuse 6 = .ok (.ireturn, 1) := dGR_14_c_362.2.2.2.2
abbrev f_c_X11_refuse : List (Nat × Int) := [(62, 0)]
set_option maxHeartbeats 4000000 in
set_option maxRecDepth 100000 in
theorem c_X11_refuse (G : KG) (l : Launch) (M : Mem) (c0 : Int) (a1 : Int) (hI_M : Inv false M) (hk_c0 : kd c0 = 62) (hpre : -2147483648 ≤ a1 ∧ a1 ≤ 2147483647) : KC false G l yX11_refuse cX11_refuse 2 (some .int) (0, 0) [vR G c0, vI a1] M (fun A => kQi false G A (fun (r : Int) (N : Mem) => Inv false N ∧ Fr f_c_X11_refuse M N ∧ (r = -1))) := by
  refine kx_met (lo := [some (vR G c0), some (vI a1)]) (by decide) (Nat.le_of_ble_eq_true rfl) rfl ?_
  intro X F hQ
  have hF_M : Fr f_c_X11_refuse M M := Fr.rf _ _
  refine kx_aload_n 1 F 0 dX11_refuse_0 rfl rfl rfl ?_
  refine kx_iload_n 2 F 1 dX11_refuse_1 rfl rfl rfl ?_
  refine kx_puti 5 F fw_X11_72 rfl hk_c0 rfl rfl (j := 0) rfl dX11_refuse_2 rfl ?_
  intro N_1 hM_N_1
  have hI_N_1 : Inv false N_1 := Inv.u hI_M hM_N_1 hk_c0 (a := (-2147483648)) (b := 2147483647) rfl rfl rfl (by omega)
  have hF_N_1 : Fr f_c_X11_refuse M N_1 := Fr.u hF_M hM_N_1 hk_c0 rfl
  refine kx_iconst 6 F dX11_refuse_5 rfl ?_
  exact kx_iret F hQ ⟨hI_N_1, hF_N_1, (by omega)⟩ dX11_refuse_6
set_option maxRecDepth 100000 in
theorem dGR_14_c_363 : (decode cX11_agree 0 = .ok (.aload_n 0, 1)) ∧ (decode cX11_agree 1 = .ok (.iconst 0, 1)) ∧ (decode cX11_agree 2 = .ok (.putfield 72, 3)) ∧ (decode cX11_agree 5 = .ok (.iconst 1, 1)) ∧ (decode cX11_agree 6 = .ok (.ireturn, 1)) := by decide +kernel
theorem dX11_agree_0 : decode cX11_agree 0 = .ok (.aload_n 0, 1) := dGR_14_c_363.1
theorem dX11_agree_1 : decode cX11_agree 1 = .ok (.iconst 0, 1) := dGR_14_c_363.2.1
theorem dX11_agree_2 : decode cX11_agree 2 = .ok (.putfield 72, 3) := dGR_14_c_363.2.2.1
theorem dX11_agree_5 : decode cX11_agree 5 = .ok (.iconst 1, 1) := dGR_14_c_363.2.2.2.1
theorem dX11_agree_6 : decode cX11_agree 6 = .ok (.ireturn, 1) := dGR_14_c_363.2.2.2.2
abbrev f_c_X11_agree : List (Nat × Int) := [(62, 0)]
set_option maxHeartbeats 4000000 in
set_option maxRecDepth 100000 in
theorem c_X11_agree (G : KG) (l : Launch) (M : Mem) (c0 : Int) (hI_M : Inv false M) (hk_c0 : kd c0 = 62) : KC false G l yX11_agree cX11_agree 1 (some .boolean) (0, 0) [vR G c0] M (fun A => kQi false G A (fun (r : Int) (N : Mem) => Inv false N ∧ Fr f_c_X11_agree M N ∧ (r = 1))) := by
  refine kx_met (lo := [some (vR G c0)]) (by decide) (Nat.le_of_ble_eq_true rfl) rfl ?_
  intro X F hQ
  have hF_M : Fr f_c_X11_agree M M := Fr.rf _ _
  refine kx_aload_n 1 F 0 dX11_agree_0 rfl rfl rfl ?_
  refine kx_iconst 2 F dX11_agree_1 rfl ?_
  refine kx_puti 5 F fw_X11_72 rfl hk_c0 rfl rfl (j := 0) rfl dX11_agree_2 rfl ?_
  intro N_1 hM_N_1
  have hI_N_1 : Inv false N_1 := Inv.u hI_M hM_N_1 hk_c0 (a := (-2147483648)) (b := 2147483647) rfl rfl rfl (by omega)
  have hF_N_1 : Fr f_c_X11_agree M N_1 := Fr.u hF_M hM_N_1 hk_c0 rfl
  refine kx_iconst 6 F dX11_agree_5 rfl ?_
  exact kx_zret F hQ (by omega) ⟨hI_N_1, hF_N_1, (by omega)⟩ dX11_agree_6
set_option maxRecDepth 100000 in
theorem dGR_14_c_364 : (decode cX11_deny 0 = .ok (.aload_n 0, 1)) ∧ (decode cX11_deny 1 = .ok (.iload_n 1, 1)) ∧ (decode cX11_deny 2 = .ok (.putfield 72, 3)) ∧ (decode cX11_deny 5 = .ok (.iconst 0, 1)) ∧ (decode cX11_deny 6 = .ok (.ireturn, 1)) := by decide +kernel
theorem dX11_deny_0 : decode cX11_deny 0 = .ok (.aload_n 0, 1) := dGR_14_c_364.1
theorem dX11_deny_1 : decode cX11_deny 1 = .ok (.iload_n 1, 1) := dGR_14_c_364.2.1
theorem dX11_deny_2 : decode cX11_deny 2 = .ok (.putfield 72, 3) := dGR_14_c_364.2.2.1
theorem dX11_deny_5 : decode cX11_deny 5 = .ok (.iconst 0, 1) := dGR_14_c_364.2.2.2.1
theorem dX11_deny_6 : decode cX11_deny 6 = .ok (.ireturn, 1) := dGR_14_c_364.2.2.2.2
abbrev f_c_X11_deny : List (Nat × Int) := [(62, 0)]
set_option maxHeartbeats 4000000 in
set_option maxRecDepth 100000 in
theorem c_X11_deny (G : KG) (l : Launch) (M : Mem) (c0 : Int) (a1 : Int) (hI_M : Inv false M) (hk_c0 : kd c0 = 62) (hpre : -2147483648 ≤ a1 ∧ a1 ≤ 2147483647) : KC false G l yX11_deny cX11_deny 2 (some .boolean) (0, 0) [vR G c0, vI a1] M (fun A => kQi false G A (fun (r : Int) (N : Mem) => Inv false N ∧ Fr f_c_X11_deny M N ∧ (r = 0))) := by
  refine kx_met (lo := [some (vR G c0), some (vI a1)]) (by decide) (Nat.le_of_ble_eq_true rfl) rfl ?_
  intro X F hQ
  have hF_M : Fr f_c_X11_deny M M := Fr.rf _ _
  refine kx_aload_n 1 F 0 dX11_deny_0 rfl rfl rfl ?_
  refine kx_iload_n 2 F 1 dX11_deny_1 rfl rfl rfl ?_
  refine kx_puti 5 F fw_X11_72 rfl hk_c0 rfl rfl (j := 0) rfl dX11_deny_2 rfl ?_
  intro N_1 hM_N_1
  have hI_N_1 : Inv false N_1 := Inv.u hI_M hM_N_1 hk_c0 (a := (-2147483648)) (b := 2147483647) rfl rfl rfl (by omega)
  have hF_N_1 : Fr f_c_X11_deny M N_1 := Fr.u hF_M hM_N_1 hk_c0 rfl
  refine kx_iconst 6 F dX11_deny_5 rfl ?_
  exact kx_zret F hQ (by omega) ⟨hI_N_1, hF_N_1, (by omega)⟩ dX11_deny_6
set_option maxRecDepth 100000 in
theorem dGR_14_c_365 : (decode cX11_areTwo 0 = .ok (.aload_n 0, 1)) ∧ (decode cX11_areTwo 1 = .ok (.getfield 26, 3)) ∧ (decode cX11_areTwo 4 = .ok (.iload_n 1, 1)) ∧ (decode cX11_areTwo 5 = .ok (.invokevirtual 163, 3)) ∧ (decode cX11_areTwo 8 = .ok (.ifCond .eq 23, 3)) ∧ (decode cX11_areTwo 11 = .ok (.aload_n 0, 1)) ∧ (decode cX11_areTwo 12 = .ok (.getfield 26, 3)) ∧ (decode cX11_areTwo 15 = .ok (.iload_n 2, 1)) ∧ (decode cX11_areTwo 16 = .ok (.invokevirtual 163, 3)) ∧ (decode cX11_areTwo 19 = .ok (.ifCond .eq 12, 3)) ∧ (decode cX11_areTwo 22 = .ok (.iload_n 1, 1)) ∧ (decode cX11_areTwo 23 = .ok (.iload_n 2, 1)) := by decide +kernel
theorem dX11_areTwo_0 : decode cX11_areTwo 0 = .ok (.aload_n 0, 1) := dGR_14_c_365.1
theorem dX11_areTwo_1 : decode cX11_areTwo 1 = .ok (.getfield 26, 3) := dGR_14_c_365.2.1
theorem dX11_areTwo_4 : decode cX11_areTwo 4 = .ok (.iload_n 1, 1) := dGR_14_c_365.2.2.1
theorem dX11_areTwo_5 : decode cX11_areTwo 5 = .ok (.invokevirtual 163, 3) := dGR_14_c_365.2.2.2.1
theorem dX11_areTwo_8 : decode cX11_areTwo 8 = .ok (.ifCond .eq 23, 3) := dGR_14_c_365.2.2.2.2.1
theorem dX11_areTwo_11 : decode cX11_areTwo 11 = .ok (.aload_n 0, 1) := dGR_14_c_365.2.2.2.2.2.1
theorem dX11_areTwo_12 : decode cX11_areTwo 12 = .ok (.getfield 26, 3) := dGR_14_c_365.2.2.2.2.2.2.1
theorem dX11_areTwo_15 : decode cX11_areTwo 15 = .ok (.iload_n 2, 1) := dGR_14_c_365.2.2.2.2.2.2.2.1
theorem dX11_areTwo_16 : decode cX11_areTwo 16 = .ok (.invokevirtual 163, 3) := dGR_14_c_365.2.2.2.2.2.2.2.2.1
theorem dX11_areTwo_19 : decode cX11_areTwo 19 = .ok (.ifCond .eq 12, 3) := dGR_14_c_365.2.2.2.2.2.2.2.2.2.1
theorem dX11_areTwo_22 : decode cX11_areTwo 22 = .ok (.iload_n 1, 1) := dGR_14_c_365.2.2.2.2.2.2.2.2.2.2.1
theorem dX11_areTwo_23 : decode cX11_areTwo 23 = .ok (.iload_n 2, 1) := dGR_14_c_365.2.2.2.2.2.2.2.2.2.2.2
set_option maxRecDepth 100000 in
theorem dGR_14_c_366 : (decode cX11_areTwo 24 = .ok (.if_icmp .eq 7, 3)) ∧ (decode cX11_areTwo 27 = .ok (.iconst 1, 1)) ∧ (decode cX11_areTwo 28 = .ok (.goto 4, 3)) ∧ (decode cX11_areTwo 31 = .ok (.iconst 0, 1)) ∧ (decode cX11_areTwo 32 = .ok (.ireturn, 1)) := by decide +kernel
theorem dX11_areTwo_24 : decode cX11_areTwo 24 = .ok (.if_icmp .eq 7, 3) := dGR_14_c_366.1
theorem dX11_areTwo_27 : decode cX11_areTwo 27 = .ok (.iconst 1, 1) := dGR_14_c_366.2.1
theorem dX11_areTwo_28 : decode cX11_areTwo 28 = .ok (.goto 4, 3) := dGR_14_c_366.2.2.1
theorem dX11_areTwo_31 : decode cX11_areTwo 31 = .ok (.iconst 0, 1) := dGR_14_c_366.2.2.2.1
theorem dX11_areTwo_32 : decode cX11_areTwo 32 = .ok (.ireturn, 1) := dGR_14_c_366.2.2.2.2
set_option maxHeartbeats 4000000 in
set_option maxRecDepth 100000 in
theorem c_X11_areTwo (G : KG) (l : Launch) (M : Mem) (c0 : Int) (a1 : Int) (a2 : Int) (hI_M : Inv false M) (hk_c0 : kd c0 = 62) (hpre : -2147483648 ≤ a1 ∧ a1 ≤ 2147483647 ∧ -2147483648 ≤ a2 ∧ a2 ≤ 2147483647) : KC false G l yX11_areTwo cX11_areTwo 3 (some .boolean) (1, 21) [vR G c0, vI a1, vI a2] M (fun A => kQi false G A (fun (r : Int) (N : Mem) => M = N ∧ ((r = 1 ∧ 0 ≤ a1 ∧ a1 ≤ 1 ∧ 0 ≤ a2 ∧ a2 ≤ 1) ∨ (r = 0)))) := by
  refine kx_met (lo := [some (vR G c0), some (vI a1), some (vI a2)]) (by decide) (Nat.le_of_ble_eq_true rfl) rfl ?_
  intro X F hQ
  refine kx_aload_n 1 F 0 dX11_areTwo_0 rfl rfl rfl ?_
  refine kx_getr 4 F fl_X11_26 hk_c0 rfl rfl (j := 5) rfl dX11_areTwo_1 (v := (M c0 5)) rfl rfl ?_
  have hk_1 : kd (M c0 5) = 12 := Inv.r hI_M hk_c0 rfl 5 rfl rfl
  refine kx_iload_n 5 F 1 dX11_areTwo_4 rfl rfl rfl ?_
  refine kx_Vi 8 (ci := 0) F (As := [vI a1]) (st := []) vd_X11_163 (c_X5_has G l M (M c0 5) a1 hI_M hk_1 (by omega)) hk_1 rfl rfl rfl ⟨by decide, by decide⟩ rfl rfl (Nat.le_of_ble_eq_true rfl) dX11_areTwo_5 rfl ?_
  intro r_2 N_3 q_4
  obtain ⟨rfl, q_4c⟩ := q_4
  have h_5 := Inv.g hI_M hk_1 rfl 3 (a := 0) (b := 2) rfl rfl
  rcases q_4c with q_4c | q_4c
  · refine kx_if_eq 11 F 31 dX11_areTwo_8 (by decide) rfl (by omega) (fun h_6 => (by exfalso; omega)) (fun h_6 => ?_)
    refine kx_aload_n 12 F 0 dX11_areTwo_11 rfl rfl rfl ?_
    refine kx_getr 15 F fl_X11_26 hk_c0 rfl rfl (j := 5) rfl dX11_areTwo_12 (v := (M c0 5)) rfl rfl ?_
    refine kx_iload_n 16 F 2 dX11_areTwo_15 rfl rfl rfl ?_
    refine kx_Vi 19 (ci := 0) F (As := [vI a2]) (st := []) vd_X11_163 (c_X5_has G l M (M c0 5) a2 hI_M hk_1 (by omega)) hk_1 rfl rfl rfl ⟨by decide, by decide⟩ rfl rfl (Nat.le_of_ble_eq_true rfl) dX11_areTwo_16 rfl ?_
    intro r_7 N_8 q_9
    obtain ⟨rfl, q_9c⟩ := q_9
    rcases q_9c with q_9c | q_9c
    · refine kx_if_eq 22 F 31 dX11_areTwo_19 (by decide) rfl (by omega) (fun h_10 => (by exfalso; omega)) (fun h_10 => ?_)
      refine kx_iload_n 23 F 1 dX11_areTwo_22 rfl rfl rfl ?_
      refine kx_iload_n 24 F 2 dX11_areTwo_23 rfl rfl rfl ?_
      refine kx_icmp_eq 27 F 31 dX11_areTwo_24 (by decide) rfl (by omega) (by omega) (fun h_11 => ?_) (fun h_11 => ?_)
      · refine kx_iconst 32 F dX11_areTwo_31 rfl ?_
        exact kx_zret F hQ (by omega) ⟨rfl, (by omega)⟩ dX11_areTwo_32
      · refine kx_iconst 28 F dX11_areTwo_27 rfl ?_
        refine kx_goto 32 F dX11_areTwo_28 (by decide) ?_
        exact kx_zret F hQ (by omega) ⟨rfl, (by omega)⟩ dX11_areTwo_32
    · refine kx_if_eq 22 F 31 dX11_areTwo_19 (by decide) rfl (by omega) (fun h_12 => ?_) (fun h_12 => (by exfalso; omega))
      refine kx_iconst 32 F dX11_areTwo_31 rfl ?_
      exact kx_zret F hQ (by omega) ⟨rfl, (by omega)⟩ dX11_areTwo_32
  · refine kx_if_eq 11 F 31 dX11_areTwo_8 (by decide) rfl (by omega) (fun h_13 => ?_) (fun h_13 => (by exfalso; omega))
    refine kx_iconst 32 F dX11_areTwo_31 rfl ?_
    exact kx_zret F hQ (by omega) ⟨rfl, (by omega)⟩ dX11_areTwo_32
set_option maxRecDepth 100000 in
theorem dGR_14_c_367 : (decode cX11_hasState 0 = .ok (.aload_n 0, 1)) ∧ (decode cX11_hasState 1 = .ok (.getfield 26, 3)) ∧ (decode cX11_hasState 4 = .ok (.iload_n 1, 1)) ∧ (decode cX11_hasState 5 = .ok (.invokevirtual 163, 3)) ∧ (decode cX11_hasState 8 = .ok (.ifCond .eq 22, 3)) ∧ (decode cX11_hasState 11 = .ok (.aload_n 0, 1)) ∧ (decode cX11_hasState 12 = .ok (.getfield 26, 3)) ∧ (decode cX11_hasState 15 = .ok (.iload_n 1, 1)) ∧ (decode cX11_hasState 16 = .ok (.invokevirtual 164, 3)) ∧ (decode cX11_hasState 19 = .ok (.iload_n 2, 1)) ∧ (decode cX11_hasState 20 = .ok (.invokevirtual 391, 3)) ∧ (decode cX11_hasState 23 = .ok (.ifCond .eq 7, 3)) := by decide +kernel
theorem dX11_hasState_0 : decode cX11_hasState 0 = .ok (.aload_n 0, 1) := dGR_14_c_367.1
theorem dX11_hasState_1 : decode cX11_hasState 1 = .ok (.getfield 26, 3) := dGR_14_c_367.2.1
theorem dX11_hasState_4 : decode cX11_hasState 4 = .ok (.iload_n 1, 1) := dGR_14_c_367.2.2.1
theorem dX11_hasState_5 : decode cX11_hasState 5 = .ok (.invokevirtual 163, 3) := dGR_14_c_367.2.2.2.1
theorem dX11_hasState_8 : decode cX11_hasState 8 = .ok (.ifCond .eq 22, 3) := dGR_14_c_367.2.2.2.2.1
theorem dX11_hasState_11 : decode cX11_hasState 11 = .ok (.aload_n 0, 1) := dGR_14_c_367.2.2.2.2.2.1
theorem dX11_hasState_12 : decode cX11_hasState 12 = .ok (.getfield 26, 3) := dGR_14_c_367.2.2.2.2.2.2.1
theorem dX11_hasState_15 : decode cX11_hasState 15 = .ok (.iload_n 1, 1) := dGR_14_c_367.2.2.2.2.2.2.2.1
theorem dX11_hasState_16 : decode cX11_hasState 16 = .ok (.invokevirtual 164, 3) := dGR_14_c_367.2.2.2.2.2.2.2.2.1
theorem dX11_hasState_19 : decode cX11_hasState 19 = .ok (.iload_n 2, 1) := dGR_14_c_367.2.2.2.2.2.2.2.2.2.1
theorem dX11_hasState_20 : decode cX11_hasState 20 = .ok (.invokevirtual 391, 3) := dGR_14_c_367.2.2.2.2.2.2.2.2.2.2.1
theorem dX11_hasState_23 : decode cX11_hasState 23 = .ok (.ifCond .eq 7, 3) := dGR_14_c_367.2.2.2.2.2.2.2.2.2.2.2
set_option maxRecDepth 100000 in
theorem dGR_14_c_368 : (decode cX11_hasState 26 = .ok (.iconst 1, 1)) ∧ (decode cX11_hasState 27 = .ok (.goto 4, 3)) ∧ (decode cX11_hasState 30 = .ok (.iconst 0, 1)) ∧ (decode cX11_hasState 31 = .ok (.ireturn, 1)) := by decide +kernel
theorem dX11_hasState_26 : decode cX11_hasState 26 = .ok (.iconst 1, 1) := dGR_14_c_368.1
theorem dX11_hasState_27 : decode cX11_hasState 27 = .ok (.goto 4, 3) := dGR_14_c_368.2.1
theorem dX11_hasState_30 : decode cX11_hasState 30 = .ok (.iconst 0, 1) := dGR_14_c_368.2.2.1
theorem dX11_hasState_31 : decode cX11_hasState 31 = .ok (.ireturn, 1) := dGR_14_c_368.2.2.2
set_option maxHeartbeats 4000000 in
set_option maxRecDepth 100000 in
theorem c_X11_hasState (G : KG) (l : Launch) (M : Mem) (c0 : Int) (a1 : Int) (a2 : Int) (hI_M : Inv false M) (hk_c0 : kd c0 = 62) (hpre : -2147483648 ≤ a1 ∧ a1 ≤ 2147483647 ∧ -2147483648 ≤ a2 ∧ a2 ≤ 2147483647) : KC false G l yX11_hasState cX11_hasState 3 (some .boolean) (1, 21) [vR G c0, vI a1, vI a2] M (fun A => kQi false G A (fun (r : Int) (N : Mem) => M = N ∧ ((r = 1 ∧ 0 ≤ a1 ∧ a1 ≤ 1 ∧ 0 ≤ a2 ∧ a2 ≤ 2) ∨ (r = 0)))) := by
  refine kx_met (lo := [some (vR G c0), some (vI a1), some (vI a2)]) (by decide) (Nat.le_of_ble_eq_true rfl) rfl ?_
  intro X F hQ
  refine kx_aload_n 1 F 0 dX11_hasState_0 rfl rfl rfl ?_
  refine kx_getr 4 F fl_X11_26 hk_c0 rfl rfl (j := 5) rfl dX11_hasState_1 (v := (M c0 5)) rfl rfl ?_
  have hk_1 : kd (M c0 5) = 12 := Inv.r hI_M hk_c0 rfl 5 rfl rfl
  refine kx_iload_n 5 F 1 dX11_hasState_4 rfl rfl rfl ?_
  refine kx_Vi 8 (ci := 0) F (As := [vI a1]) (st := []) vd_X11_163 (c_X5_has G l M (M c0 5) a1 hI_M hk_1 (by omega)) hk_1 rfl rfl rfl ⟨by decide, by decide⟩ rfl rfl (Nat.le_of_ble_eq_true rfl) dX11_hasState_5 rfl ?_
  intro r_2 N_3 q_4
  obtain ⟨rfl, q_4c⟩ := q_4
  have h_5 := Inv.g hI_M hk_1 rfl 3 (a := 0) (b := 2) rfl rfl
  rcases q_4c with q_4c | q_4c
  · refine kx_if_eq 11 F 30 dX11_hasState_8 (by decide) rfl (by omega) (fun h_6 => (by exfalso; omega)) (fun h_6 => ?_)
    refine kx_aload_n 12 F 0 dX11_hasState_11 rfl rfl rfl ?_
    refine kx_getr 15 F fl_X11_26 hk_c0 rfl rfl (j := 5) rfl dX11_hasState_12 (v := (M c0 5)) rfl rfl ?_
    refine kx_iload_n 16 F 1 dX11_hasState_15 rfl rfl rfl ?_
    refine kx_Vr 19 (ci := 0) F (As := [vI a1]) (st := []) vd_X11_164 (c_X5_pick G l M (M c0 5) a1 hI_M hk_1 (by omega)) hk_1 rfl rfl rfl ⟨by decide, by decide⟩ rfl rfl (Nat.le_of_ble_eq_true rfl) dX11_hasState_16 rfl ?_
    intro r_7 N_8 q_9
    obtain ⟨rfl, hk_10⟩ := q_9
    refine kx_iload_n 20 F 2 dX11_hasState_19 rfl rfl rfl ?_
    refine kx_Vi 23 (ci := 0) F (As := [vI a2]) (st := []) vd_X11_391 (c_X0_hasState G l M r_7 a2 hI_M hk_10 (by omega)) hk_10 rfl rfl rfl ⟨by decide, by decide⟩ rfl rfl (Nat.le_of_ble_eq_true rfl) dX11_hasState_20 rfl ?_
    intro r_11 N_12 q_13
    obtain ⟨rfl, q_13c⟩ := q_13
    have h_14 := Inv.g hI_M hk_10 rfl 0 (a := 0) (b := 3) rfl rfl
    rcases q_13c with q_13c | q_13c
    · refine kx_if_eq 26 F 30 dX11_hasState_23 (by decide) rfl (by omega) (fun h_15 => (by exfalso; omega)) (fun h_15 => ?_)
      refine kx_iconst 27 F dX11_hasState_26 rfl ?_
      refine kx_goto 31 F dX11_hasState_27 (by decide) ?_
      exact kx_zret F hQ (by omega) ⟨rfl, (by omega)⟩ dX11_hasState_31
    · refine kx_if_eq 26 F 30 dX11_hasState_23 (by decide) rfl (by omega) (fun h_16 => ?_) (fun h_16 => (by exfalso; omega))
      refine kx_iconst 31 F dX11_hasState_30 rfl ?_
      exact kx_zret F hQ (by omega) ⟨rfl, (by omega)⟩ dX11_hasState_31
  · refine kx_if_eq 11 F 30 dX11_hasState_8 (by decide) rfl (by omega) (fun h_17 => ?_) (fun h_17 => (by exfalso; omega))
    refine kx_iconst 31 F dX11_hasState_30 rfl ?_
    exact kx_zret F hQ (by omega) ⟨rfl, (by omega)⟩ dX11_hasState_31
set_option maxRecDepth 100000 in
theorem dGR_14_c_369 : (decode cX11_forget 0 = .ok (.aload_n 0, 1)) ∧ (decode cX11_forget 1 = .ok (.getfield 37, 3)) ∧ (decode cX11_forget 4 = .ok (.iconst 0, 1)) ∧ (decode cX11_forget 5 = .ok (.putfield 393, 3)) ∧ (decode cX11_forget 8 = .ok (.aload_n 0, 1)) ∧ (decode cX11_forget 9 = .ok (.getfield 41, 3)) ∧ (decode cX11_forget 12 = .ok (.iconst 0, 1)) ∧ (decode cX11_forget 13 = .ok (.putfield 393, 3)) ∧ (decode cX11_forget 16 = .ok (.aload_n 0, 1)) ∧ (decode cX11_forget 17 = .ok (.getfield 47, 3)) ∧ (decode cX11_forget 20 = .ok (.invokevirtual 397, 3)) ∧ (decode cX11_forget 23 = .ok (.return_, 1)) := by decide +kernel
theorem dX11_forget_0 : decode cX11_forget 0 = .ok (.aload_n 0, 1) := dGR_14_c_369.1
theorem dX11_forget_1 : decode cX11_forget 1 = .ok (.getfield 37, 3) := dGR_14_c_369.2.1
theorem dX11_forget_4 : decode cX11_forget 4 = .ok (.iconst 0, 1) := dGR_14_c_369.2.2.1
theorem dX11_forget_5 : decode cX11_forget 5 = .ok (.putfield 393, 3) := dGR_14_c_369.2.2.2.1
theorem dX11_forget_8 : decode cX11_forget 8 = .ok (.aload_n 0, 1) := dGR_14_c_369.2.2.2.2.1
theorem dX11_forget_9 : decode cX11_forget 9 = .ok (.getfield 41, 3) := dGR_14_c_369.2.2.2.2.2.1
theorem dX11_forget_12 : decode cX11_forget 12 = .ok (.iconst 0, 1) := dGR_14_c_369.2.2.2.2.2.2.1
theorem dX11_forget_13 : decode cX11_forget 13 = .ok (.putfield 393, 3) := dGR_14_c_369.2.2.2.2.2.2.2.1
theorem dX11_forget_16 : decode cX11_forget 16 = .ok (.aload_n 0, 1) := dGR_14_c_369.2.2.2.2.2.2.2.2.1
theorem dX11_forget_17 : decode cX11_forget 17 = .ok (.getfield 47, 3) := dGR_14_c_369.2.2.2.2.2.2.2.2.2.1
theorem dX11_forget_20 : decode cX11_forget 20 = .ok (.invokevirtual 397, 3) := dGR_14_c_369.2.2.2.2.2.2.2.2.2.2.1
theorem dX11_forget_23 : decode cX11_forget 23 = .ok (.return_, 1) := dGR_14_c_369.2.2.2.2.2.2.2.2.2.2.2
set_option maxRecDepth 100000 in
theorem dGR_14_c_370 : (decode cX11_wordRefusal 0 = .ok (.iload_n 1, 1)) ∧ (decode cX11_wordRefusal 1 = .ok (.ifCond .eq 24, 3)) ∧ (decode cX11_wordRefusal 4 = .ok (.aload_n 0, 1)) ∧ (decode cX11_wordRefusal 5 = .ok (.getfield 10, 3)) ∧ (decode cX11_wordRefusal 8 = .ok (.iload_n 2, 1)) ∧ (decode cX11_wordRefusal 9 = .ok (.invokevirtual 83, 3)) ∧ (decode cX11_wordRefusal 12 = .ok (.ifCond .eq 13, 3)) ∧ (decode cX11_wordRefusal 15 = .ok (.iload_n 3, 1)) ∧ (decode cX11_wordRefusal 16 = .ok (.iconst 0, 1)) ∧ (decode cX11_wordRefusal 17 = .ok (.bipush 20, 2)) ∧ (decode cX11_wordRefusal 19 = .ok (.invokestatic 87, 3)) ∧ (decode cX11_wordRefusal 22 = .ok (.ifCond .ne 5, 3)) := by decide +kernel
theorem dX11_wordRefusal_0 : decode cX11_wordRefusal 0 = .ok (.iload_n 1, 1) := dGR_14_c_370.1
theorem dX11_wordRefusal_1 : decode cX11_wordRefusal 1 = .ok (.ifCond .eq 24, 3) := dGR_14_c_370.2.1
theorem dX11_wordRefusal_4 : decode cX11_wordRefusal 4 = .ok (.aload_n 0, 1) := dGR_14_c_370.2.2.1
theorem dX11_wordRefusal_5 : decode cX11_wordRefusal 5 = .ok (.getfield 10, 3) := dGR_14_c_370.2.2.2.1
theorem dX11_wordRefusal_8 : decode cX11_wordRefusal 8 = .ok (.iload_n 2, 1) := dGR_14_c_370.2.2.2.2.1
theorem dX11_wordRefusal_9 : decode cX11_wordRefusal 9 = .ok (.invokevirtual 83, 3) := dGR_14_c_370.2.2.2.2.2.1
theorem dX11_wordRefusal_12 : decode cX11_wordRefusal 12 = .ok (.ifCond .eq 13, 3) := dGR_14_c_370.2.2.2.2.2.2.1
theorem dX11_wordRefusal_15 : decode cX11_wordRefusal 15 = .ok (.iload_n 3, 1) := dGR_14_c_370.2.2.2.2.2.2.2.1
theorem dX11_wordRefusal_16 : decode cX11_wordRefusal 16 = .ok (.iconst 0, 1) := dGR_14_c_370.2.2.2.2.2.2.2.2.1
theorem dX11_wordRefusal_17 : decode cX11_wordRefusal 17 = .ok (.bipush 20, 2) := dGR_14_c_370.2.2.2.2.2.2.2.2.2.1
theorem dX11_wordRefusal_19 : decode cX11_wordRefusal 19 = .ok (.invokestatic 87, 3) := dGR_14_c_370.2.2.2.2.2.2.2.2.2.2.1
theorem dX11_wordRefusal_22 : decode cX11_wordRefusal 22 = .ok (.ifCond .ne 5, 3) := dGR_14_c_370.2.2.2.2.2.2.2.2.2.2.2
set_option maxRecDepth 100000 in
theorem dGR_14_c_371 : (decode cX11_wordRefusal 25 = .ok (.iconst 1, 1)) ∧ (decode cX11_wordRefusal 26 = .ok (.ireturn, 1)) ∧ (decode cX11_wordRefusal 27 = .ok (.aload_n 0, 1)) ∧ (decode cX11_wordRefusal 28 = .ok (.getfield 10, 3)) ∧ (decode cX11_wordRefusal 31 = .ok (.iload_n 2, 1)) ∧ (decode cX11_wordRefusal 32 = .ok (.invokevirtual 351, 3)) ∧ (decode cX11_wordRefusal 35 = .ok (.ifCond .eq 5, 3)) ∧ (decode cX11_wordRefusal 38 = .ok (.iconst 2, 1)) ∧ (decode cX11_wordRefusal 39 = .ok (.ireturn, 1)) ∧ (decode cX11_wordRefusal 40 = .ok (.iload_n 3, 1)) ∧ (decode cX11_wordRefusal 41 = .ok (.aload_n 0, 1)) ∧ (decode cX11_wordRefusal 42 = .ok (.getfield 10, 3)) := by decide +kernel
theorem dX11_wordRefusal_25 : decode cX11_wordRefusal 25 = .ok (.iconst 1, 1) := dGR_14_c_371.1
theorem dX11_wordRefusal_26 : decode cX11_wordRefusal 26 = .ok (.ireturn, 1) := dGR_14_c_371.2.1
theorem dX11_wordRefusal_27 : decode cX11_wordRefusal 27 = .ok (.aload_n 0, 1) := dGR_14_c_371.2.2.1
theorem dX11_wordRefusal_28 : decode cX11_wordRefusal 28 = .ok (.getfield 10, 3) := dGR_14_c_371.2.2.2.1
theorem dX11_wordRefusal_31 : decode cX11_wordRefusal 31 = .ok (.iload_n 2, 1) := dGR_14_c_371.2.2.2.2.1
theorem dX11_wordRefusal_32 : decode cX11_wordRefusal 32 = .ok (.invokevirtual 351, 3) := dGR_14_c_371.2.2.2.2.2.1
theorem dX11_wordRefusal_35 : decode cX11_wordRefusal 35 = .ok (.ifCond .eq 5, 3) := dGR_14_c_371.2.2.2.2.2.2.1
theorem dX11_wordRefusal_38 : decode cX11_wordRefusal 38 = .ok (.iconst 2, 1) := dGR_14_c_371.2.2.2.2.2.2.2.1
theorem dX11_wordRefusal_39 : decode cX11_wordRefusal 39 = .ok (.ireturn, 1) := dGR_14_c_371.2.2.2.2.2.2.2.2.1
theorem dX11_wordRefusal_40 : decode cX11_wordRefusal 40 = .ok (.iload_n 3, 1) := dGR_14_c_371.2.2.2.2.2.2.2.2.2.1
theorem dX11_wordRefusal_41 : decode cX11_wordRefusal 41 = .ok (.aload_n 0, 1) := dGR_14_c_371.2.2.2.2.2.2.2.2.2.2.1
theorem dX11_wordRefusal_42 : decode cX11_wordRefusal 42 = .ok (.getfield 10, 3) := dGR_14_c_371.2.2.2.2.2.2.2.2.2.2.2
set_option maxRecDepth 100000 in
theorem dGR_14_c_372 : (decode cX11_wordRefusal 45 = .ok (.iload_n 2, 1)) ∧ (decode cX11_wordRefusal 46 = .ok (.invokevirtual 354, 3)) ∧ (decode cX11_wordRefusal 49 = .ok (.if_icmp .le 5, 3)) ∧ (decode cX11_wordRefusal 52 = .ok (.iconst 3, 1)) ∧ (decode cX11_wordRefusal 53 = .ok (.ireturn, 1)) ∧ (decode cX11_wordRefusal 54 = .ok (.iconst 0, 1)) ∧ (decode cX11_wordRefusal 55 = .ok (.istore 4, 2)) ∧ (decode cX11_wordRefusal 57 = .ok (.iload 4, 2)) ∧ (decode cX11_wordRefusal 59 = .ok (.iload_n 3, 1)) ∧ (decode cX11_wordRefusal 60 = .ok (.if_icmp .ge 44, 3)) ∧ (decode cX11_wordRefusal 63 = .ok (.aload_n 0, 1)) ∧ (decode cX11_wordRefusal 64 = .ok (.getfield 10, 3)) := by decide +kernel
theorem dX11_wordRefusal_45 : decode cX11_wordRefusal 45 = .ok (.iload_n 2, 1) := dGR_14_c_372.1
theorem dX11_wordRefusal_46 : decode cX11_wordRefusal 46 = .ok (.invokevirtual 354, 3) := dGR_14_c_372.2.1
theorem dX11_wordRefusal_49 : decode cX11_wordRefusal 49 = .ok (.if_icmp .le 5, 3) := dGR_14_c_372.2.2.1
theorem dX11_wordRefusal_52 : decode cX11_wordRefusal 52 = .ok (.iconst 3, 1) := dGR_14_c_372.2.2.2.1
theorem dX11_wordRefusal_53 : decode cX11_wordRefusal 53 = .ok (.ireturn, 1) := dGR_14_c_372.2.2.2.2.1
theorem dX11_wordRefusal_54 : decode cX11_wordRefusal 54 = .ok (.iconst 0, 1) := dGR_14_c_372.2.2.2.2.2.1
theorem dX11_wordRefusal_55 : decode cX11_wordRefusal 55 = .ok (.istore 4, 2) := dGR_14_c_372.2.2.2.2.2.2.1
theorem dX11_wordRefusal_57 : decode cX11_wordRefusal 57 = .ok (.iload 4, 2) := dGR_14_c_372.2.2.2.2.2.2.2.1
theorem dX11_wordRefusal_59 : decode cX11_wordRefusal 59 = .ok (.iload_n 3, 1) := dGR_14_c_372.2.2.2.2.2.2.2.2.1
theorem dX11_wordRefusal_60 : decode cX11_wordRefusal 60 = .ok (.if_icmp .ge 44, 3) := dGR_14_c_372.2.2.2.2.2.2.2.2.2.1
theorem dX11_wordRefusal_63 : decode cX11_wordRefusal 63 = .ok (.aload_n 0, 1) := dGR_14_c_372.2.2.2.2.2.2.2.2.2.2.1
theorem dX11_wordRefusal_64 : decode cX11_wordRefusal 64 = .ok (.getfield 10, 3) := dGR_14_c_372.2.2.2.2.2.2.2.2.2.2.2
set_option maxRecDepth 100000 in
theorem dGR_14_c_373 : (decode cX11_wordRefusal 67 = .ok (.iload_n 2, 1)) ∧ (decode cX11_wordRefusal 68 = .ok (.iload 4, 2)) ∧ (decode cX11_wordRefusal 70 = .ok (.invokevirtual 114, 3)) ∧ (decode cX11_wordRefusal 73 = .ok (.lstore 5, 2)) ∧ (decode cX11_wordRefusal 75 = .ok (.lload 5, 2)) ∧ (decode cX11_wordRefusal 77 = .ok (.lconst 0, 1)) ∧ (decode cX11_wordRefusal 78 = .ok (.lcmp, 1)) ∧ (decode cX11_wordRefusal 79 = .ok (.ifCond .lt 17, 3)) ∧ (decode cX11_wordRefusal 82 = .ok (.lload 5, 2)) ∧ (decode cX11_wordRefusal 84 = .ok (.aload_n 0, 1)) ∧ (decode cX11_wordRefusal 85 = .ok (.getfield 26, 3)) ∧ (decode cX11_wordRefusal 88 = .ok (.getfield 160, 3)) := by decide +kernel
theorem dX11_wordRefusal_67 : decode cX11_wordRefusal 67 = .ok (.iload_n 2, 1) := dGR_14_c_373.1
theorem dX11_wordRefusal_68 : decode cX11_wordRefusal 68 = .ok (.iload 4, 2) := dGR_14_c_373.2.1
theorem dX11_wordRefusal_70 : decode cX11_wordRefusal 70 = .ok (.invokevirtual 114, 3) := dGR_14_c_373.2.2.1
theorem dX11_wordRefusal_73 : decode cX11_wordRefusal 73 = .ok (.lstore 5, 2) := dGR_14_c_373.2.2.2.1
theorem dX11_wordRefusal_75 : decode cX11_wordRefusal 75 = .ok (.lload 5, 2) := dGR_14_c_373.2.2.2.2.1
theorem dX11_wordRefusal_77 : decode cX11_wordRefusal 77 = .ok (.lconst 0, 1) := dGR_14_c_373.2.2.2.2.2.1
theorem dX11_wordRefusal_78 : decode cX11_wordRefusal 78 = .ok (.lcmp, 1) := dGR_14_c_373.2.2.2.2.2.2.1
theorem dX11_wordRefusal_79 : decode cX11_wordRefusal 79 = .ok (.ifCond .lt 17, 3) := dGR_14_c_373.2.2.2.2.2.2.2.1
theorem dX11_wordRefusal_82 : decode cX11_wordRefusal 82 = .ok (.lload 5, 2) := dGR_14_c_373.2.2.2.2.2.2.2.2.1
theorem dX11_wordRefusal_84 : decode cX11_wordRefusal 84 = .ok (.aload_n 0, 1) := dGR_14_c_373.2.2.2.2.2.2.2.2.2.1
theorem dX11_wordRefusal_85 : decode cX11_wordRefusal 85 = .ok (.getfield 26, 3) := dGR_14_c_373.2.2.2.2.2.2.2.2.2.2.1
theorem dX11_wordRefusal_88 : decode cX11_wordRefusal 88 = .ok (.getfield 160, 3) := dGR_14_c_373.2.2.2.2.2.2.2.2.2.2.2
set_option maxRecDepth 100000 in
theorem dGR_14_c_374 : (decode cX11_wordRefusal 91 = .ok (.i2l, 1)) ∧ (decode cX11_wordRefusal 92 = .ok (.lcmp, 1)) ∧ (decode cX11_wordRefusal 93 = .ok (.ifCond .lt 5, 3)) ∧ (decode cX11_wordRefusal 96 = .ok (.iconst 5, 1)) ∧ (decode cX11_wordRefusal 97 = .ok (.ireturn, 1)) ∧ (decode cX11_wordRefusal 98 = .ok (.iinc 4 1, 3)) ∧ (decode cX11_wordRefusal 101 = .ok (.goto (-44), 3)) ∧ (decode cX11_wordRefusal 104 = .ok (.iconst 0, 1)) ∧ (decode cX11_wordRefusal 105 = .ok (.ireturn, 1)) := by decide +kernel
theorem dX11_wordRefusal_91 : decode cX11_wordRefusal 91 = .ok (.i2l, 1) := dGR_14_c_374.1
theorem dX11_wordRefusal_92 : decode cX11_wordRefusal 92 = .ok (.lcmp, 1) := dGR_14_c_374.2.1
theorem dX11_wordRefusal_93 : decode cX11_wordRefusal 93 = .ok (.ifCond .lt 5, 3) := dGR_14_c_374.2.2.1
theorem dX11_wordRefusal_96 : decode cX11_wordRefusal 96 = .ok (.iconst 5, 1) := dGR_14_c_374.2.2.2.1
theorem dX11_wordRefusal_97 : decode cX11_wordRefusal 97 = .ok (.ireturn, 1) := dGR_14_c_374.2.2.2.2.1
theorem dX11_wordRefusal_98 : decode cX11_wordRefusal 98 = .ok (.iinc 4 1, 3) := dGR_14_c_374.2.2.2.2.2.1
theorem dX11_wordRefusal_101 : decode cX11_wordRefusal 101 = .ok (.goto (-44), 3) := dGR_14_c_374.2.2.2.2.2.2.1
theorem dX11_wordRefusal_104 : decode cX11_wordRefusal 104 = .ok (.iconst 0, 1) := dGR_14_c_374.2.2.2.2.2.2.2.1
theorem dX11_wordRefusal_105 : decode cX11_wordRefusal 105 = .ok (.ireturn, 1) := dGR_14_c_374.2.2.2.2.2.2.2.2
set_option maxRecDepth 100000 in
theorem dGR_14_c_375 : (decode cX11_walkTray 0 = .ok (.aload_n 0, 1)) ∧ (decode cX11_walkTray 1 = .ok (.getfield 61, 3)) ∧ (decode cX11_walkTray 4 = .ok (.aload_n 1, 1)) ∧ (decode cX11_walkTray 5 = .ok (.invokevirtual 370, 3)) ∧ (decode cX11_walkTray 8 = .ok (.iconst 0, 1)) ∧ (decode cX11_walkTray 9 = .ok (.istore 4, 2)) ∧ (decode cX11_walkTray 11 = .ok (.iload 4, 2)) ∧ (decode cX11_walkTray 13 = .ok (.iload_n 3, 1)) ∧ (decode cX11_walkTray 14 = .ok (.if_icmp .ge 41, 3)) ∧ (decode cX11_walkTray 17 = .ok (.aload_n 0, 1)) ∧ (decode cX11_walkTray 18 = .ok (.getfield 10, 3)) ∧ (decode cX11_walkTray 21 = .ok (.iload_n 2, 1)) := by decide +kernel
theorem dX11_walkTray_0 : decode cX11_walkTray 0 = .ok (.aload_n 0, 1) := dGR_14_c_375.1
theorem dX11_walkTray_1 : decode cX11_walkTray 1 = .ok (.getfield 61, 3) := dGR_14_c_375.2.1
theorem dX11_walkTray_4 : decode cX11_walkTray 4 = .ok (.aload_n 1, 1) := dGR_14_c_375.2.2.1
theorem dX11_walkTray_5 : decode cX11_walkTray 5 = .ok (.invokevirtual 370, 3) := dGR_14_c_375.2.2.2.1
theorem dX11_walkTray_8 : decode cX11_walkTray 8 = .ok (.iconst 0, 1) := dGR_14_c_375.2.2.2.2.1
theorem dX11_walkTray_9 : decode cX11_walkTray 9 = .ok (.istore 4, 2) := dGR_14_c_375.2.2.2.2.2.1
theorem dX11_walkTray_11 : decode cX11_walkTray 11 = .ok (.iload 4, 2) := dGR_14_c_375.2.2.2.2.2.2.1
theorem dX11_walkTray_13 : decode cX11_walkTray 13 = .ok (.iload_n 3, 1) := dGR_14_c_375.2.2.2.2.2.2.2.1
theorem dX11_walkTray_14 : decode cX11_walkTray 14 = .ok (.if_icmp .ge 41, 3) := dGR_14_c_375.2.2.2.2.2.2.2.2.1
theorem dX11_walkTray_17 : decode cX11_walkTray 17 = .ok (.aload_n 0, 1) := dGR_14_c_375.2.2.2.2.2.2.2.2.2.1
theorem dX11_walkTray_18 : decode cX11_walkTray 18 = .ok (.getfield 10, 3) := dGR_14_c_375.2.2.2.2.2.2.2.2.2.2.1
theorem dX11_walkTray_21 : decode cX11_walkTray 21 = .ok (.iload_n 2, 1) := dGR_14_c_375.2.2.2.2.2.2.2.2.2.2.2
set_option maxRecDepth 100000 in
theorem dGR_14_c_376 : (decode cX11_walkTray 22 = .ok (.iload 4, 2)) ∧ (decode cX11_walkTray 24 = .ok (.invokevirtual 114, 3)) ∧ (decode cX11_walkTray 27 = .ok (.l2i, 1)) ∧ (decode cX11_walkTray 28 = .ok (.istore 5, 2)) ∧ (decode cX11_walkTray 30 = .ok (.aload_n 0, 1)) ∧ (decode cX11_walkTray 31 = .ok (.getfield 61, 3)) ∧ (decode cX11_walkTray 34 = .ok (.aload_n 1, 1)) ∧ (decode cX11_walkTray 35 = .ok (.iload 5, 2)) ∧ (decode cX11_walkTray 37 = .ok (.aload_n 0, 1)) ∧ (decode cX11_walkTray 38 = .ok (.getfield 26, 3)) ∧ (decode cX11_walkTray 41 = .ok (.iload 5, 2)) ∧ (decode cX11_walkTray 43 = .ok (.invokevirtual 242, 3)) := by decide +kernel
theorem dX11_walkTray_22 : decode cX11_walkTray 22 = .ok (.iload 4, 2) := dGR_14_c_376.1
theorem dX11_walkTray_24 : decode cX11_walkTray 24 = .ok (.invokevirtual 114, 3) := dGR_14_c_376.2.1
theorem dX11_walkTray_27 : decode cX11_walkTray 27 = .ok (.l2i, 1) := dGR_14_c_376.2.2.1
theorem dX11_walkTray_28 : decode cX11_walkTray 28 = .ok (.istore 5, 2) := dGR_14_c_376.2.2.2.1
theorem dX11_walkTray_30 : decode cX11_walkTray 30 = .ok (.aload_n 0, 1) := dGR_14_c_376.2.2.2.2.1
theorem dX11_walkTray_31 : decode cX11_walkTray 31 = .ok (.getfield 61, 3) := dGR_14_c_376.2.2.2.2.2.1
theorem dX11_walkTray_34 : decode cX11_walkTray 34 = .ok (.aload_n 1, 1) := dGR_14_c_376.2.2.2.2.2.2.1
theorem dX11_walkTray_35 : decode cX11_walkTray 35 = .ok (.iload 5, 2) := dGR_14_c_376.2.2.2.2.2.2.2.1
theorem dX11_walkTray_37 : decode cX11_walkTray 37 = .ok (.aload_n 0, 1) := dGR_14_c_376.2.2.2.2.2.2.2.2.1
theorem dX11_walkTray_38 : decode cX11_walkTray 38 = .ok (.getfield 26, 3) := dGR_14_c_376.2.2.2.2.2.2.2.2.2.1
theorem dX11_walkTray_41 : decode cX11_walkTray 41 = .ok (.iload 5, 2) := dGR_14_c_376.2.2.2.2.2.2.2.2.2.2.1
theorem dX11_walkTray_43 : decode cX11_walkTray 43 = .ok (.invokevirtual 242, 3) := dGR_14_c_376.2.2.2.2.2.2.2.2.2.2.2
set_option maxRecDepth 100000 in
theorem dGR_14_c_377 : (decode cX11_walkTray 46 = .ok (.invokevirtual 378, 3)) ∧ (decode cX11_walkTray 49 = .ok (.iinc 4 1, 3)) ∧ (decode cX11_walkTray 52 = .ok (.goto (-41), 3)) ∧ (decode cX11_walkTray 55 = .ok (.return_, 1)) := by decide +kernel
theorem dX11_walkTray_46 : decode cX11_walkTray 46 = .ok (.invokevirtual 378, 3) := dGR_14_c_377.1
theorem dX11_walkTray_49 : decode cX11_walkTray 49 = .ok (.iinc 4 1, 3) := dGR_14_c_377.2.1
theorem dX11_walkTray_52 : decode cX11_walkTray 52 = .ok (.goto (-41), 3) := dGR_14_c_377.2.2.1
theorem dX11_walkTray_55 : decode cX11_walkTray 55 = .ok (.return_, 1) := dGR_14_c_377.2.2.2
set_option maxRecDepth 100000 in
theorem dGR_14_c_378 : (decode cX11_draw 0 = .ok (.aload_n 0, 1)) ∧ (decode cX11_draw 1 = .ok (.aload_n 0, 1)) ∧ (decode cX11_draw 2 = .ok (.getfield 357, 3)) ∧ (decode cX11_draw 5 = .ok (.sipush 3287, 3)) ∧ (decode cX11_draw 8 = .ok (.imul, 1)) ∧ (decode cX11_draw 9 = .ok (.sipush 11519, 3)) ∧ (decode cX11_draw 12 = .ok (.iadd, 1)) ∧ (decode cX11_draw 13 = .ok (.ldc_w 407, 3)) ∧ (decode cX11_draw 16 = .ok (.iand, 1)) ∧ (decode cX11_draw 17 = .ok (.putfield 357, 3)) ∧ (decode cX11_draw 20 = .ok (.iload_n 1, 1)) ∧ (decode cX11_draw 21 = .ok (.ifCond .gt 7, 3)) := by decide +kernel
theorem dX11_draw_0 : decode cX11_draw 0 = .ok (.aload_n 0, 1) := dGR_14_c_378.1
theorem dX11_draw_1 : decode cX11_draw 1 = .ok (.aload_n 0, 1) := dGR_14_c_378.2.1
theorem dX11_draw_2 : decode cX11_draw 2 = .ok (.getfield 357, 3) := dGR_14_c_378.2.2.1
theorem dX11_draw_5 : decode cX11_draw 5 = .ok (.sipush 3287, 3) := dGR_14_c_378.2.2.2.1
theorem dX11_draw_8 : decode cX11_draw 8 = .ok (.imul, 1) := dGR_14_c_378.2.2.2.2.1
theorem dX11_draw_9 : decode cX11_draw 9 = .ok (.sipush 11519, 3) := dGR_14_c_378.2.2.2.2.2.1
theorem dX11_draw_12 : decode cX11_draw 12 = .ok (.iadd, 1) := dGR_14_c_378.2.2.2.2.2.2.1
theorem dX11_draw_13 : decode cX11_draw 13 = .ok (.ldc_w 407, 3) := dGR_14_c_378.2.2.2.2.2.2.2.1
theorem dX11_draw_16 : decode cX11_draw 16 = .ok (.iand, 1) := dGR_14_c_378.2.2.2.2.2.2.2.2.1
theorem dX11_draw_17 : decode cX11_draw 17 = .ok (.putfield 357, 3) := dGR_14_c_378.2.2.2.2.2.2.2.2.2.1
theorem dX11_draw_20 : decode cX11_draw 20 = .ok (.iload_n 1, 1) := dGR_14_c_378.2.2.2.2.2.2.2.2.2.2.1
theorem dX11_draw_21 : decode cX11_draw 21 = .ok (.ifCond .gt 7, 3) := dGR_14_c_378.2.2.2.2.2.2.2.2.2.2.2
set_option maxRecDepth 100000 in
theorem dGR_14_c_379 : (decode cX11_draw 24 = .ok (.iconst 0, 1)) ∧ (decode cX11_draw 25 = .ok (.goto 12, 3)) ∧ (decode cX11_draw 28 = .ok (.aload_n 0, 1)) ∧ (decode cX11_draw 29 = .ok (.getfield 357, 3)) ∧ (decode cX11_draw 32 = .ok (.bipush 8, 2)) ∧ (decode cX11_draw 34 = .ok (.idiv, 1)) ∧ (decode cX11_draw 35 = .ok (.iload_n 1, 1)) ∧ (decode cX11_draw 36 = .ok (.irem, 1)) ∧ (decode cX11_draw 37 = .ok (.ireturn, 1)) := by decide +kernel
theorem dX11_draw_24 : decode cX11_draw 24 = .ok (.iconst 0, 1) := dGR_14_c_379.1
theorem dX11_draw_25 : decode cX11_draw 25 = .ok (.goto 12, 3) := dGR_14_c_379.2.1
theorem dX11_draw_28 : decode cX11_draw 28 = .ok (.aload_n 0, 1) := dGR_14_c_379.2.2.1
theorem dX11_draw_29 : decode cX11_draw 29 = .ok (.getfield 357, 3) := dGR_14_c_379.2.2.2.1
theorem dX11_draw_32 : decode cX11_draw 32 = .ok (.bipush 8, 2) := dGR_14_c_379.2.2.2.2.1
theorem dX11_draw_34 : decode cX11_draw 34 = .ok (.idiv, 1) := dGR_14_c_379.2.2.2.2.2.1
theorem dX11_draw_35 : decode cX11_draw 35 = .ok (.iload_n 1, 1) := dGR_14_c_379.2.2.2.2.2.2.1
theorem dX11_draw_36 : decode cX11_draw 36 = .ok (.irem, 1) := dGR_14_c_379.2.2.2.2.2.2.2.1
theorem dX11_draw_37 : decode cX11_draw 37 = .ok (.ireturn, 1) := dGR_14_c_379.2.2.2.2.2.2.2.2
abbrev f_c_X11_draw : List (Nat × Int) := [(62, 14)]
set_option maxHeartbeats 4000000 in
set_option maxRecDepth 100000 in
theorem c_X11_draw (G : KG) (l : Launch) (M : Mem) (c0 : Int) (a1 : Int) (hI_M : Inv false M) (hk_c0 : kd c0 = 62) (hpre : -2147483648 ≤ a1 ∧ a1 ≤ 2147483647 ∧ a1 ≤ 6) : KC false G l yX11_draw cX11_draw 2 (some .int) (0, 0) [vR G c0, vI a1] M (fun A => kQi false G A (fun (r : Int) (N : Mem) => Inv false N ∧ Fr f_c_X11_draw M N ∧ (0 ≤ r ∧ r ≤ 5))) := by
  refine kx_met (lo := [some (vR G c0), some (vI a1)]) (by decide) (Nat.le_of_ble_eq_true rfl) rfl ?_
  intro X F hQ
  have hF_M : Fr f_c_X11_draw M M := Fr.rf _ _
  refine kx_aload_n 1 F 0 dX11_draw_0 rfl rfl rfl ?_
  refine kx_aload_n 2 F 0 dX11_draw_1 rfl rfl rfl ?_
  refine kx_geti 5 F fl_X11_357 hk_c0 rfl rfl (j := 14) rfl dX11_draw_2 (v := (M c0 14)) rfl rfl ?_
  have h_1 := Inv.g hI_M hk_c0 rfl 14 (a := 0) (b := 65535) rfl rfl
  refine kx_sipush 8 F dX11_draw_5 (by decide) rfl ?_
  refine kx_imul 9 F (v := 3287 * (M c0 14)) dX11_draw_8 (by omega) rfl ?_
  refine kx_sipush 12 F dX11_draw_9 (by decide) rfl ?_
  refine kx_iadd 13 F (v := 3287 * (M c0 14) + 11519) dX11_draw_12 rfl rfl ?_
  refine kx_ldcw 16 (z := 65535) F dX11_draw_13 ct_X11_407 rfl ?_
  refine kx_iand 17 F (v := (zand (3287 * (M c0 14) + 11519) 65535)) dX11_draw_16 rfl rfl ?_
  have h_2 := zand_r (a := 3287 * (M c0 14) + 11519) (b := 65535) (by omega)
  refine kx_puti 20 F fw_X11_357 rfl hk_c0 rfl rfl (j := 14) rfl dX11_draw_17 rfl ?_
  intro N_3 hM_N_3
  have hI_N_3 : Inv false N_3 := Inv.u hI_M hM_N_3 hk_c0 (a := 0) (b := 65535) rfl rfl rfl (by omega)
  have hF_N_3 : Fr f_c_X11_draw M N_3 := Fr.u hF_M hM_N_3 hk_c0 rfl
  refine kx_iload_n 21 F 1 dX11_draw_20 rfl rfl rfl ?_
  refine kx_if_gt 24 F 28 dX11_draw_21 (by decide) rfl (by omega) (fun h_4 => ?_) (fun h_4 => ?_)
  · refine kx_aload_n 29 F 0 dX11_draw_28 rfl rfl rfl ?_
    refine kx_geti 32 F fl_X11_357 hk_c0 rfl rfl (j := 14) rfl dX11_draw_29 (v := (zand (3287 * (M c0 14) + 11519) 65535)) (by rw [hM_N_3, mu_s]) rfl ?_
    refine kx_bipush 34 F dX11_draw_32 (by decide) rfl ?_
    refine kx_idiv 35 F (v := ((zand (3287 * (M c0 14) + 11519) 65535) / 8)) dX11_draw_34 (by omega) (by decide) rfl rfl ?_
    refine kx_iload_n 36 F 1 dX11_draw_35 rfl rfl rfl ?_
    refine kx_irem 37 F (v := (((zand (3287 * (M c0 14) + 11519) 65535) / 8) % a1)) dX11_draw_36 (by omega) (by omega) rfl rfl ?_
    have h_5 : 0 ≤ (((zand (3287 * (M c0 14) + 11519) 65535) / 8) % a1) ∧ (((zand (3287 * (M c0 14) + 11519) 65535) / 8) % a1) < a1 := ⟨Int.emod_nonneg _ (by omega), Int.emod_lt_of_pos _ (by omega)⟩
    exact kx_iret F hQ ⟨hI_N_3, hF_N_3, (by omega)⟩ dX11_draw_37
  · refine kx_iconst 25 F dX11_draw_24 rfl ?_
    refine kx_goto 37 F dX11_draw_25 (by decide) ?_
    exact kx_iret F hQ ⟨hI_N_3, hF_N_3, (by omega)⟩ dX11_draw_37
set_option maxRecDepth 100000 in
theorem dGR_14_c_380 : (decode cX11_walkDrawn 0 = .ok (.aload_n 0, 1)) ∧ (decode cX11_walkDrawn 1 = .ok (.getfield 61, 3)) ∧ (decode cX11_walkDrawn 4 = .ok (.aload_n 1, 1)) ∧ (decode cX11_walkDrawn 5 = .ok (.invokevirtual 370, 3)) ∧ (decode cX11_walkDrawn 8 = .ok (.iconst 0, 1)) ∧ (decode cX11_walkDrawn 9 = .ok (.istore_n 3, 1)) ∧ (decode cX11_walkDrawn 10 = .ok (.iload_n 3, 1)) ∧ (decode cX11_walkDrawn 11 = .ok (.iload_n 2, 1)) ∧ (decode cX11_walkDrawn 12 = .ok (.if_icmp .ge 41, 3)) ∧ (decode cX11_walkDrawn 15 = .ok (.aload_n 0, 1)) ∧ (decode cX11_walkDrawn 16 = .ok (.aload_n 0, 1)) ∧ (decode cX11_walkDrawn 17 = .ok (.getfield 26, 3)) := by decide +kernel
theorem dX11_walkDrawn_0 : decode cX11_walkDrawn 0 = .ok (.aload_n 0, 1) := dGR_14_c_380.1
theorem dX11_walkDrawn_1 : decode cX11_walkDrawn 1 = .ok (.getfield 61, 3) := dGR_14_c_380.2.1
theorem dX11_walkDrawn_4 : decode cX11_walkDrawn 4 = .ok (.aload_n 1, 1) := dGR_14_c_380.2.2.1
theorem dX11_walkDrawn_5 : decode cX11_walkDrawn 5 = .ok (.invokevirtual 370, 3) := dGR_14_c_380.2.2.2.1
theorem dX11_walkDrawn_8 : decode cX11_walkDrawn 8 = .ok (.iconst 0, 1) := dGR_14_c_380.2.2.2.2.1
theorem dX11_walkDrawn_9 : decode cX11_walkDrawn 9 = .ok (.istore_n 3, 1) := dGR_14_c_380.2.2.2.2.2.1
theorem dX11_walkDrawn_10 : decode cX11_walkDrawn 10 = .ok (.iload_n 3, 1) := dGR_14_c_380.2.2.2.2.2.2.1
theorem dX11_walkDrawn_11 : decode cX11_walkDrawn 11 = .ok (.iload_n 2, 1) := dGR_14_c_380.2.2.2.2.2.2.2.1
theorem dX11_walkDrawn_12 : decode cX11_walkDrawn 12 = .ok (.if_icmp .ge 41, 3) := dGR_14_c_380.2.2.2.2.2.2.2.2.1
theorem dX11_walkDrawn_15 : decode cX11_walkDrawn 15 = .ok (.aload_n 0, 1) := dGR_14_c_380.2.2.2.2.2.2.2.2.2.1
theorem dX11_walkDrawn_16 : decode cX11_walkDrawn 16 = .ok (.aload_n 0, 1) := dGR_14_c_380.2.2.2.2.2.2.2.2.2.2.1
theorem dX11_walkDrawn_17 : decode cX11_walkDrawn 17 = .ok (.getfield 26, 3) := dGR_14_c_380.2.2.2.2.2.2.2.2.2.2.2
set_option maxRecDepth 100000 in
theorem dGR_14_c_381 : (decode cX11_walkDrawn 20 = .ok (.getfield 160, 3)) ∧ (decode cX11_walkDrawn 23 = .ok (.invokevirtual 360, 3)) ∧ (decode cX11_walkDrawn 26 = .ok (.istore 4, 2)) ∧ (decode cX11_walkDrawn 28 = .ok (.aload_n 0, 1)) ∧ (decode cX11_walkDrawn 29 = .ok (.getfield 61, 3)) ∧ (decode cX11_walkDrawn 32 = .ok (.aload_n 1, 1)) ∧ (decode cX11_walkDrawn 33 = .ok (.iload 4, 2)) ∧ (decode cX11_walkDrawn 35 = .ok (.aload_n 0, 1)) ∧ (decode cX11_walkDrawn 36 = .ok (.getfield 26, 3)) ∧ (decode cX11_walkDrawn 39 = .ok (.iload 4, 2)) ∧ (decode cX11_walkDrawn 41 = .ok (.invokevirtual 242, 3)) ∧ (decode cX11_walkDrawn 44 = .ok (.invokevirtual 378, 3)) := by decide +kernel
theorem dX11_walkDrawn_20 : decode cX11_walkDrawn 20 = .ok (.getfield 160, 3) := dGR_14_c_381.1
theorem dX11_walkDrawn_23 : decode cX11_walkDrawn 23 = .ok (.invokevirtual 360, 3) := dGR_14_c_381.2.1
theorem dX11_walkDrawn_26 : decode cX11_walkDrawn 26 = .ok (.istore 4, 2) := dGR_14_c_381.2.2.1
theorem dX11_walkDrawn_28 : decode cX11_walkDrawn 28 = .ok (.aload_n 0, 1) := dGR_14_c_381.2.2.2.1
theorem dX11_walkDrawn_29 : decode cX11_walkDrawn 29 = .ok (.getfield 61, 3) := dGR_14_c_381.2.2.2.2.1
theorem dX11_walkDrawn_32 : decode cX11_walkDrawn 32 = .ok (.aload_n 1, 1) := dGR_14_c_381.2.2.2.2.2.1
theorem dX11_walkDrawn_33 : decode cX11_walkDrawn 33 = .ok (.iload 4, 2) := dGR_14_c_381.2.2.2.2.2.2.1
theorem dX11_walkDrawn_35 : decode cX11_walkDrawn 35 = .ok (.aload_n 0, 1) := dGR_14_c_381.2.2.2.2.2.2.2.1
theorem dX11_walkDrawn_36 : decode cX11_walkDrawn 36 = .ok (.getfield 26, 3) := dGR_14_c_381.2.2.2.2.2.2.2.2.1
theorem dX11_walkDrawn_39 : decode cX11_walkDrawn 39 = .ok (.iload 4, 2) := dGR_14_c_381.2.2.2.2.2.2.2.2.2.1
theorem dX11_walkDrawn_41 : decode cX11_walkDrawn 41 = .ok (.invokevirtual 242, 3) := dGR_14_c_381.2.2.2.2.2.2.2.2.2.2.1
theorem dX11_walkDrawn_44 : decode cX11_walkDrawn 44 = .ok (.invokevirtual 378, 3) := dGR_14_c_381.2.2.2.2.2.2.2.2.2.2.2
set_option maxRecDepth 100000 in
theorem dGR_14_c_382 : (decode cX11_walkDrawn 47 = .ok (.iinc 3 1, 3)) ∧ (decode cX11_walkDrawn 50 = .ok (.goto (-40), 3)) ∧ (decode cX11_walkDrawn 53 = .ok (.return_, 1)) := by decide +kernel
theorem dX11_walkDrawn_47 : decode cX11_walkDrawn 47 = .ok (.iinc 3 1, 3) := dGR_14_c_382.1
theorem dX11_walkDrawn_50 : decode cX11_walkDrawn 50 = .ok (.goto (-40), 3) := dGR_14_c_382.2.1
theorem dX11_walkDrawn_53 : decode cX11_walkDrawn 53 = .ok (.return_, 1) := dGR_14_c_382.2.2
