set_option maxRecDepth 100000 in
theorem dGR_40_c_1155 : (decode cX12_relation 0 = .ok (.iconst 0, 1)) ∧ (decode cX12_relation 1 = .ok (.istore_n 2, 1)) ∧ (decode cX12_relation 2 = .ok (.iload_n 2, 1)) ∧ (decode cX12_relation 3 = .ok (.aload_n 0, 1)) ∧ (decode cX12_relation 4 = .ok (.getfield 459, 3)) ∧ (decode cX12_relation 7 = .ok (.if_icmp .ge 21, 3)) ∧ (decode cX12_relation 10 = .ok (.aload_n 0, 1)) ∧ (decode cX12_relation 11 = .ok (.getfield 92, 3)) ∧ (decode cX12_relation 14 = .ok (.iload_n 2, 1)) ∧ (decode cX12_relation 15 = .ok (.iaload, 1)) ∧ (decode cX12_relation 16 = .ok (.iload_n 1, 1)) ∧ (decode cX12_relation 17 = .ok (.if_icmp .ne 5, 3)) := by decide +kernel
theorem dX12_relation_0 : decode cX12_relation 0 = .ok (.iconst 0, 1) := dGR_40_c_1155.1
theorem dX12_relation_1 : decode cX12_relation 1 = .ok (.istore_n 2, 1) := dGR_40_c_1155.2.1
theorem dX12_relation_2 : decode cX12_relation 2 = .ok (.iload_n 2, 1) := dGR_40_c_1155.2.2.1
theorem dX12_relation_3 : decode cX12_relation 3 = .ok (.aload_n 0, 1) := dGR_40_c_1155.2.2.2.1
theorem dX12_relation_4 : decode cX12_relation 4 = .ok (.getfield 459, 3) := dGR_40_c_1155.2.2.2.2.1
theorem dX12_relation_7 : decode cX12_relation 7 = .ok (.if_icmp .ge 21, 3) := dGR_40_c_1155.2.2.2.2.2.1
theorem dX12_relation_10 : decode cX12_relation 10 = .ok (.aload_n 0, 1) := dGR_40_c_1155.2.2.2.2.2.2.1
theorem dX12_relation_11 : decode cX12_relation 11 = .ok (.getfield 92, 3) := dGR_40_c_1155.2.2.2.2.2.2.2.1
theorem dX12_relation_14 : decode cX12_relation 14 = .ok (.iload_n 2, 1) := dGR_40_c_1155.2.2.2.2.2.2.2.2.1
theorem dX12_relation_15 : decode cX12_relation 15 = .ok (.iaload, 1) := dGR_40_c_1155.2.2.2.2.2.2.2.2.2.1
theorem dX12_relation_16 : decode cX12_relation 16 = .ok (.iload_n 1, 1) := dGR_40_c_1155.2.2.2.2.2.2.2.2.2.2.1
theorem dX12_relation_17 : decode cX12_relation 17 = .ok (.if_icmp .ne 5, 3) := dGR_40_c_1155.2.2.2.2.2.2.2.2.2.2.2
set_option maxRecDepth 100000 in
theorem dGR_40_c_1156 : (decode cX12_relation 20 = .ok (.iload_n 2, 1)) ∧ (decode cX12_relation 21 = .ok (.ireturn, 1)) ∧ (decode cX12_relation 22 = .ok (.iinc 2 1, 3)) ∧ (decode cX12_relation 25 = .ok (.goto (-23), 3)) ∧ (decode cX12_relation 28 = .ok (.aload_n 0, 1)) ∧ (decode cX12_relation 29 = .ok (.getfield 92, 3)) ∧ (decode cX12_relation 32 = .ok (.aload_n 0, 1)) ∧ (decode cX12_relation 33 = .ok (.getfield 459, 3)) ∧ (decode cX12_relation 36 = .ok (.iload_n 1, 1)) ∧ (decode cX12_relation 37 = .ok (.iastore, 1)) ∧ (decode cX12_relation 38 = .ok (.aload_n 0, 1)) ∧ (decode cX12_relation 39 = .ok (.dup, 1)) := by decide +kernel
theorem dX12_relation_20 : decode cX12_relation 20 = .ok (.iload_n 2, 1) := dGR_40_c_1156.1
theorem dX12_relation_21 : decode cX12_relation 21 = .ok (.ireturn, 1) := dGR_40_c_1156.2.1
theorem dX12_relation_22 : decode cX12_relation 22 = .ok (.iinc 2 1, 3) := dGR_40_c_1156.2.2.1
theorem dX12_relation_25 : decode cX12_relation 25 = .ok (.goto (-23), 3) := dGR_40_c_1156.2.2.2.1
theorem dX12_relation_28 : decode cX12_relation 28 = .ok (.aload_n 0, 1) := dGR_40_c_1156.2.2.2.2.1
theorem dX12_relation_29 : decode cX12_relation 29 = .ok (.getfield 92, 3) := dGR_40_c_1156.2.2.2.2.2.1
theorem dX12_relation_32 : decode cX12_relation 32 = .ok (.aload_n 0, 1) := dGR_40_c_1156.2.2.2.2.2.2.1
theorem dX12_relation_33 : decode cX12_relation 33 = .ok (.getfield 459, 3) := dGR_40_c_1156.2.2.2.2.2.2.2.1
theorem dX12_relation_36 : decode cX12_relation 36 = .ok (.iload_n 1, 1) := dGR_40_c_1156.2.2.2.2.2.2.2.2.1
theorem dX12_relation_37 : decode cX12_relation 37 = .ok (.iastore, 1) := dGR_40_c_1156.2.2.2.2.2.2.2.2.2.1
theorem dX12_relation_38 : decode cX12_relation 38 = .ok (.aload_n 0, 1) := dGR_40_c_1156.2.2.2.2.2.2.2.2.2.2.1
theorem dX12_relation_39 : decode cX12_relation 39 = .ok (.dup, 1) := dGR_40_c_1156.2.2.2.2.2.2.2.2.2.2.2
set_option maxRecDepth 100000 in
theorem dGR_40_c_1157 : (decode cX12_relation 40 = .ok (.getfield 459, 3)) ∧ (decode cX12_relation 43 = .ok (.iconst 1, 1)) ∧ (decode cX12_relation 44 = .ok (.iadd, 1)) ∧ (decode cX12_relation 45 = .ok (.putfield 459, 3)) ∧ (decode cX12_relation 48 = .ok (.aload_n 0, 1)) ∧ (decode cX12_relation 49 = .ok (.getfield 459, 3)) ∧ (decode cX12_relation 52 = .ok (.iconst 1, 1)) ∧ (decode cX12_relation 53 = .ok (.isub, 1)) ∧ (decode cX12_relation 54 = .ok (.ireturn, 1)) := by decide +kernel
theorem dX12_relation_40 : decode cX12_relation 40 = .ok (.getfield 459, 3) := dGR_40_c_1157.1
theorem dX12_relation_43 : decode cX12_relation 43 = .ok (.iconst 1, 1) := dGR_40_c_1157.2.1
theorem dX12_relation_44 : decode cX12_relation 44 = .ok (.iadd, 1) := dGR_40_c_1157.2.2.1
theorem dX12_relation_45 : decode cX12_relation 45 = .ok (.putfield 459, 3) := dGR_40_c_1157.2.2.2.1
theorem dX12_relation_48 : decode cX12_relation 48 = .ok (.aload_n 0, 1) := dGR_40_c_1157.2.2.2.2.1
theorem dX12_relation_49 : decode cX12_relation 49 = .ok (.getfield 459, 3) := dGR_40_c_1157.2.2.2.2.2.1
theorem dX12_relation_52 : decode cX12_relation 52 = .ok (.iconst 1, 1) := dGR_40_c_1157.2.2.2.2.2.2.1
theorem dX12_relation_53 : decode cX12_relation 53 = .ok (.isub, 1) := dGR_40_c_1157.2.2.2.2.2.2.2.1
theorem dX12_relation_54 : decode cX12_relation 54 = .ok (.ireturn, 1) := dGR_40_c_1157.2.2.2.2.2.2.2.2
abbrev f_e_relation : List (Nat × Int) := [(64, 45), (86, -1)]
set_option maxHeartbeats 4000000 in
set_option maxRecDepth 100000 in
theorem e_relation (G : KG) (l : Launch) (M : Mem) (a1 : Int) (hI_M : Inv true M) (hpre : -2147483648 ≤ a1 ∧ a1 ≤ 2147483647) {Aq : Int → Int} {b : Int} (hO : RP M Aq b) (hA : AOK Aq b) (hC : Clo Aq b) (hg : Gd Aq b a1) : KC true G l yX12_relation cX12_relation 3 (some .int) (0, 0) [vR G 163, vI a1] M (fun A => kQi true G A (fun (r : Int) (N : Mem) => Inv true N ∧ Fr f_e_relation M N ∧ (r ≥ 0 ∧ r < (N 163 45) ∧ (N 163 45) ≥ (M 163 45) ∧ r ≤ 63) ∧ (RP N Aq b))) := by
  refine kx_met (lo := [some (vR G 163), some (vI a1), none]) (by decide) (Nat.le_of_ble_eq_true rfl) rfl ?_
  intro X F hQ
  have hF_M : Fr f_e_relation M M := Fr.rf _ _
  have h_1 : 0 ≤ a1 ∧ a1 < 512 := hg.1
  have h_2 := RP.le hO hA hC
  refine kx_iconst 1 F dX12_relation_0 rfl ?_
  refine kx_istore_n 2 F 2 (lo' := [some (vR G 163), some (vI a1), some (vI 0)]) dX12_relation_1 rfl (by decide) rfl rfl rfl ?_
  have L_67 : ∀ (n_68 : Nat) (x2_66 : Int), NQ M a1 x2_66 → 0 ≤ x2_66 ∧ x2_66 ≤ 40 → (40 - (x2_66)).toNat = n_68 → KJ true G X M 2 [some (vR G 163), some (vI a1), some (vI x2_66)] [] := by
    intro n_68
    refine Nat.strongRecOn n_68 ?_
    intro n_68 ih_69 x2_66 hp_72 h_70 hm_71
    refine kx_iload_n 3 F 2 dX12_relation_2 rfl rfl rfl ?_
    refine kx_aload_n 4 F 0 dX12_relation_3 rfl rfl rfl ?_
    refine kx_geti 7 F fl_X12_459 kd_163 rfl rfl (j := 45) rfl dX12_relation_4 (v := (M 163 45)) rfl rfl ?_
    have h_73 := Inv.g hI_M kd_163 rfl 45 (a := 0) (b := 64) rfl rfl
    refine kx_icmp_ge 10 F 28 dX12_relation_7 (by decide) rfl (by omega) (by omega) (fun h_74 => ?_) (fun h_74 => ?_)
    · refine kx_aload_n 29 F 0 dX12_relation_28 rfl rfl rfl ?_
      refine kx_getr 32 F fl_X12_92 kd_163 rfl rfl (j := 40) rfl dX12_relation_29 (v := 187) (uq_187 (Inv.r hI_M kd_163 rfl 40 rfl rfl)) rfl ?_
      refine kx_aload_n 33 F 0 dX12_relation_32 rfl rfl rfl ?_
      refine kx_geti 36 F fl_X12_459 kd_163 rfl rfl (j := 45) rfl dX12_relation_33 (v := (M 163 45)) rfl rfl ?_
      refine kx_iload_n 37 F 1 dX12_relation_36 rfl rfl rfl ?_
      refine kx_iast 38 F kd_187 rfl rfl (by omega) (by decide) dX12_relation_37 rfl ?_
      intro N_75 hM_N_75
      have hI_N_75 : Inv true N_75 := Inv.u hI_M hM_N_75 kd_187 (a := 0) (b := 511) rfl rfl rfl (by omega)
      have hF_N_75 : Fr f_e_relation M N_75 := Fr.u hF_M hM_N_75 kd_187 rfl
      refine kx_aload_n 39 F 0 dX12_relation_38 rfl rfl rfl ?_
      refine kx_dup 40 F dX12_relation_39 rfl rfl ?_
      refine kx_geti 43 F fl_X12_459 kd_163 rfl rfl (j := 45) rfl dX12_relation_40 (v := (M 163 45)) (by rw [hM_N_75, mu_k kd_163 kd_187 rfl]) rfl ?_
      refine kx_iconst 44 F dX12_relation_43 rfl ?_
      refine kx_iadd 45 F (v := (M 163 45) + 1) dX12_relation_44 rfl rfl ?_
      refine kx_puti 48 F fw_X12_459 rfl kd_163 rfl rfl (j := 45) rfl dX12_relation_45 rfl ?_
      intro N_76 hM_N_76
      have hI_N_76 : Inv true N_76 := Inv.u hI_N_75 hM_N_76 kd_163 (a := 0) (b := 64) rfl rfl rfl (by omega)
      have hF_N_76 : Fr f_e_relation M N_76 := Fr.u hF_N_75 hM_N_76 kd_163 rfl
      refine kx_aload_n 49 F 0 dX12_relation_48 rfl rfl rfl ?_
      refine kx_geti 52 F fl_X12_459 kd_163 rfl rfl (j := 45) rfl dX12_relation_49 (v := (M 163 45) + 1) (by rw [hM_N_76, mu_s]) rfl ?_
      refine kx_iconst 53 F dX12_relation_52 rfl ?_
      refine kx_isub 54 F (v := (M 163 45)) dX12_relation_53 (by omega) rfl ?_
      have e_77 : (N_76 163 45) = (M 163 45) + 1 := by rw [hM_N_76, mu_s]
      have e_80 : N_76 187 (M 163 45) = a1 := by rw [show M 163 45 = (M 163 45) by omega, hM_N_76, mu_k kd_187 kd_163 rfl, hM_N_75, mu_s]
      exact kx_iret F hQ ⟨hI_N_76, hF_N_76, (by omega), (RP.new (m := M 163 45) hO hg rfl (fun i h0 h1 => hp_72 i h0 (by omega)) (by omega) (fun j hj => by rw [hM_N_76, mu_k kd_187 kd_163 rfl, hM_N_75, mu_i (by omega)]) (by omega))⟩ dX12_relation_54
    · refine kx_aload_n 11 F 0 dX12_relation_10 rfl rfl rfl ?_
      refine kx_getr 14 F fl_X12_92 kd_163 rfl rfl (j := 40) rfl dX12_relation_11 (v := 187) (uq_187 (Inv.r hI_M kd_163 rfl 40 rfl rfl)) rfl ?_
      refine kx_iload_n 15 F 2 dX12_relation_14 rfl rfl rfl ?_
      refine kx_iald 16 F kd_187 rfl rfl (by omega) (by decide) dX12_relation_15 (v := (M 187 x2_66)) rfl rfl ?_
      have h_81 := Inv.g hI_M kd_187 rfl x2_66 (a := 0) (b := 511) rfl rfl
      refine kx_iload_n 17 F 1 dX12_relation_16 rfl rfl rfl ?_
      refine kx_icmp_ne 20 F 22 dX12_relation_17 (by decide) rfl (by omega) (by omega) (fun h_82 => ?_) (fun h_82 => ?_)
      · refine kx_iinc 25 F 2 (v := x2_66 + 1) (lo' := [some (vR G 163), some (vI a1), some (vI (x2_66 + 1))]) dX12_relation_22 rfl (by omega) (by decide) rfl rfl rfl ?_
        refine kx_goto 2 F dX12_relation_25 (by decide) ?_
        exact ih_69 _ (by omega) (x2_66 + 1) (NQ.step hp_72 (by omega) (by omega)) (by omega) rfl
      · refine kx_iload_n 21 F 2 dX12_relation_20 rfl rfl rfl ?_
        exact kx_iret F hQ ⟨hI_M, hF_M, (by omega), hO⟩ dX12_relation_21
  exact L_67 _ 0 (fun i h0 h1 => absurd h0 (by omega)) (by omega) rfl
set_option maxRecDepth 100000 in
theorem dGR_40_c_1158 : (decode cX12_laysSpans 0 = .ok (.iconst 0, 1)) ∧ (decode cX12_laysSpans 1 = .ok (.istore_n 3, 1)) ∧ (decode cX12_laysSpans 2 = .ok (.aload_n 0, 1)) ∧ (decode cX12_laysSpans 3 = .ok (.getfield 459, 3)) ∧ (decode cX12_laysSpans 6 = .ok (.istore 4, 2)) ∧ (decode cX12_laysSpans 8 = .ok (.iconst 0, 1)) ∧ (decode cX12_laysSpans 9 = .ok (.istore 5, 2)) ∧ (decode cX12_laysSpans 11 = .ok (.iload 5, 2)) ∧ (decode cX12_laysSpans 13 = .ok (.aload_n 0, 1)) ∧ (decode cX12_laysSpans 14 = .ok (.getfield 7, 3)) ∧ (decode cX12_laysSpans 17 = .ok (.iconst 0, 1)) ∧ (decode cX12_laysSpans 18 = .ok (.iaload, 1)) := by decide +kernel
theorem dX12_laysSpans_0 : decode cX12_laysSpans 0 = .ok (.iconst 0, 1) := dGR_40_c_1158.1
theorem dX12_laysSpans_1 : decode cX12_laysSpans 1 = .ok (.istore_n 3, 1) := dGR_40_c_1158.2.1
theorem dX12_laysSpans_2 : decode cX12_laysSpans 2 = .ok (.aload_n 0, 1) := dGR_40_c_1158.2.2.1
theorem dX12_laysSpans_3 : decode cX12_laysSpans 3 = .ok (.getfield 459, 3) := dGR_40_c_1158.2.2.2.1
theorem dX12_laysSpans_6 : decode cX12_laysSpans 6 = .ok (.istore 4, 2) := dGR_40_c_1158.2.2.2.2.1
theorem dX12_laysSpans_8 : decode cX12_laysSpans 8 = .ok (.iconst 0, 1) := dGR_40_c_1158.2.2.2.2.2.1
theorem dX12_laysSpans_9 : decode cX12_laysSpans 9 = .ok (.istore 5, 2) := dGR_40_c_1158.2.2.2.2.2.2.1
theorem dX12_laysSpans_11 : decode cX12_laysSpans 11 = .ok (.iload 5, 2) := dGR_40_c_1158.2.2.2.2.2.2.2.1
theorem dX12_laysSpans_13 : decode cX12_laysSpans 13 = .ok (.aload_n 0, 1) := dGR_40_c_1158.2.2.2.2.2.2.2.2.1
theorem dX12_laysSpans_14 : decode cX12_laysSpans 14 = .ok (.getfield 7, 3) := dGR_40_c_1158.2.2.2.2.2.2.2.2.2.1
theorem dX12_laysSpans_17 : decode cX12_laysSpans 17 = .ok (.iconst 0, 1) := dGR_40_c_1158.2.2.2.2.2.2.2.2.2.2.1
theorem dX12_laysSpans_18 : decode cX12_laysSpans 18 = .ok (.iaload, 1) := dGR_40_c_1158.2.2.2.2.2.2.2.2.2.2.2
set_option maxRecDepth 100000 in
theorem dGR_40_c_1159 : (decode cX12_laysSpans 19 = .ok (.if_icmp .ge 187, 3)) ∧ (decode cX12_laysSpans 22 = .ok (.aload_n 0, 1)) ∧ (decode cX12_laysSpans 23 = .ok (.getfield 7, 3)) ∧ (decode cX12_laysSpans 26 = .ok (.iconst 0, 1)) ∧ (decode cX12_laysSpans 27 = .ok (.iaload, 1)) ∧ (decode cX12_laysSpans 28 = .ok (.istore 6, 2)) ∧ (decode cX12_laysSpans 30 = .ok (.iload 6, 2)) ∧ (decode cX12_laysSpans 32 = .ok (.aload_n 0, 1)) ∧ (decode cX12_laysSpans 33 = .ok (.getfield 7, 3)) ∧ (decode cX12_laysSpans 36 = .ok (.iconst 0, 1)) ∧ (decode cX12_laysSpans 37 = .ok (.iaload, 1)) ∧ (decode cX12_laysSpans 38 = .ok (.aload_n 0, 1)) := by decide +kernel
theorem dX12_laysSpans_19 : decode cX12_laysSpans 19 = .ok (.if_icmp .ge 187, 3) := dGR_40_c_1159.1
theorem dX12_laysSpans_22 : decode cX12_laysSpans 22 = .ok (.aload_n 0, 1) := dGR_40_c_1159.2.1
theorem dX12_laysSpans_23 : decode cX12_laysSpans 23 = .ok (.getfield 7, 3) := dGR_40_c_1159.2.2.1
theorem dX12_laysSpans_26 : decode cX12_laysSpans 26 = .ok (.iconst 0, 1) := dGR_40_c_1159.2.2.2.1
theorem dX12_laysSpans_27 : decode cX12_laysSpans 27 = .ok (.iaload, 1) := dGR_40_c_1159.2.2.2.2.1
theorem dX12_laysSpans_28 : decode cX12_laysSpans 28 = .ok (.istore 6, 2) := dGR_40_c_1159.2.2.2.2.2.1
theorem dX12_laysSpans_30 : decode cX12_laysSpans 30 = .ok (.iload 6, 2) := dGR_40_c_1159.2.2.2.2.2.2.1
theorem dX12_laysSpans_32 : decode cX12_laysSpans 32 = .ok (.aload_n 0, 1) := dGR_40_c_1159.2.2.2.2.2.2.2.1
theorem dX12_laysSpans_33 : decode cX12_laysSpans 33 = .ok (.getfield 7, 3) := dGR_40_c_1159.2.2.2.2.2.2.2.2.1
theorem dX12_laysSpans_36 : decode cX12_laysSpans 36 = .ok (.iconst 0, 1) := dGR_40_c_1159.2.2.2.2.2.2.2.2.2.1
theorem dX12_laysSpans_37 : decode cX12_laysSpans 37 = .ok (.iaload, 1) := dGR_40_c_1159.2.2.2.2.2.2.2.2.2.2.1
theorem dX12_laysSpans_38 : decode cX12_laysSpans 38 = .ok (.aload_n 0, 1) := dGR_40_c_1159.2.2.2.2.2.2.2.2.2.2.2
set_option maxRecDepth 100000 in
theorem dGR_40_c_1160 : (decode cX12_laysSpans 39 = .ok (.getfield 7, 3)) ∧ (decode cX12_laysSpans 42 = .ok (.iconst 1, 1)) ∧ (decode cX12_laysSpans 43 = .ok (.iaload, 1)) ∧ (decode cX12_laysSpans 44 = .ok (.iadd, 1)) ∧ (decode cX12_laysSpans 45 = .ok (.if_icmp .ge 155, 3)) ∧ (decode cX12_laysSpans 48 = .ok (.iconst 0, 1)) ∧ (decode cX12_laysSpans 49 = .ok (.istore 7, 2)) ∧ (decode cX12_laysSpans 51 = .ok (.iload 7, 2)) ∧ (decode cX12_laysSpans 53 = .ok (.iload 4, 2)) ∧ (decode cX12_laysSpans 55 = .ok (.if_icmp .ge 139, 3)) ∧ (decode cX12_laysSpans 58 = .ok (.aload_n 0, 1)) ∧ (decode cX12_laysSpans 59 = .ok (.aload_n 0, 1)) := by decide +kernel
theorem dX12_laysSpans_39 : decode cX12_laysSpans 39 = .ok (.getfield 7, 3) := dGR_40_c_1160.1
theorem dX12_laysSpans_42 : decode cX12_laysSpans 42 = .ok (.iconst 1, 1) := dGR_40_c_1160.2.1
theorem dX12_laysSpans_43 : decode cX12_laysSpans 43 = .ok (.iaload, 1) := dGR_40_c_1160.2.2.1
theorem dX12_laysSpans_44 : decode cX12_laysSpans 44 = .ok (.iadd, 1) := dGR_40_c_1160.2.2.2.1
theorem dX12_laysSpans_45 : decode cX12_laysSpans 45 = .ok (.if_icmp .ge 155, 3) := dGR_40_c_1160.2.2.2.2.1
theorem dX12_laysSpans_48 : decode cX12_laysSpans 48 = .ok (.iconst 0, 1) := dGR_40_c_1160.2.2.2.2.2.1
theorem dX12_laysSpans_49 : decode cX12_laysSpans 49 = .ok (.istore 7, 2) := dGR_40_c_1160.2.2.2.2.2.2.1
theorem dX12_laysSpans_51 : decode cX12_laysSpans 51 = .ok (.iload 7, 2) := dGR_40_c_1160.2.2.2.2.2.2.2.1
theorem dX12_laysSpans_53 : decode cX12_laysSpans 53 = .ok (.iload 4, 2) := dGR_40_c_1160.2.2.2.2.2.2.2.2.1
theorem dX12_laysSpans_55 : decode cX12_laysSpans 55 = .ok (.if_icmp .ge 139, 3) := dGR_40_c_1160.2.2.2.2.2.2.2.2.2.1
theorem dX12_laysSpans_58 : decode cX12_laysSpans 58 = .ok (.aload_n 0, 1) := dGR_40_c_1160.2.2.2.2.2.2.2.2.2.2.1
theorem dX12_laysSpans_59 : decode cX12_laysSpans 59 = .ok (.aload_n 0, 1) := dGR_40_c_1160.2.2.2.2.2.2.2.2.2.2.2
set_option maxRecDepth 100000 in
theorem dGR_40_c_1161 : (decode cX12_laysSpans 60 = .ok (.iload_n 2, 1)) ∧ (decode cX12_laysSpans 61 = .ok (.aload_n 0, 1)) ∧ (decode cX12_laysSpans 62 = .ok (.getfield 92, 3)) ∧ (decode cX12_laysSpans 65 = .ok (.iload 7, 2)) ∧ (decode cX12_laysSpans 67 = .ok (.iaload, 1)) ∧ (decode cX12_laysSpans 68 = .ok (.iload 5, 2)) ∧ (decode cX12_laysSpans 70 = .ok (.iload 6, 2)) ∧ (decode cX12_laysSpans 72 = .ok (.invokevirtual 335, 3)) ∧ (decode cX12_laysSpans 75 = .ok (.invokevirtual 462, 3)) ∧ (decode cX12_laysSpans 78 = .ok (.istore 8, 2)) ∧ (decode cX12_laysSpans 80 = .ok (.iconst 0, 1)) ∧ (decode cX12_laysSpans 81 = .ok (.istore 9, 2)) := by decide +kernel
theorem dX12_laysSpans_60 : decode cX12_laysSpans 60 = .ok (.iload_n 2, 1) := dGR_40_c_1161.1
theorem dX12_laysSpans_61 : decode cX12_laysSpans 61 = .ok (.aload_n 0, 1) := dGR_40_c_1161.2.1
theorem dX12_laysSpans_62 : decode cX12_laysSpans 62 = .ok (.getfield 92, 3) := dGR_40_c_1161.2.2.1
theorem dX12_laysSpans_65 : decode cX12_laysSpans 65 = .ok (.iload 7, 2) := dGR_40_c_1161.2.2.2.1
theorem dX12_laysSpans_67 : decode cX12_laysSpans 67 = .ok (.iaload, 1) := dGR_40_c_1161.2.2.2.2.1
theorem dX12_laysSpans_68 : decode cX12_laysSpans 68 = .ok (.iload 5, 2) := dGR_40_c_1161.2.2.2.2.2.1
theorem dX12_laysSpans_70 : decode cX12_laysSpans 70 = .ok (.iload 6, 2) := dGR_40_c_1161.2.2.2.2.2.2.1
theorem dX12_laysSpans_72 : decode cX12_laysSpans 72 = .ok (.invokevirtual 335, 3) := dGR_40_c_1161.2.2.2.2.2.2.2.1
theorem dX12_laysSpans_75 : decode cX12_laysSpans 75 = .ok (.invokevirtual 462, 3) := dGR_40_c_1161.2.2.2.2.2.2.2.2.1
theorem dX12_laysSpans_78 : decode cX12_laysSpans 78 = .ok (.istore 8, 2) := dGR_40_c_1161.2.2.2.2.2.2.2.2.2.1
theorem dX12_laysSpans_80 : decode cX12_laysSpans 80 = .ok (.iconst 0, 1) := dGR_40_c_1161.2.2.2.2.2.2.2.2.2.2.1
theorem dX12_laysSpans_81 : decode cX12_laysSpans 81 = .ok (.istore 9, 2) := dGR_40_c_1161.2.2.2.2.2.2.2.2.2.2.2
set_option maxRecDepth 100000 in
theorem dGR_40_c_1162 : (decode cX12_laysSpans 83 = .ok (.iload 9, 2)) ∧ (decode cX12_laysSpans 85 = .ok (.bipush 9, 2)) ∧ (decode cX12_laysSpans 87 = .ok (.if_icmp .ge 101, 3)) ∧ (decode cX12_laysSpans 90 = .ok (.aload_n 0, 1)) ∧ (decode cX12_laysSpans 91 = .ok (.getfield 95, 3)) ∧ (decode cX12_laysSpans 94 = .ok (.bipush 64, 2)) ∧ (decode cX12_laysSpans 96 = .ok (.iload 9, 2)) ∧ (decode cX12_laysSpans 98 = .ok (.imul, 1)) ∧ (decode cX12_laysSpans 99 = .ok (.iload 7, 2)) ∧ (decode cX12_laysSpans 101 = .ok (.iadd, 1)) ∧ (decode cX12_laysSpans 102 = .ok (.iaload, 1)) ∧ (decode cX12_laysSpans 103 = .ok (.iconst 2, 1)) := by decide +kernel
theorem dX12_laysSpans_83 : decode cX12_laysSpans 83 = .ok (.iload 9, 2) := dGR_40_c_1162.1
theorem dX12_laysSpans_85 : decode cX12_laysSpans 85 = .ok (.bipush 9, 2) := dGR_40_c_1162.2.1
theorem dX12_laysSpans_87 : decode cX12_laysSpans 87 = .ok (.if_icmp .ge 101, 3) := dGR_40_c_1162.2.2.1
theorem dX12_laysSpans_90 : decode cX12_laysSpans 90 = .ok (.aload_n 0, 1) := dGR_40_c_1162.2.2.2.1
theorem dX12_laysSpans_91 : decode cX12_laysSpans 91 = .ok (.getfield 95, 3) := dGR_40_c_1162.2.2.2.2.1
theorem dX12_laysSpans_94 : decode cX12_laysSpans 94 = .ok (.bipush 64, 2) := dGR_40_c_1162.2.2.2.2.2.1
theorem dX12_laysSpans_96 : decode cX12_laysSpans 96 = .ok (.iload 9, 2) := dGR_40_c_1162.2.2.2.2.2.2.1
theorem dX12_laysSpans_98 : decode cX12_laysSpans 98 = .ok (.imul, 1) := dGR_40_c_1162.2.2.2.2.2.2.2.1
theorem dX12_laysSpans_99 : decode cX12_laysSpans 99 = .ok (.iload 7, 2) := dGR_40_c_1162.2.2.2.2.2.2.2.2.1
theorem dX12_laysSpans_101 : decode cX12_laysSpans 101 = .ok (.iadd, 1) := dGR_40_c_1162.2.2.2.2.2.2.2.2.2.1
theorem dX12_laysSpans_102 : decode cX12_laysSpans 102 = .ok (.iaload, 1) := dGR_40_c_1162.2.2.2.2.2.2.2.2.2.2.1
theorem dX12_laysSpans_103 : decode cX12_laysSpans 103 = .ok (.iconst 2, 1) := dGR_40_c_1162.2.2.2.2.2.2.2.2.2.2.2
set_option maxRecDepth 100000 in
theorem dGR_40_c_1163 : (decode cX12_laysSpans 104 = .ok (.iadd, 1)) ∧ (decode cX12_laysSpans 105 = .ok (.istore 10, 2)) ∧ (decode cX12_laysSpans 107 = .ok (.iconst 0, 1)) ∧ (decode cX12_laysSpans 108 = .ok (.istore 11, 2)) ∧ (decode cX12_laysSpans 110 = .ok (.iload 11, 2)) ∧ (decode cX12_laysSpans 112 = .ok (.bipush 9, 2)) ∧ (decode cX12_laysSpans 114 = .ok (.if_icmp .ge 68, 3)) ∧ (decode cX12_laysSpans 117 = .ok (.iload 10, 2)) ∧ (decode cX12_laysSpans 119 = .ok (.ldc_w 428, 3)) ∧ (decode cX12_laysSpans 122 = .ok (.if_icmp .ge 60, 3)) ∧ (decode cX12_laysSpans 125 = .ok (.aload_n 0, 1)) ∧ (decode cX12_laysSpans 126 = .ok (.iload_n 1, 1)) := by decide +kernel
theorem dX12_laysSpans_104 : decode cX12_laysSpans 104 = .ok (.iadd, 1) := dGR_40_c_1163.1
theorem dX12_laysSpans_105 : decode cX12_laysSpans 105 = .ok (.istore 10, 2) := dGR_40_c_1163.2.1
theorem dX12_laysSpans_107 : decode cX12_laysSpans 107 = .ok (.iconst 0, 1) := dGR_40_c_1163.2.2.1
theorem dX12_laysSpans_108 : decode cX12_laysSpans 108 = .ok (.istore 11, 2) := dGR_40_c_1163.2.2.2.1
theorem dX12_laysSpans_110 : decode cX12_laysSpans 110 = .ok (.iload 11, 2) := dGR_40_c_1163.2.2.2.2.1
theorem dX12_laysSpans_112 : decode cX12_laysSpans 112 = .ok (.bipush 9, 2) := dGR_40_c_1163.2.2.2.2.2.1
theorem dX12_laysSpans_114 : decode cX12_laysSpans 114 = .ok (.if_icmp .ge 68, 3) := dGR_40_c_1163.2.2.2.2.2.2.1
theorem dX12_laysSpans_117 : decode cX12_laysSpans 117 = .ok (.iload 10, 2) := dGR_40_c_1163.2.2.2.2.2.2.2.1
theorem dX12_laysSpans_119 : decode cX12_laysSpans 119 = .ok (.ldc_w 428, 3) := dGR_40_c_1163.2.2.2.2.2.2.2.2.1
theorem dX12_laysSpans_122 : decode cX12_laysSpans 122 = .ok (.if_icmp .ge 60, 3) := dGR_40_c_1163.2.2.2.2.2.2.2.2.2.1
theorem dX12_laysSpans_125 : decode cX12_laysSpans 125 = .ok (.aload_n 0, 1) := dGR_40_c_1163.2.2.2.2.2.2.2.2.2.2.1
theorem dX12_laysSpans_126 : decode cX12_laysSpans 126 = .ok (.iload_n 1, 1) := dGR_40_c_1163.2.2.2.2.2.2.2.2.2.2.2
set_option maxRecDepth 100000 in
theorem dGR_40_c_1164 : (decode cX12_laysSpans 127 = .ok (.iload 5, 2)) ∧ (decode cX12_laysSpans 129 = .ok (.iload 11, 2)) ∧ (decode cX12_laysSpans 131 = .ok (.iconst 3, 1)) ∧ (decode cX12_laysSpans 132 = .ok (.idiv, 1)) ∧ (decode cX12_laysSpans 133 = .ok (.iload 9, 2)) ∧ (decode cX12_laysSpans 135 = .ok (.iconst 3, 1)) ∧ (decode cX12_laysSpans 136 = .ok (.idiv, 1)) ∧ (decode cX12_laysSpans 137 = .ok (.iload 6, 2)) ∧ (decode cX12_laysSpans 139 = .ok (.iload 9, 2)) ∧ (decode cX12_laysSpans 141 = .ok (.iconst 3, 1)) ∧ (decode cX12_laysSpans 142 = .ok (.irem, 1)) ∧ (decode cX12_laysSpans 143 = .ok (.iload 11, 2)) := by decide +kernel
theorem dX12_laysSpans_127 : decode cX12_laysSpans 127 = .ok (.iload 5, 2) := dGR_40_c_1164.1
theorem dX12_laysSpans_129 : decode cX12_laysSpans 129 = .ok (.iload 11, 2) := dGR_40_c_1164.2.1
theorem dX12_laysSpans_131 : decode cX12_laysSpans 131 = .ok (.iconst 3, 1) := dGR_40_c_1164.2.2.1
theorem dX12_laysSpans_132 : decode cX12_laysSpans 132 = .ok (.idiv, 1) := dGR_40_c_1164.2.2.2.1
theorem dX12_laysSpans_133 : decode cX12_laysSpans 133 = .ok (.iload 9, 2) := dGR_40_c_1164.2.2.2.2.1
theorem dX12_laysSpans_135 : decode cX12_laysSpans 135 = .ok (.iconst 3, 1) := dGR_40_c_1164.2.2.2.2.2.1
theorem dX12_laysSpans_136 : decode cX12_laysSpans 136 = .ok (.idiv, 1) := dGR_40_c_1164.2.2.2.2.2.2.1
theorem dX12_laysSpans_137 : decode cX12_laysSpans 137 = .ok (.iload 6, 2) := dGR_40_c_1164.2.2.2.2.2.2.2.1
theorem dX12_laysSpans_139 : decode cX12_laysSpans 139 = .ok (.iload 9, 2) := dGR_40_c_1164.2.2.2.2.2.2.2.2.1
theorem dX12_laysSpans_141 : decode cX12_laysSpans 141 = .ok (.iconst 3, 1) := dGR_40_c_1164.2.2.2.2.2.2.2.2.2.1
theorem dX12_laysSpans_142 : decode cX12_laysSpans 142 = .ok (.irem, 1) := dGR_40_c_1164.2.2.2.2.2.2.2.2.2.2.1
theorem dX12_laysSpans_143 : decode cX12_laysSpans 143 = .ok (.iload 11, 2) := dGR_40_c_1164.2.2.2.2.2.2.2.2.2.2.2
set_option maxRecDepth 100000 in
theorem dGR_40_c_1165 : (decode cX12_laysSpans 145 = .ok (.iconst 3, 1)) ∧ (decode cX12_laysSpans 146 = .ok (.irem, 1)) ∧ (decode cX12_laysSpans 147 = .ok (.invokevirtual 429, 3)) ∧ (decode cX12_laysSpans 150 = .ok (.ifCond .eq 26, 3)) ∧ (decode cX12_laysSpans 153 = .ok (.aload_n 0, 1)) ∧ (decode cX12_laysSpans 154 = .ok (.aload_n 0, 1)) ∧ (decode cX12_laysSpans 155 = .ok (.getfield 98, 3)) ∧ (decode cX12_laysSpans 158 = .ok (.bipush 64, 2)) ∧ (decode cX12_laysSpans 160 = .ok (.iload 11, 2)) ∧ (decode cX12_laysSpans 162 = .ok (.imul, 1)) ∧ (decode cX12_laysSpans 163 = .ok (.iload 8, 2)) ∧ (decode cX12_laysSpans 165 = .ok (.iadd, 1)) := by decide +kernel
theorem dX12_laysSpans_145 : decode cX12_laysSpans 145 = .ok (.iconst 3, 1) := dGR_40_c_1165.1
theorem dX12_laysSpans_146 : decode cX12_laysSpans 146 = .ok (.irem, 1) := dGR_40_c_1165.2.1
theorem dX12_laysSpans_147 : decode cX12_laysSpans 147 = .ok (.invokevirtual 429, 3) := dGR_40_c_1165.2.2.1
theorem dX12_laysSpans_150 : decode cX12_laysSpans 150 = .ok (.ifCond .eq 26, 3) := dGR_40_c_1165.2.2.2.1
theorem dX12_laysSpans_153 : decode cX12_laysSpans 153 = .ok (.aload_n 0, 1) := dGR_40_c_1165.2.2.2.2.1
theorem dX12_laysSpans_154 : decode cX12_laysSpans 154 = .ok (.aload_n 0, 1) := dGR_40_c_1165.2.2.2.2.2.1
theorem dX12_laysSpans_155 : decode cX12_laysSpans 155 = .ok (.getfield 98, 3) := dGR_40_c_1165.2.2.2.2.2.2.1
theorem dX12_laysSpans_158 : decode cX12_laysSpans 158 = .ok (.bipush 64, 2) := dGR_40_c_1165.2.2.2.2.2.2.2.1
theorem dX12_laysSpans_160 : decode cX12_laysSpans 160 = .ok (.iload 11, 2) := dGR_40_c_1165.2.2.2.2.2.2.2.2.1
theorem dX12_laysSpans_162 : decode cX12_laysSpans 162 = .ok (.imul, 1) := dGR_40_c_1165.2.2.2.2.2.2.2.2.2.1
theorem dX12_laysSpans_163 : decode cX12_laysSpans 163 = .ok (.iload 8, 2) := dGR_40_c_1165.2.2.2.2.2.2.2.2.2.2.1
theorem dX12_laysSpans_165 : decode cX12_laysSpans 165 = .ok (.iadd, 1) := dGR_40_c_1165.2.2.2.2.2.2.2.2.2.2.2
set_option maxRecDepth 100000 in
theorem dGR_40_c_1166 : (decode cX12_laysSpans 166 = .ok (.iload 10, 2)) ∧ (decode cX12_laysSpans 168 = .ok (.invokevirtual 448, 3)) ∧ (decode cX12_laysSpans 171 = .ok (.ifCond .eq 5, 3)) ∧ (decode cX12_laysSpans 174 = .ok (.iconst 1, 1)) ∧ (decode cX12_laysSpans 175 = .ok (.istore_n 3, 1)) ∧ (decode cX12_laysSpans 176 = .ok (.iinc 11 1, 3)) ∧ (decode cX12_laysSpans 179 = .ok (.goto (-69), 3)) ∧ (decode cX12_laysSpans 182 = .ok (.iinc 9 1, 3)) ∧ (decode cX12_laysSpans 185 = .ok (.goto (-102), 3)) ∧ (decode cX12_laysSpans 188 = .ok (.iinc 7 1, 3)) ∧ (decode cX12_laysSpans 191 = .ok (.goto (-140), 3)) ∧ (decode cX12_laysSpans 194 = .ok (.iinc 6 1, 3)) := by decide +kernel
theorem dX12_laysSpans_166 : decode cX12_laysSpans 166 = .ok (.iload 10, 2) := dGR_40_c_1166.1
theorem dX12_laysSpans_168 : decode cX12_laysSpans 168 = .ok (.invokevirtual 448, 3) := dGR_40_c_1166.2.1
theorem dX12_laysSpans_171 : decode cX12_laysSpans 171 = .ok (.ifCond .eq 5, 3) := dGR_40_c_1166.2.2.1
theorem dX12_laysSpans_174 : decode cX12_laysSpans 174 = .ok (.iconst 1, 1) := dGR_40_c_1166.2.2.2.1
theorem dX12_laysSpans_175 : decode cX12_laysSpans 175 = .ok (.istore_n 3, 1) := dGR_40_c_1166.2.2.2.2.1
theorem dX12_laysSpans_176 : decode cX12_laysSpans 176 = .ok (.iinc 11 1, 3) := dGR_40_c_1166.2.2.2.2.2.1
theorem dX12_laysSpans_179 : decode cX12_laysSpans 179 = .ok (.goto (-69), 3) := dGR_40_c_1166.2.2.2.2.2.2.1
theorem dX12_laysSpans_182 : decode cX12_laysSpans 182 = .ok (.iinc 9 1, 3) := dGR_40_c_1166.2.2.2.2.2.2.2.1
theorem dX12_laysSpans_185 : decode cX12_laysSpans 185 = .ok (.goto (-102), 3) := dGR_40_c_1166.2.2.2.2.2.2.2.2.1
theorem dX12_laysSpans_188 : decode cX12_laysSpans 188 = .ok (.iinc 7 1, 3) := dGR_40_c_1166.2.2.2.2.2.2.2.2.2.1
theorem dX12_laysSpans_191 : decode cX12_laysSpans 191 = .ok (.goto (-140), 3) := dGR_40_c_1166.2.2.2.2.2.2.2.2.2.2.1
theorem dX12_laysSpans_194 : decode cX12_laysSpans 194 = .ok (.iinc 6 1, 3) := dGR_40_c_1166.2.2.2.2.2.2.2.2.2.2.2
set_option maxRecDepth 100000 in
theorem dGR_40_c_1167 : (decode cX12_laysSpans 197 = .ok (.goto (-167), 3)) ∧ (decode cX12_laysSpans 200 = .ok (.iinc 5 1, 3)) ∧ (decode cX12_laysSpans 203 = .ok (.goto (-192), 3)) ∧ (decode cX12_laysSpans 206 = .ok (.iload_n 3, 1)) ∧ (decode cX12_laysSpans 207 = .ok (.ireturn, 1)) := by decide +kernel
theorem dX12_laysSpans_197 : decode cX12_laysSpans 197 = .ok (.goto (-167), 3) := dGR_40_c_1167.1
theorem dX12_laysSpans_200 : decode cX12_laysSpans 200 = .ok (.iinc 5 1, 3) := dGR_40_c_1167.2.1
theorem dX12_laysSpans_203 : decode cX12_laysSpans 203 = .ok (.goto (-192), 3) := dGR_40_c_1167.2.2.1
theorem dX12_laysSpans_206 : decode cX12_laysSpans 206 = .ok (.iload_n 3, 1) := dGR_40_c_1167.2.2.2.1
theorem dX12_laysSpans_207 : decode cX12_laysSpans 207 = .ok (.ireturn, 1) := dGR_40_c_1167.2.2.2.2
abbrev f_e_laysSpans : List (Nat × Int) := [(64, 45), (86, -1), (87, -1)]
set_option maxHeartbeats 4000000 in
set_option maxRecDepth 100000 in
theorem e_laysSpans (G : KG) (l : Launch) (M : Mem) (a1 : Int) (a2 : Int) (hI_M : Inv true M) (hpre : -2147483648 ≤ a1 ∧ a1 ≤ 2147483647 ∧ -2147483648 ≤ a2 ∧ a2 ≤ 2147483647 ∧ 0 ≤ a1 ∧ a1 ≤ 2 ∧ 0 ≤ a2 ∧ a2 ≤ 1) {Aq : Int → Int} (hE : M 164 = Aq) (hD : LD M) (hO : RP M Aq a2) (hA : AOK Aq a2) (hC : Clo Aq a2) : KC true G l yX12_laysSpans cX12_laysSpans 12 (some .boolean) (3, 75) [vR G 163, vI a1, vI a2] M (fun A => kQi true G A (fun (r : Int) (N : Mem) => Inv true N ∧ Fr f_e_laysSpans M N ∧ ((r = 1 ∧ (tot 87 576 N) + 1 ≤ (tot 87 576 M)) ∨ (r = 0 ∧ (tot 87 576 N) ≤ (tot 87 576 M))) ∧ (RP N Aq a2))) := by
  refine kx_met (lo := [some (vR G 163), some (vI a1), some (vI a2), none, none, none, none, none, none, none, none, none]) (by decide) (Nat.le_of_ble_eq_true rfl) rfl ?_
  intro X F hQ
  have hF_M : Fr f_e_laysSpans M M := Fr.rf _ _
  subst hE
  have h_1 := Inv.g hI_M kd_164 rfl 0 (a := 0) (b := 2) (at_c 0 0 (o := 0) (lo := 0) (hi := 2) (by omega) (by decide) (by decide) (by decide)).1 (at_c 0 0 (o := 0) (lo := 0) (hi := 2) (by omega) (by decide) (by decide) (by decide)).2
  have h_2 := Inv.g hI_M kd_164 rfl 1 (a := 0) (b := 2) (at_c 1 0 (o := 1) (lo := 0) (hi := 2) (by omega) (by decide) (by decide) (by decide)).1 (at_c 1 0 (o := 1) (lo := 0) (hi := 2) (by omega) (by decide) (by decide) (by decide)).2
  have h_3 := Inv.g hI_M kd_164 rfl 2 (a := 0) (b := 2) (at_c 2 0 (o := 2) (lo := 0) (hi := 2) (by omega) (by decide) (by decide) (by decide)).1 (at_c 2 0 (o := 2) (lo := 0) (hi := 2) (by omega) (by decide) (by decide) (by decide)).2
  refine kx_iconst 1 F dX12_laysSpans_0 rfl ?_
  refine kx_istore_n 2 F 3 (lo' := [some (vR G 163), some (vI a1), some (vI a2), some (vI 0), none, none, none, none, none, none, none, none]) dX12_laysSpans_1 rfl (by decide) rfl rfl rfl ?_
  refine kx_aload_n 3 F 0 dX12_laysSpans_2 rfl rfl rfl ?_
  refine kx_geti 6 F fl_X12_459 kd_163 rfl rfl (j := 45) rfl dX12_laysSpans_3 (v := (M 163 45)) rfl rfl ?_
  have h_4 := Inv.g hI_M kd_163 rfl 45 (a := 0) (b := 64) rfl rfl
  refine kx_istore 8 F 4 (lo' := [some (vR G 163), some (vI a1), some (vI a2), some (vI 0), some (vI (M 163 45)), none, none, none, none, none, none, none]) dX12_laysSpans_6 (by decide) rfl rfl rfl ?_
  refine kx_iconst 9 F dX12_laysSpans_8 rfl ?_
  refine kx_istore 11 F 5 (lo' := [some (vR G 163), some (vI a1), some (vI a2), some (vI 0), some (vI (M 163 45)), some (vI 0), none, none, none, none, none, none]) dX12_laysSpans_9 (by decide) rfl rfl rfl ?_
  have L_104348 : ∀ (n_104349 : Nat) (x3_104345 : Int) (x5_104346 : Int) (N_104347 : Mem), Inv true N_104347 → Fr f_e_laysSpans M N_104347 → RP N_104347 (M 164) a2 → LD N_104347 → 0 ≤ x3_104345 ∧ x3_104345 ≤ 1 ∧ 0 ≤ x5_104346 ∧ x5_104346 ≤ 2 ∧ (tot 87 576 N_104347) + x3_104345 ≤ (tot 87 576 M) ∧ (M 163 45) ≤ (N_104347 163 45) → (2 - (x5_104346)).toNat = n_104349 → KJ true G X N_104347 11 [some (vR G 163), some (vI a1), some (vI a2), some (vI x3_104345), some (vI (M 163 45)), some (vI x5_104346), none, none, none, none, none, none] [] := by
    intro n_104349
    refine Nat.strongRecOn n_104349 ?_
    intro n_104349 ih_104350 x3_104345 x5_104346 N_104347 hI_N_104347 hF_N_104347 hp_104353 hp_104354 h_104351 hm_104352
    refine kx_iload 13 F 5 dX12_laysSpans_11 rfl rfl ?_
    refine kx_aload_n 14 F 0 dX12_laysSpans_13 rfl rfl rfl ?_
    refine kx_getr 17 F fl_X12_7 kd_163 rfl rfl (j := 0) rfl dX12_laysSpans_14 (v := 164) (uq_164 (Inv.r hI_N_104347 kd_163 rfl 0 rfl rfl)) rfl ?_
    refine kx_iconst 18 F dX12_laysSpans_17 rfl ?_
    refine kx_iald 19 F kd_164 rfl rfl (by omega) (by decide) dX12_laysSpans_18 (v := (M 164 0)) (by rw [Fr.e hF_N_104347 kd_164 _ rfl]) rfl ?_
    have ha_104355 : atlo 0 = 0 ∧ athi 0 = 2 := at_c 0 0 (o := 0) (lo := 0) (hi := 2) (by omega) (by decide) (by decide) (by decide)
    refine kx_icmp_ge 22 F 206 dX12_laysSpans_19 (by decide) rfl (by omega) (by omega) (fun h_104356 => ?_) (fun h_104356 => ?_)
    · refine kx_iload_n 207 F 3 dX12_laysSpans_206 rfl rfl rfl ?_
      exact kx_zret F hQ (by omega) ⟨hI_N_104347, hF_N_104347, (by omega), hp_104353⟩ dX12_laysSpans_207
    · refine kx_aload_n 23 F 0 dX12_laysSpans_22 rfl rfl rfl ?_
      refine kx_getr 26 F fl_X12_7 kd_163 rfl rfl (j := 0) rfl dX12_laysSpans_23 (v := 164) (uq_164 (Inv.r hI_N_104347 kd_163 rfl 0 rfl rfl)) rfl ?_
      refine kx_iconst 27 F dX12_laysSpans_26 rfl ?_
      refine kx_iald 28 F kd_164 rfl rfl (by omega) (by decide) dX12_laysSpans_27 (v := (M 164 0)) (by rw [Fr.e hF_N_104347 kd_164 _ rfl]) rfl ?_
      refine kx_istore 30 F 6 (lo' := [some (vR G 163), some (vI a1), some (vI a2), some (vI x3_104345), some (vI (M 163 45)), some (vI x5_104346), some (vI (M 164 0)), none, none, none, none, none]) dX12_laysSpans_28 (by decide) rfl rfl rfl ?_
      have L_130436 : ∀ (n_130437 : Nat) (x3_130433 : Int) (x6_130434 : Int) (N_130435 : Mem), Inv true N_130435 → Fr f_e_laysSpans M N_130435 → RP N_130435 (M 164) a2 → LD N_130435 → 0 ≤ x3_130433 ∧ x3_130433 ≤ 1 ∧ 1 ≤ x6_130434 ∧ x6_130434 ≤ 4 ∧ (tot 87 576 N_130435) + x3_130433 ≤ (tot 87 576 M) ∧ (M 163 45) ≤ (N_130435 163 45) ∧ (M 164 0) ≤ x6_130434 → (4 - (x6_130434)).toNat = n_130437 → KJ true G X N_130435 30 [some (vR G 163), some (vI a1), some (vI a2), some (vI x3_130433), some (vI (M 163 45)), some (vI x5_104346), some (vI x6_130434), none, none, none, none, none] [] := by
        intro n_130437
        refine Nat.strongRecOn n_130437 ?_
        intro n_130437 ih_130438 x3_130433 x6_130434 N_130435 hI_N_130435 hF_N_130435 hp_130441 hp_130442 h_130439 hm_130440
        refine kx_iload 32 F 6 dX12_laysSpans_30 rfl rfl ?_
        refine kx_aload_n 33 F 0 dX12_laysSpans_32 rfl rfl rfl ?_
        refine kx_getr 36 F fl_X12_7 kd_163 rfl rfl (j := 0) rfl dX12_laysSpans_33 (v := 164) (uq_164 (Inv.r hI_N_130435 kd_163 rfl 0 rfl rfl)) rfl ?_
        refine kx_iconst 37 F dX12_laysSpans_36 rfl ?_
        refine kx_iald 38 F kd_164 rfl rfl (by omega) (by decide) dX12_laysSpans_37 (v := (M 164 0)) (by rw [Fr.e hF_N_130435 kd_164 _ rfl]) rfl ?_
        refine kx_aload_n 39 F 0 dX12_laysSpans_38 rfl rfl rfl ?_
        refine kx_getr 42 F fl_X12_7 kd_163 rfl rfl (j := 0) rfl dX12_laysSpans_39 (v := 164) (uq_164 (Inv.r hI_N_130435 kd_163 rfl 0 rfl rfl)) rfl ?_
        refine kx_iconst 43 F dX12_laysSpans_42 rfl ?_
        refine kx_iald 44 F kd_164 rfl rfl (by omega) (by decide) dX12_laysSpans_43 (v := (M 164 1)) (by rw [Fr.e hF_N_130435 kd_164 _ rfl]) rfl ?_
        have ha_130443 : atlo 1 = 0 ∧ athi 1 = 2 := at_c 1 0 (o := 1) (lo := 0) (hi := 2) (by omega) (by decide) (by decide) (by decide)
        refine kx_iadd 45 F (v := (M 164 0) + (M 164 1)) dX12_laysSpans_44 rfl rfl ?_
        refine kx_icmp_ge 48 F 200 dX12_laysSpans_45 (by decide) rfl (by omega) (by omega) (fun h_130444 => ?_) (fun h_130444 => ?_)
        · refine kx_iinc 203 F 5 (v := x5_104346 + 1) (lo' := [some (vR G 163), some (vI a1), some (vI a2), some (vI x3_130433), some (vI (M 163 45)), some (vI (x5_104346 + 1)), some (vI x6_130434), none, none, none, none, none]) dX12_laysSpans_200 rfl (by omega) (by decide) rfl rfl rfl ?_
          refine kx_goto 11 F dX12_laysSpans_203 (by decide) ?_
          refine kx_drop 6 (lo' := [some (vR G 163), some (vI a1), some (vI a2), some (vI x3_130433), some (vI (M 163 45)), some (vI (x5_104346 + 1)), none, none, none, none, none, none]) rfl ?_
          have h_130445 := Inv.g hI_N_130435 kd_163 rfl 45 (a := 0) (b := 64) rfl rfl
          exact ih_104350 _ (by omega) x3_130433 (x5_104346 + 1) N_130435 hI_N_130435 hF_N_130435 hp_130441 hp_130442 (by omega) rfl
        · refine kx_iconst 49 F dX12_laysSpans_48 rfl ?_
          refine kx_istore 51 F 7 (lo' := [some (vR G 163), some (vI a1), some (vI a2), some (vI x3_130433), some (vI (M 163 45)), some (vI x5_104346), some (vI x6_130434), some (vI 0), none, none, none, none]) dX12_laysSpans_49 (by decide) rfl rfl rfl ?_
          have L_138044 : ∀ (n_138045 : Nat) (x3_138041 : Int) (x7_138042 : Int) (N_138043 : Mem), Inv true N_138043 → Fr f_e_laysSpans M N_138043 → RP N_138043 (M 164) a2 → LD N_138043 → 0 ≤ x3_138041 ∧ x3_138041 ≤ 1 ∧ 0 ≤ x7_138042 ∧ x7_138042 ≤ 64 ∧ (tot 87 576 N_138043) + x3_138041 ≤ (tot 87 576 M) ∧ (M 163 45) ≤ (N_138043 163 45) → (64 - (x7_138042)).toNat = n_138045 → KJ true G X N_138043 51 [some (vR G 163), some (vI a1), some (vI a2), some (vI x3_138041), some (vI (M 163 45)), some (vI x5_104346), some (vI x6_130434), some (vI x7_138042), none, none, none, none] [] := by
            intro n_138045
            refine Nat.strongRecOn n_138045 ?_
            intro n_138045 ih_138046 x3_138041 x7_138042 N_138043 hI_N_138043 hF_N_138043 hp_138049 hp_138050 h_138047 hm_138048
            refine kx_iload 53 F 7 dX12_laysSpans_51 rfl rfl ?_
            refine kx_iload 55 F 4 dX12_laysSpans_53 rfl rfl ?_
            refine kx_icmp_ge 58 F 194 dX12_laysSpans_55 (by decide) rfl (by omega) (by omega) (fun h_138051 => ?_) (fun h_138051 => ?_)
            · refine kx_iinc 197 F 6 (v := x6_130434 + 1) (lo' := [some (vR G 163), some (vI a1), some (vI a2), some (vI x3_138041), some (vI (M 163 45)), some (vI x5_104346), some (vI (x6_130434 + 1)), some (vI x7_138042), none, none, none, none]) dX12_laysSpans_194 rfl (by omega) (by decide) rfl rfl rfl ?_
              refine kx_goto 30 F dX12_laysSpans_197 (by decide) ?_
              refine kx_drop 7 (lo' := [some (vR G 163), some (vI a1), some (vI a2), some (vI x3_138041), some (vI (M 163 45)), some (vI x5_104346), some (vI (x6_130434 + 1)), none, none, none, none, none]) rfl ?_
              have h_138052 := Inv.g hI_N_138043 kd_163 rfl 45 (a := 0) (b := 64) rfl rfl
              exact ih_130438 _ (by omega) x3_138041 (x6_130434 + 1) N_138043 hI_N_138043 hF_N_138043 hp_138049 hp_138050 (by omega) rfl
            · refine kx_aload_n 59 F 0 dX12_laysSpans_58 rfl rfl rfl ?_
              refine kx_aload_n 60 F 0 dX12_laysSpans_59 rfl rfl rfl ?_
              refine kx_iload_n 61 F 2 dX12_laysSpans_60 rfl rfl rfl ?_
              refine kx_aload_n 62 F 0 dX12_laysSpans_61 rfl rfl rfl ?_
              refine kx_getr 65 F fl_X12_92 kd_163 rfl rfl (j := 40) rfl dX12_laysSpans_62 (v := 187) (uq_187 (Inv.r hI_N_138043 kd_163 rfl 40 rfl rfl)) rfl ?_
              refine kx_iload 67 F 7 dX12_laysSpans_65 rfl rfl ?_
              refine kx_iald 68 F kd_187 rfl rfl (by omega) (by decide) dX12_laysSpans_67 (v := (N_138043 187 x7_138042)) rfl rfl ?_
              have h_138053 := Inv.g hI_N_138043 kd_187 rfl x7_138042 (a := 0) (b := 511) rfl rfl
              refine kx_iload 70 F 5 dX12_laysSpans_68 rfl rfl ?_
              refine kx_iload 72 F 6 dX12_laysSpans_70 rfl rfl ?_
              refine kx_Vi 75 (ci := 0) F (As := [vI a2, vI (N_138043 187 x7_138042), vI x5_104346, vI x6_130434]) (st := [vR G 163]) vd_X12_335 (e_over G l N_138043 a2 (N_138043 187 x7_138042) x5_104346 x6_130434 hI_N_138043 (by omega)) kd_163 rfl rfl rfl ⟨by decide, by decide⟩ rfl rfl (Nat.le_of_ble_eq_true rfl) dX12_laysSpans_72 rfl ?_
              intro r_138054 N_138055 q_138056
              obtain ⟨rfl, q_138056c, hz_N_138055⟩ := q_138056
              refine kx_Vi 78 (ci := 0) F (As := [vI r_138054]) (st := []) vd_X12_462 (e_relation G l N_138043 r_138054 hI_N_138043 (by omega) hp_138049 hA hC (Gd.ov hp_138050 (funext (fun j => by rw [Fr.e hF_N_138043 kd_164 _ rfl])) hA hp_138049 (i := x7_138042) (c := x5_104346) (l := x6_130434) (by omega) (by omega) (by omega) (by omega) hz_N_138055)) kd_163 rfl rfl rfl ⟨by decide, by decide⟩ rfl rfl (Nat.le_of_ble_eq_true rfl) dX12_laysSpans_75 rfl ?_
              intro r_138057 N_138058 q_138059
              obtain ⟨hI_N_138058, hG_N_138058, q_138059c, ho_N_138058⟩ := q_138059
              have hF_N_138058 : Fr f_e_laysSpans M N_138058 := Fr.c hF_N_138043 hG_N_138058 rfl
              have ht_138060 := tot_fr 87 576 hG_N_138058 rfl
              have h_138061 := Inv.g hI_N_138058 kd_163 rfl 45 (a := 0) (b := 64) rfl rfl
              have h_138062 := Inv.g hI_N_138043 kd_163 rfl 45 (a := 0) (b := 64) rfl rfl
              refine kx_istore 80 F 8 (lo' := [some (vR G 163), some (vI a1), some (vI a2), some (vI x3_138041), some (vI (M 163 45)), some (vI x5_104346), some (vI x6_130434), some (vI x7_138042), some (vI r_138057), none, none, none]) dX12_laysSpans_78 (by decide) rfl rfl rfl ?_
              refine kx_iconst 81 F dX12_laysSpans_80 rfl ?_
              refine kx_istore 83 F 9 (lo' := [some (vR G 163), some (vI a1), some (vI a2), some (vI x3_138041), some (vI (M 163 45)), some (vI x5_104346), some (vI x6_130434), some (vI x7_138042), some (vI r_138057), some (vI 0), none, none]) dX12_laysSpans_81 (by decide) rfl rfl rfl ?_
              have L_138997 : ∀ (n_138998 : Nat) (x3_138994 : Int) (x9_138995 : Int) (N_138996 : Mem), Inv true N_138996 → Fr f_e_laysSpans M N_138996 → RP N_138996 (M 164) a2 → LD N_138996 → 0 ≤ x3_138994 ∧ x3_138994 ≤ 1 ∧ 0 ≤ x9_138995 ∧ x9_138995 ≤ 9 ∧ (tot 87 576 N_138996) + x3_138994 ≤ (tot 87 576 M) ∧ (M 163 45) ≤ (N_138996 163 45) → (9 - (x9_138995)).toNat = n_138998 → KJ true G X N_138996 83 [some (vR G 163), some (vI a1), some (vI a2), some (vI x3_138994), some (vI (M 163 45)), some (vI x5_104346), some (vI x6_130434), some (vI x7_138042), some (vI r_138057), some (vI x9_138995), none, none] [] := by
                intro n_138998
                refine Nat.strongRecOn n_138998 ?_
                intro n_138998 ih_138999 x3_138994 x9_138995 N_138996 hI_N_138996 hF_N_138996 hp_139002 hp_139003 h_139000 hm_139001
                refine kx_iload 85 F 9 dX12_laysSpans_83 rfl rfl ?_
                refine kx_bipush 87 F dX12_laysSpans_85 (by decide) rfl ?_
                refine kx_icmp_ge 90 F 188 dX12_laysSpans_87 (by decide) rfl (by omega) (by decide) (fun h_139004 => ?_) (fun h_139004 => ?_)
                · refine kx_iinc 191 F 7 (v := x7_138042 + 1) (lo' := [some (vR G 163), some (vI a1), some (vI a2), some (vI x3_138994), some (vI (M 163 45)), some (vI x5_104346), some (vI x6_130434), some (vI (x7_138042 + 1)), some (vI r_138057), some (vI x9_138995), none, none]) dX12_laysSpans_188 rfl (by omega) (by decide) rfl rfl rfl ?_
                  refine kx_goto 51 F dX12_laysSpans_191 (by decide) ?_
                  refine kx_drop 8 (lo' := [some (vR G 163), some (vI a1), some (vI a2), some (vI x3_138994), some (vI (M 163 45)), some (vI x5_104346), some (vI x6_130434), some (vI (x7_138042 + 1)), none, some (vI x9_138995), none, none]) rfl ?_
                  refine kx_drop 9 (lo' := [some (vR G 163), some (vI a1), some (vI a2), some (vI x3_138994), some (vI (M 163 45)), some (vI x5_104346), some (vI x6_130434), some (vI (x7_138042 + 1)), none, none, none, none]) rfl ?_
                  have h_139005 := Inv.g hI_N_138996 kd_163 rfl 45 (a := 0) (b := 64) rfl rfl
                  exact ih_138046 _ (by omega) x3_138994 (x7_138042 + 1) N_138996 hI_N_138996 hF_N_138996 hp_139002 hp_139003 (by omega) rfl
                · refine kx_aload_n 91 F 0 dX12_laysSpans_90 rfl rfl rfl ?_
                  refine kx_getr 94 F fl_X12_95 kd_163 rfl rfl (j := 41) rfl dX12_laysSpans_91 (v := (M 163 41)) (by rw [Fr.e hF_N_138996 kd_163 _ rfl]) rfl ?_
                  have hk_139006 : kd (M 163 41) = 87 := Inv.r hI_M kd_163 rfl 41 rfl rfl
                  refine kx_bipush 96 F dX12_laysSpans_94 (by decide) rfl ?_
                  refine kx_iload 98 F 9 dX12_laysSpans_96 rfl rfl ?_
                  refine kx_imul 99 F (v := 64 * x9_138995) dX12_laysSpans_98 (by omega) rfl ?_
                  refine kx_iload 101 F 7 dX12_laysSpans_99 rfl rfl ?_
                  refine kx_iadd 102 F (v := 64 * x9_138995 + x7_138042) dX12_laysSpans_101 rfl rfl ?_
                  refine kx_iald 103 F hk_139006 rfl rfl (by omega) (by decide) dX12_laysSpans_102 (v := (N_138996 (M 163 41) (64 * x9_138995 + x7_138042))) rfl rfl ?_
                  have h_139007 := Inv.g hI_N_138996 hk_139006 rfl (64 * x9_138995 + x7_138042) (a := 0) (b := 1000000) rfl rfl
                  refine kx_iconst 104 F dX12_laysSpans_103 rfl ?_
                  refine kx_iadd 105 F (v := (N_138996 (M 163 41) (64 * x9_138995 + x7_138042)) + 2) dX12_laysSpans_104 rfl rfl ?_
                  refine kx_istore 107 F 10 (lo' := [some (vR G 163), some (vI a1), some (vI a2), some (vI x3_138994), some (vI (M 163 45)), some (vI x5_104346), some (vI x6_130434), some (vI x7_138042), some (vI r_138057), some (vI x9_138995), some (vI ((N_138996 (M 163 41) (64 * x9_138995 + x7_138042)) + 2)), none]) dX12_laysSpans_105 (by decide) rfl rfl rfl ?_
                  refine kx_iconst 108 F dX12_laysSpans_107 rfl ?_
                  refine kx_istore 110 F 11 (lo' := [some (vR G 163), some (vI a1), some (vI a2), some (vI x3_138994), some (vI (M 163 45)), some (vI x5_104346), some (vI x6_130434), some (vI x7_138042), some (vI r_138057), some (vI x9_138995), some (vI ((N_138996 (M 163 41) (64 * x9_138995 + x7_138042)) + 2)), some (vI 0)]) dX12_laysSpans_108 (by decide) rfl rfl rfl ?_
                  have L_139116 : ∀ (n_139117 : Nat) (x3_139113 : Int) (x11_139114 : Int) (N_139115 : Mem), Inv true N_139115 → Fr f_e_laysSpans M N_139115 → RP N_139115 (M 164) a2 → LD N_139115 → 0 ≤ x3_139113 ∧ x3_139113 ≤ 1 ∧ 0 ≤ x11_139114 ∧ x11_139114 ≤ 9 ∧ (tot 87 576 N_139115) + x3_139113 ≤ (tot 87 576 M) ∧ (M 163 45) ≤ (N_139115 163 45) → (9 - (x11_139114)).toNat = n_139117 → KJ true G X N_139115 110 [some (vR G 163), some (vI a1), some (vI a2), some (vI x3_139113), some (vI (M 163 45)), some (vI x5_104346), some (vI x6_130434), some (vI x7_138042), some (vI r_138057), some (vI x9_138995), some (vI ((N_138996 (M 163 41) (64 * x9_138995 + x7_138042)) + 2)), some (vI x11_139114)] [] := by
                    intro n_139117
                    refine Nat.strongRecOn n_139117 ?_
                    intro n_139117 ih_139118 x3_139113 x11_139114 N_139115 hI_N_139115 hF_N_139115 hp_139121 hp_139122 h_139119 hm_139120
                    refine kx_iload 112 F 11 dX12_laysSpans_110 rfl rfl ?_
                    refine kx_bipush 114 F dX12_laysSpans_112 (by decide) rfl ?_
                    refine kx_icmp_ge 117 F 182 dX12_laysSpans_114 (by decide) rfl (by omega) (by decide) (fun h_139123 => ?_) (fun h_139123 => ?_)
                    · refine kx_iinc 185 F 9 (v := x9_138995 + 1) (lo' := [some (vR G 163), some (vI a1), some (vI a2), some (vI x3_139113), some (vI (M 163 45)), some (vI x5_104346), some (vI x6_130434), some (vI x7_138042), some (vI r_138057), some (vI (x9_138995 + 1)), some (vI ((N_138996 (M 163 41) (64 * x9_138995 + x7_138042)) + 2)), some (vI x11_139114)]) dX12_laysSpans_182 rfl (by omega) (by decide) rfl rfl rfl ?_
                      refine kx_goto 83 F dX12_laysSpans_185 (by decide) ?_
                      refine kx_drop 10 (lo' := [some (vR G 163), some (vI a1), some (vI a2), some (vI x3_139113), some (vI (M 163 45)), some (vI x5_104346), some (vI x6_130434), some (vI x7_138042), some (vI r_138057), some (vI (x9_138995 + 1)), none, some (vI x11_139114)]) rfl ?_
                      refine kx_drop 11 (lo' := [some (vR G 163), some (vI a1), some (vI a2), some (vI x3_139113), some (vI (M 163 45)), some (vI x5_104346), some (vI x6_130434), some (vI x7_138042), some (vI r_138057), some (vI (x9_138995 + 1)), none, none]) rfl ?_
                      have h_139124 := Inv.g hI_N_139115 kd_163 rfl 45 (a := 0) (b := 64) rfl rfl
                      exact ih_138999 _ (by omega) x3_139113 (x9_138995 + 1) N_139115 hI_N_139115 hF_N_139115 hp_139121 hp_139122 (by omega) rfl
                    · refine kx_iload 119 F 10 dX12_laysSpans_117 rfl rfl ?_
                      refine kx_ldcw 122 (z := 1000000) F dX12_laysSpans_119 ct_X12_428 rfl ?_
                      refine kx_icmp_ge 125 F 182 dX12_laysSpans_122 (by decide) rfl (by omega) (by decide) (fun h_139125 => ?_) (fun h_139125 => ?_)
                      · refine kx_iinc 185 F 9 (v := x9_138995 + 1) (lo' := [some (vR G 163), some (vI a1), some (vI a2), some (vI x3_139113), some (vI (M 163 45)), some (vI x5_104346), some (vI x6_130434), some (vI x7_138042), some (vI r_138057), some (vI (x9_138995 + 1)), some (vI ((N_138996 (M 163 41) (64 * x9_138995 + x7_138042)) + 2)), some (vI x11_139114)]) dX12_laysSpans_182 rfl (by omega) (by decide) rfl rfl rfl ?_
                        refine kx_goto 83 F dX12_laysSpans_185 (by decide) ?_
                        refine kx_drop 10 (lo' := [some (vR G 163), some (vI a1), some (vI a2), some (vI x3_139113), some (vI (M 163 45)), some (vI x5_104346), some (vI x6_130434), some (vI x7_138042), some (vI r_138057), some (vI (x9_138995 + 1)), none, some (vI x11_139114)]) rfl ?_
                        refine kx_drop 11 (lo' := [some (vR G 163), some (vI a1), some (vI a2), some (vI x3_139113), some (vI (M 163 45)), some (vI x5_104346), some (vI x6_130434), some (vI x7_138042), some (vI r_138057), some (vI (x9_138995 + 1)), none, none]) rfl ?_
                        have h_139126 := Inv.g hI_N_139115 kd_163 rfl 45 (a := 0) (b := 64) rfl rfl
                        exact ih_138999 _ (by omega) x3_139113 (x9_138995 + 1) N_139115 hI_N_139115 hF_N_139115 hp_139121 hp_139122 (by omega) rfl
                      · refine kx_aload_n 126 F 0 dX12_laysSpans_125 rfl rfl rfl ?_
                        refine kx_iload_n 127 F 1 dX12_laysSpans_126 rfl rfl rfl ?_
                        refine kx_iload 129 F 5 dX12_laysSpans_127 rfl rfl ?_
                        refine kx_iload 131 F 11 dX12_laysSpans_129 rfl rfl ?_
                        refine kx_iconst 132 F dX12_laysSpans_131 rfl ?_
                        refine kx_idiv 133 F (v := (x11_139114 / 3)) dX12_laysSpans_132 (by omega) (by decide) rfl rfl ?_
                        refine kx_iload 135 F 9 dX12_laysSpans_133 rfl rfl ?_
                        refine kx_iconst 136 F dX12_laysSpans_135 rfl ?_
                        refine kx_idiv 137 F (v := (x9_138995 / 3)) dX12_laysSpans_136 (by omega) (by decide) rfl rfl ?_
                        refine kx_iload 139 F 6 dX12_laysSpans_137 rfl rfl ?_
                        refine kx_iload 141 F 9 dX12_laysSpans_139 rfl rfl ?_
                        refine kx_iconst 142 F dX12_laysSpans_141 rfl ?_
                        refine kx_irem 143 F (v := (x9_138995 % 3)) dX12_laysSpans_142 (by omega) (by decide) rfl rfl ?_
                        refine kx_iload 145 F 11 dX12_laysSpans_143 rfl rfl ?_
                        refine kx_iconst 146 F dX12_laysSpans_145 rfl ?_
                        refine kx_irem 147 F (v := (x11_139114 % 3)) dX12_laysSpans_146 (by omega) (by decide) rfl rfl ?_
                        refine kx_Vi 150 (ci := 0) F (As := [vI a1, vI x5_104346, vI (x11_139114 / 3), vI (x9_138995 / 3), vI x6_130434, vI (x9_138995 % 3), vI (x11_139114 % 3)]) (st := []) vd_X12_429 (c_X12_fits G l N_139115 a1 x5_104346 (x11_139114 / 3) (x9_138995 / 3) x6_130434 (x9_138995 % 3) (x11_139114 % 3) hI_N_139115 (by omega)) kd_163 rfl rfl rfl ⟨by decide, by decide⟩ rfl rfl (Nat.le_of_ble_eq_true rfl) dX12_laysSpans_147 rfl ?_
                        intro r_139127 N_139128 q_139129
                        obtain ⟨rfl, q_139129c⟩ := q_139129
                        refine kx_if_eq 153 F 176 dX12_laysSpans_150 (by decide) rfl (by omega) (fun h_139130 => ?_) (fun h_139130 => ?_)
                        · refine kx_iinc 179 F 11 (v := x11_139114 + 1) (lo' := [some (vR G 163), some (vI a1), some (vI a2), some (vI x3_139113), some (vI (M 163 45)), some (vI x5_104346), some (vI x6_130434), some (vI x7_138042), some (vI r_138057), some (vI x9_138995), some (vI ((N_138996 (M 163 41) (64 * x9_138995 + x7_138042)) + 2)), some (vI (x11_139114 + 1))]) dX12_laysSpans_176 rfl (by omega) (by decide) rfl rfl rfl ?_
                          refine kx_goto 110 F dX12_laysSpans_179 (by decide) ?_
                          have h_139131 := Inv.g hI_N_139115 kd_163 rfl 45 (a := 0) (b := 64) rfl rfl
                          exact ih_139118 _ (by omega) x3_139113 (x11_139114 + 1) N_139115 hI_N_139115 hF_N_139115 hp_139121 hp_139122 (by omega) rfl
                        · refine kx_aload_n 154 F 0 dX12_laysSpans_153 rfl rfl rfl ?_
                          refine kx_aload_n 155 F 0 dX12_laysSpans_154 rfl rfl rfl ?_
                          refine kx_getr 158 F fl_X12_98 kd_163 rfl rfl (j := 42) rfl dX12_laysSpans_155 (v := (M 163 42)) (by rw [Fr.e hF_N_139115 kd_163 _ rfl]) rfl ?_
                          have hk_139132 : kd (M 163 42) = 87 := Inv.r hI_M kd_163 rfl 42 rfl rfl
                          refine kx_bipush 160 F dX12_laysSpans_158 (by decide) rfl ?_
                          refine kx_iload 162 F 11 dX12_laysSpans_160 rfl rfl ?_
                          refine kx_imul 163 F (v := 64 * x11_139114) dX12_laysSpans_162 (by omega) rfl ?_
                          refine kx_iload 165 F 8 dX12_laysSpans_163 rfl rfl ?_
                          refine kx_iadd 166 F (v := 64 * x11_139114 + r_138057) dX12_laysSpans_165 rfl rfl ?_
                          refine kx_iload 168 F 10 dX12_laysSpans_166 rfl rfl ?_
                          refine kx_Vi 171 (ci := 0) F (As := [vR G (M 163 42), vI (64 * x11_139114 + r_138057), vI ((N_138996 (M 163 41) (64 * x9_138995 + x7_138042)) + 2)]) (st := []) vd_X12_448 (c_lowTG G l N_139115 (M 163 42) (64 * x11_139114 + r_138057) ((N_138996 (M 163 41) (64 * x9_138995 + x7_138042)) + 2) hI_N_139115 hk_139132 (by omega)) kd_163 rfl rfl rfl ⟨by decide, by decide⟩ rfl rfl (Nat.le_of_ble_eq_true rfl) dX12_laysSpans_168 rfl ?_
                          intro r_139133 N_139134 q_139135
                          obtain ⟨hI_N_139134, hG_N_139134, q_139135c⟩ := q_139135
                          have hF_N_139134 : Fr f_e_laysSpans M N_139134 := Fr.c hF_N_139115 hG_N_139134 rfl
                          rcases q_139135c with q_139135c | q_139135c
                          · refine kx_if_eq 174 F 176 dX12_laysSpans_171 (by decide) rfl (by omega) (fun h_139136 => (by exfalso; omega)) (fun h_139136 => ?_)
                            refine kx_iconst 175 F dX12_laysSpans_174 rfl ?_
                            refine kx_istore_n 176 F 3 (lo' := [some (vR G 163), some (vI a1), some (vI a2), some (vI 1), some (vI (M 163 45)), some (vI x5_104346), some (vI x6_130434), some (vI x7_138042), some (vI r_138057), some (vI x9_138995), some (vI ((N_138996 (M 163 41) (64 * x9_138995 + x7_138042)) + 2)), some (vI x11_139114)]) dX12_laysSpans_175 rfl (by decide) rfl rfl rfl ?_
                            refine kx_iinc 179 F 11 (v := x11_139114 + 1) (lo' := [some (vR G 163), some (vI a1), some (vI a2), some (vI 1), some (vI (M 163 45)), some (vI x5_104346), some (vI x6_130434), some (vI x7_138042), some (vI r_138057), some (vI x9_138995), some (vI ((N_138996 (M 163 41) (64 * x9_138995 + x7_138042)) + 2)), some (vI (x11_139114 + 1))]) dX12_laysSpans_176 rfl (by omega) (by decide) rfl rfl rfl ?_
                            refine kx_goto 110 F dX12_laysSpans_179 (by decide) ?_
                            have hp_139137 : RP N_139134 (M 164) a2 := RP.fr hp_139121 hG_N_139134 rfl rfl
                            have hp_139138 : LD N_139134  := LD.fr hp_139122 hG_N_139134 rfl rfl
                            have e_139139 : (N_139134 163 45) = (N_139115 163 45) := by rw [Fr.e hG_N_139134 kd_163 _ rfl]
                            have h_139140 := Inv.g hI_N_139115 kd_163 rfl 45 (a := 0) (b := 64) rfl rfl
                            exact ih_139118 _ (by omega) 1 (x11_139114 + 1) N_139134 hI_N_139134 hF_N_139134 hp_139137 hp_139138 (by omega) rfl
                          · refine kx_if_eq 174 F 176 dX12_laysSpans_171 (by decide) rfl (by omega) (fun h_139141 => ?_) (fun h_139141 => (by exfalso; omega))
                            refine kx_iinc 179 F 11 (v := x11_139114 + 1) (lo' := [some (vR G 163), some (vI a1), some (vI a2), some (vI x3_139113), some (vI (M 163 45)), some (vI x5_104346), some (vI x6_130434), some (vI x7_138042), some (vI r_138057), some (vI x9_138995), some (vI ((N_138996 (M 163 41) (64 * x9_138995 + x7_138042)) + 2)), some (vI (x11_139114 + 1))]) dX12_laysSpans_176 rfl (by omega) (by decide) rfl rfl rfl ?_
                            refine kx_goto 110 F dX12_laysSpans_179 (by decide) ?_
                            have hp_139142 : RP N_139134 (M 164) a2 := RP.fr hp_139121 hG_N_139134 rfl rfl
                            have hp_139143 : LD N_139134  := LD.fr hp_139122 hG_N_139134 rfl rfl
                            have e_139144 : (N_139134 163 45) = (N_139115 163 45) := by rw [Fr.e hG_N_139134 kd_163 _ rfl]
                            have h_139145 := Inv.g hI_N_139115 kd_163 rfl 45 (a := 0) (b := 64) rfl rfl
                            exact ih_139118 _ (by omega) x3_139113 (x11_139114 + 1) N_139134 hI_N_139134 hF_N_139134 hp_139142 hp_139143 (by omega) rfl
                  have h_139146 := Inv.g hI_N_138996 kd_163 rfl 45 (a := 0) (b := 64) rfl rfl
                  exact L_139116 _ x3_138994 0 N_138996 hI_N_138996 hF_N_138996 hp_139002 hp_139003 (by omega) rfl
              have hp_139147 : LD N_138058  := LD.fr hp_138050 hG_N_138058 rfl rfl
              exact L_138997 _ x3_138041 0 N_138058 hI_N_138058 hF_N_138058 ho_N_138058 hp_139147 (by omega) rfl
          have h_139148 := Inv.g hI_N_130435 kd_163 rfl 45 (a := 0) (b := 64) rfl rfl
          exact L_138044 _ x3_130433 0 N_130435 hI_N_130435 hF_N_130435 hp_130441 hp_130442 (by omega) rfl
      have h_139149 := Inv.g hI_N_104347 kd_163 rfl 45 (a := 0) (b := 64) rfl rfl
      exact L_130436 _ x3_104345 (M 164 0) N_104347 hI_N_104347 hF_N_104347 hp_104353 hp_104354 (by omega) rfl
  exact L_104348 _ 0 0 M hI_M hF_M hO hD (by omega) rfl
set_option maxRecDepth 100000 in
theorem dGR_40_c_1168 : (decode cX12_laysInner 0 = .ok (.iconst 0, 1)) ∧ (decode cX12_laysInner 1 = .ok (.istore_n 3, 1)) ∧ (decode cX12_laysInner 2 = .ok (.aload_n 0, 1)) ∧ (decode cX12_laysInner 3 = .ok (.getfield 459, 3)) ∧ (decode cX12_laysInner 6 = .ok (.istore 4, 2)) ∧ (decode cX12_laysInner 8 = .ok (.aload_n 0, 1)) ∧ (decode cX12_laysInner 9 = .ok (.getfield 7, 3)) ∧ (decode cX12_laysInner 12 = .ok (.iconst 0, 1)) ∧ (decode cX12_laysInner 13 = .ok (.iaload, 1)) ∧ (decode cX12_laysInner 14 = .ok (.aload_n 0, 1)) ∧ (decode cX12_laysInner 15 = .ok (.getfield 7, 3)) ∧ (decode cX12_laysInner 18 = .ok (.iconst 1, 1)) := by decide +kernel
theorem dX12_laysInner_0 : decode cX12_laysInner 0 = .ok (.iconst 0, 1) := dGR_40_c_1168.1
theorem dX12_laysInner_1 : decode cX12_laysInner 1 = .ok (.istore_n 3, 1) := dGR_40_c_1168.2.1
theorem dX12_laysInner_2 : decode cX12_laysInner 2 = .ok (.aload_n 0, 1) := dGR_40_c_1168.2.2.1
theorem dX12_laysInner_3 : decode cX12_laysInner 3 = .ok (.getfield 459, 3) := dGR_40_c_1168.2.2.2.1
theorem dX12_laysInner_6 : decode cX12_laysInner 6 = .ok (.istore 4, 2) := dGR_40_c_1168.2.2.2.2.1
theorem dX12_laysInner_8 : decode cX12_laysInner 8 = .ok (.aload_n 0, 1) := dGR_40_c_1168.2.2.2.2.2.1
theorem dX12_laysInner_9 : decode cX12_laysInner 9 = .ok (.getfield 7, 3) := dGR_40_c_1168.2.2.2.2.2.2.1
theorem dX12_laysInner_12 : decode cX12_laysInner 12 = .ok (.iconst 0, 1) := dGR_40_c_1168.2.2.2.2.2.2.2.1
theorem dX12_laysInner_13 : decode cX12_laysInner 13 = .ok (.iaload, 1) := dGR_40_c_1168.2.2.2.2.2.2.2.2.1
theorem dX12_laysInner_14 : decode cX12_laysInner 14 = .ok (.aload_n 0, 1) := dGR_40_c_1168.2.2.2.2.2.2.2.2.2.1
theorem dX12_laysInner_15 : decode cX12_laysInner 15 = .ok (.getfield 7, 3) := dGR_40_c_1168.2.2.2.2.2.2.2.2.2.2.1
theorem dX12_laysInner_18 : decode cX12_laysInner 18 = .ok (.iconst 1, 1) := dGR_40_c_1168.2.2.2.2.2.2.2.2.2.2.2
set_option maxRecDepth 100000 in
theorem dGR_40_c_1169 : (decode cX12_laysInner 19 = .ok (.iaload, 1)) ∧ (decode cX12_laysInner 20 = .ok (.iadd, 1)) ∧ (decode cX12_laysInner 21 = .ok (.istore 5, 2)) ∧ (decode cX12_laysInner 23 = .ok (.iload 5, 2)) ∧ (decode cX12_laysInner 25 = .ok (.aload_n 0, 1)) ∧ (decode cX12_laysInner 26 = .ok (.invokevirtual 285, 3)) ∧ (decode cX12_laysInner 29 = .ok (.if_icmp .ge 163, 3)) ∧ (decode cX12_laysInner 32 = .ok (.aload_n 0, 1)) ∧ (decode cX12_laysInner 33 = .ok (.iload_n 1, 1)) ∧ (decode cX12_laysInner 34 = .ok (.iload 5, 2)) ∧ (decode cX12_laysInner 36 = .ok (.bipush 8, 2)) ∧ (decode cX12_laysInner 38 = .ok (.invokevirtual 323, 3)) := by decide +kernel
theorem dX12_laysInner_19 : decode cX12_laysInner 19 = .ok (.iaload, 1) := dGR_40_c_1169.1
theorem dX12_laysInner_20 : decode cX12_laysInner 20 = .ok (.iadd, 1) := dGR_40_c_1169.2.1
theorem dX12_laysInner_21 : decode cX12_laysInner 21 = .ok (.istore 5, 2) := dGR_40_c_1169.2.2.1
theorem dX12_laysInner_23 : decode cX12_laysInner 23 = .ok (.iload 5, 2) := dGR_40_c_1169.2.2.2.1
theorem dX12_laysInner_25 : decode cX12_laysInner 25 = .ok (.aload_n 0, 1) := dGR_40_c_1169.2.2.2.2.1
theorem dX12_laysInner_26 : decode cX12_laysInner 26 = .ok (.invokevirtual 285, 3) := dGR_40_c_1169.2.2.2.2.2.1
theorem dX12_laysInner_29 : decode cX12_laysInner 29 = .ok (.if_icmp .ge 163, 3) := dGR_40_c_1169.2.2.2.2.2.2.1
theorem dX12_laysInner_32 : decode cX12_laysInner 32 = .ok (.aload_n 0, 1) := dGR_40_c_1169.2.2.2.2.2.2.2.1
theorem dX12_laysInner_33 : decode cX12_laysInner 33 = .ok (.iload_n 1, 1) := dGR_40_c_1169.2.2.2.2.2.2.2.2.1
theorem dX12_laysInner_34 : decode cX12_laysInner 34 = .ok (.iload 5, 2) := dGR_40_c_1169.2.2.2.2.2.2.2.2.2.1
theorem dX12_laysInner_36 : decode cX12_laysInner 36 = .ok (.bipush 8, 2) := dGR_40_c_1169.2.2.2.2.2.2.2.2.2.2.1
theorem dX12_laysInner_38 : decode cX12_laysInner 38 = .ok (.invokevirtual 323, 3) := dGR_40_c_1169.2.2.2.2.2.2.2.2.2.2.2
set_option maxRecDepth 100000 in
theorem dGR_40_c_1170 : (decode cX12_laysInner 41 = .ok (.istore 6, 2)) ∧ (decode cX12_laysInner 43 = .ok (.iconst 0, 1)) ∧ (decode cX12_laysInner 44 = .ok (.istore 7, 2)) ∧ (decode cX12_laysInner 46 = .ok (.iload 7, 2)) ∧ (decode cX12_laysInner 48 = .ok (.iload 4, 2)) ∧ (decode cX12_laysInner 50 = .ok (.if_icmp .ge 136, 3)) ∧ (decode cX12_laysInner 53 = .ok (.aload_n 0, 1)) ∧ (decode cX12_laysInner 54 = .ok (.aload_n 0, 1)) ∧ (decode cX12_laysInner 55 = .ok (.getfield 92, 3)) ∧ (decode cX12_laysInner 58 = .ok (.iload 7, 2)) ∧ (decode cX12_laysInner 60 = .ok (.iaload, 1)) ∧ (decode cX12_laysInner 61 = .ok (.aload_n 0, 1)) := by decide +kernel
theorem dX12_laysInner_41 : decode cX12_laysInner 41 = .ok (.istore 6, 2) := dGR_40_c_1170.1
theorem dX12_laysInner_43 : decode cX12_laysInner 43 = .ok (.iconst 0, 1) := dGR_40_c_1170.2.1
theorem dX12_laysInner_44 : decode cX12_laysInner 44 = .ok (.istore 7, 2) := dGR_40_c_1170.2.2.1
theorem dX12_laysInner_46 : decode cX12_laysInner 46 = .ok (.iload 7, 2) := dGR_40_c_1170.2.2.2.1
theorem dX12_laysInner_48 : decode cX12_laysInner 48 = .ok (.iload 4, 2) := dGR_40_c_1170.2.2.2.2.1
theorem dX12_laysInner_50 : decode cX12_laysInner 50 = .ok (.if_icmp .ge 136, 3) := dGR_40_c_1170.2.2.2.2.2.1
theorem dX12_laysInner_53 : decode cX12_laysInner 53 = .ok (.aload_n 0, 1) := dGR_40_c_1170.2.2.2.2.2.2.1
theorem dX12_laysInner_54 : decode cX12_laysInner 54 = .ok (.aload_n 0, 1) := dGR_40_c_1170.2.2.2.2.2.2.2.1
theorem dX12_laysInner_55 : decode cX12_laysInner 55 = .ok (.getfield 92, 3) := dGR_40_c_1170.2.2.2.2.2.2.2.2.1
theorem dX12_laysInner_58 : decode cX12_laysInner 58 = .ok (.iload 7, 2) := dGR_40_c_1170.2.2.2.2.2.2.2.2.2.1
theorem dX12_laysInner_60 : decode cX12_laysInner 60 = .ok (.iaload, 1) := dGR_40_c_1170.2.2.2.2.2.2.2.2.2.2.1
theorem dX12_laysInner_61 : decode cX12_laysInner 61 = .ok (.aload_n 0, 1) := dGR_40_c_1170.2.2.2.2.2.2.2.2.2.2.2
set_option maxRecDepth 100000 in
theorem dGR_40_c_1171 : (decode cX12_laysInner 62 = .ok (.iload_n 2, 1)) ∧ (decode cX12_laysInner 63 = .ok (.iload 5, 2)) ∧ (decode cX12_laysInner 65 = .ok (.bipush 8, 2)) ∧ (decode cX12_laysInner 67 = .ok (.invokevirtual 323, 3)) ∧ (decode cX12_laysInner 70 = .ok (.invokestatic 326, 3)) ∧ (decode cX12_laysInner 73 = .ok (.invokevirtual 462, 3)) ∧ (decode cX12_laysInner 76 = .ok (.istore 8, 2)) ∧ (decode cX12_laysInner 78 = .ok (.iconst 0, 1)) ∧ (decode cX12_laysInner 79 = .ok (.istore 9, 2)) ∧ (decode cX12_laysInner 81 = .ok (.iload 9, 2)) ∧ (decode cX12_laysInner 83 = .ok (.bipush 9, 2)) ∧ (decode cX12_laysInner 85 = .ok (.if_icmp .ge 95, 3)) := by decide +kernel
theorem dX12_laysInner_62 : decode cX12_laysInner 62 = .ok (.iload_n 2, 1) := dGR_40_c_1171.1
theorem dX12_laysInner_63 : decode cX12_laysInner 63 = .ok (.iload 5, 2) := dGR_40_c_1171.2.1
theorem dX12_laysInner_65 : decode cX12_laysInner 65 = .ok (.bipush 8, 2) := dGR_40_c_1171.2.2.1
theorem dX12_laysInner_67 : decode cX12_laysInner 67 = .ok (.invokevirtual 323, 3) := dGR_40_c_1171.2.2.2.1
theorem dX12_laysInner_70 : decode cX12_laysInner 70 = .ok (.invokestatic 326, 3) := dGR_40_c_1171.2.2.2.2.1
theorem dX12_laysInner_73 : decode cX12_laysInner 73 = .ok (.invokevirtual 462, 3) := dGR_40_c_1171.2.2.2.2.2.1
theorem dX12_laysInner_76 : decode cX12_laysInner 76 = .ok (.istore 8, 2) := dGR_40_c_1171.2.2.2.2.2.2.1
theorem dX12_laysInner_78 : decode cX12_laysInner 78 = .ok (.iconst 0, 1) := dGR_40_c_1171.2.2.2.2.2.2.2.1
theorem dX12_laysInner_79 : decode cX12_laysInner 79 = .ok (.istore 9, 2) := dGR_40_c_1171.2.2.2.2.2.2.2.2.1
theorem dX12_laysInner_81 : decode cX12_laysInner 81 = .ok (.iload 9, 2) := dGR_40_c_1171.2.2.2.2.2.2.2.2.2.1
theorem dX12_laysInner_83 : decode cX12_laysInner 83 = .ok (.bipush 9, 2) := dGR_40_c_1171.2.2.2.2.2.2.2.2.2.2.1
theorem dX12_laysInner_85 : decode cX12_laysInner 85 = .ok (.if_icmp .ge 95, 3) := dGR_40_c_1171.2.2.2.2.2.2.2.2.2.2.2
set_option maxRecDepth 100000 in
theorem dGR_40_c_1172 : (decode cX12_laysInner 88 = .ok (.aload_n 0, 1)) ∧ (decode cX12_laysInner 89 = .ok (.getfield 95, 3)) ∧ (decode cX12_laysInner 92 = .ok (.bipush 64, 2)) ∧ (decode cX12_laysInner 94 = .ok (.iload 9, 2)) ∧ (decode cX12_laysInner 96 = .ok (.imul, 1)) ∧ (decode cX12_laysInner 97 = .ok (.iload 7, 2)) ∧ (decode cX12_laysInner 99 = .ok (.iadd, 1)) ∧ (decode cX12_laysInner 100 = .ok (.iaload, 1)) ∧ (decode cX12_laysInner 101 = .ok (.iconst 1, 1)) ∧ (decode cX12_laysInner 102 = .ok (.iadd, 1)) ∧ (decode cX12_laysInner 103 = .ok (.istore 10, 2)) ∧ (decode cX12_laysInner 105 = .ok (.iconst 0, 1)) := by decide +kernel
theorem dX12_laysInner_88 : decode cX12_laysInner 88 = .ok (.aload_n 0, 1) := dGR_40_c_1172.1
theorem dX12_laysInner_89 : decode cX12_laysInner 89 = .ok (.getfield 95, 3) := dGR_40_c_1172.2.1
theorem dX12_laysInner_92 : decode cX12_laysInner 92 = .ok (.bipush 64, 2) := dGR_40_c_1172.2.2.1
theorem dX12_laysInner_94 : decode cX12_laysInner 94 = .ok (.iload 9, 2) := dGR_40_c_1172.2.2.2.1
theorem dX12_laysInner_96 : decode cX12_laysInner 96 = .ok (.imul, 1) := dGR_40_c_1172.2.2.2.2.1
theorem dX12_laysInner_97 : decode cX12_laysInner 97 = .ok (.iload 7, 2) := dGR_40_c_1172.2.2.2.2.2.1
theorem dX12_laysInner_99 : decode cX12_laysInner 99 = .ok (.iadd, 1) := dGR_40_c_1172.2.2.2.2.2.2.1
theorem dX12_laysInner_100 : decode cX12_laysInner 100 = .ok (.iaload, 1) := dGR_40_c_1172.2.2.2.2.2.2.2.1
theorem dX12_laysInner_101 : decode cX12_laysInner 101 = .ok (.iconst 1, 1) := dGR_40_c_1172.2.2.2.2.2.2.2.2.1
theorem dX12_laysInner_102 : decode cX12_laysInner 102 = .ok (.iadd, 1) := dGR_40_c_1172.2.2.2.2.2.2.2.2.2.1
theorem dX12_laysInner_103 : decode cX12_laysInner 103 = .ok (.istore 10, 2) := dGR_40_c_1172.2.2.2.2.2.2.2.2.2.2.1
theorem dX12_laysInner_105 : decode cX12_laysInner 105 = .ok (.iconst 0, 1) := dGR_40_c_1172.2.2.2.2.2.2.2.2.2.2.2
set_option maxRecDepth 100000 in
theorem dGR_40_c_1173 : (decode cX12_laysInner 106 = .ok (.istore 11, 2)) ∧ (decode cX12_laysInner 108 = .ok (.iload 11, 2)) ∧ (decode cX12_laysInner 110 = .ok (.iconst 3, 1)) ∧ (decode cX12_laysInner 111 = .ok (.if_icmp .ge 63, 3)) ∧ (decode cX12_laysInner 114 = .ok (.iload 10, 2)) ∧ (decode cX12_laysInner 116 = .ok (.ldc_w 428, 3)) ∧ (decode cX12_laysInner 119 = .ok (.if_icmp .ge 55, 3)) ∧ (decode cX12_laysInner 122 = .ok (.iload 6, 2)) ∧ (decode cX12_laysInner 124 = .ok (.iload 9, 2)) ∧ (decode cX12_laysInner 126 = .ok (.iconst 3, 1)) ∧ (decode cX12_laysInner 127 = .ok (.irem, 1)) ∧ (decode cX12_laysInner 128 = .ok (.iload 11, 2)) := by decide +kernel
theorem dX12_laysInner_106 : decode cX12_laysInner 106 = .ok (.istore 11, 2) := dGR_40_c_1173.1
theorem dX12_laysInner_108 : decode cX12_laysInner 108 = .ok (.iload 11, 2) := dGR_40_c_1173.2.1
theorem dX12_laysInner_110 : decode cX12_laysInner 110 = .ok (.iconst 3, 1) := dGR_40_c_1173.2.2.1
theorem dX12_laysInner_111 : decode cX12_laysInner 111 = .ok (.if_icmp .ge 63, 3) := dGR_40_c_1173.2.2.2.1
theorem dX12_laysInner_114 : decode cX12_laysInner 114 = .ok (.iload 10, 2) := dGR_40_c_1173.2.2.2.2.1
theorem dX12_laysInner_116 : decode cX12_laysInner 116 = .ok (.ldc_w 428, 3) := dGR_40_c_1173.2.2.2.2.2.1
theorem dX12_laysInner_119 : decode cX12_laysInner 119 = .ok (.if_icmp .ge 55, 3) := dGR_40_c_1173.2.2.2.2.2.2.1
theorem dX12_laysInner_122 : decode cX12_laysInner 122 = .ok (.iload 6, 2) := dGR_40_c_1173.2.2.2.2.2.2.2.1
theorem dX12_laysInner_124 : decode cX12_laysInner 124 = .ok (.iload 9, 2) := dGR_40_c_1173.2.2.2.2.2.2.2.2.1
theorem dX12_laysInner_126 : decode cX12_laysInner 126 = .ok (.iconst 3, 1) := dGR_40_c_1173.2.2.2.2.2.2.2.2.2.1
theorem dX12_laysInner_127 : decode cX12_laysInner 127 = .ok (.irem, 1) := dGR_40_c_1173.2.2.2.2.2.2.2.2.2.2.1
theorem dX12_laysInner_128 : decode cX12_laysInner 128 = .ok (.iload 11, 2) := dGR_40_c_1173.2.2.2.2.2.2.2.2.2.2.2
set_option maxRecDepth 100000 in
theorem dGR_40_c_1174 : (decode cX12_laysInner 130 = .ok (.invokestatic 316, 3)) ∧ (decode cX12_laysInner 133 = .ok (.iand, 1)) ∧ (decode cX12_laysInner 134 = .ok (.ifCond .eq 34, 3)) ∧ (decode cX12_laysInner 137 = .ok (.aload_n 0, 1)) ∧ (decode cX12_laysInner 138 = .ok (.aload_n 0, 1)) ∧ (decode cX12_laysInner 139 = .ok (.getfield 95, 3)) ∧ (decode cX12_laysInner 142 = .ok (.bipush 64, 2)) ∧ (decode cX12_laysInner 144 = .ok (.iload 9, 2)) ∧ (decode cX12_laysInner 146 = .ok (.iload 9, 2)) ∧ (decode cX12_laysInner 148 = .ok (.iconst 3, 1)) ∧ (decode cX12_laysInner 149 = .ok (.irem, 1)) ∧ (decode cX12_laysInner 150 = .ok (.isub, 1)) := by decide +kernel
theorem dX12_laysInner_130 : decode cX12_laysInner 130 = .ok (.invokestatic 316, 3) := dGR_40_c_1174.1
theorem dX12_laysInner_133 : decode cX12_laysInner 133 = .ok (.iand, 1) := dGR_40_c_1174.2.1
theorem dX12_laysInner_134 : decode cX12_laysInner 134 = .ok (.ifCond .eq 34, 3) := dGR_40_c_1174.2.2.1
theorem dX12_laysInner_137 : decode cX12_laysInner 137 = .ok (.aload_n 0, 1) := dGR_40_c_1174.2.2.2.1
theorem dX12_laysInner_138 : decode cX12_laysInner 138 = .ok (.aload_n 0, 1) := dGR_40_c_1174.2.2.2.2.1
theorem dX12_laysInner_139 : decode cX12_laysInner 139 = .ok (.getfield 95, 3) := dGR_40_c_1174.2.2.2.2.2.1
theorem dX12_laysInner_142 : decode cX12_laysInner 142 = .ok (.bipush 64, 2) := dGR_40_c_1174.2.2.2.2.2.2.1
theorem dX12_laysInner_144 : decode cX12_laysInner 144 = .ok (.iload 9, 2) := dGR_40_c_1174.2.2.2.2.2.2.2.1
theorem dX12_laysInner_146 : decode cX12_laysInner 146 = .ok (.iload 9, 2) := dGR_40_c_1174.2.2.2.2.2.2.2.2.1
theorem dX12_laysInner_148 : decode cX12_laysInner 148 = .ok (.iconst 3, 1) := dGR_40_c_1174.2.2.2.2.2.2.2.2.2.1
theorem dX12_laysInner_149 : decode cX12_laysInner 149 = .ok (.irem, 1) := dGR_40_c_1174.2.2.2.2.2.2.2.2.2.2.1
theorem dX12_laysInner_150 : decode cX12_laysInner 150 = .ok (.isub, 1) := dGR_40_c_1174.2.2.2.2.2.2.2.2.2.2.2
set_option maxRecDepth 100000 in
theorem dGR_40_c_1175 : (decode cX12_laysInner 151 = .ok (.iload 11, 2)) ∧ (decode cX12_laysInner 153 = .ok (.iadd, 1)) ∧ (decode cX12_laysInner 154 = .ok (.imul, 1)) ∧ (decode cX12_laysInner 155 = .ok (.iload 8, 2)) ∧ (decode cX12_laysInner 157 = .ok (.iadd, 1)) ∧ (decode cX12_laysInner 158 = .ok (.iload 10, 2)) ∧ (decode cX12_laysInner 160 = .ok (.invokevirtual 448, 3)) ∧ (decode cX12_laysInner 163 = .ok (.ifCond .eq 5, 3)) ∧ (decode cX12_laysInner 166 = .ok (.iconst 1, 1)) ∧ (decode cX12_laysInner 167 = .ok (.istore_n 3, 1)) ∧ (decode cX12_laysInner 168 = .ok (.iinc 11 1, 3)) ∧ (decode cX12_laysInner 171 = .ok (.goto (-63), 3)) := by decide +kernel
theorem dX12_laysInner_151 : decode cX12_laysInner 151 = .ok (.iload 11, 2) := dGR_40_c_1175.1
theorem dX12_laysInner_153 : decode cX12_laysInner 153 = .ok (.iadd, 1) := dGR_40_c_1175.2.1
theorem dX12_laysInner_154 : decode cX12_laysInner 154 = .ok (.imul, 1) := dGR_40_c_1175.2.2.1
theorem dX12_laysInner_155 : decode cX12_laysInner 155 = .ok (.iload 8, 2) := dGR_40_c_1175.2.2.2.1
theorem dX12_laysInner_157 : decode cX12_laysInner 157 = .ok (.iadd, 1) := dGR_40_c_1175.2.2.2.2.1
theorem dX12_laysInner_158 : decode cX12_laysInner 158 = .ok (.iload 10, 2) := dGR_40_c_1175.2.2.2.2.2.1
theorem dX12_laysInner_160 : decode cX12_laysInner 160 = .ok (.invokevirtual 448, 3) := dGR_40_c_1175.2.2.2.2.2.2.1
theorem dX12_laysInner_163 : decode cX12_laysInner 163 = .ok (.ifCond .eq 5, 3) := dGR_40_c_1175.2.2.2.2.2.2.2.1
theorem dX12_laysInner_166 : decode cX12_laysInner 166 = .ok (.iconst 1, 1) := dGR_40_c_1175.2.2.2.2.2.2.2.2.1
theorem dX12_laysInner_167 : decode cX12_laysInner 167 = .ok (.istore_n 3, 1) := dGR_40_c_1175.2.2.2.2.2.2.2.2.2.1
theorem dX12_laysInner_168 : decode cX12_laysInner 168 = .ok (.iinc 11 1, 3) := dGR_40_c_1175.2.2.2.2.2.2.2.2.2.2.1
theorem dX12_laysInner_171 : decode cX12_laysInner 171 = .ok (.goto (-63), 3) := dGR_40_c_1175.2.2.2.2.2.2.2.2.2.2.2
set_option maxRecDepth 100000 in
theorem dGR_40_c_1176 : (decode cX12_laysInner 174 = .ok (.iinc 9 1, 3)) ∧ (decode cX12_laysInner 177 = .ok (.goto (-96), 3)) ∧ (decode cX12_laysInner 180 = .ok (.iinc 7 1, 3)) ∧ (decode cX12_laysInner 183 = .ok (.goto (-137), 3)) ∧ (decode cX12_laysInner 186 = .ok (.iinc 5 1, 3)) ∧ (decode cX12_laysInner 189 = .ok (.goto (-166), 3)) ∧ (decode cX12_laysInner 192 = .ok (.iload_n 3, 1)) ∧ (decode cX12_laysInner 193 = .ok (.ireturn, 1)) := by decide +kernel
theorem dX12_laysInner_174 : decode cX12_laysInner 174 = .ok (.iinc 9 1, 3) := dGR_40_c_1176.1
theorem dX12_laysInner_177 : decode cX12_laysInner 177 = .ok (.goto (-96), 3) := dGR_40_c_1176.2.1
theorem dX12_laysInner_180 : decode cX12_laysInner 180 = .ok (.iinc 7 1, 3) := dGR_40_c_1176.2.2.1
theorem dX12_laysInner_183 : decode cX12_laysInner 183 = .ok (.goto (-137), 3) := dGR_40_c_1176.2.2.2.1
theorem dX12_laysInner_186 : decode cX12_laysInner 186 = .ok (.iinc 5 1, 3) := dGR_40_c_1176.2.2.2.2.1
theorem dX12_laysInner_189 : decode cX12_laysInner 189 = .ok (.goto (-166), 3) := dGR_40_c_1176.2.2.2.2.2.1
theorem dX12_laysInner_192 : decode cX12_laysInner 192 = .ok (.iload_n 3, 1) := dGR_40_c_1176.2.2.2.2.2.2.1
theorem dX12_laysInner_193 : decode cX12_laysInner 193 = .ok (.ireturn, 1) := dGR_40_c_1176.2.2.2.2.2.2.2
abbrev f_e_laysInner : List (Nat × Int) := [(64, 45), (86, -1), (87, -1)]
set_option maxHeartbeats 4000000 in
set_option maxRecDepth 100000 in
theorem e_laysInner (G : KG) (l : Launch) (M : Mem) (a1 : Int) (a2 : Int) (hI_M : Inv true M) (hpre : -2147483648 ≤ a1 ∧ a1 ≤ 2147483647 ∧ -2147483648 ≤ a2 ∧ a2 ≤ 2147483647 ∧ 0 ≤ a1 ∧ a1 ≤ 2 ∧ 0 ≤ a2 ∧ a2 ≤ 1) {Aq : Int → Int} (hE : M 164 = Aq) (hD : LD M) (hO : RP M Aq a2) (hA : AOK Aq a2) (hC : Clo Aq a2) : KC true G l yX12_laysInner cX12_laysInner 12 (some .boolean) (2, 49) [vR G 163, vI a1, vI a2] M (fun A => kQi true G A (fun (r : Int) (N : Mem) => Inv true N ∧ Fr f_e_laysInner M N ∧ ((r = 1 ∧ (tot 87 576 N) + 1 ≤ (tot 87 576 M)) ∨ (r = 0 ∧ (tot 87 576 N) ≤ (tot 87 576 M))) ∧ (RP N Aq a2))) := by
  refine kx_met (lo := [some (vR G 163), some (vI a1), some (vI a2), none, none, none, none, none, none, none, none, none]) (by decide) (Nat.le_of_ble_eq_true rfl) rfl ?_
  intro X F hQ
  have hF_M : Fr f_e_laysInner M M := Fr.rf _ _
  subst hE
  have h_1 := Inv.g hI_M kd_164 rfl 0 (a := 0) (b := 2) (at_c 0 0 (o := 0) (lo := 0) (hi := 2) (by omega) (by decide) (by decide) (by decide)).1 (at_c 0 0 (o := 0) (lo := 0) (hi := 2) (by omega) (by decide) (by decide) (by decide)).2
  have h_2 := Inv.g hI_M kd_164 rfl 1 (a := 0) (b := 2) (at_c 1 0 (o := 1) (lo := 0) (hi := 2) (by omega) (by decide) (by decide) (by decide)).1 (at_c 1 0 (o := 1) (lo := 0) (hi := 2) (by omega) (by decide) (by decide) (by decide)).2
  have h_3 := Inv.g hI_M kd_164 rfl 2 (a := 0) (b := 2) (at_c 2 0 (o := 2) (lo := 0) (hi := 2) (by omega) (by decide) (by decide) (by decide)).1 (at_c 2 0 (o := 2) (lo := 0) (hi := 2) (by omega) (by decide) (by decide) (by decide)).2
  refine kx_iconst 1 F dX12_laysInner_0 rfl ?_
  refine kx_istore_n 2 F 3 (lo' := [some (vR G 163), some (vI a1), some (vI a2), some (vI 0), none, none, none, none, none, none, none, none]) dX12_laysInner_1 rfl (by decide) rfl rfl rfl ?_
  refine kx_aload_n 3 F 0 dX12_laysInner_2 rfl rfl rfl ?_
  refine kx_geti 6 F fl_X12_459 kd_163 rfl rfl (j := 45) rfl dX12_laysInner_3 (v := (M 163 45)) rfl rfl ?_
  have h_4 := Inv.g hI_M kd_163 rfl 45 (a := 0) (b := 64) rfl rfl
  refine kx_istore 8 F 4 (lo' := [some (vR G 163), some (vI a1), some (vI a2), some (vI 0), some (vI (M 163 45)), none, none, none, none, none, none, none]) dX12_laysInner_6 (by decide) rfl rfl rfl ?_
  refine kx_aload_n 9 F 0 dX12_laysInner_8 rfl rfl rfl ?_
  refine kx_getr 12 F fl_X12_7 kd_163 rfl rfl (j := 0) rfl dX12_laysInner_9 (v := 164) (uq_164 (Inv.r hI_M kd_163 rfl 0 rfl rfl)) rfl ?_
  refine kx_iconst 13 F dX12_laysInner_12 rfl ?_
  refine kx_iald 14 F kd_164 rfl rfl (by omega) (by decide) dX12_laysInner_13 (v := (M 164 0)) rfl rfl ?_
  have ha_5 : atlo 0 = 0 ∧ athi 0 = 2 := at_c 0 0 (o := 0) (lo := 0) (hi := 2) (by omega) (by decide) (by decide) (by decide)
  refine kx_aload_n 15 F 0 dX12_laysInner_14 rfl rfl rfl ?_
  refine kx_getr 18 F fl_X12_7 kd_163 rfl rfl (j := 0) rfl dX12_laysInner_15 (v := 164) (uq_164 (Inv.r hI_M kd_163 rfl 0 rfl rfl)) rfl ?_
  refine kx_iconst 19 F dX12_laysInner_18 rfl ?_
  refine kx_iald 20 F kd_164 rfl rfl (by omega) (by decide) dX12_laysInner_19 (v := (M 164 1)) rfl rfl ?_
  have ha_6 : atlo 1 = 0 ∧ athi 1 = 2 := at_c 1 0 (o := 1) (lo := 0) (hi := 2) (by omega) (by decide) (by decide) (by decide)
  refine kx_iadd 21 F (v := (M 164 0) + (M 164 1)) dX12_laysInner_20 rfl rfl ?_
  refine kx_istore 23 F 5 (lo' := [some (vR G 163), some (vI a1), some (vI a2), some (vI 0), some (vI (M 163 45)), some (vI ((M 164 0) + (M 164 1))), none, none, none, none, none, none]) dX12_laysInner_21 (by decide) rfl rfl rfl ?_
  have L_17551 : ∀ (n_17552 : Nat) (x3_17548 : Int) (x5_17549 : Int) (N_17550 : Mem), Inv true N_17550 → Fr f_e_laysInner M N_17550 → RP N_17550 (M 164) a2 → LD N_17550 → 0 ≤ x3_17548 ∧ x3_17548 ≤ 1 ∧ 0 ≤ x5_17549 ∧ x5_17549 ≤ 6 ∧ (tot 87 576 N_17550) + x3_17548 ≤ (tot 87 576 M) ∧ (M 163 45) ≤ (N_17550 163 45) ∧ (M 164 0) + (M 164 1) ≤ x5_17549 → (6 - (x5_17549)).toNat = n_17552 → KJ true G X N_17550 23 [some (vR G 163), some (vI a1), some (vI a2), some (vI x3_17548), some (vI (M 163 45)), some (vI x5_17549), none, none, none, none, none, none] [] := by
    intro n_17552
    refine Nat.strongRecOn n_17552 ?_
    intro n_17552 ih_17553 x3_17548 x5_17549 N_17550 hI_N_17550 hF_N_17550 hp_17556 hp_17557 h_17554 hm_17555
    refine kx_iload 25 F 5 dX12_laysInner_23 rfl rfl ?_
    refine kx_aload_n 26 F 0 dX12_laysInner_25 rfl rfl rfl ?_
    refine kx_Vi 29 (ci := 0) F (As := []) (st := [vI x5_17549]) vd_X12_285 (c_lettersE G l N_17550  hI_N_17550) kd_163 rfl rfl rfl ⟨by decide, by decide⟩ rfl rfl (Nat.le_of_ble_eq_true rfl) dX12_laysInner_26 rfl ?_
    intro r_17558 N_17559 q_17560
    obtain ⟨rfl, q_17560c⟩ := q_17560
    have e_17561 : (N_17550 164 0) = (M 164 0) := by rw [Fr.e hF_N_17550 kd_164 _ rfl]
    have e_17562 : (N_17550 164 1) = (M 164 1) := by rw [Fr.e hF_N_17550 kd_164 _ rfl]
    have e_17563 : (N_17550 164 2) = (M 164 2) := by rw [Fr.e hF_N_17550 kd_164 _ rfl]
    refine kx_topi (e' := (N_17550 164 0) + (N_17550 164 1) + (N_17550 164 2)) (by omega) ?_
    refine kx_icmp_ge 32 F 192 dX12_laysInner_29 (by decide) rfl (by omega) (by omega) (fun h_17567 => ?_) (fun h_17567 => ?_)
    · refine kx_iload_n 193 F 3 dX12_laysInner_192 rfl rfl rfl ?_
      exact kx_zret F hQ (by omega) ⟨hI_N_17550, hF_N_17550, (by omega), hp_17556⟩ dX12_laysInner_193
    · refine kx_aload_n 33 F 0 dX12_laysInner_32 rfl rfl rfl ?_
      refine kx_iload_n 34 F 1 dX12_laysInner_33 rfl rfl rfl ?_
      refine kx_iload 36 F 5 dX12_laysInner_34 rfl rfl ?_
      refine kx_bipush 38 F dX12_laysInner_36 (by decide) rfl ?_
      refine kx_Vi 41 (ci := 0) F (As := [vI a1, vI x5_17549, vI 8]) (st := []) vd_X12_323 (e_leads G l N_17550 a1 x5_17549 8 hI_N_17550 (by omega)) kd_163 rfl rfl rfl ⟨by decide, by decide⟩ rfl rfl (Nat.le_of_ble_eq_true rfl) dX12_laysInner_38 rfl ?_
      intro r_17568 N_17569 q_17570
      obtain ⟨rfl, q_17570c, hz_N_17569⟩ := q_17570
      refine kx_istore 43 F 6 (lo' := [some (vR G 163), some (vI a1), some (vI a2), some (vI x3_17548), some (vI (M 163 45)), some (vI x5_17549), some (vI r_17568), none, none, none, none, none]) dX12_laysInner_41 (by decide) rfl rfl rfl ?_
      refine kx_iconst 44 F dX12_laysInner_43 rfl ?_
      refine kx_istore 46 F 7 (lo' := [some (vR G 163), some (vI a1), some (vI a2), some (vI x3_17548), some (vI (M 163 45)), some (vI x5_17549), some (vI r_17568), some (vI 0), none, none, none, none]) dX12_laysInner_44 (by decide) rfl rfl rfl ?_
      have L_22670 : ∀ (n_22671 : Nat) (x3_22667 : Int) (x7_22668 : Int) (N_22669 : Mem), Inv true N_22669 → Fr f_e_laysInner M N_22669 → RP N_22669 (M 164) a2 → LD N_22669 → 0 ≤ x3_22667 ∧ x3_22667 ≤ 1 ∧ 0 ≤ x7_22668 ∧ x7_22668 ≤ 64 ∧ (tot 87 576 N_22669) + x3_22667 ≤ (tot 87 576 M) ∧ (M 163 45) ≤ (N_22669 163 45) → (64 - (x7_22668)).toNat = n_22671 → KJ true G X N_22669 46 [some (vR G 163), some (vI a1), some (vI a2), some (vI x3_22667), some (vI (M 163 45)), some (vI x5_17549), some (vI r_17568), some (vI x7_22668), none, none, none, none] [] := by
        intro n_22671
        refine Nat.strongRecOn n_22671 ?_
        intro n_22671 ih_22672 x3_22667 x7_22668 N_22669 hI_N_22669 hF_N_22669 hp_22675 hp_22676 h_22673 hm_22674
        refine kx_iload 48 F 7 dX12_laysInner_46 rfl rfl ?_
        refine kx_iload 50 F 4 dX12_laysInner_48 rfl rfl ?_
        refine kx_icmp_ge 53 F 186 dX12_laysInner_50 (by decide) rfl (by omega) (by omega) (fun h_22677 => ?_) (fun h_22677 => ?_)
        · refine kx_iinc 189 F 5 (v := x5_17549 + 1) (lo' := [some (vR G 163), some (vI a1), some (vI a2), some (vI x3_22667), some (vI (M 163 45)), some (vI (x5_17549 + 1)), some (vI r_17568), some (vI x7_22668), none, none, none, none]) dX12_laysInner_186 rfl (by omega) (by decide) rfl rfl rfl ?_
          refine kx_goto 23 F dX12_laysInner_189 (by decide) ?_
          refine kx_drop 6 (lo' := [some (vR G 163), some (vI a1), some (vI a2), some (vI x3_22667), some (vI (M 163 45)), some (vI (x5_17549 + 1)), none, some (vI x7_22668), none, none, none, none]) rfl ?_
          refine kx_drop 7 (lo' := [some (vR G 163), some (vI a1), some (vI a2), some (vI x3_22667), some (vI (M 163 45)), some (vI (x5_17549 + 1)), none, none, none, none, none, none]) rfl ?_
          have h_22678 := Inv.g hI_N_22669 kd_163 rfl 45 (a := 0) (b := 64) rfl rfl
          exact ih_17553 _ (by omega) x3_22667 (x5_17549 + 1) N_22669 hI_N_22669 hF_N_22669 hp_22675 hp_22676 (by omega) rfl
        · refine kx_aload_n 54 F 0 dX12_laysInner_53 rfl rfl rfl ?_
          refine kx_aload_n 55 F 0 dX12_laysInner_54 rfl rfl rfl ?_
          refine kx_getr 58 F fl_X12_92 kd_163 rfl rfl (j := 40) rfl dX12_laysInner_55 (v := 187) (uq_187 (Inv.r hI_N_22669 kd_163 rfl 40 rfl rfl)) rfl ?_
          refine kx_iload 60 F 7 dX12_laysInner_58 rfl rfl ?_
          refine kx_iald 61 F kd_187 rfl rfl (by omega) (by decide) dX12_laysInner_60 (v := (N_22669 187 x7_22668)) rfl rfl ?_
          have h_22679 := Inv.g hI_N_22669 kd_187 rfl x7_22668 (a := 0) (b := 511) rfl rfl
          refine kx_aload_n 62 F 0 dX12_laysInner_61 rfl rfl rfl ?_
          refine kx_iload_n 63 F 2 dX12_laysInner_62 rfl rfl rfl ?_
          refine kx_iload 65 F 5 dX12_laysInner_63 rfl rfl ?_
          refine kx_bipush 67 F dX12_laysInner_65 (by decide) rfl ?_
          refine kx_Vi 70 (ci := 0) F (As := [vI a2, vI x5_17549, vI 8]) (st := [vI (N_22669 187 x7_22668), vR G 163]) vd_X12_323 (e_leads G l N_22669 a2 x5_17549 8 hI_N_22669 (by omega)) kd_163 rfl rfl rfl ⟨by decide, by decide⟩ rfl rfl (Nat.le_of_ble_eq_true rfl) dX12_laysInner_67 rfl ?_
          intro r_22680 N_22681 q_22682
          obtain ⟨rfl, q_22682c, hz_N_22681⟩ := q_22682
          refine kx_Si 73 F (As := [vI (N_22669 187 x7_22668), vI r_22680]) (st := [vR G 163]) sd_X12_326 (e_then G l N_22669 (N_22669 187 x7_22668) r_22680 hI_N_22669 (by omega)) ⟨by decide, by decide⟩ rfl rfl (Nat.le_of_ble_eq_true rfl) dX12_laysInner_70 rfl ?_
          intro r_22683 N_22684 q_22685
          obtain ⟨rfl, q_22685c, hz_N_22684⟩ := q_22685
          refine kx_Vi 76 (ci := 0) F (As := [vI r_22683]) (st := []) vd_X12_462 (e_relation G l N_22669 r_22683 hI_N_22669 (by omega) hp_22675 hA hC (Gd.inn hp_22676 (funext (fun j => by rw [Fr.e hF_N_22669 kd_164 _ rfl])) hA hp_22675 (i := x7_22668) (l := x5_17549) (by omega) (by omega) (by omega) hz_N_22681 hz_N_22684)) kd_163 rfl rfl rfl ⟨by decide, by decide⟩ rfl rfl (Nat.le_of_ble_eq_true rfl) dX12_laysInner_73 rfl ?_
          intro r_22686 N_22687 q_22688
          obtain ⟨hI_N_22687, hG_N_22687, q_22688c, ho_N_22687⟩ := q_22688
          have hF_N_22687 : Fr f_e_laysInner M N_22687 := Fr.c hF_N_22669 hG_N_22687 rfl
          have ht_22689 := tot_fr 87 576 hG_N_22687 rfl
          have h_22690 := Inv.g hI_N_22687 kd_163 rfl 45 (a := 0) (b := 64) rfl rfl
          have h_22691 := Inv.g hI_N_22669 kd_163 rfl 45 (a := 0) (b := 64) rfl rfl
          refine kx_istore 78 F 8 (lo' := [some (vR G 163), some (vI a1), some (vI a2), some (vI x3_22667), some (vI (M 163 45)), some (vI x5_17549), some (vI r_17568), some (vI x7_22668), some (vI r_22686), none, none, none]) dX12_laysInner_76 (by decide) rfl rfl rfl ?_
          refine kx_iconst 79 F dX12_laysInner_78 rfl ?_
          refine kx_istore 81 F 9 (lo' := [some (vR G 163), some (vI a1), some (vI a2), some (vI x3_22667), some (vI (M 163 45)), some (vI x5_17549), some (vI r_17568), some (vI x7_22668), some (vI r_22686), some (vI 0), none, none]) dX12_laysInner_79 (by decide) rfl rfl rfl ?_
          have L_23311 : ∀ (n_23312 : Nat) (x3_23308 : Int) (x9_23309 : Int) (N_23310 : Mem), Inv true N_23310 → Fr f_e_laysInner M N_23310 → RP N_23310 (M 164) a2 → LD N_23310 → 0 ≤ x3_23308 ∧ x3_23308 ≤ 1 ∧ 0 ≤ x9_23309 ∧ x9_23309 ≤ 9 ∧ (tot 87 576 N_23310) + x3_23308 ≤ (tot 87 576 M) ∧ (M 163 45) ≤ (N_23310 163 45) → (9 - (x9_23309)).toNat = n_23312 → KJ true G X N_23310 81 [some (vR G 163), some (vI a1), some (vI a2), some (vI x3_23308), some (vI (M 163 45)), some (vI x5_17549), some (vI r_17568), some (vI x7_22668), some (vI r_22686), some (vI x9_23309), none, none] [] := by
            intro n_23312
            refine Nat.strongRecOn n_23312 ?_
            intro n_23312 ih_23313 x3_23308 x9_23309 N_23310 hI_N_23310 hF_N_23310 hp_23316 hp_23317 h_23314 hm_23315
            refine kx_iload 83 F 9 dX12_laysInner_81 rfl rfl ?_
            refine kx_bipush 85 F dX12_laysInner_83 (by decide) rfl ?_
            refine kx_icmp_ge 88 F 180 dX12_laysInner_85 (by decide) rfl (by omega) (by decide) (fun h_23318 => ?_) (fun h_23318 => ?_)
            · refine kx_iinc 183 F 7 (v := x7_22668 + 1) (lo' := [some (vR G 163), some (vI a1), some (vI a2), some (vI x3_23308), some (vI (M 163 45)), some (vI x5_17549), some (vI r_17568), some (vI (x7_22668 + 1)), some (vI r_22686), some (vI x9_23309), none, none]) dX12_laysInner_180 rfl (by omega) (by decide) rfl rfl rfl ?_
              refine kx_goto 46 F dX12_laysInner_183 (by decide) ?_
              refine kx_drop 8 (lo' := [some (vR G 163), some (vI a1), some (vI a2), some (vI x3_23308), some (vI (M 163 45)), some (vI x5_17549), some (vI r_17568), some (vI (x7_22668 + 1)), none, some (vI x9_23309), none, none]) rfl ?_
              refine kx_drop 9 (lo' := [some (vR G 163), some (vI a1), some (vI a2), some (vI x3_23308), some (vI (M 163 45)), some (vI x5_17549), some (vI r_17568), some (vI (x7_22668 + 1)), none, none, none, none]) rfl ?_
              have h_23319 := Inv.g hI_N_23310 kd_163 rfl 45 (a := 0) (b := 64) rfl rfl
              exact ih_22672 _ (by omega) x3_23308 (x7_22668 + 1) N_23310 hI_N_23310 hF_N_23310 hp_23316 hp_23317 (by omega) rfl
            · refine kx_aload_n 89 F 0 dX12_laysInner_88 rfl rfl rfl ?_
              refine kx_getr 92 F fl_X12_95 kd_163 rfl rfl (j := 41) rfl dX12_laysInner_89 (v := (M 163 41)) (by rw [Fr.e hF_N_23310 kd_163 _ rfl]) rfl ?_
              have hk_23320 : kd (M 163 41) = 87 := Inv.r hI_M kd_163 rfl 41 rfl rfl
              refine kx_bipush 94 F dX12_laysInner_92 (by decide) rfl ?_
              refine kx_iload 96 F 9 dX12_laysInner_94 rfl rfl ?_
              refine kx_imul 97 F (v := 64 * x9_23309) dX12_laysInner_96 (by omega) rfl ?_
              refine kx_iload 99 F 7 dX12_laysInner_97 rfl rfl ?_
              refine kx_iadd 100 F (v := 64 * x9_23309 + x7_22668) dX12_laysInner_99 rfl rfl ?_
              refine kx_iald 101 F hk_23320 rfl rfl (by omega) (by decide) dX12_laysInner_100 (v := (N_23310 (M 163 41) (64 * x9_23309 + x7_22668))) rfl rfl ?_
              have h_23321 := Inv.g hI_N_23310 hk_23320 rfl (64 * x9_23309 + x7_22668) (a := 0) (b := 1000000) rfl rfl
              refine kx_iconst 102 F dX12_laysInner_101 rfl ?_
              refine kx_iadd 103 F (v := (N_23310 (M 163 41) (64 * x9_23309 + x7_22668)) + 1) dX12_laysInner_102 rfl rfl ?_
              refine kx_istore 105 F 10 (lo' := [some (vR G 163), some (vI a1), some (vI a2), some (vI x3_23308), some (vI (M 163 45)), some (vI x5_17549), some (vI r_17568), some (vI x7_22668), some (vI r_22686), some (vI x9_23309), some (vI ((N_23310 (M 163 41) (64 * x9_23309 + x7_22668)) + 1)), none]) dX12_laysInner_103 (by decide) rfl rfl rfl ?_
              refine kx_iconst 106 F dX12_laysInner_105 rfl ?_
              refine kx_istore 108 F 11 (lo' := [some (vR G 163), some (vI a1), some (vI a2), some (vI x3_23308), some (vI (M 163 45)), some (vI x5_17549), some (vI r_17568), some (vI x7_22668), some (vI r_22686), some (vI x9_23309), some (vI ((N_23310 (M 163 41) (64 * x9_23309 + x7_22668)) + 1)), some (vI 0)]) dX12_laysInner_106 (by decide) rfl rfl rfl ?_
              have L_23385 : ∀ (n_23386 : Nat) (x3_23382 : Int) (x11_23383 : Int) (N_23384 : Mem), Inv true N_23384 → Fr f_e_laysInner M N_23384 → RP N_23384 (M 164) a2 → LD N_23384 → 0 ≤ x3_23382 ∧ x3_23382 ≤ 1 ∧ 0 ≤ x11_23383 ∧ x11_23383 ≤ 3 ∧ (tot 87 576 N_23384) + x3_23382 ≤ (tot 87 576 M) ∧ (M 163 45) ≤ (N_23384 163 45) → (3 - (x11_23383)).toNat = n_23386 → KJ true G X N_23384 108 [some (vR G 163), some (vI a1), some (vI a2), some (vI x3_23382), some (vI (M 163 45)), some (vI x5_17549), some (vI r_17568), some (vI x7_22668), some (vI r_22686), some (vI x9_23309), some (vI ((N_23310 (M 163 41) (64 * x9_23309 + x7_22668)) + 1)), some (vI x11_23383)] [] := by
                intro n_23386
                refine Nat.strongRecOn n_23386 ?_
                intro n_23386 ih_23387 x3_23382 x11_23383 N_23384 hI_N_23384 hF_N_23384 hp_23390 hp_23391 h_23388 hm_23389
                refine kx_iload 110 F 11 dX12_laysInner_108 rfl rfl ?_
                refine kx_iconst 111 F dX12_laysInner_110 rfl ?_
                refine kx_icmp_ge 114 F 174 dX12_laysInner_111 (by decide) rfl (by omega) (by decide) (fun h_23392 => ?_) (fun h_23392 => ?_)
                · refine kx_iinc 177 F 9 (v := x9_23309 + 1) (lo' := [some (vR G 163), some (vI a1), some (vI a2), some (vI x3_23382), some (vI (M 163 45)), some (vI x5_17549), some (vI r_17568), some (vI x7_22668), some (vI r_22686), some (vI (x9_23309 + 1)), some (vI ((N_23310 (M 163 41) (64 * x9_23309 + x7_22668)) + 1)), some (vI x11_23383)]) dX12_laysInner_174 rfl (by omega) (by decide) rfl rfl rfl ?_
                  refine kx_goto 81 F dX12_laysInner_177 (by decide) ?_
                  refine kx_drop 10 (lo' := [some (vR G 163), some (vI a1), some (vI a2), some (vI x3_23382), some (vI (M 163 45)), some (vI x5_17549), some (vI r_17568), some (vI x7_22668), some (vI r_22686), some (vI (x9_23309 + 1)), none, some (vI x11_23383)]) rfl ?_
                  refine kx_drop 11 (lo' := [some (vR G 163), some (vI a1), some (vI a2), some (vI x3_23382), some (vI (M 163 45)), some (vI x5_17549), some (vI r_17568), some (vI x7_22668), some (vI r_22686), some (vI (x9_23309 + 1)), none, none]) rfl ?_
                  have h_23393 := Inv.g hI_N_23384 kd_163 rfl 45 (a := 0) (b := 64) rfl rfl
                  exact ih_23313 _ (by omega) x3_23382 (x9_23309 + 1) N_23384 hI_N_23384 hF_N_23384 hp_23390 hp_23391 (by omega) rfl
                · refine kx_iload 116 F 10 dX12_laysInner_114 rfl rfl ?_
                  refine kx_ldcw 119 (z := 1000000) F dX12_laysInner_116 ct_X12_428 rfl ?_
                  refine kx_icmp_ge 122 F 174 dX12_laysInner_119 (by decide) rfl (by omega) (by decide) (fun h_23394 => ?_) (fun h_23394 => ?_)
                  · refine kx_iinc 177 F 9 (v := x9_23309 + 1) (lo' := [some (vR G 163), some (vI a1), some (vI a2), some (vI x3_23382), some (vI (M 163 45)), some (vI x5_17549), some (vI r_17568), some (vI x7_22668), some (vI r_22686), some (vI (x9_23309 + 1)), some (vI ((N_23310 (M 163 41) (64 * x9_23309 + x7_22668)) + 1)), some (vI x11_23383)]) dX12_laysInner_174 rfl (by omega) (by decide) rfl rfl rfl ?_
                    refine kx_goto 81 F dX12_laysInner_177 (by decide) ?_
                    refine kx_drop 10 (lo' := [some (vR G 163), some (vI a1), some (vI a2), some (vI x3_23382), some (vI (M 163 45)), some (vI x5_17549), some (vI r_17568), some (vI x7_22668), some (vI r_22686), some (vI (x9_23309 + 1)), none, some (vI x11_23383)]) rfl ?_
                    refine kx_drop 11 (lo' := [some (vR G 163), some (vI a1), some (vI a2), some (vI x3_23382), some (vI (M 163 45)), some (vI x5_17549), some (vI r_17568), some (vI x7_22668), some (vI r_22686), some (vI (x9_23309 + 1)), none, none]) rfl ?_
                    have h_23395 := Inv.g hI_N_23384 kd_163 rfl 45 (a := 0) (b := 64) rfl rfl
                    exact ih_23313 _ (by omega) x3_23382 (x9_23309 + 1) N_23384 hI_N_23384 hF_N_23384 hp_23390 hp_23391 (by omega) rfl
                  · refine kx_iload 124 F 6 dX12_laysInner_122 rfl rfl ?_
                    refine kx_iload 126 F 9 dX12_laysInner_124 rfl rfl ?_
                    refine kx_iconst 127 F dX12_laysInner_126 rfl ?_
                    refine kx_irem 128 F (v := (x9_23309 % 3)) dX12_laysInner_127 (by omega) (by decide) rfl rfl ?_
                    refine kx_iload 130 F 11 dX12_laysInner_128 rfl rfl ?_
                    refine kx_Si 133 F (As := [vI (x9_23309 % 3), vI x11_23383]) (st := [vI r_17568]) sd_X12_316 (e_pair G l N_23384 (x9_23309 % 3) x11_23383 hI_N_23384 (by omega)) ⟨by decide, by decide⟩ rfl rfl (Nat.le_of_ble_eq_true rfl) dX12_laysInner_130 rfl ?_
                    intro r_23396 N_23397 q_23398
                    obtain ⟨rfl, q_23398c⟩ := q_23398
                    refine kx_topi (e' := (zshl 1 (3 * (x9_23309 % 3) + x11_23383))) (by omega) ?_
                    refine kx_iand 134 F (v := (zand r_17568 (zshl 1 (3 * (x9_23309 % 3) + x11_23383)))) dX12_laysInner_133 rfl rfl ?_
                    have h_23399 := zand_r (a := r_17568) (b := (zshl 1 (3 * (x9_23309 % 3) + x11_23383))) (by omega)
                    refine kx_if_eq 137 F 168 dX12_laysInner_134 (by decide) rfl (by omega) (fun h_23400 => ?_) (fun h_23400 => ?_)
                    · refine kx_iinc 171 F 11 (v := x11_23383 + 1) (lo' := [some (vR G 163), some (vI a1), some (vI a2), some (vI x3_23382), some (vI (M 163 45)), some (vI x5_17549), some (vI r_17568), some (vI x7_22668), some (vI r_22686), some (vI x9_23309), some (vI ((N_23310 (M 163 41) (64 * x9_23309 + x7_22668)) + 1)), some (vI (x11_23383 + 1))]) dX12_laysInner_168 rfl (by omega) (by decide) rfl rfl rfl ?_
                      refine kx_goto 108 F dX12_laysInner_171 (by decide) ?_
                      have h_23401 := Inv.g hI_N_23384 kd_163 rfl 45 (a := 0) (b := 64) rfl rfl
                      exact ih_23387 _ (by omega) x3_23382 (x11_23383 + 1) N_23384 hI_N_23384 hF_N_23384 hp_23390 hp_23391 (by omega) rfl
                    · refine kx_aload_n 138 F 0 dX12_laysInner_137 rfl rfl rfl ?_
                      refine kx_aload_n 139 F 0 dX12_laysInner_138 rfl rfl rfl ?_
                      refine kx_getr 142 F fl_X12_95 kd_163 rfl rfl (j := 41) rfl dX12_laysInner_139 (v := (M 163 41)) (by rw [Fr.e hF_N_23384 kd_163 _ rfl]) rfl ?_
                      refine kx_bipush 144 F dX12_laysInner_142 (by decide) rfl ?_
                      refine kx_iload 146 F 9 dX12_laysInner_144 rfl rfl ?_
                      refine kx_iload 148 F 9 dX12_laysInner_146 rfl rfl ?_
                      refine kx_iconst 149 F dX12_laysInner_148 rfl ?_
                      refine kx_irem 150 F (v := (x9_23309 % 3)) dX12_laysInner_149 (by omega) (by decide) rfl rfl ?_
                      refine kx_isub 151 F (v := x9_23309 - (x9_23309 % 3)) dX12_laysInner_150 rfl rfl ?_
                      refine kx_iload 153 F 11 dX12_laysInner_151 rfl rfl ?_
                      refine kx_iadd 154 F (v := x9_23309 - (x9_23309 % 3) + x11_23383) dX12_laysInner_153 rfl rfl ?_
                      refine kx_imul 155 F (v := 64 * x9_23309 - 64 * (x9_23309 % 3) + 64 * x11_23383) dX12_laysInner_154 (by omega) rfl ?_
                      refine kx_iload 157 F 8 dX12_laysInner_155 rfl rfl ?_
                      refine kx_iadd 158 F (v := 64 * x9_23309 - 64 * (x9_23309 % 3) + 64 * x11_23383 + r_22686) dX12_laysInner_157 rfl rfl ?_
                      refine kx_iload 160 F 10 dX12_laysInner_158 rfl rfl ?_
                      refine kx_Vi 163 (ci := 0) F (As := [vR G (M 163 41), vI (64 * x9_23309 - 64 * (x9_23309 % 3) + 64 * x11_23383 + r_22686), vI ((N_23310 (M 163 41) (64 * x9_23309 + x7_22668)) + 1)]) (st := []) vd_X12_448 (c_lowTG G l N_23384 (M 163 41) (64 * x9_23309 - 64 * (x9_23309 % 3) + 64 * x11_23383 + r_22686) ((N_23310 (M 163 41) (64 * x9_23309 + x7_22668)) + 1) hI_N_23384 hk_23320 (by omega)) kd_163 rfl rfl rfl ⟨by decide, by decide⟩ rfl rfl (Nat.le_of_ble_eq_true rfl) dX12_laysInner_160 rfl ?_
                      intro r_23402 N_23403 q_23404
                      obtain ⟨hI_N_23403, hG_N_23403, q_23404c⟩ := q_23404
                      have hF_N_23403 : Fr f_e_laysInner M N_23403 := Fr.c hF_N_23384 hG_N_23403 rfl
                      rcases q_23404c with q_23404c | q_23404c
                      · refine kx_if_eq 166 F 168 dX12_laysInner_163 (by decide) rfl (by omega) (fun h_23405 => (by exfalso; omega)) (fun h_23405 => ?_)
                        refine kx_iconst 167 F dX12_laysInner_166 rfl ?_
                        refine kx_istore_n 168 F 3 (lo' := [some (vR G 163), some (vI a1), some (vI a2), some (vI 1), some (vI (M 163 45)), some (vI x5_17549), some (vI r_17568), some (vI x7_22668), some (vI r_22686), some (vI x9_23309), some (vI ((N_23310 (M 163 41) (64 * x9_23309 + x7_22668)) + 1)), some (vI x11_23383)]) dX12_laysInner_167 rfl (by decide) rfl rfl rfl ?_
                        refine kx_iinc 171 F 11 (v := x11_23383 + 1) (lo' := [some (vR G 163), some (vI a1), some (vI a2), some (vI 1), some (vI (M 163 45)), some (vI x5_17549), some (vI r_17568), some (vI x7_22668), some (vI r_22686), some (vI x9_23309), some (vI ((N_23310 (M 163 41) (64 * x9_23309 + x7_22668)) + 1)), some (vI (x11_23383 + 1))]) dX12_laysInner_168 rfl (by omega) (by decide) rfl rfl rfl ?_
                        refine kx_goto 108 F dX12_laysInner_171 (by decide) ?_
                        have hp_23406 : RP N_23403 (M 164) a2 := RP.fr hp_23390 hG_N_23403 rfl rfl
                        have hp_23407 : LD N_23403  := LD.fr hp_23391 hG_N_23403 rfl rfl
                        have e_23408 : (N_23403 163 45) = (N_23384 163 45) := by rw [Fr.e hG_N_23403 kd_163 _ rfl]
                        have h_23409 := Inv.g hI_N_23384 kd_163 rfl 45 (a := 0) (b := 64) rfl rfl
                        exact ih_23387 _ (by omega) 1 (x11_23383 + 1) N_23403 hI_N_23403 hF_N_23403 hp_23406 hp_23407 (by omega) rfl
                      · refine kx_if_eq 166 F 168 dX12_laysInner_163 (by decide) rfl (by omega) (fun h_23410 => ?_) (fun h_23410 => (by exfalso; omega))
                        refine kx_iinc 171 F 11 (v := x11_23383 + 1) (lo' := [some (vR G 163), some (vI a1), some (vI a2), some (vI x3_23382), some (vI (M 163 45)), some (vI x5_17549), some (vI r_17568), some (vI x7_22668), some (vI r_22686), some (vI x9_23309), some (vI ((N_23310 (M 163 41) (64 * x9_23309 + x7_22668)) + 1)), some (vI (x11_23383 + 1))]) dX12_laysInner_168 rfl (by omega) (by decide) rfl rfl rfl ?_
                        refine kx_goto 108 F dX12_laysInner_171 (by decide) ?_
                        have hp_23411 : RP N_23403 (M 164) a2 := RP.fr hp_23390 hG_N_23403 rfl rfl
                        have hp_23412 : LD N_23403  := LD.fr hp_23391 hG_N_23403 rfl rfl
                        have e_23413 : (N_23403 163 45) = (N_23384 163 45) := by rw [Fr.e hG_N_23403 kd_163 _ rfl]
                        have h_23414 := Inv.g hI_N_23384 kd_163 rfl 45 (a := 0) (b := 64) rfl rfl
                        exact ih_23387 _ (by omega) x3_23382 (x11_23383 + 1) N_23403 hI_N_23403 hF_N_23403 hp_23411 hp_23412 (by omega) rfl
              have h_23415 := Inv.g hI_N_23310 kd_163 rfl 45 (a := 0) (b := 64) rfl rfl
              exact L_23385 _ x3_23308 0 N_23310 hI_N_23310 hF_N_23310 hp_23316 hp_23317 (by omega) rfl
          have hp_23416 : LD N_22687  := LD.fr hp_22676 hG_N_22687 rfl rfl
          exact L_23311 _ x3_22667 0 N_22687 hI_N_22687 hF_N_22687 ho_N_22687 hp_23416 (by omega) rfl
      have h_23417 := Inv.g hI_N_17550 kd_163 rfl 45 (a := 0) (b := 64) rfl rfl
      exact L_22670 _ x3_17548 0 N_17550 hI_N_17550 hF_N_17550 hp_17556 hp_17557 (by omega) rfl
  exact L_17551 _ 0 ((M 164 0) + (M 164 1)) M hI_M hF_M hO hD (by omega) rfl
set_option maxRecDepth 100000 in
theorem dGR_40_c_1177 : (decode cX12_laysLonger 0 = .ok (.iconst 0, 1)) ∧ (decode cX12_laysLonger 1 = .ok (.istore_n 1, 1)) ∧ (decode cX12_laysLonger 2 = .ok (.aload_n 0, 1)) ∧ (decode cX12_laysLonger 3 = .ok (.getfield 459, 3)) ∧ (decode cX12_laysLonger 6 = .ok (.istore_n 2, 1)) ∧ (decode cX12_laysLonger 7 = .ok (.iconst 0, 1)) ∧ (decode cX12_laysLonger 8 = .ok (.istore_n 3, 1)) ∧ (decode cX12_laysLonger 9 = .ok (.iload_n 3, 1)) ∧ (decode cX12_laysLonger 10 = .ok (.iload_n 2, 1)) ∧ (decode cX12_laysLonger 11 = .ok (.if_icmp .ge 144, 3)) ∧ (decode cX12_laysLonger 14 = .ok (.iconst 0, 1)) ∧ (decode cX12_laysLonger 15 = .ok (.istore 4, 2)) := by decide +kernel
theorem dX12_laysLonger_0 : decode cX12_laysLonger 0 = .ok (.iconst 0, 1) := dGR_40_c_1177.1
theorem dX12_laysLonger_1 : decode cX12_laysLonger 1 = .ok (.istore_n 1, 1) := dGR_40_c_1177.2.1
theorem dX12_laysLonger_2 : decode cX12_laysLonger 2 = .ok (.aload_n 0, 1) := dGR_40_c_1177.2.2.1
theorem dX12_laysLonger_3 : decode cX12_laysLonger 3 = .ok (.getfield 459, 3) := dGR_40_c_1177.2.2.2.1
theorem dX12_laysLonger_6 : decode cX12_laysLonger 6 = .ok (.istore_n 2, 1) := dGR_40_c_1177.2.2.2.2.1
theorem dX12_laysLonger_7 : decode cX12_laysLonger 7 = .ok (.iconst 0, 1) := dGR_40_c_1177.2.2.2.2.2.1
theorem dX12_laysLonger_8 : decode cX12_laysLonger 8 = .ok (.istore_n 3, 1) := dGR_40_c_1177.2.2.2.2.2.2.1
theorem dX12_laysLonger_9 : decode cX12_laysLonger 9 = .ok (.iload_n 3, 1) := dGR_40_c_1177.2.2.2.2.2.2.2.1
theorem dX12_laysLonger_10 : decode cX12_laysLonger 10 = .ok (.iload_n 2, 1) := dGR_40_c_1177.2.2.2.2.2.2.2.2.1
theorem dX12_laysLonger_11 : decode cX12_laysLonger 11 = .ok (.if_icmp .ge 144, 3) := dGR_40_c_1177.2.2.2.2.2.2.2.2.2.1
theorem dX12_laysLonger_14 : decode cX12_laysLonger 14 = .ok (.iconst 0, 1) := dGR_40_c_1177.2.2.2.2.2.2.2.2.2.2.1
theorem dX12_laysLonger_15 : decode cX12_laysLonger 15 = .ok (.istore 4, 2) := dGR_40_c_1177.2.2.2.2.2.2.2.2.2.2.2
set_option maxRecDepth 100000 in
theorem dGR_40_c_1178 : (decode cX12_laysLonger 17 = .ok (.iload 4, 2)) ∧ (decode cX12_laysLonger 19 = .ok (.iload_n 2, 1)) ∧ (decode cX12_laysLonger 20 = .ok (.if_icmp .ge 129, 3)) ∧ (decode cX12_laysLonger 23 = .ok (.aload_n 0, 1)) ∧ (decode cX12_laysLonger 24 = .ok (.aload_n 0, 1)) ∧ (decode cX12_laysLonger 25 = .ok (.getfield 92, 3)) ∧ (decode cX12_laysLonger 28 = .ok (.iload_n 3, 1)) ∧ (decode cX12_laysLonger 29 = .ok (.iaload, 1)) ∧ (decode cX12_laysLonger 30 = .ok (.aload_n 0, 1)) ∧ (decode cX12_laysLonger 31 = .ok (.getfield 92, 3)) ∧ (decode cX12_laysLonger 34 = .ok (.iload 4, 2)) ∧ (decode cX12_laysLonger 36 = .ok (.iaload, 1)) := by decide +kernel
theorem dX12_laysLonger_17 : decode cX12_laysLonger 17 = .ok (.iload 4, 2) := dGR_40_c_1178.1
theorem dX12_laysLonger_19 : decode cX12_laysLonger 19 = .ok (.iload_n 2, 1) := dGR_40_c_1178.2.1
theorem dX12_laysLonger_20 : decode cX12_laysLonger 20 = .ok (.if_icmp .ge 129, 3) := dGR_40_c_1178.2.2.1
theorem dX12_laysLonger_23 : decode cX12_laysLonger 23 = .ok (.aload_n 0, 1) := dGR_40_c_1178.2.2.2.1
theorem dX12_laysLonger_24 : decode cX12_laysLonger 24 = .ok (.aload_n 0, 1) := dGR_40_c_1178.2.2.2.2.1
theorem dX12_laysLonger_25 : decode cX12_laysLonger 25 = .ok (.getfield 92, 3) := dGR_40_c_1178.2.2.2.2.2.1
theorem dX12_laysLonger_28 : decode cX12_laysLonger 28 = .ok (.iload_n 3, 1) := dGR_40_c_1178.2.2.2.2.2.2.1
theorem dX12_laysLonger_29 : decode cX12_laysLonger 29 = .ok (.iaload, 1) := dGR_40_c_1178.2.2.2.2.2.2.2.1
theorem dX12_laysLonger_30 : decode cX12_laysLonger 30 = .ok (.aload_n 0, 1) := dGR_40_c_1178.2.2.2.2.2.2.2.2.1
theorem dX12_laysLonger_31 : decode cX12_laysLonger 31 = .ok (.getfield 92, 3) := dGR_40_c_1178.2.2.2.2.2.2.2.2.2.1
theorem dX12_laysLonger_34 : decode cX12_laysLonger 34 = .ok (.iload 4, 2) := dGR_40_c_1178.2.2.2.2.2.2.2.2.2.2.1
theorem dX12_laysLonger_36 : decode cX12_laysLonger 36 = .ok (.iaload, 1) := dGR_40_c_1178.2.2.2.2.2.2.2.2.2.2.2
set_option maxRecDepth 100000 in
theorem dGR_40_c_1179 : (decode cX12_laysLonger 37 = .ok (.invokestatic 326, 3)) ∧ (decode cX12_laysLonger 40 = .ok (.invokevirtual 462, 3)) ∧ (decode cX12_laysLonger 43 = .ok (.istore 5, 2)) ∧ (decode cX12_laysLonger 45 = .ok (.iconst 0, 1)) ∧ (decode cX12_laysLonger 46 = .ok (.istore 6, 2)) ∧ (decode cX12_laysLonger 48 = .ok (.iload 6, 2)) ∧ (decode cX12_laysLonger 50 = .ok (.bipush 27, 2)) ∧ (decode cX12_laysLonger 52 = .ok (.if_icmp .ge 91, 3)) ∧ (decode cX12_laysLonger 55 = .ok (.aload_n 0, 1)) ∧ (decode cX12_laysLonger 56 = .ok (.getfield 95, 3)) ∧ (decode cX12_laysLonger 59 = .ok (.bipush 64, 2)) ∧ (decode cX12_laysLonger 61 = .ok (.iload 6, 2)) := by decide +kernel
theorem dX12_laysLonger_37 : decode cX12_laysLonger 37 = .ok (.invokestatic 326, 3) := dGR_40_c_1179.1
theorem dX12_laysLonger_40 : decode cX12_laysLonger 40 = .ok (.invokevirtual 462, 3) := dGR_40_c_1179.2.1
theorem dX12_laysLonger_43 : decode cX12_laysLonger 43 = .ok (.istore 5, 2) := dGR_40_c_1179.2.2.1
theorem dX12_laysLonger_45 : decode cX12_laysLonger 45 = .ok (.iconst 0, 1) := dGR_40_c_1179.2.2.2.1
theorem dX12_laysLonger_46 : decode cX12_laysLonger 46 = .ok (.istore 6, 2) := dGR_40_c_1179.2.2.2.2.1
theorem dX12_laysLonger_48 : decode cX12_laysLonger 48 = .ok (.iload 6, 2) := dGR_40_c_1179.2.2.2.2.2.1
theorem dX12_laysLonger_50 : decode cX12_laysLonger 50 = .ok (.bipush 27, 2) := dGR_40_c_1179.2.2.2.2.2.2.1
theorem dX12_laysLonger_52 : decode cX12_laysLonger 52 = .ok (.if_icmp .ge 91, 3) := dGR_40_c_1179.2.2.2.2.2.2.2.1
theorem dX12_laysLonger_55 : decode cX12_laysLonger 55 = .ok (.aload_n 0, 1) := dGR_40_c_1179.2.2.2.2.2.2.2.2.1
theorem dX12_laysLonger_56 : decode cX12_laysLonger 56 = .ok (.getfield 95, 3) := dGR_40_c_1179.2.2.2.2.2.2.2.2.2.1
theorem dX12_laysLonger_59 : decode cX12_laysLonger 59 = .ok (.bipush 64, 2) := dGR_40_c_1179.2.2.2.2.2.2.2.2.2.2.1
theorem dX12_laysLonger_61 : decode cX12_laysLonger 61 = .ok (.iload 6, 2) := dGR_40_c_1179.2.2.2.2.2.2.2.2.2.2.2
set_option maxRecDepth 100000 in
theorem dGR_40_c_1180 : (decode cX12_laysLonger 63 = .ok (.iconst 3, 1)) ∧ (decode cX12_laysLonger 64 = .ok (.idiv, 1)) ∧ (decode cX12_laysLonger 65 = .ok (.imul, 1)) ∧ (decode cX12_laysLonger 66 = .ok (.iload_n 3, 1)) ∧ (decode cX12_laysLonger 67 = .ok (.iadd, 1)) ∧ (decode cX12_laysLonger 68 = .ok (.iaload, 1)) ∧ (decode cX12_laysLonger 69 = .ok (.aload_n 0, 1)) ∧ (decode cX12_laysLonger 70 = .ok (.getfield 98, 3)) ∧ (decode cX12_laysLonger 73 = .ok (.bipush 64, 2)) ∧ (decode cX12_laysLonger 75 = .ok (.iconst 3, 1)) ∧ (decode cX12_laysLonger 76 = .ok (.iload 6, 2)) ∧ (decode cX12_laysLonger 78 = .ok (.iconst 3, 1)) := by decide +kernel
theorem dX12_laysLonger_63 : decode cX12_laysLonger 63 = .ok (.iconst 3, 1) := dGR_40_c_1180.1
theorem dX12_laysLonger_64 : decode cX12_laysLonger 64 = .ok (.idiv, 1) := dGR_40_c_1180.2.1
theorem dX12_laysLonger_65 : decode cX12_laysLonger 65 = .ok (.imul, 1) := dGR_40_c_1180.2.2.1
theorem dX12_laysLonger_66 : decode cX12_laysLonger 66 = .ok (.iload_n 3, 1) := dGR_40_c_1180.2.2.2.1
theorem dX12_laysLonger_67 : decode cX12_laysLonger 67 = .ok (.iadd, 1) := dGR_40_c_1180.2.2.2.2.1
theorem dX12_laysLonger_68 : decode cX12_laysLonger 68 = .ok (.iaload, 1) := dGR_40_c_1180.2.2.2.2.2.1
theorem dX12_laysLonger_69 : decode cX12_laysLonger 69 = .ok (.aload_n 0, 1) := dGR_40_c_1180.2.2.2.2.2.2.1
theorem dX12_laysLonger_70 : decode cX12_laysLonger 70 = .ok (.getfield 98, 3) := dGR_40_c_1180.2.2.2.2.2.2.2.1
theorem dX12_laysLonger_73 : decode cX12_laysLonger 73 = .ok (.bipush 64, 2) := dGR_40_c_1180.2.2.2.2.2.2.2.2.1
theorem dX12_laysLonger_75 : decode cX12_laysLonger 75 = .ok (.iconst 3, 1) := dGR_40_c_1180.2.2.2.2.2.2.2.2.2.1
theorem dX12_laysLonger_76 : decode cX12_laysLonger 76 = .ok (.iload 6, 2) := dGR_40_c_1180.2.2.2.2.2.2.2.2.2.2.1
theorem dX12_laysLonger_78 : decode cX12_laysLonger 78 = .ok (.iconst 3, 1) := dGR_40_c_1180.2.2.2.2.2.2.2.2.2.2.2
set_option maxRecDepth 100000 in
theorem dGR_40_c_1181 : (decode cX12_laysLonger 79 = .ok (.idiv, 1)) ∧ (decode cX12_laysLonger 80 = .ok (.iconst 3, 1)) ∧ (decode cX12_laysLonger 81 = .ok (.irem, 1)) ∧ (decode cX12_laysLonger 82 = .ok (.imul, 1)) ∧ (decode cX12_laysLonger 83 = .ok (.iload 6, 2)) ∧ (decode cX12_laysLonger 85 = .ok (.iconst 3, 1)) ∧ (decode cX12_laysLonger 86 = .ok (.irem, 1)) ∧ (decode cX12_laysLonger 87 = .ok (.iadd, 1)) ∧ (decode cX12_laysLonger 88 = .ok (.imul, 1)) ∧ (decode cX12_laysLonger 89 = .ok (.iload 4, 2)) ∧ (decode cX12_laysLonger 91 = .ok (.iadd, 1)) ∧ (decode cX12_laysLonger 92 = .ok (.iaload, 1)) := by decide +kernel
theorem dX12_laysLonger_79 : decode cX12_laysLonger 79 = .ok (.idiv, 1) := dGR_40_c_1181.1
theorem dX12_laysLonger_80 : decode cX12_laysLonger 80 = .ok (.iconst 3, 1) := dGR_40_c_1181.2.1
theorem dX12_laysLonger_81 : decode cX12_laysLonger 81 = .ok (.irem, 1) := dGR_40_c_1181.2.2.1
theorem dX12_laysLonger_82 : decode cX12_laysLonger 82 = .ok (.imul, 1) := dGR_40_c_1181.2.2.2.1
theorem dX12_laysLonger_83 : decode cX12_laysLonger 83 = .ok (.iload 6, 2) := dGR_40_c_1181.2.2.2.2.1
theorem dX12_laysLonger_85 : decode cX12_laysLonger 85 = .ok (.iconst 3, 1) := dGR_40_c_1181.2.2.2.2.2.1
theorem dX12_laysLonger_86 : decode cX12_laysLonger 86 = .ok (.irem, 1) := dGR_40_c_1181.2.2.2.2.2.2.1
theorem dX12_laysLonger_87 : decode cX12_laysLonger 87 = .ok (.iadd, 1) := dGR_40_c_1181.2.2.2.2.2.2.2.1
theorem dX12_laysLonger_88 : decode cX12_laysLonger 88 = .ok (.imul, 1) := dGR_40_c_1181.2.2.2.2.2.2.2.2.1
theorem dX12_laysLonger_89 : decode cX12_laysLonger 89 = .ok (.iload 4, 2) := dGR_40_c_1181.2.2.2.2.2.2.2.2.2.1
theorem dX12_laysLonger_91 : decode cX12_laysLonger 91 = .ok (.iadd, 1) := dGR_40_c_1181.2.2.2.2.2.2.2.2.2.2.1
theorem dX12_laysLonger_92 : decode cX12_laysLonger 92 = .ok (.iaload, 1) := dGR_40_c_1181.2.2.2.2.2.2.2.2.2.2.2
set_option maxRecDepth 100000 in
theorem dGR_40_c_1182 : (decode cX12_laysLonger 93 = .ok (.iadd, 1)) ∧ (decode cX12_laysLonger 94 = .ok (.istore 7, 2)) ∧ (decode cX12_laysLonger 96 = .ok (.iload 7, 2)) ∧ (decode cX12_laysLonger 98 = .ok (.ldc_w 428, 3)) ∧ (decode cX12_laysLonger 101 = .ok (.if_icmp .ge 36, 3)) ∧ (decode cX12_laysLonger 104 = .ok (.aload_n 0, 1)) ∧ (decode cX12_laysLonger 105 = .ok (.aload_n 0, 1)) ∧ (decode cX12_laysLonger 106 = .ok (.getfield 95, 3)) ∧ (decode cX12_laysLonger 109 = .ok (.bipush 64, 2)) ∧ (decode cX12_laysLonger 111 = .ok (.iconst 3, 1)) ∧ (decode cX12_laysLonger 112 = .ok (.iload 6, 2)) ∧ (decode cX12_laysLonger 114 = .ok (.bipush 9, 2)) := by decide +kernel
theorem dX12_laysLonger_93 : decode cX12_laysLonger 93 = .ok (.iadd, 1) := dGR_40_c_1182.1
theorem dX12_laysLonger_94 : decode cX12_laysLonger 94 = .ok (.istore 7, 2) := dGR_40_c_1182.2.1
theorem dX12_laysLonger_96 : decode cX12_laysLonger 96 = .ok (.iload 7, 2) := dGR_40_c_1182.2.2.1
theorem dX12_laysLonger_98 : decode cX12_laysLonger 98 = .ok (.ldc_w 428, 3) := dGR_40_c_1182.2.2.2.1
theorem dX12_laysLonger_101 : decode cX12_laysLonger 101 = .ok (.if_icmp .ge 36, 3) := dGR_40_c_1182.2.2.2.2.1
theorem dX12_laysLonger_104 : decode cX12_laysLonger 104 = .ok (.aload_n 0, 1) := dGR_40_c_1182.2.2.2.2.2.1
theorem dX12_laysLonger_105 : decode cX12_laysLonger 105 = .ok (.aload_n 0, 1) := dGR_40_c_1182.2.2.2.2.2.2.1
theorem dX12_laysLonger_106 : decode cX12_laysLonger 106 = .ok (.getfield 95, 3) := dGR_40_c_1182.2.2.2.2.2.2.2.1
theorem dX12_laysLonger_109 : decode cX12_laysLonger 109 = .ok (.bipush 64, 2) := dGR_40_c_1182.2.2.2.2.2.2.2.2.1
theorem dX12_laysLonger_111 : decode cX12_laysLonger 111 = .ok (.iconst 3, 1) := dGR_40_c_1182.2.2.2.2.2.2.2.2.2.1
theorem dX12_laysLonger_112 : decode cX12_laysLonger 112 = .ok (.iload 6, 2) := dGR_40_c_1182.2.2.2.2.2.2.2.2.2.2.1
theorem dX12_laysLonger_114 : decode cX12_laysLonger 114 = .ok (.bipush 9, 2) := dGR_40_c_1182.2.2.2.2.2.2.2.2.2.2.2
set_option maxRecDepth 100000 in
theorem dGR_40_c_1183 : (decode cX12_laysLonger 116 = .ok (.idiv, 1)) ∧ (decode cX12_laysLonger 117 = .ok (.imul, 1)) ∧ (decode cX12_laysLonger 118 = .ok (.iload 6, 2)) ∧ (decode cX12_laysLonger 120 = .ok (.iconst 3, 1)) ∧ (decode cX12_laysLonger 121 = .ok (.irem, 1)) ∧ (decode cX12_laysLonger 122 = .ok (.iadd, 1)) ∧ (decode cX12_laysLonger 123 = .ok (.imul, 1)) ∧ (decode cX12_laysLonger 124 = .ok (.iload 5, 2)) ∧ (decode cX12_laysLonger 126 = .ok (.iadd, 1)) ∧ (decode cX12_laysLonger 127 = .ok (.iload 7, 2)) ∧ (decode cX12_laysLonger 129 = .ok (.invokevirtual 448, 3)) ∧ (decode cX12_laysLonger 132 = .ok (.ifCond .eq 5, 3)) := by decide +kernel
theorem dX12_laysLonger_116 : decode cX12_laysLonger 116 = .ok (.idiv, 1) := dGR_40_c_1183.1
theorem dX12_laysLonger_117 : decode cX12_laysLonger 117 = .ok (.imul, 1) := dGR_40_c_1183.2.1
theorem dX12_laysLonger_118 : decode cX12_laysLonger 118 = .ok (.iload 6, 2) := dGR_40_c_1183.2.2.1
theorem dX12_laysLonger_120 : decode cX12_laysLonger 120 = .ok (.iconst 3, 1) := dGR_40_c_1183.2.2.2.1
theorem dX12_laysLonger_121 : decode cX12_laysLonger 121 = .ok (.irem, 1) := dGR_40_c_1183.2.2.2.2.1
theorem dX12_laysLonger_122 : decode cX12_laysLonger 122 = .ok (.iadd, 1) := dGR_40_c_1183.2.2.2.2.2.1
theorem dX12_laysLonger_123 : decode cX12_laysLonger 123 = .ok (.imul, 1) := dGR_40_c_1183.2.2.2.2.2.2.1
theorem dX12_laysLonger_124 : decode cX12_laysLonger 124 = .ok (.iload 5, 2) := dGR_40_c_1183.2.2.2.2.2.2.2.1
theorem dX12_laysLonger_126 : decode cX12_laysLonger 126 = .ok (.iadd, 1) := dGR_40_c_1183.2.2.2.2.2.2.2.2.1
theorem dX12_laysLonger_127 : decode cX12_laysLonger 127 = .ok (.iload 7, 2) := dGR_40_c_1183.2.2.2.2.2.2.2.2.2.1
theorem dX12_laysLonger_129 : decode cX12_laysLonger 129 = .ok (.invokevirtual 448, 3) := dGR_40_c_1183.2.2.2.2.2.2.2.2.2.2.1
theorem dX12_laysLonger_132 : decode cX12_laysLonger 132 = .ok (.ifCond .eq 5, 3) := dGR_40_c_1183.2.2.2.2.2.2.2.2.2.2.2
set_option maxRecDepth 100000 in
theorem dGR_40_c_1184 : (decode cX12_laysLonger 135 = .ok (.iconst 1, 1)) ∧ (decode cX12_laysLonger 136 = .ok (.istore_n 1, 1)) ∧ (decode cX12_laysLonger 137 = .ok (.iinc 6 1, 3)) ∧ (decode cX12_laysLonger 140 = .ok (.goto (-92), 3)) ∧ (decode cX12_laysLonger 143 = .ok (.iinc 4 1, 3)) ∧ (decode cX12_laysLonger 146 = .ok (.goto (-129), 3)) ∧ (decode cX12_laysLonger 149 = .ok (.iinc 3 1, 3)) ∧ (decode cX12_laysLonger 152 = .ok (.goto (-143), 3)) ∧ (decode cX12_laysLonger 155 = .ok (.iload_n 1, 1)) ∧ (decode cX12_laysLonger 156 = .ok (.ireturn, 1)) := by decide +kernel
theorem dX12_laysLonger_135 : decode cX12_laysLonger 135 = .ok (.iconst 1, 1) := dGR_40_c_1184.1
theorem dX12_laysLonger_136 : decode cX12_laysLonger 136 = .ok (.istore_n 1, 1) := dGR_40_c_1184.2.1
theorem dX12_laysLonger_137 : decode cX12_laysLonger 137 = .ok (.iinc 6 1, 3) := dGR_40_c_1184.2.2.1
theorem dX12_laysLonger_140 : decode cX12_laysLonger 140 = .ok (.goto (-92), 3) := dGR_40_c_1184.2.2.2.1
theorem dX12_laysLonger_143 : decode cX12_laysLonger 143 = .ok (.iinc 4 1, 3) := dGR_40_c_1184.2.2.2.2.1
theorem dX12_laysLonger_146 : decode cX12_laysLonger 146 = .ok (.goto (-129), 3) := dGR_40_c_1184.2.2.2.2.2.1
theorem dX12_laysLonger_149 : decode cX12_laysLonger 149 = .ok (.iinc 3 1, 3) := dGR_40_c_1184.2.2.2.2.2.2.1
theorem dX12_laysLonger_152 : decode cX12_laysLonger 152 = .ok (.goto (-143), 3) := dGR_40_c_1184.2.2.2.2.2.2.2.1
theorem dX12_laysLonger_155 : decode cX12_laysLonger 155 = .ok (.iload_n 1, 1) := dGR_40_c_1184.2.2.2.2.2.2.2.2.1
theorem dX12_laysLonger_156 : decode cX12_laysLonger 156 = .ok (.ireturn, 1) := dGR_40_c_1184.2.2.2.2.2.2.2.2.2
abbrev f_e_laysLonger : List (Nat × Int) := [(64, 45), (86, -1), (87, -1)]
set_option maxHeartbeats 4000000 in
set_option maxRecDepth 100000 in
theorem e_laysLonger (G : KG) (l : Launch) (M : Mem) (hI_M : Inv true M) {Aq : Int → Int} {b : Int} (hO : RP M Aq b) (hA : AOK Aq b) (hC : Clo Aq b) : KC true G l yX12_laysLonger cX12_laysLonger 8 (some .boolean) (2, 45) [vR G 163] M (fun A => kQi true G A (fun (r : Int) (N : Mem) => Inv true N ∧ Fr f_e_laysLonger M N ∧ ((r = 1 ∧ (tot 87 576 N) + 1 ≤ (tot 87 576 M)) ∨ (r = 0 ∧ (tot 87 576 N) ≤ (tot 87 576 M))) ∧ (RP N Aq b))) := by
  refine kx_met (lo := [some (vR G 163), none, none, none, none, none, none, none]) (by decide) (Nat.le_of_ble_eq_true rfl) rfl ?_
  intro X F hQ
  have hF_M : Fr f_e_laysLonger M M := Fr.rf _ _
  refine kx_iconst 1 F dX12_laysLonger_0 rfl ?_
  refine kx_istore_n 2 F 1 (lo' := [some (vR G 163), some (vI 0), none, none, none, none, none, none]) dX12_laysLonger_1 rfl (by decide) rfl rfl rfl ?_
  refine kx_aload_n 3 F 0 dX12_laysLonger_2 rfl rfl rfl ?_
  refine kx_geti 6 F fl_X12_459 kd_163 rfl rfl (j := 45) rfl dX12_laysLonger_3 (v := (M 163 45)) rfl rfl ?_
  have h_1 := Inv.g hI_M kd_163 rfl 45 (a := 0) (b := 64) rfl rfl
  refine kx_istore_n 7 F 2 (lo' := [some (vR G 163), some (vI 0), some (vI (M 163 45)), none, none, none, none, none]) dX12_laysLonger_6 rfl (by decide) rfl rfl rfl ?_
  refine kx_iconst 8 F dX12_laysLonger_7 rfl ?_
  refine kx_istore_n 9 F 3 (lo' := [some (vR G 163), some (vI 0), some (vI (M 163 45)), some (vI 0), none, none, none, none]) dX12_laysLonger_8 rfl (by decide) rfl rfl rfl ?_
  have L_7523 : ∀ (n_7524 : Nat) (x1_7520 : Int) (x3_7521 : Int) (N_7522 : Mem), Inv true N_7522 → Fr f_e_laysLonger M N_7522 → RP N_7522 Aq b → 0 ≤ x1_7520 ∧ x1_7520 ≤ 1 ∧ 0 ≤ x3_7521 ∧ x3_7521 ≤ 64 ∧ (tot 87 576 N_7522) + x1_7520 ≤ (tot 87 576 M) ∧ (M 163 45) ≤ (N_7522 163 45) → (64 - (x3_7521)).toNat = n_7524 → KJ true G X N_7522 9 [some (vR G 163), some (vI x1_7520), some (vI (M 163 45)), some (vI x3_7521), none, none, none, none] [] := by
    intro n_7524
    refine Nat.strongRecOn n_7524 ?_
    intro n_7524 ih_7525 x1_7520 x3_7521 N_7522 hI_N_7522 hF_N_7522 hp_7528 h_7526 hm_7527
    refine kx_iload_n 10 F 3 dX12_laysLonger_9 rfl rfl rfl ?_
    refine kx_iload_n 11 F 2 dX12_laysLonger_10 rfl rfl rfl ?_
    refine kx_icmp_ge 14 F 155 dX12_laysLonger_11 (by decide) rfl (by omega) (by omega) (fun h_7529 => ?_) (fun h_7529 => ?_)
    · refine kx_iload_n 156 F 1 dX12_laysLonger_155 rfl rfl rfl ?_
      exact kx_zret F hQ (by omega) ⟨hI_N_7522, hF_N_7522, (by omega), hp_7528⟩ dX12_laysLonger_156
    · refine kx_iconst 15 F dX12_laysLonger_14 rfl ?_
      refine kx_istore 17 F 4 (lo' := [some (vR G 163), some (vI x1_7520), some (vI (M 163 45)), some (vI x3_7521), some (vI 0), none, none, none]) dX12_laysLonger_15 (by decide) rfl rfl rfl ?_
      have L_8464 : ∀ (n_8465 : Nat) (x1_8461 : Int) (x4_8462 : Int) (N_8463 : Mem), Inv true N_8463 → Fr f_e_laysLonger M N_8463 → RP N_8463 Aq b → 0 ≤ x1_8461 ∧ x1_8461 ≤ 1 ∧ 0 ≤ x4_8462 ∧ x4_8462 ≤ 64 ∧ (tot 87 576 N_8463) + x1_8461 ≤ (tot 87 576 M) ∧ (M 163 45) ≤ (N_8463 163 45) → (64 - (x4_8462)).toNat = n_8465 → KJ true G X N_8463 17 [some (vR G 163), some (vI x1_8461), some (vI (M 163 45)), some (vI x3_7521), some (vI x4_8462), none, none, none] [] := by
        intro n_8465
        refine Nat.strongRecOn n_8465 ?_
        intro n_8465 ih_8466 x1_8461 x4_8462 N_8463 hI_N_8463 hF_N_8463 hp_8469 h_8467 hm_8468
        refine kx_iload 19 F 4 dX12_laysLonger_17 rfl rfl ?_
        refine kx_iload_n 20 F 2 dX12_laysLonger_19 rfl rfl rfl ?_
        refine kx_icmp_ge 23 F 149 dX12_laysLonger_20 (by decide) rfl (by omega) (by omega) (fun h_8470 => ?_) (fun h_8470 => ?_)
        · refine kx_iinc 152 F 3 (v := x3_7521 + 1) (lo' := [some (vR G 163), some (vI x1_8461), some (vI (M 163 45)), some (vI (x3_7521 + 1)), some (vI x4_8462), none, none, none]) dX12_laysLonger_149 rfl (by omega) (by decide) rfl rfl rfl ?_
          refine kx_goto 9 F dX12_laysLonger_152 (by decide) ?_
          refine kx_drop 4 (lo' := [some (vR G 163), some (vI x1_8461), some (vI (M 163 45)), some (vI (x3_7521 + 1)), none, none, none, none]) rfl ?_
          have h_8471 := Inv.g hI_N_8463 kd_163 rfl 45 (a := 0) (b := 64) rfl rfl
          exact ih_7525 _ (by omega) x1_8461 (x3_7521 + 1) N_8463 hI_N_8463 hF_N_8463 hp_8469 (by omega) rfl
        · refine kx_aload_n 24 F 0 dX12_laysLonger_23 rfl rfl rfl ?_
          refine kx_aload_n 25 F 0 dX12_laysLonger_24 rfl rfl rfl ?_
          refine kx_getr 28 F fl_X12_92 kd_163 rfl rfl (j := 40) rfl dX12_laysLonger_25 (v := 187) (uq_187 (Inv.r hI_N_8463 kd_163 rfl 40 rfl rfl)) rfl ?_
          refine kx_iload_n 29 F 3 dX12_laysLonger_28 rfl rfl rfl ?_
          refine kx_iald 30 F kd_187 rfl rfl (by omega) (by decide) dX12_laysLonger_29 (v := (N_8463 187 x3_7521)) rfl rfl ?_
          have h_8472 := Inv.g hI_N_8463 kd_187 rfl x3_7521 (a := 0) (b := 511) rfl rfl
          refine kx_aload_n 31 F 0 dX12_laysLonger_30 rfl rfl rfl ?_
          refine kx_getr 34 F fl_X12_92 kd_163 rfl rfl (j := 40) rfl dX12_laysLonger_31 (v := 187) (uq_187 (Inv.r hI_N_8463 kd_163 rfl 40 rfl rfl)) rfl ?_
          refine kx_iload 36 F 4 dX12_laysLonger_34 rfl rfl ?_
          refine kx_iald 37 F kd_187 rfl rfl (by omega) (by decide) dX12_laysLonger_36 (v := (N_8463 187 x4_8462)) rfl rfl ?_
          have h_8473 := Inv.g hI_N_8463 kd_187 rfl x4_8462 (a := 0) (b := 511) rfl rfl
          refine kx_Si 40 F (As := [vI (N_8463 187 x3_7521), vI (N_8463 187 x4_8462)]) (st := [vR G 163]) sd_X12_326 (e_then G l N_8463 (N_8463 187 x3_7521) (N_8463 187 x4_8462) hI_N_8463 (by omega)) ⟨by decide, by decide⟩ rfl rfl (Nat.le_of_ble_eq_true rfl) dX12_laysLonger_37 rfl ?_
          intro r_8474 N_8475 q_8476
          obtain ⟨rfl, q_8476c, hz_N_8475⟩ := q_8476
          refine kx_Vi 43 (ci := 0) F (As := [vI r_8474]) (st := []) vd_X12_462 (e_relation G l N_8463 r_8474 hI_N_8463 (by omega) hp_8469 hA hC (Gd.th hp_8469 (i := x3_7521) (j := x4_8462) (by omega) (by omega) hz_N_8475)) kd_163 rfl rfl rfl ⟨by decide, by decide⟩ rfl rfl (Nat.le_of_ble_eq_true rfl) dX12_laysLonger_40 rfl ?_
          intro r_8477 N_8478 q_8479
          obtain ⟨hI_N_8478, hG_N_8478, q_8479c, ho_N_8478⟩ := q_8479
          have hF_N_8478 : Fr f_e_laysLonger M N_8478 := Fr.c hF_N_8463 hG_N_8478 rfl
          have ht_8480 := tot_fr 87 576 hG_N_8478 rfl
          have h_8481 := Inv.g hI_N_8478 kd_163 rfl 45 (a := 0) (b := 64) rfl rfl
          have h_8482 := Inv.g hI_N_8463 kd_163 rfl 45 (a := 0) (b := 64) rfl rfl
          refine kx_istore 45 F 5 (lo' := [some (vR G 163), some (vI x1_8461), some (vI (M 163 45)), some (vI x3_7521), some (vI x4_8462), some (vI r_8477), none, none]) dX12_laysLonger_43 (by decide) rfl rfl rfl ?_
          refine kx_iconst 46 F dX12_laysLonger_45 rfl ?_
          refine kx_istore 48 F 6 (lo' := [some (vR G 163), some (vI x1_8461), some (vI (M 163 45)), some (vI x3_7521), some (vI x4_8462), some (vI r_8477), some (vI 0), none]) dX12_laysLonger_46 (by decide) rfl rfl rfl ?_
          have L_8584 : ∀ (n_8585 : Nat) (x1_8581 : Int) (x6_8582 : Int) (N_8583 : Mem), Inv true N_8583 → Fr f_e_laysLonger M N_8583 → RP N_8583 Aq b → 0 ≤ x1_8581 ∧ x1_8581 ≤ 1 ∧ 0 ≤ x6_8582 ∧ x6_8582 ≤ 27 ∧ (tot 87 576 N_8583) + x1_8581 ≤ (tot 87 576 M) ∧ (M 163 45) ≤ (N_8583 163 45) → (27 - (x6_8582)).toNat = n_8585 → KJ true G X N_8583 48 [some (vR G 163), some (vI x1_8581), some (vI (M 163 45)), some (vI x3_7521), some (vI x4_8462), some (vI r_8477), some (vI x6_8582), none] [] := by
            intro n_8585
            refine Nat.strongRecOn n_8585 ?_
            intro n_8585 ih_8586 x1_8581 x6_8582 N_8583 hI_N_8583 hF_N_8583 hp_8589 h_8587 hm_8588
            refine kx_iload 50 F 6 dX12_laysLonger_48 rfl rfl ?_
            refine kx_bipush 52 F dX12_laysLonger_50 (by decide) rfl ?_
            refine kx_icmp_ge 55 F 143 dX12_laysLonger_52 (by decide) rfl (by omega) (by decide) (fun h_8590 => ?_) (fun h_8590 => ?_)
            · refine kx_iinc 146 F 4 (v := x4_8462 + 1) (lo' := [some (vR G 163), some (vI x1_8581), some (vI (M 163 45)), some (vI x3_7521), some (vI (x4_8462 + 1)), some (vI r_8477), some (vI x6_8582), none]) dX12_laysLonger_143 rfl (by omega) (by decide) rfl rfl rfl ?_
              refine kx_goto 17 F dX12_laysLonger_146 (by decide) ?_
              refine kx_drop 5 (lo' := [some (vR G 163), some (vI x1_8581), some (vI (M 163 45)), some (vI x3_7521), some (vI (x4_8462 + 1)), none, some (vI x6_8582), none]) rfl ?_
              refine kx_drop 6 (lo' := [some (vR G 163), some (vI x1_8581), some (vI (M 163 45)), some (vI x3_7521), some (vI (x4_8462 + 1)), none, none, none]) rfl ?_
              have h_8591 := Inv.g hI_N_8583 kd_163 rfl 45 (a := 0) (b := 64) rfl rfl
              exact ih_8466 _ (by omega) x1_8581 (x4_8462 + 1) N_8583 hI_N_8583 hF_N_8583 hp_8589 (by omega) rfl
            · refine kx_aload_n 56 F 0 dX12_laysLonger_55 rfl rfl rfl ?_
              refine kx_getr 59 F fl_X12_95 kd_163 rfl rfl (j := 41) rfl dX12_laysLonger_56 (v := (M 163 41)) (by rw [Fr.e hF_N_8583 kd_163 _ rfl]) rfl ?_
              have hk_8592 : kd (M 163 41) = 87 := Inv.r hI_M kd_163 rfl 41 rfl rfl
              refine kx_bipush 61 F dX12_laysLonger_59 (by decide) rfl ?_
              refine kx_iload 63 F 6 dX12_laysLonger_61 rfl rfl ?_
              refine kx_iconst 64 F dX12_laysLonger_63 rfl ?_
              refine kx_idiv 65 F (v := (x6_8582 / 3)) dX12_laysLonger_64 (by omega) (by decide) rfl rfl ?_
              refine kx_imul 66 F (v := 64 * (x6_8582 / 3)) dX12_laysLonger_65 (by omega) rfl ?_
              refine kx_iload_n 67 F 3 dX12_laysLonger_66 rfl rfl rfl ?_
              refine kx_iadd 68 F (v := 64 * (x6_8582 / 3) + x3_7521) dX12_laysLonger_67 rfl rfl ?_
              refine kx_iald 69 F hk_8592 rfl rfl (by omega) (by decide) dX12_laysLonger_68 (v := (N_8583 (M 163 41) (64 * (x6_8582 / 3) + x3_7521))) rfl rfl ?_
              have h_8593 := Inv.g hI_N_8583 hk_8592 rfl (64 * (x6_8582 / 3) + x3_7521) (a := 0) (b := 1000000) rfl rfl
              refine kx_aload_n 70 F 0 dX12_laysLonger_69 rfl rfl rfl ?_
              refine kx_getr 73 F fl_X12_98 kd_163 rfl rfl (j := 42) rfl dX12_laysLonger_70 (v := (M 163 42)) (by rw [Fr.e hF_N_8583 kd_163 _ rfl]) rfl ?_
              have hk_8594 : kd (M 163 42) = 87 := Inv.r hI_M kd_163 rfl 42 rfl rfl
              refine kx_bipush 75 F dX12_laysLonger_73 (by decide) rfl ?_
              refine kx_iconst 76 F dX12_laysLonger_75 rfl ?_
              refine kx_iload 78 F 6 dX12_laysLonger_76 rfl rfl ?_
              refine kx_iconst 79 F dX12_laysLonger_78 rfl ?_
              refine kx_idiv 80 F (v := (x6_8582 / 3)) dX12_laysLonger_79 (by omega) (by decide) rfl rfl ?_
              refine kx_iconst 81 F dX12_laysLonger_80 rfl ?_
              refine kx_irem 82 F (v := ((x6_8582 / 3) % 3)) dX12_laysLonger_81 (by omega) (by decide) rfl rfl ?_
              refine kx_imul 83 F (v := 3 * ((x6_8582 / 3) % 3)) dX12_laysLonger_82 (by omega) rfl ?_
              refine kx_iload 85 F 6 dX12_laysLonger_83 rfl rfl ?_
              refine kx_iconst 86 F dX12_laysLonger_85 rfl ?_
              refine kx_irem 87 F (v := (x6_8582 % 3)) dX12_laysLonger_86 (by omega) (by decide) rfl rfl ?_
              refine kx_iadd 88 F (v := 3 * ((x6_8582 / 3) % 3) + (x6_8582 % 3)) dX12_laysLonger_87 rfl rfl ?_
              refine kx_imul 89 F (v := 192 * ((x6_8582 / 3) % 3) + 64 * (x6_8582 % 3)) dX12_laysLonger_88 (by omega) rfl ?_
              refine kx_iload 91 F 4 dX12_laysLonger_89 rfl rfl ?_
              refine kx_iadd 92 F (v := 192 * ((x6_8582 / 3) % 3) + 64 * (x6_8582 % 3) + x4_8462) dX12_laysLonger_91 rfl rfl ?_
              refine kx_iald 93 F hk_8594 rfl rfl (by omega) (by decide) dX12_laysLonger_92 (v := (N_8583 (M 163 42) (192 * ((x6_8582 / 3) % 3) + 64 * (x6_8582 % 3) + x4_8462))) rfl rfl ?_
              have h_8595 := Inv.g hI_N_8583 hk_8594 rfl (192 * ((x6_8582 / 3) % 3) + 64 * (x6_8582 % 3) + x4_8462) (a := 0) (b := 1000000) rfl rfl
              refine kx_iadd 94 F (v := (N_8583 (M 163 41) (64 * (x6_8582 / 3) + x3_7521)) + (N_8583 (M 163 42) (192 * ((x6_8582 / 3) % 3) + 64 * (x6_8582 % 3) + x4_8462))) dX12_laysLonger_93 rfl rfl ?_
              refine kx_istore 96 F 7 (lo' := [some (vR G 163), some (vI x1_8581), some (vI (M 163 45)), some (vI x3_7521), some (vI x4_8462), some (vI r_8477), some (vI x6_8582), some (vI ((N_8583 (M 163 41) (64 * (x6_8582 / 3) + x3_7521)) + (N_8583 (M 163 42) (192 * ((x6_8582 / 3) % 3) + 64 * (x6_8582 % 3) + x4_8462))))]) dX12_laysLonger_94 (by decide) rfl rfl rfl ?_
              refine kx_iload 98 F 7 dX12_laysLonger_96 rfl rfl ?_
              refine kx_ldcw 101 (z := 1000000) F dX12_laysLonger_98 ct_X12_428 rfl ?_
              refine kx_icmp_ge 104 F 137 dX12_laysLonger_101 (by decide) rfl (by omega) (by decide) (fun h_8596 => ?_) (fun h_8596 => ?_)
              · refine kx_iinc 140 F 6 (v := x6_8582 + 1) (lo' := [some (vR G 163), some (vI x1_8581), some (vI (M 163 45)), some (vI x3_7521), some (vI x4_8462), some (vI r_8477), some (vI (x6_8582 + 1)), some (vI ((N_8583 (M 163 41) (64 * (x6_8582 / 3) + x3_7521)) + (N_8583 (M 163 42) (192 * ((x6_8582 / 3) % 3) + 64 * (x6_8582 % 3) + x4_8462))))]) dX12_laysLonger_137 rfl (by omega) (by decide) rfl rfl rfl ?_
                refine kx_goto 48 F dX12_laysLonger_140 (by decide) ?_
                refine kx_drop 7 (lo' := [some (vR G 163), some (vI x1_8581), some (vI (M 163 45)), some (vI x3_7521), some (vI x4_8462), some (vI r_8477), some (vI (x6_8582 + 1)), none]) rfl ?_
                have h_8597 := Inv.g hI_N_8583 kd_163 rfl 45 (a := 0) (b := 64) rfl rfl
                exact ih_8586 _ (by omega) x1_8581 (x6_8582 + 1) N_8583 hI_N_8583 hF_N_8583 hp_8589 (by omega) rfl
              · refine kx_aload_n 105 F 0 dX12_laysLonger_104 rfl rfl rfl ?_
                refine kx_aload_n 106 F 0 dX12_laysLonger_105 rfl rfl rfl ?_
                refine kx_getr 109 F fl_X12_95 kd_163 rfl rfl (j := 41) rfl dX12_laysLonger_106 (v := (M 163 41)) (by rw [Fr.e hF_N_8583 kd_163 _ rfl]) rfl ?_
                refine kx_bipush 111 F dX12_laysLonger_109 (by decide) rfl ?_
                refine kx_iconst 112 F dX12_laysLonger_111 rfl ?_
                refine kx_iload 114 F 6 dX12_laysLonger_112 rfl rfl ?_
                refine kx_bipush 116 F dX12_laysLonger_114 (by decide) rfl ?_
                refine kx_idiv 117 F (v := (x6_8582 / 9)) dX12_laysLonger_116 (by omega) (by decide) rfl rfl ?_
                refine kx_imul 118 F (v := 3 * (x6_8582 / 9)) dX12_laysLonger_117 (by omega) rfl ?_
                refine kx_iload 120 F 6 dX12_laysLonger_118 rfl rfl ?_
                refine kx_iconst 121 F dX12_laysLonger_120 rfl ?_
                refine kx_irem 122 F (v := (x6_8582 % 3)) dX12_laysLonger_121 (by omega) (by decide) rfl rfl ?_
                refine kx_iadd 123 F (v := 3 * (x6_8582 / 9) + (x6_8582 % 3)) dX12_laysLonger_122 rfl rfl ?_
                refine kx_imul 124 F (v := 192 * (x6_8582 / 9) + 64 * (x6_8582 % 3)) dX12_laysLonger_123 (by omega) rfl ?_
                refine kx_iload 126 F 5 dX12_laysLonger_124 rfl rfl ?_
                refine kx_iadd 127 F (v := 192 * (x6_8582 / 9) + 64 * (x6_8582 % 3) + r_8477) dX12_laysLonger_126 rfl rfl ?_
                refine kx_iload 129 F 7 dX12_laysLonger_127 rfl rfl ?_
                refine kx_Vi 132 (ci := 0) F (As := [vR G (M 163 41), vI (192 * (x6_8582 / 9) + 64 * (x6_8582 % 3) + r_8477), vI ((N_8583 (M 163 41) (64 * (x6_8582 / 3) + x3_7521)) + (N_8583 (M 163 42) (192 * ((x6_8582 / 3) % 3) + 64 * (x6_8582 % 3) + x4_8462)))]) (st := []) vd_X12_448 (c_lowTG G l N_8583 (M 163 41) (192 * (x6_8582 / 9) + 64 * (x6_8582 % 3) + r_8477) ((N_8583 (M 163 41) (64 * (x6_8582 / 3) + x3_7521)) + (N_8583 (M 163 42) (192 * ((x6_8582 / 3) % 3) + 64 * (x6_8582 % 3) + x4_8462))) hI_N_8583 hk_8592 (by omega)) kd_163 rfl rfl rfl ⟨by decide, by decide⟩ rfl rfl (Nat.le_of_ble_eq_true rfl) dX12_laysLonger_129 rfl ?_
                intro r_8598 N_8599 q_8600
                obtain ⟨hI_N_8599, hG_N_8599, q_8600c⟩ := q_8600
                have hF_N_8599 : Fr f_e_laysLonger M N_8599 := Fr.c hF_N_8583 hG_N_8599 rfl
                rcases q_8600c with q_8600c | q_8600c
                · refine kx_if_eq 135 F 137 dX12_laysLonger_132 (by decide) rfl (by omega) (fun h_8601 => (by exfalso; omega)) (fun h_8601 => ?_)
                  refine kx_iconst 136 F dX12_laysLonger_135 rfl ?_
                  refine kx_istore_n 137 F 1 (lo' := [some (vR G 163), some (vI 1), some (vI (M 163 45)), some (vI x3_7521), some (vI x4_8462), some (vI r_8477), some (vI x6_8582), some (vI ((N_8583 (M 163 41) (64 * (x6_8582 / 3) + x3_7521)) + (N_8583 (M 163 42) (192 * ((x6_8582 / 3) % 3) + 64 * (x6_8582 % 3) + x4_8462))))]) dX12_laysLonger_136 rfl (by decide) rfl rfl rfl ?_
                  refine kx_iinc 140 F 6 (v := x6_8582 + 1) (lo' := [some (vR G 163), some (vI 1), some (vI (M 163 45)), some (vI x3_7521), some (vI x4_8462), some (vI r_8477), some (vI (x6_8582 + 1)), some (vI ((N_8583 (M 163 41) (64 * (x6_8582 / 3) + x3_7521)) + (N_8583 (M 163 42) (192 * ((x6_8582 / 3) % 3) + 64 * (x6_8582 % 3) + x4_8462))))]) dX12_laysLonger_137 rfl (by omega) (by decide) rfl rfl rfl ?_
                  refine kx_goto 48 F dX12_laysLonger_140 (by decide) ?_
                  refine kx_drop 7 (lo' := [some (vR G 163), some (vI 1), some (vI (M 163 45)), some (vI x3_7521), some (vI x4_8462), some (vI r_8477), some (vI (x6_8582 + 1)), none]) rfl ?_
                  have hp_8602 : RP N_8599 Aq b := RP.fr hp_8589 hG_N_8599 rfl rfl
                  have e_8603 : (N_8599 163 45) = (N_8583 163 45) := by rw [Fr.e hG_N_8599 kd_163 _ rfl]
                  have h_8604 := Inv.g hI_N_8583 kd_163 rfl 45 (a := 0) (b := 64) rfl rfl
                  exact ih_8586 _ (by omega) 1 (x6_8582 + 1) N_8599 hI_N_8599 hF_N_8599 hp_8602 (by omega) rfl
                · refine kx_if_eq 135 F 137 dX12_laysLonger_132 (by decide) rfl (by omega) (fun h_8605 => ?_) (fun h_8605 => (by exfalso; omega))
                  refine kx_iinc 140 F 6 (v := x6_8582 + 1) (lo' := [some (vR G 163), some (vI x1_8581), some (vI (M 163 45)), some (vI x3_7521), some (vI x4_8462), some (vI r_8477), some (vI (x6_8582 + 1)), some (vI ((N_8583 (M 163 41) (64 * (x6_8582 / 3) + x3_7521)) + (N_8583 (M 163 42) (192 * ((x6_8582 / 3) % 3) + 64 * (x6_8582 % 3) + x4_8462))))]) dX12_laysLonger_137 rfl (by omega) (by decide) rfl rfl rfl ?_
                  refine kx_goto 48 F dX12_laysLonger_140 (by decide) ?_
                  refine kx_drop 7 (lo' := [some (vR G 163), some (vI x1_8581), some (vI (M 163 45)), some (vI x3_7521), some (vI x4_8462), some (vI r_8477), some (vI (x6_8582 + 1)), none]) rfl ?_
                  have hp_8606 : RP N_8599 Aq b := RP.fr hp_8589 hG_N_8599 rfl rfl
                  have e_8607 : (N_8599 163 45) = (N_8583 163 45) := by rw [Fr.e hG_N_8599 kd_163 _ rfl]
                  have h_8608 := Inv.g hI_N_8583 kd_163 rfl 45 (a := 0) (b := 64) rfl rfl
                  exact ih_8586 _ (by omega) x1_8581 (x6_8582 + 1) N_8599 hI_N_8599 hF_N_8599 hp_8606 (by omega) rfl
          exact L_8584 _ x1_8461 0 N_8478 hI_N_8478 hF_N_8478 ho_N_8478 (by omega) rfl
      have h_8609 := Inv.g hI_N_7522 kd_163 rfl 45 (a := 0) (b := 64) rfl rfl
      exact L_8464 _ x1_7520 0 N_7522 hI_N_7522 hF_N_7522 hp_7528 (by omega) rfl
  exact L_7523 _ 0 0 M hI_M hF_M hO (by omega) rfl
set_option maxRecDepth 100000 in
theorem dGR_40_c_1185 : (decode cX12_laysGoes 0 = .ok (.aload_n 0, 1)) ∧ (decode cX12_laysGoes 1 = .ok (.iconst 0, 1)) ∧ (decode cX12_laysGoes 2 = .ok (.putfield 459, 3)) ∧ (decode cX12_laysGoes 5 = .ok (.iconst 0, 1)) ∧ (decode cX12_laysGoes 6 = .ok (.istore_n 3, 1)) ∧ (decode cX12_laysGoes 7 = .ok (.iload_n 3, 1)) ∧ (decode cX12_laysGoes 8 = .ok (.sipush 576, 3)) ∧ (decode cX12_laysGoes 11 = .ok (.if_icmp .ge 27, 3)) ∧ (decode cX12_laysGoes 14 = .ok (.aload_n 0, 1)) ∧ (decode cX12_laysGoes 15 = .ok (.getfield 95, 3)) ∧ (decode cX12_laysGoes 18 = .ok (.iload_n 3, 1)) ∧ (decode cX12_laysGoes 19 = .ok (.ldc_w 428, 3)) := by decide +kernel
theorem dX12_laysGoes_0 : decode cX12_laysGoes 0 = .ok (.aload_n 0, 1) := dGR_40_c_1185.1
theorem dX12_laysGoes_1 : decode cX12_laysGoes 1 = .ok (.iconst 0, 1) := dGR_40_c_1185.2.1
theorem dX12_laysGoes_2 : decode cX12_laysGoes 2 = .ok (.putfield 459, 3) := dGR_40_c_1185.2.2.1
theorem dX12_laysGoes_5 : decode cX12_laysGoes 5 = .ok (.iconst 0, 1) := dGR_40_c_1185.2.2.2.1
theorem dX12_laysGoes_6 : decode cX12_laysGoes 6 = .ok (.istore_n 3, 1) := dGR_40_c_1185.2.2.2.2.1
theorem dX12_laysGoes_7 : decode cX12_laysGoes 7 = .ok (.iload_n 3, 1) := dGR_40_c_1185.2.2.2.2.2.1
theorem dX12_laysGoes_8 : decode cX12_laysGoes 8 = .ok (.sipush 576, 3) := dGR_40_c_1185.2.2.2.2.2.2.1
theorem dX12_laysGoes_11 : decode cX12_laysGoes 11 = .ok (.if_icmp .ge 27, 3) := dGR_40_c_1185.2.2.2.2.2.2.2.1
theorem dX12_laysGoes_14 : decode cX12_laysGoes 14 = .ok (.aload_n 0, 1) := dGR_40_c_1185.2.2.2.2.2.2.2.2.1
theorem dX12_laysGoes_15 : decode cX12_laysGoes 15 = .ok (.getfield 95, 3) := dGR_40_c_1185.2.2.2.2.2.2.2.2.2.1
theorem dX12_laysGoes_18 : decode cX12_laysGoes 18 = .ok (.iload_n 3, 1) := dGR_40_c_1185.2.2.2.2.2.2.2.2.2.2.1
theorem dX12_laysGoes_19 : decode cX12_laysGoes 19 = .ok (.ldc_w 428, 3) := dGR_40_c_1185.2.2.2.2.2.2.2.2.2.2.2
set_option maxRecDepth 100000 in
theorem dGR_40_c_1186 : (decode cX12_laysGoes 22 = .ok (.iastore, 1)) ∧ (decode cX12_laysGoes 23 = .ok (.aload_n 0, 1)) ∧ (decode cX12_laysGoes 24 = .ok (.getfield 98, 3)) ∧ (decode cX12_laysGoes 27 = .ok (.iload_n 3, 1)) ∧ (decode cX12_laysGoes 28 = .ok (.ldc_w 428, 3)) ∧ (decode cX12_laysGoes 31 = .ok (.iastore, 1)) ∧ (decode cX12_laysGoes 32 = .ok (.iinc 3 1, 3)) ∧ (decode cX12_laysGoes 35 = .ok (.goto (-28), 3)) ∧ (decode cX12_laysGoes 38 = .ok (.aload_n 0, 1)) ∧ (decode cX12_laysGoes 39 = .ok (.aload_n 0, 1)) ∧ (decode cX12_laysGoes 40 = .ok (.iload_n 2, 1)) ∧ (decode cX12_laysGoes 41 = .ok (.invokevirtual 329, 3)) := by decide +kernel
theorem dX12_laysGoes_22 : decode cX12_laysGoes 22 = .ok (.iastore, 1) := dGR_40_c_1186.1
theorem dX12_laysGoes_23 : decode cX12_laysGoes 23 = .ok (.aload_n 0, 1) := dGR_40_c_1186.2.1
theorem dX12_laysGoes_24 : decode cX12_laysGoes 24 = .ok (.getfield 98, 3) := dGR_40_c_1186.2.2.1
theorem dX12_laysGoes_27 : decode cX12_laysGoes 27 = .ok (.iload_n 3, 1) := dGR_40_c_1186.2.2.2.1
theorem dX12_laysGoes_28 : decode cX12_laysGoes 28 = .ok (.ldc_w 428, 3) := dGR_40_c_1186.2.2.2.2.1
theorem dX12_laysGoes_31 : decode cX12_laysGoes 31 = .ok (.iastore, 1) := dGR_40_c_1186.2.2.2.2.2.1
theorem dX12_laysGoes_32 : decode cX12_laysGoes 32 = .ok (.iinc 3 1, 3) := dGR_40_c_1186.2.2.2.2.2.2.1
theorem dX12_laysGoes_35 : decode cX12_laysGoes 35 = .ok (.goto (-28), 3) := dGR_40_c_1186.2.2.2.2.2.2.2.1
theorem dX12_laysGoes_38 : decode cX12_laysGoes 38 = .ok (.aload_n 0, 1) := dGR_40_c_1186.2.2.2.2.2.2.2.2.1
theorem dX12_laysGoes_39 : decode cX12_laysGoes 39 = .ok (.aload_n 0, 1) := dGR_40_c_1186.2.2.2.2.2.2.2.2.2.1
theorem dX12_laysGoes_40 : decode cX12_laysGoes 40 = .ok (.iload_n 2, 1) := dGR_40_c_1186.2.2.2.2.2.2.2.2.2.2.1
theorem dX12_laysGoes_41 : decode cX12_laysGoes 41 = .ok (.invokevirtual 329, 3) := dGR_40_c_1186.2.2.2.2.2.2.2.2.2.2.2
set_option maxRecDepth 100000 in
theorem dGR_40_c_1187 : (decode cX12_laysGoes 44 = .ok (.invokevirtual 462, 3)) ∧ (decode cX12_laysGoes 47 = .ok (.pop, 1)) ∧ (decode cX12_laysGoes 48 = .ok (.iconst 0, 1)) ∧ (decode cX12_laysGoes 49 = .ok (.istore_n 3, 1)) ∧ (decode cX12_laysGoes 50 = .ok (.iload_n 3, 1)) ∧ (decode cX12_laysGoes 51 = .ok (.aload_n 0, 1)) ∧ (decode cX12_laysGoes 52 = .ok (.iload_n 1, 1)) ∧ (decode cX12_laysGoes 53 = .ok (.iconst 0, 1)) ∧ (decode cX12_laysGoes 54 = .ok (.invokevirtual 288, 3)) ∧ (decode cX12_laysGoes 57 = .ok (.if_icmp .ge 20, 3)) ∧ (decode cX12_laysGoes 60 = .ok (.aload_n 0, 1)) ∧ (decode cX12_laysGoes 61 = .ok (.getfield 95, 3)) := by decide +kernel
theorem dX12_laysGoes_44 : decode cX12_laysGoes 44 = .ok (.invokevirtual 462, 3) := dGR_40_c_1187.1
theorem dX12_laysGoes_47 : decode cX12_laysGoes 47 = .ok (.pop, 1) := dGR_40_c_1187.2.1
theorem dX12_laysGoes_48 : decode cX12_laysGoes 48 = .ok (.iconst 0, 1) := dGR_40_c_1187.2.2.1
theorem dX12_laysGoes_49 : decode cX12_laysGoes 49 = .ok (.istore_n 3, 1) := dGR_40_c_1187.2.2.2.1
theorem dX12_laysGoes_50 : decode cX12_laysGoes 50 = .ok (.iload_n 3, 1) := dGR_40_c_1187.2.2.2.2.1
theorem dX12_laysGoes_51 : decode cX12_laysGoes 51 = .ok (.aload_n 0, 1) := dGR_40_c_1187.2.2.2.2.2.1
theorem dX12_laysGoes_52 : decode cX12_laysGoes 52 = .ok (.iload_n 1, 1) := dGR_40_c_1187.2.2.2.2.2.2.1
theorem dX12_laysGoes_53 : decode cX12_laysGoes 53 = .ok (.iconst 0, 1) := dGR_40_c_1187.2.2.2.2.2.2.2.1
theorem dX12_laysGoes_54 : decode cX12_laysGoes 54 = .ok (.invokevirtual 288, 3) := dGR_40_c_1187.2.2.2.2.2.2.2.2.1
theorem dX12_laysGoes_57 : decode cX12_laysGoes 57 = .ok (.if_icmp .ge 20, 3) := dGR_40_c_1187.2.2.2.2.2.2.2.2.2.1
theorem dX12_laysGoes_60 : decode cX12_laysGoes 60 = .ok (.aload_n 0, 1) := dGR_40_c_1187.2.2.2.2.2.2.2.2.2.2.1
theorem dX12_laysGoes_61 : decode cX12_laysGoes 61 = .ok (.getfield 95, 3) := dGR_40_c_1187.2.2.2.2.2.2.2.2.2.2.2
set_option maxRecDepth 100000 in
theorem dGR_40_c_1188 : (decode cX12_laysGoes 64 = .ok (.sipush 256, 3)) ∧ (decode cX12_laysGoes 67 = .ok (.iload_n 3, 1)) ∧ (decode cX12_laysGoes 68 = .ok (.imul, 1)) ∧ (decode cX12_laysGoes 69 = .ok (.iconst 0, 1)) ∧ (decode cX12_laysGoes 70 = .ok (.iastore, 1)) ∧ (decode cX12_laysGoes 71 = .ok (.iinc 3 1, 3)) ∧ (decode cX12_laysGoes 74 = .ok (.goto (-24), 3)) ∧ (decode cX12_laysGoes 77 = .ok (.iconst 1, 1)) ∧ (decode cX12_laysGoes 78 = .ok (.istore_n 3, 1)) ∧ (decode cX12_laysGoes 79 = .ok (.iload_n 3, 1)) ∧ (decode cX12_laysGoes 80 = .ok (.ifCond .eq 33, 3)) ∧ (decode cX12_laysGoes 83 = .ok (.aload_n 0, 1)) := by decide +kernel
theorem dX12_laysGoes_64 : decode cX12_laysGoes 64 = .ok (.sipush 256, 3) := dGR_40_c_1188.1
theorem dX12_laysGoes_67 : decode cX12_laysGoes 67 = .ok (.iload_n 3, 1) := dGR_40_c_1188.2.1
theorem dX12_laysGoes_68 : decode cX12_laysGoes 68 = .ok (.imul, 1) := dGR_40_c_1188.2.2.1
theorem dX12_laysGoes_69 : decode cX12_laysGoes 69 = .ok (.iconst 0, 1) := dGR_40_c_1188.2.2.2.1
theorem dX12_laysGoes_70 : decode cX12_laysGoes 70 = .ok (.iastore, 1) := dGR_40_c_1188.2.2.2.2.1
theorem dX12_laysGoes_71 : decode cX12_laysGoes 71 = .ok (.iinc 3 1, 3) := dGR_40_c_1188.2.2.2.2.2.1
theorem dX12_laysGoes_74 : decode cX12_laysGoes 74 = .ok (.goto (-24), 3) := dGR_40_c_1188.2.2.2.2.2.2.1
theorem dX12_laysGoes_77 : decode cX12_laysGoes 77 = .ok (.iconst 1, 1) := dGR_40_c_1188.2.2.2.2.2.2.2.1
theorem dX12_laysGoes_78 : decode cX12_laysGoes 78 = .ok (.istore_n 3, 1) := dGR_40_c_1188.2.2.2.2.2.2.2.2.1
theorem dX12_laysGoes_79 : decode cX12_laysGoes 79 = .ok (.iload_n 3, 1) := dGR_40_c_1188.2.2.2.2.2.2.2.2.2.1
theorem dX12_laysGoes_80 : decode cX12_laysGoes 80 = .ok (.ifCond .eq 33, 3) := dGR_40_c_1188.2.2.2.2.2.2.2.2.2.2.1
theorem dX12_laysGoes_83 : decode cX12_laysGoes 83 = .ok (.aload_n 0, 1) := dGR_40_c_1188.2.2.2.2.2.2.2.2.2.2.2
set_option maxRecDepth 100000 in
theorem dGR_40_c_1189 : (decode cX12_laysGoes 84 = .ok (.iload_n 1, 1)) ∧ (decode cX12_laysGoes 85 = .ok (.iload_n 2, 1)) ∧ (decode cX12_laysGoes 86 = .ok (.invokevirtual 465, 3)) ∧ (decode cX12_laysGoes 89 = .ok (.istore_n 3, 1)) ∧ (decode cX12_laysGoes 90 = .ok (.aload_n 0, 1)) ∧ (decode cX12_laysGoes 91 = .ok (.iload_n 1, 1)) ∧ (decode cX12_laysGoes 92 = .ok (.iload_n 2, 1)) ∧ (decode cX12_laysGoes 93 = .ok (.invokevirtual 468, 3)) ∧ (decode cX12_laysGoes 96 = .ok (.ifCond .eq 5, 3)) ∧ (decode cX12_laysGoes 99 = .ok (.iconst 1, 1)) ∧ (decode cX12_laysGoes 100 = .ok (.istore_n 3, 1)) ∧ (decode cX12_laysGoes 101 = .ok (.aload_n 0, 1)) := by decide +kernel
theorem dX12_laysGoes_84 : decode cX12_laysGoes 84 = .ok (.iload_n 1, 1) := dGR_40_c_1189.1
theorem dX12_laysGoes_85 : decode cX12_laysGoes 85 = .ok (.iload_n 2, 1) := dGR_40_c_1189.2.1
theorem dX12_laysGoes_86 : decode cX12_laysGoes 86 = .ok (.invokevirtual 465, 3) := dGR_40_c_1189.2.2.1
theorem dX12_laysGoes_89 : decode cX12_laysGoes 89 = .ok (.istore_n 3, 1) := dGR_40_c_1189.2.2.2.1
theorem dX12_laysGoes_90 : decode cX12_laysGoes 90 = .ok (.aload_n 0, 1) := dGR_40_c_1189.2.2.2.2.1
theorem dX12_laysGoes_91 : decode cX12_laysGoes 91 = .ok (.iload_n 1, 1) := dGR_40_c_1189.2.2.2.2.2.1
theorem dX12_laysGoes_92 : decode cX12_laysGoes 92 = .ok (.iload_n 2, 1) := dGR_40_c_1189.2.2.2.2.2.2.1
theorem dX12_laysGoes_93 : decode cX12_laysGoes 93 = .ok (.invokevirtual 468, 3) := dGR_40_c_1189.2.2.2.2.2.2.2.1
theorem dX12_laysGoes_96 : decode cX12_laysGoes 96 = .ok (.ifCond .eq 5, 3) := dGR_40_c_1189.2.2.2.2.2.2.2.2.1
theorem dX12_laysGoes_99 : decode cX12_laysGoes 99 = .ok (.iconst 1, 1) := dGR_40_c_1189.2.2.2.2.2.2.2.2.2.1
theorem dX12_laysGoes_100 : decode cX12_laysGoes 100 = .ok (.istore_n 3, 1) := dGR_40_c_1189.2.2.2.2.2.2.2.2.2.2.1
theorem dX12_laysGoes_101 : decode cX12_laysGoes 101 = .ok (.aload_n 0, 1) := dGR_40_c_1189.2.2.2.2.2.2.2.2.2.2.2
set_option maxRecDepth 100000 in
theorem dGR_40_c_1190 : (decode cX12_laysGoes 102 = .ok (.invokevirtual 471, 3)) ∧ (decode cX12_laysGoes 105 = .ok (.ifCond .eq (-26), 3)) ∧ (decode cX12_laysGoes 108 = .ok (.iconst 1, 1)) ∧ (decode cX12_laysGoes 109 = .ok (.istore_n 3, 1)) ∧ (decode cX12_laysGoes 110 = .ok (.goto (-31), 3)) ∧ (decode cX12_laysGoes 113 = .ok (.return_, 1)) := by decide +kernel
theorem dX12_laysGoes_102 : decode cX12_laysGoes 102 = .ok (.invokevirtual 471, 3) := dGR_40_c_1190.1
theorem dX12_laysGoes_105 : decode cX12_laysGoes 105 = .ok (.ifCond .eq (-26), 3) := dGR_40_c_1190.2.1
theorem dX12_laysGoes_108 : decode cX12_laysGoes 108 = .ok (.iconst 1, 1) := dGR_40_c_1190.2.2.1
theorem dX12_laysGoes_109 : decode cX12_laysGoes 109 = .ok (.istore_n 3, 1) := dGR_40_c_1190.2.2.2.1
theorem dX12_laysGoes_110 : decode cX12_laysGoes 110 = .ok (.goto (-31), 3) := dGR_40_c_1190.2.2.2.2.1
theorem dX12_laysGoes_113 : decode cX12_laysGoes 113 = .ok (.return_, 1) := dGR_40_c_1190.2.2.2.2.2
abbrev f_e_laysGoes : List (Nat × Int) := [(64, 45), (86, -1), (87, -1)]
set_option maxHeartbeats 4000000 in
set_option maxRecDepth 100000 in
theorem e_laysGoes (G : KG) (l : Launch) (M : Mem) (a1 : Int) (a2 : Int) (hI_M : Inv true M) (hpre : -2147483648 ≤ a1 ∧ a1 ≤ 2147483647 ∧ -2147483648 ≤ a2 ∧ a2 ≤ 2147483647 ∧ 0 ≤ a1 ∧ a1 ≤ 2 ∧ 0 ≤ a2 ∧ a2 ≤ 1) (hD : LD M) (hA : AOK (M 164) a2) (hC : Clo (M 164) a2) : KC true G l yX12_laysGoes cX12_laysGoes 4 none (4, 106) [vR G 163, vI a1, vI a2] M (fun A => kQv true G A (fun (N : Mem) => Inv true N ∧ Fr f_e_laysGoes M N ∧ (RP N (M 164) a2))) := by
  refine kx_met (lo := [some (vR G 163), some (vI a1), some (vI a2), none]) (by decide) (Nat.le_of_ble_eq_true rfl) rfl ?_
  intro X F hQ
  have hF_M : Fr f_e_laysGoes M M := Fr.rf _ _
  refine kx_aload_n 1 F 0 dX12_laysGoes_0 rfl rfl rfl ?_
  refine kx_iconst 2 F dX12_laysGoes_1 rfl ?_
  refine kx_puti 5 F fw_X12_459 rfl kd_163 rfl rfl (j := 45) rfl dX12_laysGoes_2 rfl ?_
  intro N_1 hM_N_1
  have hI_N_1 : Inv true N_1 := Inv.u hI_M hM_N_1 kd_163 (a := 0) (b := 64) rfl rfl rfl (by omega)
  have hF_N_1 : Fr f_e_laysGoes M N_1 := Fr.u hF_M hM_N_1 kd_163 rfl
  have ht_2 := tot_n 87 576 hM_N_1 kd_163 rfl
  have e_3 : (N_1 163 45) = 0 := by rw [hM_N_1, mu_s]
  have hp_4 : RP N_1 (M 164) a2 := RP.nil (by omega)
  refine kx_iconst 6 F dX12_laysGoes_5 rfl ?_
  refine kx_istore_n 7 F 3 (lo' := [some (vR G 163), some (vI a1), some (vI a2), some (vI 0)]) dX12_laysGoes_6 rfl (by decide) rfl rfl rfl ?_
  have L_1744 : ∀ (n_1745 : Nat) (x3_1742 : Int) (N_1743 : Mem), Inv true N_1743 → Fr f_e_laysGoes M N_1743 → RP N_1743 (M 164) a2 → LD N_1743 → 0 ≤ x3_1742 ∧ x3_1742 ≤ 576 → (576 - (x3_1742)).toNat = n_1745 → KJ true G X N_1743 7 [some (vR G 163), some (vI a1), some (vI a2), some (vI x3_1742)] [] := by
    intro n_1745
    refine Nat.strongRecOn n_1745 ?_
    intro n_1745 ih_1746 x3_1742 N_1743 hI_N_1743 hF_N_1743 hp_1749 hp_1750 h_1747 hm_1748
    refine kx_iload_n 8 F 3 dX12_laysGoes_7 rfl rfl rfl ?_
    refine kx_sipush 11 F dX12_laysGoes_8 (by decide) rfl ?_
    refine kx_icmp_ge 14 F 38 dX12_laysGoes_11 (by decide) rfl (by omega) (by decide) (fun h_1751 => ?_) (fun h_1751 => ?_)
    · refine kx_aload_n 39 F 0 dX12_laysGoes_38 rfl rfl rfl ?_
      refine kx_aload_n 40 F 0 dX12_laysGoes_39 rfl rfl rfl ?_
      refine kx_iload_n 41 F 2 dX12_laysGoes_40 rfl rfl rfl ?_
      refine kx_Vi 44 (ci := 0) F (As := [vI a2]) (st := [vR G 163]) vd_X12_329 (e_same G l N_1743 a2 hI_N_1743 (by omega)) kd_163 rfl rfl rfl ⟨by decide, by decide⟩ rfl rfl (Nat.le_of_ble_eq_true rfl) dX12_laysGoes_41 rfl ?_
      intro r_1752 N_1753 q_1754
      obtain ⟨rfl, q_1754c, hz_N_1753⟩ := q_1754
      refine kx_Vi 47 (ci := 0) F (As := [vI r_1752]) (st := []) vd_X12_462 (e_relation G l N_1743 r_1752 hI_N_1743 (by omega) hp_1749 hA hC (by rw [hz_N_1753, show N_1743 164 = M 164 from (funext (fun j => by rw [Fr.e hF_N_1743 kd_164 _ rfl]))]; exact Gd.E hA)) kd_163 rfl rfl rfl ⟨by decide, by decide⟩ rfl rfl (Nat.le_of_ble_eq_true rfl) dX12_laysGoes_44 rfl ?_
      intro r_1755 N_1756 q_1757
      obtain ⟨hI_N_1756, hG_N_1756, q_1757c, ho_N_1756⟩ := q_1757
      have hF_N_1756 : Fr f_e_laysGoes M N_1756 := Fr.c hF_N_1743 hG_N_1756 rfl
      have ht_1758 := tot_fr 87 576 hG_N_1756 rfl
      have h_1759 := Inv.g hI_N_1756 kd_163 rfl 45 (a := 0) (b := 64) rfl rfl
      have h_1760 := Inv.g hI_N_1743 kd_163 rfl 45 (a := 0) (b := 64) rfl rfl
      refine kx_pop 48 F dX12_laysGoes_47 rfl rfl ?_
      refine kx_iconst 49 F dX12_laysGoes_48 rfl ?_
      refine kx_istore_n 50 F 3 (lo' := [some (vR G 163), some (vI a1), some (vI a2), some (vI 0)]) dX12_laysGoes_49 rfl (by decide) rfl rfl rfl ?_
      have L_2398 : ∀ (n_2399 : Nat) (x3_2396 : Int) (N_2397 : Mem), Inv true N_2397 → Fr f_e_laysGoes M N_2397 → RP N_2397 (M 164) a2 → LD N_2397 → 0 ≤ x3_2396 ∧ x3_2396 ≤ 3 → (3 - (x3_2396)).toNat = n_2399 → KJ true G X N_2397 50 [some (vR G 163), some (vI a1), some (vI a2), some (vI x3_2396)] [] := by
        intro n_2399
        refine Nat.strongRecOn n_2399 ?_
        intro n_2399 ih_2400 x3_2396 N_2397 hI_N_2397 hF_N_2397 hp_2403 hp_2404 h_2401 hm_2402
        refine kx_iload_n 51 F 3 dX12_laysGoes_50 rfl rfl rfl ?_
        refine kx_aload_n 52 F 0 dX12_laysGoes_51 rfl rfl rfl ?_
        refine kx_iload_n 53 F 1 dX12_laysGoes_52 rfl rfl rfl ?_
        refine kx_iconst 54 F dX12_laysGoes_53 rfl ?_
        refine kx_Vi 57 (ci := 0) F (As := [vI a1, vI 0]) (st := [vI x3_2396]) vd_X12_288 (c_of0 G l N_2397 a1 0 hI_N_2397 (by omega)) kd_163 rfl rfl rfl ⟨by decide, by decide⟩ rfl rfl (Nat.le_of_ble_eq_true rfl) dX12_laysGoes_54 rfl ?_
        intro r_2405 N_2406 q_2407
        obtain ⟨rfl, q_2407c⟩ := q_2407
        have e_2408 : (N_2397 164 (85 * a1 + 100)) = (M 164 (85 * a1 + 100)) := by rw [Fr.e hF_N_2397 kd_164 _ rfl]
        rcases q_2407c with q_2407c | q_2407c
        · refine kx_icmp_ge 60 F 77 dX12_laysGoes_57 (by decide) rfl (by omega) (by omega) (fun h_2410 => ?_) (fun h_2410 => ?_)
          · refine kx_iconst 78 F dX12_laysGoes_77 rfl ?_
            refine kx_istore_n 79 F 3 (lo' := [some (vR G 163), some (vI a1), some (vI a2), some (vI 1)]) dX12_laysGoes_78 rfl (by decide) rfl rfl rfl ?_
            have L_2450 : ∀ (n_2451 : Nat) (x3_2448 : Int) (N_2449 : Mem), Inv true N_2449 → Fr f_e_laysGoes M N_2449 → RP N_2449 (M 164) a2 → LD N_2449 → 0 ≤ x3_2448 ∧ x3_2448 ≤ 1 → (2 * tot 87 576 N_2449 + x3_2448).toNat = n_2451 → KJ true G X N_2449 79 [some (vR G 163), some (vI a1), some (vI a2), some (vI x3_2448)] [] := by
              intro n_2451
              refine Nat.strongRecOn n_2451 ?_
              intro n_2451 ih_2452 x3_2448 N_2449 hI_N_2449 hF_N_2449 hp_2455 hp_2456 h_2453 hm_2454
              have h_2457 := tot_nn (k := 87) 576 hI_N_2449 rfl (fun _ => rfl)
              refine kx_iload_n 80 F 3 dX12_laysGoes_79 rfl rfl rfl ?_
              refine kx_if_eq 83 F 113 dX12_laysGoes_80 (by decide) rfl (by omega) (fun h_2458 => ?_) (fun h_2458 => ?_)
              · exact kx_vret F hQ ⟨hI_N_2449, hF_N_2449, hp_2455⟩ dX12_laysGoes_113
              · refine kx_aload_n 84 F 0 dX12_laysGoes_83 rfl rfl rfl ?_
                refine kx_iload_n 85 F 1 dX12_laysGoes_84 rfl rfl rfl ?_
                refine kx_iload_n 86 F 2 dX12_laysGoes_85 rfl rfl rfl ?_
                refine kx_Vi 89 (ci := 0) F (As := [vI a1, vI a2]) (st := []) vd_X12_465 (e_laysInner G l N_2449 a1 a2 hI_N_2449 (by omega) (funext (fun j => by rw [Fr.e hF_N_2449 kd_164 _ rfl])) hp_2456 hp_2455 hA hC) kd_163 rfl rfl rfl ⟨by decide, by decide⟩ rfl rfl (Nat.le_of_ble_eq_true rfl) dX12_laysGoes_86 rfl ?_
                intro r_2459 N_2460 q_2461
                obtain ⟨hI_N_2460, hG_N_2460, q_2461c, ho_N_2460⟩ := q_2461
                have hF_N_2460 : Fr f_e_laysGoes M N_2460 := Fr.c hF_N_2449 hG_N_2460 rfl
                rcases q_2461c with q_2461c | q_2461c
                · refine kx_istore_n 90 F 3 (lo' := [some (vR G 163), some (vI a1), some (vI a2), some (vI r_2459)]) dX12_laysGoes_89 rfl (by decide) rfl rfl rfl ?_
                  refine kx_aload_n 91 F 0 dX12_laysGoes_90 rfl rfl rfl ?_
                  refine kx_iload_n 92 F 1 dX12_laysGoes_91 rfl rfl rfl ?_
                  refine kx_iload_n 93 F 2 dX12_laysGoes_92 rfl rfl rfl ?_
                  have hp_2462 : LD N_2460  := LD.fr hp_2456 hG_N_2460 rfl rfl
                  refine kx_Vi 96 (ci := 0) F (As := [vI a1, vI a2]) (st := []) vd_X12_468 (e_laysSpans G l N_2460 a1 a2 hI_N_2460 (by omega) (funext (fun j => by rw [Fr.e hG_N_2460 kd_164 _ rfl, Fr.e hF_N_2449 kd_164 _ rfl])) hp_2462 ho_N_2460 hA hC) kd_163 rfl rfl rfl ⟨by decide, by decide⟩ rfl rfl (Nat.le_of_ble_eq_true rfl) dX12_laysGoes_93 rfl ?_
                  intro r_2463 N_2464 q_2465
                  obtain ⟨hI_N_2464, hG_N_2464, q_2465c, ho_N_2464⟩ := q_2465
                  have hF_N_2464 : Fr f_e_laysGoes M N_2464 := Fr.c hF_N_2460 hG_N_2464 rfl
                  rcases q_2465c with q_2465c | q_2465c
                  · refine kx_if_eq 99 F 101 dX12_laysGoes_96 (by decide) rfl (by omega) (fun h_2466 => (by exfalso; omega)) (fun h_2466 => ?_)
                    refine kx_iconst 100 F dX12_laysGoes_99 rfl ?_
                    refine kx_istore_n 101 F 3 (lo' := [some (vR G 163), some (vI a1), some (vI a2), some (vI 1)]) dX12_laysGoes_100 rfl (by decide) rfl rfl rfl ?_
                    refine kx_aload_n 102 F 0 dX12_laysGoes_101 rfl rfl rfl ?_
                    refine kx_Vi 105 (ci := 0) F (As := []) (st := []) vd_X12_471 (e_laysLonger G l N_2464  hI_N_2464 ho_N_2464 hA hC) kd_163 rfl rfl rfl ⟨by decide, by decide⟩ rfl rfl (Nat.le_of_ble_eq_true rfl) dX12_laysGoes_102 rfl ?_
                    intro r_2467 N_2468 q_2469
                    obtain ⟨hI_N_2468, hG_N_2468, q_2469c, ho_N_2468⟩ := q_2469
                    have hF_N_2468 : Fr f_e_laysGoes M N_2468 := Fr.c hF_N_2464 hG_N_2468 rfl
                    rcases q_2469c with q_2469c | q_2469c
                    · refine kx_if_eq 108 F 79 dX12_laysGoes_105 (by decide) rfl (by omega) (fun h_2470 => (by exfalso; omega)) (fun h_2470 => ?_)
                      refine kx_iconst 109 F dX12_laysGoes_108 rfl ?_
                      refine kx_istore_n 110 F 3 (lo' := [some (vR G 163), some (vI a1), some (vI a2), some (vI 1)]) dX12_laysGoes_109 rfl (by decide) rfl rfl rfl ?_
                      refine kx_goto 79 F dX12_laysGoes_110 (by decide) ?_
                      have hp_2471 : LD N_2464  := LD.fr hp_2462 hG_N_2464 rfl rfl
                      have hp_2472 : LD N_2468  := LD.fr hp_2471 hG_N_2468 rfl rfl
                      exact ih_2452 _ (by omega) 1 N_2468 hI_N_2468 hF_N_2468 ho_N_2468 hp_2472 (by omega) rfl
                    · refine kx_if_eq 108 F 79 dX12_laysGoes_105 (by decide) rfl (by omega) (fun h_2473 => ?_) (fun h_2473 => (by exfalso; omega))
                      have hp_2474 : LD N_2464  := LD.fr hp_2462 hG_N_2464 rfl rfl
                      have hp_2475 : LD N_2468  := LD.fr hp_2474 hG_N_2468 rfl rfl
                      exact ih_2452 _ (by omega) 1 N_2468 hI_N_2468 hF_N_2468 ho_N_2468 hp_2475 (by omega) rfl
                  · refine kx_if_eq 99 F 101 dX12_laysGoes_96 (by decide) rfl (by omega) (fun h_2476 => ?_) (fun h_2476 => (by exfalso; omega))
                    refine kx_aload_n 102 F 0 dX12_laysGoes_101 rfl rfl rfl ?_
                    refine kx_Vi 105 (ci := 0) F (As := []) (st := []) vd_X12_471 (e_laysLonger G l N_2464  hI_N_2464 ho_N_2464 hA hC) kd_163 rfl rfl rfl ⟨by decide, by decide⟩ rfl rfl (Nat.le_of_ble_eq_true rfl) dX12_laysGoes_102 rfl ?_
                    intro r_2477 N_2478 q_2479
                    obtain ⟨hI_N_2478, hG_N_2478, q_2479c, ho_N_2478⟩ := q_2479
                    have hF_N_2478 : Fr f_e_laysGoes M N_2478 := Fr.c hF_N_2464 hG_N_2478 rfl
                    rcases q_2479c with q_2479c | q_2479c
                    · refine kx_if_eq 108 F 79 dX12_laysGoes_105 (by decide) rfl (by omega) (fun h_2480 => (by exfalso; omega)) (fun h_2480 => ?_)
                      refine kx_iconst 109 F dX12_laysGoes_108 rfl ?_
                      refine kx_istore_n 110 F 3 (lo' := [some (vR G 163), some (vI a1), some (vI a2), some (vI 1)]) dX12_laysGoes_109 rfl (by decide) rfl rfl rfl ?_
                      refine kx_goto 79 F dX12_laysGoes_110 (by decide) ?_
                      have hp_2481 : LD N_2464  := LD.fr hp_2462 hG_N_2464 rfl rfl
                      have hp_2482 : LD N_2478  := LD.fr hp_2481 hG_N_2478 rfl rfl
                      exact ih_2452 _ (by omega) 1 N_2478 hI_N_2478 hF_N_2478 ho_N_2478 hp_2482 (by omega) rfl
                    · refine kx_if_eq 108 F 79 dX12_laysGoes_105 (by decide) rfl (by omega) (fun h_2483 => ?_) (fun h_2483 => (by exfalso; omega))
                      have hp_2484 : LD N_2464  := LD.fr hp_2462 hG_N_2464 rfl rfl
                      have hp_2485 : LD N_2478  := LD.fr hp_2484 hG_N_2478 rfl rfl
                      exact ih_2452 _ (by omega) r_2459 N_2478 hI_N_2478 hF_N_2478 ho_N_2478 hp_2485 (by omega) rfl
                · refine kx_istore_n 90 F 3 (lo' := [some (vR G 163), some (vI a1), some (vI a2), some (vI r_2459)]) dX12_laysGoes_89 rfl (by decide) rfl rfl rfl ?_
                  refine kx_aload_n 91 F 0 dX12_laysGoes_90 rfl rfl rfl ?_
                  refine kx_iload_n 92 F 1 dX12_laysGoes_91 rfl rfl rfl ?_
                  refine kx_iload_n 93 F 2 dX12_laysGoes_92 rfl rfl rfl ?_
                  have hp_2486 : LD N_2460  := LD.fr hp_2456 hG_N_2460 rfl rfl
                  refine kx_Vi 96 (ci := 0) F (As := [vI a1, vI a2]) (st := []) vd_X12_468 (e_laysSpans G l N_2460 a1 a2 hI_N_2460 (by omega) (funext (fun j => by rw [Fr.e hG_N_2460 kd_164 _ rfl, Fr.e hF_N_2449 kd_164 _ rfl])) hp_2486 ho_N_2460 hA hC) kd_163 rfl rfl rfl ⟨by decide, by decide⟩ rfl rfl (Nat.le_of_ble_eq_true rfl) dX12_laysGoes_93 rfl ?_
                  intro r_2487 N_2488 q_2489
                  obtain ⟨hI_N_2488, hG_N_2488, q_2489c, ho_N_2488⟩ := q_2489
                  have hF_N_2488 : Fr f_e_laysGoes M N_2488 := Fr.c hF_N_2460 hG_N_2488 rfl
                  rcases q_2489c with q_2489c | q_2489c
                  · refine kx_if_eq 99 F 101 dX12_laysGoes_96 (by decide) rfl (by omega) (fun h_2490 => (by exfalso; omega)) (fun h_2490 => ?_)
                    refine kx_iconst 100 F dX12_laysGoes_99 rfl ?_
                    refine kx_istore_n 101 F 3 (lo' := [some (vR G 163), some (vI a1), some (vI a2), some (vI 1)]) dX12_laysGoes_100 rfl (by decide) rfl rfl rfl ?_
                    refine kx_aload_n 102 F 0 dX12_laysGoes_101 rfl rfl rfl ?_
                    refine kx_Vi 105 (ci := 0) F (As := []) (st := []) vd_X12_471 (e_laysLonger G l N_2488  hI_N_2488 ho_N_2488 hA hC) kd_163 rfl rfl rfl ⟨by decide, by decide⟩ rfl rfl (Nat.le_of_ble_eq_true rfl) dX12_laysGoes_102 rfl ?_
                    intro r_2491 N_2492 q_2493
                    obtain ⟨hI_N_2492, hG_N_2492, q_2493c, ho_N_2492⟩ := q_2493
                    have hF_N_2492 : Fr f_e_laysGoes M N_2492 := Fr.c hF_N_2488 hG_N_2492 rfl
                    rcases q_2493c with q_2493c | q_2493c
                    · refine kx_if_eq 108 F 79 dX12_laysGoes_105 (by decide) rfl (by omega) (fun h_2494 => (by exfalso; omega)) (fun h_2494 => ?_)
                      refine kx_iconst 109 F dX12_laysGoes_108 rfl ?_
                      refine kx_istore_n 110 F 3 (lo' := [some (vR G 163), some (vI a1), some (vI a2), some (vI 1)]) dX12_laysGoes_109 rfl (by decide) rfl rfl rfl ?_
                      refine kx_goto 79 F dX12_laysGoes_110 (by decide) ?_
                      have hp_2495 : LD N_2488  := LD.fr hp_2486 hG_N_2488 rfl rfl
                      have hp_2496 : LD N_2492  := LD.fr hp_2495 hG_N_2492 rfl rfl
                      exact ih_2452 _ (by omega) 1 N_2492 hI_N_2492 hF_N_2492 ho_N_2492 hp_2496 (by omega) rfl
                    · refine kx_if_eq 108 F 79 dX12_laysGoes_105 (by decide) rfl (by omega) (fun h_2497 => ?_) (fun h_2497 => (by exfalso; omega))
                      have hp_2498 : LD N_2488  := LD.fr hp_2486 hG_N_2488 rfl rfl
                      have hp_2499 : LD N_2492  := LD.fr hp_2498 hG_N_2492 rfl rfl
                      exact ih_2452 _ (by omega) 1 N_2492 hI_N_2492 hF_N_2492 ho_N_2492 hp_2499 (by omega) rfl
                  · refine kx_if_eq 99 F 101 dX12_laysGoes_96 (by decide) rfl (by omega) (fun h_2500 => ?_) (fun h_2500 => (by exfalso; omega))
                    refine kx_aload_n 102 F 0 dX12_laysGoes_101 rfl rfl rfl ?_
                    refine kx_Vi 105 (ci := 0) F (As := []) (st := []) vd_X12_471 (e_laysLonger G l N_2488  hI_N_2488 ho_N_2488 hA hC) kd_163 rfl rfl rfl ⟨by decide, by decide⟩ rfl rfl (Nat.le_of_ble_eq_true rfl) dX12_laysGoes_102 rfl ?_
                    intro r_2501 N_2502 q_2503
                    obtain ⟨hI_N_2502, hG_N_2502, q_2503c, ho_N_2502⟩ := q_2503
                    have hF_N_2502 : Fr f_e_laysGoes M N_2502 := Fr.c hF_N_2488 hG_N_2502 rfl
                    rcases q_2503c with q_2503c | q_2503c
                    · refine kx_if_eq 108 F 79 dX12_laysGoes_105 (by decide) rfl (by omega) (fun h_2504 => (by exfalso; omega)) (fun h_2504 => ?_)
                      refine kx_iconst 109 F dX12_laysGoes_108 rfl ?_
                      refine kx_istore_n 110 F 3 (lo' := [some (vR G 163), some (vI a1), some (vI a2), some (vI 1)]) dX12_laysGoes_109 rfl (by decide) rfl rfl rfl ?_
                      refine kx_goto 79 F dX12_laysGoes_110 (by decide) ?_
                      have hp_2505 : LD N_2488  := LD.fr hp_2486 hG_N_2488 rfl rfl
                      have hp_2506 : LD N_2502  := LD.fr hp_2505 hG_N_2502 rfl rfl
                      exact ih_2452 _ (by omega) 1 N_2502 hI_N_2502 hF_N_2502 ho_N_2502 hp_2506 (by omega) rfl
                    · refine kx_if_eq 108 F 79 dX12_laysGoes_105 (by decide) rfl (by omega) (fun h_2507 => ?_) (fun h_2507 => (by exfalso; omega))
                      have hp_2508 : LD N_2488  := LD.fr hp_2486 hG_N_2488 rfl rfl
                      have hp_2509 : LD N_2502  := LD.fr hp_2508 hG_N_2502 rfl rfl
                      exact ih_2452 _ (by omega) r_2459 N_2502 hI_N_2502 hF_N_2502 ho_N_2502 hp_2509 (by omega) rfl
            exact L_2450 _ 1 N_2397 hI_N_2397 hF_N_2397 hp_2403 hp_2404 (by omega) rfl
          · refine kx_aload_n 61 F 0 dX12_laysGoes_60 rfl rfl rfl ?_
            refine kx_getr 64 F fl_X12_95 kd_163 rfl rfl (j := 41) rfl dX12_laysGoes_61 (v := (M 163 41)) (by rw [Fr.e hF_N_2397 kd_163 _ rfl]) rfl ?_
            have hk_2510 : kd (M 163 41) = 87 := Inv.r hI_M kd_163 rfl 41 rfl rfl
            refine kx_sipush 67 F dX12_laysGoes_64 (by decide) rfl ?_
            refine kx_iload_n 68 F 3 dX12_laysGoes_67 rfl rfl rfl ?_
            refine kx_imul 69 F (v := 256 * x3_2396) dX12_laysGoes_68 (by omega) rfl ?_
            refine kx_iconst 70 F dX12_laysGoes_69 rfl ?_
            refine kx_iast 71 F hk_2510 rfl rfl (by omega) (by decide) dX12_laysGoes_70 rfl ?_
            intro N_2511 hM_N_2511
            have hI_N_2511 : Inv true N_2511 := Inv.u hI_N_2397 hM_N_2511 hk_2510 (a := 0) (b := 1000000) rfl rfl rfl (by omega)
            have hF_N_2511 : Fr f_e_laysGoes M N_2511 := Fr.u hF_N_2397 hM_N_2511 hk_2510 rfl
            have h_2513 := Inv.g hI_N_2397 hk_2510 rfl (256 * x3_2396) (a := 0) (b := 1000000) rfl rfl
            have ht_2512 := tot_u (n := 576) hM_N_2511 hk_2510 (by omega)
            refine kx_iinc 74 F 3 (v := x3_2396 + 1) (lo' := [some (vR G 163), some (vI a1), some (vI a2), some (vI (x3_2396 + 1))]) dX12_laysGoes_71 rfl (by omega) (by decide) rfl rfl rfl ?_
            refine kx_goto 50 F dX12_laysGoes_74 (by decide) ?_
            have hp_2514 : RP N_2511 (M 164) a2 := RP.st hp_2403 hM_N_2511 hk_2510 rfl rfl
            have hp_2515 : LD N_2511  := LD.st hp_2404 hM_N_2511 hk_2510 rfl rfl
            exact ih_2400 _ (by omega) (x3_2396 + 1) N_2511 hI_N_2511 hF_N_2511 hp_2514 hp_2515 (by omega) rfl
        · refine kx_icmp_ge 60 F 77 dX12_laysGoes_57 (by decide) rfl (by omega) (by omega) (fun h_2516 => ?_) (fun h_2516 => ?_)
          · refine kx_iconst 78 F dX12_laysGoes_77 rfl ?_
            refine kx_istore_n 79 F 3 (lo' := [some (vR G 163), some (vI a1), some (vI a2), some (vI 1)]) dX12_laysGoes_78 rfl (by decide) rfl rfl rfl ?_
            have L_2556 : ∀ (n_2557 : Nat) (x3_2554 : Int) (N_2555 : Mem), Inv true N_2555 → Fr f_e_laysGoes M N_2555 → RP N_2555 (M 164) a2 → LD N_2555 → 0 ≤ x3_2554 ∧ x3_2554 ≤ 1 → (2 * tot 87 576 N_2555 + x3_2554).toNat = n_2557 → KJ true G X N_2555 79 [some (vR G 163), some (vI a1), some (vI a2), some (vI x3_2554)] [] := by
              intro n_2557
              refine Nat.strongRecOn n_2557 ?_
              intro n_2557 ih_2558 x3_2554 N_2555 hI_N_2555 hF_N_2555 hp_2561 hp_2562 h_2559 hm_2560
              have h_2563 := tot_nn (k := 87) 576 hI_N_2555 rfl (fun _ => rfl)
              refine kx_iload_n 80 F 3 dX12_laysGoes_79 rfl rfl rfl ?_
              refine kx_if_eq 83 F 113 dX12_laysGoes_80 (by decide) rfl (by omega) (fun h_2564 => ?_) (fun h_2564 => ?_)
              · exact kx_vret F hQ ⟨hI_N_2555, hF_N_2555, hp_2561⟩ dX12_laysGoes_113
              · refine kx_aload_n 84 F 0 dX12_laysGoes_83 rfl rfl rfl ?_
                refine kx_iload_n 85 F 1 dX12_laysGoes_84 rfl rfl rfl ?_
                refine kx_iload_n 86 F 2 dX12_laysGoes_85 rfl rfl rfl ?_
                refine kx_Vi 89 (ci := 0) F (As := [vI a1, vI a2]) (st := []) vd_X12_465 (e_laysInner G l N_2555 a1 a2 hI_N_2555 (by omega) (funext (fun j => by rw [Fr.e hF_N_2555 kd_164 _ rfl])) hp_2562 hp_2561 hA hC) kd_163 rfl rfl rfl ⟨by decide, by decide⟩ rfl rfl (Nat.le_of_ble_eq_true rfl) dX12_laysGoes_86 rfl ?_
                intro r_2565 N_2566 q_2567
                obtain ⟨hI_N_2566, hG_N_2566, q_2567c, ho_N_2566⟩ := q_2567
                have hF_N_2566 : Fr f_e_laysGoes M N_2566 := Fr.c hF_N_2555 hG_N_2566 rfl
                rcases q_2567c with q_2567c | q_2567c
                · refine kx_istore_n 90 F 3 (lo' := [some (vR G 163), some (vI a1), some (vI a2), some (vI r_2565)]) dX12_laysGoes_89 rfl (by decide) rfl rfl rfl ?_
                  refine kx_aload_n 91 F 0 dX12_laysGoes_90 rfl rfl rfl ?_
                  refine kx_iload_n 92 F 1 dX12_laysGoes_91 rfl rfl rfl ?_
                  refine kx_iload_n 93 F 2 dX12_laysGoes_92 rfl rfl rfl ?_
                  have hp_2568 : LD N_2566  := LD.fr hp_2562 hG_N_2566 rfl rfl
                  refine kx_Vi 96 (ci := 0) F (As := [vI a1, vI a2]) (st := []) vd_X12_468 (e_laysSpans G l N_2566 a1 a2 hI_N_2566 (by omega) (funext (fun j => by rw [Fr.e hG_N_2566 kd_164 _ rfl, Fr.e hF_N_2555 kd_164 _ rfl])) hp_2568 ho_N_2566 hA hC) kd_163 rfl rfl rfl ⟨by decide, by decide⟩ rfl rfl (Nat.le_of_ble_eq_true rfl) dX12_laysGoes_93 rfl ?_
                  intro r_2569 N_2570 q_2571
                  obtain ⟨hI_N_2570, hG_N_2570, q_2571c, ho_N_2570⟩ := q_2571
                  have hF_N_2570 : Fr f_e_laysGoes M N_2570 := Fr.c hF_N_2566 hG_N_2570 rfl
                  rcases q_2571c with q_2571c | q_2571c
                  · refine kx_if_eq 99 F 101 dX12_laysGoes_96 (by decide) rfl (by omega) (fun h_2572 => (by exfalso; omega)) (fun h_2572 => ?_)
                    refine kx_iconst 100 F dX12_laysGoes_99 rfl ?_
                    refine kx_istore_n 101 F 3 (lo' := [some (vR G 163), some (vI a1), some (vI a2), some (vI 1)]) dX12_laysGoes_100 rfl (by decide) rfl rfl rfl ?_
                    refine kx_aload_n 102 F 0 dX12_laysGoes_101 rfl rfl rfl ?_
                    refine kx_Vi 105 (ci := 0) F (As := []) (st := []) vd_X12_471 (e_laysLonger G l N_2570  hI_N_2570 ho_N_2570 hA hC) kd_163 rfl rfl rfl ⟨by decide, by decide⟩ rfl rfl (Nat.le_of_ble_eq_true rfl) dX12_laysGoes_102 rfl ?_
                    intro r_2573 N_2574 q_2575
                    obtain ⟨hI_N_2574, hG_N_2574, q_2575c, ho_N_2574⟩ := q_2575
                    have hF_N_2574 : Fr f_e_laysGoes M N_2574 := Fr.c hF_N_2570 hG_N_2574 rfl
                    rcases q_2575c with q_2575c | q_2575c
                    · refine kx_if_eq 108 F 79 dX12_laysGoes_105 (by decide) rfl (by omega) (fun h_2576 => (by exfalso; omega)) (fun h_2576 => ?_)
                      refine kx_iconst 109 F dX12_laysGoes_108 rfl ?_
                      refine kx_istore_n 110 F 3 (lo' := [some (vR G 163), some (vI a1), some (vI a2), some (vI 1)]) dX12_laysGoes_109 rfl (by decide) rfl rfl rfl ?_
                      refine kx_goto 79 F dX12_laysGoes_110 (by decide) ?_
                      have hp_2577 : LD N_2570  := LD.fr hp_2568 hG_N_2570 rfl rfl
                      have hp_2578 : LD N_2574  := LD.fr hp_2577 hG_N_2574 rfl rfl
                      exact ih_2558 _ (by omega) 1 N_2574 hI_N_2574 hF_N_2574 ho_N_2574 hp_2578 (by omega) rfl
                    · refine kx_if_eq 108 F 79 dX12_laysGoes_105 (by decide) rfl (by omega) (fun h_2579 => ?_) (fun h_2579 => (by exfalso; omega))
                      have hp_2580 : LD N_2570  := LD.fr hp_2568 hG_N_2570 rfl rfl
                      have hp_2581 : LD N_2574  := LD.fr hp_2580 hG_N_2574 rfl rfl
                      exact ih_2558 _ (by omega) 1 N_2574 hI_N_2574 hF_N_2574 ho_N_2574 hp_2581 (by omega) rfl
                  · refine kx_if_eq 99 F 101 dX12_laysGoes_96 (by decide) rfl (by omega) (fun h_2582 => ?_) (fun h_2582 => (by exfalso; omega))
                    refine kx_aload_n 102 F 0 dX12_laysGoes_101 rfl rfl rfl ?_
                    refine kx_Vi 105 (ci := 0) F (As := []) (st := []) vd_X12_471 (e_laysLonger G l N_2570  hI_N_2570 ho_N_2570 hA hC) kd_163 rfl rfl rfl ⟨by decide, by decide⟩ rfl rfl (Nat.le_of_ble_eq_true rfl) dX12_laysGoes_102 rfl ?_
                    intro r_2583 N_2584 q_2585
                    obtain ⟨hI_N_2584, hG_N_2584, q_2585c, ho_N_2584⟩ := q_2585
                    have hF_N_2584 : Fr f_e_laysGoes M N_2584 := Fr.c hF_N_2570 hG_N_2584 rfl
                    rcases q_2585c with q_2585c | q_2585c
                    · refine kx_if_eq 108 F 79 dX12_laysGoes_105 (by decide) rfl (by omega) (fun h_2586 => (by exfalso; omega)) (fun h_2586 => ?_)
                      refine kx_iconst 109 F dX12_laysGoes_108 rfl ?_
                      refine kx_istore_n 110 F 3 (lo' := [some (vR G 163), some (vI a1), some (vI a2), some (vI 1)]) dX12_laysGoes_109 rfl (by decide) rfl rfl rfl ?_
                      refine kx_goto 79 F dX12_laysGoes_110 (by decide) ?_
                      have hp_2587 : LD N_2570  := LD.fr hp_2568 hG_N_2570 rfl rfl
                      have hp_2588 : LD N_2584  := LD.fr hp_2587 hG_N_2584 rfl rfl
                      exact ih_2558 _ (by omega) 1 N_2584 hI_N_2584 hF_N_2584 ho_N_2584 hp_2588 (by omega) rfl
                    · refine kx_if_eq 108 F 79 dX12_laysGoes_105 (by decide) rfl (by omega) (fun h_2589 => ?_) (fun h_2589 => (by exfalso; omega))
                      have hp_2590 : LD N_2570  := LD.fr hp_2568 hG_N_2570 rfl rfl
                      have hp_2591 : LD N_2584  := LD.fr hp_2590 hG_N_2584 rfl rfl
                      exact ih_2558 _ (by omega) r_2565 N_2584 hI_N_2584 hF_N_2584 ho_N_2584 hp_2591 (by omega) rfl
                · refine kx_istore_n 90 F 3 (lo' := [some (vR G 163), some (vI a1), some (vI a2), some (vI r_2565)]) dX12_laysGoes_89 rfl (by decide) rfl rfl rfl ?_
                  refine kx_aload_n 91 F 0 dX12_laysGoes_90 rfl rfl rfl ?_
                  refine kx_iload_n 92 F 1 dX12_laysGoes_91 rfl rfl rfl ?_
                  refine kx_iload_n 93 F 2 dX12_laysGoes_92 rfl rfl rfl ?_
                  have hp_2592 : LD N_2566  := LD.fr hp_2562 hG_N_2566 rfl rfl
                  refine kx_Vi 96 (ci := 0) F (As := [vI a1, vI a2]) (st := []) vd_X12_468 (e_laysSpans G l N_2566 a1 a2 hI_N_2566 (by omega) (funext (fun j => by rw [Fr.e hG_N_2566 kd_164 _ rfl, Fr.e hF_N_2555 kd_164 _ rfl])) hp_2592 ho_N_2566 hA hC) kd_163 rfl rfl rfl ⟨by decide, by decide⟩ rfl rfl (Nat.le_of_ble_eq_true rfl) dX12_laysGoes_93 rfl ?_
                  intro r_2593 N_2594 q_2595
                  obtain ⟨hI_N_2594, hG_N_2594, q_2595c, ho_N_2594⟩ := q_2595
                  have hF_N_2594 : Fr f_e_laysGoes M N_2594 := Fr.c hF_N_2566 hG_N_2594 rfl
                  rcases q_2595c with q_2595c | q_2595c
                  · refine kx_if_eq 99 F 101 dX12_laysGoes_96 (by decide) rfl (by omega) (fun h_2596 => (by exfalso; omega)) (fun h_2596 => ?_)
                    refine kx_iconst 100 F dX12_laysGoes_99 rfl ?_
                    refine kx_istore_n 101 F 3 (lo' := [some (vR G 163), some (vI a1), some (vI a2), some (vI 1)]) dX12_laysGoes_100 rfl (by decide) rfl rfl rfl ?_
                    refine kx_aload_n 102 F 0 dX12_laysGoes_101 rfl rfl rfl ?_
                    refine kx_Vi 105 (ci := 0) F (As := []) (st := []) vd_X12_471 (e_laysLonger G l N_2594  hI_N_2594 ho_N_2594 hA hC) kd_163 rfl rfl rfl ⟨by decide, by decide⟩ rfl rfl (Nat.le_of_ble_eq_true rfl) dX12_laysGoes_102 rfl ?_
                    intro r_2597 N_2598 q_2599
                    obtain ⟨hI_N_2598, hG_N_2598, q_2599c, ho_N_2598⟩ := q_2599
                    have hF_N_2598 : Fr f_e_laysGoes M N_2598 := Fr.c hF_N_2594 hG_N_2598 rfl
                    rcases q_2599c with q_2599c | q_2599c
                    · refine kx_if_eq 108 F 79 dX12_laysGoes_105 (by decide) rfl (by omega) (fun h_2600 => (by exfalso; omega)) (fun h_2600 => ?_)
                      refine kx_iconst 109 F dX12_laysGoes_108 rfl ?_
                      refine kx_istore_n 110 F 3 (lo' := [some (vR G 163), some (vI a1), some (vI a2), some (vI 1)]) dX12_laysGoes_109 rfl (by decide) rfl rfl rfl ?_
                      refine kx_goto 79 F dX12_laysGoes_110 (by decide) ?_
                      have hp_2601 : LD N_2594  := LD.fr hp_2592 hG_N_2594 rfl rfl
                      have hp_2602 : LD N_2598  := LD.fr hp_2601 hG_N_2598 rfl rfl
                      exact ih_2558 _ (by omega) 1 N_2598 hI_N_2598 hF_N_2598 ho_N_2598 hp_2602 (by omega) rfl
                    · refine kx_if_eq 108 F 79 dX12_laysGoes_105 (by decide) rfl (by omega) (fun h_2603 => ?_) (fun h_2603 => (by exfalso; omega))
                      have hp_2604 : LD N_2594  := LD.fr hp_2592 hG_N_2594 rfl rfl
                      have hp_2605 : LD N_2598  := LD.fr hp_2604 hG_N_2598 rfl rfl
                      exact ih_2558 _ (by omega) 1 N_2598 hI_N_2598 hF_N_2598 ho_N_2598 hp_2605 (by omega) rfl
                  · refine kx_if_eq 99 F 101 dX12_laysGoes_96 (by decide) rfl (by omega) (fun h_2606 => ?_) (fun h_2606 => (by exfalso; omega))
                    refine kx_aload_n 102 F 0 dX12_laysGoes_101 rfl rfl rfl ?_
                    refine kx_Vi 105 (ci := 0) F (As := []) (st := []) vd_X12_471 (e_laysLonger G l N_2594  hI_N_2594 ho_N_2594 hA hC) kd_163 rfl rfl rfl ⟨by decide, by decide⟩ rfl rfl (Nat.le_of_ble_eq_true rfl) dX12_laysGoes_102 rfl ?_
                    intro r_2607 N_2608 q_2609
                    obtain ⟨hI_N_2608, hG_N_2608, q_2609c, ho_N_2608⟩ := q_2609
                    have hF_N_2608 : Fr f_e_laysGoes M N_2608 := Fr.c hF_N_2594 hG_N_2608 rfl
                    rcases q_2609c with q_2609c | q_2609c
                    · refine kx_if_eq 108 F 79 dX12_laysGoes_105 (by decide) rfl (by omega) (fun h_2610 => (by exfalso; omega)) (fun h_2610 => ?_)
                      refine kx_iconst 109 F dX12_laysGoes_108 rfl ?_
                      refine kx_istore_n 110 F 3 (lo' := [some (vR G 163), some (vI a1), some (vI a2), some (vI 1)]) dX12_laysGoes_109 rfl (by decide) rfl rfl rfl ?_
                      refine kx_goto 79 F dX12_laysGoes_110 (by decide) ?_
                      have hp_2611 : LD N_2594  := LD.fr hp_2592 hG_N_2594 rfl rfl
                      have hp_2612 : LD N_2608  := LD.fr hp_2611 hG_N_2608 rfl rfl
                      exact ih_2558 _ (by omega) 1 N_2608 hI_N_2608 hF_N_2608 ho_N_2608 hp_2612 (by omega) rfl
                    · refine kx_if_eq 108 F 79 dX12_laysGoes_105 (by decide) rfl (by omega) (fun h_2613 => ?_) (fun h_2613 => (by exfalso; omega))
                      have hp_2614 : LD N_2594  := LD.fr hp_2592 hG_N_2594 rfl rfl
                      have hp_2615 : LD N_2608  := LD.fr hp_2614 hG_N_2608 rfl rfl
                      exact ih_2558 _ (by omega) r_2565 N_2608 hI_N_2608 hF_N_2608 ho_N_2608 hp_2615 (by omega) rfl
            exact L_2556 _ 1 N_2397 hI_N_2397 hF_N_2397 hp_2403 hp_2404 (by omega) rfl
          · refine kx_aload_n 61 F 0 dX12_laysGoes_60 rfl rfl rfl ?_
            refine kx_getr 64 F fl_X12_95 kd_163 rfl rfl (j := 41) rfl dX12_laysGoes_61 (v := (M 163 41)) (by rw [Fr.e hF_N_2397 kd_163 _ rfl]) rfl ?_
            have hk_2616 : kd (M 163 41) = 87 := Inv.r hI_M kd_163 rfl 41 rfl rfl
            refine kx_sipush 67 F dX12_laysGoes_64 (by decide) rfl ?_
            refine kx_iload_n 68 F 3 dX12_laysGoes_67 rfl rfl rfl ?_
            refine kx_imul 69 F (v := 256 * x3_2396) dX12_laysGoes_68 (by omega) rfl ?_
            refine kx_iconst 70 F dX12_laysGoes_69 rfl ?_
            refine kx_iast 71 F hk_2616 rfl rfl (by omega) (by decide) dX12_laysGoes_70 rfl ?_
            intro N_2617 hM_N_2617
            have hI_N_2617 : Inv true N_2617 := Inv.u hI_N_2397 hM_N_2617 hk_2616 (a := 0) (b := 1000000) rfl rfl rfl (by omega)
            have hF_N_2617 : Fr f_e_laysGoes M N_2617 := Fr.u hF_N_2397 hM_N_2617 hk_2616 rfl
            have h_2619 := Inv.g hI_N_2397 hk_2616 rfl (256 * x3_2396) (a := 0) (b := 1000000) rfl rfl
            have ht_2618 := tot_u (n := 576) hM_N_2617 hk_2616 (by omega)
            refine kx_iinc 74 F 3 (v := x3_2396 + 1) (lo' := [some (vR G 163), some (vI a1), some (vI a2), some (vI (x3_2396 + 1))]) dX12_laysGoes_71 rfl (by omega) (by decide) rfl rfl rfl ?_
            refine kx_goto 50 F dX12_laysGoes_74 (by decide) ?_
            have hp_2620 : RP N_2617 (M 164) a2 := RP.st hp_2403 hM_N_2617 hk_2616 rfl rfl
            have hp_2621 : LD N_2617  := LD.st hp_2404 hM_N_2617 hk_2616 rfl rfl
            exact ih_2400 _ (by omega) (x3_2396 + 1) N_2617 hI_N_2617 hF_N_2617 hp_2620 hp_2621 (by omega) rfl
      have hp_2622 : LD N_1756  := LD.fr hp_1750 hG_N_1756 rfl rfl
      exact L_2398 _ 0 N_1756 hI_N_1756 hF_N_1756 ho_N_1756 hp_2622 (by omega) rfl
    · refine kx_aload_n 15 F 0 dX12_laysGoes_14 rfl rfl rfl ?_
      refine kx_getr 18 F fl_X12_95 kd_163 rfl rfl (j := 41) rfl dX12_laysGoes_15 (v := (M 163 41)) (by rw [Fr.e hF_N_1743 kd_163 _ rfl]) rfl ?_
      have hk_2623 : kd (M 163 41) = 87 := Inv.r hI_M kd_163 rfl 41 rfl rfl
      refine kx_iload_n 19 F 3 dX12_laysGoes_18 rfl rfl rfl ?_
      refine kx_ldcw 22 (z := 1000000) F dX12_laysGoes_19 ct_X12_428 rfl ?_
      refine kx_iast 23 F hk_2623 rfl rfl (by omega) (by decide) dX12_laysGoes_22 rfl ?_
      intro N_2624 hM_N_2624
      have hI_N_2624 : Inv true N_2624 := Inv.u hI_N_1743 hM_N_2624 hk_2623 (a := 0) (b := 1000000) rfl rfl rfl (by omega)
      have hF_N_2624 : Fr f_e_laysGoes M N_2624 := Fr.u hF_N_1743 hM_N_2624 hk_2623 rfl
      have h_2626 := Inv.g hI_N_1743 hk_2623 rfl x3_1742 (a := 0) (b := 1000000) rfl rfl
      have ht_2625 := tot_u (n := 576) hM_N_2624 hk_2623 (by omega)
      refine kx_aload_n 24 F 0 dX12_laysGoes_23 rfl rfl rfl ?_
      refine kx_getr 27 F fl_X12_98 kd_163 rfl rfl (j := 42) rfl dX12_laysGoes_24 (v := (M 163 42)) (by rw [hM_N_2624, mu_k kd_163 hk_2623 rfl, Fr.e hF_N_1743 kd_163 _ rfl]) rfl ?_
      have hk_2627 : kd (M 163 42) = 87 := Inv.r hI_M kd_163 rfl 42 rfl rfl
      refine kx_iload_n 28 F 3 dX12_laysGoes_27 rfl rfl rfl ?_
      refine kx_ldcw 31 (z := 1000000) F dX12_laysGoes_28 ct_X12_428 rfl ?_
      refine kx_iast 32 F hk_2627 rfl rfl (by omega) (by decide) dX12_laysGoes_31 rfl ?_
      intro N_2628 hM_N_2628
      have hI_N_2628 : Inv true N_2628 := Inv.u hI_N_2624 hM_N_2628 hk_2627 (a := 0) (b := 1000000) rfl rfl rfl (by omega)
      have hF_N_2628 : Fr f_e_laysGoes M N_2628 := Fr.u hF_N_2624 hM_N_2628 hk_2627 rfl
      have h_2630 := Inv.g hI_N_2624 hk_2627 rfl x3_1742 (a := 0) (b := 1000000) rfl rfl
      have ht_2629 := tot_u (n := 576) hM_N_2628 hk_2627 (by omega)
      refine kx_iinc 35 F 3 (v := x3_1742 + 1) (lo' := [some (vR G 163), some (vI a1), some (vI a2), some (vI (x3_1742 + 1))]) dX12_laysGoes_32 rfl (by omega) (by decide) rfl rfl rfl ?_
      refine kx_goto 7 F dX12_laysGoes_35 (by decide) ?_
      have hp_2631 : RP N_2624 (M 164) a2 := RP.st hp_1749 hM_N_2624 hk_2623 rfl rfl
      have hp_2632 : RP N_2628 (M 164) a2 := RP.st hp_2631 hM_N_2628 hk_2627 rfl rfl
      have hp_2633 : LD N_2624  := LD.st hp_1750 hM_N_2624 hk_2623 rfl rfl
      have hp_2634 : LD N_2628  := LD.st hp_2633 hM_N_2628 hk_2627 rfl rfl
      exact ih_1746 _ (by omega) (x3_1742 + 1) N_2628 hI_N_2628 hF_N_2628 hp_2632 hp_2634 (by omega) rfl
  have hp_2635 : LD N_1  := LD.st hD hM_N_1 kd_163 rfl rfl
  exact L_1744 _ 0 N_1 hI_N_1 hF_N_1 hp_4 hp_2635 (by omega) rfl
set_option maxRecDepth 100000 in
theorem dGR_40_c_1191 : (decode cX12_laysLetter 0 = .ok (.iconst 0, 1)) ∧ (decode cX12_laysLetter 1 = .ok (.istore 8, 2)) ∧ (decode cX12_laysLetter 3 = .ok (.iload 5, 2)) ∧ (decode cX12_laysLetter 5 = .ok (.istore 9, 2)) ∧ (decode cX12_laysLetter 7 = .ok (.iload 9, 2)) ∧ (decode cX12_laysLetter 9 = .ok (.iload 6, 2)) ∧ (decode cX12_laysLetter 11 = .ok (.if_icmp .ge 122, 3)) ∧ (decode cX12_laysLetter 14 = .ok (.iconst 0, 1)) ∧ (decode cX12_laysLetter 15 = .ok (.istore 10, 2)) ∧ (decode cX12_laysLetter 17 = .ok (.iload 10, 2)) ∧ (decode cX12_laysLetter 19 = .ok (.bipush 24, 2)) ∧ (decode cX12_laysLetter 21 = .ok (.if_icmp .ge 106, 3)) := by decide +kernel
theorem dX12_laysLetter_0 : decode cX12_laysLetter 0 = .ok (.iconst 0, 1) := dGR_40_c_1191.1
theorem dX12_laysLetter_1 : decode cX12_laysLetter 1 = .ok (.istore 8, 2) := dGR_40_c_1191.2.1
theorem dX12_laysLetter_3 : decode cX12_laysLetter 3 = .ok (.iload 5, 2) := dGR_40_c_1191.2.2.1
theorem dX12_laysLetter_5 : decode cX12_laysLetter 5 = .ok (.istore 9, 2) := dGR_40_c_1191.2.2.2.1
theorem dX12_laysLetter_7 : decode cX12_laysLetter 7 = .ok (.iload 9, 2) := dGR_40_c_1191.2.2.2.2.1
theorem dX12_laysLetter_9 : decode cX12_laysLetter 9 = .ok (.iload 6, 2) := dGR_40_c_1191.2.2.2.2.2.1
theorem dX12_laysLetter_11 : decode cX12_laysLetter 11 = .ok (.if_icmp .ge 122, 3) := dGR_40_c_1191.2.2.2.2.2.2.1
theorem dX12_laysLetter_14 : decode cX12_laysLetter 14 = .ok (.iconst 0, 1) := dGR_40_c_1191.2.2.2.2.2.2.2.1
theorem dX12_laysLetter_15 : decode cX12_laysLetter 15 = .ok (.istore 10, 2) := dGR_40_c_1191.2.2.2.2.2.2.2.2.1
theorem dX12_laysLetter_17 : decode cX12_laysLetter 17 = .ok (.iload 10, 2) := dGR_40_c_1191.2.2.2.2.2.2.2.2.2.1
theorem dX12_laysLetter_19 : decode cX12_laysLetter 19 = .ok (.bipush 24, 2) := dGR_40_c_1191.2.2.2.2.2.2.2.2.2.2.1
theorem dX12_laysLetter_21 : decode cX12_laysLetter 21 = .ok (.if_icmp .ge 106, 3) := dGR_40_c_1191.2.2.2.2.2.2.2.2.2.2.2
set_option maxRecDepth 100000 in
theorem dGR_40_c_1192 : (decode cX12_laysLetter 24 = .ok (.aload_n 3, 1)) ∧ (decode cX12_laysLetter 25 = .ok (.iload 10, 2)) ∧ (decode cX12_laysLetter 27 = .ok (.iaload, 1)) ∧ (decode cX12_laysLetter 28 = .ok (.ldc_w 428, 3)) ∧ (decode cX12_laysLetter 31 = .ok (.if_icmp .lt 6, 3)) ∧ (decode cX12_laysLetter 34 = .ok (.goto 87, 3)) ∧ (decode cX12_laysLetter 37 = .ok (.iload 10, 2)) ∧ (decode cX12_laysLetter 39 = .ok (.bipush 8, 2)) ∧ (decode cX12_laysLetter 41 = .ok (.irem, 1)) ∧ (decode cX12_laysLetter 42 = .ok (.aload_n 0, 1)) ∧ (decode cX12_laysLetter 43 = .ok (.iload_n 2, 1)) ∧ (decode cX12_laysLetter 44 = .ok (.iload 9, 2)) := by decide +kernel
theorem dX12_laysLetter_24 : decode cX12_laysLetter 24 = .ok (.aload_n 3, 1) := dGR_40_c_1192.1
theorem dX12_laysLetter_25 : decode cX12_laysLetter 25 = .ok (.iload 10, 2) := dGR_40_c_1192.2.1
theorem dX12_laysLetter_27 : decode cX12_laysLetter 27 = .ok (.iaload, 1) := dGR_40_c_1192.2.2.1
theorem dX12_laysLetter_28 : decode cX12_laysLetter 28 = .ok (.ldc_w 428, 3) := dGR_40_c_1192.2.2.2.1
theorem dX12_laysLetter_31 : decode cX12_laysLetter 31 = .ok (.if_icmp .lt 6, 3) := dGR_40_c_1192.2.2.2.2.1
theorem dX12_laysLetter_34 : decode cX12_laysLetter 34 = .ok (.goto 87, 3) := dGR_40_c_1192.2.2.2.2.2.1
theorem dX12_laysLetter_37 : decode cX12_laysLetter 37 = .ok (.iload 10, 2) := dGR_40_c_1192.2.2.2.2.2.2.1
theorem dX12_laysLetter_39 : decode cX12_laysLetter 39 = .ok (.bipush 8, 2) := dGR_40_c_1192.2.2.2.2.2.2.2.1
theorem dX12_laysLetter_41 : decode cX12_laysLetter 41 = .ok (.irem, 1) := dGR_40_c_1192.2.2.2.2.2.2.2.2.1
theorem dX12_laysLetter_42 : decode cX12_laysLetter 42 = .ok (.aload_n 0, 1) := dGR_40_c_1192.2.2.2.2.2.2.2.2.2.1
theorem dX12_laysLetter_43 : decode cX12_laysLetter 43 = .ok (.iload_n 2, 1) := dGR_40_c_1192.2.2.2.2.2.2.2.2.2.2.1
theorem dX12_laysLetter_44 : decode cX12_laysLetter 44 = .ok (.iload 9, 2) := dGR_40_c_1192.2.2.2.2.2.2.2.2.2.2.2
set_option maxRecDepth 100000 in
theorem dGR_40_c_1193 : (decode cX12_laysLetter 46 = .ok (.iload 7, 2)) ∧ (decode cX12_laysLetter 48 = .ok (.invokevirtual 323, 3)) ∧ (decode cX12_laysLetter 51 = .ok (.invokestatic 332, 3)) ∧ (decode cX12_laysLetter 54 = .ok (.istore 11, 2)) ∧ (decode cX12_laysLetter 56 = .ok (.iconst 0, 1)) ∧ (decode cX12_laysLetter 57 = .ok (.istore 12, 2)) ∧ (decode cX12_laysLetter 59 = .ok (.iload 12, 2)) ∧ (decode cX12_laysLetter 61 = .ok (.iconst 3, 1)) ∧ (decode cX12_laysLetter 62 = .ok (.if_icmp .ge 59, 3)) ∧ (decode cX12_laysLetter 65 = .ok (.aload_n 0, 1)) ∧ (decode cX12_laysLetter 66 = .ok (.getfield 44, 3)) ∧ (decode cX12_laysLetter 69 = .ok (.iload_n 1, 1)) := by decide +kernel
theorem dX12_laysLetter_46 : decode cX12_laysLetter 46 = .ok (.iload 7, 2) := dGR_40_c_1193.1
theorem dX12_laysLetter_48 : decode cX12_laysLetter 48 = .ok (.invokevirtual 323, 3) := dGR_40_c_1193.2.1
theorem dX12_laysLetter_51 : decode cX12_laysLetter 51 = .ok (.invokestatic 332, 3) := dGR_40_c_1193.2.2.1
theorem dX12_laysLetter_54 : decode cX12_laysLetter 54 = .ok (.istore 11, 2) := dGR_40_c_1193.2.2.2.1
theorem dX12_laysLetter_56 : decode cX12_laysLetter 56 = .ok (.iconst 0, 1) := dGR_40_c_1193.2.2.2.2.1
theorem dX12_laysLetter_57 : decode cX12_laysLetter 57 = .ok (.istore 12, 2) := dGR_40_c_1193.2.2.2.2.2.1
theorem dX12_laysLetter_59 : decode cX12_laysLetter 59 = .ok (.iload 12, 2) := dGR_40_c_1193.2.2.2.2.2.2.1
theorem dX12_laysLetter_61 : decode cX12_laysLetter 61 = .ok (.iconst 3, 1) := dGR_40_c_1193.2.2.2.2.2.2.2.1
theorem dX12_laysLetter_62 : decode cX12_laysLetter 62 = .ok (.if_icmp .ge 59, 3) := dGR_40_c_1193.2.2.2.2.2.2.2.2.1
theorem dX12_laysLetter_65 : decode cX12_laysLetter 65 = .ok (.aload_n 0, 1) := dGR_40_c_1193.2.2.2.2.2.2.2.2.2.1
theorem dX12_laysLetter_66 : decode cX12_laysLetter 66 = .ok (.getfield 44, 3) := dGR_40_c_1193.2.2.2.2.2.2.2.2.2.2.1
theorem dX12_laysLetter_69 : decode cX12_laysLetter 69 = .ok (.iload_n 1, 1) := dGR_40_c_1193.2.2.2.2.2.2.2.2.2.2.2
set_option maxRecDepth 100000 in
theorem dGR_40_c_1194 : (decode cX12_laysLetter 70 = .ok (.iload 9, 2)) ∧ (decode cX12_laysLetter 72 = .ok (.iload 10, 2)) ∧ (decode cX12_laysLetter 74 = .ok (.bipush 8, 2)) ∧ (decode cX12_laysLetter 76 = .ok (.idiv, 1)) ∧ (decode cX12_laysLetter 77 = .ok (.iload 12, 2)) ∧ (decode cX12_laysLetter 79 = .ok (.invokestatic 319, 3)) ∧ (decode cX12_laysLetter 82 = .ok (.iaload, 1)) ∧ (decode cX12_laysLetter 83 = .ok (.iload 7, 2)) ∧ (decode cX12_laysLetter 85 = .ok (.iand, 1)) ∧ (decode cX12_laysLetter 86 = .ok (.ifCond .eq 29, 3)) ∧ (decode cX12_laysLetter 89 = .ok (.aload_n 0, 1)) ∧ (decode cX12_laysLetter 90 = .ok (.aload 4, 2)) := by decide +kernel
theorem dX12_laysLetter_70 : decode cX12_laysLetter 70 = .ok (.iload 9, 2) := dGR_40_c_1194.1
theorem dX12_laysLetter_72 : decode cX12_laysLetter 72 = .ok (.iload 10, 2) := dGR_40_c_1194.2.1
theorem dX12_laysLetter_74 : decode cX12_laysLetter 74 = .ok (.bipush 8, 2) := dGR_40_c_1194.2.2.1
theorem dX12_laysLetter_76 : decode cX12_laysLetter 76 = .ok (.idiv, 1) := dGR_40_c_1194.2.2.2.1
theorem dX12_laysLetter_77 : decode cX12_laysLetter 77 = .ok (.iload 12, 2) := dGR_40_c_1194.2.2.2.2.1
theorem dX12_laysLetter_79 : decode cX12_laysLetter 79 = .ok (.invokestatic 319, 3) := dGR_40_c_1194.2.2.2.2.2.1
theorem dX12_laysLetter_82 : decode cX12_laysLetter 82 = .ok (.iaload, 1) := dGR_40_c_1194.2.2.2.2.2.2.1
theorem dX12_laysLetter_83 : decode cX12_laysLetter 83 = .ok (.iload 7, 2) := dGR_40_c_1194.2.2.2.2.2.2.2.1
theorem dX12_laysLetter_85 : decode cX12_laysLetter 85 = .ok (.iand, 1) := dGR_40_c_1194.2.2.2.2.2.2.2.2.1
theorem dX12_laysLetter_86 : decode cX12_laysLetter 86 = .ok (.ifCond .eq 29, 3) := dGR_40_c_1194.2.2.2.2.2.2.2.2.2.1
theorem dX12_laysLetter_89 : decode cX12_laysLetter 89 = .ok (.aload_n 0, 1) := dGR_40_c_1194.2.2.2.2.2.2.2.2.2.2.1
theorem dX12_laysLetter_90 : decode cX12_laysLetter 90 = .ok (.aload 4, 2) := dGR_40_c_1194.2.2.2.2.2.2.2.2.2.2.2
set_option maxRecDepth 100000 in
theorem dGR_40_c_1195 : (decode cX12_laysLetter 92 = .ok (.bipush 8, 2)) ∧ (decode cX12_laysLetter 94 = .ok (.iload 12, 2)) ∧ (decode cX12_laysLetter 96 = .ok (.imul, 1)) ∧ (decode cX12_laysLetter 97 = .ok (.iload 11, 2)) ∧ (decode cX12_laysLetter 99 = .ok (.iadd, 1)) ∧ (decode cX12_laysLetter 100 = .ok (.aload_n 3, 1)) ∧ (decode cX12_laysLetter 101 = .ok (.iload 10, 2)) ∧ (decode cX12_laysLetter 103 = .ok (.iaload, 1)) ∧ (decode cX12_laysLetter 104 = .ok (.iconst 1, 1)) ∧ (decode cX12_laysLetter 105 = .ok (.iadd, 1)) ∧ (decode cX12_laysLetter 106 = .ok (.invokevirtual 448, 3)) ∧ (decode cX12_laysLetter 109 = .ok (.ifCond .eq 6, 3)) := by decide +kernel
theorem dX12_laysLetter_92 : decode cX12_laysLetter 92 = .ok (.bipush 8, 2) := dGR_40_c_1195.1
theorem dX12_laysLetter_94 : decode cX12_laysLetter 94 = .ok (.iload 12, 2) := dGR_40_c_1195.2.1
theorem dX12_laysLetter_96 : decode cX12_laysLetter 96 = .ok (.imul, 1) := dGR_40_c_1195.2.2.1
theorem dX12_laysLetter_97 : decode cX12_laysLetter 97 = .ok (.iload 11, 2) := dGR_40_c_1195.2.2.2.1
theorem dX12_laysLetter_99 : decode cX12_laysLetter 99 = .ok (.iadd, 1) := dGR_40_c_1195.2.2.2.2.1
theorem dX12_laysLetter_100 : decode cX12_laysLetter 100 = .ok (.aload_n 3, 1) := dGR_40_c_1195.2.2.2.2.2.1
theorem dX12_laysLetter_101 : decode cX12_laysLetter 101 = .ok (.iload 10, 2) := dGR_40_c_1195.2.2.2.2.2.2.1
theorem dX12_laysLetter_103 : decode cX12_laysLetter 103 = .ok (.iaload, 1) := dGR_40_c_1195.2.2.2.2.2.2.2.1
theorem dX12_laysLetter_104 : decode cX12_laysLetter 104 = .ok (.iconst 1, 1) := dGR_40_c_1195.2.2.2.2.2.2.2.2.1
theorem dX12_laysLetter_105 : decode cX12_laysLetter 105 = .ok (.iadd, 1) := dGR_40_c_1195.2.2.2.2.2.2.2.2.2.1
theorem dX12_laysLetter_106 : decode cX12_laysLetter 106 = .ok (.invokevirtual 448, 3) := dGR_40_c_1195.2.2.2.2.2.2.2.2.2.2.1
theorem dX12_laysLetter_109 : decode cX12_laysLetter 109 = .ok (.ifCond .eq 6, 3) := dGR_40_c_1195.2.2.2.2.2.2.2.2.2.2.2
set_option maxRecDepth 100000 in
theorem dGR_40_c_1196 : (decode cX12_laysLetter 112 = .ok (.iconst 1, 1)) ∧ (decode cX12_laysLetter 113 = .ok (.istore 8, 2)) ∧ (decode cX12_laysLetter 115 = .ok (.iinc 12 1, 3)) ∧ (decode cX12_laysLetter 118 = .ok (.goto (-59), 3)) ∧ (decode cX12_laysLetter 121 = .ok (.iinc 10 1, 3)) ∧ (decode cX12_laysLetter 124 = .ok (.goto (-107), 3)) ∧ (decode cX12_laysLetter 127 = .ok (.iinc 9 1, 3)) ∧ (decode cX12_laysLetter 130 = .ok (.goto (-123), 3)) ∧ (decode cX12_laysLetter 133 = .ok (.iload 8, 2)) ∧ (decode cX12_laysLetter 135 = .ok (.ireturn, 1)) := by decide +kernel
theorem dX12_laysLetter_112 : decode cX12_laysLetter 112 = .ok (.iconst 1, 1) := dGR_40_c_1196.1
theorem dX12_laysLetter_113 : decode cX12_laysLetter 113 = .ok (.istore 8, 2) := dGR_40_c_1196.2.1
theorem dX12_laysLetter_115 : decode cX12_laysLetter 115 = .ok (.iinc 12 1, 3) := dGR_40_c_1196.2.2.1
theorem dX12_laysLetter_118 : decode cX12_laysLetter 118 = .ok (.goto (-59), 3) := dGR_40_c_1196.2.2.2.1
theorem dX12_laysLetter_121 : decode cX12_laysLetter 121 = .ok (.iinc 10 1, 3) := dGR_40_c_1196.2.2.2.2.1
theorem dX12_laysLetter_124 : decode cX12_laysLetter 124 = .ok (.goto (-107), 3) := dGR_40_c_1196.2.2.2.2.2.1
theorem dX12_laysLetter_127 : decode cX12_laysLetter 127 = .ok (.iinc 9 1, 3) := dGR_40_c_1196.2.2.2.2.2.2.1
theorem dX12_laysLetter_130 : decode cX12_laysLetter 130 = .ok (.goto (-123), 3) := dGR_40_c_1196.2.2.2.2.2.2.2.1
theorem dX12_laysLetter_133 : decode cX12_laysLetter 133 = .ok (.iload 8, 2) := dGR_40_c_1196.2.2.2.2.2.2.2.2.1
theorem dX12_laysLetter_135 : decode cX12_laysLetter 135 = .ok (.ireturn, 1) := dGR_40_c_1196.2.2.2.2.2.2.2.2.2
abbrev f_c_X12_laysLetter : List (Nat × Int) := [(88, -1)]
set_option maxHeartbeats 4000000 in
set_option maxRecDepth 100000 in
theorem c_X12_laysLetter (G : KG) (l : Launch) (M : Mem) (a1 : Int) (a2 : Int) (c3 : Int) (c4 : Int) (a5 : Int) (a6 : Int) (a7 : Int) (hI_M : Inv true M) (hk_c3 : kd c3 = 88) (hk_c4 : kd c4 = 88) (hpre : -2147483648 ≤ a1 ∧ a1 ≤ 2147483647 ∧ -2147483648 ≤ a2 ∧ a2 ≤ 2147483647 ∧ -2147483648 ≤ a5 ∧ a5 ≤ 2147483647 ∧ -2147483648 ≤ a6 ∧ a6 ≤ 2147483647 ∧ -2147483648 ≤ a7 ∧ a7 ≤ 2147483647 ∧ 0 ≤ a1 ∧ a1 ≤ 2 ∧ 0 ≤ a2 ∧ a2 ≤ 1 ∧ 0 ≤ a5 ∧ a6 ≤ 6 ∧ 0 ≤ a7 ∧ a7 ≤ 8) : KC true G l yX12_laysLetter cX12_laysLetter 13 (some .boolean) (2, 49) [vR G 163, vI a1, vI a2, vR G c3, vR G c4, vI a5, vI a6, vI a7] M (fun A => kQi true G A (fun (r : Int) (N : Mem) => Inv true N ∧ Fr f_c_X12_laysLetter M N ∧ (0 ≤ r ∧ r ≤ 1 ∧ (tot 88 24 N) + r ≤ (tot 88 24 M)))) := by
  refine kx_met (lo := [some (vR G 163), some (vI a1), some (vI a2), some (vR G c3), some (vR G c4), some (vI a5), some (vI a6), some (vI a7), none, none, none, none, none]) (by decide) (Nat.le_of_ble_eq_true rfl) rfl ?_
  intro X F hQ
  have hF_M : Fr f_c_X12_laysLetter M M := Fr.rf _ _
  refine kx_iconst 1 F dX12_laysLetter_0 rfl ?_
  refine kx_istore 3 F 8 (lo' := [some (vR G 163), some (vI a1), some (vI a2), some (vR G c3), some (vR G c4), some (vI a5), some (vI a6), some (vI a7), some (vI 0), none, none, none, none]) dX12_laysLetter_1 (by decide) rfl rfl rfl ?_
  refine kx_iload 5 F 5 dX12_laysLetter_3 rfl rfl ?_
  refine kx_istore 7 F 9 (lo' := [some (vR G 163), some (vI a1), some (vI a2), some (vR G c3), some (vR G c4), some (vI a5), some (vI a6), some (vI a7), some (vI 0), some (vI a5), none, none, none]) dX12_laysLetter_5 (by decide) rfl rfl rfl ?_
  have L_789 : ∀ (n_790 : Nat) (x8_786 : Int) (x9_787 : Int) (N_788 : Mem), Inv true N_788 → Fr f_c_X12_laysLetter M N_788 → 0 ≤ x8_786 ∧ x8_786 ≤ 1 ∧ 0 ≤ x9_787 ∧ x9_787 ≤ 2147483647 ∧ (tot 88 24 N_788) + x8_786 ≤ (tot 88 24 M) ∧ a5 ≤ x9_787 → (2147483647 - (x9_787)).toNat = n_790 → KJ true G X N_788 7 [some (vR G 163), some (vI a1), some (vI a2), some (vR G c3), some (vR G c4), none, some (vI a6), some (vI a7), some (vI x8_786), some (vI x9_787), none, none, none] [] := by
    intro n_790
    refine Nat.strongRecOn n_790 ?_
    intro n_790 ih_791 x8_786 x9_787 N_788 hI_N_788 hF_N_788 h_792 hm_793
    refine kx_iload 9 F 9 dX12_laysLetter_7 rfl rfl ?_
    refine kx_iload 11 F 6 dX12_laysLetter_9 rfl rfl ?_
    refine kx_icmp_ge 14 F 133 dX12_laysLetter_11 (by decide) rfl (by omega) (by omega) (fun h_794 => ?_) (fun h_794 => ?_)
    · refine kx_iload 135 F 8 dX12_laysLetter_133 rfl rfl ?_
      exact kx_zret F hQ (by omega) ⟨hI_N_788, hF_N_788, (by omega)⟩ dX12_laysLetter_135
    · refine kx_iconst 15 F dX12_laysLetter_14 rfl ?_
      refine kx_istore 17 F 10 (lo' := [some (vR G 163), some (vI a1), some (vI a2), some (vR G c3), some (vR G c4), none, some (vI a6), some (vI a7), some (vI x8_786), some (vI x9_787), some (vI 0), none, none]) dX12_laysLetter_15 (by decide) rfl rfl rfl ?_
      have L_1477 : ∀ (n_1478 : Nat) (x8_1474 : Int) (x10_1475 : Int) (N_1476 : Mem), Inv true N_1476 → Fr f_c_X12_laysLetter M N_1476 → 0 ≤ x8_1474 ∧ x8_1474 ≤ 1 ∧ 0 ≤ x10_1475 ∧ x10_1475 ≤ 24 ∧ (tot 88 24 N_1476) + x8_1474 ≤ (tot 88 24 M) → (24 - (x10_1475)).toNat = n_1478 → KJ true G X N_1476 17 [some (vR G 163), some (vI a1), some (vI a2), some (vR G c3), some (vR G c4), none, some (vI a6), some (vI a7), some (vI x8_1474), some (vI x9_787), some (vI x10_1475), none, none] [] := by
        intro n_1478
        refine Nat.strongRecOn n_1478 ?_
        intro n_1478 ih_1479 x8_1474 x10_1475 N_1476 hI_N_1476 hF_N_1476 h_1480 hm_1481
        refine kx_iload 19 F 10 dX12_laysLetter_17 rfl rfl ?_
        refine kx_bipush 21 F dX12_laysLetter_19 (by decide) rfl ?_
        refine kx_icmp_ge 24 F 127 dX12_laysLetter_21 (by decide) rfl (by omega) (by decide) (fun h_1482 => ?_) (fun h_1482 => ?_)
        · refine kx_iinc 130 F 9 (v := x9_787 + 1) (lo' := [some (vR G 163), some (vI a1), some (vI a2), some (vR G c3), some (vR G c4), none, some (vI a6), some (vI a7), some (vI x8_1474), some (vI (x9_787 + 1)), some (vI x10_1475), none, none]) dX12_laysLetter_127 rfl (by omega) (by decide) rfl rfl rfl ?_
          refine kx_goto 7 F dX12_laysLetter_130 (by decide) ?_
          refine kx_drop 10 (lo' := [some (vR G 163), some (vI a1), some (vI a2), some (vR G c3), some (vR G c4), none, some (vI a6), some (vI a7), some (vI x8_1474), some (vI (x9_787 + 1)), none, none, none]) rfl ?_
          exact ih_791 _ (by omega) x8_1474 (x9_787 + 1) N_1476 hI_N_1476 hF_N_1476 (by omega) rfl
        · refine kx_aload_n 25 F 3 dX12_laysLetter_24 rfl rfl rfl ?_
          refine kx_iload 27 F 10 dX12_laysLetter_25 rfl rfl ?_
          refine kx_iald 28 F hk_c3 rfl rfl (by omega) (by decide) dX12_laysLetter_27 (v := (N_1476 c3 x10_1475)) rfl rfl ?_
          have h_1483 := Inv.g hI_N_1476 hk_c3 rfl x10_1475 (a := 0) (b := 1000000) rfl rfl
          refine kx_ldcw 31 (z := 1000000) F dX12_laysLetter_28 ct_X12_428 rfl ?_
          refine kx_icmp_lt 34 F 37 dX12_laysLetter_31 (by decide) rfl (by omega) (by decide) (fun h_1484 => ?_) (fun h_1484 => ?_)
          · refine kx_iload 39 F 10 dX12_laysLetter_37 rfl rfl ?_
            refine kx_bipush 41 F dX12_laysLetter_39 (by decide) rfl ?_
            refine kx_irem 42 F (v := (x10_1475 % 8)) dX12_laysLetter_41 (by omega) (by decide) rfl rfl ?_
            refine kx_aload_n 43 F 0 dX12_laysLetter_42 rfl rfl rfl ?_
            refine kx_iload_n 44 F 2 dX12_laysLetter_43 rfl rfl rfl ?_
            refine kx_iload 46 F 9 dX12_laysLetter_44 rfl rfl ?_
            refine kx_iload 48 F 7 dX12_laysLetter_46 rfl rfl ?_
            refine kx_Vi 51 (ci := 0) F (As := [vI a2, vI x9_787, vI a7]) (st := [vI (x10_1475 % 8)]) vd_X12_323 (c_X12_leads G l N_1476 a2 x9_787 a7 hI_N_1476 (by omega)) kd_163 rfl rfl rfl ⟨by decide, by decide⟩ rfl rfl (Nat.le_of_ble_eq_true rfl) dX12_laysLetter_48 rfl ?_
            intro r_1485 N_1486 q_1487
            obtain ⟨rfl, q_1487c⟩ := q_1487
            refine kx_Si 54 F (As := [vI (x10_1475 % 8), vI r_1485]) (st := []) sd_X12_332 (c_X12_image G l N_1476 (x10_1475 % 8) r_1485 hI_N_1476 (by omega)) ⟨by decide, by decide⟩ rfl rfl (Nat.le_of_ble_eq_true rfl) dX12_laysLetter_51 rfl ?_
            intro r_1488 N_1489 q_1490
            obtain ⟨rfl, q_1490c⟩ := q_1490
            refine kx_istore 56 F 11 (lo' := [some (vR G 163), some (vI a1), some (vI a2), some (vR G c3), some (vR G c4), none, some (vI a6), some (vI a7), some (vI x8_1474), some (vI x9_787), some (vI x10_1475), some (vI r_1488), none]) dX12_laysLetter_54 (by decide) rfl rfl rfl ?_
            refine kx_iconst 57 F dX12_laysLetter_56 rfl ?_
            refine kx_istore 59 F 12 (lo' := [some (vR G 163), some (vI a1), some (vI a2), some (vR G c3), some (vR G c4), none, some (vI a6), some (vI a7), some (vI x8_1474), some (vI x9_787), some (vI x10_1475), some (vI r_1488), some (vI 0)]) dX12_laysLetter_57 (by decide) rfl rfl rfl ?_
            have L_1558 : ∀ (n_1559 : Nat) (x8_1555 : Int) (x12_1556 : Int) (N_1557 : Mem), Inv true N_1557 → Fr f_c_X12_laysLetter M N_1557 → 0 ≤ x8_1555 ∧ x8_1555 ≤ 1 ∧ 0 ≤ x12_1556 ∧ x12_1556 ≤ 3 ∧ (tot 88 24 N_1557) + x8_1555 ≤ (tot 88 24 M) → (3 - (x12_1556)).toNat = n_1559 → KJ true G X N_1557 59 [some (vR G 163), some (vI a1), some (vI a2), some (vR G c3), some (vR G c4), none, some (vI a6), some (vI a7), some (vI x8_1555), some (vI x9_787), some (vI x10_1475), some (vI r_1488), some (vI x12_1556)] [] := by
              intro n_1559
              refine Nat.strongRecOn n_1559 ?_
              intro n_1559 ih_1560 x8_1555 x12_1556 N_1557 hI_N_1557 hF_N_1557 h_1561 hm_1562
              refine kx_iload 61 F 12 dX12_laysLetter_59 rfl rfl ?_
              refine kx_iconst 62 F dX12_laysLetter_61 rfl ?_
              refine kx_icmp_ge 65 F 121 dX12_laysLetter_62 (by decide) rfl (by omega) (by decide) (fun h_1563 => ?_) (fun h_1563 => ?_)
              · refine kx_iinc 124 F 10 (v := x10_1475 + 1) (lo' := [some (vR G 163), some (vI a1), some (vI a2), some (vR G c3), some (vR G c4), none, some (vI a6), some (vI a7), some (vI x8_1555), some (vI x9_787), some (vI (x10_1475 + 1)), some (vI r_1488), some (vI x12_1556)]) dX12_laysLetter_121 rfl (by omega) (by decide) rfl rfl rfl ?_
                refine kx_goto 17 F dX12_laysLetter_124 (by decide) ?_
                refine kx_drop 11 (lo' := [some (vR G 163), some (vI a1), some (vI a2), some (vR G c3), some (vR G c4), none, some (vI a6), some (vI a7), some (vI x8_1555), some (vI x9_787), some (vI (x10_1475 + 1)), none, some (vI x12_1556)]) rfl ?_
                refine kx_drop 12 (lo' := [some (vR G 163), some (vI a1), some (vI a2), some (vR G c3), some (vR G c4), none, some (vI a6), some (vI a7), some (vI x8_1555), some (vI x9_787), some (vI (x10_1475 + 1)), none, none]) rfl ?_
                exact ih_1479 _ (by omega) x8_1555 (x10_1475 + 1) N_1557 hI_N_1557 hF_N_1557 (by omega) rfl
              · refine kx_aload_n 66 F 0 dX12_laysLetter_65 rfl rfl rfl ?_
                refine kx_getr 69 F fl_X12_44 kd_163 rfl rfl (j := 20) rfl dX12_laysLetter_66 (v := 171) (uq_171 (Inv.r hI_N_1557 kd_163 rfl 20 rfl rfl)) rfl ?_
                refine kx_iload_n 70 F 1 dX12_laysLetter_69 rfl rfl rfl ?_
                refine kx_iload 72 F 9 dX12_laysLetter_70 rfl rfl ?_
                refine kx_iload 74 F 10 dX12_laysLetter_72 rfl rfl ?_
                refine kx_bipush 76 F dX12_laysLetter_74 (by decide) rfl ?_
                refine kx_idiv 77 F (v := (x10_1475 / 8)) dX12_laysLetter_76 (by omega) (by decide) rfl rfl ?_
                refine kx_iload 79 F 12 dX12_laysLetter_77 rfl rfl ?_
                refine kx_Si 82 F (As := [vI a1, vI x9_787, vI (x10_1475 / 8), vI x12_1556]) (st := [vR G 171]) sd_X12_319 (c_X12_placeOf G l N_1557 a1 x9_787 (x10_1475 / 8) x12_1556 hI_N_1557 (by omega)) ⟨by decide, by decide⟩ rfl rfl (Nat.le_of_ble_eq_true rfl) dX12_laysLetter_79 rfl ?_
                intro r_1564 N_1565 q_1566
                obtain ⟨rfl, q_1566c⟩ := q_1566
                refine kx_topi (e' := 54 * a1 + 9 * x9_787 + 3 * (x10_1475 / 8) + x12_1556) (by omega) ?_
                refine kx_iald 83 F kd_171 rfl rfl (by omega) (by decide) dX12_laysLetter_82 (v := (M 171 (54 * a1 + 9 * x9_787 + 3 * (x10_1475 / 8) + x12_1556))) (by rw [Fr.e hF_N_1557 kd_171 _ rfl]) rfl ?_
                have h_1567 := Inv.g hI_M kd_171 rfl (54 * a1 + 9 * x9_787 + 3 * (x10_1475 / 8) + x12_1556) (a := 0) (b := 15) rfl rfl
                refine kx_iload 85 F 7 dX12_laysLetter_83 rfl rfl ?_
                refine kx_iand 86 F (v := (zand (M 171 (54 * a1 + 9 * x9_787 + 3 * (x10_1475 / 8) + x12_1556)) a7)) dX12_laysLetter_85 rfl rfl ?_
                have h_1568 := zand_r (a := (M 171 (54 * a1 + 9 * x9_787 + 3 * (x10_1475 / 8) + x12_1556))) (b := a7) (by omega)
                refine kx_if_eq 89 F 115 dX12_laysLetter_86 (by decide) rfl (by omega) (fun h_1569 => ?_) (fun h_1569 => ?_)
                · refine kx_iinc 118 F 12 (v := x12_1556 + 1) (lo' := [some (vR G 163), some (vI a1), some (vI a2), some (vR G c3), some (vR G c4), none, some (vI a6), some (vI a7), some (vI x8_1555), some (vI x9_787), some (vI x10_1475), some (vI r_1488), some (vI (x12_1556 + 1))]) dX12_laysLetter_115 rfl (by omega) (by decide) rfl rfl rfl ?_
                  refine kx_goto 59 F dX12_laysLetter_118 (by decide) ?_
                  exact ih_1560 _ (by omega) x8_1555 (x12_1556 + 1) N_1557 hI_N_1557 hF_N_1557 (by omega) rfl
                · refine kx_aload_n 90 F 0 dX12_laysLetter_89 rfl rfl rfl ?_
                  refine kx_aload 92 F 4 dX12_laysLetter_90 rfl rfl ?_
                  refine kx_bipush 94 F dX12_laysLetter_92 (by decide) rfl ?_
                  refine kx_iload 96 F 12 dX12_laysLetter_94 rfl rfl ?_
                  refine kx_imul 97 F (v := 8 * x12_1556) dX12_laysLetter_96 (by omega) rfl ?_
                  refine kx_iload 99 F 11 dX12_laysLetter_97 rfl rfl ?_
                  refine kx_iadd 100 F (v := 8 * x12_1556 + r_1488) dX12_laysLetter_99 rfl rfl ?_
                  refine kx_aload_n 101 F 3 dX12_laysLetter_100 rfl rfl rfl ?_
                  refine kx_iload 103 F 10 dX12_laysLetter_101 rfl rfl ?_
                  refine kx_iald 104 F hk_c3 rfl rfl (by omega) (by decide) dX12_laysLetter_103 (v := (N_1557 c3 x10_1475)) rfl rfl ?_
                  have h_1570 := Inv.g hI_N_1557 hk_c3 rfl x10_1475 (a := 0) (b := 1000000) rfl rfl
                  refine kx_iconst 105 F dX12_laysLetter_104 rfl ?_
                  refine kx_iadd 106 F (v := (N_1557 c3 x10_1475) + 1) dX12_laysLetter_105 rfl rfl ?_
                  refine kx_Vi 109 (ci := 0) F (As := [vR G c4, vI (8 * x12_1556 + r_1488), vI ((N_1557 c3 x10_1475) + 1)]) (st := []) vd_X12_448 (c_lowT24 G l N_1557 c4 (8 * x12_1556 + r_1488) ((N_1557 c3 x10_1475) + 1) hI_N_1557 hk_c4 (by omega)) kd_163 rfl rfl rfl ⟨by decide, by decide⟩ rfl rfl (Nat.le_of_ble_eq_true rfl) dX12_laysLetter_106 rfl ?_
                  intro r_1571 N_1572 q_1573
                  obtain ⟨hI_N_1572, hG_N_1572, q_1573c⟩ := q_1573
                  have hF_N_1572 : Fr f_c_X12_laysLetter M N_1572 := Fr.c hF_N_1557 hG_N_1572 rfl
                  rcases q_1573c with q_1573c | q_1573c
                  · refine kx_if_eq 112 F 115 dX12_laysLetter_109 (by decide) rfl (by omega) (fun h_1574 => (by exfalso; omega)) (fun h_1574 => ?_)
                    refine kx_iconst 113 F dX12_laysLetter_112 rfl ?_
                    refine kx_istore 115 F 8 (lo' := [some (vR G 163), some (vI a1), some (vI a2), some (vR G c3), some (vR G c4), none, some (vI a6), some (vI a7), some (vI 1), some (vI x9_787), some (vI x10_1475), some (vI r_1488), some (vI x12_1556)]) dX12_laysLetter_113 (by decide) rfl rfl rfl ?_
                    refine kx_iinc 118 F 12 (v := x12_1556 + 1) (lo' := [some (vR G 163), some (vI a1), some (vI a2), some (vR G c3), some (vR G c4), none, some (vI a6), some (vI a7), some (vI 1), some (vI x9_787), some (vI x10_1475), some (vI r_1488), some (vI (x12_1556 + 1))]) dX12_laysLetter_115 rfl (by omega) (by decide) rfl rfl rfl ?_
                    refine kx_goto 59 F dX12_laysLetter_118 (by decide) ?_
                    exact ih_1560 _ (by omega) 1 (x12_1556 + 1) N_1572 hI_N_1572 hF_N_1572 (by omega) rfl
                  · refine kx_if_eq 112 F 115 dX12_laysLetter_109 (by decide) rfl (by omega) (fun h_1575 => ?_) (fun h_1575 => (by exfalso; omega))
                    refine kx_iinc 118 F 12 (v := x12_1556 + 1) (lo' := [some (vR G 163), some (vI a1), some (vI a2), some (vR G c3), some (vR G c4), none, some (vI a6), some (vI a7), some (vI x8_1555), some (vI x9_787), some (vI x10_1475), some (vI r_1488), some (vI (x12_1556 + 1))]) dX12_laysLetter_115 rfl (by omega) (by decide) rfl rfl rfl ?_
                    refine kx_goto 59 F dX12_laysLetter_118 (by decide) ?_
                    exact ih_1560 _ (by omega) x8_1555 (x12_1556 + 1) N_1572 hI_N_1572 hF_N_1572 (by omega) rfl
            exact L_1558 _ x8_1474 0 N_1476 hI_N_1476 hF_N_1476 (by omega) rfl
          · refine kx_goto 121 F dX12_laysLetter_34 (by decide) ?_
            refine kx_iinc 124 F 10 (v := x10_1475 + 1) (lo' := [some (vR G 163), some (vI a1), some (vI a2), some (vR G c3), some (vR G c4), none, some (vI a6), some (vI a7), some (vI x8_1474), some (vI x9_787), some (vI (x10_1475 + 1)), none, none]) dX12_laysLetter_121 rfl (by omega) (by decide) rfl rfl rfl ?_
            refine kx_goto 17 F dX12_laysLetter_124 (by decide) ?_
            exact ih_1479 _ (by omega) x8_1474 (x10_1475 + 1) N_1476 hI_N_1476 hF_N_1476 (by omega) rfl
      exact L_1477 _ x8_786 0 N_788 hI_N_788 hF_N_788 (by omega) rfl
  refine kx_drop 5 (lo' := [some (vR G 163), some (vI a1), some (vI a2), some (vR G c3), some (vR G c4), none, some (vI a6), some (vI a7), some (vI 0), some (vI a5), none, none, none]) rfl ?_
  exact L_789 _ 0 a5 M hI_M hF_M (by omega) rfl
set_option maxRecDepth 100000 in
theorem dGR_40_c_1197 : (decode cX12_laysSpan 0 = .ok (.iconst 0, 1)) ∧ (decode cX12_laysSpan 1 = .ok (.istore_n 2, 1)) ∧ (decode cX12_laysSpan 2 = .ok (.iconst 0, 1)) ∧ (decode cX12_laysSpan 3 = .ok (.istore_n 3, 1)) ∧ (decode cX12_laysSpan 4 = .ok (.iload_n 3, 1)) ∧ (decode cX12_laysSpan 5 = .ok (.bipush 24, 2)) ∧ (decode cX12_laysSpan 7 = .ok (.if_icmp .ge 106, 3)) ∧ (decode cX12_laysSpan 10 = .ok (.iconst 0, 1)) ∧ (decode cX12_laysSpan 11 = .ok (.istore 4, 2)) ∧ (decode cX12_laysSpan 13 = .ok (.iload 4, 2)) ∧ (decode cX12_laysSpan 15 = .ok (.aload_n 0, 1)) ∧ (decode cX12_laysSpan 16 = .ok (.getfield 459, 3)) := by decide +kernel
theorem dX12_laysSpan_0 : decode cX12_laysSpan 0 = .ok (.iconst 0, 1) := dGR_40_c_1197.1
theorem dX12_laysSpan_1 : decode cX12_laysSpan 1 = .ok (.istore_n 2, 1) := dGR_40_c_1197.2.1
theorem dX12_laysSpan_2 : decode cX12_laysSpan 2 = .ok (.iconst 0, 1) := dGR_40_c_1197.2.2.1
theorem dX12_laysSpan_3 : decode cX12_laysSpan 3 = .ok (.istore_n 3, 1) := dGR_40_c_1197.2.2.2.1
theorem dX12_laysSpan_4 : decode cX12_laysSpan 4 = .ok (.iload_n 3, 1) := dGR_40_c_1197.2.2.2.2.1
theorem dX12_laysSpan_5 : decode cX12_laysSpan 5 = .ok (.bipush 24, 2) := dGR_40_c_1197.2.2.2.2.2.1
theorem dX12_laysSpan_7 : decode cX12_laysSpan 7 = .ok (.if_icmp .ge 106, 3) := dGR_40_c_1197.2.2.2.2.2.2.1
theorem dX12_laysSpan_10 : decode cX12_laysSpan 10 = .ok (.iconst 0, 1) := dGR_40_c_1197.2.2.2.2.2.2.2.1
theorem dX12_laysSpan_11 : decode cX12_laysSpan 11 = .ok (.istore 4, 2) := dGR_40_c_1197.2.2.2.2.2.2.2.2.1
theorem dX12_laysSpan_13 : decode cX12_laysSpan 13 = .ok (.iload 4, 2) := dGR_40_c_1197.2.2.2.2.2.2.2.2.2.1
theorem dX12_laysSpan_15 : decode cX12_laysSpan 15 = .ok (.aload_n 0, 1) := dGR_40_c_1197.2.2.2.2.2.2.2.2.2.2.1
theorem dX12_laysSpan_16 : decode cX12_laysSpan 16 = .ok (.getfield 459, 3) := dGR_40_c_1197.2.2.2.2.2.2.2.2.2.2.2
set_option maxRecDepth 100000 in
theorem dGR_40_c_1198 : (decode cX12_laysSpan 19 = .ok (.if_icmp .ge 88, 3)) ∧ (decode cX12_laysSpan 22 = .ok (.iload_n 3, 1)) ∧ (decode cX12_laysSpan 23 = .ok (.bipush 8, 2)) ∧ (decode cX12_laysSpan 25 = .ok (.irem, 1)) ∧ (decode cX12_laysSpan 26 = .ok (.aload_n 0, 1)) ∧ (decode cX12_laysSpan 27 = .ok (.getfield 92, 3)) ∧ (decode cX12_laysSpan 30 = .ok (.iload 4, 2)) ∧ (decode cX12_laysSpan 32 = .ok (.iaload, 1)) ∧ (decode cX12_laysSpan 33 = .ok (.invokestatic 332, 3)) ∧ (decode cX12_laysSpan 36 = .ok (.istore 5, 2)) ∧ (decode cX12_laysSpan 38 = .ok (.iconst 0, 1)) ∧ (decode cX12_laysSpan 39 = .ok (.istore 6, 2)) := by decide +kernel
theorem dX12_laysSpan_19 : decode cX12_laysSpan 19 = .ok (.if_icmp .ge 88, 3) := dGR_40_c_1198.1
theorem dX12_laysSpan_22 : decode cX12_laysSpan 22 = .ok (.iload_n 3, 1) := dGR_40_c_1198.2.1
theorem dX12_laysSpan_23 : decode cX12_laysSpan 23 = .ok (.bipush 8, 2) := dGR_40_c_1198.2.2.1
theorem dX12_laysSpan_25 : decode cX12_laysSpan 25 = .ok (.irem, 1) := dGR_40_c_1198.2.2.2.1
theorem dX12_laysSpan_26 : decode cX12_laysSpan 26 = .ok (.aload_n 0, 1) := dGR_40_c_1198.2.2.2.2.1
theorem dX12_laysSpan_27 : decode cX12_laysSpan 27 = .ok (.getfield 92, 3) := dGR_40_c_1198.2.2.2.2.2.1
theorem dX12_laysSpan_30 : decode cX12_laysSpan 30 = .ok (.iload 4, 2) := dGR_40_c_1198.2.2.2.2.2.2.1
theorem dX12_laysSpan_32 : decode cX12_laysSpan 32 = .ok (.iaload, 1) := dGR_40_c_1198.2.2.2.2.2.2.2.1
theorem dX12_laysSpan_33 : decode cX12_laysSpan 33 = .ok (.invokestatic 332, 3) := dGR_40_c_1198.2.2.2.2.2.2.2.2.1
theorem dX12_laysSpan_36 : decode cX12_laysSpan 36 = .ok (.istore 5, 2) := dGR_40_c_1198.2.2.2.2.2.2.2.2.2.1
theorem dX12_laysSpan_38 : decode cX12_laysSpan 38 = .ok (.iconst 0, 1) := dGR_40_c_1198.2.2.2.2.2.2.2.2.2.2.1
theorem dX12_laysSpan_39 : decode cX12_laysSpan 39 = .ok (.istore 6, 2) := dGR_40_c_1198.2.2.2.2.2.2.2.2.2.2.2
set_option maxRecDepth 100000 in
theorem dGR_40_c_1199 : (decode cX12_laysSpan 41 = .ok (.iload 6, 2)) ∧ (decode cX12_laysSpan 43 = .ok (.iconst 3, 1)) ∧ (decode cX12_laysSpan 44 = .ok (.if_icmp .ge 57, 3)) ∧ (decode cX12_laysSpan 47 = .ok (.aload_n 0, 1)) ∧ (decode cX12_laysSpan 48 = .ok (.aload_n 1, 1)) ∧ (decode cX12_laysSpan 49 = .ok (.bipush 8, 2)) ∧ (decode cX12_laysSpan 51 = .ok (.iload 6, 2)) ∧ (decode cX12_laysSpan 53 = .ok (.imul, 1)) ∧ (decode cX12_laysSpan 54 = .ok (.iload 5, 2)) ∧ (decode cX12_laysSpan 56 = .ok (.iadd, 1)) ∧ (decode cX12_laysSpan 57 = .ok (.ldc_w 428, 3)) ∧ (decode cX12_laysSpan 60 = .ok (.aload_n 1, 1)) := by decide +kernel
theorem dX12_laysSpan_41 : decode cX12_laysSpan 41 = .ok (.iload 6, 2) := dGR_40_c_1199.1
theorem dX12_laysSpan_43 : decode cX12_laysSpan 43 = .ok (.iconst 3, 1) := dGR_40_c_1199.2.1
theorem dX12_laysSpan_44 : decode cX12_laysSpan 44 = .ok (.if_icmp .ge 57, 3) := dGR_40_c_1199.2.2.1
theorem dX12_laysSpan_47 : decode cX12_laysSpan 47 = .ok (.aload_n 0, 1) := dGR_40_c_1199.2.2.2.1
theorem dX12_laysSpan_48 : decode cX12_laysSpan 48 = .ok (.aload_n 1, 1) := dGR_40_c_1199.2.2.2.2.1
theorem dX12_laysSpan_49 : decode cX12_laysSpan 49 = .ok (.bipush 8, 2) := dGR_40_c_1199.2.2.2.2.2.1
theorem dX12_laysSpan_51 : decode cX12_laysSpan 51 = .ok (.iload 6, 2) := dGR_40_c_1199.2.2.2.2.2.2.1
theorem dX12_laysSpan_53 : decode cX12_laysSpan 53 = .ok (.imul, 1) := dGR_40_c_1199.2.2.2.2.2.2.2.1
theorem dX12_laysSpan_54 : decode cX12_laysSpan 54 = .ok (.iload 5, 2) := dGR_40_c_1199.2.2.2.2.2.2.2.2.1
theorem dX12_laysSpan_56 : decode cX12_laysSpan 56 = .ok (.iadd, 1) := dGR_40_c_1199.2.2.2.2.2.2.2.2.2.1
theorem dX12_laysSpan_57 : decode cX12_laysSpan 57 = .ok (.ldc_w 428, 3) := dGR_40_c_1199.2.2.2.2.2.2.2.2.2.2.1
theorem dX12_laysSpan_60 : decode cX12_laysSpan 60 = .ok (.aload_n 1, 1) := dGR_40_c_1199.2.2.2.2.2.2.2.2.2.2.2
set_option maxRecDepth 100000 in
theorem dGR_40_c_1200 : (decode cX12_laysSpan 61 = .ok (.iload_n 3, 1)) ∧ (decode cX12_laysSpan 62 = .ok (.iaload, 1)) ∧ (decode cX12_laysSpan 63 = .ok (.aload_n 0, 1)) ∧ (decode cX12_laysSpan 64 = .ok (.getfield 98, 3)) ∧ (decode cX12_laysSpan 67 = .ok (.bipush 64, 2)) ∧ (decode cX12_laysSpan 69 = .ok (.iconst 3, 1)) ∧ (decode cX12_laysSpan 70 = .ok (.iload_n 3, 1)) ∧ (decode cX12_laysSpan 71 = .ok (.bipush 8, 2)) ∧ (decode cX12_laysSpan 73 = .ok (.idiv, 1)) ∧ (decode cX12_laysSpan 74 = .ok (.imul, 1)) ∧ (decode cX12_laysSpan 75 = .ok (.iload 6, 2)) ∧ (decode cX12_laysSpan 77 = .ok (.iadd, 1)) := by decide +kernel
theorem dX12_laysSpan_61 : decode cX12_laysSpan 61 = .ok (.iload_n 3, 1) := dGR_40_c_1200.1
theorem dX12_laysSpan_62 : decode cX12_laysSpan 62 = .ok (.iaload, 1) := dGR_40_c_1200.2.1
theorem dX12_laysSpan_63 : decode cX12_laysSpan 63 = .ok (.aload_n 0, 1) := dGR_40_c_1200.2.2.1
theorem dX12_laysSpan_64 : decode cX12_laysSpan 64 = .ok (.getfield 98, 3) := dGR_40_c_1200.2.2.2.1
theorem dX12_laysSpan_67 : decode cX12_laysSpan 67 = .ok (.bipush 64, 2) := dGR_40_c_1200.2.2.2.2.1
theorem dX12_laysSpan_69 : decode cX12_laysSpan 69 = .ok (.iconst 3, 1) := dGR_40_c_1200.2.2.2.2.2.1
theorem dX12_laysSpan_70 : decode cX12_laysSpan 70 = .ok (.iload_n 3, 1) := dGR_40_c_1200.2.2.2.2.2.2.1
theorem dX12_laysSpan_71 : decode cX12_laysSpan 71 = .ok (.bipush 8, 2) := dGR_40_c_1200.2.2.2.2.2.2.2.1
theorem dX12_laysSpan_73 : decode cX12_laysSpan 73 = .ok (.idiv, 1) := dGR_40_c_1200.2.2.2.2.2.2.2.2.1
theorem dX12_laysSpan_74 : decode cX12_laysSpan 74 = .ok (.imul, 1) := dGR_40_c_1200.2.2.2.2.2.2.2.2.2.1
theorem dX12_laysSpan_75 : decode cX12_laysSpan 75 = .ok (.iload 6, 2) := dGR_40_c_1200.2.2.2.2.2.2.2.2.2.2.1
theorem dX12_laysSpan_77 : decode cX12_laysSpan 77 = .ok (.iadd, 1) := dGR_40_c_1200.2.2.2.2.2.2.2.2.2.2.2
set_option maxRecDepth 100000 in
theorem dGR_40_c_1201 : (decode cX12_laysSpan 78 = .ok (.imul, 1)) ∧ (decode cX12_laysSpan 79 = .ok (.iload 4, 2)) ∧ (decode cX12_laysSpan 81 = .ok (.iadd, 1)) ∧ (decode cX12_laysSpan 82 = .ok (.iaload, 1)) ∧ (decode cX12_laysSpan 83 = .ok (.iadd, 1)) ∧ (decode cX12_laysSpan 84 = .ok (.invokestatic 178, 3)) ∧ (decode cX12_laysSpan 87 = .ok (.invokevirtual 448, 3)) ∧ (decode cX12_laysSpan 90 = .ok (.ifCond .eq 5, 3)) ∧ (decode cX12_laysSpan 93 = .ok (.iconst 1, 1)) ∧ (decode cX12_laysSpan 94 = .ok (.istore_n 2, 1)) ∧ (decode cX12_laysSpan 95 = .ok (.iinc 6 1, 3)) ∧ (decode cX12_laysSpan 98 = .ok (.goto (-57), 3)) := by decide +kernel
theorem dX12_laysSpan_78 : decode cX12_laysSpan 78 = .ok (.imul, 1) := dGR_40_c_1201.1
theorem dX12_laysSpan_79 : decode cX12_laysSpan 79 = .ok (.iload 4, 2) := dGR_40_c_1201.2.1
theorem dX12_laysSpan_81 : decode cX12_laysSpan 81 = .ok (.iadd, 1) := dGR_40_c_1201.2.2.1
theorem dX12_laysSpan_82 : decode cX12_laysSpan 82 = .ok (.iaload, 1) := dGR_40_c_1201.2.2.2.1
theorem dX12_laysSpan_83 : decode cX12_laysSpan 83 = .ok (.iadd, 1) := dGR_40_c_1201.2.2.2.2.1
theorem dX12_laysSpan_84 : decode cX12_laysSpan 84 = .ok (.invokestatic 178, 3) := dGR_40_c_1201.2.2.2.2.2.1
theorem dX12_laysSpan_87 : decode cX12_laysSpan 87 = .ok (.invokevirtual 448, 3) := dGR_40_c_1201.2.2.2.2.2.2.1
theorem dX12_laysSpan_90 : decode cX12_laysSpan 90 = .ok (.ifCond .eq 5, 3) := dGR_40_c_1201.2.2.2.2.2.2.2.1
theorem dX12_laysSpan_93 : decode cX12_laysSpan 93 = .ok (.iconst 1, 1) := dGR_40_c_1201.2.2.2.2.2.2.2.2.1
theorem dX12_laysSpan_94 : decode cX12_laysSpan 94 = .ok (.istore_n 2, 1) := dGR_40_c_1201.2.2.2.2.2.2.2.2.2.1
theorem dX12_laysSpan_95 : decode cX12_laysSpan 95 = .ok (.iinc 6 1, 3) := dGR_40_c_1201.2.2.2.2.2.2.2.2.2.2.1
theorem dX12_laysSpan_98 : decode cX12_laysSpan 98 = .ok (.goto (-57), 3) := dGR_40_c_1201.2.2.2.2.2.2.2.2.2.2.2
set_option maxRecDepth 100000 in
theorem dGR_40_c_1202 : (decode cX12_laysSpan 101 = .ok (.iinc 4 1, 3)) ∧ (decode cX12_laysSpan 104 = .ok (.goto (-91), 3)) ∧ (decode cX12_laysSpan 107 = .ok (.iinc 3 1, 3)) ∧ (decode cX12_laysSpan 110 = .ok (.goto (-106), 3)) ∧ (decode cX12_laysSpan 113 = .ok (.iload_n 2, 1)) ∧ (decode cX12_laysSpan 114 = .ok (.ireturn, 1)) := by decide +kernel
theorem dX12_laysSpan_101 : decode cX12_laysSpan 101 = .ok (.iinc 4 1, 3) := dGR_40_c_1202.1
theorem dX12_laysSpan_104 : decode cX12_laysSpan 104 = .ok (.goto (-91), 3) := dGR_40_c_1202.2.1
theorem dX12_laysSpan_107 : decode cX12_laysSpan 107 = .ok (.iinc 3 1, 3) := dGR_40_c_1202.2.2.1
theorem dX12_laysSpan_110 : decode cX12_laysSpan 110 = .ok (.goto (-106), 3) := dGR_40_c_1202.2.2.2.1
theorem dX12_laysSpan_113 : decode cX12_laysSpan 113 = .ok (.iload_n 2, 1) := dGR_40_c_1202.2.2.2.2.1
theorem dX12_laysSpan_114 : decode cX12_laysSpan 114 = .ok (.ireturn, 1) := dGR_40_c_1202.2.2.2.2.2
abbrev f_c_X12_laysSpan : List (Nat × Int) := [(88, -1)]
set_option maxHeartbeats 4000000 in
set_option maxRecDepth 100000 in
theorem c_X12_laysSpan (G : KG) (l : Launch) (M : Mem) (c1 : Int) (hI_M : Inv true M) (hk_c1 : kd c1 = 88) : KC true G l yX12_laysSpan cX12_laysSpan 7 (some .boolean) (1, 23) [vR G 163, vR G c1] M (fun A => kQi true G A (fun (r : Int) (N : Mem) => Inv true N ∧ Fr f_c_X12_laysSpan M N ∧ (0 ≤ r ∧ r ≤ 1 ∧ (tot 88 24 N) + r ≤ (tot 88 24 M)))) := by
  refine kx_met (lo := [some (vR G 163), some (vR G c1), none, none, none, none, none]) (by decide) (Nat.le_of_ble_eq_true rfl) rfl ?_
  intro X F hQ
  have hF_M : Fr f_c_X12_laysSpan M M := Fr.rf _ _
  refine kx_iconst 1 F dX12_laysSpan_0 rfl ?_
  refine kx_istore_n 2 F 2 (lo' := [some (vR G 163), some (vR G c1), some (vI 0), none, none, none, none]) dX12_laysSpan_1 rfl (by decide) rfl rfl rfl ?_
  refine kx_iconst 3 F dX12_laysSpan_2 rfl ?_
  refine kx_istore_n 4 F 3 (lo' := [some (vR G 163), some (vR G c1), some (vI 0), some (vI 0), none, none, none]) dX12_laysSpan_3 rfl (by decide) rfl rfl rfl ?_
  have L_4771 : ∀ (n_4772 : Nat) (x2_4768 : Int) (x3_4769 : Int) (N_4770 : Mem), Inv true N_4770 → Fr f_c_X12_laysSpan M N_4770 → 0 ≤ x2_4768 ∧ x2_4768 ≤ 1 ∧ 0 ≤ x3_4769 ∧ x3_4769 ≤ 24 ∧ (tot 88 24 N_4770) + x2_4768 ≤ (tot 88 24 M) → (24 - (x3_4769)).toNat = n_4772 → KJ true G X N_4770 4 [some (vR G 163), some (vR G c1), some (vI x2_4768), some (vI x3_4769), none, none, none] [] := by
    intro n_4772
    refine Nat.strongRecOn n_4772 ?_
    intro n_4772 ih_4773 x2_4768 x3_4769 N_4770 hI_N_4770 hF_N_4770 h_4774 hm_4775
    refine kx_iload_n 5 F 3 dX12_laysSpan_4 rfl rfl rfl ?_
    refine kx_bipush 7 F dX12_laysSpan_5 (by decide) rfl ?_
    refine kx_icmp_ge 10 F 113 dX12_laysSpan_7 (by decide) rfl (by omega) (by decide) (fun h_4776 => ?_) (fun h_4776 => ?_)
    · refine kx_iload_n 114 F 2 dX12_laysSpan_113 rfl rfl rfl ?_
      exact kx_zret F hQ (by omega) ⟨hI_N_4770, hF_N_4770, (by omega)⟩ dX12_laysSpan_114
    · refine kx_iconst 11 F dX12_laysSpan_10 rfl ?_
      refine kx_istore 13 F 4 (lo' := [some (vR G 163), some (vR G c1), some (vI x2_4768), some (vI x3_4769), some (vI 0), none, none]) dX12_laysSpan_11 (by decide) rfl rfl rfl ?_
      have L_5368 : ∀ (n_5369 : Nat) (x2_5365 : Int) (x4_5366 : Int) (N_5367 : Mem), Inv true N_5367 → Fr f_c_X12_laysSpan M N_5367 → 0 ≤ x2_5365 ∧ x2_5365 ≤ 1 ∧ 0 ≤ x4_5366 ∧ x4_5366 ≤ 64 ∧ (tot 88 24 N_5367) + x2_5365 ≤ (tot 88 24 M) → (64 - (x4_5366)).toNat = n_5369 → KJ true G X N_5367 13 [some (vR G 163), some (vR G c1), some (vI x2_5365), some (vI x3_4769), some (vI x4_5366), none, none] [] := by
        intro n_5369
        refine Nat.strongRecOn n_5369 ?_
        intro n_5369 ih_5370 x2_5365 x4_5366 N_5367 hI_N_5367 hF_N_5367 h_5371 hm_5372
        refine kx_iload 15 F 4 dX12_laysSpan_13 rfl rfl ?_
        refine kx_aload_n 16 F 0 dX12_laysSpan_15 rfl rfl rfl ?_
        refine kx_geti 19 F fl_X12_459 kd_163 rfl rfl (j := 45) rfl dX12_laysSpan_16 (v := (M 163 45)) (by rw [Fr.e hF_N_5367 kd_163 _ rfl]) rfl ?_
        have h_5373 := Inv.g hI_M kd_163 rfl 45 (a := 0) (b := 64) rfl rfl
        refine kx_icmp_ge 22 F 107 dX12_laysSpan_19 (by decide) rfl (by omega) (by omega) (fun h_5374 => ?_) (fun h_5374 => ?_)
        · refine kx_iinc 110 F 3 (v := x3_4769 + 1) (lo' := [some (vR G 163), some (vR G c1), some (vI x2_5365), some (vI (x3_4769 + 1)), some (vI x4_5366), none, none]) dX12_laysSpan_107 rfl (by omega) (by decide) rfl rfl rfl ?_
          refine kx_goto 4 F dX12_laysSpan_110 (by decide) ?_
          refine kx_drop 4 (lo' := [some (vR G 163), some (vR G c1), some (vI x2_5365), some (vI (x3_4769 + 1)), none, none, none]) rfl ?_
          exact ih_4773 _ (by omega) x2_5365 (x3_4769 + 1) N_5367 hI_N_5367 hF_N_5367 (by omega) rfl
        · refine kx_iload_n 23 F 3 dX12_laysSpan_22 rfl rfl rfl ?_
          refine kx_bipush 25 F dX12_laysSpan_23 (by decide) rfl ?_
          refine kx_irem 26 F (v := (x3_4769 % 8)) dX12_laysSpan_25 (by omega) (by decide) rfl rfl ?_
          refine kx_aload_n 27 F 0 dX12_laysSpan_26 rfl rfl rfl ?_
          refine kx_getr 30 F fl_X12_92 kd_163 rfl rfl (j := 40) rfl dX12_laysSpan_27 (v := 187) (uq_187 (Inv.r hI_N_5367 kd_163 rfl 40 rfl rfl)) rfl ?_
          refine kx_iload 32 F 4 dX12_laysSpan_30 rfl rfl ?_
          refine kx_iald 33 F kd_187 rfl rfl (by omega) (by decide) dX12_laysSpan_32 (v := (M 187 x4_5366)) (by rw [Fr.e hF_N_5367 kd_187 _ rfl]) rfl ?_
          have h_5375 := Inv.g hI_M kd_187 rfl x4_5366 (a := 0) (b := 511) rfl rfl
          refine kx_Si 36 F (As := [vI (x3_4769 % 8), vI (M 187 x4_5366)]) (st := []) sd_X12_332 (c_X12_image G l N_5367 (x3_4769 % 8) (M 187 x4_5366) hI_N_5367 (by omega)) ⟨by decide, by decide⟩ rfl rfl (Nat.le_of_ble_eq_true rfl) dX12_laysSpan_33 rfl ?_
          intro r_5376 N_5377 q_5378
          obtain ⟨rfl, q_5378c⟩ := q_5378
          refine kx_istore 38 F 5 (lo' := [some (vR G 163), some (vR G c1), some (vI x2_5365), some (vI x3_4769), some (vI x4_5366), some (vI r_5376), none]) dX12_laysSpan_36 (by decide) rfl rfl rfl ?_
          refine kx_iconst 39 F dX12_laysSpan_38 rfl ?_
          refine kx_istore 41 F 6 (lo' := [some (vR G 163), some (vR G c1), some (vI x2_5365), some (vI x3_4769), some (vI x4_5366), some (vI r_5376), some (vI 0)]) dX12_laysSpan_39 (by decide) rfl rfl rfl ?_
          have L_5438 : ∀ (n_5439 : Nat) (x2_5435 : Int) (x6_5436 : Int) (N_5437 : Mem), Inv true N_5437 → Fr f_c_X12_laysSpan M N_5437 → 0 ≤ x2_5435 ∧ x2_5435 ≤ 1 ∧ 0 ≤ x6_5436 ∧ x6_5436 ≤ 3 ∧ (tot 88 24 N_5437) + x2_5435 ≤ (tot 88 24 M) → (3 - (x6_5436)).toNat = n_5439 → KJ true G X N_5437 41 [some (vR G 163), some (vR G c1), some (vI x2_5435), some (vI x3_4769), some (vI x4_5366), some (vI r_5376), some (vI x6_5436)] [] := by
            intro n_5439
            refine Nat.strongRecOn n_5439 ?_
            intro n_5439 ih_5440 x2_5435 x6_5436 N_5437 hI_N_5437 hF_N_5437 h_5441 hm_5442
            refine kx_iload 43 F 6 dX12_laysSpan_41 rfl rfl ?_
            refine kx_iconst 44 F dX12_laysSpan_43 rfl ?_
            refine kx_icmp_ge 47 F 101 dX12_laysSpan_44 (by decide) rfl (by omega) (by decide) (fun h_5443 => ?_) (fun h_5443 => ?_)
            · refine kx_iinc 104 F 4 (v := x4_5366 + 1) (lo' := [some (vR G 163), some (vR G c1), some (vI x2_5435), some (vI x3_4769), some (vI (x4_5366 + 1)), some (vI r_5376), some (vI x6_5436)]) dX12_laysSpan_101 rfl (by omega) (by decide) rfl rfl rfl ?_
              refine kx_goto 13 F dX12_laysSpan_104 (by decide) ?_
              refine kx_drop 5 (lo' := [some (vR G 163), some (vR G c1), some (vI x2_5435), some (vI x3_4769), some (vI (x4_5366 + 1)), none, some (vI x6_5436)]) rfl ?_
              refine kx_drop 6 (lo' := [some (vR G 163), some (vR G c1), some (vI x2_5435), some (vI x3_4769), some (vI (x4_5366 + 1)), none, none]) rfl ?_
              exact ih_5370 _ (by omega) x2_5435 (x4_5366 + 1) N_5437 hI_N_5437 hF_N_5437 (by omega) rfl
            · refine kx_aload_n 48 F 0 dX12_laysSpan_47 rfl rfl rfl ?_
              refine kx_aload_n 49 F 1 dX12_laysSpan_48 rfl rfl rfl ?_
              refine kx_bipush 51 F dX12_laysSpan_49 (by decide) rfl ?_
              refine kx_iload 53 F 6 dX12_laysSpan_51 rfl rfl ?_
              refine kx_imul 54 F (v := 8 * x6_5436) dX12_laysSpan_53 (by omega) rfl ?_
              refine kx_iload 56 F 5 dX12_laysSpan_54 rfl rfl ?_
              refine kx_iadd 57 F (v := 8 * x6_5436 + r_5376) dX12_laysSpan_56 rfl rfl ?_
              refine kx_ldcw 60 (z := 1000000) F dX12_laysSpan_57 ct_X12_428 rfl ?_
              refine kx_aload_n 61 F 1 dX12_laysSpan_60 rfl rfl rfl ?_
              refine kx_iload_n 62 F 3 dX12_laysSpan_61 rfl rfl rfl ?_
              refine kx_iald 63 F hk_c1 rfl rfl (by omega) (by decide) dX12_laysSpan_62 (v := (N_5437 c1 x3_4769)) rfl rfl ?_
              have h_5444 := Inv.g hI_N_5437 hk_c1 rfl x3_4769 (a := 0) (b := 1000000) rfl rfl
              refine kx_aload_n 64 F 0 dX12_laysSpan_63 rfl rfl rfl ?_
              refine kx_getr 67 F fl_X12_98 kd_163 rfl rfl (j := 42) rfl dX12_laysSpan_64 (v := (M 163 42)) (by rw [Fr.e hF_N_5437 kd_163 _ rfl]) rfl ?_
              have hk_5445 : kd (M 163 42) = 87 := Inv.r hI_M kd_163 rfl 42 rfl rfl
              refine kx_bipush 69 F dX12_laysSpan_67 (by decide) rfl ?_
              refine kx_iconst 70 F dX12_laysSpan_69 rfl ?_
              refine kx_iload_n 71 F 3 dX12_laysSpan_70 rfl rfl rfl ?_
              refine kx_bipush 73 F dX12_laysSpan_71 (by decide) rfl ?_
              refine kx_idiv 74 F (v := (x3_4769 / 8)) dX12_laysSpan_73 (by omega) (by decide) rfl rfl ?_
              refine kx_imul 75 F (v := 3 * (x3_4769 / 8)) dX12_laysSpan_74 (by omega) rfl ?_
              refine kx_iload 77 F 6 dX12_laysSpan_75 rfl rfl ?_
              refine kx_iadd 78 F (v := 3 * (x3_4769 / 8) + x6_5436) dX12_laysSpan_77 rfl rfl ?_
              refine kx_imul 79 F (v := 192 * (x3_4769 / 8) + 64 * x6_5436) dX12_laysSpan_78 (by omega) rfl ?_
              refine kx_iload 81 F 4 dX12_laysSpan_79 rfl rfl ?_
              refine kx_iadd 82 F (v := 192 * (x3_4769 / 8) + 64 * x6_5436 + x4_5366) dX12_laysSpan_81 rfl rfl ?_
              refine kx_iald 83 F hk_5445 rfl rfl (by omega) (by decide) dX12_laysSpan_82 (v := (M (M 163 42) (192 * (x3_4769 / 8) + 64 * x6_5436 + x4_5366))) (by rw [Fr.e hF_N_5437 hk_5445 _ rfl]) rfl ?_
              have h_5446 := Inv.g hI_M hk_5445 rfl (192 * (x3_4769 / 8) + 64 * x6_5436 + x4_5366) (a := 0) (b := 1000000) rfl rfl
              refine kx_iadd 84 F (v := (N_5437 c1 x3_4769) + (M (M 163 42) (192 * (x3_4769 / 8) + 64 * x6_5436 + x4_5366))) dX12_laysSpan_83 rfl rfl ?_
              refine kx_mmin 87 F dX12_laysSpan_84 (tt lm_1833 rfl) (tt lm_800 rfl) (tt lm_180 rfl) (tt lm_801 rfl) (by decide) (Nat.le_of_ble_eq_true rfl) (by omega) (by omega) rfl (fun w_5447 h_5448 => ?_)
              refine kx_Vi 90 (ci := 0) F (As := [vR G c1, vI (8 * x6_5436 + r_5376), vI w_5447]) (st := []) vd_X12_448 (c_lowT24 G l N_5437 c1 (8 * x6_5436 + r_5376) w_5447 hI_N_5437 hk_c1 (by omega)) kd_163 rfl rfl rfl ⟨by decide, by decide⟩ rfl rfl (Nat.le_of_ble_eq_true rfl) dX12_laysSpan_87 rfl ?_
              intro r_5449 N_5450 q_5451
              obtain ⟨hI_N_5450, hG_N_5450, q_5451c⟩ := q_5451
              have hF_N_5450 : Fr f_c_X12_laysSpan M N_5450 := Fr.c hF_N_5437 hG_N_5450 rfl
              rcases q_5451c with q_5451c | q_5451c
              · refine kx_if_eq 93 F 95 dX12_laysSpan_90 (by decide) rfl (by omega) (fun h_5452 => (by exfalso; omega)) (fun h_5452 => ?_)
                refine kx_iconst 94 F dX12_laysSpan_93 rfl ?_
                refine kx_istore_n 95 F 2 (lo' := [some (vR G 163), some (vR G c1), some (vI 1), some (vI x3_4769), some (vI x4_5366), some (vI r_5376), some (vI x6_5436)]) dX12_laysSpan_94 rfl (by decide) rfl rfl rfl ?_
                refine kx_iinc 98 F 6 (v := x6_5436 + 1) (lo' := [some (vR G 163), some (vR G c1), some (vI 1), some (vI x3_4769), some (vI x4_5366), some (vI r_5376), some (vI (x6_5436 + 1))]) dX12_laysSpan_95 rfl (by omega) (by decide) rfl rfl rfl ?_
                refine kx_goto 41 F dX12_laysSpan_98 (by decide) ?_
                exact ih_5440 _ (by omega) 1 (x6_5436 + 1) N_5450 hI_N_5450 hF_N_5450 (by omega) rfl
              · refine kx_if_eq 93 F 95 dX12_laysSpan_90 (by decide) rfl (by omega) (fun h_5453 => ?_) (fun h_5453 => (by exfalso; omega))
                refine kx_iinc 98 F 6 (v := x6_5436 + 1) (lo' := [some (vR G 163), some (vR G c1), some (vI x2_5435), some (vI x3_4769), some (vI x4_5366), some (vI r_5376), some (vI (x6_5436 + 1))]) dX12_laysSpan_95 rfl (by omega) (by decide) rfl rfl rfl ?_
                refine kx_goto 41 F dX12_laysSpan_98 (by decide) ?_
                exact ih_5440 _ (by omega) x2_5435 (x6_5436 + 1) N_5450 hI_N_5450 hF_N_5450 (by omega) rfl
          exact L_5438 _ x2_5365 0 N_5367 hI_N_5367 hF_N_5367 (by omega) rfl
      exact L_5368 _ x2_4768 0 N_4770 hI_N_4770 hF_N_4770 (by omega) rfl
  exact L_4771 _ 0 0 M hI_M hF_M (by omega) rfl
set_option maxRecDepth 100000 in
theorem dGR_40_c_1203 : (decode cX12_partingOf 0 = .ok (.aload_n 0, 1)) ∧ (decode cX12_partingOf 1 = .ok (.getfield 7, 3)) ∧ (decode cX12_partingOf 4 = .ok (.iconst 0, 1)) ∧ (decode cX12_partingOf 5 = .ok (.iaload, 1)) ∧ (decode cX12_partingOf 6 = .ok (.istore_n 3, 1)) ∧ (decode cX12_partingOf 7 = .ok (.aload_n 0, 1)) ∧ (decode cX12_partingOf 8 = .ok (.getfield 7, 3)) ∧ (decode cX12_partingOf 11 = .ok (.iconst 0, 1)) ∧ (decode cX12_partingOf 12 = .ok (.iaload, 1)) ∧ (decode cX12_partingOf 13 = .ok (.aload_n 0, 1)) ∧ (decode cX12_partingOf 14 = .ok (.getfield 7, 3)) ∧ (decode cX12_partingOf 17 = .ok (.iconst 1, 1)) := by decide +kernel
theorem dX12_partingOf_0 : decode cX12_partingOf 0 = .ok (.aload_n 0, 1) := dGR_40_c_1203.1
theorem dX12_partingOf_1 : decode cX12_partingOf 1 = .ok (.getfield 7, 3) := dGR_40_c_1203.2.1
theorem dX12_partingOf_4 : decode cX12_partingOf 4 = .ok (.iconst 0, 1) := dGR_40_c_1203.2.2.1
theorem dX12_partingOf_5 : decode cX12_partingOf 5 = .ok (.iaload, 1) := dGR_40_c_1203.2.2.2.1
theorem dX12_partingOf_6 : decode cX12_partingOf 6 = .ok (.istore_n 3, 1) := dGR_40_c_1203.2.2.2.2.1
theorem dX12_partingOf_7 : decode cX12_partingOf 7 = .ok (.aload_n 0, 1) := dGR_40_c_1203.2.2.2.2.2.1
theorem dX12_partingOf_8 : decode cX12_partingOf 8 = .ok (.getfield 7, 3) := dGR_40_c_1203.2.2.2.2.2.2.1
theorem dX12_partingOf_11 : decode cX12_partingOf 11 = .ok (.iconst 0, 1) := dGR_40_c_1203.2.2.2.2.2.2.2.1
theorem dX12_partingOf_12 : decode cX12_partingOf 12 = .ok (.iaload, 1) := dGR_40_c_1203.2.2.2.2.2.2.2.2.1
theorem dX12_partingOf_13 : decode cX12_partingOf 13 = .ok (.aload_n 0, 1) := dGR_40_c_1203.2.2.2.2.2.2.2.2.2.1
theorem dX12_partingOf_14 : decode cX12_partingOf 14 = .ok (.getfield 7, 3) := dGR_40_c_1203.2.2.2.2.2.2.2.2.2.2.1
theorem dX12_partingOf_17 : decode cX12_partingOf 17 = .ok (.iconst 1, 1) := dGR_40_c_1203.2.2.2.2.2.2.2.2.2.2.2
set_option maxRecDepth 100000 in
theorem dGR_40_c_1204 : (decode cX12_partingOf 18 = .ok (.iaload, 1)) ∧ (decode cX12_partingOf 19 = .ok (.iadd, 1)) ∧ (decode cX12_partingOf 20 = .ok (.istore 4, 2)) ∧ (decode cX12_partingOf 22 = .ok (.aload_n 0, 1)) ∧ (decode cX12_partingOf 23 = .ok (.invokevirtual 342, 3)) ∧ (decode cX12_partingOf 26 = .ok (.aload_n 0, 1)) ∧ (decode cX12_partingOf 27 = .ok (.iload_n 1, 1)) ∧ (decode cX12_partingOf 28 = .ok (.iload_n 2, 1)) ∧ (decode cX12_partingOf 29 = .ok (.invokevirtual 474, 3)) ∧ (decode cX12_partingOf 32 = .ok (.iconst 0, 1)) ∧ (decode cX12_partingOf 33 = .ok (.istore 5, 2)) ∧ (decode cX12_partingOf 35 = .ok (.iload 5, 2)) := by decide +kernel
theorem dX12_partingOf_18 : decode cX12_partingOf 18 = .ok (.iaload, 1) := dGR_40_c_1204.1
theorem dX12_partingOf_19 : decode cX12_partingOf 19 = .ok (.iadd, 1) := dGR_40_c_1204.2.1
theorem dX12_partingOf_20 : decode cX12_partingOf 20 = .ok (.istore 4, 2) := dGR_40_c_1204.2.2.1
theorem dX12_partingOf_22 : decode cX12_partingOf 22 = .ok (.aload_n 0, 1) := dGR_40_c_1204.2.2.2.1
theorem dX12_partingOf_23 : decode cX12_partingOf 23 = .ok (.invokevirtual 342, 3) := dGR_40_c_1204.2.2.2.2.1
theorem dX12_partingOf_26 : decode cX12_partingOf 26 = .ok (.aload_n 0, 1) := dGR_40_c_1204.2.2.2.2.2.1
theorem dX12_partingOf_27 : decode cX12_partingOf 27 = .ok (.iload_n 1, 1) := dGR_40_c_1204.2.2.2.2.2.2.1
theorem dX12_partingOf_28 : decode cX12_partingOf 28 = .ok (.iload_n 2, 1) := dGR_40_c_1204.2.2.2.2.2.2.2.1
theorem dX12_partingOf_29 : decode cX12_partingOf 29 = .ok (.invokevirtual 474, 3) := dGR_40_c_1204.2.2.2.2.2.2.2.2.1
theorem dX12_partingOf_32 : decode cX12_partingOf 32 = .ok (.iconst 0, 1) := dGR_40_c_1204.2.2.2.2.2.2.2.2.2.1
theorem dX12_partingOf_33 : decode cX12_partingOf 33 = .ok (.istore 5, 2) := dGR_40_c_1204.2.2.2.2.2.2.2.2.2.2.1
theorem dX12_partingOf_35 : decode cX12_partingOf 35 = .ok (.iload 5, 2) := dGR_40_c_1204.2.2.2.2.2.2.2.2.2.2.2
set_option maxRecDepth 100000 in
theorem dGR_40_c_1205 : (decode cX12_partingOf 37 = .ok (.bipush 24, 2)) ∧ (decode cX12_partingOf 39 = .ok (.if_icmp .ge 65, 3)) ∧ (decode cX12_partingOf 42 = .ok (.aload_n 0, 1)) ∧ (decode cX12_partingOf 43 = .ok (.getfield 101, 3)) ∧ (decode cX12_partingOf 46 = .ok (.iload 5, 2)) ∧ (decode cX12_partingOf 48 = .ok (.aload_n 0, 1)) ∧ (decode cX12_partingOf 49 = .ok (.aload_n 0, 1)) ∧ (decode cX12_partingOf 50 = .ok (.iload_n 1, 1)) ∧ (decode cX12_partingOf 51 = .ok (.iconst 2, 1)) ∧ (decode cX12_partingOf 52 = .ok (.invokevirtual 288, 3)) ∧ (decode cX12_partingOf 55 = .ok (.iload 5, 2)) ∧ (decode cX12_partingOf 57 = .ok (.bipush 8, 2)) := by decide +kernel
theorem dX12_partingOf_37 : decode cX12_partingOf 37 = .ok (.bipush 24, 2) := dGR_40_c_1205.1
theorem dX12_partingOf_39 : decode cX12_partingOf 39 = .ok (.if_icmp .ge 65, 3) := dGR_40_c_1205.2.1
theorem dX12_partingOf_42 : decode cX12_partingOf 42 = .ok (.aload_n 0, 1) := dGR_40_c_1205.2.2.1
theorem dX12_partingOf_43 : decode cX12_partingOf 43 = .ok (.getfield 101, 3) := dGR_40_c_1205.2.2.2.1
theorem dX12_partingOf_46 : decode cX12_partingOf 46 = .ok (.iload 5, 2) := dGR_40_c_1205.2.2.2.2.1
theorem dX12_partingOf_48 : decode cX12_partingOf 48 = .ok (.aload_n 0, 1) := dGR_40_c_1205.2.2.2.2.2.1
theorem dX12_partingOf_49 : decode cX12_partingOf 49 = .ok (.aload_n 0, 1) := dGR_40_c_1205.2.2.2.2.2.2.1
theorem dX12_partingOf_50 : decode cX12_partingOf 50 = .ok (.iload_n 1, 1) := dGR_40_c_1205.2.2.2.2.2.2.2.1
theorem dX12_partingOf_51 : decode cX12_partingOf 51 = .ok (.iconst 2, 1) := dGR_40_c_1205.2.2.2.2.2.2.2.2.1
theorem dX12_partingOf_52 : decode cX12_partingOf 52 = .ok (.invokevirtual 288, 3) := dGR_40_c_1205.2.2.2.2.2.2.2.2.2.1
theorem dX12_partingOf_55 : decode cX12_partingOf 55 = .ok (.iload 5, 2) := dGR_40_c_1205.2.2.2.2.2.2.2.2.2.2.1
theorem dX12_partingOf_57 : decode cX12_partingOf 57 = .ok (.bipush 8, 2) := dGR_40_c_1205.2.2.2.2.2.2.2.2.2.2.2
set_option maxRecDepth 100000 in
theorem dGR_40_c_1206 : (decode cX12_partingOf 59 = .ok (.idiv, 1)) ∧ (decode cX12_partingOf 60 = .ok (.invokevirtual 239, 3)) ∧ (decode cX12_partingOf 63 = .ok (.ifCond .eq 21, 3)) ∧ (decode cX12_partingOf 66 = .ok (.iload 5, 2)) ∧ (decode cX12_partingOf 68 = .ok (.bipush 8, 2)) ∧ (decode cX12_partingOf 70 = .ok (.irem, 1)) ∧ (decode cX12_partingOf 71 = .ok (.aload_n 0, 1)) ∧ (decode cX12_partingOf 72 = .ok (.iload_n 2, 1)) ∧ (decode cX12_partingOf 73 = .ok (.iconst 2, 1)) ∧ (decode cX12_partingOf 74 = .ok (.invokevirtual 288, 3)) ∧ (decode cX12_partingOf 77 = .ok (.if_icmp .ne 7, 3)) ∧ (decode cX12_partingOf 80 = .ok (.iconst 0, 1)) := by decide +kernel
theorem dX12_partingOf_59 : decode cX12_partingOf 59 = .ok (.idiv, 1) := dGR_40_c_1206.1
theorem dX12_partingOf_60 : decode cX12_partingOf 60 = .ok (.invokevirtual 239, 3) := dGR_40_c_1206.2.1
theorem dX12_partingOf_63 : decode cX12_partingOf 63 = .ok (.ifCond .eq 21, 3) := dGR_40_c_1206.2.2.1
theorem dX12_partingOf_66 : decode cX12_partingOf 66 = .ok (.iload 5, 2) := dGR_40_c_1206.2.2.2.1
theorem dX12_partingOf_68 : decode cX12_partingOf 68 = .ok (.bipush 8, 2) := dGR_40_c_1206.2.2.2.2.1
theorem dX12_partingOf_70 : decode cX12_partingOf 70 = .ok (.irem, 1) := dGR_40_c_1206.2.2.2.2.2.1
theorem dX12_partingOf_71 : decode cX12_partingOf 71 = .ok (.aload_n 0, 1) := dGR_40_c_1206.2.2.2.2.2.2.1
theorem dX12_partingOf_72 : decode cX12_partingOf 72 = .ok (.iload_n 2, 1) := dGR_40_c_1206.2.2.2.2.2.2.2.1
theorem dX12_partingOf_73 : decode cX12_partingOf 73 = .ok (.iconst 2, 1) := dGR_40_c_1206.2.2.2.2.2.2.2.2.1
theorem dX12_partingOf_74 : decode cX12_partingOf 74 = .ok (.invokevirtual 288, 3) := dGR_40_c_1206.2.2.2.2.2.2.2.2.2.1
theorem dX12_partingOf_77 : decode cX12_partingOf 77 = .ok (.if_icmp .ne 7, 3) := dGR_40_c_1206.2.2.2.2.2.2.2.2.2.2.1
theorem dX12_partingOf_80 : decode cX12_partingOf 80 = .ok (.iconst 0, 1) := dGR_40_c_1206.2.2.2.2.2.2.2.2.2.2.2
set_option maxRecDepth 100000 in
theorem dGR_40_c_1207 : (decode cX12_partingOf 81 = .ok (.goto 6, 3)) ∧ (decode cX12_partingOf 84 = .ok (.ldc_w 428, 3)) ∧ (decode cX12_partingOf 87 = .ok (.iastore, 1)) ∧ (decode cX12_partingOf 88 = .ok (.aload_n 0, 1)) ∧ (decode cX12_partingOf 89 = .ok (.getfield 104, 3)) ∧ (decode cX12_partingOf 92 = .ok (.iload 5, 2)) ∧ (decode cX12_partingOf 94 = .ok (.ldc_w 428, 3)) ∧ (decode cX12_partingOf 97 = .ok (.iastore, 1)) ∧ (decode cX12_partingOf 98 = .ok (.iinc 5 1, 3)) ∧ (decode cX12_partingOf 101 = .ok (.goto (-66), 3)) ∧ (decode cX12_partingOf 104 = .ok (.iconst 1, 1)) ∧ (decode cX12_partingOf 105 = .ok (.istore 5, 2)) := by decide +kernel
theorem dX12_partingOf_81 : decode cX12_partingOf 81 = .ok (.goto 6, 3) := dGR_40_c_1207.1
theorem dX12_partingOf_84 : decode cX12_partingOf 84 = .ok (.ldc_w 428, 3) := dGR_40_c_1207.2.1
theorem dX12_partingOf_87 : decode cX12_partingOf 87 = .ok (.iastore, 1) := dGR_40_c_1207.2.2.1
theorem dX12_partingOf_88 : decode cX12_partingOf 88 = .ok (.aload_n 0, 1) := dGR_40_c_1207.2.2.2.1
theorem dX12_partingOf_89 : decode cX12_partingOf 89 = .ok (.getfield 104, 3) := dGR_40_c_1207.2.2.2.2.1
theorem dX12_partingOf_92 : decode cX12_partingOf 92 = .ok (.iload 5, 2) := dGR_40_c_1207.2.2.2.2.2.1
theorem dX12_partingOf_94 : decode cX12_partingOf 94 = .ok (.ldc_w 428, 3) := dGR_40_c_1207.2.2.2.2.2.2.1
theorem dX12_partingOf_97 : decode cX12_partingOf 97 = .ok (.iastore, 1) := dGR_40_c_1207.2.2.2.2.2.2.2.1
theorem dX12_partingOf_98 : decode cX12_partingOf 98 = .ok (.iinc 5 1, 3) := dGR_40_c_1207.2.2.2.2.2.2.2.2.1
theorem dX12_partingOf_101 : decode cX12_partingOf 101 = .ok (.goto (-66), 3) := dGR_40_c_1207.2.2.2.2.2.2.2.2.2.1
theorem dX12_partingOf_104 : decode cX12_partingOf 104 = .ok (.iconst 1, 1) := dGR_40_c_1207.2.2.2.2.2.2.2.2.2.2.1
theorem dX12_partingOf_105 : decode cX12_partingOf 105 = .ok (.istore 5, 2) := dGR_40_c_1207.2.2.2.2.2.2.2.2.2.2.2
set_option maxRecDepth 100000 in
theorem dGR_40_c_1208 : (decode cX12_partingOf 107 = .ok (.iload 5, 2)) ∧ (decode cX12_partingOf 109 = .ok (.ifCond .eq 133, 3)) ∧ (decode cX12_partingOf 112 = .ok (.aload_n 0, 1)) ∧ (decode cX12_partingOf 113 = .ok (.iload_n 1, 1)) ∧ (decode cX12_partingOf 114 = .ok (.iload_n 2, 1)) ∧ (decode cX12_partingOf 115 = .ok (.aload_n 0, 1)) ∧ (decode cX12_partingOf 116 = .ok (.getfield 101, 3)) ∧ (decode cX12_partingOf 119 = .ok (.aload_n 0, 1)) ∧ (decode cX12_partingOf 120 = .ok (.getfield 101, 3)) ∧ (decode cX12_partingOf 123 = .ok (.iload_n 3, 1)) ∧ (decode cX12_partingOf 124 = .ok (.aload_n 0, 1)) ∧ (decode cX12_partingOf 125 = .ok (.invokevirtual 285, 3)) := by decide +kernel
theorem dX12_partingOf_107 : decode cX12_partingOf 107 = .ok (.iload 5, 2) := dGR_40_c_1208.1
theorem dX12_partingOf_109 : decode cX12_partingOf 109 = .ok (.ifCond .eq 133, 3) := dGR_40_c_1208.2.1
theorem dX12_partingOf_112 : decode cX12_partingOf 112 = .ok (.aload_n 0, 1) := dGR_40_c_1208.2.2.1
theorem dX12_partingOf_113 : decode cX12_partingOf 113 = .ok (.iload_n 1, 1) := dGR_40_c_1208.2.2.2.1
theorem dX12_partingOf_114 : decode cX12_partingOf 114 = .ok (.iload_n 2, 1) := dGR_40_c_1208.2.2.2.2.1
theorem dX12_partingOf_115 : decode cX12_partingOf 115 = .ok (.aload_n 0, 1) := dGR_40_c_1208.2.2.2.2.2.1
theorem dX12_partingOf_116 : decode cX12_partingOf 116 = .ok (.getfield 101, 3) := dGR_40_c_1208.2.2.2.2.2.2.1
theorem dX12_partingOf_119 : decode cX12_partingOf 119 = .ok (.aload_n 0, 1) := dGR_40_c_1208.2.2.2.2.2.2.2.1
theorem dX12_partingOf_120 : decode cX12_partingOf 120 = .ok (.getfield 101, 3) := dGR_40_c_1208.2.2.2.2.2.2.2.2.1
theorem dX12_partingOf_123 : decode cX12_partingOf 123 = .ok (.iload_n 3, 1) := dGR_40_c_1208.2.2.2.2.2.2.2.2.2.1
theorem dX12_partingOf_124 : decode cX12_partingOf 124 = .ok (.aload_n 0, 1) := dGR_40_c_1208.2.2.2.2.2.2.2.2.2.2.1
theorem dX12_partingOf_125 : decode cX12_partingOf 125 = .ok (.invokevirtual 285, 3) := dGR_40_c_1208.2.2.2.2.2.2.2.2.2.2.2
set_option maxRecDepth 100000 in
theorem dGR_40_c_1209 : (decode cX12_partingOf 128 = .ok (.bipush 8, 2)) ∧ (decode cX12_partingOf 130 = .ok (.invokevirtual 477, 3)) ∧ (decode cX12_partingOf 133 = .ok (.istore 5, 2)) ∧ (decode cX12_partingOf 135 = .ok (.aload_n 0, 1)) ∧ (decode cX12_partingOf 136 = .ok (.aload_n 0, 1)) ∧ (decode cX12_partingOf 137 = .ok (.getfield 101, 3)) ∧ (decode cX12_partingOf 140 = .ok (.invokevirtual 481, 3)) ∧ (decode cX12_partingOf 143 = .ok (.ifCond .eq 6, 3)) ∧ (decode cX12_partingOf 146 = .ok (.iconst 1, 1)) ∧ (decode cX12_partingOf 147 = .ok (.istore 5, 2)) ∧ (decode cX12_partingOf 149 = .ok (.aload_n 0, 1)) ∧ (decode cX12_partingOf 150 = .ok (.iload_n 1, 1)) := by decide +kernel
theorem dX12_partingOf_128 : decode cX12_partingOf 128 = .ok (.bipush 8, 2) := dGR_40_c_1209.1
theorem dX12_partingOf_130 : decode cX12_partingOf 130 = .ok (.invokevirtual 477, 3) := dGR_40_c_1209.2.1
theorem dX12_partingOf_133 : decode cX12_partingOf 133 = .ok (.istore 5, 2) := dGR_40_c_1209.2.2.1
theorem dX12_partingOf_135 : decode cX12_partingOf 135 = .ok (.aload_n 0, 1) := dGR_40_c_1209.2.2.2.1
theorem dX12_partingOf_136 : decode cX12_partingOf 136 = .ok (.aload_n 0, 1) := dGR_40_c_1209.2.2.2.2.1
theorem dX12_partingOf_137 : decode cX12_partingOf 137 = .ok (.getfield 101, 3) := dGR_40_c_1209.2.2.2.2.2.1
theorem dX12_partingOf_140 : decode cX12_partingOf 140 = .ok (.invokevirtual 481, 3) := dGR_40_c_1209.2.2.2.2.2.2.1
theorem dX12_partingOf_143 : decode cX12_partingOf 143 = .ok (.ifCond .eq 6, 3) := dGR_40_c_1209.2.2.2.2.2.2.2.1
theorem dX12_partingOf_146 : decode cX12_partingOf 146 = .ok (.iconst 1, 1) := dGR_40_c_1209.2.2.2.2.2.2.2.2.1
theorem dX12_partingOf_147 : decode cX12_partingOf 147 = .ok (.istore 5, 2) := dGR_40_c_1209.2.2.2.2.2.2.2.2.2.1
theorem dX12_partingOf_149 : decode cX12_partingOf 149 = .ok (.aload_n 0, 1) := dGR_40_c_1209.2.2.2.2.2.2.2.2.2.2.1
theorem dX12_partingOf_150 : decode cX12_partingOf 150 = .ok (.iload_n 1, 1) := dGR_40_c_1209.2.2.2.2.2.2.2.2.2.2.2
set_option maxRecDepth 100000 in
theorem dGR_40_c_1210 : (decode cX12_partingOf 151 = .ok (.iload_n 2, 1)) ∧ (decode cX12_partingOf 152 = .ok (.aload_n 0, 1)) ∧ (decode cX12_partingOf 153 = .ok (.getfield 101, 3)) ∧ (decode cX12_partingOf 156 = .ok (.aload_n 0, 1)) ∧ (decode cX12_partingOf 157 = .ok (.getfield 104, 3)) ∧ (decode cX12_partingOf 160 = .ok (.iconst 0, 1)) ∧ (decode cX12_partingOf 161 = .ok (.iload_n 3, 1)) ∧ (decode cX12_partingOf 162 = .ok (.bipush 7, 2)) ∧ (decode cX12_partingOf 164 = .ok (.invokevirtual 477, 3)) ∧ (decode cX12_partingOf 167 = .ok (.ifCond .eq 6, 3)) ∧ (decode cX12_partingOf 170 = .ok (.iconst 1, 1)) ∧ (decode cX12_partingOf 171 = .ok (.istore 5, 2)) := by decide +kernel
theorem dX12_partingOf_151 : decode cX12_partingOf 151 = .ok (.iload_n 2, 1) := dGR_40_c_1210.1
theorem dX12_partingOf_152 : decode cX12_partingOf 152 = .ok (.aload_n 0, 1) := dGR_40_c_1210.2.1
theorem dX12_partingOf_153 : decode cX12_partingOf 153 = .ok (.getfield 101, 3) := dGR_40_c_1210.2.2.1
theorem dX12_partingOf_156 : decode cX12_partingOf 156 = .ok (.aload_n 0, 1) := dGR_40_c_1210.2.2.2.1
theorem dX12_partingOf_157 : decode cX12_partingOf 157 = .ok (.getfield 104, 3) := dGR_40_c_1210.2.2.2.2.1
theorem dX12_partingOf_160 : decode cX12_partingOf 160 = .ok (.iconst 0, 1) := dGR_40_c_1210.2.2.2.2.2.1
theorem dX12_partingOf_161 : decode cX12_partingOf 161 = .ok (.iload_n 3, 1) := dGR_40_c_1210.2.2.2.2.2.2.1
theorem dX12_partingOf_162 : decode cX12_partingOf 162 = .ok (.bipush 7, 2) := dGR_40_c_1210.2.2.2.2.2.2.2.1
theorem dX12_partingOf_164 : decode cX12_partingOf 164 = .ok (.invokevirtual 477, 3) := dGR_40_c_1210.2.2.2.2.2.2.2.2.1
theorem dX12_partingOf_167 : decode cX12_partingOf 167 = .ok (.ifCond .eq 6, 3) := dGR_40_c_1210.2.2.2.2.2.2.2.2.2.1
theorem dX12_partingOf_170 : decode cX12_partingOf 170 = .ok (.iconst 1, 1) := dGR_40_c_1210.2.2.2.2.2.2.2.2.2.2.1
theorem dX12_partingOf_171 : decode cX12_partingOf 171 = .ok (.istore 5, 2) := dGR_40_c_1210.2.2.2.2.2.2.2.2.2.2.2
set_option maxRecDepth 100000 in
theorem dGR_40_c_1211 : (decode cX12_partingOf 173 = .ok (.aload_n 0, 1)) ∧ (decode cX12_partingOf 174 = .ok (.iload_n 1, 1)) ∧ (decode cX12_partingOf 175 = .ok (.iload_n 2, 1)) ∧ (decode cX12_partingOf 176 = .ok (.aload_n 0, 1)) ∧ (decode cX12_partingOf 177 = .ok (.getfield 104, 3)) ∧ (decode cX12_partingOf 180 = .ok (.aload_n 0, 1)) ∧ (decode cX12_partingOf 181 = .ok (.getfield 104, 3)) ∧ (decode cX12_partingOf 184 = .ok (.iconst 0, 1)) ∧ (decode cX12_partingOf 185 = .ok (.iload_n 3, 1)) ∧ (decode cX12_partingOf 186 = .ok (.bipush 7, 2)) ∧ (decode cX12_partingOf 188 = .ok (.invokevirtual 477, 3)) ∧ (decode cX12_partingOf 191 = .ok (.ifCond .eq 6, 3)) := by decide +kernel
theorem dX12_partingOf_173 : decode cX12_partingOf 173 = .ok (.aload_n 0, 1) := dGR_40_c_1211.1
theorem dX12_partingOf_174 : decode cX12_partingOf 174 = .ok (.iload_n 1, 1) := dGR_40_c_1211.2.1
theorem dX12_partingOf_175 : decode cX12_partingOf 175 = .ok (.iload_n 2, 1) := dGR_40_c_1211.2.2.1
theorem dX12_partingOf_176 : decode cX12_partingOf 176 = .ok (.aload_n 0, 1) := dGR_40_c_1211.2.2.2.1
theorem dX12_partingOf_177 : decode cX12_partingOf 177 = .ok (.getfield 104, 3) := dGR_40_c_1211.2.2.2.2.1
theorem dX12_partingOf_180 : decode cX12_partingOf 180 = .ok (.aload_n 0, 1) := dGR_40_c_1211.2.2.2.2.2.1
theorem dX12_partingOf_181 : decode cX12_partingOf 181 = .ok (.getfield 104, 3) := dGR_40_c_1211.2.2.2.2.2.2.1
theorem dX12_partingOf_184 : decode cX12_partingOf 184 = .ok (.iconst 0, 1) := dGR_40_c_1211.2.2.2.2.2.2.2.1
theorem dX12_partingOf_185 : decode cX12_partingOf 185 = .ok (.iload_n 3, 1) := dGR_40_c_1211.2.2.2.2.2.2.2.2.1
theorem dX12_partingOf_186 : decode cX12_partingOf 186 = .ok (.bipush 7, 2) := dGR_40_c_1211.2.2.2.2.2.2.2.2.2.1
theorem dX12_partingOf_188 : decode cX12_partingOf 188 = .ok (.invokevirtual 477, 3) := dGR_40_c_1211.2.2.2.2.2.2.2.2.2.2.1
theorem dX12_partingOf_191 : decode cX12_partingOf 191 = .ok (.ifCond .eq 6, 3) := dGR_40_c_1211.2.2.2.2.2.2.2.2.2.2.2
set_option maxRecDepth 100000 in
theorem dGR_40_c_1212 : (decode cX12_partingOf 194 = .ok (.iconst 1, 1)) ∧ (decode cX12_partingOf 195 = .ok (.istore 5, 2)) ∧ (decode cX12_partingOf 197 = .ok (.aload_n 0, 1)) ∧ (decode cX12_partingOf 198 = .ok (.iload_n 1, 1)) ∧ (decode cX12_partingOf 199 = .ok (.iload_n 2, 1)) ∧ (decode cX12_partingOf 200 = .ok (.aload_n 0, 1)) ∧ (decode cX12_partingOf 201 = .ok (.getfield 104, 3)) ∧ (decode cX12_partingOf 204 = .ok (.aload_n 0, 1)) ∧ (decode cX12_partingOf 205 = .ok (.getfield 104, 3)) ∧ (decode cX12_partingOf 208 = .ok (.iload 4, 2)) ∧ (decode cX12_partingOf 210 = .ok (.aload_n 0, 1)) ∧ (decode cX12_partingOf 211 = .ok (.invokevirtual 285, 3)) := by decide +kernel
theorem dX12_partingOf_194 : decode cX12_partingOf 194 = .ok (.iconst 1, 1) := dGR_40_c_1212.1
theorem dX12_partingOf_195 : decode cX12_partingOf 195 = .ok (.istore 5, 2) := dGR_40_c_1212.2.1
theorem dX12_partingOf_197 : decode cX12_partingOf 197 = .ok (.aload_n 0, 1) := dGR_40_c_1212.2.2.1
theorem dX12_partingOf_198 : decode cX12_partingOf 198 = .ok (.iload_n 1, 1) := dGR_40_c_1212.2.2.2.1
theorem dX12_partingOf_199 : decode cX12_partingOf 199 = .ok (.iload_n 2, 1) := dGR_40_c_1212.2.2.2.2.1
theorem dX12_partingOf_200 : decode cX12_partingOf 200 = .ok (.aload_n 0, 1) := dGR_40_c_1212.2.2.2.2.2.1
theorem dX12_partingOf_201 : decode cX12_partingOf 201 = .ok (.getfield 104, 3) := dGR_40_c_1212.2.2.2.2.2.2.1
theorem dX12_partingOf_204 : decode cX12_partingOf 204 = .ok (.aload_n 0, 1) := dGR_40_c_1212.2.2.2.2.2.2.2.1
theorem dX12_partingOf_205 : decode cX12_partingOf 205 = .ok (.getfield 104, 3) := dGR_40_c_1212.2.2.2.2.2.2.2.2.1
theorem dX12_partingOf_208 : decode cX12_partingOf 208 = .ok (.iload 4, 2) := dGR_40_c_1212.2.2.2.2.2.2.2.2.2.1
theorem dX12_partingOf_210 : decode cX12_partingOf 210 = .ok (.aload_n 0, 1) := dGR_40_c_1212.2.2.2.2.2.2.2.2.2.2.1
theorem dX12_partingOf_211 : decode cX12_partingOf 211 = .ok (.invokevirtual 285, 3) := dGR_40_c_1212.2.2.2.2.2.2.2.2.2.2.2
set_option maxRecDepth 100000 in
theorem dGR_40_c_1213 : (decode cX12_partingOf 214 = .ok (.bipush 8, 2)) ∧ (decode cX12_partingOf 216 = .ok (.invokevirtual 477, 3)) ∧ (decode cX12_partingOf 219 = .ok (.ifCond .eq 6, 3)) ∧ (decode cX12_partingOf 222 = .ok (.iconst 1, 1)) ∧ (decode cX12_partingOf 223 = .ok (.istore 5, 2)) ∧ (decode cX12_partingOf 225 = .ok (.aload_n 0, 1)) ∧ (decode cX12_partingOf 226 = .ok (.aload_n 0, 1)) ∧ (decode cX12_partingOf 227 = .ok (.getfield 104, 3)) ∧ (decode cX12_partingOf 230 = .ok (.invokevirtual 481, 3)) ∧ (decode cX12_partingOf 233 = .ok (.ifCond .eq (-126), 3)) ∧ (decode cX12_partingOf 236 = .ok (.iconst 1, 1)) ∧ (decode cX12_partingOf 237 = .ok (.istore 5, 2)) := by decide +kernel
theorem dX12_partingOf_214 : decode cX12_partingOf 214 = .ok (.bipush 8, 2) := dGR_40_c_1213.1
theorem dX12_partingOf_216 : decode cX12_partingOf 216 = .ok (.invokevirtual 477, 3) := dGR_40_c_1213.2.1
theorem dX12_partingOf_219 : decode cX12_partingOf 219 = .ok (.ifCond .eq 6, 3) := dGR_40_c_1213.2.2.1
theorem dX12_partingOf_222 : decode cX12_partingOf 222 = .ok (.iconst 1, 1) := dGR_40_c_1213.2.2.2.1
theorem dX12_partingOf_223 : decode cX12_partingOf 223 = .ok (.istore 5, 2) := dGR_40_c_1213.2.2.2.2.1
theorem dX12_partingOf_225 : decode cX12_partingOf 225 = .ok (.aload_n 0, 1) := dGR_40_c_1213.2.2.2.2.2.1
theorem dX12_partingOf_226 : decode cX12_partingOf 226 = .ok (.aload_n 0, 1) := dGR_40_c_1213.2.2.2.2.2.2.1
theorem dX12_partingOf_227 : decode cX12_partingOf 227 = .ok (.getfield 104, 3) := dGR_40_c_1213.2.2.2.2.2.2.2.1
theorem dX12_partingOf_230 : decode cX12_partingOf 230 = .ok (.invokevirtual 481, 3) := dGR_40_c_1213.2.2.2.2.2.2.2.2.1
theorem dX12_partingOf_233 : decode cX12_partingOf 233 = .ok (.ifCond .eq (-126), 3) := dGR_40_c_1213.2.2.2.2.2.2.2.2.2.1
theorem dX12_partingOf_236 : decode cX12_partingOf 236 = .ok (.iconst 1, 1) := dGR_40_c_1213.2.2.2.2.2.2.2.2.2.2.1
theorem dX12_partingOf_237 : decode cX12_partingOf 237 = .ok (.istore 5, 2) := dGR_40_c_1213.2.2.2.2.2.2.2.2.2.2.2
set_option maxRecDepth 100000 in
theorem dGR_40_c_1214 : (decode cX12_partingOf 239 = .ok (.goto (-132), 3)) ∧ (decode cX12_partingOf 242 = .ok (.ldc_w 428, 3)) ∧ (decode cX12_partingOf 245 = .ok (.istore 6, 2)) ∧ (decode cX12_partingOf 247 = .ok (.iconst 0, 1)) ∧ (decode cX12_partingOf 248 = .ok (.istore 7, 2)) ∧ (decode cX12_partingOf 250 = .ok (.iload 7, 2)) ∧ (decode cX12_partingOf 252 = .ok (.bipush 24, 2)) ∧ (decode cX12_partingOf 254 = .ok (.if_icmp .ge 66, 3)) ∧ (decode cX12_partingOf 257 = .ok (.aload_n 0, 1)) ∧ (decode cX12_partingOf 258 = .ok (.aload_n 0, 1)) ∧ (decode cX12_partingOf 259 = .ok (.iload_n 1, 1)) ∧ (decode cX12_partingOf 260 = .ok (.iconst 3, 1)) := by decide +kernel
theorem dX12_partingOf_239 : decode cX12_partingOf 239 = .ok (.goto (-132), 3) := dGR_40_c_1214.1
theorem dX12_partingOf_242 : decode cX12_partingOf 242 = .ok (.ldc_w 428, 3) := dGR_40_c_1214.2.1
theorem dX12_partingOf_245 : decode cX12_partingOf 245 = .ok (.istore 6, 2) := dGR_40_c_1214.2.2.1
theorem dX12_partingOf_247 : decode cX12_partingOf 247 = .ok (.iconst 0, 1) := dGR_40_c_1214.2.2.2.1
theorem dX12_partingOf_248 : decode cX12_partingOf 248 = .ok (.istore 7, 2) := dGR_40_c_1214.2.2.2.2.1
theorem dX12_partingOf_250 : decode cX12_partingOf 250 = .ok (.iload 7, 2) := dGR_40_c_1214.2.2.2.2.2.1
theorem dX12_partingOf_252 : decode cX12_partingOf 252 = .ok (.bipush 24, 2) := dGR_40_c_1214.2.2.2.2.2.2.1
theorem dX12_partingOf_254 : decode cX12_partingOf 254 = .ok (.if_icmp .ge 66, 3) := dGR_40_c_1214.2.2.2.2.2.2.2.1
theorem dX12_partingOf_257 : decode cX12_partingOf 257 = .ok (.aload_n 0, 1) := dGR_40_c_1214.2.2.2.2.2.2.2.2.1
theorem dX12_partingOf_258 : decode cX12_partingOf 258 = .ok (.aload_n 0, 1) := dGR_40_c_1214.2.2.2.2.2.2.2.2.2.1
theorem dX12_partingOf_259 : decode cX12_partingOf 259 = .ok (.iload_n 1, 1) := dGR_40_c_1214.2.2.2.2.2.2.2.2.2.2.1
theorem dX12_partingOf_260 : decode cX12_partingOf 260 = .ok (.iconst 3, 1) := dGR_40_c_1214.2.2.2.2.2.2.2.2.2.2.2
set_option maxRecDepth 100000 in
theorem dGR_40_c_1215 : (decode cX12_partingOf 261 = .ok (.invokevirtual 288, 3)) ∧ (decode cX12_partingOf 264 = .ok (.iload 7, 2)) ∧ (decode cX12_partingOf 266 = .ok (.bipush 8, 2)) ∧ (decode cX12_partingOf 268 = .ok (.idiv, 1)) ∧ (decode cX12_partingOf 269 = .ok (.invokevirtual 239, 3)) ∧ (decode cX12_partingOf 272 = .ok (.ifCond .eq 42, 3)) ∧ (decode cX12_partingOf 275 = .ok (.iload 7, 2)) ∧ (decode cX12_partingOf 277 = .ok (.bipush 8, 2)) ∧ (decode cX12_partingOf 279 = .ok (.irem, 1)) ∧ (decode cX12_partingOf 280 = .ok (.aload_n 0, 1)) ∧ (decode cX12_partingOf 281 = .ok (.iload_n 2, 1)) ∧ (decode cX12_partingOf 282 = .ok (.iconst 3, 1)) := by decide +kernel
theorem dX12_partingOf_261 : decode cX12_partingOf 261 = .ok (.invokevirtual 288, 3) := dGR_40_c_1215.1
theorem dX12_partingOf_264 : decode cX12_partingOf 264 = .ok (.iload 7, 2) := dGR_40_c_1215.2.1
theorem dX12_partingOf_266 : decode cX12_partingOf 266 = .ok (.bipush 8, 2) := dGR_40_c_1215.2.2.1
theorem dX12_partingOf_268 : decode cX12_partingOf 268 = .ok (.idiv, 1) := dGR_40_c_1215.2.2.2.1
theorem dX12_partingOf_269 : decode cX12_partingOf 269 = .ok (.invokevirtual 239, 3) := dGR_40_c_1215.2.2.2.2.1
theorem dX12_partingOf_272 : decode cX12_partingOf 272 = .ok (.ifCond .eq 42, 3) := dGR_40_c_1215.2.2.2.2.2.1
theorem dX12_partingOf_275 : decode cX12_partingOf 275 = .ok (.iload 7, 2) := dGR_40_c_1215.2.2.2.2.2.2.1
theorem dX12_partingOf_277 : decode cX12_partingOf 277 = .ok (.bipush 8, 2) := dGR_40_c_1215.2.2.2.2.2.2.2.1
theorem dX12_partingOf_279 : decode cX12_partingOf 279 = .ok (.irem, 1) := dGR_40_c_1215.2.2.2.2.2.2.2.2.1
theorem dX12_partingOf_280 : decode cX12_partingOf 280 = .ok (.aload_n 0, 1) := dGR_40_c_1215.2.2.2.2.2.2.2.2.2.1
theorem dX12_partingOf_281 : decode cX12_partingOf 281 = .ok (.iload_n 2, 1) := dGR_40_c_1215.2.2.2.2.2.2.2.2.2.2.1
theorem dX12_partingOf_282 : decode cX12_partingOf 282 = .ok (.iconst 3, 1) := dGR_40_c_1215.2.2.2.2.2.2.2.2.2.2.2
set_option maxRecDepth 100000 in
theorem dGR_40_c_1216 : (decode cX12_partingOf 283 = .ok (.invokevirtual 288, 3)) ∧ (decode cX12_partingOf 286 = .ok (.iand, 1)) ∧ (decode cX12_partingOf 287 = .ok (.ifCond .ne 27, 3)) ∧ (decode cX12_partingOf 290 = .ok (.iload 6, 2)) ∧ (decode cX12_partingOf 292 = .ok (.aload_n 0, 1)) ∧ (decode cX12_partingOf 293 = .ok (.getfield 101, 3)) ∧ (decode cX12_partingOf 296 = .ok (.iload 7, 2)) ∧ (decode cX12_partingOf 298 = .ok (.iaload, 1)) ∧ (decode cX12_partingOf 299 = .ok (.aload_n 0, 1)) ∧ (decode cX12_partingOf 300 = .ok (.getfield 104, 3)) ∧ (decode cX12_partingOf 303 = .ok (.iload 7, 2)) ∧ (decode cX12_partingOf 305 = .ok (.iaload, 1)) := by decide +kernel
theorem dX12_partingOf_283 : decode cX12_partingOf 283 = .ok (.invokevirtual 288, 3) := dGR_40_c_1216.1
theorem dX12_partingOf_286 : decode cX12_partingOf 286 = .ok (.iand, 1) := dGR_40_c_1216.2.1
theorem dX12_partingOf_287 : decode cX12_partingOf 287 = .ok (.ifCond .ne 27, 3) := dGR_40_c_1216.2.2.1
theorem dX12_partingOf_290 : decode cX12_partingOf 290 = .ok (.iload 6, 2) := dGR_40_c_1216.2.2.2.1
theorem dX12_partingOf_292 : decode cX12_partingOf 292 = .ok (.aload_n 0, 1) := dGR_40_c_1216.2.2.2.2.1
theorem dX12_partingOf_293 : decode cX12_partingOf 293 = .ok (.getfield 101, 3) := dGR_40_c_1216.2.2.2.2.2.1
theorem dX12_partingOf_296 : decode cX12_partingOf 296 = .ok (.iload 7, 2) := dGR_40_c_1216.2.2.2.2.2.2.1
theorem dX12_partingOf_298 : decode cX12_partingOf 298 = .ok (.iaload, 1) := dGR_40_c_1216.2.2.2.2.2.2.2.1
theorem dX12_partingOf_299 : decode cX12_partingOf 299 = .ok (.aload_n 0, 1) := dGR_40_c_1216.2.2.2.2.2.2.2.2.1
theorem dX12_partingOf_300 : decode cX12_partingOf 300 = .ok (.getfield 104, 3) := dGR_40_c_1216.2.2.2.2.2.2.2.2.2.1
theorem dX12_partingOf_303 : decode cX12_partingOf 303 = .ok (.iload 7, 2) := dGR_40_c_1216.2.2.2.2.2.2.2.2.2.2.1
theorem dX12_partingOf_305 : decode cX12_partingOf 305 = .ok (.iaload, 1) := dGR_40_c_1216.2.2.2.2.2.2.2.2.2.2.2
set_option maxRecDepth 100000 in
theorem dGR_40_c_1217 : (decode cX12_partingOf 306 = .ok (.invokestatic 178, 3)) ∧ (decode cX12_partingOf 309 = .ok (.invokestatic 178, 3)) ∧ (decode cX12_partingOf 312 = .ok (.istore 6, 2)) ∧ (decode cX12_partingOf 314 = .ok (.iinc 7 1, 3)) ∧ (decode cX12_partingOf 317 = .ok (.goto (-67), 3)) ∧ (decode cX12_partingOf 320 = .ok (.iload 6, 2)) ∧ (decode cX12_partingOf 322 = .ok (.ldc_w 428, 3)) ∧ (decode cX12_partingOf 325 = .ok (.if_icmp .lt 7, 3)) ∧ (decode cX12_partingOf 328 = .ok (.iconst (-1), 1)) ∧ (decode cX12_partingOf 329 = .ok (.goto 5, 3)) ∧ (decode cX12_partingOf 332 = .ok (.iload 6, 2)) ∧ (decode cX12_partingOf 334 = .ok (.ireturn, 1)) := by decide +kernel
theorem dX12_partingOf_306 : decode cX12_partingOf 306 = .ok (.invokestatic 178, 3) := dGR_40_c_1217.1
theorem dX12_partingOf_309 : decode cX12_partingOf 309 = .ok (.invokestatic 178, 3) := dGR_40_c_1217.2.1
theorem dX12_partingOf_312 : decode cX12_partingOf 312 = .ok (.istore 6, 2) := dGR_40_c_1217.2.2.1
theorem dX12_partingOf_314 : decode cX12_partingOf 314 = .ok (.iinc 7 1, 3) := dGR_40_c_1217.2.2.2.1
theorem dX12_partingOf_317 : decode cX12_partingOf 317 = .ok (.goto (-67), 3) := dGR_40_c_1217.2.2.2.2.1
theorem dX12_partingOf_320 : decode cX12_partingOf 320 = .ok (.iload 6, 2) := dGR_40_c_1217.2.2.2.2.2.1
theorem dX12_partingOf_322 : decode cX12_partingOf 322 = .ok (.ldc_w 428, 3) := dGR_40_c_1217.2.2.2.2.2.2.1
theorem dX12_partingOf_325 : decode cX12_partingOf 325 = .ok (.if_icmp .lt 7, 3) := dGR_40_c_1217.2.2.2.2.2.2.2.1
theorem dX12_partingOf_328 : decode cX12_partingOf 328 = .ok (.iconst (-1), 1) := dGR_40_c_1217.2.2.2.2.2.2.2.2.1
theorem dX12_partingOf_329 : decode cX12_partingOf 329 = .ok (.goto 5, 3) := dGR_40_c_1217.2.2.2.2.2.2.2.2.2.1
theorem dX12_partingOf_332 : decode cX12_partingOf 332 = .ok (.iload 6, 2) := dGR_40_c_1217.2.2.2.2.2.2.2.2.2.2.1
theorem dX12_partingOf_334 : decode cX12_partingOf 334 = .ok (.ireturn, 1) := dGR_40_c_1217.2.2.2.2.2.2.2.2.2.2.2
abbrev f_e_partingOf : List (Nat × Int) := [(64, 45), (72, -1), (86, -1), (87, -1), (88, -1)]
set_option maxHeartbeats 4000000 in
set_option maxRecDepth 100000 in
theorem e_partingOf (G : KG) (l : Launch) (M : Mem) (a1 : Int) (a2 : Int) (hI_M : Inv true M) (hpre : -2147483648 ≤ a1 ∧ a1 ≤ 2147483647 ∧ -2147483648 ≤ a2 ∧ a2 ≤ 2147483647 ∧ 0 ≤ a1 ∧ a1 ≤ 2 ∧ 0 ≤ a2 ∧ a2 ≤ 1) (hY : YY M) (hC : Clo (M 164) a2) : KC true G l yX12_partingOf cX12_partingOf 8 (some .int) (5, 129) [vR G 163, vI a1, vI a2] M (fun A => kQi true G A (fun (r : Int) (N : Mem) => Inv true N ∧ Fr f_e_partingOf M N ∧ (r ≥ -1 ∧ r ≤ 999999))) := by
  refine kx_met (lo := [some (vR G 163), some (vI a1), some (vI a2), none, none, none, none, none]) (by decide) (Nat.le_of_ble_eq_true rfl) rfl ?_
  intro X F hQ
  have hF_M : Fr f_e_partingOf M M := Fr.rf _ _
  have h_1 := Inv.g hI_M kd_164 rfl 0 (a := 0) (b := 2) (at_c 0 0 (o := 0) (lo := 0) (hi := 2) (by omega) (by decide) (by decide) (by decide)).1 (at_c 0 0 (o := 0) (lo := 0) (hi := 2) (by omega) (by decide) (by decide) (by decide)).2
  have h_2 := Inv.g hI_M kd_164 rfl 1 (a := 0) (b := 2) (at_c 1 0 (o := 1) (lo := 0) (hi := 2) (by omega) (by decide) (by decide) (by decide)).1 (at_c 1 0 (o := 1) (lo := 0) (hi := 2) (by omega) (by decide) (by decide) (by decide)).2
  have h_3 := Inv.g hI_M kd_164 rfl 2 (a := 0) (b := 2) (at_c 2 0 (o := 2) (lo := 0) (hi := 2) (by omega) (by decide) (by decide) (by decide)).1 (at_c 2 0 (o := 2) (lo := 0) (hi := 2) (by omega) (by decide) (by decide) (by decide)).2
  refine kx_aload_n 1 F 0 dX12_partingOf_0 rfl rfl rfl ?_
  refine kx_getr 4 F fl_X12_7 kd_163 rfl rfl (j := 0) rfl dX12_partingOf_1 (v := 164) (uq_164 (Inv.r hI_M kd_163 rfl 0 rfl rfl)) rfl ?_
  refine kx_iconst 5 F dX12_partingOf_4 rfl ?_
  refine kx_iald 6 F kd_164 rfl rfl (by omega) (by decide) dX12_partingOf_5 (v := (M 164 0)) rfl rfl ?_
  have ha_4 : atlo 0 = 0 ∧ athi 0 = 2 := at_c 0 0 (o := 0) (lo := 0) (hi := 2) (by omega) (by decide) (by decide) (by decide)
  refine kx_istore_n 7 F 3 (lo' := [some (vR G 163), some (vI a1), some (vI a2), some (vI (M 164 0)), none, none, none, none]) dX12_partingOf_6 rfl (by decide) rfl rfl rfl ?_
  refine kx_aload_n 8 F 0 dX12_partingOf_7 rfl rfl rfl ?_
  refine kx_getr 11 F fl_X12_7 kd_163 rfl rfl (j := 0) rfl dX12_partingOf_8 (v := 164) (uq_164 (Inv.r hI_M kd_163 rfl 0 rfl rfl)) rfl ?_
  refine kx_iconst 12 F dX12_partingOf_11 rfl ?_
  refine kx_iald 13 F kd_164 rfl rfl (by omega) (by decide) dX12_partingOf_12 (v := (M 164 0)) rfl rfl ?_
  refine kx_aload_n 14 F 0 dX12_partingOf_13 rfl rfl rfl ?_
  refine kx_getr 17 F fl_X12_7 kd_163 rfl rfl (j := 0) rfl dX12_partingOf_14 (v := 164) (uq_164 (Inv.r hI_M kd_163 rfl 0 rfl rfl)) rfl ?_
  refine kx_iconst 18 F dX12_partingOf_17 rfl ?_
  refine kx_iald 19 F kd_164 rfl rfl (by omega) (by decide) dX12_partingOf_18 (v := (M 164 1)) rfl rfl ?_
  have ha_5 : atlo 1 = 0 ∧ athi 1 = 2 := at_c 1 0 (o := 1) (lo := 0) (hi := 2) (by omega) (by decide) (by decide) (by decide)
  refine kx_iadd 20 F (v := (M 164 0) + (M 164 1)) dX12_partingOf_19 rfl rfl ?_
  refine kx_istore 22 F 4 (lo' := [some (vR G 163), some (vI a1), some (vI a2), some (vI (M 164 0)), some (vI ((M 164 0) + (M 164 1))), none, none, none]) dX12_partingOf_20 (by decide) rfl rfl rfl ?_
  refine kx_aload_n 23 F 0 dX12_partingOf_22 rfl rfl rfl ?_
  refine kx_Vv 26 (ci := 0) F (As := []) (st := []) vd_X12_342 (e_laysRules G l M  hI_M) kd_163 rfl rfl rfl ⟨by decide, by decide⟩ rfl rfl (Nat.le_of_ble_eq_true rfl) dX12_partingOf_23 rfl ?_
  intro N_6 q_7
  obtain ⟨hI_N_6, hG_N_6, hd_N_6⟩ := q_7
  have hF_N_6 : Fr f_e_partingOf M N_6 := Fr.c hF_M hG_N_6 rfl
  have ht_8 := tot_fr 88 24 hG_N_6 rfl
  refine kx_aload_n 27 F 0 dX12_partingOf_26 rfl rfl rfl ?_
  refine kx_iload_n 28 F 1 dX12_partingOf_27 rfl rfl rfl ?_
  refine kx_iload_n 29 F 2 dX12_partingOf_28 rfl rfl rfl ?_
  have ha_9 : AOK (N_6 164) a2 := by rw [show N_6 164 = M 164 from (funext (fun j => by rw [Fr.e hG_N_6 kd_164 _ rfl]))]; exact AOK.of hI_M hY (by omega)
  have hb_10 : Clo (N_6 164) a2 := by rw [show N_6 164 = M 164 from (funext (fun j => by rw [Fr.e hG_N_6 kd_164 _ rfl]))]; exact hC
  refine kx_Vv 32 (ci := 0) F (As := [vI a1, vI a2]) (st := []) vd_X12_474 (e_laysGoes G l N_6 a1 a2 hI_N_6 (by omega) hd_N_6 ha_9 hb_10) kd_163 rfl rfl rfl ⟨by decide, by decide⟩ rfl rfl (Nat.le_of_ble_eq_true rfl) dX12_partingOf_29 rfl ?_
  intro N_11 q_12
  obtain ⟨hI_N_11, hG_N_11, ho_N_11⟩ := q_12
  have hF_N_11 : Fr f_e_partingOf M N_11 := Fr.c hF_N_6 hG_N_11 rfl
  have ht_13 := tot_fr 88 24 hG_N_11 rfl
  refine kx_iconst 33 F dX12_partingOf_32 rfl ?_
  refine kx_istore 35 F 5 (lo' := [some (vR G 163), some (vI a1), some (vI a2), some (vI (M 164 0)), some (vI ((M 164 0) + (M 164 1))), some (vI 0), none, none]) dX12_partingOf_33 (by decide) rfl rfl rfl ?_
  have L_2014 : ∀ (n_2015 : Nat) (x5_2012 : Int) (N_2013 : Mem), Inv true N_2013 → Fr f_e_partingOf M N_2013 → 0 ≤ x5_2012 ∧ x5_2012 ≤ 24 → (24 - (x5_2012)).toNat = n_2015 → KJ true G X N_2013 35 [some (vR G 163), some (vI a1), some (vI a2), some (vI (M 164 0)), some (vI ((M 164 0) + (M 164 1))), some (vI x5_2012), none, none] [] := by
    intro n_2015
    refine Nat.strongRecOn n_2015 ?_
    intro n_2015 ih_2016 x5_2012 N_2013 hI_N_2013 hF_N_2013 h_2017 hm_2018
    refine kx_iload 37 F 5 dX12_partingOf_35 rfl rfl ?_
    refine kx_bipush 39 F dX12_partingOf_37 (by decide) rfl ?_
    refine kx_icmp_ge 42 F 104 dX12_partingOf_39 (by decide) rfl (by omega) (by decide) (fun h_2019 => ?_) (fun h_2019 => ?_)
    · refine kx_iconst 105 F dX12_partingOf_104 rfl ?_
      refine kx_istore 107 F 5 (lo' := [some (vR G 163), some (vI a1), some (vI a2), some (vI (M 164 0)), some (vI ((M 164 0) + (M 164 1))), some (vI 1), none, none]) dX12_partingOf_105 (by decide) rfl rfl rfl ?_
      have L_2456 : ∀ (n_2457 : Nat) (x5_2454 : Int) (N_2455 : Mem), Inv true N_2455 → Fr f_e_partingOf M N_2455 → 0 ≤ x5_2454 ∧ x5_2454 ≤ 1 → (2 * tot 88 24 N_2455 + x5_2454).toNat = n_2457 → KJ true G X N_2455 107 [some (vR G 163), some (vI a1), some (vI a2), some (vI (M 164 0)), some (vI ((M 164 0) + (M 164 1))), some (vI x5_2454), none, none] [] := by
        intro n_2457
        refine Nat.strongRecOn n_2457 ?_
        intro n_2457 ih_2458 x5_2454 N_2455 hI_N_2455 hF_N_2455 h_2459 hm_2460
        have h_2461 := tot_nn (k := 88) 24 hI_N_2455 rfl (fun _ => rfl)
        refine kx_iload 109 F 5 dX12_partingOf_107 rfl rfl ?_
        refine kx_if_eq 112 F 242 dX12_partingOf_109 (by decide) rfl (by omega) (fun h_2462 => ?_) (fun h_2462 => ?_)
        · refine kx_ldcw 245 (z := 1000000) F dX12_partingOf_242 ct_X12_428 rfl ?_
          refine kx_istore 247 F 6 (lo' := [some (vR G 163), some (vI a1), some (vI a2), some (vI (M 164 0)), some (vI ((M 164 0) + (M 164 1))), some (vI x5_2454), some (vI 1000000), none]) dX12_partingOf_245 (by decide) rfl rfl rfl ?_
          refine kx_iconst 248 F dX12_partingOf_247 rfl ?_
          refine kx_istore 250 F 7 (lo' := [some (vR G 163), some (vI a1), some (vI a2), some (vI (M 164 0)), some (vI ((M 164 0) + (M 164 1))), some (vI x5_2454), some (vI 1000000), some (vI 0)]) dX12_partingOf_248 (by decide) rfl rfl rfl ?_
          have L_2628 : ∀ (n_2629 : Nat) (x6_2626 : Int) (x7_2627 : Int), 0 ≤ x6_2626 ∧ x6_2626 ≤ 1000000 ∧ 0 ≤ x7_2627 ∧ x7_2627 ≤ 24 → (24 - (x7_2627)).toNat = n_2629 → KJ true G X N_2455 250 [some (vR G 163), some (vI a1), some (vI a2), none, none, none, some (vI x6_2626), some (vI x7_2627)] [] := by
            intro n_2629
            refine Nat.strongRecOn n_2629 ?_
            intro n_2629 ih_2630 x6_2626 x7_2627 h_2631 hm_2632
            refine kx_iload 252 F 7 dX12_partingOf_250 rfl rfl ?_
            refine kx_bipush 254 F dX12_partingOf_252 (by decide) rfl ?_
            refine kx_icmp_ge 257 F 320 dX12_partingOf_254 (by decide) rfl (by omega) (by decide) (fun h_2633 => ?_) (fun h_2633 => ?_)
            · refine kx_iload 322 F 6 dX12_partingOf_320 rfl rfl ?_
              refine kx_ldcw 325 (z := 1000000) F dX12_partingOf_322 ct_X12_428 rfl ?_
              refine kx_icmp_lt 328 F 332 dX12_partingOf_325 (by decide) rfl (by omega) (by decide) (fun h_2634 => ?_) (fun h_2634 => ?_)
              · refine kx_iload 334 F 6 dX12_partingOf_332 rfl rfl ?_
                exact kx_iret F hQ ⟨hI_N_2455, hF_N_2455, (by omega)⟩ dX12_partingOf_334
              · refine kx_iconst 329 F dX12_partingOf_328 rfl ?_
                refine kx_goto 334 F dX12_partingOf_329 (by decide) ?_
                exact kx_iret F hQ ⟨hI_N_2455, hF_N_2455, (by omega)⟩ dX12_partingOf_334
            · refine kx_aload_n 258 F 0 dX12_partingOf_257 rfl rfl rfl ?_
              refine kx_aload_n 259 F 0 dX12_partingOf_258 rfl rfl rfl ?_
              refine kx_iload_n 260 F 1 dX12_partingOf_259 rfl rfl rfl ?_
              refine kx_iconst 261 F dX12_partingOf_260 rfl ?_
              refine kx_Vi 264 (ci := 0) F (As := [vI a1, vI 3]) (st := [vR G 163]) vd_X12_288 (c_of3 G l N_2455 a1 3 hI_N_2455 (by omega)) kd_163 rfl rfl rfl ⟨by decide, by decide⟩ rfl rfl (Nat.le_of_ble_eq_true rfl) dX12_partingOf_261 rfl ?_
              intro r_2635 N_2636 q_2637
              obtain ⟨rfl, q_2637c⟩ := q_2637
              refine kx_iload 266 F 7 dX12_partingOf_264 rfl rfl ?_
              refine kx_bipush 268 F dX12_partingOf_266 (by decide) rfl ?_
              refine kx_idiv 269 F (v := (x7_2627 / 8)) dX12_partingOf_268 (by omega) (by decide) rfl rfl ?_
              refine kx_Vi 272 (ci := 0) F (As := [vI r_2635, vI (x7_2627 / 8)]) (st := []) vd_X12_239 (c_X12_isIn G l N_2455 r_2635 (x7_2627 / 8) hI_N_2455 (by omega)) kd_163 rfl rfl rfl ⟨by decide, by decide⟩ rfl rfl (Nat.le_of_ble_eq_true rfl) dX12_partingOf_269 rfl ?_
              intro r_2638 N_2639 q_2640
              obtain ⟨rfl, q_2640c⟩ := q_2640
              refine kx_if_eq 275 F 314 dX12_partingOf_272 (by decide) rfl (by omega) (fun h_2641 => ?_) (fun h_2641 => ?_)
              · refine kx_iinc 317 F 7 (v := x7_2627 + 1) (lo' := [some (vR G 163), some (vI a1), some (vI a2), none, none, none, some (vI x6_2626), some (vI (x7_2627 + 1))]) dX12_partingOf_314 rfl (by omega) (by decide) rfl rfl rfl ?_
                refine kx_goto 250 F dX12_partingOf_317 (by decide) ?_
                exact ih_2630 _ (by omega) x6_2626 (x7_2627 + 1) (by omega) rfl
              · refine kx_iload 277 F 7 dX12_partingOf_275 rfl rfl ?_
                refine kx_bipush 279 F dX12_partingOf_277 (by decide) rfl ?_
                refine kx_irem 280 F (v := (x7_2627 % 8)) dX12_partingOf_279 (by omega) (by decide) rfl rfl ?_
                refine kx_aload_n 281 F 0 dX12_partingOf_280 rfl rfl rfl ?_
                refine kx_iload_n 282 F 2 dX12_partingOf_281 rfl rfl rfl ?_
                refine kx_iconst 283 F dX12_partingOf_282 rfl ?_
                refine kx_Vi 286 (ci := 0) F (As := [vI a2, vI 3]) (st := [vI (x7_2627 % 8)]) vd_X12_288 (c_of3 G l N_2455 a2 3 hI_N_2455 (by omega)) kd_163 rfl rfl rfl ⟨by decide, by decide⟩ rfl rfl (Nat.le_of_ble_eq_true rfl) dX12_partingOf_283 rfl ?_
                intro r_2642 N_2643 q_2644
                obtain ⟨rfl, q_2644c⟩ := q_2644
                refine kx_iand 287 F (v := (zand (x7_2627 % 8) r_2642)) dX12_partingOf_286 rfl rfl ?_
                have h_2645 := zand_r (a := (x7_2627 % 8)) (b := r_2642) (by omega)
                refine kx_if_ne 290 F 314 dX12_partingOf_287 (by decide) rfl (by omega) (fun h_2646 => ?_) (fun h_2646 => ?_)
                · refine kx_iinc 317 F 7 (v := x7_2627 + 1) (lo' := [some (vR G 163), some (vI a1), some (vI a2), none, none, none, some (vI x6_2626), some (vI (x7_2627 + 1))]) dX12_partingOf_314 rfl (by omega) (by decide) rfl rfl rfl ?_
                  refine kx_goto 250 F dX12_partingOf_317 (by decide) ?_
                  exact ih_2630 _ (by omega) x6_2626 (x7_2627 + 1) (by omega) rfl
                · refine kx_iload 292 F 6 dX12_partingOf_290 rfl rfl ?_
                  refine kx_aload_n 293 F 0 dX12_partingOf_292 rfl rfl rfl ?_
                  refine kx_getr 296 F fl_X12_101 kd_163 rfl rfl (j := 43) rfl dX12_partingOf_293 (v := (M 163 43)) (by rw [Fr.e hF_N_2455 kd_163 _ rfl]) rfl ?_
                  have hk_2647 : kd (M 163 43) = 88 := Inv.r hI_M kd_163 rfl 43 rfl rfl
                  refine kx_iload 298 F 7 dX12_partingOf_296 rfl rfl ?_
                  refine kx_iald 299 F hk_2647 rfl rfl (by omega) (by decide) dX12_partingOf_298 (v := (N_2455 (M 163 43) x7_2627)) rfl rfl ?_
                  have h_2648 := Inv.g hI_N_2455 hk_2647 rfl x7_2627 (a := 0) (b := 1000000) rfl rfl
                  refine kx_aload_n 300 F 0 dX12_partingOf_299 rfl rfl rfl ?_
                  refine kx_getr 303 F fl_X12_104 kd_163 rfl rfl (j := 44) rfl dX12_partingOf_300 (v := (M 163 44)) (by rw [Fr.e hF_N_2455 kd_163 _ rfl]) rfl ?_
                  have hk_2649 : kd (M 163 44) = 88 := Inv.r hI_M kd_163 rfl 44 rfl rfl
                  refine kx_iload 305 F 7 dX12_partingOf_303 rfl rfl ?_
                  refine kx_iald 306 F hk_2649 rfl rfl (by omega) (by decide) dX12_partingOf_305 (v := (N_2455 (M 163 44) x7_2627)) rfl rfl ?_
                  have h_2650 := Inv.g hI_N_2455 hk_2649 rfl x7_2627 (a := 0) (b := 1000000) rfl rfl
                  refine kx_mmin 309 F dX12_partingOf_306 (tt lm_1833 rfl) (tt lm_800 rfl) (tt lm_180 rfl) (tt lm_801 rfl) (by decide) (Nat.le_of_ble_eq_true rfl) (by omega) (by omega) rfl (fun w_2651 h_2652 => ?_)
                  refine kx_mmin 312 F dX12_partingOf_309 (tt lm_1833 rfl) (tt lm_800 rfl) (tt lm_180 rfl) (tt lm_801 rfl) (by decide) (Nat.le_of_ble_eq_true rfl) (by omega) (by omega) rfl (fun w_2653 h_2654 => ?_)
                  refine kx_istore 314 F 6 (lo' := [some (vR G 163), some (vI a1), some (vI a2), none, none, none, some (vI w_2653), some (vI x7_2627)]) dX12_partingOf_312 (by decide) rfl rfl rfl ?_
                  refine kx_iinc 317 F 7 (v := x7_2627 + 1) (lo' := [some (vR G 163), some (vI a1), some (vI a2), none, none, none, some (vI w_2653), some (vI (x7_2627 + 1))]) dX12_partingOf_314 rfl (by omega) (by decide) rfl rfl rfl ?_
                  refine kx_goto 250 F dX12_partingOf_317 (by decide) ?_
                  exact ih_2630 _ (by omega) w_2653 (x7_2627 + 1) (by omega) rfl
          refine kx_drop 3 (lo' := [some (vR G 163), some (vI a1), some (vI a2), none, some (vI ((M 164 0) + (M 164 1))), some (vI x5_2454), some (vI 1000000), some (vI 0)]) rfl ?_
          refine kx_drop 4 (lo' := [some (vR G 163), some (vI a1), some (vI a2), none, none, some (vI x5_2454), some (vI 1000000), some (vI 0)]) rfl ?_
          refine kx_drop 5 (lo' := [some (vR G 163), some (vI a1), some (vI a2), none, none, none, some (vI 1000000), some (vI 0)]) rfl ?_
          exact L_2628 _ 1000000 0 (by omega) rfl
        · refine kx_aload_n 113 F 0 dX12_partingOf_112 rfl rfl rfl ?_
          refine kx_iload_n 114 F 1 dX12_partingOf_113 rfl rfl rfl ?_
          refine kx_iload_n 115 F 2 dX12_partingOf_114 rfl rfl rfl ?_
          refine kx_aload_n 116 F 0 dX12_partingOf_115 rfl rfl rfl ?_
          refine kx_getr 119 F fl_X12_101 kd_163 rfl rfl (j := 43) rfl dX12_partingOf_116 (v := (M 163 43)) (by rw [Fr.e hF_N_2455 kd_163 _ rfl]) rfl ?_
          have hk_2655 : kd (M 163 43) = 88 := Inv.r hI_M kd_163 rfl 43 rfl rfl
          refine kx_aload_n 120 F 0 dX12_partingOf_119 rfl rfl rfl ?_
          refine kx_getr 123 F fl_X12_101 kd_163 rfl rfl (j := 43) rfl dX12_partingOf_120 (v := (M 163 43)) (by rw [Fr.e hF_N_2455 kd_163 _ rfl]) rfl ?_
          refine kx_iload_n 124 F 3 dX12_partingOf_123 rfl rfl rfl ?_
          refine kx_aload_n 125 F 0 dX12_partingOf_124 rfl rfl rfl ?_
          refine kx_Vi 128 (ci := 0) F (As := []) (st := [vI (M 164 0), vR G (M 163 43), vR G (M 163 43), vI a2, vI a1, vR G 163]) vd_X12_285 (c_lettersE G l N_2455  hI_N_2455) kd_163 rfl rfl rfl ⟨by decide, by decide⟩ rfl rfl (Nat.le_of_ble_eq_true rfl) dX12_partingOf_125 rfl ?_
          intro r_2656 N_2657 q_2658
          obtain ⟨rfl, q_2658c⟩ := q_2658
          have e_2659 : (N_2455 164 0) = (M 164 0) := by rw [Fr.e hF_N_2455 kd_164 _ rfl]
          have e_2660 : (N_2455 164 1) = (M 164 1) := by rw [Fr.e hF_N_2455 kd_164 _ rfl]
          have e_2661 : (N_2455 164 2) = (M 164 2) := by rw [Fr.e hF_N_2455 kd_164 _ rfl]
          refine kx_topi (e' := (N_2455 164 0) + (N_2455 164 1) + (N_2455 164 2)) (by omega) ?_
          refine kx_bipush 130 F dX12_partingOf_128 (by decide) rfl ?_
          refine kx_Vi 133 (ci := 0) F (As := [vI a1, vI a2, vR G (M 163 43), vR G (M 163 43), vI (M 164 0), vI ((N_2455 164 0) + (N_2455 164 1) + (N_2455 164 2)), vI 8]) (st := []) vd_X12_477 (c_X12_laysLetter G l N_2455 a1 a2 (M 163 43) (M 163 43) (M 164 0) ((N_2455 164 0) + (N_2455 164 1) + (N_2455 164 2)) 8 hI_N_2455 hk_2655 hk_2655 (by omega)) kd_163 rfl rfl rfl ⟨by decide, by decide⟩ rfl rfl (Nat.le_of_ble_eq_true rfl) dX12_partingOf_130 rfl ?_
          intro r_2668 N_2669 q_2670
          obtain ⟨hI_N_2669, hG_N_2669, q_2670c⟩ := q_2670
          have hF_N_2669 : Fr f_e_partingOf M N_2669 := Fr.c hF_N_2455 hG_N_2669 rfl
          refine kx_istore 135 F 5 (lo' := [some (vR G 163), some (vI a1), some (vI a2), some (vI (M 164 0)), some (vI ((M 164 0) + (M 164 1))), some (vI r_2668), none, none]) dX12_partingOf_133 (by decide) rfl rfl rfl ?_
          refine kx_aload_n 136 F 0 dX12_partingOf_135 rfl rfl rfl ?_
          refine kx_aload_n 137 F 0 dX12_partingOf_136 rfl rfl rfl ?_
          refine kx_getr 140 F fl_X12_101 kd_163 rfl rfl (j := 43) rfl dX12_partingOf_137 (v := (M 163 43)) (by rw [Fr.e hG_N_2669 kd_163 _ rfl, Fr.e hF_N_2455 kd_163 _ rfl]) rfl ?_
          refine kx_Vi 143 (ci := 0) F (As := [vR G (M 163 43)]) (st := []) vd_X12_481 (c_X12_laysSpan G l N_2669 (M 163 43) hI_N_2669 hk_2655) kd_163 rfl rfl rfl ⟨by decide, by decide⟩ rfl rfl (Nat.le_of_ble_eq_true rfl) dX12_partingOf_140 rfl ?_
          intro r_2671 N_2672 q_2673
          obtain ⟨hI_N_2672, hG_N_2672, q_2673c⟩ := q_2673
          have hF_N_2672 : Fr f_e_partingOf M N_2672 := Fr.c hF_N_2669 hG_N_2672 rfl
          have J_2676 : ∀ (x5_2675 : Int), 0 ≤ x5_2675 ∧ x5_2675 ≤ 1 ∧ (tot 88 24 N_2672) + x5_2675 ≤ (tot 88 24 N_2455) → KJ true G X N_2672 149 [some (vR G 163), some (vI a1), some (vI a2), some (vI (M 164 0)), some (vI ((M 164 0) + (M 164 1))), some (vI x5_2675), none, none] [] := by
            intro x5_2675 h_2677
            refine kx_aload_n 150 F 0 dX12_partingOf_149 rfl rfl rfl ?_
            refine kx_iload_n 151 F 1 dX12_partingOf_150 rfl rfl rfl ?_
            refine kx_iload_n 152 F 2 dX12_partingOf_151 rfl rfl rfl ?_
            refine kx_aload_n 153 F 0 dX12_partingOf_152 rfl rfl rfl ?_
            refine kx_getr 156 F fl_X12_101 kd_163 rfl rfl (j := 43) rfl dX12_partingOf_153 (v := (M 163 43)) (by rw [Fr.e hG_N_2672 kd_163 _ rfl, Fr.e hG_N_2669 kd_163 _ rfl, Fr.e hF_N_2455 kd_163 _ rfl]) rfl ?_
            refine kx_aload_n 157 F 0 dX12_partingOf_156 rfl rfl rfl ?_
            refine kx_getr 160 F fl_X12_104 kd_163 rfl rfl (j := 44) rfl dX12_partingOf_157 (v := (M 163 44)) (by rw [Fr.e hG_N_2672 kd_163 _ rfl, Fr.e hG_N_2669 kd_163 _ rfl, Fr.e hF_N_2455 kd_163 _ rfl]) rfl ?_
            have hk_2678 : kd (M 163 44) = 88 := Inv.r hI_M kd_163 rfl 44 rfl rfl
            refine kx_iconst 161 F dX12_partingOf_160 rfl ?_
            refine kx_iload_n 162 F 3 dX12_partingOf_161 rfl rfl rfl ?_
            refine kx_bipush 164 F dX12_partingOf_162 (by decide) rfl ?_
            refine kx_Vi 167 (ci := 0) F (As := [vI a1, vI a2, vR G (M 163 43), vR G (M 163 44), vI 0, vI (M 164 0), vI 7]) (st := []) vd_X12_477 (c_X12_laysLetter G l N_2672 a1 a2 (M 163 43) (M 163 44) 0 (M 164 0) 7 hI_N_2672 hk_2655 hk_2678 (by omega)) kd_163 rfl rfl rfl ⟨by decide, by decide⟩ rfl rfl (Nat.le_of_ble_eq_true rfl) dX12_partingOf_164 rfl ?_
            intro r_2679 N_2680 q_2681
            obtain ⟨hI_N_2680, hG_N_2680, q_2681c⟩ := q_2681
            have hF_N_2680 : Fr f_e_partingOf M N_2680 := Fr.c hF_N_2672 hG_N_2680 rfl
            have J_2684 : ∀ (x5_2683 : Int), 0 ≤ x5_2683 ∧ x5_2683 ≤ 1 ∧ (tot 88 24 N_2680) + x5_2683 ≤ (tot 88 24 N_2455) → KJ true G X N_2680 173 [some (vR G 163), some (vI a1), some (vI a2), some (vI (M 164 0)), some (vI ((M 164 0) + (M 164 1))), some (vI x5_2683), none, none] [] := by
              intro x5_2683 h_2685
              refine kx_aload_n 174 F 0 dX12_partingOf_173 rfl rfl rfl ?_
              refine kx_iload_n 175 F 1 dX12_partingOf_174 rfl rfl rfl ?_
              refine kx_iload_n 176 F 2 dX12_partingOf_175 rfl rfl rfl ?_
              refine kx_aload_n 177 F 0 dX12_partingOf_176 rfl rfl rfl ?_
              refine kx_getr 180 F fl_X12_104 kd_163 rfl rfl (j := 44) rfl dX12_partingOf_177 (v := (M 163 44)) (by rw [Fr.e hG_N_2680 kd_163 _ rfl, Fr.e hG_N_2672 kd_163 _ rfl, Fr.e hG_N_2669 kd_163 _ rfl, Fr.e hF_N_2455 kd_163 _ rfl]) rfl ?_
              refine kx_aload_n 181 F 0 dX12_partingOf_180 rfl rfl rfl ?_
              refine kx_getr 184 F fl_X12_104 kd_163 rfl rfl (j := 44) rfl dX12_partingOf_181 (v := (M 163 44)) (by rw [Fr.e hG_N_2680 kd_163 _ rfl, Fr.e hG_N_2672 kd_163 _ rfl, Fr.e hG_N_2669 kd_163 _ rfl, Fr.e hF_N_2455 kd_163 _ rfl]) rfl ?_
              refine kx_iconst 185 F dX12_partingOf_184 rfl ?_
              refine kx_iload_n 186 F 3 dX12_partingOf_185 rfl rfl rfl ?_
              refine kx_bipush 188 F dX12_partingOf_186 (by decide) rfl ?_
              refine kx_Vi 191 (ci := 0) F (As := [vI a1, vI a2, vR G (M 163 44), vR G (M 163 44), vI 0, vI (M 164 0), vI 7]) (st := []) vd_X12_477 (c_X12_laysLetter G l N_2680 a1 a2 (M 163 44) (M 163 44) 0 (M 164 0) 7 hI_N_2680 hk_2678 hk_2678 (by omega)) kd_163 rfl rfl rfl ⟨by decide, by decide⟩ rfl rfl (Nat.le_of_ble_eq_true rfl) dX12_partingOf_188 rfl ?_
              intro r_2686 N_2687 q_2688
              obtain ⟨hI_N_2687, hG_N_2687, q_2688c⟩ := q_2688
              have hF_N_2687 : Fr f_e_partingOf M N_2687 := Fr.c hF_N_2680 hG_N_2687 rfl
              have J_2691 : ∀ (x5_2690 : Int), 0 ≤ x5_2690 ∧ x5_2690 ≤ 1 ∧ (tot 88 24 N_2687) + x5_2690 ≤ (tot 88 24 N_2455) → KJ true G X N_2687 197 [some (vR G 163), some (vI a1), some (vI a2), some (vI (M 164 0)), some (vI ((M 164 0) + (M 164 1))), some (vI x5_2690), none, none] [] := by
                intro x5_2690 h_2692
                refine kx_aload_n 198 F 0 dX12_partingOf_197 rfl rfl rfl ?_
                refine kx_iload_n 199 F 1 dX12_partingOf_198 rfl rfl rfl ?_
                refine kx_iload_n 200 F 2 dX12_partingOf_199 rfl rfl rfl ?_
                refine kx_aload_n 201 F 0 dX12_partingOf_200 rfl rfl rfl ?_
                refine kx_getr 204 F fl_X12_104 kd_163 rfl rfl (j := 44) rfl dX12_partingOf_201 (v := (M 163 44)) (by rw [Fr.e hG_N_2687 kd_163 _ rfl, Fr.e hG_N_2680 kd_163 _ rfl, Fr.e hG_N_2672 kd_163 _ rfl, Fr.e hG_N_2669 kd_163 _ rfl, Fr.e hF_N_2455 kd_163 _ rfl]) rfl ?_
                refine kx_aload_n 205 F 0 dX12_partingOf_204 rfl rfl rfl ?_
                refine kx_getr 208 F fl_X12_104 kd_163 rfl rfl (j := 44) rfl dX12_partingOf_205 (v := (M 163 44)) (by rw [Fr.e hG_N_2687 kd_163 _ rfl, Fr.e hG_N_2680 kd_163 _ rfl, Fr.e hG_N_2672 kd_163 _ rfl, Fr.e hG_N_2669 kd_163 _ rfl, Fr.e hF_N_2455 kd_163 _ rfl]) rfl ?_
                refine kx_iload 210 F 4 dX12_partingOf_208 rfl rfl ?_
                refine kx_aload_n 211 F 0 dX12_partingOf_210 rfl rfl rfl ?_
                refine kx_Vi 214 (ci := 0) F (As := []) (st := [vI ((M 164 0) + (M 164 1)), vR G (M 163 44), vR G (M 163 44), vI a2, vI a1, vR G 163]) vd_X12_285 (c_lettersE G l N_2687  hI_N_2687) kd_163 rfl rfl rfl ⟨by decide, by decide⟩ rfl rfl (Nat.le_of_ble_eq_true rfl) dX12_partingOf_211 rfl ?_
                intro r_2693 N_2694 q_2695
                obtain ⟨rfl, q_2695c⟩ := q_2695
                have e_2696 : (N_2687 164 0) = (M 164 0) := by rw [Fr.e hG_N_2687 kd_164 _ rfl, Fr.e hG_N_2680 kd_164 _ rfl, Fr.e hG_N_2672 kd_164 _ rfl, Fr.e hG_N_2669 kd_164 _ rfl, Fr.e hF_N_2455 kd_164 _ rfl]
                have e_2697 : (N_2687 164 1) = (M 164 1) := by rw [Fr.e hG_N_2687 kd_164 _ rfl, Fr.e hG_N_2680 kd_164 _ rfl, Fr.e hG_N_2672 kd_164 _ rfl, Fr.e hG_N_2669 kd_164 _ rfl, Fr.e hF_N_2455 kd_164 _ rfl]
                have e_2698 : (N_2687 164 2) = (M 164 2) := by rw [Fr.e hG_N_2687 kd_164 _ rfl, Fr.e hG_N_2680 kd_164 _ rfl, Fr.e hG_N_2672 kd_164 _ rfl, Fr.e hG_N_2669 kd_164 _ rfl, Fr.e hF_N_2455 kd_164 _ rfl]
                refine kx_topi (e' := (N_2687 164 0) + (N_2687 164 1) + (N_2687 164 2)) (by omega) ?_
                refine kx_bipush 216 F dX12_partingOf_214 (by decide) rfl ?_
                refine kx_Vi 219 (ci := 0) F (As := [vI a1, vI a2, vR G (M 163 44), vR G (M 163 44), vI ((M 164 0) + (M 164 1)), vI ((N_2687 164 0) + (N_2687 164 1) + (N_2687 164 2)), vI 8]) (st := []) vd_X12_477 (c_X12_laysLetter G l N_2687 a1 a2 (M 163 44) (M 163 44) ((M 164 0) + (M 164 1)) ((N_2687 164 0) + (N_2687 164 1) + (N_2687 164 2)) 8 hI_N_2687 hk_2678 hk_2678 (by omega)) kd_163 rfl rfl rfl ⟨by decide, by decide⟩ rfl rfl (Nat.le_of_ble_eq_true rfl) dX12_partingOf_216 rfl ?_
                intro r_2705 N_2706 q_2707
                obtain ⟨hI_N_2706, hG_N_2706, q_2707c⟩ := q_2707
                have hF_N_2706 : Fr f_e_partingOf M N_2706 := Fr.c hF_N_2687 hG_N_2706 rfl
                have J_2710 : ∀ (x5_2709 : Int), 0 ≤ x5_2709 ∧ x5_2709 ≤ 1 ∧ (tot 88 24 N_2706) + x5_2709 ≤ (tot 88 24 N_2455) → KJ true G X N_2706 225 [some (vR G 163), some (vI a1), some (vI a2), some (vI (M 164 0)), some (vI ((M 164 0) + (M 164 1))), some (vI x5_2709), none, none] [] := by
                  intro x5_2709 h_2711
                  refine kx_aload_n 226 F 0 dX12_partingOf_225 rfl rfl rfl ?_
                  refine kx_aload_n 227 F 0 dX12_partingOf_226 rfl rfl rfl ?_
                  refine kx_getr 230 F fl_X12_104 kd_163 rfl rfl (j := 44) rfl dX12_partingOf_227 (v := (M 163 44)) (by rw [Fr.e hG_N_2706 kd_163 _ rfl, Fr.e hG_N_2687 kd_163 _ rfl, Fr.e hG_N_2680 kd_163 _ rfl, Fr.e hG_N_2672 kd_163 _ rfl, Fr.e hG_N_2669 kd_163 _ rfl, Fr.e hF_N_2455 kd_163 _ rfl]) rfl ?_
                  refine kx_Vi 233 (ci := 0) F (As := [vR G (M 163 44)]) (st := []) vd_X12_481 (c_X12_laysSpan G l N_2706 (M 163 44) hI_N_2706 hk_2678) kd_163 rfl rfl rfl ⟨by decide, by decide⟩ rfl rfl (Nat.le_of_ble_eq_true rfl) dX12_partingOf_230 rfl ?_
                  intro r_2712 N_2713 q_2714
                  obtain ⟨hI_N_2713, hG_N_2713, q_2714c⟩ := q_2714
                  have hF_N_2713 : Fr f_e_partingOf M N_2713 := Fr.c hF_N_2706 hG_N_2713 rfl
                  refine kx_if_eq 236 F 107 dX12_partingOf_233 (by decide) rfl (by omega) (fun h_2715 => ?_) (fun h_2715 => ?_)
                  · exact ih_2458 _ (by omega) x5_2709 N_2713 hI_N_2713 hF_N_2713 (by omega) rfl
                  · refine kx_iconst 237 F dX12_partingOf_236 rfl ?_
                    refine kx_istore 239 F 5 (lo' := [some (vR G 163), some (vI a1), some (vI a2), some (vI (M 164 0)), some (vI ((M 164 0) + (M 164 1))), some (vI 1), none, none]) dX12_partingOf_237 (by decide) rfl rfl rfl ?_
                    refine kx_goto 107 F dX12_partingOf_239 (by decide) ?_
                    exact ih_2458 _ (by omega) 1 N_2713 hI_N_2713 hF_N_2713 (by omega) rfl
                refine kx_if_eq 222 F 225 dX12_partingOf_219 (by decide) rfl (by omega) (fun h_2716 => ?_) (fun h_2716 => ?_)
                · exact J_2710 x5_2690 (by omega)
                · refine kx_iconst 223 F dX12_partingOf_222 rfl ?_
                  refine kx_istore 225 F 5 (lo' := [some (vR G 163), some (vI a1), some (vI a2), some (vI (M 164 0)), some (vI ((M 164 0) + (M 164 1))), some (vI 1), none, none]) dX12_partingOf_223 (by decide) rfl rfl rfl ?_
                  exact J_2710 1 (by omega)
              refine kx_if_eq 194 F 197 dX12_partingOf_191 (by decide) rfl (by omega) (fun h_2717 => ?_) (fun h_2717 => ?_)
              · exact J_2691 x5_2683 (by omega)
              · refine kx_iconst 195 F dX12_partingOf_194 rfl ?_
                refine kx_istore 197 F 5 (lo' := [some (vR G 163), some (vI a1), some (vI a2), some (vI (M 164 0)), some (vI ((M 164 0) + (M 164 1))), some (vI 1), none, none]) dX12_partingOf_195 (by decide) rfl rfl rfl ?_
                exact J_2691 1 (by omega)
            refine kx_if_eq 170 F 173 dX12_partingOf_167 (by decide) rfl (by omega) (fun h_2718 => ?_) (fun h_2718 => ?_)
            · exact J_2684 x5_2675 (by omega)
            · refine kx_iconst 171 F dX12_partingOf_170 rfl ?_
              refine kx_istore 173 F 5 (lo' := [some (vR G 163), some (vI a1), some (vI a2), some (vI (M 164 0)), some (vI ((M 164 0) + (M 164 1))), some (vI 1), none, none]) dX12_partingOf_171 (by decide) rfl rfl rfl ?_
              exact J_2684 1 (by omega)
          refine kx_if_eq 146 F 149 dX12_partingOf_143 (by decide) rfl (by omega) (fun h_2719 => ?_) (fun h_2719 => ?_)
          · exact J_2676 r_2668 (by omega)
          · refine kx_iconst 147 F dX12_partingOf_146 rfl ?_
            refine kx_istore 149 F 5 (lo' := [some (vR G 163), some (vI a1), some (vI a2), some (vI (M 164 0)), some (vI ((M 164 0) + (M 164 1))), some (vI 1), none, none]) dX12_partingOf_147 (by decide) rfl rfl rfl ?_
            exact J_2676 1 (by omega)
      exact L_2456 _ 1 N_2013 hI_N_2013 hF_N_2013 (by omega) rfl
    · refine kx_aload_n 43 F 0 dX12_partingOf_42 rfl rfl rfl ?_
      refine kx_getr 46 F fl_X12_101 kd_163 rfl rfl (j := 43) rfl dX12_partingOf_43 (v := (M 163 43)) (by rw [Fr.e hF_N_2013 kd_163 _ rfl]) rfl ?_
      have hk_2720 : kd (M 163 43) = 88 := Inv.r hI_M kd_163 rfl 43 rfl rfl
      refine kx_iload 48 F 5 dX12_partingOf_46 rfl rfl ?_
      refine kx_aload_n 49 F 0 dX12_partingOf_48 rfl rfl rfl ?_
      refine kx_aload_n 50 F 0 dX12_partingOf_49 rfl rfl rfl ?_
      refine kx_iload_n 51 F 1 dX12_partingOf_50 rfl rfl rfl ?_
      refine kx_iconst 52 F dX12_partingOf_51 rfl ?_
      refine kx_Vi 55 (ci := 0) F (As := [vI a1, vI 2]) (st := [vR G 163, vI x5_2012, vR G (M 163 43)]) vd_X12_288 (c_of2 G l N_2013 a1 2 hI_N_2013 (by omega)) kd_163 rfl rfl rfl ⟨by decide, by decide⟩ rfl rfl (Nat.le_of_ble_eq_true rfl) dX12_partingOf_52 rfl ?_
      intro r_2721 N_2722 q_2723
      obtain ⟨rfl, q_2723c⟩ := q_2723
      refine kx_iload 57 F 5 dX12_partingOf_55 rfl rfl ?_
      refine kx_bipush 59 F dX12_partingOf_57 (by decide) rfl ?_
      refine kx_idiv 60 F (v := (x5_2012 / 8)) dX12_partingOf_59 (by omega) (by decide) rfl rfl ?_
      refine kx_Vi 63 (ci := 0) F (As := [vI r_2721, vI (x5_2012 / 8)]) (st := [vI x5_2012, vR G (M 163 43)]) vd_X12_239 (c_X12_isIn G l N_2013 r_2721 (x5_2012 / 8) hI_N_2013 (by omega)) kd_163 rfl rfl rfl ⟨by decide, by decide⟩ rfl rfl (Nat.le_of_ble_eq_true rfl) dX12_partingOf_60 rfl ?_
      intro r_2724 N_2725 q_2726
      obtain ⟨rfl, q_2726c⟩ := q_2726
      refine kx_if_eq 66 F 84 dX12_partingOf_63 (by decide) rfl (by omega) (fun h_2727 => ?_) (fun h_2727 => ?_)
      · refine kx_ldcw 87 (z := 1000000) F dX12_partingOf_84 ct_X12_428 rfl ?_
        refine kx_iast 88 F hk_2720 rfl rfl (by omega) (by decide) dX12_partingOf_87 rfl ?_
        intro N_2728 hM_N_2728
        have hI_N_2728 : Inv true N_2728 := Inv.u hI_N_2013 hM_N_2728 hk_2720 (a := 0) (b := 1000000) rfl rfl rfl (by omega)
        have hF_N_2728 : Fr f_e_partingOf M N_2728 := Fr.u hF_N_2013 hM_N_2728 hk_2720 rfl
        have h_2730 := Inv.g hI_N_2013 hk_2720 rfl x5_2012 (a := 0) (b := 1000000) rfl rfl
        have ht_2729 := tot_u (n := 24) hM_N_2728 hk_2720 (by omega)
        refine kx_aload_n 89 F 0 dX12_partingOf_88 rfl rfl rfl ?_
        refine kx_getr 92 F fl_X12_104 kd_163 rfl rfl (j := 44) rfl dX12_partingOf_89 (v := (M 163 44)) (by rw [hM_N_2728, mu_k kd_163 hk_2720 rfl, Fr.e hF_N_2013 kd_163 _ rfl]) rfl ?_
        have hk_2731 : kd (M 163 44) = 88 := Inv.r hI_M kd_163 rfl 44 rfl rfl
        refine kx_iload 94 F 5 dX12_partingOf_92 rfl rfl ?_
        refine kx_ldcw 97 (z := 1000000) F dX12_partingOf_94 ct_X12_428 rfl ?_
        refine kx_iast 98 F hk_2731 rfl rfl (by omega) (by decide) dX12_partingOf_97 rfl ?_
        intro N_2732 hM_N_2732
        have hI_N_2732 : Inv true N_2732 := Inv.u hI_N_2728 hM_N_2732 hk_2731 (a := 0) (b := 1000000) rfl rfl rfl (by omega)
        have hF_N_2732 : Fr f_e_partingOf M N_2732 := Fr.u hF_N_2728 hM_N_2732 hk_2731 rfl
        have h_2734 := Inv.g hI_N_2728 hk_2731 rfl x5_2012 (a := 0) (b := 1000000) rfl rfl
        have ht_2733 := tot_u (n := 24) hM_N_2732 hk_2731 (by omega)
        refine kx_iinc 101 F 5 (v := x5_2012 + 1) (lo' := [some (vR G 163), some (vI a1), some (vI a2), some (vI (M 164 0)), some (vI ((M 164 0) + (M 164 1))), some (vI (x5_2012 + 1)), none, none]) dX12_partingOf_98 rfl (by omega) (by decide) rfl rfl rfl ?_
        refine kx_goto 35 F dX12_partingOf_101 (by decide) ?_
        exact ih_2016 _ (by omega) (x5_2012 + 1) N_2732 hI_N_2732 hF_N_2732 (by omega) rfl
      · refine kx_iload 68 F 5 dX12_partingOf_66 rfl rfl ?_
        refine kx_bipush 70 F dX12_partingOf_68 (by decide) rfl ?_
        refine kx_irem 71 F (v := (x5_2012 % 8)) dX12_partingOf_70 (by omega) (by decide) rfl rfl ?_
        refine kx_aload_n 72 F 0 dX12_partingOf_71 rfl rfl rfl ?_
        refine kx_iload_n 73 F 2 dX12_partingOf_72 rfl rfl rfl ?_
        refine kx_iconst 74 F dX12_partingOf_73 rfl ?_
        refine kx_Vi 77 (ci := 0) F (As := [vI a2, vI 2]) (st := [vI (x5_2012 % 8), vI x5_2012, vR G (M 163 43)]) vd_X12_288 (c_of2 G l N_2013 a2 2 hI_N_2013 (by omega)) kd_163 rfl rfl rfl ⟨by decide, by decide⟩ rfl rfl (Nat.le_of_ble_eq_true rfl) dX12_partingOf_74 rfl ?_
        intro r_2735 N_2736 q_2737
        obtain ⟨rfl, q_2737c⟩ := q_2737
        refine kx_icmp_ne 80 F 84 dX12_partingOf_77 (by decide) rfl (by omega) (by omega) (fun h_2738 => ?_) (fun h_2738 => ?_)
        · refine kx_ldcw 87 (z := 1000000) F dX12_partingOf_84 ct_X12_428 rfl ?_
          refine kx_iast 88 F hk_2720 rfl rfl (by omega) (by decide) dX12_partingOf_87 rfl ?_
          intro N_2739 hM_N_2739
          have hI_N_2739 : Inv true N_2739 := Inv.u hI_N_2013 hM_N_2739 hk_2720 (a := 0) (b := 1000000) rfl rfl rfl (by omega)
          have hF_N_2739 : Fr f_e_partingOf M N_2739 := Fr.u hF_N_2013 hM_N_2739 hk_2720 rfl
          have h_2741 := Inv.g hI_N_2013 hk_2720 rfl x5_2012 (a := 0) (b := 1000000) rfl rfl
          have ht_2740 := tot_u (n := 24) hM_N_2739 hk_2720 (by omega)
          refine kx_aload_n 89 F 0 dX12_partingOf_88 rfl rfl rfl ?_
          refine kx_getr 92 F fl_X12_104 kd_163 rfl rfl (j := 44) rfl dX12_partingOf_89 (v := (M 163 44)) (by rw [hM_N_2739, mu_k kd_163 hk_2720 rfl, Fr.e hF_N_2013 kd_163 _ rfl]) rfl ?_
          have hk_2742 : kd (M 163 44) = 88 := Inv.r hI_M kd_163 rfl 44 rfl rfl
          refine kx_iload 94 F 5 dX12_partingOf_92 rfl rfl ?_
          refine kx_ldcw 97 (z := 1000000) F dX12_partingOf_94 ct_X12_428 rfl ?_
          refine kx_iast 98 F hk_2742 rfl rfl (by omega) (by decide) dX12_partingOf_97 rfl ?_
          intro N_2743 hM_N_2743
          have hI_N_2743 : Inv true N_2743 := Inv.u hI_N_2739 hM_N_2743 hk_2742 (a := 0) (b := 1000000) rfl rfl rfl (by omega)
          have hF_N_2743 : Fr f_e_partingOf M N_2743 := Fr.u hF_N_2739 hM_N_2743 hk_2742 rfl
          have h_2745 := Inv.g hI_N_2739 hk_2742 rfl x5_2012 (a := 0) (b := 1000000) rfl rfl
          have ht_2744 := tot_u (n := 24) hM_N_2743 hk_2742 (by omega)
          refine kx_iinc 101 F 5 (v := x5_2012 + 1) (lo' := [some (vR G 163), some (vI a1), some (vI a2), some (vI (M 164 0)), some (vI ((M 164 0) + (M 164 1))), some (vI (x5_2012 + 1)), none, none]) dX12_partingOf_98 rfl (by omega) (by decide) rfl rfl rfl ?_
          refine kx_goto 35 F dX12_partingOf_101 (by decide) ?_
          exact ih_2016 _ (by omega) (x5_2012 + 1) N_2743 hI_N_2743 hF_N_2743 (by omega) rfl
        · refine kx_iconst 81 F dX12_partingOf_80 rfl ?_
          refine kx_goto 87 F dX12_partingOf_81 (by decide) ?_
          refine kx_iast 88 F hk_2720 rfl rfl (by omega) (by decide) dX12_partingOf_87 rfl ?_
          intro N_2746 hM_N_2746
          have hI_N_2746 : Inv true N_2746 := Inv.u hI_N_2013 hM_N_2746 hk_2720 (a := 0) (b := 1000000) rfl rfl rfl (by omega)
          have hF_N_2746 : Fr f_e_partingOf M N_2746 := Fr.u hF_N_2013 hM_N_2746 hk_2720 rfl
          have h_2748 := Inv.g hI_N_2013 hk_2720 rfl x5_2012 (a := 0) (b := 1000000) rfl rfl
          have ht_2747 := tot_u (n := 24) hM_N_2746 hk_2720 (by omega)
          refine kx_aload_n 89 F 0 dX12_partingOf_88 rfl rfl rfl ?_
          refine kx_getr 92 F fl_X12_104 kd_163 rfl rfl (j := 44) rfl dX12_partingOf_89 (v := (M 163 44)) (by rw [hM_N_2746, mu_k kd_163 hk_2720 rfl, Fr.e hF_N_2013 kd_163 _ rfl]) rfl ?_
          have hk_2749 : kd (M 163 44) = 88 := Inv.r hI_M kd_163 rfl 44 rfl rfl
          refine kx_iload 94 F 5 dX12_partingOf_92 rfl rfl ?_
          refine kx_ldcw 97 (z := 1000000) F dX12_partingOf_94 ct_X12_428 rfl ?_
          refine kx_iast 98 F hk_2749 rfl rfl (by omega) (by decide) dX12_partingOf_97 rfl ?_
          intro N_2750 hM_N_2750
          have hI_N_2750 : Inv true N_2750 := Inv.u hI_N_2746 hM_N_2750 hk_2749 (a := 0) (b := 1000000) rfl rfl rfl (by omega)
          have hF_N_2750 : Fr f_e_partingOf M N_2750 := Fr.u hF_N_2746 hM_N_2750 hk_2749 rfl
          have h_2752 := Inv.g hI_N_2746 hk_2749 rfl x5_2012 (a := 0) (b := 1000000) rfl rfl
          have ht_2751 := tot_u (n := 24) hM_N_2750 hk_2749 (by omega)
          refine kx_iinc 101 F 5 (v := x5_2012 + 1) (lo' := [some (vR G 163), some (vI a1), some (vI a2), some (vI (M 164 0)), some (vI ((M 164 0) + (M 164 1))), some (vI (x5_2012 + 1)), none, none]) dX12_partingOf_98 rfl (by omega) (by decide) rfl rfl rfl ?_
          refine kx_goto 35 F dX12_partingOf_101 (by decide) ?_
          exact ih_2016 _ (by omega) (x5_2012 + 1) N_2750 hI_N_2750 hF_N_2750 (by omega) rfl
  exact L_2014 _ 0 N_11 hI_N_11 hF_N_11 (by omega) rfl
