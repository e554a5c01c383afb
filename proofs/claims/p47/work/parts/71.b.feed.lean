abbrev f_e_append2 : List (Nat × Int) := [(17, 1), (18, -1)]
set_option maxHeartbeats 4000000 in
set_option maxRecDepth 100000 in
theorem e_append2 (G : KG) (l : Launch) (M : Mem) (c0 : Int) (a1 : Int) (hI_M : Inv false M) (hk_c0 : kd c0 = 17) (hpre : -2147483648 ≤ a1 ∧ a1 ≤ 2147483647 ∧ (M c0 1) ≤ 896) : KC false G l yX1_append cX1_append 3 none (0, 0) [vR G c0, vI a1] M (fun A => kQv false G A (fun (N : Mem) => Inv false N ∧ Fr f_e_append2 M N ∧ ((N c0 1) = (M c0 1) + 4) ∧ (zAWs (M 6) (N 6) (M c0 1) a1 (M c0 1 + 4)))) := by
  refine kx_met (lo := [some (vR G c0), some (vI a1), none]) (by decide) (Nat.le_of_ble_eq_true rfl) rfl ?_
  intro X F hQ
  have hF_M : Fr f_e_append2 M M := Fr.rf _ _
  have h_1 := Inv.g hI_M hk_c0 rfl 1 (a := 0) (b := 900) rfl rfl
  have hk_2 : kd (M c0 4) = 18 := Inv.r hI_M hk_c0 rfl 4 rfl rfl
  have ht6 : M c0 4 = 6 := un_t hk_2
  refine kx_bipush 2 F dX1_append_0 (by decide) rfl ?_
  refine kx_istore_n 3 F 2 (lo' := [some (vR G c0), some (vI a1), some (vI 24)]) dX1_append_2 rfl (by decide) rfl rfl rfl ?_
  have L_67 : ∀ (n_68 : Nat) (x2_65 : Int) (N_66 : Mem), Inv false N_66 → Fr f_e_append2 M N_66 → zAWs (M 6) (N_66 6) (M c0 1) a1 (N_66 c0 1) → (-8) ≤ x2_65 ∧ x2_65 ≤ 24 ∧ 8 * (N_66 c0 1) + x2_65 = 8 * (M c0 1) + 24 ∧ (N_66 c0 1) ≥ (M c0 1) → ((x2_65) - (-8)).toNat = n_68 → KJ false G X N_66 3 [some (vR G c0), some (vI a1), some (vI x2_65)] [] := by
    intro n_68
    refine Nat.strongRecOn n_68 ?_
    intro n_68 ih_69 x2_65 N_66 hI_N_66 hF_N_66 hp_72 h_70 hm_71
    refine kx_iload_n 4 F 2 dX1_append_3 rfl rfl rfl ?_
    refine kx_if_lt 7 F 46 dX1_append_4 (by decide) rfl (by omega) (fun h_73 => ?_) (fun h_73 => ?_)
    · have h_74 := Inv.g hI_N_66 hk_c0 rfl 1 (a := 0) (b := 900) rfl rfl
      exact kx_vret F hQ ⟨hI_N_66, hF_N_66, (by omega), (hp_72.cg rfl rfl (by omega))⟩ dX1_append_46
    · refine kx_aload_n 8 F 0 dX1_append_7 rfl rfl rfl ?_
      refine kx_geti 11 F fl_X1_36 hk_c0 rfl rfl (j := 1) rfl dX1_append_8 (v := (N_66 c0 1)) rfl rfl ?_
      have h_75 := Inv.g hI_N_66 hk_c0 rfl 1 (a := 0) (b := 900) rfl rfl
      refine kx_sipush 14 F dX1_append_11 (by decide) rfl ?_
      refine kx_icmp_ge 17 F 46 dX1_append_14 (by decide) rfl (by omega) (by decide) (fun h_76 => (by exfalso; omega)) (fun h_76 => ?_)
      refine kx_aload_n 18 F 0 dX1_append_17 rfl rfl rfl ?_
      refine kx_getr 21 F fl_X1_25 hk_c0 rfl rfl (j := 4) rfl dX1_append_18 (v := (M c0 4)) (by rw [Fr.e hF_N_66 hk_c0 _ rfl]) rfl ?_
      refine kx_aload_n 22 F 0 dX1_append_21 rfl rfl rfl ?_
      refine kx_geti 25 F fl_X1_36 hk_c0 rfl rfl (j := 1) rfl dX1_append_22 (v := (N_66 c0 1)) rfl rfl ?_
      refine kx_iload_n 26 F 1 dX1_append_25 rfl rfl rfl ?_
      refine kx_iload_n 27 F 2 dX1_append_26 rfl rfl rfl ?_
      refine kx_ishr 28 F (v := (zshr a1 x2_65)) dX1_append_27 rfl rfl ?_
      have h_77 := zshr_rng a1 x2_65
      refine kx_i2b 29 F dX1_append_28 rfl (fun w_78 h_79 hb_w_78 => ?_)
      refine kx_bast 30 F (by omega) hk_2 rfl rfl (by omega) (by decide) dX1_append_29 rfl ?_
      intro N_80 hM_N_80
      have hI_N_80 : Inv false N_80 := Inv.u hI_N_66 hM_N_80 hk_2 (a := (-128)) (b := 127) rfl rfl rfl (by omega)
      have hF_N_80 : Fr f_e_append2 M N_80 := Fr.u hF_N_66 hM_N_80 hk_2 rfl
      refine kx_aload_n 31 F 0 dX1_append_30 rfl rfl rfl ?_
      refine kx_dup 32 F dX1_append_31 rfl rfl ?_
      refine kx_geti 35 F fl_X1_36 hk_c0 rfl rfl (j := 1) rfl dX1_append_32 (v := (N_66 c0 1)) (by rw [hM_N_80, mu_k hk_c0 hk_2 rfl]) rfl ?_
      refine kx_iconst 36 F dX1_append_35 rfl ?_
      refine kx_iadd 37 F (v := (N_66 c0 1) + 1) dX1_append_36 rfl rfl ?_
      refine kx_puti 40 F fw_X1_36 rfl hk_c0 rfl rfl (j := 1) rfl dX1_append_37 rfl ?_
      intro N_81 hM_N_81
      have hI_N_81 : Inv false N_81 := Inv.u hI_N_80 hM_N_81 hk_c0 (a := 0) (b := 900) rfl rfl rfl (by omega)
      have hF_N_81 : Fr f_e_append2 M N_81 := Fr.u hF_N_80 hM_N_81 hk_c0 rfl
      refine kx_iinc 43 F 2 (v := x2_65 - 8) (lo' := [some (vR G c0), some (vI a1), some (vI (x2_65 - 8))]) dX1_append_40 rfl (by omega) (by decide) rfl rfl rfl ?_
      refine kx_goto 3 F dX1_append_43 (by decide) ?_
      have e_82 : (N_81 c0 1) = (N_66 c0 1) + 1 := by rw [hM_N_81, mu_s]
      exact ih_69 _ (by omega) (x2_65 - 8) N_81 hI_N_81 hF_N_81 ((zAWs.step (s := x2_65) hp_72 hM_N_80 ht6 hb_w_78 (by omega) (by omega) rfl).cg (funext (fun k => by rw [hM_N_81, mu_k (by decide +kernel : kd 6 = 18) hk_c0 rfl])) rfl (by omega)) (by omega) rfl
  exact L_67 _ 24 M hI_M hF_M zAWs.nil (by omega) rfl
abbrev f_e_feed2c : List (Nat × Int) := [(17, 1), (18, -1)]
set_option maxHeartbeats 4000000 in
set_option maxRecDepth 100000 in
theorem e_feed2c (G : KG) (l : Launch) (M : Mem) (c0 : Int) (a1 : Int) (a2 : Int) (a3 : Int) (a4 : Int) (a5 : Int) (hI_M : Inv false M) (hk_c0 : kd c0 = 62) (hpre : -2147483648 ≤ a1 ∧ a1 ≤ 2147483647 ∧ -2147483648 ≤ a2 ∧ a2 ≤ 2147483647 ∧ -2147483648 ≤ a3 ∧ a3 ≤ 2147483647 ∧ -2147483648 ≤ a4 ∧ a4 ≤ 2147483647 ∧ -2147483648 ≤ a5 ∧ a5 ≤ 2147483647) : KC false G l yX11_feed cX11_feed 6 (some .int) (1, 22) [vR G c0, vI a1, vI a2, vI a3, vI a4, vI a5] M (fun A => kQi false G A (fun (r : Int) (N : Mem) => Inv false N ∧ Fr f_e_feed2c M N ∧ (((M (M c0 4) 1) ≥ 881 ∧ r = -1 ∧ (N (M c0 4) 1) = (M (M c0 4) 1)) ∨ ((M (M c0 4) 1) ≤ 880 ∧ r = (M (M c0 4) 1) + 20 ∧ (N (M c0 4) 1) = (M (M c0 4) 1) + 20)) ∧ (zFD (M 6) (N 6) (M (M c0 4) 1) a1 a2 a3 a4 a5))) := by
  refine kx_met (lo := [some (vR G c0), some (vI a1), some (vI a2), some (vI a3), some (vI a4), some (vI a5)]) (by decide) (Nat.le_of_ble_eq_true rfl) rfl ?_
  intro X F hQ
  have hF_M : Fr f_e_feed2c M M := Fr.rf _ _
  refine kx_aload_n 1 F 0 dX11_feed_0 rfl rfl rfl ?_
  refine kx_getr 4 F fl_X11_19 hk_c0 rfl rfl (j := 4) rfl dX11_feed_1 (v := (M c0 4)) rfl rfl ?_
  have hk_1 : kd (M c0 4) = 17 := Inv.r hI_M hk_c0 rfl 4 rfl rfl
  refine kx_geti 7 F fl_X11_126 hk_1 rfl rfl (j := 1) rfl dX11_feed_4 (v := (M (M c0 4) 1)) rfl rfl ?_
  have h_2 := Inv.g hI_M hk_1 rfl 1 (a := 0) (b := 900) rfl rfl
  refine kx_bipush 9 F dX11_feed_7 (by decide) rfl ?_
  refine kx_iadd 10 F (v := (M (M c0 4) 1) + 20) dX11_feed_9 rfl rfl ?_
  refine kx_sipush 13 F dX11_feed_10 (by decide) rfl ?_
  refine kx_icmp_le 16 F 18 dX11_feed_13 (by decide) rfl (by omega) (by decide) (fun h_3 => ?_) (fun h_3 => ?_)
  · refine kx_aload_n 19 F 0 dX11_feed_18 rfl rfl rfl ?_
    refine kx_getr 22 F fl_X11_19 hk_c0 rfl rfl (j := 4) rfl dX11_feed_19 (v := (M c0 4)) rfl rfl ?_
    refine kx_iload_n 23 F 1 dX11_feed_22 rfl rfl rfl ?_
    refine kx_Vv 26 (ci := 0) F (As := [vI a1]) (st := []) vd_X11_129 (e_append2 G l M (M c0 4) a1 hI_M hk_1 (by omega)) hk_1 rfl rfl rfl ⟨by decide, by decide⟩ rfl rfl (Nat.le_of_ble_eq_true rfl) dX11_feed_23 rfl ?_
    intro N_4 q_5
    obtain ⟨hI_N_4, hG_N_4, q_5c, hw_N_4⟩ := q_5
    have hF_N_4 : Fr f_e_feed2c M N_4 := Fr.c hF_M hG_N_4 rfl
    have h_6 := Inv.g hI_N_4 hk_1 rfl 1 (a := 0) (b := 900) rfl rfl
    refine kx_aload_n 27 F 0 dX11_feed_26 rfl rfl rfl ?_
    refine kx_getr 30 F fl_X11_19 hk_c0 rfl rfl (j := 4) rfl dX11_feed_27 (v := (M c0 4)) (by rw [Fr.e hG_N_4 hk_c0 _ rfl]) rfl ?_
    refine kx_iload_n 31 F 2 dX11_feed_30 rfl rfl rfl ?_
    refine kx_Vv 34 (ci := 0) F (As := [vI a2]) (st := []) vd_X11_129 (e_append2 G l N_4 (M c0 4) a2 hI_N_4 hk_1 (by omega)) hk_1 rfl rfl rfl ⟨by decide, by decide⟩ rfl rfl (Nat.le_of_ble_eq_true rfl) dX11_feed_31 rfl ?_
    intro N_7 q_8
    obtain ⟨hI_N_7, hG_N_7, q_8c, hw_N_7⟩ := q_8
    have hF_N_7 : Fr f_e_feed2c M N_7 := Fr.c hF_N_4 hG_N_7 rfl
    have h_9 := Inv.g hI_N_7 hk_1 rfl 1 (a := 0) (b := 900) rfl rfl
    refine kx_aload_n 35 F 0 dX11_feed_34 rfl rfl rfl ?_
    refine kx_getr 38 F fl_X11_19 hk_c0 rfl rfl (j := 4) rfl dX11_feed_35 (v := (M c0 4)) (by rw [Fr.e hG_N_7 hk_c0 _ rfl, Fr.e hG_N_4 hk_c0 _ rfl]) rfl ?_
    refine kx_iload_n 39 F 3 dX11_feed_38 rfl rfl rfl ?_
    refine kx_Vv 42 (ci := 0) F (As := [vI a3]) (st := []) vd_X11_129 (e_append2 G l N_7 (M c0 4) a3 hI_N_7 hk_1 (by omega)) hk_1 rfl rfl rfl ⟨by decide, by decide⟩ rfl rfl (Nat.le_of_ble_eq_true rfl) dX11_feed_39 rfl ?_
    intro N_10 q_11
    obtain ⟨hI_N_10, hG_N_10, q_11c, hw_N_10⟩ := q_11
    have hF_N_10 : Fr f_e_feed2c M N_10 := Fr.c hF_N_7 hG_N_10 rfl
    have h_12 := Inv.g hI_N_10 hk_1 rfl 1 (a := 0) (b := 900) rfl rfl
    refine kx_aload_n 43 F 0 dX11_feed_42 rfl rfl rfl ?_
    refine kx_getr 46 F fl_X11_19 hk_c0 rfl rfl (j := 4) rfl dX11_feed_43 (v := (M c0 4)) (by rw [Fr.e hG_N_10 hk_c0 _ rfl, Fr.e hG_N_7 hk_c0 _ rfl, Fr.e hG_N_4 hk_c0 _ rfl]) rfl ?_
    refine kx_iload 48 F 4 dX11_feed_46 rfl rfl ?_
    refine kx_Vv 51 (ci := 0) F (As := [vI a4]) (st := []) vd_X11_129 (e_append2 G l N_10 (M c0 4) a4 hI_N_10 hk_1 (by omega)) hk_1 rfl rfl rfl ⟨by decide, by decide⟩ rfl rfl (Nat.le_of_ble_eq_true rfl) dX11_feed_48 rfl ?_
    intro N_13 q_14
    obtain ⟨hI_N_13, hG_N_13, q_14c, hw_N_13⟩ := q_14
    have hF_N_13 : Fr f_e_feed2c M N_13 := Fr.c hF_N_10 hG_N_13 rfl
    have h_15 := Inv.g hI_N_13 hk_1 rfl 1 (a := 0) (b := 900) rfl rfl
    refine kx_aload_n 52 F 0 dX11_feed_51 rfl rfl rfl ?_
    refine kx_getr 55 F fl_X11_19 hk_c0 rfl rfl (j := 4) rfl dX11_feed_52 (v := (M c0 4)) (by rw [Fr.e hG_N_13 hk_c0 _ rfl, Fr.e hG_N_10 hk_c0 _ rfl, Fr.e hG_N_7 hk_c0 _ rfl, Fr.e hG_N_4 hk_c0 _ rfl]) rfl ?_
    refine kx_iload 57 F 5 dX11_feed_55 rfl rfl ?_
    refine kx_Vv 60 (ci := 0) F (As := [vI a5]) (st := []) vd_X11_129 (e_append2 G l N_13 (M c0 4) a5 hI_N_13 hk_1 (by omega)) hk_1 rfl rfl rfl ⟨by decide, by decide⟩ rfl rfl (Nat.le_of_ble_eq_true rfl) dX11_feed_57 rfl ?_
    intro N_16 q_17
    obtain ⟨hI_N_16, hG_N_16, q_17c, hw_N_16⟩ := q_17
    have hF_N_16 : Fr f_e_feed2c M N_16 := Fr.c hF_N_13 hG_N_16 rfl
    have h_18 := Inv.g hI_N_16 hk_1 rfl 1 (a := 0) (b := 900) rfl rfl
    refine kx_aload_n 61 F 0 dX11_feed_60 rfl rfl rfl ?_
    refine kx_getr 64 F fl_X11_19 hk_c0 rfl rfl (j := 4) rfl dX11_feed_61 (v := (M c0 4)) (by rw [Fr.e hG_N_16 hk_c0 _ rfl, Fr.e hG_N_13 hk_c0 _ rfl, Fr.e hG_N_10 hk_c0 _ rfl, Fr.e hG_N_7 hk_c0 _ rfl, Fr.e hG_N_4 hk_c0 _ rfl]) rfl ?_
    refine kx_geti 67 F fl_X11_126 hk_1 rfl rfl (j := 1) rfl dX11_feed_64 (v := (N_16 (M c0 4) 1)) rfl rfl ?_
    exact kx_iret F hQ ⟨hI_N_16, hF_N_16, (by omega), (Or.inr ⟨by omega, N_4 6, N_7 6, N_10 6, N_13 6, hw_N_4, hw_N_7.cg rfl (by omega) (by omega), hw_N_10.cg rfl (by omega) (by omega), hw_N_13.cg rfl (by omega) (by omega), hw_N_16.cg rfl (by omega) (by omega)⟩)⟩ dX11_feed_67
  · refine kx_iconst 17 F dX11_feed_16 rfl ?_
    exact kx_iret F hQ ⟨hI_M, hF_M, (by omega), (Or.inl ⟨by omega, rfl⟩)⟩ dX11_feed_17
set_option maxHeartbeats 4000000 in
set_option maxRecDepth 100000 in
theorem e_X11_fault (G : KG) (l : Launch) (M : Mem) (c0 : Int) (a1 : Int) (hI_M : Inv false M) (hk_c0 : kd c0 = 62) (hpre : -2147483648 ≤ a1 ∧ a1 ≤ 2147483647) : KC false G l yX11_fault cX11_fault 2 (some .int) (0, 0) [vR G c0, vI a1] M (fun A => kQi false G A (fun (r : Int) (N : Mem) => M = N ∧ ((a1 = 0 ∧ r = (M (M c0 4) 2)) ∨ (a1 = 1 ∧ r = (M (M c0 4) 3)) ∨ (a1 < 0 ∧ r = -1) ∨ (a1 > 1 ∧ r = -1)))) := by
  refine kx_met (lo := [some (vR G c0), some (vI a1)]) (by decide) (Nat.le_of_ble_eq_true rfl) rfl ?_
  intro X F hQ
  have hk_Mc04 : kd (M c0 4) = 17 := Inv.r hI_M hk_c0 rfl 4 rfl rfl
  have h_1 := Inv.g hI_M hk_Mc04 rfl 1 (a := 0) (b := 900) rfl rfl
  refine kx_iload_n 1 F 1 dX11_fault_0 rfl rfl rfl ?_
  refine kx_if_ne 4 F 12 dX11_fault_1 (by decide) rfl (by omega) (fun h_2 => ?_) (fun h_2 => ?_)
  · refine kx_iload_n 13 F 1 dX11_fault_12 rfl rfl rfl ?_
    refine kx_iconst 14 F dX11_fault_13 rfl ?_
    refine kx_icmp_ne 17 F 27 dX11_fault_14 (by decide) rfl (by omega) (by decide) (fun h_3 => ?_) (fun h_3 => ?_)
    · refine kx_iconst 28 F dX11_fault_27 rfl ?_
      have h_4 := Inv.g hI_M hk_Mc04 rfl 2 (a := (-2147483648)) (b := 2147483647) rfl rfl
      have h_5 := Inv.g hI_M hk_Mc04 rfl 3 (a := (-2147483648)) (b := 2147483647) rfl rfl
      exact kx_iret F hQ ⟨rfl, (by omega)⟩ dX11_fault_28
    · refine kx_aload_n 18 F 0 dX11_fault_17 rfl rfl rfl ?_
      refine kx_getr 21 F fl_X11_19 hk_c0 rfl rfl (j := 4) rfl dX11_fault_18 (v := (M c0 4)) rfl rfl ?_
      refine kx_geti 24 F fl_X11_151 hk_Mc04 rfl rfl (j := 3) rfl dX11_fault_21 (v := (M (M c0 4) 3)) rfl rfl ?_
      have h_6 := Inv.g hI_M hk_Mc04 rfl 3 (a := (-2147483648)) (b := 2147483647) rfl rfl
      refine kx_goto 28 F dX11_fault_24 (by decide) ?_
      have h_7 := Inv.g hI_M hk_Mc04 rfl 2 (a := (-2147483648)) (b := 2147483647) rfl rfl
      exact kx_iret F hQ ⟨rfl, (Or.inr (Or.inl (by omega)))⟩ dX11_fault_28
  · refine kx_aload_n 5 F 0 dX11_fault_4 rfl rfl rfl ?_
    refine kx_getr 8 F fl_X11_19 hk_c0 rfl rfl (j := 4) rfl dX11_fault_5 (v := (M c0 4)) rfl rfl ?_
    refine kx_geti 11 F fl_X11_148 hk_Mc04 rfl rfl (j := 2) rfl dX11_fault_8 (v := (M (M c0 4) 2)) rfl rfl ?_
    have h_8 := Inv.g hI_M hk_Mc04 rfl 2 (a := (-2147483648)) (b := 2147483647) rfl rfl
    have h_9 := Inv.g hI_M hk_Mc04 rfl 3 (a := (-2147483648)) (b := 2147483647) rfl rfl
    exact kx_iret F hQ ⟨rfl, (Or.inl (by omega))⟩ dX11_fault_11
abbrev f_e_four2 : List (Nat × Int) := [(64, 10), (70, -1)]
set_option maxHeartbeats 4000000 in
set_option maxRecDepth 100000 in
theorem e_four2 (G : KG) (l : Launch) (M : Mem) (a1 : Int) (hI_M : Inv true M) (hpre : -2147483648 ≤ a1 ∧ a1 ≤ 2147483647 ∧ (M 163 10) ≤ 896) : KC true G l yX12_four cX12_four 3 none (0, 0) [vR G 163, vI a1] M (fun A => kQv true G A (fun (N : Mem) => Inv true N ∧ Fr f_e_four2 M N ∧ ((N 163 10) = (M 163 10) + 4) ∧ (zAWs (M 169) (N 169) (M 163 10) a1 (M 163 10 + 4)))) := by
  refine kx_met (lo := [some (vR G 163), some (vI a1), none]) (by decide) (Nat.le_of_ble_eq_true rfl) rfl ?_
  intro X F hQ
  have hF_M : Fr f_e_four2 M M := Fr.rf _ _
  have h_1 := Inv.g hI_M kd_163 rfl 10 (a := 0) (b := 900) rfl rfl
  refine kx_bipush 2 F dX12_four_0 (by decide) rfl ?_
  refine kx_istore_n 3 F 2 (lo' := [some (vR G 163), some (vI a1), some (vI 24)]) dX12_four_2 rfl (by decide) rfl rfl rfl ?_
  have L_60 : ∀ (n_61 : Nat) (x2_58 : Int) (N_59 : Mem), Inv true N_59 → Fr f_e_four2 M N_59 → zAWs (M 169) (N_59 169) (M 163 10) a1 (N_59 163 10) → (-8) ≤ x2_58 ∧ x2_58 ≤ 24 ∧ 8 * (N_59 163 10) + x2_58 = 8 * (M 163 10) + 24 ∧ (N_59 163 10) ≥ (M 163 10) → ((x2_58) - (-8)).toNat = n_61 → KJ true G X N_59 3 [some (vR G 163), some (vI a1), some (vI x2_58)] [] := by
    intro n_61
    refine Nat.strongRecOn n_61 ?_
    intro n_61 ih_62 x2_58 N_59 hI_N_59 hF_N_59 hp_65 h_63 hm_64
    refine kx_iload_n 4 F 2 dX12_four_3 rfl rfl rfl ?_
    refine kx_if_lt 7 F 36 dX12_four_4 (by decide) rfl (by omega) (fun h_66 => ?_) (fun h_66 => ?_)
    · have h_67 := Inv.g hI_N_59 kd_163 rfl 10 (a := 0) (b := 900) rfl rfl
      exact kx_vret F hQ ⟨hI_N_59, hF_N_59, (by omega), (hp_65.cg rfl rfl (by omega))⟩ dX12_four_36
    · refine kx_aload_n 8 F 0 dX12_four_7 rfl rfl rfl ?_
      refine kx_getr 11 F fl_X12_30 kd_163 rfl rfl (j := 8) rfl dX12_four_8 (v := 169) (uq_169 (Inv.r hI_N_59 kd_163 rfl 8 rfl rfl)) rfl ?_
      refine kx_aload_n 12 F 0 dX12_four_11 rfl rfl rfl ?_
      refine kx_geti 15 F fl_X12_147 kd_163 rfl rfl (j := 10) rfl dX12_four_12 (v := (N_59 163 10)) rfl rfl ?_
      have h_68 := Inv.g hI_N_59 kd_163 rfl 10 (a := 0) (b := 900) rfl rfl
      refine kx_iload_n 16 F 1 dX12_four_15 rfl rfl rfl ?_
      refine kx_iload_n 17 F 2 dX12_four_16 rfl rfl rfl ?_
      refine kx_ishr 18 F (v := (zshr a1 x2_58)) dX12_four_17 rfl rfl ?_
      have h_69 := zshr_rng a1 x2_58
      refine kx_i2b 19 F dX12_four_18 rfl (fun w_70 h_71 hb_w_70 => ?_)
      refine kx_bast 20 F (by omega) kd_169 rfl rfl (by omega) (by decide) dX12_four_19 rfl ?_
      intro N_72 hM_N_72
      have hI_N_72 : Inv true N_72 := Inv.u hI_N_59 hM_N_72 kd_169 (a := (-128)) (b := 127) rfl rfl rfl (by omega)
      have hF_N_72 : Fr f_e_four2 M N_72 := Fr.u hF_N_59 hM_N_72 kd_169 rfl
      refine kx_aload_n 21 F 0 dX12_four_20 rfl rfl rfl ?_
      refine kx_dup 22 F dX12_four_21 rfl rfl ?_
      refine kx_geti 25 F fl_X12_147 kd_163 rfl rfl (j := 10) rfl dX12_four_22 (v := (N_59 163 10)) (by rw [hM_N_72, mu_k kd_163 kd_169 rfl]) rfl ?_
      refine kx_iconst 26 F dX12_four_25 rfl ?_
      refine kx_iadd 27 F (v := (N_59 163 10) + 1) dX12_four_26 rfl rfl ?_
      refine kx_puti 30 F fw_X12_147 rfl kd_163 rfl rfl (j := 10) rfl dX12_four_27 rfl ?_
      intro N_73 hM_N_73
      have hI_N_73 : Inv true N_73 := Inv.u hI_N_72 hM_N_73 kd_163 (a := 0) (b := 900) rfl rfl rfl (by omega)
      have hF_N_73 : Fr f_e_four2 M N_73 := Fr.u hF_N_72 hM_N_73 kd_163 rfl
      refine kx_iinc 33 F 2 (v := x2_58 - 8) (lo' := [some (vR G 163), some (vI a1), some (vI (x2_58 - 8))]) dX12_four_30 rfl (by omega) (by decide) rfl rfl rfl ?_
      refine kx_goto 3 F dX12_four_33 (by decide) ?_
      have e_74 : (N_73 163 10) = (N_59 163 10) + 1 := by rw [hM_N_73, mu_s]
      exact ih_62 _ (by omega) (x2_58 - 8) N_73 hI_N_73 hF_N_73 ((zAWs.stepm (s := x2_58) hp_65 hM_N_72 hb_w_70 (by omega) (by omega) rfl).cg (funext (fun k => by rw [hM_N_73, mu_k (by decide +kernel : kd 169 = 70) kd_163 rfl])) rfl (by omega)) (by omega) rfl
  exact L_60 _ 24 M hI_M hF_M zAWs.nil (by omega) rfl
abbrev f_e_feed2 : List (Nat × Int) := [(64, 10), (70, -1)]
set_option maxHeartbeats 4000000 in
set_option maxRecDepth 100000 in
theorem e_feed2 (G : KG) (l : Launch) (M : Mem) (a1 : Int) (a2 : Int) (a3 : Int) (a4 : Int) (a5 : Int) (hI_M : Inv true M) (hpre : -2147483648 ≤ a1 ∧ a1 ≤ 2147483647 ∧ -2147483648 ≤ a2 ∧ a2 ≤ 2147483647 ∧ -2147483648 ≤ a3 ∧ a3 ≤ 2147483647 ∧ -2147483648 ≤ a4 ∧ a4 ≤ 2147483647 ∧ -2147483648 ≤ a5 ∧ a5 ≤ 2147483647) : KC true G l yX12_feed cX12_feed 6 (some .int) (1, 22) [vR G 163, vI a1, vI a2, vI a3, vI a4, vI a5] M (fun A => kQi true G A (fun (r : Int) (N : Mem) => Inv true N ∧ Fr f_e_feed2 M N ∧ (((M 163 10) ≥ 881 ∧ r = -1 ∧ (N 163 10) = (M 163 10)) ∨ ((M 163 10) ≤ 880 ∧ r = (M 163 10) + 20 ∧ (N 163 10) = (M 163 10) + 20)) ∧ (zFD (M 169) (N 169) (M 163 10) a1 a2 a3 a4 a5))) := by
  refine kx_met (lo := [some (vR G 163), some (vI a1), some (vI a2), some (vI a3), some (vI a4), some (vI a5)]) (by decide) (Nat.le_of_ble_eq_true rfl) rfl ?_
  intro X F hQ
  have hF_M : Fr f_e_feed2 M M := Fr.rf _ _
  refine kx_aload_n 1 F 0 dX12_feed_0 rfl rfl rfl ?_
  refine kx_geti 4 F fl_X12_147 kd_163 rfl rfl (j := 10) rfl dX12_feed_1 (v := (M 163 10)) rfl rfl ?_
  have h_1 := Inv.g hI_M kd_163 rfl 10 (a := 0) (b := 900) rfl rfl
  refine kx_bipush 6 F dX12_feed_4 (by decide) rfl ?_
  refine kx_iadd 7 F (v := (M 163 10) + 20) dX12_feed_6 rfl rfl ?_
  refine kx_sipush 10 F dX12_feed_7 (by decide) rfl ?_
  refine kx_icmp_le 13 F 15 dX12_feed_10 (by decide) rfl (by omega) (by decide) (fun h_2 => ?_) (fun h_2 => ?_)
  · refine kx_aload_n 16 F 0 dX12_feed_15 rfl rfl rfl ?_
    refine kx_iload_n 17 F 1 dX12_feed_16 rfl rfl rfl ?_
    refine kx_Vv 20 (ci := 0) F (As := [vI a1]) (st := []) vd_X12_150 (e_four2 G l M a1 hI_M (by omega)) kd_163 rfl rfl rfl ⟨by decide, by decide⟩ rfl rfl (Nat.le_of_ble_eq_true rfl) dX12_feed_17 rfl ?_
    intro N_3 q_4
    obtain ⟨hI_N_3, hG_N_3, q_4c, hw_N_3⟩ := q_4
    have hF_N_3 : Fr f_e_feed2 M N_3 := Fr.c hF_M hG_N_3 rfl
    have h_5 := Inv.g hI_N_3 kd_163 rfl 10 (a := 0) (b := 900) rfl rfl
    refine kx_aload_n 21 F 0 dX12_feed_20 rfl rfl rfl ?_
    refine kx_iload_n 22 F 2 dX12_feed_21 rfl rfl rfl ?_
    refine kx_Vv 25 (ci := 0) F (As := [vI a2]) (st := []) vd_X12_150 (e_four2 G l N_3 a2 hI_N_3 (by omega)) kd_163 rfl rfl rfl ⟨by decide, by decide⟩ rfl rfl (Nat.le_of_ble_eq_true rfl) dX12_feed_22 rfl ?_
    intro N_6 q_7
    obtain ⟨hI_N_6, hG_N_6, q_7c, hw_N_6⟩ := q_7
    have hF_N_6 : Fr f_e_feed2 M N_6 := Fr.c hF_N_3 hG_N_6 rfl
    have h_8 := Inv.g hI_N_6 kd_163 rfl 10 (a := 0) (b := 900) rfl rfl
    refine kx_aload_n 26 F 0 dX12_feed_25 rfl rfl rfl ?_
    refine kx_iload_n 27 F 3 dX12_feed_26 rfl rfl rfl ?_
    refine kx_Vv 30 (ci := 0) F (As := [vI a3]) (st := []) vd_X12_150 (e_four2 G l N_6 a3 hI_N_6 (by omega)) kd_163 rfl rfl rfl ⟨by decide, by decide⟩ rfl rfl (Nat.le_of_ble_eq_true rfl) dX12_feed_27 rfl ?_
    intro N_9 q_10
    obtain ⟨hI_N_9, hG_N_9, q_10c, hw_N_9⟩ := q_10
    have hF_N_9 : Fr f_e_feed2 M N_9 := Fr.c hF_N_6 hG_N_9 rfl
    have h_11 := Inv.g hI_N_9 kd_163 rfl 10 (a := 0) (b := 900) rfl rfl
    refine kx_aload_n 31 F 0 dX12_feed_30 rfl rfl rfl ?_
    refine kx_iload 33 F 4 dX12_feed_31 rfl rfl ?_
    refine kx_Vv 36 (ci := 0) F (As := [vI a4]) (st := []) vd_X12_150 (e_four2 G l N_9 a4 hI_N_9 (by omega)) kd_163 rfl rfl rfl ⟨by decide, by decide⟩ rfl rfl (Nat.le_of_ble_eq_true rfl) dX12_feed_33 rfl ?_
    intro N_12 q_13
    obtain ⟨hI_N_12, hG_N_12, q_13c, hw_N_12⟩ := q_13
    have hF_N_12 : Fr f_e_feed2 M N_12 := Fr.c hF_N_9 hG_N_12 rfl
    have h_14 := Inv.g hI_N_12 kd_163 rfl 10 (a := 0) (b := 900) rfl rfl
    refine kx_aload_n 37 F 0 dX12_feed_36 rfl rfl rfl ?_
    refine kx_iload 39 F 5 dX12_feed_37 rfl rfl ?_
    refine kx_Vv 42 (ci := 0) F (As := [vI a5]) (st := []) vd_X12_150 (e_four2 G l N_12 a5 hI_N_12 (by omega)) kd_163 rfl rfl rfl ⟨by decide, by decide⟩ rfl rfl (Nat.le_of_ble_eq_true rfl) dX12_feed_39 rfl ?_
    intro N_15 q_16
    obtain ⟨hI_N_15, hG_N_15, q_16c, hw_N_15⟩ := q_16
    have hF_N_15 : Fr f_e_feed2 M N_15 := Fr.c hF_N_12 hG_N_15 rfl
    have h_17 := Inv.g hI_N_15 kd_163 rfl 10 (a := 0) (b := 900) rfl rfl
    refine kx_aload_n 43 F 0 dX12_feed_42 rfl rfl rfl ?_
    refine kx_geti 46 F fl_X12_147 kd_163 rfl rfl (j := 10) rfl dX12_feed_43 (v := (N_15 163 10)) rfl rfl ?_
    exact kx_iret F hQ ⟨hI_N_15, hF_N_15, (by omega), (Or.inr ⟨by omega, N_3 169, N_6 169, N_9 169, N_12 169, hw_N_3, hw_N_6.cg rfl (by omega) (by omega), hw_N_9.cg rfl (by omega) (by omega), hw_N_12.cg rfl (by omega) (by omega), hw_N_15.cg rfl (by omega) (by omega)⟩)⟩ dX12_feed_46
  · refine kx_iconst 14 F dX12_feed_13 rfl ?_
    exact kx_iret F hQ ⟨hI_M, hF_M, (by omega), (Or.inl ⟨by omega, rfl⟩)⟩ dX12_feed_14
set_option maxHeartbeats 4000000 in
set_option maxRecDepth 100000 in
theorem e_fault2 (G : KG) (l : Launch) (M : Mem) (a1 : Int) (hI_M : Inv true M) (hpre : -2147483648 ≤ a1 ∧ a1 ≤ 2147483647) : KC true G l yX12_fault cX12_fault 2 (some .int) (0, 0) [vR G 163, vI a1] M (fun A => kQi true G A (fun (r : Int) (N : Mem) => M = N ∧ ((a1 = 0 ∧ r = (M 163 16)) ∨ (a1 = 1 ∧ r = (M 163 17)) ∨ (a1 < 0 ∧ r = -1) ∨ (a1 > 1 ∧ r = -1)))) := by
  refine kx_met (lo := [some (vR G 163), some (vI a1)]) (by decide) (Nat.le_of_ble_eq_true rfl) rfl ?_
  intro X F hQ
  refine kx_iload_n 1 F 1 dX12_fault_0 rfl rfl rfl ?_
  refine kx_if_ne 4 F 11 dX12_fault_1 (by decide) rfl (by omega) (fun h_1 => ?_) (fun h_1 => ?_)
  · refine kx_iload_n 12 F 1 dX12_fault_11 rfl rfl rfl ?_
    refine kx_iconst 13 F dX12_fault_12 rfl ?_
    refine kx_icmp_ne 16 F 23 dX12_fault_13 (by decide) rfl (by omega) (by decide) (fun h_2 => ?_) (fun h_2 => ?_)
    · refine kx_iconst 24 F dX12_fault_23 rfl ?_
      have h_3 := Inv.g hI_M kd_163 rfl 16 (a := (-2147483648)) (b := 2147483647) rfl rfl
      have h_4 := Inv.g hI_M kd_163 rfl 17 (a := (-2147483648)) (b := 2147483647) rfl rfl
      exact kx_iret F hQ ⟨rfl, (by omega)⟩ dX12_fault_24
    · refine kx_aload_n 17 F 0 dX12_fault_16 rfl rfl rfl ?_
      refine kx_geti 20 F fl_X12_41 kd_163 rfl rfl (j := 17) rfl dX12_fault_17 (v := (M 163 17)) rfl rfl ?_
      have h_5 := Inv.g hI_M kd_163 rfl 17 (a := (-2147483648)) (b := 2147483647) rfl rfl
      refine kx_goto 24 F dX12_fault_20 (by decide) ?_
      have h_6 := Inv.g hI_M kd_163 rfl 16 (a := (-2147483648)) (b := 2147483647) rfl rfl
      exact kx_iret F hQ ⟨rfl, (Or.inr (Or.inl (by omega)))⟩ dX12_fault_24
  · refine kx_aload_n 5 F 0 dX12_fault_4 rfl rfl rfl ?_
    refine kx_geti 8 F fl_X12_37 kd_163 rfl rfl (j := 16) rfl dX12_fault_5 (v := (M 163 16)) rfl rfl ?_
    have h_7 := Inv.g hI_M kd_163 rfl 16 (a := (-2147483648)) (b := 2147483647) rfl rfl
    refine kx_goto 24 F dX12_fault_8 (by decide) ?_
    have h_8 := Inv.g hI_M kd_163 rfl 17 (a := (-2147483648)) (b := 2147483647) rfl rfl
    exact kx_iret F hQ ⟨rfl, (Or.inl (by omega))⟩ dX12_fault_24
