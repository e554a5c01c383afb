set_option maxHeartbeats 4000000 in
set_option maxRecDepth 100000 in
theorem e_cut3 (G : KG) (l : Launch) (M : Mem) (a0 : Int) (a1 : Int) (hI_M : Inv false M) (hpre : -9223372036854775808 ≤ a0 ∧ a0 ≤ 9223372036854775807 ∧ -2147483648 ≤ a1 ∧ a1 ≤ 2147483647) : KC false G l yX9_cut cX9_cut 3 (some .long) (0, 0) [vL a0, vI a1] M (fun A => kQl false G A (fun (r : Int) (N : Mem) => M = N ∧ (r ≥ -9223372036854775808 ∧ r ≤ 9223372036854775807) ∧ (r = zcut a0 a1))) := by
  refine kx_met (lo := [some (vL a0), none, some (vI a1)]) (by decide) (Nat.le_of_ble_eq_true rfl) rfl ?_
  intro X F hQ
  refine kx_iload_n 1 F 2 dX9_cut_0 rfl rfl rfl ?_
  have h_1 : a1 = 0 ∨ a1 = 1 ∨ a1 = 2 ∨ (a1 < 0 ∨ 2 < a1) := by omega
  rcases h_1 with h_1 | h_1 | h_1 | h_1
  · rw [show vI a1 = vI 0 by rw [h_1]]
    refine kx_tableIn 28 F (by decide) dX9_cut_1 (by decide) rfl (by decide) ?_
    refine kx_lload_n 29 F 0 dX9_cut_28 rfl rfl rfl ?_
    refine kx_l2i 30 F dX9_cut_29 rfl ?_
    refine kx_wrapi (fun w_2 h_3 he_w_2 => ?_)
    refine kx_i2b 31 F dX9_cut_30 rfl (fun w_4 h_5 he_w_4 => ?_)
    refine kx_i2l 32 F dX9_cut_31 (by omega) rfl ?_
    exact kx_lret F hQ ⟨rfl, (by omega), (by unfold zcut; rw [if_pos (by omega), ← he_w_2]; exact he_w_4)⟩ dX9_cut_32
  · rw [show vI a1 = vI 1 by rw [h_1]]
    refine kx_tableIn 33 F (by decide) dX9_cut_1 (by decide) rfl (by decide) ?_
    refine kx_lload_n 34 F 0 dX9_cut_33 rfl rfl rfl ?_
    refine kx_l2i 35 F dX9_cut_34 rfl ?_
    refine kx_wrapi (fun w_6 h_7 he_w_6 => ?_)
    refine kx_i2s 36 F dX9_cut_35 rfl (fun w_8 h_9 he_w_8 => ?_)
    refine kx_i2l 37 F dX9_cut_36 (by omega) rfl ?_
    exact kx_lret F hQ ⟨rfl, (by omega), (by unfold zcut; rw [if_neg (by omega), if_pos (by omega), ← he_w_6]; exact he_w_8)⟩ dX9_cut_37
  · rw [show vI a1 = vI 2 by rw [h_1]]
    refine kx_tableIn 38 F (by decide) dX9_cut_1 (by decide) rfl (by decide) ?_
    refine kx_lload_n 39 F 0 dX9_cut_38 rfl rfl rfl ?_
    refine kx_l2i 40 F dX9_cut_39 rfl ?_
    refine kx_wrapi (fun w_10 h_11 he_w_10 => ?_)
    refine kx_i2l 41 F dX9_cut_40 (by omega) rfl ?_
    exact kx_lret F hQ ⟨rfl, (by omega), (by unfold zcut; rw [if_neg (by omega), if_neg (by omega), if_pos (by omega)]; exact he_w_10)⟩ dX9_cut_41
  · refine kx_tableOut 42 F (by omega) dX9_cut_1 h_1 (by decide) ?_
    refine kx_lload_n 43 F 0 dX9_cut_42 rfl rfl rfl ?_
    exact kx_lret F hQ ⟨rfl, (by omega), (by unfold zcut; rw [if_neg (by omega), if_neg (by omega), if_neg (by omega)])⟩ dX9_cut_43
set_option maxHeartbeats 4000000 in
set_option maxRecDepth 100000 in
theorem e_cut3m (G : KG) (l : Launch) (M : Mem) (a0 : Int) (a1 : Int) (hI_M : Inv true M) (hpre : -9223372036854775808 ≤ a0 ∧ a0 ≤ 9223372036854775807 ∧ -2147483648 ≤ a1 ∧ a1 ≤ 2147483647) : KC true G l yX12_cut cX12_cut 3 (some .long) (0, 0) [vL a0, vI a1] M (fun A => kQl true G A (fun (r : Int) (N : Mem) => M = N ∧ (r ≥ -9223372036854775808 ∧ r ≤ 9223372036854775807) ∧ (r = zcut a0 a1))) := by
  refine kx_met (lo := [some (vL a0), none, some (vI a1)]) (by decide) (Nat.le_of_ble_eq_true rfl) rfl ?_
  intro X F hQ
  refine kx_iload_n 1 F 2 dX12_cut_0 rfl rfl rfl ?_
  refine kx_if_ne 4 F 11 dX12_cut_1 (by decide) rfl (by omega) (fun h_1 => ?_) (fun h_1 => ?_)
  · refine kx_iload_n 12 F 2 dX12_cut_11 rfl rfl rfl ?_
    refine kx_iconst 13 F dX12_cut_12 rfl ?_
    refine kx_icmp_ne 16 F 23 dX12_cut_13 (by decide) rfl (by omega) (by decide) (fun h_2 => ?_) (fun h_2 => ?_)
    · refine kx_iload_n 24 F 2 dX12_cut_23 rfl rfl rfl ?_
      refine kx_iconst 25 F dX12_cut_24 rfl ?_
      refine kx_icmp_ne 28 F 34 dX12_cut_25 (by decide) rfl (by omega) (by decide) (fun h_3 => ?_) (fun h_3 => ?_)
      · refine kx_lload_n 35 F 0 dX12_cut_34 rfl rfl rfl ?_
        exact kx_lret F hQ ⟨rfl, (by omega), (by unfold zcut; rw [if_neg (by omega), if_neg (by omega), if_neg (by omega)])⟩ dX12_cut_35
      · refine kx_lload_n 29 F 0 dX12_cut_28 rfl rfl rfl ?_
        refine kx_l2i 30 F dX12_cut_29 rfl ?_
        refine kx_wrapi (fun w_4 h_5 he_w_4 => ?_)
        refine kx_i2l 31 F dX12_cut_30 (by omega) rfl ?_
        refine kx_goto 35 F dX12_cut_31 (by decide) ?_
        exact kx_lret F hQ ⟨rfl, (by omega), (by unfold zcut; rw [if_neg (by omega), if_neg (by omega), if_pos (by omega)]; exact he_w_4)⟩ dX12_cut_35
    · refine kx_lload_n 17 F 0 dX12_cut_16 rfl rfl rfl ?_
      refine kx_l2i 18 F dX12_cut_17 rfl ?_
      refine kx_wrapi (fun w_6 h_7 he_w_6 => ?_)
      refine kx_i2s 19 F dX12_cut_18 rfl (fun w_8 h_9 he_w_8 => ?_)
      refine kx_i2l 20 F dX12_cut_19 (by omega) rfl ?_
      refine kx_goto 35 F dX12_cut_20 (by decide) ?_
      exact kx_lret F hQ ⟨rfl, (by omega), (by unfold zcut; rw [if_neg (by omega), if_pos (by omega), ← he_w_6]; exact he_w_8)⟩ dX12_cut_35
  · refine kx_lload_n 5 F 0 dX12_cut_4 rfl rfl rfl ?_
    refine kx_l2i 6 F dX12_cut_5 rfl ?_
    refine kx_wrapi (fun w_10 h_11 he_w_10 => ?_)
    refine kx_i2b 7 F dX12_cut_6 rfl (fun w_12 h_13 he_w_12 => ?_)
    refine kx_i2l 8 F dX12_cut_7 (by omega) rfl ?_
    refine kx_goto 35 F dX12_cut_8 (by decide) ?_
    exact kx_lret F hQ ⟨rfl, (by omega), (by unfold zcut; rw [if_pos (by omega), ← he_w_10]; exact he_w_12)⟩ dX12_cut_35
abbrev f_e_make3 : List (Nat × Int) := [(14, -1), (15, -1), (16, -1)]
set_option maxHeartbeats 4000000 in
set_option maxRecDepth 100000 in
theorem e_make3 (G : KG) (l : Launch) (M : Mem) (c0 : Int) (a1 : Int) (a2 : Int) (a3 : Int) (hI_M : Inv false M) (hk_c0 : kd c0 = 13) (hpre : -2147483648 ≤ a1 ∧ a1 ≤ 2147483647 ∧ -2147483648 ≤ a2 ∧ a2 ≤ 2147483647 ∧ -2147483648 ≤ a3 ∧ a3 ≤ 2147483647 ∧ 0 ≤ a1 ∧ a1 ≤ 3 ∧ 0 ≤ a2 ∧ a2 ≤ 3 ∧ 0 ≤ a3 ∧ a3 ≤ 60) : KC false G l yX9_make cX9_make 5 none (0, 0) [vR G c0, vI a1, vI a2, vI a3] M (fun A => kQv false G A (fun (N : Mem) => Inv false N ∧ Fr f_e_make3 M N ∧ (UP M N (M c0 2) a1 a3 ∧ UP M N (M c0 1) a1 a2 ∧ N (M c0 0) = zvt (M (M c0 0)) (60 * a1) a3))) := by
  refine kx_met (lo := [some (vR G c0), some (vI a1), some (vI a2), some (vI a3), none]) (by decide) (Nat.le_of_ble_eq_true rfl) rfl ?_
  intro X F hQ
  have hF_M : Fr f_e_make3 M M := Fr.rf _ _
  have hk_1 : kd (M c0 0) = 14 := Inv.r hI_M hk_c0 rfl 0 rfl rfl
  have hk_2 : kd (M c0 1) = 15 := Inv.r hI_M hk_c0 rfl 1 rfl rfl
  have hk_3 : kd (M c0 2) = 16 := Inv.r hI_M hk_c0 rfl 2 rfl rfl
  refine kx_aload_n 1 F 0 dX9_make_0 rfl rfl rfl ?_
  refine kx_getr 4 F fl_X9_15 hk_c0 rfl rfl (j := 1) rfl dX9_make_1 (v := (M c0 1)) rfl rfl ?_
  refine kx_iload_n 5 F 1 dX9_make_4 rfl rfl rfl ?_
  refine kx_iload_n 6 F 2 dX9_make_5 rfl rfl rfl ?_
  refine kx_iast 7 F hk_2 rfl rfl (by omega) (by decide) dX9_make_6 rfl ?_
  intro N_4 hM_N_4
  have hI_N_4 : Inv false N_4 := Inv.u hI_M hM_N_4 hk_2 (a := 0) (b := 3) rfl rfl rfl (by omega)
  have hF_N_4 : Fr f_e_make3 M N_4 := Fr.u hF_M hM_N_4 hk_2 rfl
  refine kx_aload_n 8 F 0 dX9_make_7 rfl rfl rfl ?_
  refine kx_getr 11 F fl_X9_19 hk_c0 rfl rfl (j := 2) rfl dX9_make_8 (v := (M c0 2)) (by rw [hM_N_4, mu_k hk_c0 hk_2 rfl]) rfl ?_
  refine kx_iload_n 12 F 1 dX9_make_11 rfl rfl rfl ?_
  refine kx_iload_n 13 F 3 dX9_make_12 rfl rfl rfl ?_
  refine kx_iast 14 F hk_3 rfl rfl (by omega) (by decide) dX9_make_13 rfl ?_
  intro N_5 hM_N_5
  have hI_N_5 : Inv false N_5 := Inv.u hI_N_4 hM_N_5 hk_3 (a := (-1)) (b := 60) rfl rfl rfl (by omega)
  have hF_N_5 : Fr f_e_make3 M N_5 := Fr.u hF_N_4 hM_N_5 hk_3 rfl
  refine kx_iconst 15 F dX9_make_14 rfl ?_
  refine kx_istore 17 F 4 (lo' := [some (vR G c0), some (vI a1), some (vI a2), some (vI a3), some (vI 0)]) dX9_make_15 (by decide) rfl rfl rfl ?_
  have L_36 : ∀ (n_37 : Nat) (x4_34 : Int) (N_35 : Mem), Inv false N_35 → Fr f_e_make3 M N_35 → WP N_35 M (M c0 2) a1 a3 → WS N_35 M (M c0 1) a1 a2 → zVT N_35 M (M c0 0) (60 * a1) x4_34 → 0 ≤ x4_34 ∧ x4_34 ≤ 60 ∧ x4_34 ≤ a3 → (60 - (x4_34)).toNat = n_37 → KJ false G X N_35 17 [some (vR G c0), some (vI a1), none, some (vI a3), some (vI x4_34)] [] := by
    intro n_37
    refine Nat.strongRecOn n_37 ?_
    intro n_37 ih_38 x4_34 N_35 hI_N_35 hF_N_35 hp_41 hp_42 hp_43 h_39 hm_40
    refine kx_iload 19 F 4 dX9_make_17 rfl rfl ?_
    refine kx_iload_n 20 F 3 dX9_make_19 rfl rfl rfl ?_
    refine kx_icmp_ge 23 F 42 dX9_make_20 (by decide) rfl (by omega) (by omega) (fun h_44 => ?_) (fun h_44 => ?_)
    · exact kx_vret F hQ ⟨hI_N_35, hF_N_35, ⟨hp_41, hp_42, zVT.f hp_43 (by omega)⟩⟩ dX9_make_42
    · refine kx_aload_n 24 F 0 dX9_make_23 rfl rfl rfl ?_
      refine kx_getr 27 F fl_X9_11 hk_c0 rfl rfl (j := 0) rfl dX9_make_24 (v := (M c0 0)) (by rw [Fr.e hF_N_35 hk_c0 _ rfl]) rfl ?_
      refine kx_iload_n 28 F 1 dX9_make_27 rfl rfl rfl ?_
      refine kx_bipush 30 F dX9_make_28 (by decide) rfl ?_
      refine kx_imul 31 F (v := 60 * a1) dX9_make_30 (by omega) rfl ?_
      refine kx_iload 33 F 4 dX9_make_31 rfl rfl ?_
      refine kx_iadd 34 F (v := 60 * a1 + x4_34) dX9_make_33 rfl rfl ?_
      refine kx_lconst 35 (z := 0) F dX9_make_34 (by decide) rfl ?_
      refine kx_last 36 F hk_1 rfl rfl (by omega) (by decide) dX9_make_35 rfl ?_
      intro N_45 hM_N_45
      have hI_N_45 : Inv false N_45 := Inv.u hI_N_35 hM_N_45 hk_1 (a := (-9223372036854775808)) (b := 9223372036854775807) rfl rfl rfl (by omega)
      have hF_N_45 : Fr f_e_make3 M N_45 := Fr.u hF_N_35 hM_N_45 hk_1 rfl
      refine kx_iinc 39 F 4 (v := x4_34 + 1) (lo' := [some (vR G c0), some (vI a1), none, some (vI a3), some (vI (x4_34 + 1))]) dX9_make_36 rfl (by omega) (by decide) rfl rfl rfl ?_
      refine kx_goto 17 F dX9_make_39 (by decide) ?_
      exact ih_38 _ (by omega) (x4_34 + 1) N_45 hI_N_45 hF_N_45 (UP.ot hp_41 hM_N_45 hk_3 hk_1 rfl) (UP.ot hp_42 hM_N_45 hk_2 hk_1 rfl) (zVT.step hp_43 (by omega) (by omega) (by omega) hM_N_45) (by omega) rfl
  refine kx_drop 2 (lo' := [some (vR G c0), some (vI a1), none, some (vI a3), some (vI 0)]) rfl ?_
  exact L_36 _ 0 N_5 hI_N_5 hF_N_5 (UP.af hM_N_4 hM_N_5 hk_3 hk_2 rfl) (UP.ot (UP.st hM_N_4) hM_N_5 hk_2 hk_3 rfl) (zVT.nil (funext (fun j => by rw [hM_N_5, mu_k hk_1 hk_3 rfl, hM_N_4, mu_k hk_1 hk_2 rfl]))) (by omega) rfl
abbrev f_e_tray3 : List (Nat × Int) := [(14, -1), (15, -1), (16, -1), (62, 0)]
set_option maxHeartbeats 4000000 in
set_option maxRecDepth 100000 in
theorem e_tray3 (G : KG) (l : Launch) (M : Mem) (c0 : Int) (a1 : Int) (a2 : Int) (a3 : Int) (hI_M : Inv false M) (hk_c0 : kd c0 = 62) (hpre : -2147483648 ≤ a1 ∧ a1 ≤ 2147483647 ∧ -2147483648 ≤ a2 ∧ a2 ≤ 2147483647 ∧ -2147483648 ≤ a3 ∧ a3 ≤ 2147483647) : KC false G l yX11_tray cX11_tray 4 (some .boolean) (2, 43) [vR G c0, vI a1, vI a2, vI a3] M (fun A => kQi false G A (fun (r : Int) (N : Mem) => Inv false N ∧ Fr f_e_tray3 M N ∧ ((r = 1 ∧ 0 ≤ a1 ∧ a1 ≤ 3 ∧ 0 ≤ a2 ∧ a2 ≤ 3 ∧ 0 ≤ a3 ∧ a3 ≤ 60) ∨ (r = 0 ∧ a1 < 0) ∨ (r = 0 ∧ a1 > 3) ∨ (r = 0 ∧ a2 < 0) ∨ (r = 0 ∧ a2 > 3) ∨ (r = 0 ∧ a3 < 0) ∨ (r = 0 ∧ a3 > 60)) ∧ ((UQ2 M N (M (M c0 3) 2) (M (M c0 3) 1) a1 a2 a3 r) ∧ zV2 (M (M (M c0 3) 0)) (N (M (M c0 3) 0)) (zvt (M (M (M c0 3) 0)) (60 * a1) a3) r))) := by
  refine kx_met (lo := [some (vR G c0), some (vI a1), some (vI a2), some (vI a3)]) (by decide) (Nat.le_of_ble_eq_true rfl) rfl ?_
  intro X F hQ
  have hF_M : Fr f_e_tray3 M M := Fr.rf _ _
  have hk_Mc03 : kd (M c0 3) = 13 := Inv.r hI_M hk_c0 rfl 3 rfl rfl
  have hk_MMc032 : kd (M (M c0 3) 2) = 16 := Inv.r hI_M hk_Mc03 rfl 2 rfl rfl
  have hk_MMc031 : kd (M (M c0 3) 1) = 15 := Inv.r hI_M hk_Mc03 rfl 1 rfl rfl
  have hk_1 : kd (M (M c0 3) 0) = 14 := Inv.r hI_M hk_Mc03 rfl 0 rfl rfl
  refine kx_aload_n 1 F 0 dX11_tray_0 rfl rfl rfl ?_
  refine kx_getr 4 F fl_X11_10 hk_c0 rfl rfl (j := 3) rfl dX11_tray_1 (v := (M c0 3)) rfl rfl ?_
  refine kx_iload_n 5 F 1 dX11_tray_4 rfl rfl rfl ?_
  refine kx_Vi 8 (ci := 0) F (As := [vI a1]) (st := []) vd_X11_83 (e_X9_has G l M (M c0 3) a1 hI_M hk_Mc03 (by omega)) hk_Mc03 rfl rfl rfl ⟨by decide, by decide⟩ rfl rfl (Nat.le_of_ble_eq_true rfl) dX11_tray_5 rfl ?_
  intro r_2 N_3 q_4
  obtain ⟨rfl, q_4c⟩ := q_4
  rcases q_4c with q_4c | q_4c | q_4c
  · refine kx_if_eq 11 F 30 dX11_tray_8 (by decide) rfl (by omega) (fun h_5 => (by exfalso; omega)) (fun h_5 => ?_)
    refine kx_iload_n 12 F 2 dX11_tray_11 rfl rfl rfl ?_
    refine kx_iconst 13 F dX11_tray_12 rfl ?_
    refine kx_iconst 14 F dX11_tray_13 rfl ?_
    refine kx_Si 17 F (As := [vI a2, vI 0, vI 3]) (st := []) sd_X11_87 (e_X11_within G l M a2 0 3 hI_M (by omega)) ⟨by decide, by decide⟩ rfl rfl (Nat.le_of_ble_eq_true rfl) dX11_tray_14 rfl ?_
    intro r_6 N_7 q_8
    obtain ⟨rfl, q_8c⟩ := q_8
    rcases q_8c with q_8c | q_8c | q_8c
    · refine kx_if_eq 20 F 30 dX11_tray_17 (by decide) rfl (by omega) (fun h_9 => (by exfalso; omega)) (fun h_9 => ?_)
      refine kx_iload_n 21 F 3 dX11_tray_20 rfl rfl rfl ?_
      refine kx_iconst 22 F dX11_tray_21 rfl ?_
      refine kx_bipush 24 F dX11_tray_22 (by decide) rfl ?_
      refine kx_Si 27 F (As := [vI a3, vI 0, vI 60]) (st := []) sd_X11_87 (e_X11_within G l M a3 0 60 hI_M (by omega)) ⟨by decide, by decide⟩ rfl rfl (Nat.le_of_ble_eq_true rfl) dX11_tray_24 rfl ?_
      intro r_10 N_11 q_12
      obtain ⟨rfl, q_12c⟩ := q_12
      rcases q_12c with q_12c | q_12c | q_12c
      · refine kx_if_ne 30 F 36 dX11_tray_27 (by decide) rfl (by omega) (fun h_13 => ?_) (fun h_13 => (by exfalso; omega))
        refine kx_aload_n 37 F 0 dX11_tray_36 rfl rfl rfl ?_
        refine kx_getr 40 F fl_X11_10 hk_c0 rfl rfl (j := 3) rfl dX11_tray_37 (v := (M c0 3)) rfl rfl ?_
        refine kx_iload_n 41 F 1 dX11_tray_40 rfl rfl rfl ?_
        refine kx_iload_n 42 F 2 dX11_tray_41 rfl rfl rfl ?_
        refine kx_iload_n 43 F 3 dX11_tray_42 rfl rfl rfl ?_
        refine kx_Vv 46 (ci := 0) F (As := [vI a1, vI a2, vI a3]) (st := []) vd_X11_94 (e_make3 G l M (M c0 3) a1 a2 a3 hI_M hk_Mc03 (by omega)) hk_Mc03 rfl rfl rfl ⟨by decide, by decide⟩ rfl rfl (Nat.le_of_ble_eq_true rfl) dX11_tray_43 rfl ?_
        intro N_14 q_15
        obtain ⟨hI_N_14, hG_N_14, hu_N_14⟩ := q_15
        have hF_N_14 : Fr f_e_tray3 M N_14 := Fr.c hF_M hG_N_14 rfl
        refine kx_aload_n 47 F 0 dX11_tray_46 rfl rfl rfl ?_
        refine kx_Vi 50 (ci := 0) F (As := []) (st := []) vd_X11_98 (c_X11_agree G l N_14 c0 hI_N_14 hk_c0) hk_c0 rfl rfl rfl ⟨by decide, by decide⟩ rfl rfl (Nat.le_of_ble_eq_true rfl) dX11_tray_47 rfl ?_
        intro r_16 N_17 q_18
        obtain ⟨hI_N_17, hG_N_17, q_18c⟩ := q_18
        have hF_N_17 : Fr f_e_tray3 M N_17 := Fr.c hF_N_14 hG_N_17 rfl
        subst q_18c
        exact kx_zret F hQ (by omega) ⟨hI_N_17, hF_N_17, (Or.inl (by omega)), ⟨(Or.inl ⟨by omega, (UP.fr hu_N_14.1 hG_N_17 hk_MMc032 rfl), (UP.fr hu_N_14.2.1 hG_N_17 hk_MMc031 rfl)⟩), (Or.inl ⟨by omega, ((funext (fun j => by rw [Fr.e hG_N_17 hk_1 _ rfl])).trans hu_N_14.2.2)⟩)⟩⟩ dX11_tray_50
      · refine kx_if_ne 30 F 36 dX11_tray_27 (by decide) rfl (by omega) (fun h_19 => (by exfalso; omega)) (fun h_19 => ?_)
        refine kx_aload_n 31 F 0 dX11_tray_30 rfl rfl rfl ?_
        refine kx_iconst 32 F dX11_tray_31 rfl ?_
        refine kx_Vi 35 (ci := 0) F (As := [vI 1]) (st := []) vd_X11_91 (c_X11_deny G l M c0 1 hI_M hk_c0 (by omega)) hk_c0 rfl rfl rfl ⟨by decide, by decide⟩ rfl rfl (Nat.le_of_ble_eq_true rfl) dX11_tray_32 rfl ?_
        intro r_20 N_21 q_22
        obtain ⟨hI_N_21, hG_N_21, q_22c⟩ := q_22
        have hF_N_21 : Fr f_e_tray3 M N_21 := Fr.c hF_M hG_N_21 rfl
        subst q_22c
        exact kx_zret F hQ (by omega) ⟨hI_N_21, hF_N_21, (Or.inr (Or.inr (Or.inr (Or.inr (Or.inr (Or.inl (by omega))))))), ⟨(Or.inr ⟨by omega, (Fr.fn hG_N_21 hk_MMc032 rfl), (Fr.fn hG_N_21 hk_MMc031 rfl)⟩), (Or.inr ⟨by omega, (funext (fun j => by rw [Fr.e hG_N_21 hk_1 _ rfl]))⟩)⟩⟩ dX11_tray_35
      · refine kx_if_ne 30 F 36 dX11_tray_27 (by decide) rfl (by omega) (fun h_23 => (by exfalso; omega)) (fun h_23 => ?_)
        refine kx_aload_n 31 F 0 dX11_tray_30 rfl rfl rfl ?_
        refine kx_iconst 32 F dX11_tray_31 rfl ?_
        refine kx_Vi 35 (ci := 0) F (As := [vI 1]) (st := []) vd_X11_91 (c_X11_deny G l M c0 1 hI_M hk_c0 (by omega)) hk_c0 rfl rfl rfl ⟨by decide, by decide⟩ rfl rfl (Nat.le_of_ble_eq_true rfl) dX11_tray_32 rfl ?_
        intro r_24 N_25 q_26
        obtain ⟨hI_N_25, hG_N_25, q_26c⟩ := q_26
        have hF_N_25 : Fr f_e_tray3 M N_25 := Fr.c hF_M hG_N_25 rfl
        subst q_26c
        exact kx_zret F hQ (by omega) ⟨hI_N_25, hF_N_25, (Or.inr (Or.inr (Or.inr (Or.inr (Or.inr (Or.inr (by omega))))))), ⟨(Or.inr ⟨by omega, (Fr.fn hG_N_25 hk_MMc032 rfl), (Fr.fn hG_N_25 hk_MMc031 rfl)⟩), (Or.inr ⟨by omega, (funext (fun j => by rw [Fr.e hG_N_25 hk_1 _ rfl]))⟩)⟩⟩ dX11_tray_35
    · refine kx_if_eq 20 F 30 dX11_tray_17 (by decide) rfl (by omega) (fun h_27 => ?_) (fun h_27 => (by exfalso; omega))
      refine kx_aload_n 31 F 0 dX11_tray_30 rfl rfl rfl ?_
      refine kx_iconst 32 F dX11_tray_31 rfl ?_
      refine kx_Vi 35 (ci := 0) F (As := [vI 1]) (st := []) vd_X11_91 (c_X11_deny G l M c0 1 hI_M hk_c0 (by omega)) hk_c0 rfl rfl rfl ⟨by decide, by decide⟩ rfl rfl (Nat.le_of_ble_eq_true rfl) dX11_tray_32 rfl ?_
      intro r_28 N_29 q_30
      obtain ⟨hI_N_29, hG_N_29, q_30c⟩ := q_30
      have hF_N_29 : Fr f_e_tray3 M N_29 := Fr.c hF_M hG_N_29 rfl
      subst q_30c
      exact kx_zret F hQ (by omega) ⟨hI_N_29, hF_N_29, (Or.inr (Or.inr (Or.inr (Or.inl (by omega))))), ⟨(Or.inr ⟨by omega, (Fr.fn hG_N_29 hk_MMc032 rfl), (Fr.fn hG_N_29 hk_MMc031 rfl)⟩), (Or.inr ⟨by omega, (funext (fun j => by rw [Fr.e hG_N_29 hk_1 _ rfl]))⟩)⟩⟩ dX11_tray_35
    · refine kx_if_eq 20 F 30 dX11_tray_17 (by decide) rfl (by omega) (fun h_31 => ?_) (fun h_31 => (by exfalso; omega))
      refine kx_aload_n 31 F 0 dX11_tray_30 rfl rfl rfl ?_
      refine kx_iconst 32 F dX11_tray_31 rfl ?_
      refine kx_Vi 35 (ci := 0) F (As := [vI 1]) (st := []) vd_X11_91 (c_X11_deny G l M c0 1 hI_M hk_c0 (by omega)) hk_c0 rfl rfl rfl ⟨by decide, by decide⟩ rfl rfl (Nat.le_of_ble_eq_true rfl) dX11_tray_32 rfl ?_
      intro r_32 N_33 q_34
      obtain ⟨hI_N_33, hG_N_33, q_34c⟩ := q_34
      have hF_N_33 : Fr f_e_tray3 M N_33 := Fr.c hF_M hG_N_33 rfl
      subst q_34c
      exact kx_zret F hQ (by omega) ⟨hI_N_33, hF_N_33, (Or.inr (Or.inr (Or.inr (Or.inr (Or.inl (by omega)))))), ⟨(Or.inr ⟨by omega, (Fr.fn hG_N_33 hk_MMc032 rfl), (Fr.fn hG_N_33 hk_MMc031 rfl)⟩), (Or.inr ⟨by omega, (funext (fun j => by rw [Fr.e hG_N_33 hk_1 _ rfl]))⟩)⟩⟩ dX11_tray_35
  · refine kx_if_eq 11 F 30 dX11_tray_8 (by decide) rfl (by omega) (fun h_35 => ?_) (fun h_35 => (by exfalso; omega))
    refine kx_aload_n 31 F 0 dX11_tray_30 rfl rfl rfl ?_
    refine kx_iconst 32 F dX11_tray_31 rfl ?_
    refine kx_Vi 35 (ci := 0) F (As := [vI 1]) (st := []) vd_X11_91 (c_X11_deny G l M c0 1 hI_M hk_c0 (by omega)) hk_c0 rfl rfl rfl ⟨by decide, by decide⟩ rfl rfl (Nat.le_of_ble_eq_true rfl) dX11_tray_32 rfl ?_
    intro r_36 N_37 q_38
    obtain ⟨hI_N_37, hG_N_37, q_38c⟩ := q_38
    have hF_N_37 : Fr f_e_tray3 M N_37 := Fr.c hF_M hG_N_37 rfl
    subst q_38c
    exact kx_zret F hQ (by omega) ⟨hI_N_37, hF_N_37, (Or.inr (Or.inl (by omega))), ⟨(Or.inr ⟨by omega, (Fr.fn hG_N_37 hk_MMc032 rfl), (Fr.fn hG_N_37 hk_MMc031 rfl)⟩), (Or.inr ⟨by omega, (funext (fun j => by rw [Fr.e hG_N_37 hk_1 _ rfl]))⟩)⟩⟩ dX11_tray_35
  · refine kx_if_eq 11 F 30 dX11_tray_8 (by decide) rfl (by omega) (fun h_39 => ?_) (fun h_39 => (by exfalso; omega))
    refine kx_aload_n 31 F 0 dX11_tray_30 rfl rfl rfl ?_
    refine kx_iconst 32 F dX11_tray_31 rfl ?_
    refine kx_Vi 35 (ci := 0) F (As := [vI 1]) (st := []) vd_X11_91 (c_X11_deny G l M c0 1 hI_M hk_c0 (by omega)) hk_c0 rfl rfl rfl ⟨by decide, by decide⟩ rfl rfl (Nat.le_of_ble_eq_true rfl) dX11_tray_32 rfl ?_
    intro r_40 N_41 q_42
    obtain ⟨hI_N_41, hG_N_41, q_42c⟩ := q_42
    have hF_N_41 : Fr f_e_tray3 M N_41 := Fr.c hF_M hG_N_41 rfl
    subst q_42c
    exact kx_zret F hQ (by omega) ⟨hI_N_41, hF_N_41, (Or.inr (Or.inr (Or.inl (by omega)))), ⟨(Or.inr ⟨by omega, (Fr.fn hG_N_41 hk_MMc032 rfl), (Fr.fn hG_N_41 hk_MMc031 rfl)⟩), (Or.inr ⟨by omega, (funext (fun j => by rw [Fr.e hG_N_41 hk_1 _ rfl]))⟩)⟩⟩ dX11_tray_35
abbrev f_e_set3v : List (Nat × Int) := [(14, -1)]
set_option maxHeartbeats 4000000 in
set_option maxRecDepth 100000 in
theorem e_set3v (G : KG) (l : Launch) (M : Mem) (c0 : Int) (a1 : Int) (a2 : Int) (a3 : Int) (hI_M : Inv false M) (hk_c0 : kd c0 = 13) (hpre : -2147483648 ≤ a1 ∧ a1 ≤ 2147483647 ∧ -2147483648 ≤ a2 ∧ a2 ≤ 2147483647 ∧ -9223372036854775808 ≤ a3 ∧ a3 ≤ 9223372036854775807 ∧ 0 ≤ a1 ∧ a1 ≤ 3 ∧ 0 ≤ a2 ∧ a2 ≤ 59) : KC false G l yX9_set cX9_set 5 none (1, 22) [vR G c0, vI a1, vI a2, vL a3] M (fun A => kQv false G A (fun (N : Mem) => Inv false N ∧ Fr f_e_set3v M N ∧ (UP M N (M c0 0) (60 * a1 + a2) (zcut a3 (M (M c0 1) a1))))) := by
  refine kx_met (lo := [some (vR G c0), some (vI a1), some (vI a2), some (vL a3), none]) (by decide) (Nat.le_of_ble_eq_true rfl) rfl ?_
  intro X F hQ
  have hF_M : Fr f_e_set3v M M := Fr.rf _ _
  have hk_1 : kd (M c0 0) = 14 := Inv.r hI_M hk_c0 rfl 0 rfl rfl
  have hk_2 : kd (M c0 1) = 15 := Inv.r hI_M hk_c0 rfl 1 rfl rfl
  have hk_3 : kd (M c0 2) = 16 := Inv.r hI_M hk_c0 rfl 2 rfl rfl
  refine kx_aload_n 1 F 0 dX9_set_0 rfl rfl rfl ?_
  refine kx_getr 4 F fl_X9_11 hk_c0 rfl rfl (j := 0) rfl dX9_set_1 (v := (M c0 0)) rfl rfl ?_
  refine kx_iload_n 5 F 1 dX9_set_4 rfl rfl rfl ?_
  refine kx_bipush 7 F dX9_set_5 (by decide) rfl ?_
  refine kx_imul 8 F (v := 60 * a1) dX9_set_7 (by omega) rfl ?_
  refine kx_iload_n 9 F 2 dX9_set_8 rfl rfl rfl ?_
  refine kx_iadd 10 F (v := 60 * a1 + a2) dX9_set_9 rfl rfl ?_
  refine kx_lload_n 11 F 3 dX9_set_10 rfl rfl rfl ?_
  refine kx_aload_n 12 F 0 dX9_set_11 rfl rfl rfl ?_
  refine kx_getr 15 F fl_X9_15 hk_c0 rfl rfl (j := 1) rfl dX9_set_12 (v := (M c0 1)) rfl rfl ?_
  refine kx_iload_n 16 F 1 dX9_set_15 rfl rfl rfl ?_
  refine kx_iald 17 F hk_2 rfl rfl (by omega) (by decide) dX9_set_16 (v := (M (M c0 1) a1)) rfl rfl ?_
  have h_4 := Inv.g hI_M hk_2 rfl a1 (a := 0) (b := 3) rfl rfl
  refine kx_Sl 20 F (As := [vL a3, vI (M (M c0 1) a1)]) (st := [vI (60 * a1 + a2), vR G (M c0 0)]) sd_X9_33 (e_cut3 G l M a3 (M (M c0 1) a1) hI_M (by omega)) ⟨by decide, by decide⟩ rfl rfl (Nat.le_of_ble_eq_true rfl) dX9_set_17 rfl ?_
  intro r_5 N_6 q_7
  obtain ⟨rfl, q_7c, hz_N_6⟩ := q_7
  refine kx_last 21 F hk_1 rfl rfl (by omega) (by decide) dX9_set_20 rfl ?_
  intro N_8 hM_N_8
  have hI_N_8 : Inv false N_8 := Inv.u hI_M hM_N_8 hk_1 (a := (-9223372036854775808)) (b := 9223372036854775807) rfl rfl rfl (by omega)
  have hF_N_8 : Fr f_e_set3v M N_8 := Fr.u hF_M hM_N_8 hk_1 rfl
  exact kx_vret F hQ ⟨hI_N_8, hF_N_8, (fun j => by have h := UP.st hM_N_8 j; rw [← hz_N_6]; exact h)⟩ dX9_set_21
abbrev f_e_write3 : List (Nat × Int) := [(14, -1), (62, 0)]
set_option maxHeartbeats 4000000 in
set_option maxRecDepth 100000 in
theorem e_write3 (G : KG) (l : Launch) (M : Mem) (c0 : Int) (a1 : Int) (a2 : Int) (a3 : Int) (hI_M : Inv false M) (hk_c0 : kd c0 = 62) (hpre : -2147483648 ≤ a1 ∧ a1 ≤ 2147483647 ∧ -2147483648 ≤ a2 ∧ a2 ≤ 2147483647 ∧ -9223372036854775808 ≤ a3 ∧ a3 ≤ 9223372036854775807) : KC false G l yX11_write cX11_write 6 (some .boolean) (3, 65) [vR G c0, vI a1, vI a2, vL a3] M (fun A => kQi false G A (fun (r : Int) (N : Mem) => Inv false N ∧ Fr f_e_write3 M N ∧ ((r = 1 ∧ 0 ≤ a1 ∧ a1 ≤ 3 ∧ 0 ≤ a2 ∧ a2 < (M (M (M c0 3) 2) a1) ∧ a2 ≤ 59) ∨ (r = 0 ∧ a1 < 0) ∨ (r = 0 ∧ a1 > 3) ∨ (r = 0 ∧ 0 ≤ a1 ∧ a1 ≤ 3 ∧ (M (M (M c0 3) 2) a1) = -1) ∨ (r = 0 ∧ 0 ≤ a1 ∧ a1 ≤ 3 ∧ a2 < 0) ∨ (r = 0 ∧ 0 ≤ a1 ∧ a1 ≤ 3 ∧ a2 ≥ (M (M (M c0 3) 2) a1))) ∧ (zV2 (M (M (M c0 3) 0)) (N (M (M c0 3) 0)) (zvw (M (M (M c0 3) 0)) (60 * a1 + a2) (zcut a3 (M (M (M c0 3) 1) a1))) r))) := by
  refine kx_met (lo := [some (vR G c0), some (vI a1), some (vI a2), some (vL a3), none, none]) (by decide) (Nat.le_of_ble_eq_true rfl) rfl ?_
  intro X F hQ
  have hF_M : Fr f_e_write3 M M := Fr.rf _ _
  have hk_1 : kd (M c0 3) = 13 := Inv.r hI_M hk_c0 rfl 3 rfl rfl
  have hk_2 : kd (M (M c0 3) 0) = 14 := Inv.r hI_M hk_1 rfl 0 rfl rfl
  have hk_3 : kd (M (M c0 3) 1) = 15 := Inv.r hI_M hk_1 rfl 1 rfl rfl
  have hk_4 : kd (M (M c0 3) 2) = 16 := Inv.r hI_M hk_1 rfl 2 rfl rfl
  refine kx_aload_n 1 F 0 dX11_write_0 rfl rfl rfl ?_
  refine kx_getr 4 F fl_X11_10 hk_c0 rfl rfl (j := 3) rfl dX11_write_1 (v := (M c0 3)) rfl rfl ?_
  refine kx_iload_n 5 F 1 dX11_write_4 rfl rfl rfl ?_
  refine kx_iload_n 6 F 2 dX11_write_5 rfl rfl rfl ?_
  refine kx_Vi 9 (ci := 0) F (As := [vI a1, vI a2]) (st := []) vd_X11_102 (e_X9_refusal G l M (M c0 3) a1 a2 hI_M hk_1 (by omega)) hk_1 rfl rfl rfl ⟨by decide, by decide⟩ rfl rfl (Nat.le_of_ble_eq_true rfl) dX11_write_6 rfl ?_
  intro r_5 N_6 q_7
  obtain ⟨rfl, q_7c⟩ := q_7
  rcases q_7c with q_7c | q_7c | q_7c | q_7c | q_7c | q_7c
  · refine kx_istore 11 F 5 (lo' := [some (vR G c0), some (vI a1), some (vI a2), some (vL a3), none, some (vI r_5)]) dX11_write_9 (by decide) rfl rfl rfl ?_
    refine kx_iload 13 F 5 dX11_write_11 rfl rfl ?_
    refine kx_if_eq 16 F 23 dX11_write_13 (by decide) rfl (by omega) (fun h_8 => ?_) (fun h_8 => (by exfalso; omega))
    refine kx_aload_n 24 F 0 dX11_write_23 rfl rfl rfl ?_
    refine kx_getr 27 F fl_X11_10 hk_c0 rfl rfl (j := 3) rfl dX11_write_24 (v := (M c0 3)) rfl rfl ?_
    refine kx_iload_n 28 F 1 dX11_write_27 rfl rfl rfl ?_
    refine kx_iload_n 29 F 2 dX11_write_28 rfl rfl rfl ?_
    refine kx_lload_n 30 F 3 dX11_write_29 rfl rfl rfl ?_
    refine kx_Vv 33 (ci := 0) F (As := [vI a1, vI a2, vL a3]) (st := []) vd_X11_106 (e_set3v G l M (M c0 3) a1 a2 a3 hI_M hk_1 (by omega)) hk_1 rfl rfl rfl ⟨by decide, by decide⟩ rfl rfl (Nat.le_of_ble_eq_true rfl) dX11_write_30 rfl ?_
    intro N_9 q_10
    obtain ⟨hI_N_9, hG_N_9, hv_N_9⟩ := q_10
    have hF_N_9 : Fr f_e_write3 M N_9 := Fr.c hF_M hG_N_9 rfl
    refine kx_aload_n 34 F 0 dX11_write_33 rfl rfl rfl ?_
    refine kx_Vi 37 (ci := 0) F (As := []) (st := []) vd_X11_98 (c_X11_agree G l N_9 c0 hI_N_9 hk_c0) hk_c0 rfl rfl rfl ⟨by decide, by decide⟩ rfl rfl (Nat.le_of_ble_eq_true rfl) dX11_write_34 rfl ?_
    intro r_11 N_12 q_13
    obtain ⟨hI_N_12, hG_N_12, q_13c⟩ := q_13
    have hF_N_12 : Fr f_e_write3 M N_12 := Fr.c hF_N_9 hG_N_12 rfl
    subst q_13c
    exact kx_zret F hQ (by omega) ⟨hI_N_12, hF_N_12, (Or.inl (by omega)), (Or.inl ⟨by omega, ((funext (fun j => by rw [Fr.e hG_N_12 hk_2 _ rfl])).trans (UP.f hv_N_9))⟩)⟩ dX11_write_37
  · refine kx_istore 11 F 5 (lo' := [some (vR G c0), some (vI a1), some (vI a2), some (vL a3), none, some (vI r_5)]) dX11_write_9 (by decide) rfl rfl rfl ?_
    refine kx_iload 13 F 5 dX11_write_11 rfl rfl ?_
    refine kx_if_eq 16 F 23 dX11_write_13 (by decide) rfl (by omega) (fun h_14 => (by exfalso; omega)) (fun h_14 => ?_)
    refine kx_aload_n 17 F 0 dX11_write_16 rfl rfl rfl ?_
    refine kx_iload 19 F 5 dX11_write_17 rfl rfl ?_
    refine kx_Vi 22 (ci := 0) F (As := [vI r_5]) (st := []) vd_X11_91 (c_X11_deny G l M c0 r_5 hI_M hk_c0 (by omega)) hk_c0 rfl rfl rfl ⟨by decide, by decide⟩ rfl rfl (Nat.le_of_ble_eq_true rfl) dX11_write_19 rfl ?_
    intro r_15 N_16 q_17
    obtain ⟨hI_N_16, hG_N_16, q_17c⟩ := q_17
    have hF_N_16 : Fr f_e_write3 M N_16 := Fr.c hF_M hG_N_16 rfl
    subst q_17c
    exact kx_zret F hQ (by omega) ⟨hI_N_16, hF_N_16, (Or.inr (Or.inl (by omega))), (Or.inr ⟨by omega, (funext (fun j => by rw [Fr.e hG_N_16 hk_2 _ rfl]))⟩)⟩ dX11_write_22
  · refine kx_istore 11 F 5 (lo' := [some (vR G c0), some (vI a1), some (vI a2), some (vL a3), none, some (vI r_5)]) dX11_write_9 (by decide) rfl rfl rfl ?_
    refine kx_iload 13 F 5 dX11_write_11 rfl rfl ?_
    refine kx_if_eq 16 F 23 dX11_write_13 (by decide) rfl (by omega) (fun h_18 => (by exfalso; omega)) (fun h_18 => ?_)
    refine kx_aload_n 17 F 0 dX11_write_16 rfl rfl rfl ?_
    refine kx_iload 19 F 5 dX11_write_17 rfl rfl ?_
    refine kx_Vi 22 (ci := 0) F (As := [vI r_5]) (st := []) vd_X11_91 (c_X11_deny G l M c0 r_5 hI_M hk_c0 (by omega)) hk_c0 rfl rfl rfl ⟨by decide, by decide⟩ rfl rfl (Nat.le_of_ble_eq_true rfl) dX11_write_19 rfl ?_
    intro r_19 N_20 q_21
    obtain ⟨hI_N_20, hG_N_20, q_21c⟩ := q_21
    have hF_N_20 : Fr f_e_write3 M N_20 := Fr.c hF_M hG_N_20 rfl
    subst q_21c
    exact kx_zret F hQ (by omega) ⟨hI_N_20, hF_N_20, (Or.inr (Or.inr (Or.inl (by omega)))), (Or.inr ⟨by omega, (funext (fun j => by rw [Fr.e hG_N_20 hk_2 _ rfl]))⟩)⟩ dX11_write_22
  · refine kx_istore 11 F 5 (lo' := [some (vR G c0), some (vI a1), some (vI a2), some (vL a3), none, some (vI r_5)]) dX11_write_9 (by decide) rfl rfl rfl ?_
    refine kx_iload 13 F 5 dX11_write_11 rfl rfl ?_
    refine kx_if_eq 16 F 23 dX11_write_13 (by decide) rfl (by omega) (fun h_22 => (by exfalso; omega)) (fun h_22 => ?_)
    refine kx_aload_n 17 F 0 dX11_write_16 rfl rfl rfl ?_
    refine kx_iload 19 F 5 dX11_write_17 rfl rfl ?_
    refine kx_Vi 22 (ci := 0) F (As := [vI r_5]) (st := []) vd_X11_91 (c_X11_deny G l M c0 r_5 hI_M hk_c0 (by omega)) hk_c0 rfl rfl rfl ⟨by decide, by decide⟩ rfl rfl (Nat.le_of_ble_eq_true rfl) dX11_write_19 rfl ?_
    intro r_23 N_24 q_25
    obtain ⟨hI_N_24, hG_N_24, q_25c⟩ := q_25
    have hF_N_24 : Fr f_e_write3 M N_24 := Fr.c hF_M hG_N_24 rfl
    subst q_25c
    exact kx_zret F hQ (by omega) ⟨hI_N_24, hF_N_24, (Or.inr (Or.inr (Or.inr (Or.inl (by omega))))), (Or.inr ⟨by omega, (funext (fun j => by rw [Fr.e hG_N_24 hk_2 _ rfl]))⟩)⟩ dX11_write_22
  · refine kx_istore 11 F 5 (lo' := [some (vR G c0), some (vI a1), some (vI a2), some (vL a3), none, some (vI r_5)]) dX11_write_9 (by decide) rfl rfl rfl ?_
    refine kx_iload 13 F 5 dX11_write_11 rfl rfl ?_
    refine kx_if_eq 16 F 23 dX11_write_13 (by decide) rfl (by omega) (fun h_26 => (by exfalso; omega)) (fun h_26 => ?_)
    refine kx_aload_n 17 F 0 dX11_write_16 rfl rfl rfl ?_
    refine kx_iload 19 F 5 dX11_write_17 rfl rfl ?_
    refine kx_Vi 22 (ci := 0) F (As := [vI r_5]) (st := []) vd_X11_91 (c_X11_deny G l M c0 r_5 hI_M hk_c0 (by omega)) hk_c0 rfl rfl rfl ⟨by decide, by decide⟩ rfl rfl (Nat.le_of_ble_eq_true rfl) dX11_write_19 rfl ?_
    intro r_27 N_28 q_29
    obtain ⟨hI_N_28, hG_N_28, q_29c⟩ := q_29
    have hF_N_28 : Fr f_e_write3 M N_28 := Fr.c hF_M hG_N_28 rfl
    subst q_29c
    exact kx_zret F hQ (by omega) ⟨hI_N_28, hF_N_28, (Or.inr (Or.inr (Or.inr (Or.inr (Or.inl (by omega)))))), (Or.inr ⟨by omega, (funext (fun j => by rw [Fr.e hG_N_28 hk_2 _ rfl]))⟩)⟩ dX11_write_22
  · refine kx_istore 11 F 5 (lo' := [some (vR G c0), some (vI a1), some (vI a2), some (vL a3), none, some (vI r_5)]) dX11_write_9 (by decide) rfl rfl rfl ?_
    refine kx_iload 13 F 5 dX11_write_11 rfl rfl ?_
    refine kx_if_eq 16 F 23 dX11_write_13 (by decide) rfl (by omega) (fun h_30 => (by exfalso; omega)) (fun h_30 => ?_)
    refine kx_aload_n 17 F 0 dX11_write_16 rfl rfl rfl ?_
    refine kx_iload 19 F 5 dX11_write_17 rfl rfl ?_
    refine kx_Vi 22 (ci := 0) F (As := [vI r_5]) (st := []) vd_X11_91 (c_X11_deny G l M c0 r_5 hI_M hk_c0 (by omega)) hk_c0 rfl rfl rfl ⟨by decide, by decide⟩ rfl rfl (Nat.le_of_ble_eq_true rfl) dX11_write_19 rfl ?_
    intro r_31 N_32 q_33
    obtain ⟨hI_N_32, hG_N_32, q_33c⟩ := q_33
    have hF_N_32 : Fr f_e_write3 M N_32 := Fr.c hF_M hG_N_32 rfl
    subst q_33c
    exact kx_zret F hQ (by omega) ⟨hI_N_32, hF_N_32, (Or.inr (Or.inr (Or.inr (Or.inr (Or.inr (by omega)))))), (Or.inr ⟨by omega, (funext (fun j => by rw [Fr.e hG_N_32 hk_2 _ rfl]))⟩)⟩ dX11_write_22
abbrev f_e_move3 : List (Nat × Int) := [(14, -1)]
set_option maxHeartbeats 4000000 in
set_option maxRecDepth 100000 in
theorem e_move3 (G : KG) (l : Launch) (M : Mem) (c0 : Int) (a1 : Int) (a2 : Int) (a3 : Int) (a4 : Int) (a5 : Int) (hI_M : Inv false M) (hk_c0 : kd c0 = 13) (hpre : -2147483648 ≤ a1 ∧ a1 ≤ 2147483647 ∧ -2147483648 ≤ a2 ∧ a2 ≤ 2147483647 ∧ -2147483648 ≤ a3 ∧ a3 ≤ 2147483647 ∧ -2147483648 ≤ a4 ∧ a4 ≤ 2147483647 ∧ -2147483648 ≤ a5 ∧ a5 ≤ 2147483647 ∧ 0 ≤ a1 ∧ a1 ≤ 3 ∧ 0 ≤ a2 ∧ 0 ≤ a3 ∧ a3 ≤ 3 ∧ 0 ≤ a4 ∧ 0 ≤ a5 ∧ a2 + a5 ≤ 60 ∧ a4 + a5 ≤ 60) : KC false G l yX9_move cX9_move 6 none (1, 18) [vR G c0, vI a1, vI a2, vI a3, vI a4, vI a5] M (fun A => kQv false G A (fun (N : Mem) => Inv false N ∧ Fr f_e_move3 M N ∧ (N (M c0 0) = zvp (M (M c0 0)) (60 * a1 + a2) (60 * a3 + a4) a5))) := by
  refine kx_met (lo := [some (vR G c0), some (vI a1), some (vI a2), some (vI a3), some (vI a4), some (vI a5)]) (by decide) (Nat.le_of_ble_eq_true rfl) rfl ?_
  intro X F hQ
  have hF_M : Fr f_e_move3 M M := Fr.rf _ _
  have hk_1 : kd (M c0 0) = 14 := Inv.r hI_M hk_c0 rfl 0 rfl rfl
  have hk_2 : kd (M c0 1) = 15 := Inv.r hI_M hk_c0 rfl 1 rfl rfl
  have hk_3 : kd (M c0 2) = 16 := Inv.r hI_M hk_c0 rfl 2 rfl rfl
  refine kx_aload_n 1 F 0 dX9_move_0 rfl rfl rfl ?_
  refine kx_getr 4 F fl_X9_11 hk_c0 rfl rfl (j := 0) rfl dX9_move_1 (v := (M c0 0)) rfl rfl ?_
  refine kx_iload_n 5 F 1 dX9_move_4 rfl rfl rfl ?_
  refine kx_bipush 7 F dX9_move_5 (by decide) rfl ?_
  refine kx_imul 8 F (v := 60 * a1) dX9_move_7 (by omega) rfl ?_
  refine kx_iload_n 9 F 2 dX9_move_8 rfl rfl rfl ?_
  refine kx_iadd 10 F (v := 60 * a1 + a2) dX9_move_9 rfl rfl ?_
  refine kx_aload_n 11 F 0 dX9_move_10 rfl rfl rfl ?_
  refine kx_getr 14 F fl_X9_11 hk_c0 rfl rfl (j := 0) rfl dX9_move_11 (v := (M c0 0)) rfl rfl ?_
  refine kx_iload_n 15 F 3 dX9_move_14 rfl rfl rfl ?_
  refine kx_bipush 17 F dX9_move_15 (by decide) rfl ?_
  refine kx_imul 18 F (v := 60 * a3) dX9_move_17 (by omega) rfl ?_
  refine kx_iload 20 F 4 dX9_move_18 rfl rfl ?_
  refine kx_iadd 21 F (v := 60 * a3 + a4) dX9_move_20 rfl rfl ?_
  refine kx_iload 23 F 5 dX9_move_21 rfl rfl ?_
  refine kx_copyl 26 F hk_1 rfl rfl hk_1 rfl rfl dX9_move_23 (tt lm_780 rfl) (tt lm_782 rfl) (tt lm_781 rfl) (tt lm_186 rfl) (by omega) (by decide) (by decide) (Nat.le_of_ble_eq_true rfl) rfl ?_
  intro N_4 hM_N_4
  have hI_N_4 : Inv false N_4 := Inv.cp hI_M hM_N_4 hk_1 hk_1 rfl (x := (-9223372036854775808)) (y := 9223372036854775807) (fun _ => rfl) (fun _ => rfl) (fun _ => rfl) (fun _ => rfl) (fun _ => rfl)
  have hF_N_4 : Fr f_e_move3 M N_4 := Fr.cp hF_M hM_N_4 hk_1 (fun _ => rfl)
  exact kx_vret F hQ ⟨hI_N_4, hF_N_4, (by rw [hM_N_4]; exact mcp_f)⟩ dX9_move_26
abbrev f_e_pour3 : List (Nat × Int) := [(14, -1), (62, 0)]
set_option maxHeartbeats 4000000 in
set_option maxRecDepth 100000 in
theorem e_pour3 (G : KG) (l : Launch) (M : Mem) (c0 : Int) (a1 : Int) (a2 : Int) (a3 : Int) (a4 : Int) (a5 : Int) (hI_M : Inv false M) (hk_c0 : kd c0 = 62) (hpre : -2147483648 ≤ a1 ∧ a1 ≤ 2147483647 ∧ -2147483648 ≤ a2 ∧ a2 ≤ 2147483647 ∧ -2147483648 ≤ a3 ∧ a3 ≤ 2147483647 ∧ -2147483648 ≤ a4 ∧ a4 ≤ 2147483647 ∧ -2147483648 ≤ a5 ∧ a5 ≤ 2147483647) : KC false G l yX11_pour cX11_pour 7 (some .boolean) (3, 69) [vR G c0, vI a1, vI a2, vI a3, vI a4, vI a5] M (fun A => kQi false G A (fun (r : Int) (N : Mem) => Inv false N ∧ Fr f_e_pour3 M N ∧ (r ≥ 0 ∧ r ≤ 1) ∧ (PPr r a1 a2 a3 a4 a5 (M (M (M c0 3) 2) a1) (M (M (M c0 3) 2) a3) (M (M (M c0 3) 1) a1) (M (M (M c0 3) 1) a3) ∧ zV2 (M (M (M c0 3) 0)) (N (M (M c0 3) 0)) (zvp (M (M (M c0 3) 0)) (60 * a1 + a2) (60 * a3 + a4) a5) r))) := by
  refine kx_met (lo := [some (vR G c0), some (vI a1), some (vI a2), some (vI a3), some (vI a4), some (vI a5), none]) (by decide) (Nat.le_of_ble_eq_true rfl) rfl ?_
  intro X F hQ
  have hF_M : Fr f_e_pour3 M M := Fr.rf _ _
  have hk_1 : kd (M c0 3) = 13 := Inv.r hI_M hk_c0 rfl 3 rfl rfl
  have hk_2 : kd (M (M c0 3) 0) = 14 := Inv.r hI_M hk_1 rfl 0 rfl rfl
  have hk_3 : kd (M (M c0 3) 1) = 15 := Inv.r hI_M hk_1 rfl 1 rfl rfl
  have hk_4 : kd (M (M c0 3) 2) = 16 := Inv.r hI_M hk_1 rfl 2 rfl rfl
  refine kx_aload_n 1 F 0 dX11_pour_0 rfl rfl rfl ?_
  refine kx_getr 4 F fl_X11_10 hk_c0 rfl rfl (j := 3) rfl dX11_pour_1 (v := (M c0 3)) rfl rfl ?_
  refine kx_iload_n 5 F 1 dX11_pour_4 rfl rfl rfl ?_
  refine kx_iload_n 6 F 2 dX11_pour_5 rfl rfl rfl ?_
  refine kx_iload_n 7 F 3 dX11_pour_6 rfl rfl rfl ?_
  refine kx_iload 9 F 4 dX11_pour_7 rfl rfl ?_
  refine kx_iload 11 F 5 dX11_pour_9 rfl rfl ?_
  refine kx_Vi 14 (ci := 0) F (As := [vI a1, vI a2, vI a3, vI a4, vI a5]) (st := []) vd_X11_118 (e_X9_pourRefusal G l M (M c0 3) a1 a2 a3 a4 a5 hI_M hk_1 (by omega)) hk_1 rfl rfl rfl ⟨by decide, by decide⟩ rfl rfl (Nat.le_of_ble_eq_true rfl) dX11_pour_11 rfl ?_
  intro r_5 N_6 q_7
  obtain ⟨rfl, q_7c, hu_N_6⟩ := q_7
  refine kx_istore 16 F 6 (lo' := [some (vR G c0), some (vI a1), some (vI a2), some (vI a3), some (vI a4), some (vI a5), some (vI r_5)]) dX11_pour_14 (by decide) rfl rfl rfl ?_
  refine kx_iload 18 F 6 dX11_pour_16 rfl rfl ?_
  refine kx_if_eq 21 F 28 dX11_pour_18 (by decide) rfl (by omega) (fun h_8 => ?_) (fun h_8 => ?_)
  · have hk_9 := PRr.k hu_N_6 (by omega)
    refine kx_aload_n 29 F 0 dX11_pour_28 rfl rfl rfl ?_
    refine kx_getr 32 F fl_X11_10 hk_c0 rfl rfl (j := 3) rfl dX11_pour_29 (v := (M c0 3)) rfl rfl ?_
    refine kx_iload_n 33 F 1 dX11_pour_32 rfl rfl rfl ?_
    refine kx_iload_n 34 F 2 dX11_pour_33 rfl rfl rfl ?_
    refine kx_iload_n 35 F 3 dX11_pour_34 rfl rfl rfl ?_
    refine kx_iload 37 F 4 dX11_pour_35 rfl rfl ?_
    refine kx_iload 39 F 5 dX11_pour_37 rfl rfl ?_
    refine kx_Vv 42 (ci := 0) F (As := [vI a1, vI a2, vI a3, vI a4, vI a5]) (st := []) vd_X11_122 (e_move3 G l M (M c0 3) a1 a2 a3 a4 a5 hI_M hk_1 (by omega)) hk_1 rfl rfl rfl ⟨by decide, by decide⟩ rfl rfl (Nat.le_of_ble_eq_true rfl) dX11_pour_39 rfl ?_
    intro N_10 q_11
    obtain ⟨hI_N_10, hG_N_10, hv_N_10⟩ := q_11
    have hF_N_10 : Fr f_e_pour3 M N_10 := Fr.c hF_M hG_N_10 rfl
    refine kx_aload_n 43 F 0 dX11_pour_42 rfl rfl rfl ?_
    refine kx_Vi 46 (ci := 0) F (As := []) (st := []) vd_X11_98 (c_X11_agree G l N_10 c0 hI_N_10 hk_c0) hk_c0 rfl rfl rfl ⟨by decide, by decide⟩ rfl rfl (Nat.le_of_ble_eq_true rfl) dX11_pour_43 rfl ?_
    intro r_12 N_13 q_14
    obtain ⟨hI_N_13, hG_N_13, q_14c⟩ := q_14
    have hF_N_13 : Fr f_e_pour3 M N_13 := Fr.c hF_N_10 hG_N_13 rfl
    subst q_14c
    exact kx_zret F hQ (by omega) ⟨hI_N_13, hF_N_13, (by omega), ⟨(PRr.y hu_N_6 (by omega)), (Or.inl ⟨by omega, ((funext (fun j => by rw [Fr.e hG_N_13 hk_2 _ rfl])).trans hv_N_10)⟩)⟩⟩ dX11_pour_46
  · refine kx_aload_n 22 F 0 dX11_pour_21 rfl rfl rfl ?_
    refine kx_iload 24 F 6 dX11_pour_22 rfl rfl ?_
    refine kx_Vi 27 (ci := 0) F (As := [vI r_5]) (st := []) vd_X11_91 (c_X11_deny G l M c0 r_5 hI_M hk_c0 (by omega)) hk_c0 rfl rfl rfl ⟨by decide, by decide⟩ rfl rfl (Nat.le_of_ble_eq_true rfl) dX11_pour_24 rfl ?_
    intro r_15 N_16 q_17
    obtain ⟨hI_N_16, hG_N_16, q_17c⟩ := q_17
    have hF_N_16 : Fr f_e_pour3 M N_16 := Fr.c hF_M hG_N_16 rfl
    subst q_17c
    exact kx_zret F hQ (by omega) ⟨hI_N_16, hF_N_16, (by omega), ⟨(PRr.n hu_N_6 (by omega)), (Or.inr ⟨by omega, (funext (fun j => by rw [Fr.e hG_N_16 hk_2 _ rfl]))⟩)⟩⟩ dX11_pour_27
abbrev f_e_read3 : List (Nat × Int) := [(62, 0)]
set_option maxHeartbeats 4000000 in
set_option maxRecDepth 100000 in
theorem e_read3 (G : KG) (l : Launch) (M : Mem) (c0 : Int) (a1 : Int) (a2 : Int) (hI_M : Inv false M) (hk_c0 : kd c0 = 62) (hpre : -2147483648 ≤ a1 ∧ a1 ≤ 2147483647 ∧ -2147483648 ≤ a2 ∧ a2 ≤ 2147483647) : KC false G l yX11_read cX11_read 4 (some .long) (3, 65) [vR G c0, vI a1, vI a2] M (fun A => kQl false G A (fun (r : Int) (N : Mem) => Inv false N ∧ Fr f_e_read3 M N ∧ (r ≥ -9223372036854775808 ∧ r ≤ 9223372036854775807) ∧ (zRD (M (M (M c0 3) 0)) a1 a2 (M (M (M c0 3) 2) a1) r))) := by
  refine kx_met (lo := [some (vR G c0), some (vI a1), some (vI a2), none]) (by decide) (Nat.le_of_ble_eq_true rfl) rfl ?_
  intro X F hQ
  have hF_M : Fr f_e_read3 M M := Fr.rf _ _
  have hk_1 : kd (M c0 3) = 13 := Inv.r hI_M hk_c0 rfl 3 rfl rfl
  have hk_2 : kd (M (M c0 3) 0) = 14 := Inv.r hI_M hk_1 rfl 0 rfl rfl
  have hk_3 : kd (M (M c0 3) 1) = 15 := Inv.r hI_M hk_1 rfl 1 rfl rfl
  have hk_4 : kd (M (M c0 3) 2) = 16 := Inv.r hI_M hk_1 rfl 2 rfl rfl
  refine kx_aload_n 1 F 0 dX11_read_0 rfl rfl rfl ?_
  refine kx_getr 4 F fl_X11_10 hk_c0 rfl rfl (j := 3) rfl dX11_read_1 (v := (M c0 3)) rfl rfl ?_
  refine kx_iload_n 5 F 1 dX11_read_4 rfl rfl rfl ?_
  refine kx_iload_n 6 F 2 dX11_read_5 rfl rfl rfl ?_
  refine kx_Vi 9 (ci := 0) F (As := [vI a1, vI a2]) (st := []) vd_X11_102 (e_X9_refusal G l M (M c0 3) a1 a2 hI_M hk_1 (by omega)) hk_1 rfl rfl rfl ⟨by decide, by decide⟩ rfl rfl (Nat.le_of_ble_eq_true rfl) dX11_read_6 rfl ?_
  intro r_5 N_6 q_7
  obtain ⟨rfl, q_7c⟩ := q_7
  rcases q_7c with q_7c | q_7c | q_7c | q_7c | q_7c | q_7c
  · refine kx_istore_n 10 F 3 (lo' := [some (vR G c0), some (vI a1), some (vI a2), some (vI r_5)]) dX11_read_9 rfl (by decide) rfl rfl rfl ?_
    refine kx_iload_n 11 F 3 dX11_read_10 rfl rfl rfl ?_
    refine kx_if_eq 14 F 21 dX11_read_11 (by decide) rfl (by omega) (fun h_8 => ?_) (fun h_8 => (by exfalso; omega))
    refine kx_aload_n 22 F 0 dX11_read_21 rfl rfl rfl ?_
    refine kx_iconst 23 F dX11_read_22 rfl ?_
    refine kx_puti 26 F fw_X11_72 rfl hk_c0 rfl rfl (j := 0) rfl dX11_read_23 rfl ?_
    intro N_9 hM_N_9
    have hI_N_9 : Inv false N_9 := Inv.u hI_M hM_N_9 hk_c0 (a := (-2147483648)) (b := 2147483647) rfl rfl rfl (by omega)
    have hF_N_9 : Fr f_e_read3 M N_9 := Fr.u hF_M hM_N_9 hk_c0 rfl
    refine kx_aload_n 27 F 0 dX11_read_26 rfl rfl rfl ?_
    refine kx_getr 30 F fl_X11_10 hk_c0 rfl rfl (j := 3) rfl dX11_read_27 (v := (M c0 3)) (by rw [hM_N_9, mu_i (by omega)]) rfl ?_
    refine kx_iload_n 31 F 1 dX11_read_30 rfl rfl rfl ?_
    refine kx_iload_n 32 F 2 dX11_read_31 rfl rfl rfl ?_
    refine kx_Vl 35 (ci := 0) F (As := [vI a1, vI a2]) (st := []) vd_X11_114 (c_X9_get G l N_9 (M c0 3) a1 a2 hI_N_9 hk_1 (by omega)) hk_1 rfl rfl rfl ⟨by decide, by decide⟩ rfl rfl (Nat.le_of_ble_eq_true rfl) dX11_read_32 rfl ?_
    intro r_10 N_11 q_12
    obtain ⟨rfl, q_12c⟩ := q_12
    have e_13 : (N_9 (M c0 3) 0) = (M (M c0 3) 0) := by rw [hM_N_9, mu_k hk_1 hk_c0 rfl]
    have e_14 : (N_9 (N_9 (M c0 3) 0) (60 * a1 + a2)) = (M (M (M c0 3) 0) (60 * a1 + a2)) := by rw [e_13, hM_N_9, mu_k hk_2 hk_c0 rfl]
    have e_15 : (N_9 (M c0 3) 0) = (M (M c0 3) 0) := by rw [hM_N_9, mu_k hk_1 hk_c0 rfl]
    have e_16 : (N_9 (N_9 (M c0 3) 0) (60 * a1 + a2)) = (M (M (M c0 3) 0) (60 * a1 + a2)) := by rw [e_15, hM_N_9, mu_k hk_2 hk_c0 rfl]
    exact kx_lret F hQ ⟨hI_N_9, hF_N_9, (by omega), (Or.inl ⟨by omega, by omega⟩)⟩ dX11_read_35
  · refine kx_istore_n 10 F 3 (lo' := [some (vR G c0), some (vI a1), some (vI a2), some (vI r_5)]) dX11_read_9 rfl (by decide) rfl rfl rfl ?_
    refine kx_iload_n 11 F 3 dX11_read_10 rfl rfl rfl ?_
    refine kx_if_eq 14 F 21 dX11_read_11 (by decide) rfl (by omega) (fun h_17 => (by exfalso; omega)) (fun h_17 => ?_)
    refine kx_aload_n 15 F 0 dX11_read_14 rfl rfl rfl ?_
    refine kx_iload_n 16 F 3 dX11_read_15 rfl rfl rfl ?_
    refine kx_Vi 19 (ci := 0) F (As := [vI r_5]) (st := []) vd_X11_110 (c_X11_refuse G l M c0 r_5 hI_M hk_c0 (by omega)) hk_c0 rfl rfl rfl ⟨by decide, by decide⟩ rfl rfl (Nat.le_of_ble_eq_true rfl) dX11_read_16 rfl ?_
    intro r_18 N_19 q_20
    obtain ⟨hI_N_19, hG_N_19, q_20c⟩ := q_20
    have hF_N_19 : Fr f_e_read3 M N_19 := Fr.c hF_M hG_N_19 rfl
    subst q_20c
    refine kx_i2l 20 F dX11_read_19 (by omega) rfl ?_
    exact kx_lret F hQ ⟨hI_N_19, hF_N_19, (by omega), (Or.inr ⟨fun h => by omega, by omega⟩)⟩ dX11_read_20
  · refine kx_istore_n 10 F 3 (lo' := [some (vR G c0), some (vI a1), some (vI a2), some (vI r_5)]) dX11_read_9 rfl (by decide) rfl rfl rfl ?_
    refine kx_iload_n 11 F 3 dX11_read_10 rfl rfl rfl ?_
    refine kx_if_eq 14 F 21 dX11_read_11 (by decide) rfl (by omega) (fun h_21 => (by exfalso; omega)) (fun h_21 => ?_)
    refine kx_aload_n 15 F 0 dX11_read_14 rfl rfl rfl ?_
    refine kx_iload_n 16 F 3 dX11_read_15 rfl rfl rfl ?_
    refine kx_Vi 19 (ci := 0) F (As := [vI r_5]) (st := []) vd_X11_110 (c_X11_refuse G l M c0 r_5 hI_M hk_c0 (by omega)) hk_c0 rfl rfl rfl ⟨by decide, by decide⟩ rfl rfl (Nat.le_of_ble_eq_true rfl) dX11_read_16 rfl ?_
    intro r_22 N_23 q_24
    obtain ⟨hI_N_23, hG_N_23, q_24c⟩ := q_24
    have hF_N_23 : Fr f_e_read3 M N_23 := Fr.c hF_M hG_N_23 rfl
    subst q_24c
    refine kx_i2l 20 F dX11_read_19 (by omega) rfl ?_
    exact kx_lret F hQ ⟨hI_N_23, hF_N_23, (by omega), (Or.inr ⟨fun h => by omega, by omega⟩)⟩ dX11_read_20
  · refine kx_istore_n 10 F 3 (lo' := [some (vR G c0), some (vI a1), some (vI a2), some (vI r_5)]) dX11_read_9 rfl (by decide) rfl rfl rfl ?_
    refine kx_iload_n 11 F 3 dX11_read_10 rfl rfl rfl ?_
    refine kx_if_eq 14 F 21 dX11_read_11 (by decide) rfl (by omega) (fun h_25 => (by exfalso; omega)) (fun h_25 => ?_)
    refine kx_aload_n 15 F 0 dX11_read_14 rfl rfl rfl ?_
    refine kx_iload_n 16 F 3 dX11_read_15 rfl rfl rfl ?_
    refine kx_Vi 19 (ci := 0) F (As := [vI r_5]) (st := []) vd_X11_110 (c_X11_refuse G l M c0 r_5 hI_M hk_c0 (by omega)) hk_c0 rfl rfl rfl ⟨by decide, by decide⟩ rfl rfl (Nat.le_of_ble_eq_true rfl) dX11_read_16 rfl ?_
    intro r_26 N_27 q_28
    obtain ⟨hI_N_27, hG_N_27, q_28c⟩ := q_28
    have hF_N_27 : Fr f_e_read3 M N_27 := Fr.c hF_M hG_N_27 rfl
    subst q_28c
    refine kx_i2l 20 F dX11_read_19 (by omega) rfl ?_
    exact kx_lret F hQ ⟨hI_N_27, hF_N_27, (by omega), (Or.inr ⟨fun h => by omega, by omega⟩)⟩ dX11_read_20
  · refine kx_istore_n 10 F 3 (lo' := [some (vR G c0), some (vI a1), some (vI a2), some (vI r_5)]) dX11_read_9 rfl (by decide) rfl rfl rfl ?_
    refine kx_iload_n 11 F 3 dX11_read_10 rfl rfl rfl ?_
    refine kx_if_eq 14 F 21 dX11_read_11 (by decide) rfl (by omega) (fun h_29 => (by exfalso; omega)) (fun h_29 => ?_)
    refine kx_aload_n 15 F 0 dX11_read_14 rfl rfl rfl ?_
    refine kx_iload_n 16 F 3 dX11_read_15 rfl rfl rfl ?_
    refine kx_Vi 19 (ci := 0) F (As := [vI r_5]) (st := []) vd_X11_110 (c_X11_refuse G l M c0 r_5 hI_M hk_c0 (by omega)) hk_c0 rfl rfl rfl ⟨by decide, by decide⟩ rfl rfl (Nat.le_of_ble_eq_true rfl) dX11_read_16 rfl ?_
    intro r_30 N_31 q_32
    obtain ⟨hI_N_31, hG_N_31, q_32c⟩ := q_32
    have hF_N_31 : Fr f_e_read3 M N_31 := Fr.c hF_M hG_N_31 rfl
    subst q_32c
    refine kx_i2l 20 F dX11_read_19 (by omega) rfl ?_
    exact kx_lret F hQ ⟨hI_N_31, hF_N_31, (by omega), (Or.inr ⟨fun h => by omega, by omega⟩)⟩ dX11_read_20
  · refine kx_istore_n 10 F 3 (lo' := [some (vR G c0), some (vI a1), some (vI a2), some (vI r_5)]) dX11_read_9 rfl (by decide) rfl rfl rfl ?_
    refine kx_iload_n 11 F 3 dX11_read_10 rfl rfl rfl ?_
    refine kx_if_eq 14 F 21 dX11_read_11 (by decide) rfl (by omega) (fun h_33 => (by exfalso; omega)) (fun h_33 => ?_)
    refine kx_aload_n 15 F 0 dX11_read_14 rfl rfl rfl ?_
    refine kx_iload_n 16 F 3 dX11_read_15 rfl rfl rfl ?_
    refine kx_Vi 19 (ci := 0) F (As := [vI r_5]) (st := []) vd_X11_110 (c_X11_refuse G l M c0 r_5 hI_M hk_c0 (by omega)) hk_c0 rfl rfl rfl ⟨by decide, by decide⟩ rfl rfl (Nat.le_of_ble_eq_true rfl) dX11_read_16 rfl ?_
    intro r_34 N_35 q_36
    obtain ⟨hI_N_35, hG_N_35, q_36c⟩ := q_36
    have hF_N_35 : Fr f_e_read3 M N_35 := Fr.c hF_M hG_N_35 rfl
    subst q_36c
    refine kx_i2l 20 F dX11_read_19 (by omega) rfl ?_
    exact kx_lret F hQ ⟨hI_N_35, hF_N_35, (by omega), (Or.inr ⟨fun h => by omega, by omega⟩)⟩ dX11_read_20
abbrev f_e_draw3 : List (Nat × Int) := [(62, 14)]
set_option maxHeartbeats 4000000 in
set_option maxRecDepth 100000 in
theorem e_draw3 (G : KG) (l : Launch) (M : Mem) (c0 : Int) (a1 : Int) (hI_M : Inv false M) (hk_c0 : kd c0 = 62) (hpre : -2147483648 ≤ a1 ∧ a1 ≤ 2147483647 ∧ 1 ≤ a1 ∧ a1 ≤ 6) : KC false G l yX11_draw cX11_draw 2 (some .int) (0, 0) [vR G c0, vI a1] M (fun A => kQi false G A (fun (r : Int) (N : Mem) => Inv false N ∧ Fr f_e_draw3 M N ∧ (0 ≤ r ∧ r ≤ 5) ∧ (N c0 14 = zdn (M c0 14) ∧ r = zdr (M c0 14) a1))) := by
  refine kx_met (lo := [some (vR G c0), some (vI a1)]) (by decide) (Nat.le_of_ble_eq_true rfl) rfl ?_
  intro X F hQ
  have hF_M : Fr f_e_draw3 M M := Fr.rf _ _
  refine kx_aload_n 1 F 0 dX11_draw_0 rfl rfl rfl ?_
  refine kx_aload_n 2 F 0 dX11_draw_1 rfl rfl rfl ?_
  refine kx_geti 5 F fl_X11_357 hk_c0 rfl rfl (j := 14) rfl dX11_draw_2 (v := (M c0 14)) rfl rfl ?_
  have h_1 := Inv.g hI_M hk_c0 rfl 14 (a := 0) (b := 65535) rfl rfl
  refine kx_sipush 8 F dX11_draw_5 (by decide) rfl ?_
  refine kx_imul 9 F (v := 3287 * (M c0 14)) dX11_draw_8 (by omega) rfl ?_
  refine kx_sipush 12 F dX11_draw_9 (by decide) rfl ?_
  refine kx_iadd 13 F (v := 3287 * (M c0 14) + 11519) dX11_draw_12 rfl rfl ?_
  refine kx_ldcw 16 (z := 65535) F dX11_draw_13 ct_X11_407 rfl ?_
  refine kx_iand 17 F (v := (zand (3287 * (M c0 14) + 11519) 65535)) dX11_draw_16 rfl rfl ?_
  have h_2 := zand_r (a := 3287 * (M c0 14) + 11519) (b := 65535) (by omega)
  have hzn : (zand (3287 * (M c0 14) + 11519) 65535) = zdn (M c0 14) := (zand_k (by omega)).trans (by unfold zdn; omega)
  refine kx_puti 20 F fw_X11_357 rfl hk_c0 rfl rfl (j := 14) rfl dX11_draw_17 rfl ?_
  intro N_3 hM_N_3
  have hI_N_3 : Inv false N_3 := Inv.u hI_M hM_N_3 hk_c0 (a := 0) (b := 65535) rfl rfl rfl (by omega)
  have hF_N_3 : Fr f_e_draw3 M N_3 := Fr.u hF_M hM_N_3 hk_c0 rfl
  refine kx_iload_n 21 F 1 dX11_draw_20 rfl rfl rfl ?_
  refine kx_if_gt 24 F 28 dX11_draw_21 (by decide) rfl (by omega) (fun h_4 => ?_) (fun h_4 => (by exfalso; omega))
  refine kx_aload_n 29 F 0 dX11_draw_28 rfl rfl rfl ?_
  refine kx_geti 32 F fl_X11_357 hk_c0 rfl rfl (j := 14) rfl dX11_draw_29 (v := (zand (3287 * (M c0 14) + 11519) 65535)) (by rw [hM_N_3, mu_s]) rfl ?_
  refine kx_bipush 34 F dX11_draw_32 (by decide) rfl ?_
  refine kx_idiv 35 F (v := ((zand (3287 * (M c0 14) + 11519) 65535) / 8)) dX11_draw_34 (by omega) (by decide) rfl rfl ?_
  refine kx_iload_n 36 F 1 dX11_draw_35 rfl rfl rfl ?_
  refine kx_irem 37 F (v := (((zand (3287 * (M c0 14) + 11519) 65535) / 8) % a1)) dX11_draw_36 (by omega) (by omega) rfl rfl ?_
  have h_5 : 0 ≤ (((zand (3287 * (M c0 14) + 11519) 65535) / 8) % a1) ∧ (((zand (3287 * (M c0 14) + 11519) 65535) / 8) % a1) < a1 := ⟨Int.emod_nonneg _ (by omega), Int.emod_lt_of_pos _ (by omega)⟩
  exact kx_iret F hQ ⟨hI_N_3, hF_N_3, (by omega), ⟨(by rw [hM_N_3, mu_s]; exact hzn), by unfold zdr; rw [← hzn]⟩⟩ dX11_draw_37
abbrev f_e_draw3m : List (Nat × Int) := [(64, 49)]
set_option maxHeartbeats 4000000 in
set_option maxRecDepth 100000 in
theorem e_draw3m (G : KG) (l : Launch) (M : Mem) (a1 : Int) (hI_M : Inv true M) (hpre : -2147483648 ≤ a1 ∧ a1 ≤ 2147483647 ∧ 1 ≤ a1 ∧ a1 ≤ 6) : KC true G l yX12_draw cX12_draw 2 (some .int) (0, 0) [vR G 163, vI a1] M (fun A => kQi true G A (fun (r : Int) (N : Mem) => Inv true N ∧ Fr f_e_draw3m M N ∧ (0 ≤ r ∧ r ≤ 5) ∧ (N 163 49 = zdn (M 163 49) ∧ r = zdr (M 163 49) a1))) := by
  refine kx_met (lo := [some (vR G 163), some (vI a1)]) (by decide) (Nat.le_of_ble_eq_true rfl) rfl ?_
  intro X F hQ
  have hF_M : Fr f_e_draw3m M M := Fr.rf _ _
  refine kx_aload_n 1 F 0 dX12_draw_0 rfl rfl rfl ?_
  refine kx_aload_n 2 F 0 dX12_draw_1 rfl rfl rfl ?_
  refine kx_geti 5 F fl_X12_511 kd_163 rfl rfl (j := 49) rfl dX12_draw_2 (v := (M 163 49)) rfl rfl ?_
  have h_1 := Inv.g hI_M kd_163 rfl 49 (a := 0) (b := 65535) rfl rfl
  refine kx_sipush 8 F dX12_draw_5 (by decide) rfl ?_
  refine kx_imul 9 F (v := 3287 * (M 163 49)) dX12_draw_8 (by omega) rfl ?_
  refine kx_sipush 12 F dX12_draw_9 (by decide) rfl ?_
  refine kx_iadd 13 F (v := 3287 * (M 163 49) + 11519) dX12_draw_12 rfl rfl ?_
  refine kx_ldcw 16 (z := 65536) F dX12_draw_13 ct_X12_514 rfl ?_
  refine kx_irem 17 F (v := ((3287 * (M 163 49) + 11519) % 65536)) dX12_draw_16 (by omega) (by decide) rfl rfl ?_
  have hzn : ((3287 * (M 163 49) + 11519) % 65536) = zdn (M 163 49) := (by unfold zdn; omega)
  refine kx_puti 20 F fw_X12_511 rfl kd_163 rfl rfl (j := 49) rfl dX12_draw_17 rfl ?_
  intro N_2 hM_N_2
  have hI_N_2 : Inv true N_2 := Inv.u hI_M hM_N_2 kd_163 (a := 0) (b := 65535) rfl rfl rfl (by omega)
  have hF_N_2 : Fr f_e_draw3m M N_2 := Fr.u hF_M hM_N_2 kd_163 rfl
  refine kx_aload_n 21 F 0 dX12_draw_20 rfl rfl rfl ?_
  refine kx_geti 24 F fl_X12_511 kd_163 rfl rfl (j := 49) rfl dX12_draw_21 (v := ((3287 * (M 163 49) + 11519) % 65536)) (by rw [hM_N_2, mu_s]) rfl ?_
  refine kx_bipush 26 F dX12_draw_24 (by decide) rfl ?_
  refine kx_idiv 27 F (v := (((3287 * (M 163 49) + 11519) % 65536) / 8)) dX12_draw_26 (by omega) (by decide) rfl rfl ?_
  refine kx_iload_n 28 F 1 dX12_draw_27 rfl rfl rfl ?_
  refine kx_irem 29 F (v := ((((3287 * (M 163 49) + 11519) % 65536) / 8) % a1)) dX12_draw_28 (by omega) (by omega) rfl rfl ?_
  have h_3 : 0 ≤ ((((3287 * (M 163 49) + 11519) % 65536) / 8) % a1) ∧ ((((3287 * (M 163 49) + 11519) % 65536) / 8) % a1) < a1 := ⟨Int.emod_nonneg _ (by omega), Int.emod_lt_of_pos _ (by omega)⟩
  exact kx_iret F hQ ⟨hI_N_2, hF_N_2, (by omega), ⟨(by rw [hM_N_2, mu_s]; exact hzn), by unfold zdr; rw [← hzn]⟩⟩ dX12_draw_29
set_option maxHeartbeats 4000000 in
set_option maxRecDepth 100000 in
theorem e_placesOf3 (G : KG) (l : Launch) (M : Mem) (c0 : Int) (a1 : Int) (hI_M : Inv false M) (hk_c0 : kd c0 = 13) (hpre : -2147483648 ≤ a1 ∧ a1 ≤ 2147483647 ∧ 0 ≤ a1 ∧ a1 ≤ 3) : KC false G l yX9_placesOf cX9_placesOf 2 (some .int) (0, 0) [vR G c0, vI a1] M (fun A => kQi false G A (fun (r : Int) (N : Mem) => M = N ∧ (r = (M (M c0 2) a1) ∧ r ≥ -1 ∧ r ≤ 60))) := by
  refine kx_met (lo := [some (vR G c0), some (vI a1)]) (by decide) (Nat.le_of_ble_eq_true rfl) rfl ?_
  intro X F hQ
  refine kx_aload_n 1 F 0 dX9_placesOf_0 rfl rfl rfl ?_
  refine kx_getr 4 F fl_X9_19 hk_c0 rfl rfl (j := 2) rfl dX9_placesOf_1 (v := (M c0 2)) rfl rfl ?_
  have hk_1 : kd (M c0 2) = 16 := Inv.r hI_M hk_c0 rfl 2 rfl rfl
  refine kx_iload_n 5 F 1 dX9_placesOf_4 rfl rfl rfl ?_
  refine kx_iald 6 F hk_1 rfl rfl (by omega) (by decide) dX9_placesOf_5 (v := (M (M c0 2) a1)) rfl rfl ?_
  have h_2 := Inv.g hI_M hk_1 rfl a1 (a := (-1)) (b := 60) rfl rfl
  exact kx_iret F hQ ⟨rfl, (by omega)⟩ dX9_placesOf_6
abbrev f_e_sample3 : List (Nat × Int) := [(14, -1), (62, 0), (62, 14)]
set_option maxHeartbeats 4000000 in
set_option maxRecDepth 100000 in
theorem e_sample3 (G : KG) (l : Launch) (M : Mem) (c0 : Int) (a1 : Int) (a2 : Int) (a3 : Int) (hI_M : Inv false M) (hk_c0 : kd c0 = 62) (hpre : -2147483648 ≤ a1 ∧ a1 ≤ 2147483647 ∧ -2147483648 ≤ a2 ∧ a2 ≤ 2147483647 ∧ -2147483648 ≤ a3 ∧ a3 ≤ 2147483647) : KC false G l yX11_sample cX11_sample 5 (some .boolean) (2, 46) [vR G c0, vI a1, vI a2, vI a3] M (fun A => kQi false G A (fun (r : Int) (N : Mem) => Inv false N ∧ Fr f_e_sample3 M N ∧ (r ≥ 0 ∧ r ≤ 1) ∧ (zSM (M (M (M c0 3) 0)) (N (M (M c0 3) 0)) a1 a2 a3 (M (M (M c0 3) 2) a1) (M (M c0 5) 2) (M (M (M c0 3) 1) a1) r))) := by
  refine kx_met (lo := [some (vR G c0), some (vI a1), some (vI a2), some (vI a3), none]) (by decide) (Nat.le_of_ble_eq_true rfl) rfl ?_
  intro X F hQ
  have hF_M : Fr f_e_sample3 M M := Fr.rf _ _
  have hk_1 : kd (M c0 3) = 13 := Inv.r hI_M hk_c0 rfl 3 rfl rfl
  have hk_2 : kd (M (M c0 3) 0) = 14 := Inv.r hI_M hk_1 rfl 0 rfl rfl
  have hk_3 : kd (M (M c0 3) 1) = 15 := Inv.r hI_M hk_1 rfl 1 rfl rfl
  have hk_4 : kd (M (M c0 3) 2) = 16 := Inv.r hI_M hk_1 rfl 2 rfl rfl
  have hk_5 : kd (M c0 5) = 12 := Inv.r hI_M hk_c0 rfl 5 rfl rfl
  refine kx_aload_n 1 F 0 dX11_sample_0 rfl rfl rfl ?_
  refine kx_getr 4 F fl_X11_10 hk_c0 rfl rfl (j := 3) rfl dX11_sample_1 (v := (M c0 3)) rfl rfl ?_
  refine kx_iload_n 5 F 1 dX11_sample_4 rfl rfl rfl ?_
  refine kx_Vi 8 (ci := 0) F (As := [vI a1]) (st := []) vd_X11_83 (e_X9_has G l M (M c0 3) a1 hI_M hk_1 (by omega)) hk_1 rfl rfl rfl ⟨by decide, by decide⟩ rfl rfl (Nat.le_of_ble_eq_true rfl) dX11_sample_5 rfl ?_
  intro r_6 N_7 q_8
  obtain ⟨rfl, q_8c⟩ := q_8
  rcases q_8c with q_8c | q_8c | q_8c
  · refine kx_if_eq 11 F 32 dX11_sample_8 (by decide) rfl (by omega) (fun h_9 => (by exfalso; omega)) (fun h_9 => ?_)
    refine kx_iload_n 12 F 2 dX11_sample_11 rfl rfl rfl ?_
    refine kx_iconst 13 F dX11_sample_12 rfl ?_
    refine kx_bipush 15 F dX11_sample_13 (by decide) rfl ?_
    refine kx_Si 18 F (As := [vI a2, vI 0, vI 20]) (st := []) sd_X11_87 (e_X11_within G l M a2 0 20 hI_M (by omega)) ⟨by decide, by decide⟩ rfl rfl (Nat.le_of_ble_eq_true rfl) dX11_sample_15 rfl ?_
    intro r_10 N_11 q_12
    obtain ⟨rfl, q_12c⟩ := q_12
    rcases q_12c with q_12c | q_12c | q_12c
    · refine kx_if_eq 21 F 32 dX11_sample_18 (by decide) rfl (by omega) (fun h_13 => (by exfalso; omega)) (fun h_13 => ?_)
      refine kx_iload_n 22 F 3 dX11_sample_21 rfl rfl rfl ?_
      refine kx_iconst 23 F dX11_sample_22 rfl ?_
      refine kx_sipush 26 F dX11_sample_23 (by decide) rfl ?_
      refine kx_Si 29 F (As := [vI a3, vI 0, vI 9999]) (st := []) sd_X11_87 (e_X11_within G l M a3 0 9999 hI_M (by omega)) ⟨by decide, by decide⟩ rfl rfl (Nat.le_of_ble_eq_true rfl) dX11_sample_26 rfl ?_
      intro r_14 N_15 q_16
      obtain ⟨rfl, q_16c⟩ := q_16
      rcases q_16c with q_16c | q_16c | q_16c
      · refine kx_if_ne 32 F 38 dX11_sample_29 (by decide) rfl (by omega) (fun h_17 => ?_) (fun h_17 => (by exfalso; omega))
        refine kx_aload_n 39 F 0 dX11_sample_38 rfl rfl rfl ?_
        refine kx_getr 42 F fl_X11_10 hk_c0 rfl rfl (j := 3) rfl dX11_sample_39 (v := (M c0 3)) rfl rfl ?_
        refine kx_iload_n 43 F 1 dX11_sample_42 rfl rfl rfl ?_
        refine kx_Vi 46 (ci := 0) F (As := [vI a1]) (st := []) vd_X11_351 (e_X9_isMissing G l M (M c0 3) a1 hI_M hk_1 (by omega)) hk_1 rfl rfl rfl ⟨by decide, by decide⟩ rfl rfl (Nat.le_of_ble_eq_true rfl) dX11_sample_43 rfl ?_
        intro r_18 N_19 q_20
        obtain ⟨rfl, q_20c⟩ := q_20
        rcases q_20c with q_20c | q_20c
        · refine kx_if_eq 49 F 55 dX11_sample_46 (by decide) rfl (by omega) (fun h_21 => (by exfalso; omega)) (fun h_21 => ?_)
          refine kx_aload_n 50 F 0 dX11_sample_49 rfl rfl rfl ?_
          refine kx_iconst 51 F dX11_sample_50 rfl ?_
          refine kx_Vi 54 (ci := 0) F (As := [vI 2]) (st := []) vd_X11_91 (c_X11_deny G l M c0 2 hI_M hk_c0 (by omega)) hk_c0 rfl rfl rfl ⟨by decide, by decide⟩ rfl rfl (Nat.le_of_ble_eq_true rfl) dX11_sample_51 rfl ?_
          intro r_22 N_23 q_24
          obtain ⟨hI_N_23, hG_N_23, q_24c⟩ := q_24
          have hF_N_23 : Fr f_e_sample3 M N_23 := Fr.c hF_M hG_N_23 rfl
          subst q_24c
          exact kx_zret F hQ (by omega) ⟨hI_N_23, hF_N_23, (by omega), (Or.inr ⟨by omega, fun h => by unfold zSPk at h; omega, (funext (fun j => by rw [Fr.e hG_N_23 hk_2 _ rfl]))⟩)⟩ dX11_sample_54
        · refine kx_if_eq 49 F 55 dX11_sample_46 (by decide) rfl (by omega) (fun h_25 => ?_) (fun h_25 => (by exfalso; omega))
          refine kx_iload_n 56 F 2 dX11_sample_55 rfl rfl rfl ?_
          refine kx_aload_n 57 F 0 dX11_sample_56 rfl rfl rfl ?_
          refine kx_getr 60 F fl_X11_10 hk_c0 rfl rfl (j := 3) rfl dX11_sample_57 (v := (M c0 3)) rfl rfl ?_
          refine kx_iload_n 61 F 1 dX11_sample_60 rfl rfl rfl ?_
          refine kx_Vi 64 (ci := 0) F (As := [vI a1]) (st := [vI a2]) vd_X11_354 (e_placesOf3 G l M (M c0 3) a1 hI_M hk_1 (by omega)) hk_1 rfl rfl rfl ⟨by decide, by decide⟩ rfl rfl (Nat.le_of_ble_eq_true rfl) dX11_sample_61 rfl ?_
          intro r_26 N_27 q_28
          obtain ⟨rfl, q_28c⟩ := q_28
          refine kx_icmp_le 67 F 73 dX11_sample_64 (by decide) rfl (by omega) (by omega) (fun h_29 => ?_) (fun h_29 => ?_)
          · refine kx_aload_n 74 F 0 dX11_sample_73 rfl rfl rfl ?_
            refine kx_getr 77 F fl_X11_26 hk_c0 rfl rfl (j := 5) rfl dX11_sample_74 (v := (M c0 5)) rfl rfl ?_
            refine kx_geti 80 F fl_X11_160 hk_5 rfl rfl (j := 2) rfl dX11_sample_77 (v := (M (M c0 5) 2)) rfl rfl ?_
            have h_30 := Inv.g hI_M hk_5 rfl 2 (a := 0) (b := 6) rfl rfl
            refine kx_if_ne 83 F 94 dX11_sample_80 (by decide) rfl (by omega) (fun h_31 => ?_) (fun h_31 => ?_)
            · refine kx_aload_n 95 F 0 dX11_sample_94 rfl rfl rfl ?_
              refine kx_iload_n 96 F 3 dX11_sample_95 rfl rfl rfl ?_
              refine kx_puti 99 F fw_X11_357 rfl hk_c0 rfl rfl (j := 14) rfl dX11_sample_96 rfl ?_
              intro N_32 hM_N_32
              have hI_N_32 : Inv false N_32 := Inv.u hI_M hM_N_32 hk_c0 (a := 0) (b := 65535) rfl rfl rfl (by omega)
              have hF_N_32 : Fr f_e_sample3 M N_32 := Fr.u hF_M hM_N_32 hk_c0 rfl
              refine kx_iconst 100 F dX11_sample_99 rfl ?_
              refine kx_istore 102 F 4 (lo' := [some (vR G c0), some (vI a1), some (vI a2), some (vI a3), some (vI 0)]) dX11_sample_100 (by decide) rfl rfl rfl ?_
              have L_112 : ∀ (n_113 : Nat) (x4_110 : Int) (N_111 : Mem), Inv false N_111 → Fr f_e_sample3 M N_111 → zSI N_111 M (M (M c0 3) 0) (60 * a1) x4_110 a3 (M (M c0 5) 2) (M (M (M c0 3) 1) a1) (N_111 c0 14) → 0 ≤ x4_110 ∧ x4_110 ≤ 20 ∧ x4_110 ≤ a2 → (20 - (x4_110)).toNat = n_113 → KJ false G X N_111 102 [some (vR G c0), some (vI a1), some (vI a2), none, some (vI x4_110)] [] := by
                intro n_113
                refine Nat.strongRecOn n_113 ?_
                intro n_113 ih_114 x4_110 N_111 hI_N_111 hF_N_111 hp_117 h_115 hm_116
                refine kx_iload 104 F 4 dX11_sample_102 rfl rfl ?_
                refine kx_iload_n 105 F 2 dX11_sample_104 rfl rfl rfl ?_
                refine kx_icmp_ge 108 F 136 dX11_sample_105 (by decide) rfl (by omega) (by omega) (fun h_118 => ?_) (fun h_118 => ?_)
                · refine kx_aload_n 137 F 0 dX11_sample_136 rfl rfl rfl ?_
                  refine kx_Vi 140 (ci := 0) F (As := []) (st := []) vd_X11_98 (c_X11_agree G l N_111 c0 hI_N_111 hk_c0) hk_c0 rfl rfl rfl ⟨by decide, by decide⟩ rfl rfl (Nat.le_of_ble_eq_true rfl) dX11_sample_137 rfl ?_
                  intro r_119 N_120 q_121
                  obtain ⟨hI_N_120, hG_N_120, q_121c⟩ := q_121
                  have hF_N_120 : Fr f_e_sample3 M N_120 := Fr.c hF_N_111 hG_N_120 rfl
                  subst q_121c
                  exact kx_zret F hQ (by omega) ⟨hI_N_120, hF_N_120, (by omega), (Or.inl ⟨by omega, ⟨by omega, by omega, by omega, by omega, by omega, by omega, by omega, by omega, by omega⟩, ((funext (fun j => by rw [Fr.e hG_N_120 hk_2 _ rfl])).trans (zSI.f hp_117 (by omega)))⟩)⟩ dX11_sample_140
                · refine kx_aload_n 109 F 0 dX11_sample_108 rfl rfl rfl ?_
                  refine kx_getr 112 F fl_X11_10 hk_c0 rfl rfl (j := 3) rfl dX11_sample_109 (v := (M c0 3)) (by rw [Fr.e hF_N_111 hk_c0 _ rfl]) rfl ?_
                  refine kx_iload_n 113 F 1 dX11_sample_112 rfl rfl rfl ?_
                  refine kx_iload 115 F 4 dX11_sample_113 rfl rfl ?_
                  refine kx_aload_n 116 F 0 dX11_sample_115 rfl rfl rfl ?_
                  refine kx_aload_n 117 F 0 dX11_sample_116 rfl rfl rfl ?_
                  refine kx_getr 120 F fl_X11_26 hk_c0 rfl rfl (j := 5) rfl dX11_sample_117 (v := (M c0 5)) (by rw [Fr.e hF_N_111 hk_c0 _ rfl]) rfl ?_
                  refine kx_geti 123 F fl_X11_160 hk_5 rfl rfl (j := 2) rfl dX11_sample_120 (v := (M (M c0 5) 2)) (by rw [Fr.e hF_N_111 hk_5 _ rfl]) rfl ?_
                  refine kx_Vi 126 (ci := 0) F (As := [vI (M (M c0 5) 2)]) (st := [vI x4_110, vI a1, vR G (M c0 3)]) vd_X11_360 (e_draw3 G l N_111 c0 (M (M c0 5) 2) hI_N_111 hk_c0 (by omega)) hk_c0 rfl rfl rfl ⟨by decide, by decide⟩ rfl rfl (Nat.le_of_ble_eq_true rfl) dX11_sample_123 rfl ?_
                  intro r_122 N_123 q_124
                  obtain ⟨hI_N_123, hG_N_123, q_124c, hd_N_123⟩ := q_124
                  have hF_N_123 : Fr f_e_sample3 M N_123 := Fr.c hF_N_111 hG_N_123 rfl
                  refine kx_i2l 127 F dX11_sample_126 (by omega) rfl ?_
                  refine kx_Vv 130 (ci := 0) F (As := [vI a1, vI x4_110, vL r_122]) (st := []) vd_X11_106 (e_set3v G l N_123 (M c0 3) a1 x4_110 r_122 hI_N_123 hk_1 (by omega)) hk_1 rfl rfl rfl ⟨by decide, by decide⟩ rfl rfl (Nat.le_of_ble_eq_true rfl) dX11_sample_127 rfl ?_
                  intro N_125 q_126
                  obtain ⟨hI_N_125, hG_N_125, hv_N_125⟩ := q_126
                  have hF_N_125 : Fr f_e_sample3 M N_125 := Fr.c hF_N_123 hG_N_125 rfl
                  refine kx_iinc 133 F 4 (v := x4_110 + 1) (lo' := [some (vR G c0), some (vI a1), some (vI a2), none, some (vI (x4_110 + 1))]) dX11_sample_130 rfl (by omega) (by decide) rfl rfl rfl ?_
                  refine kx_goto 102 F dX11_sample_133 (by decide) ?_
                  have eV_N_125 : N_123 (M c0 3) 0 = (M (M c0 3) 0) := Fr.e hF_N_123 hk_1 _ rfl
                  have eS_N_125 : N_123 (M c0 3) 1 = (M (M c0 3) 1) := Fr.e hF_N_123 hk_1 _ rfl
                  exact ih_114 _ (by omega) (x4_110 + 1) N_125 hI_N_125 hF_N_125 (zSI.step (x := zcut r_122 (M (M (M c0 3) 1) a1)) (k := 60 * a1 + x4_110) hp_117 (by omega) (by omega) (by omega) (fun j => by have h := hv_N_125 j; rw [eV_N_125, eS_N_125, Fr.e hF_N_123 hk_3 _ rfl, Fr.e hG_N_123 hk_2 j rfl] at h; exact h) (by rw [hd_N_123.2]) (by rw [Fr.e hG_N_125 hk_c0 _ rfl]; exact hd_N_123.1)) (by omega) rfl
              refine kx_drop 3 (lo' := [some (vR G c0), some (vI a1), some (vI a2), none, some (vI 0)]) rfl ?_
              exact L_112 _ 0 N_32 hI_N_32 hF_N_32 (zSI.nil (funext (fun j => by rw [hM_N_32, mu_k hk_2 hk_c0 rfl])) (by rw [hM_N_32, mu_s])) (by omega) rfl
            · refine kx_iload_n 84 F 2 dX11_sample_83 rfl rfl rfl ?_
              refine kx_if_le 87 F 94 dX11_sample_84 (by decide) rfl (by omega) (fun h_127 => ?_) (fun h_127 => ?_)
              · refine kx_aload_n 95 F 0 dX11_sample_94 rfl rfl rfl ?_
                refine kx_iload_n 96 F 3 dX11_sample_95 rfl rfl rfl ?_
                refine kx_puti 99 F fw_X11_357 rfl hk_c0 rfl rfl (j := 14) rfl dX11_sample_96 rfl ?_
                intro N_128 hM_N_128
                have hI_N_128 : Inv false N_128 := Inv.u hI_M hM_N_128 hk_c0 (a := 0) (b := 65535) rfl rfl rfl (by omega)
                have hF_N_128 : Fr f_e_sample3 M N_128 := Fr.u hF_M hM_N_128 hk_c0 rfl
                refine kx_iconst 100 F dX11_sample_99 rfl ?_
                refine kx_istore 102 F 4 (lo' := [some (vR G c0), some (vI a1), some (vI a2), some (vI a3), some (vI 0)]) dX11_sample_100 (by decide) rfl rfl rfl ?_
                have L_137 : ∀ (n_138 : Nat) (x4_135 : Int) (N_136 : Mem), Inv false N_136 → Fr f_e_sample3 M N_136 → zSI N_136 M (M (M c0 3) 0) (60 * a1) x4_135 a3 (M (M c0 5) 2) (M (M (M c0 3) 1) a1) (N_136 c0 14) → 0 ≤ x4_135 ∧ x4_135 ≤ 0 ∧ x4_135 ≤ a2 → (0 - (x4_135)).toNat = n_138 → KJ false G X N_136 102 [some (vR G c0), some (vI a1), some (vI a2), none, some (vI x4_135)] [] := by
                  intro n_138
                  refine Nat.strongRecOn n_138 ?_
                  intro n_138 ih_139 x4_135 N_136 hI_N_136 hF_N_136 hp_142 h_140 hm_141
                  refine kx_iload 104 F 4 dX11_sample_102 rfl rfl ?_
                  refine kx_iload_n 105 F 2 dX11_sample_104 rfl rfl rfl ?_
                  refine kx_icmp_ge 108 F 136 dX11_sample_105 (by decide) rfl (by omega) (by omega) (fun h_143 => ?_) (fun h_143 => (by exfalso; omega))
                  refine kx_aload_n 137 F 0 dX11_sample_136 rfl rfl rfl ?_
                  refine kx_Vi 140 (ci := 0) F (As := []) (st := []) vd_X11_98 (c_X11_agree G l N_136 c0 hI_N_136 hk_c0) hk_c0 rfl rfl rfl ⟨by decide, by decide⟩ rfl rfl (Nat.le_of_ble_eq_true rfl) dX11_sample_137 rfl ?_
                  intro r_144 N_145 q_146
                  obtain ⟨hI_N_145, hG_N_145, q_146c⟩ := q_146
                  have hF_N_145 : Fr f_e_sample3 M N_145 := Fr.c hF_N_136 hG_N_145 rfl
                  subst q_146c
                  exact kx_zret F hQ (by omega) ⟨hI_N_145, hF_N_145, (by omega), (Or.inl ⟨by omega, ⟨by omega, by omega, by omega, by omega, by omega, by omega, by omega, by omega, by omega⟩, ((funext (fun j => by rw [Fr.e hG_N_145 hk_2 _ rfl])).trans (zSI.f hp_142 (by omega)))⟩)⟩ dX11_sample_140
                refine kx_drop 3 (lo' := [some (vR G c0), some (vI a1), some (vI a2), none, some (vI 0)]) rfl ?_
                exact L_137 _ 0 N_128 hI_N_128 hF_N_128 (zSI.nil (funext (fun j => by rw [hM_N_128, mu_k hk_2 hk_c0 rfl])) (by rw [hM_N_128, mu_s])) (by omega) rfl
              · refine kx_aload_n 88 F 0 dX11_sample_87 rfl rfl rfl ?_
                refine kx_bipush 90 F dX11_sample_88 (by decide) rfl ?_
                refine kx_Vi 93 (ci := 0) F (As := [vI 6]) (st := []) vd_X11_91 (c_X11_deny G l M c0 6 hI_M hk_c0 (by omega)) hk_c0 rfl rfl rfl ⟨by decide, by decide⟩ rfl rfl (Nat.le_of_ble_eq_true rfl) dX11_sample_90 rfl ?_
                intro r_147 N_148 q_149
                obtain ⟨hI_N_148, hG_N_148, q_149c⟩ := q_149
                have hF_N_148 : Fr f_e_sample3 M N_148 := Fr.c hF_M hG_N_148 rfl
                subst q_149c
                exact kx_zret F hQ (by omega) ⟨hI_N_148, hF_N_148, (by omega), (Or.inr ⟨by omega, fun h => by unfold zSPk at h; omega, (funext (fun j => by rw [Fr.e hG_N_148 hk_2 _ rfl]))⟩)⟩ dX11_sample_93
          · refine kx_aload_n 68 F 0 dX11_sample_67 rfl rfl rfl ?_
            refine kx_iconst 69 F dX11_sample_68 rfl ?_
            refine kx_Vi 72 (ci := 0) F (As := [vI 3]) (st := []) vd_X11_91 (c_X11_deny G l M c0 3 hI_M hk_c0 (by omega)) hk_c0 rfl rfl rfl ⟨by decide, by decide⟩ rfl rfl (Nat.le_of_ble_eq_true rfl) dX11_sample_69 rfl ?_
            intro r_150 N_151 q_152
            obtain ⟨hI_N_151, hG_N_151, q_152c⟩ := q_152
            have hF_N_151 : Fr f_e_sample3 M N_151 := Fr.c hF_M hG_N_151 rfl
            subst q_152c
            exact kx_zret F hQ (by omega) ⟨hI_N_151, hF_N_151, (by omega), (Or.inr ⟨by omega, fun h => by unfold zSPk at h; omega, (funext (fun j => by rw [Fr.e hG_N_151 hk_2 _ rfl]))⟩)⟩ dX11_sample_72
      · refine kx_if_ne 32 F 38 dX11_sample_29 (by decide) rfl (by omega) (fun h_153 => (by exfalso; omega)) (fun h_153 => ?_)
        refine kx_aload_n 33 F 0 dX11_sample_32 rfl rfl rfl ?_
        refine kx_iconst 34 F dX11_sample_33 rfl ?_
        refine kx_Vi 37 (ci := 0) F (As := [vI 1]) (st := []) vd_X11_91 (c_X11_deny G l M c0 1 hI_M hk_c0 (by omega)) hk_c0 rfl rfl rfl ⟨by decide, by decide⟩ rfl rfl (Nat.le_of_ble_eq_true rfl) dX11_sample_34 rfl ?_
        intro r_154 N_155 q_156
        obtain ⟨hI_N_155, hG_N_155, q_156c⟩ := q_156
        have hF_N_155 : Fr f_e_sample3 M N_155 := Fr.c hF_M hG_N_155 rfl
        subst q_156c
        exact kx_zret F hQ (by omega) ⟨hI_N_155, hF_N_155, (by omega), (Or.inr ⟨by omega, fun h => by unfold zSPk at h; omega, (funext (fun j => by rw [Fr.e hG_N_155 hk_2 _ rfl]))⟩)⟩ dX11_sample_37
      · refine kx_if_ne 32 F 38 dX11_sample_29 (by decide) rfl (by omega) (fun h_157 => (by exfalso; omega)) (fun h_157 => ?_)
        refine kx_aload_n 33 F 0 dX11_sample_32 rfl rfl rfl ?_
        refine kx_iconst 34 F dX11_sample_33 rfl ?_
        refine kx_Vi 37 (ci := 0) F (As := [vI 1]) (st := []) vd_X11_91 (c_X11_deny G l M c0 1 hI_M hk_c0 (by omega)) hk_c0 rfl rfl rfl ⟨by decide, by decide⟩ rfl rfl (Nat.le_of_ble_eq_true rfl) dX11_sample_34 rfl ?_
        intro r_158 N_159 q_160
        obtain ⟨hI_N_159, hG_N_159, q_160c⟩ := q_160
        have hF_N_159 : Fr f_e_sample3 M N_159 := Fr.c hF_M hG_N_159 rfl
        subst q_160c
        exact kx_zret F hQ (by omega) ⟨hI_N_159, hF_N_159, (by omega), (Or.inr ⟨by omega, fun h => by unfold zSPk at h; omega, (funext (fun j => by rw [Fr.e hG_N_159 hk_2 _ rfl]))⟩)⟩ dX11_sample_37
    · refine kx_if_eq 21 F 32 dX11_sample_18 (by decide) rfl (by omega) (fun h_161 => ?_) (fun h_161 => (by exfalso; omega))
      refine kx_aload_n 33 F 0 dX11_sample_32 rfl rfl rfl ?_
      refine kx_iconst 34 F dX11_sample_33 rfl ?_
      refine kx_Vi 37 (ci := 0) F (As := [vI 1]) (st := []) vd_X11_91 (c_X11_deny G l M c0 1 hI_M hk_c0 (by omega)) hk_c0 rfl rfl rfl ⟨by decide, by decide⟩ rfl rfl (Nat.le_of_ble_eq_true rfl) dX11_sample_34 rfl ?_
      intro r_162 N_163 q_164
      obtain ⟨hI_N_163, hG_N_163, q_164c⟩ := q_164
      have hF_N_163 : Fr f_e_sample3 M N_163 := Fr.c hF_M hG_N_163 rfl
      subst q_164c
      exact kx_zret F hQ (by omega) ⟨hI_N_163, hF_N_163, (by omega), (Or.inr ⟨by omega, fun h => by unfold zSPk at h; omega, (funext (fun j => by rw [Fr.e hG_N_163 hk_2 _ rfl]))⟩)⟩ dX11_sample_37
    · refine kx_if_eq 21 F 32 dX11_sample_18 (by decide) rfl (by omega) (fun h_165 => ?_) (fun h_165 => (by exfalso; omega))
      refine kx_aload_n 33 F 0 dX11_sample_32 rfl rfl rfl ?_
      refine kx_iconst 34 F dX11_sample_33 rfl ?_
      refine kx_Vi 37 (ci := 0) F (As := [vI 1]) (st := []) vd_X11_91 (c_X11_deny G l M c0 1 hI_M hk_c0 (by omega)) hk_c0 rfl rfl rfl ⟨by decide, by decide⟩ rfl rfl (Nat.le_of_ble_eq_true rfl) dX11_sample_34 rfl ?_
      intro r_166 N_167 q_168
      obtain ⟨hI_N_167, hG_N_167, q_168c⟩ := q_168
      have hF_N_167 : Fr f_e_sample3 M N_167 := Fr.c hF_M hG_N_167 rfl
      subst q_168c
      exact kx_zret F hQ (by omega) ⟨hI_N_167, hF_N_167, (by omega), (Or.inr ⟨by omega, fun h => by unfold zSPk at h; omega, (funext (fun j => by rw [Fr.e hG_N_167 hk_2 _ rfl]))⟩)⟩ dX11_sample_37
  · refine kx_if_eq 11 F 32 dX11_sample_8 (by decide) rfl (by omega) (fun h_169 => ?_) (fun h_169 => (by exfalso; omega))
    refine kx_aload_n 33 F 0 dX11_sample_32 rfl rfl rfl ?_
    refine kx_iconst 34 F dX11_sample_33 rfl ?_
    refine kx_Vi 37 (ci := 0) F (As := [vI 1]) (st := []) vd_X11_91 (c_X11_deny G l M c0 1 hI_M hk_c0 (by omega)) hk_c0 rfl rfl rfl ⟨by decide, by decide⟩ rfl rfl (Nat.le_of_ble_eq_true rfl) dX11_sample_34 rfl ?_
    intro r_170 N_171 q_172
    obtain ⟨hI_N_171, hG_N_171, q_172c⟩ := q_172
    have hF_N_171 : Fr f_e_sample3 M N_171 := Fr.c hF_M hG_N_171 rfl
    subst q_172c
    exact kx_zret F hQ (by omega) ⟨hI_N_171, hF_N_171, (by omega), (Or.inr ⟨by omega, fun h => by unfold zSPk at h; omega, (funext (fun j => by rw [Fr.e hG_N_171 hk_2 _ rfl]))⟩)⟩ dX11_sample_37
  · refine kx_if_eq 11 F 32 dX11_sample_8 (by decide) rfl (by omega) (fun h_173 => ?_) (fun h_173 => (by exfalso; omega))
    refine kx_aload_n 33 F 0 dX11_sample_32 rfl rfl rfl ?_
    refine kx_iconst 34 F dX11_sample_33 rfl ?_
    refine kx_Vi 37 (ci := 0) F (As := [vI 1]) (st := []) vd_X11_91 (c_X11_deny G l M c0 1 hI_M hk_c0 (by omega)) hk_c0 rfl rfl rfl ⟨by decide, by decide⟩ rfl rfl (Nat.le_of_ble_eq_true rfl) dX11_sample_34 rfl ?_
    intro r_174 N_175 q_176
    obtain ⟨hI_N_175, hG_N_175, q_176c⟩ := q_176
    have hF_N_175 : Fr f_e_sample3 M N_175 := Fr.c hF_M hG_N_175 rfl
    subst q_176c
    exact kx_zret F hQ (by omega) ⟨hI_N_175, hF_N_175, (by omega), (Or.inr ⟨by omega, fun h => by unfold zSPk at h; omega, (funext (fun j => by rw [Fr.e hG_N_175 hk_2 _ rfl]))⟩)⟩ dX11_sample_37
