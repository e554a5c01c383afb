abbrev f_e_begin4 : List (Nat × Int) := [(8, 1), (8, 2), (8, 3), (8, 4)]
set_option maxHeartbeats 4000000 in
set_option maxRecDepth 100000 in
theorem e_begin4 (G : KG) (l : Launch) (M : Mem) (c0 : Int) (c1 : Int) (hI_M : Inv false M) (hk_c0 : kd c0 = 8) (hk_c1 : kd c1 = 1) : KC false G l yX10_begin cX10_begin 2 none (1, 22) [vR G c0, vR G c1] M (fun A => kQv false G A (fun (N : Mem) => Inv false N ∧ Fr f_e_begin4 M N ∧ ((N c0 1) = 0 ∧ (N c0 2) = 0 ∧ (N c0 3) = (M c1 2)) ∧ Cf (SWk M c0) M N ∧ (N c0 4 = smeZ (M c1 0)))) := by
  refine kx_met (lo := [some (vR G c0), some (vR G c1)]) (by decide) (Nat.le_of_ble_eq_true rfl) rfl ?_
  intro X F hQ
  have hF_M : Fr f_e_begin4 M M := Fr.rf _ _
  have hE_M : Cf (SWk M c0) M M := Cf.rf _ _
  refine kx_aload_n 1 F 0 dX10_begin_0 rfl rfl rfl ?_
  refine kx_iconst 2 F dX10_begin_1 rfl ?_
  refine kx_puti 5 F fw_X10_25 rfl hk_c0 rfl rfl (j := 1) rfl dX10_begin_2 rfl ?_
  intro N_1 hM_N_1
  have hI_N_1 : Inv false N_1 := Inv.u hI_M hM_N_1 hk_c0 (a := (-2147483648)) (b := 2147483647) rfl rfl rfl (by omega)
  have hF_N_1 : Fr f_e_begin4 M N_1 := Fr.u hF_M hM_N_1 hk_c0 rfl
  have hE_N_1 : Cf (SWk M c0) M N_1 := Cf.st hE_M hM_N_1 (Or.inl rfl)
  refine kx_aload_n 6 F 0 dX10_begin_5 rfl rfl rfl ?_
  refine kx_iconst 7 F dX10_begin_6 rfl ?_
  refine kx_puti 10 F fw_X10_28 rfl hk_c0 rfl rfl (j := 2) rfl dX10_begin_7 rfl ?_
  intro N_2 hM_N_2
  have hI_N_2 : Inv false N_2 := Inv.u hI_N_1 hM_N_2 hk_c0 (a := 0) (b := 30) rfl rfl rfl (by omega)
  have hF_N_2 : Fr f_e_begin4 M N_2 := Fr.u hF_N_1 hM_N_2 hk_c0 rfl
  have hE_N_2 : Cf (SWk M c0) M N_2 := Cf.st hE_N_1 hM_N_2 (Or.inl rfl)
  refine kx_aload_n 11 F 0 dX10_begin_10 rfl rfl rfl ?_
  refine kx_aload_n 12 F 1 dX10_begin_11 rfl rfl rfl ?_
  refine kx_geti 15 F fl_X10_31 hk_c1 rfl rfl (j := 2) rfl dX10_begin_12 (v := (M c1 2)) (by rw [hM_N_2, mu_k hk_c1 hk_c0 rfl, hM_N_1, mu_k hk_c1 hk_c0 rfl]) rfl ?_
  have h_3 := Inv.g hI_M hk_c1 rfl 2 (a := 0) (b := 7) rfl rfl
  refine kx_puti 18 F fw_X10_36 rfl hk_c0 rfl rfl (j := 3) rfl dX10_begin_15 rfl ?_
  intro N_4 hM_N_4
  have hI_N_4 : Inv false N_4 := Inv.u hI_N_2 hM_N_4 hk_c0 (a := 0) (b := 7) rfl rfl rfl (by omega)
  have hF_N_4 : Fr f_e_begin4 M N_4 := Fr.u hF_N_2 hM_N_4 hk_c0 rfl
  have hE_N_4 : Cf (SWk M c0) M N_4 := Cf.st hE_N_2 hM_N_4 (Or.inl rfl)
  refine kx_aload_n 19 F 0 dX10_begin_18 rfl rfl rfl ?_
  refine kx_aload_n 20 F 1 dX10_begin_19 rfl rfl rfl ?_
  refine kx_geti 23 F fl_X10_39 hk_c1 rfl rfl (j := 0) rfl dX10_begin_20 (v := (M c1 0)) (by rw [hM_N_4, mu_k hk_c1 hk_c0 rfl, hM_N_2, mu_k hk_c1 hk_c0 rfl, hM_N_1, mu_k hk_c1 hk_c0 rfl]) rfl ?_
  have h_5 := Inv.g hI_M hk_c1 rfl 0 (a := 0) (b := 3) rfl rfl
  refine kx_Si 26 F (As := [vI (M c1 0)]) (st := [vR G c0]) sd_X10_40 (e_identity3 G l N_4 (M c1 0) hI_N_4 (by omega)) ⟨by decide, by decide⟩ rfl rfl (Nat.le_of_ble_eq_true rfl) dX10_begin_23 rfl ?_
  intro r_6 N_7 q_8
  obtain ⟨rfl, q_8c, hz_N_7⟩ := q_8
  refine kx_puti 29 F fw_X10_46 rfl hk_c0 rfl rfl (j := 4) rfl dX10_begin_26 rfl ?_
  intro N_9 hM_N_9
  have hI_N_9 : Inv false N_9 := Inv.u hI_N_4 hM_N_9 hk_c0 (a := 0) (b := 511) rfl rfl rfl (by omega)
  have hF_N_9 : Fr f_e_begin4 M N_9 := Fr.u hF_N_4 hM_N_9 hk_c0 rfl
  have hE_N_9 : Cf (SWk M c0) M N_9 := Cf.st hE_N_4 hM_N_9 (Or.inl rfl)
  have e_10 : (N_9 c0 1) = 0 := by rw [hM_N_9, mu_i (by omega), hM_N_4, mu_i (by omega), hM_N_2, mu_i (by omega), hM_N_1, mu_s]
  have e_11 : (N_9 c0 2) = 0 := by rw [hM_N_9, mu_i (by omega), hM_N_4, mu_i (by omega), hM_N_2, mu_s]
  have e_12 : (N_9 c0 3) = (M c1 2) := by rw [hM_N_9, mu_i (by omega), hM_N_4, mu_s]
  exact kx_vret F hQ ⟨hI_N_9, hF_N_9, (by omega), hE_N_9, (by rw [hM_N_9, mu_s]; exact hz_N_7)⟩ dX10_begin_29
abbrev f_e_walkTray3 : List (Nat × Int) := [(8, 1), (8, 2), (8, 3), (8, 4), (9, -1), (10, -1), (11, -1)]
set_option maxHeartbeats 4000000 in
set_option maxRecDepth 100000 in
theorem e_walkTray3 (G : KG) (l : Launch) (M : Mem) (c0 : Int) (c1 : Int) (a2 : Int) (a3 : Int) (hI_M : Inv false M) (hk_c0 : kd c0 = 62) (hk_c1 : kd c1 = 1) (hpre : -2147483648 ≤ a2 ∧ a2 ≤ 2147483647 ∧ -2147483648 ≤ a3 ∧ a3 ≤ 2147483647 ∧ 0 ≤ a2 ∧ a2 ≤ 3 ∧ 0 ≤ a3 ∧ a3 ≤ 20) (q : Int → Int) (b : Int) (hS : zSN M (M c0 5) q) (hA : AT M c1 q b) (hW : zWL (M (M (M c0 3) 0)) a2 a3 (M (M c0 5) 2)) : KC false G l yX11_walkTray cX11_walkTray 6 none (3, 72) [vR G c0, vR G c1, vI a2, vI a3] M (fun A => kQv false G A (fun (N : Mem) => Inv false N ∧ Fr f_e_walkTray3 M N ∧ Cf (SWk M (M c0 12)) M N ∧ (zWG N (M c0 12) (zfo q b (fun j => M (M (M c0 3) 0) (60 * a2 + j)) a3.toNat)))) := by
  refine kx_met (lo := [some (vR G c0), some (vR G c1), some (vI a2), some (vI a3), none, none]) (by decide) (Nat.le_of_ble_eq_true rfl) rfl ?_
  intro X F hQ
  have hF_M : Fr f_e_walkTray3 M M := Fr.rf _ _
  have hE_M : Cf (SWk M (M c0 12)) M M := Cf.rf _ _
  have hk_1 : kd (M c0 3) = 13 := Inv.r hI_M hk_c0 rfl 3 rfl rfl
  have hk_2 : kd (M (M c0 3) 0) = 14 := Inv.r hI_M hk_1 rfl 0 rfl rfl
  have hk_3 : kd (M (M c0 3) 1) = 15 := Inv.r hI_M hk_1 rfl 1 rfl rfl
  have hk_4 : kd (M (M c0 3) 2) = 16 := Inv.r hI_M hk_1 rfl 2 rfl rfl
  have hk_5 : kd (M c0 5) = 12 := Inv.r hI_M hk_c0 rfl 5 rfl rfl
  have hSn := hS.u
  have hk_6 : kd (M c0 12) = 8 := Inv.r hI_M hk_c0 rfl 12 rfl rfl
  have hn0 : M c1 0 = q b := hA.n (d := 0) (by decide) (by omega)
  have hn2 : M c1 2 = q (b + 2) := hA.n (d := 2) (by decide) rfl
  refine kx_aload_n 1 F 0 dX11_walkTray_0 rfl rfl rfl ?_
  refine kx_getr 4 F fl_X11_61 hk_c0 rfl rfl (j := 12) rfl dX11_walkTray_1 (v := (M c0 12)) rfl rfl ?_
  refine kx_aload_n 5 F 1 dX11_walkTray_4 rfl rfl rfl ?_
  refine kx_Vv 8 (ci := 0) F (As := [vR G c1]) (st := []) vd_X11_370 (e_begin4 G l M (M c0 12) c1 hI_M hk_6 hk_c1) hk_6 rfl rfl rfl ⟨by decide, by decide⟩ rfl rfl (Nat.le_of_ble_eq_true rfl) dX11_walkTray_5 rfl ?_
  intro N_7 q_8
  obtain ⟨hI_N_7, hG_N_7, q_8c, hC_N_7, hbg_N_7⟩ := q_8
  have hF_N_7 : Fr f_e_walkTray3 M N_7 := Fr.c hF_M hG_N_7 rfl
  have hE_N_7 : Cf (SWk M (M c0 12)) M N_7 := Cf.c hE_M hC_N_7 (fun y hy => hy)
  have h_9 := Inv.g hI_N_7 hk_6 rfl 1 (a := (-2147483648)) (b := 2147483647) rfl rfl
  have h_10 := Inv.g hI_N_7 hk_6 rfl 2 (a := 0) (b := 30) rfl rfl
  have h_11 := Inv.g hI_M hk_c1 rfl 2 (a := 0) (b := 7) rfl rfl
  have h_12 := Inv.g hI_N_7 hk_6 rfl 3 (a := 0) (b := 7) rfl rfl
  refine kx_iconst 9 F dX11_walkTray_8 rfl ?_
  refine kx_istore 11 F 4 (lo' := [some (vR G c0), some (vR G c1), some (vI a2), some (vI a3), some (vI 0), none]) dX11_walkTray_9 (by decide) rfl rfl rfl ?_
  have L_358 : ∀ (n_359 : Nat) (x4_356 : Int) (N_357 : Mem), Inv false N_357 → Fr f_e_walkTray3 M N_357 → Cf (SWk M (M c0 12)) M N_357 → zWG N_357 (M c0 12) (zfo q b (fun j => M (M (M c0 3) 0) (60 * a2 + j)) x4_356.toNat) → 0 ≤ x4_356 ∧ x4_356 ≤ 20 ∧ x4_356 ≤ a3 → (20 - (x4_356)).toNat = n_359 → KJ false G X N_357 11 [some (vR G c0), some (vR G c1), some (vI a2), some (vI a3), some (vI x4_356), none] [] := by
    intro n_359
    refine Nat.strongRecOn n_359 ?_
    intro n_359 ih_360 x4_356 N_357 hI_N_357 hF_N_357 hE_N_357 hp_363 h_361 hm_362
    refine kx_iload 13 F 4 dX11_walkTray_11 rfl rfl ?_
    refine kx_iload_n 14 F 3 dX11_walkTray_13 rfl rfl rfl ?_
    refine kx_icmp_ge 17 F 55 dX11_walkTray_14 (by decide) rfl (by omega) (by omega) (fun h_364 => ?_) (fun h_364 => ?_)
    · exact kx_vret F hQ ⟨hI_N_357, hF_N_357, hE_N_357, (zWG.end hp_363 (by omega))⟩ dX11_walkTray_55
    · have hl_365 := hW x4_356 (by omega) (by omega)
      have hl_365l := Inv.g hI_M hk_5 rfl 2 (a := 0) (b := 6) rfl rfl
      refine kx_aload_n 18 F 0 dX11_walkTray_17 rfl rfl rfl ?_
      refine kx_getr 21 F fl_X11_10 hk_c0 rfl rfl (j := 3) rfl dX11_walkTray_18 (v := (M c0 3)) (by rw [Fr.e hF_N_357 hk_c0 _ rfl]) rfl ?_
      refine kx_iload_n 22 F 2 dX11_walkTray_21 rfl rfl rfl ?_
      refine kx_iload 24 F 4 dX11_walkTray_22 rfl rfl ?_
      refine kx_Vl 27 (ci := 0) F (As := [vI a2, vI x4_356]) (st := []) vd_X11_114 (e_get3 G l N_357 (M c0 3) a2 x4_356 hI_N_357 hk_1 (by omega)) hk_1 rfl rfl rfl ⟨by decide, by decide⟩ rfl rfl (Nat.le_of_ble_eq_true rfl) dX11_walkTray_24 rfl ?_
      intro r_366 N_367 q_368
      obtain ⟨rfl, q_368c⟩ := q_368
      have e_369 : (N_357 (M c0 3) 0) = (M (M c0 3) 0) := by rw [Fr.e hF_N_357 hk_1 _ rfl]
      have e_370 : (N_357 (N_357 (M c0 3) 0) (60 * a2 + x4_356)) = (M (M (M c0 3) 0) (60 * a2 + x4_356)) := by rw [e_369, Fr.e hF_N_357 hk_2 _ rfl]
      have e_371 : (N_357 (M c0 3) 0) = (M (M c0 3) 0) := by rw [Fr.e hF_N_357 hk_1 _ rfl]
      have e_372 : (N_357 (N_357 (M c0 3) 0) (60 * a2 + x4_356)) = (M (M (M c0 3) 0) (60 * a2 + x4_356)) := by rw [e_371, Fr.e hF_N_357 hk_2 _ rfl]
      refine kx_l2i 28 F dX11_walkTray_27 rfl ?_
      refine kx_istore 30 F 5 (lo' := [some (vR G c0), some (vR G c1), some (vI a2), some (vI a3), some (vI x4_356), some (vI r_366)]) dX11_walkTray_28 (by decide) rfl rfl rfl ?_
      refine kx_aload_n 31 F 0 dX11_walkTray_30 rfl rfl rfl ?_
      refine kx_getr 34 F fl_X11_61 hk_c0 rfl rfl (j := 12) rfl dX11_walkTray_31 (v := (M c0 12)) (by rw [Fr.e hF_N_357 hk_c0 _ rfl]) rfl ?_
      refine kx_aload_n 35 F 1 dX11_walkTray_34 rfl rfl rfl ?_
      refine kx_iload 37 F 5 dX11_walkTray_35 rfl rfl ?_
      refine kx_aload_n 38 F 0 dX11_walkTray_37 rfl rfl rfl ?_
      refine kx_getr 41 F fl_X11_26 hk_c0 rfl rfl (j := 5) rfl dX11_walkTray_38 (v := (M c0 5)) (by rw [Fr.e hF_N_357 hk_c0 _ rfl]) rfl ?_
      refine kx_iload 43 F 5 dX11_walkTray_41 rfl rfl ?_
      refine kx_Vi 46 (ci := 0) F (As := [vI r_366]) (st := [vI r_366, vR G c1, vR G (M c0 12)]) vd_X11_242 (e_X5_sortOf G l N_357 (M c0 5) r_366 hI_N_357 hk_5 (by omega)) hk_5 rfl rfl rfl ⟨by decide, by decide⟩ rfl rfl (Nat.le_of_ble_eq_true rfl) dX11_walkTray_43 rfl ?_
      intro r_373 N_374 q_375
      obtain ⟨rfl, q_375c⟩ := q_375
      have e_376 : (N_357 (M c0 5) 2) = (M (M c0 5) 2) := by rw [Fr.e hF_N_357 hk_5 _ rfl]
      have e_379 : (N_357 (M c0 5) 0) = (M (M c0 5) 0) := by rw [Fr.e hF_N_357 hk_5 _ rfl]
      have h_380 := Inv.g hI_M hk_5 rfl 0 (a := 0) (b := 2) rfl rfl
      have e_388 : (N_357 (M c0 5) 1) = (M (M c0 5) 1) := by rw [Fr.e hF_N_357 hk_5 _ rfl]
      have h_389 := Inv.g hI_M hk_5 rfl 1 (a := 0) (b := 4) rfl rfl
      rcases q_375c with q_375c | q_375c | q_375c | q_375c | q_375c
      · exfalso; omega
      · refine kx_Vv 49 (ci := 0) F (As := [vR G c1, vI r_366, vI r_373]) (st := []) vd_X11_378 (e_go3 G l N_357 (M c0 12) c1 r_366 r_373 hI_N_357 hk_6 hk_c1 (by omega) (zfo q b (fun j => M (M (M c0 3) 0) (60 * a2 + j)) x4_356.toNat) hp_363 (fun _ => by have h6 := zfo_6 (q := q) (b := b) (w := (fun j => M (M (M c0 3) 0) (60 * a2 + j))) x4_356.toNat; have hu := (hp_363).u; omega)) hk_6 rfl rfl rfl ⟨by decide, by decide⟩ rfl rfl (Nat.le_of_ble_eq_true rfl) dX11_walkTray_46 rfl ?_
        intro N_403 q_404
        obtain ⟨hI_N_403, hG_N_403, hC_N_403, hgo_N_403⟩ := q_404
        have hF_N_403 : Fr f_e_walkTray3 M N_403 := Fr.c hF_N_357 hG_N_403 rfl
        have hE_N_403 : Cf (SWk M (M c0 12)) M N_403 := Cf.c hE_N_357 hC_N_403 (fun y hy => SWk.e hy (Fr.e hF_N_357 hk_6 5 rfl) (Fr.e hF_N_357 hk_6 6 rfl) (Fr.e hF_N_357 hk_6 7 rfl))
        refine kx_iinc 52 F 4 (v := x4_356 + 1) (lo' := [some (vR G c0), some (vR G c1), some (vI a2), some (vI a3), some (vI (x4_356 + 1)), some (vI r_366)]) dX11_walkTray_49 rfl (by omega) (by decide) rfl rfl rfl ?_
        refine kx_goto 11 F dX11_walkTray_52 (by decide) ?_
        refine kx_drop 5 (lo' := [some (vR G c0), some (vR G c1), some (vI a2), some (vI a3), some (vI (x4_356 + 1)), none]) rfl ?_
        exact ih_360 _ (by omega) (x4_356 + 1) N_403 hI_N_403 hF_N_403 hE_N_403 (zWG.fo hgo_N_403 hI_N_357 hk_6 (AT.fr2 hA hI_M hk_c1 hF_N_357 rfl) hp_363 (by omega) (by omega) (by show r_366 = M (M (M c0 3) 0) (60 * a2 + x4_356); omega) ⟨by omega, by omega⟩ (zsr.of (by omega))) (by omega) rfl
      · refine kx_Vv 49 (ci := 0) F (As := [vR G c1, vI r_366, vI r_373]) (st := []) vd_X11_378 (e_go3 G l N_357 (M c0 12) c1 r_366 r_373 hI_N_357 hk_6 hk_c1 (by omega) (zfo q b (fun j => M (M (M c0 3) 0) (60 * a2 + j)) x4_356.toNat) hp_363 (fun _ => by have h6 := zfo_6 (q := q) (b := b) (w := (fun j => M (M (M c0 3) 0) (60 * a2 + j))) x4_356.toNat; have hu := (hp_363).u; omega)) hk_6 rfl rfl rfl ⟨by decide, by decide⟩ rfl rfl (Nat.le_of_ble_eq_true rfl) dX11_walkTray_46 rfl ?_
        intro N_405 q_406
        obtain ⟨hI_N_405, hG_N_405, hC_N_405, hgo_N_405⟩ := q_406
        have hF_N_405 : Fr f_e_walkTray3 M N_405 := Fr.c hF_N_357 hG_N_405 rfl
        have hE_N_405 : Cf (SWk M (M c0 12)) M N_405 := Cf.c hE_N_357 hC_N_405 (fun y hy => SWk.e hy (Fr.e hF_N_357 hk_6 5 rfl) (Fr.e hF_N_357 hk_6 6 rfl) (Fr.e hF_N_357 hk_6 7 rfl))
        refine kx_iinc 52 F 4 (v := x4_356 + 1) (lo' := [some (vR G c0), some (vR G c1), some (vI a2), some (vI a3), some (vI (x4_356 + 1)), some (vI r_366)]) dX11_walkTray_49 rfl (by omega) (by decide) rfl rfl rfl ?_
        refine kx_goto 11 F dX11_walkTray_52 (by decide) ?_
        refine kx_drop 5 (lo' := [some (vR G c0), some (vR G c1), some (vI a2), some (vI a3), some (vI (x4_356 + 1)), none]) rfl ?_
        exact ih_360 _ (by omega) (x4_356 + 1) N_405 hI_N_405 hF_N_405 hE_N_405 (zWG.fo hgo_N_405 hI_N_357 hk_6 (AT.fr2 hA hI_M hk_c1 hF_N_357 rfl) hp_363 (by omega) (by omega) (by show r_366 = M (M (M c0 3) 0) (60 * a2 + x4_356); omega) ⟨by omega, by omega⟩ (zsr.of (by omega))) (by omega) rfl
      · refine kx_Vv 49 (ci := 0) F (As := [vR G c1, vI r_366, vI r_373]) (st := []) vd_X11_378 (e_go3 G l N_357 (M c0 12) c1 r_366 r_373 hI_N_357 hk_6 hk_c1 (by omega) (zfo q b (fun j => M (M (M c0 3) 0) (60 * a2 + j)) x4_356.toNat) hp_363 (fun _ => by have h6 := zfo_6 (q := q) (b := b) (w := (fun j => M (M (M c0 3) 0) (60 * a2 + j))) x4_356.toNat; have hu := (hp_363).u; omega)) hk_6 rfl rfl rfl ⟨by decide, by decide⟩ rfl rfl (Nat.le_of_ble_eq_true rfl) dX11_walkTray_46 rfl ?_
        intro N_407 q_408
        obtain ⟨hI_N_407, hG_N_407, hC_N_407, hgo_N_407⟩ := q_408
        have hF_N_407 : Fr f_e_walkTray3 M N_407 := Fr.c hF_N_357 hG_N_407 rfl
        have hE_N_407 : Cf (SWk M (M c0 12)) M N_407 := Cf.c hE_N_357 hC_N_407 (fun y hy => SWk.e hy (Fr.e hF_N_357 hk_6 5 rfl) (Fr.e hF_N_357 hk_6 6 rfl) (Fr.e hF_N_357 hk_6 7 rfl))
        refine kx_iinc 52 F 4 (v := x4_356 + 1) (lo' := [some (vR G c0), some (vR G c1), some (vI a2), some (vI a3), some (vI (x4_356 + 1)), some (vI r_366)]) dX11_walkTray_49 rfl (by omega) (by decide) rfl rfl rfl ?_
        refine kx_goto 11 F dX11_walkTray_52 (by decide) ?_
        refine kx_drop 5 (lo' := [some (vR G c0), some (vR G c1), some (vI a2), some (vI a3), some (vI (x4_356 + 1)), none]) rfl ?_
        exact ih_360 _ (by omega) (x4_356 + 1) N_407 hI_N_407 hF_N_407 hE_N_407 (zWG.fo hgo_N_407 hI_N_357 hk_6 (AT.fr2 hA hI_M hk_c1 hF_N_357 rfl) hp_363 (by omega) (by omega) (by show r_366 = M (M (M c0 3) 0) (60 * a2 + x4_356); omega) ⟨by omega, by omega⟩ (zsr.of (by omega))) (by omega) rfl
      · refine kx_Vv 49 (ci := 0) F (As := [vR G c1, vI r_366, vI r_373]) (st := []) vd_X11_378 (e_go3 G l N_357 (M c0 12) c1 r_366 r_373 hI_N_357 hk_6 hk_c1 (by omega) (zfo q b (fun j => M (M (M c0 3) 0) (60 * a2 + j)) x4_356.toNat) hp_363 (fun _ => by have h6 := zfo_6 (q := q) (b := b) (w := (fun j => M (M (M c0 3) 0) (60 * a2 + j))) x4_356.toNat; have hu := (hp_363).u; omega)) hk_6 rfl rfl rfl ⟨by decide, by decide⟩ rfl rfl (Nat.le_of_ble_eq_true rfl) dX11_walkTray_46 rfl ?_
        intro N_409 q_410
        obtain ⟨hI_N_409, hG_N_409, hC_N_409, hgo_N_409⟩ := q_410
        have hF_N_409 : Fr f_e_walkTray3 M N_409 := Fr.c hF_N_357 hG_N_409 rfl
        have hE_N_409 : Cf (SWk M (M c0 12)) M N_409 := Cf.c hE_N_357 hC_N_409 (fun y hy => SWk.e hy (Fr.e hF_N_357 hk_6 5 rfl) (Fr.e hF_N_357 hk_6 6 rfl) (Fr.e hF_N_357 hk_6 7 rfl))
        refine kx_iinc 52 F 4 (v := x4_356 + 1) (lo' := [some (vR G c0), some (vR G c1), some (vI a2), some (vI a3), some (vI (x4_356 + 1)), some (vI r_366)]) dX11_walkTray_49 rfl (by omega) (by decide) rfl rfl rfl ?_
        refine kx_goto 11 F dX11_walkTray_52 (by decide) ?_
        refine kx_drop 5 (lo' := [some (vR G c0), some (vR G c1), some (vI a2), some (vI a3), some (vI (x4_356 + 1)), none]) rfl ?_
        exact ih_360 _ (by omega) (x4_356 + 1) N_409 hI_N_409 hF_N_409 hE_N_409 (zWG.fo hgo_N_409 hI_N_357 hk_6 (AT.fr2 hA hI_M hk_c1 hF_N_357 rfl) hp_363 (by omega) (by omega) (by show r_366 = M (M (M c0 3) 0) (60 * a2 + x4_356); omega) ⟨by omega, by omega⟩ (zsr.of (by omega))) (by omega) rfl
  exact L_358 _ 0 N_7 hI_N_7 hF_N_7 hE_N_7 (zWG.beg (by omega) (by omega) (by omega) (by rw [hbg_N_7, hn0])) (by omega) rfl
abbrev f_e_ends3 : List (Nat × Int) := [(8, 1), (8, 2), (8, 3), (8, 4), (9, -1), (10, -1), (11, -1), (62, 0)]
set_option maxHeartbeats 4000000 in
set_option maxRecDepth 100000 in
theorem e_ends3 (G : KG) (l : Launch) (M : Mem) (c0 : Int) (a1 : Int) (a2 : Int) (a3 : Int) (hI_M : Inv false M) (hk_c0 : kd c0 = 62) (hpre : -2147483648 ≤ a1 ∧ a1 ≤ 2147483647 ∧ -2147483648 ≤ a2 ∧ a2 ≤ 2147483647 ∧ -2147483648 ≤ a3 ∧ a3 ≤ 2147483647) (q : Int → Int) (hS : zSN M (M c0 5) q) (hU : zSU M (M c0 5) q) : KC false G l yX11_ends cX11_ends 5 (some .int) (4, 97) [vR G c0, vI a1, vI a2, vI a3] M (fun A => kQi false G A (fun (r : Int) (N : Mem) => Inv false N ∧ Fr f_e_ends3 M N ∧ (r ≥ -1 ∧ r ≤ 7) ∧ Cf (SWk M (M c0 12)) M N ∧ (zEW (M (M (M c0 3) 0)) q a1 a2 a3 (M (M (M c0 3) 2) a2) (M (M c0 5) 2) r))) := by
  refine kx_met (lo := [some (vR G c0), some (vI a1), some (vI a2), some (vI a3), none]) (by decide) (Nat.le_of_ble_eq_true rfl) rfl ?_
  intro X F hQ
  have hF_M : Fr f_e_ends3 M M := Fr.rf _ _
  have hE_M : Cf (SWk M (M c0 12)) M M := Cf.rf _ _
  have hk_1 : kd (M c0 3) = 13 := Inv.r hI_M hk_c0 rfl 3 rfl rfl
  have hk_2 : kd (M (M c0 3) 0) = 14 := Inv.r hI_M hk_1 rfl 0 rfl rfl
  have hk_3 : kd (M (M c0 3) 1) = 15 := Inv.r hI_M hk_1 rfl 1 rfl rfl
  have hk_4 : kd (M (M c0 3) 2) = 16 := Inv.r hI_M hk_1 rfl 2 rfl rfl
  have hk_5 : kd (M c0 5) = 12 := Inv.r hI_M hk_c0 rfl 5 rfl rfl
  have hSn := hS.u
  have hk_6 : kd (M c0 12) = 8 := Inv.r hI_M hk_c0 rfl 12 rfl rfl
  refine kx_aload_n 1 F 0 dX11_ends_0 rfl rfl rfl ?_
  refine kx_aload_n 2 F 0 dX11_ends_1 rfl rfl rfl ?_
  refine kx_getr 5 F fl_X11_26 hk_c0 rfl rfl (j := 5) rfl dX11_ends_2 (v := (M c0 5)) rfl rfl ?_
  refine kx_iload_n 6 F 1 dX11_ends_5 rfl rfl rfl ?_
  refine kx_Vi 9 (ci := 0) F (As := [vI a1]) (st := [vR G c0]) vd_X11_163 (e_X5_has G l M (M c0 5) a1 hI_M hk_5 (by omega)) hk_5 rfl rfl rfl ⟨by decide, by decide⟩ rfl rfl (Nat.le_of_ble_eq_true rfl) dX11_ends_6 rfl ?_
  intro r_7 N_8 q_9
  obtain ⟨rfl, q_9c⟩ := q_9
  have h_10 := Inv.g hI_M hk_5 rfl 3 (a := 0) (b := 2) rfl rfl
  rcases q_9c with q_9c | q_9c | q_9c
  · refine kx_iload_n 10 F 2 dX11_ends_9 rfl rfl rfl ?_
    refine kx_iload_n 11 F 3 dX11_ends_10 rfl rfl rfl ?_
    refine kx_Vi 14 (ci := 0) F (As := [vI r_7, vI a2, vI a3]) (st := []) vd_X11_226 (e_wordRefusal3 G l M c0 r_7 a2 a3 hI_M hk_c0 (by omega)) hk_c0 rfl rfl rfl ⟨by decide, by decide⟩ rfl rfl (Nat.le_of_ble_eq_true rfl) dX11_ends_11 rfl ?_
    intro r_12 N_13 q_14
    obtain ⟨rfl, q_14c, hz_N_13⟩ := q_14
    rcases q_14c with q_14c | q_14c
    · refine kx_istore 16 F 4 (lo' := [some (vR G c0), some (vI a1), some (vI a2), some (vI a3), some (vI r_12)]) dX11_ends_14 (by decide) rfl rfl rfl ?_
      refine kx_iload 18 F 4 dX11_ends_16 rfl rfl ?_
      refine kx_if_eq 21 F 28 dX11_ends_18 (by decide) rfl (by omega) (fun h_15 => ?_) (fun h_15 => (by exfalso; omega))
      refine kx_aload_n 29 F 0 dX11_ends_28 rfl rfl rfl ?_
      refine kx_aload_n 30 F 0 dX11_ends_29 rfl rfl rfl ?_
      refine kx_getr 33 F fl_X11_26 hk_c0 rfl rfl (j := 5) rfl dX11_ends_30 (v := (M c0 5)) rfl rfl ?_
      refine kx_iload_n 34 F 1 dX11_ends_33 rfl rfl rfl ?_
      refine kx_Vr 37 (ci := 0) F (As := [vI a1]) (st := [vR G c0]) vd_X11_164 (c_X5_pickE G l M (M c0 5) a1 hI_M hk_5 (by omega)) hk_5 rfl rfl rfl ⟨by decide, by decide⟩ rfl rfl (Nat.le_of_ble_eq_true rfl) dX11_ends_34 rfl ?_
      intro r_16 N_17 q_18
      obtain ⟨rfl, hk_19, q_18d⟩ := q_18
      rcases q_18d with ⟨q_18c, rfl⟩ | ⟨q_18c, rfl⟩
      · have hA := hU.1 (by omega)
        have hn0 : M (M (M c0 5) 4) 0 = q (85 * a1 + 100) := hA.n (by decide) (by omega)
        have hn1 : M (M (M c0 5) 4) 1 = q (85 * a1 + 101) := hA.n (by decide) (by omega)
        have hn2 : M (M (M c0 5) 4) 2 = q (85 * a1 + 102) := hA.n (by decide) (by omega)
        have hn3 : M (M (M c0 5) 4) 3 = q (85 * a1 + 103) := hA.n (by decide) (by omega)
        have hn4 : M (M (M c0 5) 4) 4 = q (85 * a1 + 104) := hA.n (by decide) (by omega)
        have hwo := zWR.y hz_N_13 (by omega)
        have hwr : 0 ≤ a2 ∧ a2 ≤ 3 ∧ 0 ≤ a3 ∧ a3 ≤ 20 := ⟨hwo.1, hwo.2.1, hwo.2.2.1, hwo.2.2.2.1⟩
        refine kx_iload_n 38 F 2 dX11_ends_37 rfl rfl rfl ?_
        refine kx_iload_n 39 F 3 dX11_ends_38 rfl rfl rfl ?_
        refine kx_Vv 42 (ci := 0) F (As := [vR G (M (M c0 5) 4), vI a2, vI a3]) (st := []) vd_X11_230 (e_walkTray3 G l M c0 (M (M c0 5) 4) a2 a3 hI_M hk_c0 hk_19 (by omega) q (85 * a1 + 100) hS (by rw [show 85 * a1 + 100 = 100 by omega]; exact hA) (zWR.y hz_N_13 (by omega)).2.2.2.2.2.2) hk_c0 rfl rfl rfl ⟨by decide, by decide⟩ rfl rfl (Nat.le_of_ble_eq_true rfl) dX11_ends_39 rfl ?_
        intro N_20 q_21
        obtain ⟨hI_N_20, hG_N_20, hC_N_20, hwt_N_20⟩ := q_21
        have hF_N_20 : Fr f_e_ends3 M N_20 := Fr.c hF_M hG_N_20 rfl
        have hE_N_20 : Cf (SWk M (M c0 12)) M N_20 := Cf.c hE_M hC_N_20 (fun y hy => hy)
        refine kx_aload_n 43 F 0 dX11_ends_42 rfl rfl rfl ?_
        refine kx_aload_n 44 F 0 dX11_ends_43 rfl rfl rfl ?_
        refine kx_getr 47 F fl_X11_61 hk_c0 rfl rfl (j := 12) rfl dX11_ends_44 (v := (M c0 12)) (by rw [Fr.e hG_N_20 hk_c0 _ rfl]) rfl ?_
        refine kx_geti 50 F fl_X11_238 hk_6 rfl rfl (j := 3) rfl dX11_ends_47 (v := (N_20 (M c0 12) 3)) rfl rfl ?_
        have h_22 := Inv.g hI_N_20 hk_6 rfl 3 (a := 0) (b := 7) rfl rfl
        refine kx_Vi 53 (ci := 0) F (As := [vI (N_20 (M c0 12) 3)]) (st := []) vd_X11_145 (c_X11_answer G l N_20 c0 (N_20 (M c0 12) 3) hI_N_20 hk_c0 (by omega)) hk_c0 rfl rfl rfl ⟨by decide, by decide⟩ rfl rfl (Nat.le_of_ble_eq_true rfl) dX11_ends_50 rfl ?_
        intro r_23 N_24 q_25
        obtain ⟨hI_N_24, hG_N_24, q_25c⟩ := q_25
        have hF_N_24 : Fr f_e_ends3 M N_24 := Fr.c hF_N_20 hG_N_24 rfl
        have hE_N_24 : Cf (SWk M (M c0 12)) M N_24 := Cf.fr hE_N_20 hG_N_24 rfl
        exact kx_iret F hQ ⟨hI_N_24, hF_N_24, (by omega), hE_N_24, (Or.inl ⟨⟨by omega, by omega, zWR.y hz_N_13 (by omega)⟩, by have h := hwt_N_20.u.2.2.1; omega⟩)⟩ dX11_ends_53
      · have hA := hU.2 (by omega)
        have hn0 : M (M (M c0 5) 5) 0 = q (85 * a1 + 100) := hA.n (by decide) (by omega)
        have hn1 : M (M (M c0 5) 5) 1 = q (85 * a1 + 101) := hA.n (by decide) (by omega)
        have hn2 : M (M (M c0 5) 5) 2 = q (85 * a1 + 102) := hA.n (by decide) (by omega)
        have hn3 : M (M (M c0 5) 5) 3 = q (85 * a1 + 103) := hA.n (by decide) (by omega)
        have hn4 : M (M (M c0 5) 5) 4 = q (85 * a1 + 104) := hA.n (by decide) (by omega)
        have hwo := zWR.y hz_N_13 (by omega)
        have hwr : 0 ≤ a2 ∧ a2 ≤ 3 ∧ 0 ≤ a3 ∧ a3 ≤ 20 := ⟨hwo.1, hwo.2.1, hwo.2.2.1, hwo.2.2.2.1⟩
        refine kx_iload_n 38 F 2 dX11_ends_37 rfl rfl rfl ?_
        refine kx_iload_n 39 F 3 dX11_ends_38 rfl rfl rfl ?_
        refine kx_Vv 42 (ci := 0) F (As := [vR G (M (M c0 5) 5), vI a2, vI a3]) (st := []) vd_X11_230 (e_walkTray3 G l M c0 (M (M c0 5) 5) a2 a3 hI_M hk_c0 hk_19 (by omega) q (85 * a1 + 100) hS (by rw [show 85 * a1 + 100 = 185 by omega]; exact hA) (zWR.y hz_N_13 (by omega)).2.2.2.2.2.2) hk_c0 rfl rfl rfl ⟨by decide, by decide⟩ rfl rfl (Nat.le_of_ble_eq_true rfl) dX11_ends_39 rfl ?_
        intro N_26 q_27
        obtain ⟨hI_N_26, hG_N_26, hC_N_26, hwt_N_26⟩ := q_27
        have hF_N_26 : Fr f_e_ends3 M N_26 := Fr.c hF_M hG_N_26 rfl
        have hE_N_26 : Cf (SWk M (M c0 12)) M N_26 := Cf.c hE_M hC_N_26 (fun y hy => hy)
        refine kx_aload_n 43 F 0 dX11_ends_42 rfl rfl rfl ?_
        refine kx_aload_n 44 F 0 dX11_ends_43 rfl rfl rfl ?_
        refine kx_getr 47 F fl_X11_61 hk_c0 rfl rfl (j := 12) rfl dX11_ends_44 (v := (M c0 12)) (by rw [Fr.e hG_N_26 hk_c0 _ rfl]) rfl ?_
        refine kx_geti 50 F fl_X11_238 hk_6 rfl rfl (j := 3) rfl dX11_ends_47 (v := (N_26 (M c0 12) 3)) rfl rfl ?_
        have h_28 := Inv.g hI_N_26 hk_6 rfl 3 (a := 0) (b := 7) rfl rfl
        refine kx_Vi 53 (ci := 0) F (As := [vI (N_26 (M c0 12) 3)]) (st := []) vd_X11_145 (c_X11_answer G l N_26 c0 (N_26 (M c0 12) 3) hI_N_26 hk_c0 (by omega)) hk_c0 rfl rfl rfl ⟨by decide, by decide⟩ rfl rfl (Nat.le_of_ble_eq_true rfl) dX11_ends_50 rfl ?_
        intro r_29 N_30 q_31
        obtain ⟨hI_N_30, hG_N_30, q_31c⟩ := q_31
        have hF_N_30 : Fr f_e_ends3 M N_30 := Fr.c hF_N_26 hG_N_30 rfl
        have hE_N_30 : Cf (SWk M (M c0 12)) M N_30 := Cf.fr hE_N_26 hG_N_30 rfl
        exact kx_iret F hQ ⟨hI_N_30, hF_N_30, (by omega), hE_N_30, (Or.inl ⟨⟨by omega, by omega, zWR.y hz_N_13 (by omega)⟩, by have h := hwt_N_26.u.2.2.1; omega⟩)⟩ dX11_ends_53
    · refine kx_istore 16 F 4 (lo' := [some (vR G c0), some (vI a1), some (vI a2), some (vI a3), some (vI r_12)]) dX11_ends_14 (by decide) rfl rfl rfl ?_
      refine kx_iload 18 F 4 dX11_ends_16 rfl rfl ?_
      refine kx_if_eq 21 F 28 dX11_ends_18 (by decide) rfl (by omega) (fun h_32 => (by exfalso; omega)) (fun h_32 => ?_)
      refine kx_aload_n 22 F 0 dX11_ends_21 rfl rfl rfl ?_
      refine kx_iload 24 F 4 dX11_ends_22 rfl rfl ?_
      refine kx_Vi 27 (ci := 0) F (As := [vI r_12]) (st := []) vd_X11_110 (c_X11_refuse G l M c0 r_12 hI_M hk_c0 (by omega)) hk_c0 rfl rfl rfl ⟨by decide, by decide⟩ rfl rfl (Nat.le_of_ble_eq_true rfl) dX11_ends_24 rfl ?_
      intro r_33 N_34 q_35
      obtain ⟨hI_N_34, hG_N_34, q_35c⟩ := q_35
      have hF_N_34 : Fr f_e_ends3 M N_34 := Fr.c hF_M hG_N_34 rfl
      have hE_N_34 : Cf (SWk M (M c0 12)) M N_34 := Cf.fr hE_M hG_N_34 rfl
      subst q_35c
      exact kx_iret F hQ ⟨hI_N_34, hF_N_34, (by omega), hE_N_34, (Or.inr ⟨fun h => (zWR.n hz_N_13 (by omega)) ⟨by have h1 := h.1; have h2 := h.2.1; clear h; omega, h.2.2⟩, by omega⟩)⟩ dX11_ends_27
  · refine kx_iload_n 10 F 2 dX11_ends_9 rfl rfl rfl ?_
    refine kx_iload_n 11 F 3 dX11_ends_10 rfl rfl rfl ?_
    refine kx_Vi 14 (ci := 0) F (As := [vI r_7, vI a2, vI a3]) (st := []) vd_X11_226 (e_wordRefusal3 G l M c0 r_7 a2 a3 hI_M hk_c0 (by omega)) hk_c0 rfl rfl rfl ⟨by decide, by decide⟩ rfl rfl (Nat.le_of_ble_eq_true rfl) dX11_ends_11 rfl ?_
    intro r_36 N_37 q_38
    obtain ⟨rfl, q_38c, hz_N_37⟩ := q_38
    rcases q_38c with q_38c | q_38c
    · exfalso; omega
    · refine kx_istore 16 F 4 (lo' := [some (vR G c0), some (vI a1), some (vI a2), some (vI a3), some (vI r_36)]) dX11_ends_14 (by decide) rfl rfl rfl ?_
      refine kx_iload 18 F 4 dX11_ends_16 rfl rfl ?_
      refine kx_if_eq 21 F 28 dX11_ends_18 (by decide) rfl (by omega) (fun h_39 => (by exfalso; omega)) (fun h_39 => ?_)
      refine kx_aload_n 22 F 0 dX11_ends_21 rfl rfl rfl ?_
      refine kx_iload 24 F 4 dX11_ends_22 rfl rfl ?_
      refine kx_Vi 27 (ci := 0) F (As := [vI r_36]) (st := []) vd_X11_110 (c_X11_refuse G l M c0 r_36 hI_M hk_c0 (by omega)) hk_c0 rfl rfl rfl ⟨by decide, by decide⟩ rfl rfl (Nat.le_of_ble_eq_true rfl) dX11_ends_24 rfl ?_
      intro r_40 N_41 q_42
      obtain ⟨hI_N_41, hG_N_41, q_42c⟩ := q_42
      have hF_N_41 : Fr f_e_ends3 M N_41 := Fr.c hF_M hG_N_41 rfl
      have hE_N_41 : Cf (SWk M (M c0 12)) M N_41 := Cf.fr hE_M hG_N_41 rfl
      subst q_42c
      exact kx_iret F hQ ⟨hI_N_41, hF_N_41, (by omega), hE_N_41, (Or.inr ⟨fun h => (zWR.n hz_N_37 (by omega)) ⟨by have h1 := h.1; have h2 := h.2.1; clear h; omega, h.2.2⟩, by omega⟩)⟩ dX11_ends_27
  · refine kx_iload_n 10 F 2 dX11_ends_9 rfl rfl rfl ?_
    refine kx_iload_n 11 F 3 dX11_ends_10 rfl rfl rfl ?_
    refine kx_Vi 14 (ci := 0) F (As := [vI r_7, vI a2, vI a3]) (st := []) vd_X11_226 (e_wordRefusal3 G l M c0 r_7 a2 a3 hI_M hk_c0 (by omega)) hk_c0 rfl rfl rfl ⟨by decide, by decide⟩ rfl rfl (Nat.le_of_ble_eq_true rfl) dX11_ends_11 rfl ?_
    intro r_43 N_44 q_45
    obtain ⟨rfl, q_45c, hz_N_44⟩ := q_45
    rcases q_45c with q_45c | q_45c
    · exfalso; omega
    · refine kx_istore 16 F 4 (lo' := [some (vR G c0), some (vI a1), some (vI a2), some (vI a3), some (vI r_43)]) dX11_ends_14 (by decide) rfl rfl rfl ?_
      refine kx_iload 18 F 4 dX11_ends_16 rfl rfl ?_
      refine kx_if_eq 21 F 28 dX11_ends_18 (by decide) rfl (by omega) (fun h_46 => (by exfalso; omega)) (fun h_46 => ?_)
      refine kx_aload_n 22 F 0 dX11_ends_21 rfl rfl rfl ?_
      refine kx_iload 24 F 4 dX11_ends_22 rfl rfl ?_
      refine kx_Vi 27 (ci := 0) F (As := [vI r_43]) (st := []) vd_X11_110 (c_X11_refuse G l M c0 r_43 hI_M hk_c0 (by omega)) hk_c0 rfl rfl rfl ⟨by decide, by decide⟩ rfl rfl (Nat.le_of_ble_eq_true rfl) dX11_ends_24 rfl ?_
      intro r_47 N_48 q_49
      obtain ⟨hI_N_48, hG_N_48, q_49c⟩ := q_49
      have hF_N_48 : Fr f_e_ends3 M N_48 := Fr.c hF_M hG_N_48 rfl
      have hE_N_48 : Cf (SWk M (M c0 12)) M N_48 := Cf.fr hE_M hG_N_48 rfl
      subst q_49c
      exact kx_iret F hQ ⟨hI_N_48, hF_N_48, (by omega), hE_N_48, (Or.inr ⟨fun h => (zWR.n hz_N_44 (by omega)) ⟨by have h1 := h.1; have h2 := h.2.1; clear h; omega, h.2.2⟩, by omega⟩)⟩ dX11_ends_27
abbrev f_e_takes3 : List (Nat × Int) := [(8, 1), (8, 2), (8, 3), (8, 4), (9, -1), (10, -1), (11, -1), (62, 0)]
set_option maxHeartbeats 4000000 in
set_option maxRecDepth 100000 in
theorem e_takes3 (G : KG) (l : Launch) (M : Mem) (c0 : Int) (a1 : Int) (a2 : Int) (a3 : Int) (hI_M : Inv false M) (hk_c0 : kd c0 = 62) (hpre : -2147483648 ≤ a1 ∧ a1 ≤ 2147483647 ∧ -2147483648 ≤ a2 ∧ a2 ≤ 2147483647 ∧ -2147483648 ≤ a3 ∧ a3 ≤ 2147483647) (q : Int → Int) (hS : zSN M (M c0 5) q) (hU : zSU M (M c0 5) q) : KC false G l yX11_takes cX11_takes 6 (some .int) (4, 97) [vR G c0, vI a1, vI a2, vI a3] M (fun A => kQi false G A (fun (r : Int) (N : Mem) => Inv false N ∧ Fr f_e_takes3 M N ∧ (r ≥ -1 ∧ r ≤ 1) ∧ Cf (SWk M (M c0 12)) M N ∧ (zTAK (M (M (M c0 3) 0)) q a1 a2 a3 (M (M (M c0 3) 2) a2) (M (M c0 5) 2) r))) := by
  refine kx_met (lo := [some (vR G c0), some (vI a1), some (vI a2), some (vI a3), none, none]) (by decide) (Nat.le_of_ble_eq_true rfl) rfl ?_
  intro X F hQ
  have hF_M : Fr f_e_takes3 M M := Fr.rf _ _
  have hE_M : Cf (SWk M (M c0 12)) M M := Cf.rf _ _
  have hk_1 : kd (M c0 3) = 13 := Inv.r hI_M hk_c0 rfl 3 rfl rfl
  have hk_2 : kd (M (M c0 3) 0) = 14 := Inv.r hI_M hk_1 rfl 0 rfl rfl
  have hk_3 : kd (M (M c0 3) 1) = 15 := Inv.r hI_M hk_1 rfl 1 rfl rfl
  have hk_4 : kd (M (M c0 3) 2) = 16 := Inv.r hI_M hk_1 rfl 2 rfl rfl
  have hk_5 : kd (M c0 5) = 12 := Inv.r hI_M hk_c0 rfl 5 rfl rfl
  have hSn := hS.u
  have hk_6 : kd (M c0 12) = 8 := Inv.r hI_M hk_c0 rfl 12 rfl rfl
  refine kx_aload_n 1 F 0 dX11_takes_0 rfl rfl rfl ?_
  refine kx_aload_n 2 F 0 dX11_takes_1 rfl rfl rfl ?_
  refine kx_getr 5 F fl_X11_26 hk_c0 rfl rfl (j := 5) rfl dX11_takes_2 (v := (M c0 5)) rfl rfl ?_
  refine kx_iload_n 6 F 1 dX11_takes_5 rfl rfl rfl ?_
  refine kx_Vi 9 (ci := 0) F (As := [vI a1]) (st := [vR G c0]) vd_X11_163 (e_X5_has G l M (M c0 5) a1 hI_M hk_5 (by omega)) hk_5 rfl rfl rfl ⟨by decide, by decide⟩ rfl rfl (Nat.le_of_ble_eq_true rfl) dX11_takes_6 rfl ?_
  intro r_7 N_8 q_9
  obtain ⟨rfl, q_9c⟩ := q_9
  have h_10 := Inv.g hI_M hk_5 rfl 3 (a := 0) (b := 2) rfl rfl
  rcases q_9c with q_9c | q_9c | q_9c
  · refine kx_iload_n 10 F 2 dX11_takes_9 rfl rfl rfl ?_
    refine kx_iload_n 11 F 3 dX11_takes_10 rfl rfl rfl ?_
    refine kx_Vi 14 (ci := 0) F (As := [vI r_7, vI a2, vI a3]) (st := []) vd_X11_226 (e_wordRefusal3 G l M c0 r_7 a2 a3 hI_M hk_c0 (by omega)) hk_c0 rfl rfl rfl ⟨by decide, by decide⟩ rfl rfl (Nat.le_of_ble_eq_true rfl) dX11_takes_11 rfl ?_
    intro r_12 N_13 q_14
    obtain ⟨rfl, q_14c, hz_N_13⟩ := q_14
    rcases q_14c with q_14c | q_14c
    · refine kx_istore 16 F 4 (lo' := [some (vR G c0), some (vI a1), some (vI a2), some (vI a3), some (vI r_12), none]) dX11_takes_14 (by decide) rfl rfl rfl ?_
      refine kx_iload 18 F 4 dX11_takes_16 rfl rfl ?_
      refine kx_if_eq 21 F 28 dX11_takes_18 (by decide) rfl (by omega) (fun h_15 => ?_) (fun h_15 => (by exfalso; omega))
      refine kx_aload_n 29 F 0 dX11_takes_28 rfl rfl rfl ?_
      refine kx_getr 32 F fl_X11_26 hk_c0 rfl rfl (j := 5) rfl dX11_takes_29 (v := (M c0 5)) rfl rfl ?_
      refine kx_iload_n 33 F 1 dX11_takes_32 rfl rfl rfl ?_
      refine kx_Vr 36 (ci := 0) F (As := [vI a1]) (st := []) vd_X11_164 (c_X5_pickE G l M (M c0 5) a1 hI_M hk_5 (by omega)) hk_5 rfl rfl rfl ⟨by decide, by decide⟩ rfl rfl (Nat.le_of_ble_eq_true rfl) dX11_takes_33 rfl ?_
      intro r_16 N_17 q_18
      obtain ⟨rfl, hk_19, q_18d⟩ := q_18
      rcases q_18d with ⟨q_18c, rfl⟩ | ⟨q_18c, rfl⟩
      · have hA := hU.1 (by omega)
        have hn0 : M (M (M c0 5) 4) 0 = q (85 * a1 + 100) := hA.n (by decide) (by omega)
        have hn1 : M (M (M c0 5) 4) 1 = q (85 * a1 + 101) := hA.n (by decide) (by omega)
        have hn2 : M (M (M c0 5) 4) 2 = q (85 * a1 + 102) := hA.n (by decide) (by omega)
        have hn3 : M (M (M c0 5) 4) 3 = q (85 * a1 + 103) := hA.n (by decide) (by omega)
        have hn4 : M (M (M c0 5) 4) 4 = q (85 * a1 + 104) := hA.n (by decide) (by omega)
        have hwo := zWR.y hz_N_13 (by omega)
        have hwr : 0 ≤ a2 ∧ a2 ≤ 3 ∧ 0 ≤ a3 ∧ a3 ≤ 20 := ⟨hwo.1, hwo.2.1, hwo.2.2.1, hwo.2.2.2.1⟩
        refine kx_astore 38 F 5 (lo' := [some (vR G c0), some (vI a1), some (vI a2), some (vI a3), some (vI r_12), some (vR G (M (M c0 5) 4))]) dX11_takes_36 (by decide) rfl rfl rfl ?_
        refine kx_aload_n 39 F 0 dX11_takes_38 rfl rfl rfl ?_
        refine kx_aload 41 F 5 dX11_takes_39 rfl rfl ?_
        refine kx_iload_n 42 F 2 dX11_takes_41 rfl rfl rfl ?_
        refine kx_iload_n 43 F 3 dX11_takes_42 rfl rfl rfl ?_
        refine kx_Vv 46 (ci := 0) F (As := [vR G (M (M c0 5) 4), vI a2, vI a3]) (st := []) vd_X11_230 (e_walkTray3 G l M c0 (M (M c0 5) 4) a2 a3 hI_M hk_c0 hk_19 (by omega) q (85 * a1 + 100) hS (by rw [show 85 * a1 + 100 = 100 by omega]; exact hA) (zWR.y hz_N_13 (by omega)).2.2.2.2.2.2) hk_c0 rfl rfl rfl ⟨by decide, by decide⟩ rfl rfl (Nat.le_of_ble_eq_true rfl) dX11_takes_43 rfl ?_
        intro N_20 q_21
        obtain ⟨hI_N_20, hG_N_20, hC_N_20, hwt_N_20⟩ := q_21
        have hF_N_20 : Fr f_e_takes3 M N_20 := Fr.c hF_M hG_N_20 rfl
        have hE_N_20 : Cf (SWk M (M c0 12)) M N_20 := Cf.c hE_M hC_N_20 (fun y hy => hy)
        refine kx_aload_n 47 F 0 dX11_takes_46 rfl rfl rfl ?_
        refine kx_aload_n 48 F 0 dX11_takes_47 rfl rfl rfl ?_
        refine kx_getr 51 F fl_X11_61 hk_c0 rfl rfl (j := 12) rfl dX11_takes_48 (v := (M c0 12)) (by rw [Fr.e hG_N_20 hk_c0 _ rfl]) rfl ?_
        refine kx_aload 53 F 5 dX11_takes_51 rfl rfl ?_
        refine kx_Vi 56 (ci := 0) F (As := [vR G (M (M c0 5) 4)]) (st := [vR G c0]) vd_X11_234 (e_isTaken3 G l N_20 (M c0 12) (M (M c0 5) 4) hI_N_20 hk_6 hk_19) hk_6 rfl rfl rfl ⟨by decide, by decide⟩ rfl rfl (Nat.le_of_ble_eq_true rfl) dX11_takes_53 rfl ?_
        intro r_22 N_23 q_24
        obtain ⟨rfl, q_24c⟩ := q_24
        rcases q_24c with q_24c | q_24c
        · refine kx_if_eq 59 F 63 dX11_takes_56 (by decide) rfl (by omega) (fun h_25 => (by exfalso; omega)) (fun h_25 => ?_)
          refine kx_iconst 60 F dX11_takes_59 rfl ?_
          refine kx_goto 64 F dX11_takes_60 (by decide) ?_
          refine kx_Vi 67 (ci := 0) F (As := [vI 1]) (st := []) vd_X11_145 (c_X11_answer G l N_20 c0 1 hI_N_20 hk_c0 (by omega)) hk_c0 rfl rfl rfl ⟨by decide, by decide⟩ rfl rfl (Nat.le_of_ble_eq_true rfl) dX11_takes_64 rfl ?_
          intro r_26 N_27 q_28
          obtain ⟨hI_N_27, hG_N_27, q_28c⟩ := q_28
          have hF_N_27 : Fr f_e_takes3 M N_27 := Fr.c hF_N_20 hG_N_27 rfl
          have hE_N_27 : Cf (SWk M (M c0 12)) M N_27 := Cf.fr hE_N_20 hG_N_27 rfl
          have e_29 : (N_20 (M (M c0 5) 4) 3) = (M (M (M c0 5) 4) 3) := by rw [Fr.e hG_N_20 hk_19 _ rfl]
          have h_30 := Inv.g hI_M hk_19 rfl 3 (a := 0) (b := 7) rfl rfl
          have hzw : zand (N_20 (M c0 12) 3) (N_20 (M (M c0 5) 4) 3) = zand (zfo q (85 * a1 + 100) (fun j => M (M (M c0 3) 0) (60 * a2 + j)) a3.toNat 7) (q (85 * a1 + 103)) := by rw [show N_20 (M c0 12) 3 = zfo q (85 * a1 + 100) (fun j => M (M (M c0 3) 0) (60 * a2 + j)) a3.toNat 7 from hwt_N_20.u.2.2.1, show N_20 (M (M c0 5) 4) 3 = q (85 * a1 + 103) by omega]
          exact kx_iret F hQ ⟨hI_N_27, hF_N_27, (by omega), hE_N_27, (Or.inl ⟨⟨by omega, by omega, zWR.y hz_N_13 (by omega)⟩, Or.inl ⟨by omega, by omega⟩⟩)⟩ dX11_takes_67
        · refine kx_if_eq 59 F 63 dX11_takes_56 (by decide) rfl (by omega) (fun h_31 => ?_) (fun h_31 => (by exfalso; omega))
          refine kx_iconst 64 F dX11_takes_63 rfl ?_
          refine kx_Vi 67 (ci := 0) F (As := [vI 0]) (st := []) vd_X11_145 (c_X11_answer G l N_20 c0 0 hI_N_20 hk_c0 (by omega)) hk_c0 rfl rfl rfl ⟨by decide, by decide⟩ rfl rfl (Nat.le_of_ble_eq_true rfl) dX11_takes_64 rfl ?_
          intro r_32 N_33 q_34
          obtain ⟨hI_N_33, hG_N_33, q_34c⟩ := q_34
          have hF_N_33 : Fr f_e_takes3 M N_33 := Fr.c hF_N_20 hG_N_33 rfl
          have hE_N_33 : Cf (SWk M (M c0 12)) M N_33 := Cf.fr hE_N_20 hG_N_33 rfl
          have e_35 : (N_20 (M (M c0 5) 4) 3) = (M (M (M c0 5) 4) 3) := by rw [Fr.e hG_N_20 hk_19 _ rfl]
          have h_36 := Inv.g hI_M hk_19 rfl 3 (a := 0) (b := 7) rfl rfl
          have hzw : zand (N_20 (M c0 12) 3) (N_20 (M (M c0 5) 4) 3) = zand (zfo q (85 * a1 + 100) (fun j => M (M (M c0 3) 0) (60 * a2 + j)) a3.toNat 7) (q (85 * a1 + 103)) := by rw [show N_20 (M c0 12) 3 = zfo q (85 * a1 + 100) (fun j => M (M (M c0 3) 0) (60 * a2 + j)) a3.toNat 7 from hwt_N_20.u.2.2.1, show N_20 (M (M c0 5) 4) 3 = q (85 * a1 + 103) by omega]
          exact kx_iret F hQ ⟨hI_N_33, hF_N_33, (by omega), hE_N_33, (Or.inl ⟨⟨by omega, by omega, zWR.y hz_N_13 (by omega)⟩, Or.inr ⟨by omega, by omega⟩⟩)⟩ dX11_takes_67
      · have hA := hU.2 (by omega)
        have hn0 : M (M (M c0 5) 5) 0 = q (85 * a1 + 100) := hA.n (by decide) (by omega)
        have hn1 : M (M (M c0 5) 5) 1 = q (85 * a1 + 101) := hA.n (by decide) (by omega)
        have hn2 : M (M (M c0 5) 5) 2 = q (85 * a1 + 102) := hA.n (by decide) (by omega)
        have hn3 : M (M (M c0 5) 5) 3 = q (85 * a1 + 103) := hA.n (by decide) (by omega)
        have hn4 : M (M (M c0 5) 5) 4 = q (85 * a1 + 104) := hA.n (by decide) (by omega)
        have hwo := zWR.y hz_N_13 (by omega)
        have hwr : 0 ≤ a2 ∧ a2 ≤ 3 ∧ 0 ≤ a3 ∧ a3 ≤ 20 := ⟨hwo.1, hwo.2.1, hwo.2.2.1, hwo.2.2.2.1⟩
        refine kx_astore 38 F 5 (lo' := [some (vR G c0), some (vI a1), some (vI a2), some (vI a3), some (vI r_12), some (vR G (M (M c0 5) 5))]) dX11_takes_36 (by decide) rfl rfl rfl ?_
        refine kx_aload_n 39 F 0 dX11_takes_38 rfl rfl rfl ?_
        refine kx_aload 41 F 5 dX11_takes_39 rfl rfl ?_
        refine kx_iload_n 42 F 2 dX11_takes_41 rfl rfl rfl ?_
        refine kx_iload_n 43 F 3 dX11_takes_42 rfl rfl rfl ?_
        refine kx_Vv 46 (ci := 0) F (As := [vR G (M (M c0 5) 5), vI a2, vI a3]) (st := []) vd_X11_230 (e_walkTray3 G l M c0 (M (M c0 5) 5) a2 a3 hI_M hk_c0 hk_19 (by omega) q (85 * a1 + 100) hS (by rw [show 85 * a1 + 100 = 185 by omega]; exact hA) (zWR.y hz_N_13 (by omega)).2.2.2.2.2.2) hk_c0 rfl rfl rfl ⟨by decide, by decide⟩ rfl rfl (Nat.le_of_ble_eq_true rfl) dX11_takes_43 rfl ?_
        intro N_37 q_38
        obtain ⟨hI_N_37, hG_N_37, hC_N_37, hwt_N_37⟩ := q_38
        have hF_N_37 : Fr f_e_takes3 M N_37 := Fr.c hF_M hG_N_37 rfl
        have hE_N_37 : Cf (SWk M (M c0 12)) M N_37 := Cf.c hE_M hC_N_37 (fun y hy => hy)
        refine kx_aload_n 47 F 0 dX11_takes_46 rfl rfl rfl ?_
        refine kx_aload_n 48 F 0 dX11_takes_47 rfl rfl rfl ?_
        refine kx_getr 51 F fl_X11_61 hk_c0 rfl rfl (j := 12) rfl dX11_takes_48 (v := (M c0 12)) (by rw [Fr.e hG_N_37 hk_c0 _ rfl]) rfl ?_
        refine kx_aload 53 F 5 dX11_takes_51 rfl rfl ?_
        refine kx_Vi 56 (ci := 0) F (As := [vR G (M (M c0 5) 5)]) (st := [vR G c0]) vd_X11_234 (e_isTaken3 G l N_37 (M c0 12) (M (M c0 5) 5) hI_N_37 hk_6 hk_19) hk_6 rfl rfl rfl ⟨by decide, by decide⟩ rfl rfl (Nat.le_of_ble_eq_true rfl) dX11_takes_53 rfl ?_
        intro r_39 N_40 q_41
        obtain ⟨rfl, q_41c⟩ := q_41
        rcases q_41c with q_41c | q_41c
        · refine kx_if_eq 59 F 63 dX11_takes_56 (by decide) rfl (by omega) (fun h_42 => (by exfalso; omega)) (fun h_42 => ?_)
          refine kx_iconst 60 F dX11_takes_59 rfl ?_
          refine kx_goto 64 F dX11_takes_60 (by decide) ?_
          refine kx_Vi 67 (ci := 0) F (As := [vI 1]) (st := []) vd_X11_145 (c_X11_answer G l N_37 c0 1 hI_N_37 hk_c0 (by omega)) hk_c0 rfl rfl rfl ⟨by decide, by decide⟩ rfl rfl (Nat.le_of_ble_eq_true rfl) dX11_takes_64 rfl ?_
          intro r_43 N_44 q_45
          obtain ⟨hI_N_44, hG_N_44, q_45c⟩ := q_45
          have hF_N_44 : Fr f_e_takes3 M N_44 := Fr.c hF_N_37 hG_N_44 rfl
          have hE_N_44 : Cf (SWk M (M c0 12)) M N_44 := Cf.fr hE_N_37 hG_N_44 rfl
          have e_46 : (N_37 (M (M c0 5) 5) 3) = (M (M (M c0 5) 5) 3) := by rw [Fr.e hG_N_37 hk_19 _ rfl]
          have h_47 := Inv.g hI_M hk_19 rfl 3 (a := 0) (b := 7) rfl rfl
          have hzw : zand (N_37 (M c0 12) 3) (N_37 (M (M c0 5) 5) 3) = zand (zfo q (85 * a1 + 100) (fun j => M (M (M c0 3) 0) (60 * a2 + j)) a3.toNat 7) (q (85 * a1 + 103)) := by rw [show N_37 (M c0 12) 3 = zfo q (85 * a1 + 100) (fun j => M (M (M c0 3) 0) (60 * a2 + j)) a3.toNat 7 from hwt_N_37.u.2.2.1, show N_37 (M (M c0 5) 5) 3 = q (85 * a1 + 103) by omega]
          exact kx_iret F hQ ⟨hI_N_44, hF_N_44, (by omega), hE_N_44, (Or.inl ⟨⟨by omega, by omega, zWR.y hz_N_13 (by omega)⟩, Or.inl ⟨by omega, by omega⟩⟩)⟩ dX11_takes_67
        · refine kx_if_eq 59 F 63 dX11_takes_56 (by decide) rfl (by omega) (fun h_48 => ?_) (fun h_48 => (by exfalso; omega))
          refine kx_iconst 64 F dX11_takes_63 rfl ?_
          refine kx_Vi 67 (ci := 0) F (As := [vI 0]) (st := []) vd_X11_145 (c_X11_answer G l N_37 c0 0 hI_N_37 hk_c0 (by omega)) hk_c0 rfl rfl rfl ⟨by decide, by decide⟩ rfl rfl (Nat.le_of_ble_eq_true rfl) dX11_takes_64 rfl ?_
          intro r_49 N_50 q_51
          obtain ⟨hI_N_50, hG_N_50, q_51c⟩ := q_51
          have hF_N_50 : Fr f_e_takes3 M N_50 := Fr.c hF_N_37 hG_N_50 rfl
          have hE_N_50 : Cf (SWk M (M c0 12)) M N_50 := Cf.fr hE_N_37 hG_N_50 rfl
          have e_52 : (N_37 (M (M c0 5) 5) 3) = (M (M (M c0 5) 5) 3) := by rw [Fr.e hG_N_37 hk_19 _ rfl]
          have h_53 := Inv.g hI_M hk_19 rfl 3 (a := 0) (b := 7) rfl rfl
          have hzw : zand (N_37 (M c0 12) 3) (N_37 (M (M c0 5) 5) 3) = zand (zfo q (85 * a1 + 100) (fun j => M (M (M c0 3) 0) (60 * a2 + j)) a3.toNat 7) (q (85 * a1 + 103)) := by rw [show N_37 (M c0 12) 3 = zfo q (85 * a1 + 100) (fun j => M (M (M c0 3) 0) (60 * a2 + j)) a3.toNat 7 from hwt_N_37.u.2.2.1, show N_37 (M (M c0 5) 5) 3 = q (85 * a1 + 103) by omega]
          exact kx_iret F hQ ⟨hI_N_50, hF_N_50, (by omega), hE_N_50, (Or.inl ⟨⟨by omega, by omega, zWR.y hz_N_13 (by omega)⟩, Or.inr ⟨by omega, by omega⟩⟩)⟩ dX11_takes_67
    · refine kx_istore 16 F 4 (lo' := [some (vR G c0), some (vI a1), some (vI a2), some (vI a3), some (vI r_12), none]) dX11_takes_14 (by decide) rfl rfl rfl ?_
      refine kx_iload 18 F 4 dX11_takes_16 rfl rfl ?_
      refine kx_if_eq 21 F 28 dX11_takes_18 (by decide) rfl (by omega) (fun h_54 => (by exfalso; omega)) (fun h_54 => ?_)
      refine kx_aload_n 22 F 0 dX11_takes_21 rfl rfl rfl ?_
      refine kx_iload 24 F 4 dX11_takes_22 rfl rfl ?_
      refine kx_Vi 27 (ci := 0) F (As := [vI r_12]) (st := []) vd_X11_110 (c_X11_refuse G l M c0 r_12 hI_M hk_c0 (by omega)) hk_c0 rfl rfl rfl ⟨by decide, by decide⟩ rfl rfl (Nat.le_of_ble_eq_true rfl) dX11_takes_24 rfl ?_
      intro r_55 N_56 q_57
      obtain ⟨hI_N_56, hG_N_56, q_57c⟩ := q_57
      have hF_N_56 : Fr f_e_takes3 M N_56 := Fr.c hF_M hG_N_56 rfl
      have hE_N_56 : Cf (SWk M (M c0 12)) M N_56 := Cf.fr hE_M hG_N_56 rfl
      subst q_57c
      exact kx_iret F hQ ⟨hI_N_56, hF_N_56, (by omega), hE_N_56, (Or.inr ⟨fun h => (zWR.n hz_N_13 (by omega)) ⟨by have h1 := h.1; have h2 := h.2.1; clear h; omega, h.2.2⟩, by omega⟩)⟩ dX11_takes_27
  · refine kx_iload_n 10 F 2 dX11_takes_9 rfl rfl rfl ?_
    refine kx_iload_n 11 F 3 dX11_takes_10 rfl rfl rfl ?_
    refine kx_Vi 14 (ci := 0) F (As := [vI r_7, vI a2, vI a3]) (st := []) vd_X11_226 (e_wordRefusal3 G l M c0 r_7 a2 a3 hI_M hk_c0 (by omega)) hk_c0 rfl rfl rfl ⟨by decide, by decide⟩ rfl rfl (Nat.le_of_ble_eq_true rfl) dX11_takes_11 rfl ?_
    intro r_58 N_59 q_60
    obtain ⟨rfl, q_60c, hz_N_59⟩ := q_60
    rcases q_60c with q_60c | q_60c
    · exfalso; omega
    · refine kx_istore 16 F 4 (lo' := [some (vR G c0), some (vI a1), some (vI a2), some (vI a3), some (vI r_58), none]) dX11_takes_14 (by decide) rfl rfl rfl ?_
      refine kx_iload 18 F 4 dX11_takes_16 rfl rfl ?_
      refine kx_if_eq 21 F 28 dX11_takes_18 (by decide) rfl (by omega) (fun h_61 => (by exfalso; omega)) (fun h_61 => ?_)
      refine kx_aload_n 22 F 0 dX11_takes_21 rfl rfl rfl ?_
      refine kx_iload 24 F 4 dX11_takes_22 rfl rfl ?_
      refine kx_Vi 27 (ci := 0) F (As := [vI r_58]) (st := []) vd_X11_110 (c_X11_refuse G l M c0 r_58 hI_M hk_c0 (by omega)) hk_c0 rfl rfl rfl ⟨by decide, by decide⟩ rfl rfl (Nat.le_of_ble_eq_true rfl) dX11_takes_24 rfl ?_
      intro r_62 N_63 q_64
      obtain ⟨hI_N_63, hG_N_63, q_64c⟩ := q_64
      have hF_N_63 : Fr f_e_takes3 M N_63 := Fr.c hF_M hG_N_63 rfl
      have hE_N_63 : Cf (SWk M (M c0 12)) M N_63 := Cf.fr hE_M hG_N_63 rfl
      subst q_64c
      exact kx_iret F hQ ⟨hI_N_63, hF_N_63, (by omega), hE_N_63, (Or.inr ⟨fun h => (zWR.n hz_N_59 (by omega)) ⟨by have h1 := h.1; have h2 := h.2.1; clear h; omega, h.2.2⟩, by omega⟩)⟩ dX11_takes_27
  · refine kx_iload_n 10 F 2 dX11_takes_9 rfl rfl rfl ?_
    refine kx_iload_n 11 F 3 dX11_takes_10 rfl rfl rfl ?_
    refine kx_Vi 14 (ci := 0) F (As := [vI r_7, vI a2, vI a3]) (st := []) vd_X11_226 (e_wordRefusal3 G l M c0 r_7 a2 a3 hI_M hk_c0 (by omega)) hk_c0 rfl rfl rfl ⟨by decide, by decide⟩ rfl rfl (Nat.le_of_ble_eq_true rfl) dX11_takes_11 rfl ?_
    intro r_65 N_66 q_67
    obtain ⟨rfl, q_67c, hz_N_66⟩ := q_67
    rcases q_67c with q_67c | q_67c
    · exfalso; omega
    · refine kx_istore 16 F 4 (lo' := [some (vR G c0), some (vI a1), some (vI a2), some (vI a3), some (vI r_65), none]) dX11_takes_14 (by decide) rfl rfl rfl ?_
      refine kx_iload 18 F 4 dX11_takes_16 rfl rfl ?_
      refine kx_if_eq 21 F 28 dX11_takes_18 (by decide) rfl (by omega) (fun h_68 => (by exfalso; omega)) (fun h_68 => ?_)
      refine kx_aload_n 22 F 0 dX11_takes_21 rfl rfl rfl ?_
      refine kx_iload 24 F 4 dX11_takes_22 rfl rfl ?_
      refine kx_Vi 27 (ci := 0) F (As := [vI r_65]) (st := []) vd_X11_110 (c_X11_refuse G l M c0 r_65 hI_M hk_c0 (by omega)) hk_c0 rfl rfl rfl ⟨by decide, by decide⟩ rfl rfl (Nat.le_of_ble_eq_true rfl) dX11_takes_24 rfl ?_
      intro r_69 N_70 q_71
      obtain ⟨hI_N_70, hG_N_70, q_71c⟩ := q_71
      have hF_N_70 : Fr f_e_takes3 M N_70 := Fr.c hF_M hG_N_70 rfl
      have hE_N_70 : Cf (SWk M (M c0 12)) M N_70 := Cf.fr hE_M hG_N_70 rfl
      subst q_71c
      exact kx_iret F hQ ⟨hI_N_70, hF_N_70, (by omega), hE_N_70, (Or.inr ⟨fun h => (zWR.n hz_N_66 (by omega)) ⟨by have h1 := h.1; have h2 := h.2.1; clear h; omega, h.2.2⟩, by omega⟩)⟩ dX11_takes_27
