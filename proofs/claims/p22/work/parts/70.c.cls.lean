abbrev f_e_X5_clear : List (Nat × Int) := [(8, 0), (12, 0), (12, 1), (12, 2), (12, 3)]
set_option maxHeartbeats 4000000 in
set_option maxRecDepth 100000 in
theorem e_X5_clear (G : KG) (l : Launch) (M : Mem) (c0 : Int) (hI_M : Inv false M) (hk_c0 : kd c0 = 12) (hX_M : XX M) (hZ : FZ M) : KC false G l yX5_clear cX5_clear 1 none (0, 0) [vR G c0] M (fun A => kQv false G A (fun (N : Mem) => Inv false N ∧ Fr f_e_X5_clear M N ∧ ((N c0 0) = 0 ∧ (N c0 1) = 0 ∧ (N c0 2) = 0 ∧ (N c0 3) = 0) ∧ XX N ∧ Cf (fun x => c0 ≤ x ∧ x < c0 + 19) M N)) := by
  refine kx_met (lo := [some (vR G c0)]) (by decide) (Nat.le_of_ble_eq_true rfl) rfl ?_
  intro X F hQ
  have hF_M : Fr f_e_X5_clear M M := Fr.rf _ _
  have hE_M : Cf (fun x => c0 ≤ x ∧ x < c0 + 19) M M := Cf.rf _ _
  refine kx_aload_n 1 F 0 dX5_clear_0 rfl rfl rfl ?_
  refine kx_iconst 2 F dX5_clear_1 rfl ?_
  refine kx_puti 5 F fw_X5_28 rfl hk_c0 rfl rfl (j := 0) rfl dX5_clear_2 rfl ?_
  intro N_1 hM_N_1
  have hI_N_1 : Inv false N_1 := Inv.u hI_M hM_N_1 hk_c0 (a := 0) (b := 2) rfl rfl rfl (by omega)
  have hF_N_1 : Fr f_e_X5_clear M N_1 := Fr.u hF_M hM_N_1 hk_c0 rfl
  have hE_N_1 : Cf (fun x => c0 ≤ x ∧ x < c0 + 19) M N_1 := Cf.st hE_M hM_N_1 ⟨by omega, by omega⟩
  refine kx_aload_n 6 F 0 dX5_clear_5 rfl rfl rfl ?_
  refine kx_iconst 7 F dX5_clear_6 rfl ?_
  refine kx_puti 10 F fw_X5_32 rfl hk_c0 rfl rfl (j := 1) rfl dX5_clear_7 rfl ?_
  intro N_2 hM_N_2
  have hI_N_2 : Inv false N_2 := Inv.u hI_N_1 hM_N_2 hk_c0 (a := 0) (b := 4) rfl rfl rfl (by omega)
  have hF_N_2 : Fr f_e_X5_clear M N_2 := Fr.u hF_N_1 hM_N_2 hk_c0 rfl
  have hE_N_2 : Cf (fun x => c0 ≤ x ∧ x < c0 + 19) M N_2 := Cf.st hE_N_1 hM_N_2 ⟨by omega, by omega⟩
  refine kx_aload_n 11 F 0 dX5_clear_10 rfl rfl rfl ?_
  refine kx_iconst 12 F dX5_clear_11 rfl ?_
  refine kx_puti 15 F fw_X5_35 rfl hk_c0 rfl rfl (j := 2) rfl dX5_clear_12 rfl ?_
  intro N_3 hM_N_3
  have hI_N_3 : Inv false N_3 := Inv.u hI_N_2 hM_N_3 hk_c0 (a := 0) (b := 6) rfl rfl rfl (by omega)
  have hF_N_3 : Fr f_e_X5_clear M N_3 := Fr.u hF_N_2 hM_N_3 hk_c0 rfl
  have hE_N_3 : Cf (fun x => c0 ≤ x ∧ x < c0 + 19) M N_3 := Cf.st hE_N_2 hM_N_3 ⟨by omega, by omega⟩
  refine kx_aload_n 16 F 0 dX5_clear_15 rfl rfl rfl ?_
  refine kx_iconst 17 F dX5_clear_16 rfl ?_
  refine kx_puti 20 F fw_X5_38 rfl hk_c0 rfl rfl (j := 3) rfl dX5_clear_17 rfl ?_
  intro N_4 hM_N_4
  have hI_N_4 : Inv false N_4 := Inv.u hI_N_3 hM_N_4 hk_c0 (a := 0) (b := 2) rfl rfl rfl (by omega)
  have hF_N_4 : Fr f_e_X5_clear M N_4 := Fr.u hF_N_3 hM_N_4 hk_c0 rfl
  have hE_N_4 : Cf (fun x => c0 ≤ x ∧ x < c0 + 19) M N_4 := Cf.st hE_N_3 hM_N_4 ⟨by omega, by omega⟩
  refine kx_aload_n 21 F 0 dX5_clear_20 rfl rfl rfl ?_
  refine kx_getr 24 F fl_X5_24 hk_c0 rfl rfl (j := 6) rfl dX5_clear_21 (v := (M c0 6)) (by rw [hM_N_4, mu_i (by omega), hM_N_3, mu_i (by omega), hM_N_2, mu_i (by omega), hM_N_1, mu_i (by omega)]) rfl ?_
  have hk_5 : kd (M c0 6) = 8 := Inv.r hI_M hk_c0 rfl 6 rfl rfl
  refine kx_iconst 25 F dX5_clear_24 rfl ?_
  refine kx_puti 28 F fw_X5_41 rfl hk_5 rfl rfl (j := 0) rfl dX5_clear_25 rfl ?_
  intro N_6 hM_N_6
  have hI_N_6 : Inv false N_6 := Inv.u hI_N_4 hM_N_6 hk_5 (a := (-1)) (b := 1) rfl rfl rfl (by omega)
  have hF_N_6 : Fr f_e_X5_clear M N_6 := Fr.u hF_N_4 hM_N_6 hk_5 rfl
  have hE_N_6 : Cf (fun x => c0 ≤ x ∧ x < c0 + 19) M N_6 := Cf.st hE_N_4 hM_N_6 ⟨by have z := hZ.2.1 c0 hk_c0; omega, by have z := hZ.2.1 c0 hk_c0; omega⟩
  have e_7 : (N_6 c0 0) = 0 := by rw [hM_N_6, mu_k hk_c0 hk_5 rfl, hM_N_4, mu_i (by omega), hM_N_3, mu_i (by omega), hM_N_2, mu_i (by omega), hM_N_1, mu_s]
  have e_8 : (N_6 c0 1) = 0 := by rw [hM_N_6, mu_k hk_c0 hk_5 rfl, hM_N_4, mu_i (by omega), hM_N_3, mu_i (by omega), hM_N_2, mu_s]
  have e_9 : (N_6 c0 2) = 0 := by rw [hM_N_6, mu_k hk_c0 hk_5 rfl, hM_N_4, mu_i (by omega), hM_N_3, mu_s]
  have hs_N_6 : SX N_6 := SX.one hX_M.1 (c0 := c0) (fun c hkc hc => ⟨by rw [hM_N_6, mu_k hkc hk_5 rfl, hM_N_4, mu_c hc, hM_N_3, mu_c hc, hM_N_2, mu_c hc, hM_N_1, mu_c hc], by rw [hM_N_6, mu_k hkc hk_5 rfl, hM_N_4, mu_c hc, hM_N_3, mu_c hc, hM_N_2, mu_c hc, hM_N_1, mu_c hc], by rw [hM_N_6, mu_k hkc hk_5 rfl, hM_N_4, mu_c hc, hM_N_3, mu_c hc, hM_N_2, mu_c hc, hM_N_1, mu_c hc]⟩) (by omega)
  have hX_N_6 : XX N_6 := XX.set hX_M hI_M hF_N_6 rfl hs_N_6
  have e_10 : (N_6 c0 0) = 0 := by rw [hM_N_6, mu_k hk_c0 hk_5 rfl, hM_N_4, mu_i (by omega), hM_N_3, mu_i (by omega), hM_N_2, mu_i (by omega), hM_N_1, mu_s]
  have e_11 : (N_6 c0 1) = 0 := by rw [hM_N_6, mu_k hk_c0 hk_5 rfl, hM_N_4, mu_i (by omega), hM_N_3, mu_i (by omega), hM_N_2, mu_s]
  have e_12 : (N_6 c0 2) = 0 := by rw [hM_N_6, mu_k hk_c0 hk_5 rfl, hM_N_4, mu_i (by omega), hM_N_3, mu_s]
  have e_13 : (N_6 c0 3) = 0 := by rw [hM_N_6, mu_k hk_c0 hk_5 rfl, hM_N_4, mu_s]
  exact kx_vret F hQ ⟨hI_N_6, hF_N_6, (by omega), hX_N_6, hE_N_6⟩ dX5_clear_28
abbrev f_e_take2 : List (Nat × Int) := [(1, 0), (1, 1), (1, 2), (1, 3), (1, 4), (1, 5), (2, -1), (3, -1), (4, -1), (5, -1), (6, -1), (7, -1), (8, 0), (12, 0), (12, 1), (12, 2), (12, 3), (17, 1), (17, 2), (17, 3), (17, 5), (17, 6), (17, 7), (17, 8), (17, 9), (19, -1), (20, -1)]
set_option maxHeartbeats 4000000 in
set_option maxRecDepth 100000 in
theorem e_take2 (G : KG) (l : Launch) (M : Mem) (c0 : Int) (a1 : Int) (hI_M : Inv false M) (hk_c0 : kd c0 = 17) (hpre : -2147483648 ≤ a1 ∧ a1 ≤ 2147483647 ∧ 0 ≤ a1 ∧ a1 ≤ 900) (hX_M : XX M) (Bt : Int → Int) (hT : zTB M (M c0 4) a1 Bt) (hZ : FZ M) : KC false G l yX1_take cX1_take 4 (some .boolean) (9, 195) [vR G c0, vI a1] M (fun A => kQi false G A (fun (r : Int) (N : Mem) => Inv false N ∧ Fr f_e_take2 M N ∧ ((N c0 1) = 0 ∧ r ≥ 0 ∧ r ≤ 1) ∧ XX N ∧ Cf (fun x => M c0 0 ≤ x ∧ x < M c0 0 + 19) M N ∧ (zFIN N c0 Bt r))) := by
  refine kx_met (lo := [some (vR G c0), some (vI a1), none, none]) (by decide) (Nat.le_of_ble_eq_true rfl) rfl ?_
  intro X F hQ
  have hF_M : Fr f_e_take2 M M := Fr.rf _ _
  have hE_M : Cf (fun x => M c0 0 ≤ x ∧ x < M c0 0 + 19) M M := Cf.rf _ _
  have hk_1 : kd (M c0 4) = 18 := Inv.r hI_M hk_c0 rfl 4 rfl rfl
  have hk_2 : kd (M c0 0) = 12 := Inv.r hI_M hk_c0 rfl 0 rfl rfl
  refine kx_aload_n 1 F 0 dX1_take_0 rfl rfl rfl ?_
  refine kx_iload_n 2 F 1 dX1_take_1 rfl rfl rfl ?_
  refine kx_sipush 5 F dX1_take_2 (by decide) rfl ?_
  refine kx_mmin 8 F dX1_take_5 (tt lm_799 rfl) (tt lm_800 rfl) (tt lm_180 rfl) (tt lm_801 rfl) (by decide) (Nat.le_of_ble_eq_true rfl) (by omega) (by omega) rfl (fun w_3 h_4 => ?_)
  have hmin : w_3 = a1 := by omega
  refine kx_puti 11 F fw_X1_45 rfl hk_c0 rfl rfl (j := 5) rfl dX1_take_8 rfl ?_
  intro N_5 hM_N_5
  have hI_N_5 : Inv false N_5 := Inv.u hI_M hM_N_5 hk_c0 (a := 0) (b := 900) rfl rfl rfl (by omega)
  have hF_N_5 : Fr f_e_take2 M N_5 := Fr.u hF_M hM_N_5 hk_c0 rfl
  have hX_N_5 : XX N_5 := XX.st hX_M hI_M hM_N_5 hk_c0 rfl
  have hE_N_5 : Cf (fun x => M c0 0 ≤ x ∧ x < M c0 0 + 19) M N_5 := Cf.sk hE_M hM_N_5 hk_c0 rfl
  refine kx_aload_n 12 F 0 dX1_take_11 rfl rfl rfl ?_
  refine kx_iconst 13 F dX1_take_12 rfl ?_
  refine kx_puti 16 F fw_X1_36 rfl hk_c0 rfl rfl (j := 1) rfl dX1_take_13 rfl ?_
  intro N_6 hM_N_6
  have hI_N_6 : Inv false N_6 := Inv.u hI_N_5 hM_N_6 hk_c0 (a := 0) (b := 900) rfl rfl rfl (by omega)
  have hF_N_6 : Fr f_e_take2 M N_6 := Fr.u hF_N_5 hM_N_6 hk_c0 rfl
  have hX_N_6 : XX N_6 := XX.st hX_N_5 hI_N_5 hM_N_6 hk_c0 rfl
  have hE_N_6 : Cf (fun x => M c0 0 ≤ x ∧ x < M c0 0 + 19) M N_6 := Cf.sk hE_N_5 hM_N_6 hk_c0 rfl
  refine kx_aload_n 17 F 0 dX1_take_16 rfl rfl rfl ?_
  refine kx_getr 20 F fl_X1_12 hk_c0 rfl rfl (j := 0) rfl dX1_take_17 (v := (M c0 0)) (by rw [hM_N_6, mu_i (by omega), hM_N_5, mu_i (by omega)]) rfl ?_
  refine kx_Vv 23 (ci := 0) F (As := []) (st := []) vd_X1_48 (e_X5_clear G l N_6 (M c0 0) hI_N_6 hk_2 hX_N_6 (FZ.fr hZ hF_N_6 rfl)) hk_2 rfl rfl rfl ⟨by decide, by decide⟩ rfl rfl (Nat.le_of_ble_eq_true rfl) dX1_take_20 rfl ?_
  intro N_7 q_8
  obtain ⟨hI_N_7, hG_N_7, q_8c, hX_N_7, hC_N_7⟩ := q_8
  have hF_N_7 : Fr f_e_take2 M N_7 := Fr.c hF_N_6 hG_N_7 rfl
  have hE_N_7 : Cf (fun x => M c0 0 ≤ x ∧ x < M c0 0 + 19) M N_7 := Cf.c hE_N_6 hC_N_7 (fun _ hx => hx)
  have h_9 := Inv.g hI_N_7 hk_2 rfl 0 (a := 0) (b := 2) rfl rfl
  have h_10 := Inv.g hI_N_7 hk_2 rfl 1 (a := 0) (b := 4) rfl rfl
  have h_11 := Inv.g hI_N_7 hk_2 rfl 2 (a := 0) (b := 6) rfl rfl
  have h_12 := Inv.g hI_N_7 hk_2 rfl 3 (a := 0) (b := 2) rfl rfl
  refine kx_aload_n 24 F 0 dX1_take_23 rfl rfl rfl ?_
  refine kx_iconst 25 F dX1_take_24 rfl ?_
  refine kx_puti 28 F fw_X1_18 rfl hk_c0 rfl rfl (j := 2) rfl dX1_take_25 rfl ?_
  intro N_13 hM_N_13
  have hI_N_13 : Inv false N_13 := Inv.u hI_N_7 hM_N_13 hk_c0 (a := (-2147483648)) (b := 2147483647) rfl rfl rfl (by omega)
  have hF_N_13 : Fr f_e_take2 M N_13 := Fr.u hF_N_7 hM_N_13 hk_c0 rfl
  have hX_N_13 : XX N_13 := XX.st hX_N_7 hI_N_7 hM_N_13 hk_c0 rfl
  have hE_N_13 : Cf (fun x => M c0 0 ≤ x ∧ x < M c0 0 + 19) M N_13 := Cf.sk hE_N_7 hM_N_13 hk_c0 rfl
  refine kx_aload_n 29 F 0 dX1_take_28 rfl rfl rfl ?_
  refine kx_iconst 30 F dX1_take_29 rfl ?_
  refine kx_puti 33 F fw_X1_22 rfl hk_c0 rfl rfl (j := 3) rfl dX1_take_30 rfl ?_
  intro N_14 hM_N_14
  have hI_N_14 : Inv false N_14 := Inv.u hI_N_13 hM_N_14 hk_c0 (a := (-2147483648)) (b := 2147483647) rfl rfl rfl (by omega)
  have hF_N_14 : Fr f_e_take2 M N_14 := Fr.u hF_N_13 hM_N_14 hk_c0 rfl
  have hX_N_14 : XX N_14 := XX.st hX_N_13 hI_N_13 hM_N_14 hk_c0 rfl
  have hE_N_14 : Cf (fun x => M c0 0 ≤ x ∧ x < M c0 0 + 19) M N_14 := Cf.sk hE_N_13 hM_N_14 hk_c0 rfl
  refine kx_aload_n 34 F 0 dX1_take_33 rfl rfl rfl ?_
  refine kx_iconst 35 F dX1_take_34 rfl ?_
  refine kx_puti 38 F fw_X1_51 rfl hk_c0 rfl rfl (j := 7) rfl dX1_take_35 rfl ?_
  intro N_15 hM_N_15
  have hI_N_15 : Inv false N_15 := Inv.u hI_N_14 hM_N_15 hk_c0 (a := 0) (b := 900) rfl rfl rfl (by omega)
  have hF_N_15 : Fr f_e_take2 M N_15 := Fr.u hF_N_14 hM_N_15 hk_c0 rfl
  have hX_N_15 : XX N_15 := XX.st hX_N_14 hI_N_14 hM_N_15 hk_c0 rfl
  have hE_N_15 : Cf (fun x => M c0 0 ≤ x ∧ x < M c0 0 + 19) M N_15 := Cf.sk hE_N_14 hM_N_15 hk_c0 rfl
  refine kx_aload_n 39 F 0 dX1_take_38 rfl rfl rfl ?_
  refine kx_iconst 40 F dX1_take_39 rfl ?_
  refine kx_puti 43 F fw_X1_54 rfl hk_c0 rfl rfl (j := 8) rfl dX1_take_40 rfl ?_
  intro N_16 hM_N_16
  have hI_N_16 : Inv false N_16 := Inv.u hI_N_15 hM_N_16 hk_c0 (a := 0) (b := 900) rfl rfl rfl (by omega)
  have hF_N_16 : Fr f_e_take2 M N_16 := Fr.u hF_N_15 hM_N_16 hk_c0 rfl
  have hX_N_16 : XX N_16 := XX.st hX_N_15 hI_N_15 hM_N_16 hk_c0 rfl
  have hE_N_16 : Cf (fun x => M c0 0 ≤ x ∧ x < M c0 0 + 19) M N_16 := Cf.sk hE_N_15 hM_N_16 hk_c0 rfl
  refine kx_iconst 44 F dX1_take_43 rfl ?_
  refine kx_istore_n 45 F 2 (lo' := [some (vR G c0), some (vI a1), some (vI 1), none]) dX1_take_44 rfl (by decide) rfl rfl rfl ?_
  refine kx_iconst 46 F dX1_take_45 rfl ?_
  refine kx_istore_n 47 F 3 (lo' := [some (vR G c0), some (vI a1), some (vI 1), some (vI 0)]) dX1_take_46 rfl (by decide) rfl rfl rfl ?_
  have L_376 : ∀ (n_377 : Nat) (x2_373 : Int) (x3_374 : Int) (N_375 : Mem), Inv false N_375 → Fr f_e_take2 M N_375 → XX N_375 → Cf (fun x => M c0 0 ≤ x ∧ x < M c0 0 + 19) M N_375 → zTK N_375 c0 Bt x2_373 x3_374 → TB N_375 c0 Bt → FZ N_375 → 0 ≤ x2_373 ∧ x2_373 ≤ 1 ∧ 0 ≤ x3_374 ∧ x3_374 ≤ 901 ∧ (N_375 c0 1) = 0 → (901 - (x3_374)).toNat = n_377 → KJ false G X N_375 47 [some (vR G c0), none, some (vI x2_373), some (vI x3_374)] [] := by
    intro n_377
    refine Nat.strongRecOn n_377 ?_
    intro n_377 ih_378 x2_373 x3_374 N_375 hI_N_375 hF_N_375 hX_N_375 hE_N_375 hp_381 hp_382 hp_383 h_379 hm_380
    obtain ⟨k, j, q, t, hCH, hTK⟩ := hp_381
    have hv := zCH.v k hCH
    have hBl := hp_382
    have hZl := hp_383
    have htn := tq_n (TB.tx hBl hI_N_375 hk_c0) (Inv.g hI_N_375 hk_c0 rfl 5 (a := 0) (b := 900) rfl rfl).1 hv.1 rfl
    have hnn := Inv.g hI_N_375 hk_c0 rfl 5 (a := 0) (b := 900) rfl rfl
    refine kx_iload_n 48 F 3 dX1_take_47 rfl rfl rfl ?_
    refine kx_aload_n 49 F 0 dX1_take_48 rfl rfl rfl ?_
    refine kx_geti 52 F fl_X1_45 hk_c0 rfl rfl (j := 5) rfl dX1_take_49 (v := (N_375 c0 5)) rfl rfl ?_
    have h_384 := Inv.g hI_N_375 hk_c0 rfl 5 (a := 0) (b := 900) rfl rfl
    refine kx_icmp_gt 55 F 100 dX1_take_52 (by decide) rfl (by omega) (by omega) (fun h_385 => ?_) (fun h_385 => ?_)
    · have hg0 := hTK.z (TB.tx hBl hI_N_375 hk_c0) (Inv.g hI_N_375 hk_c0 rfl 5 (a := 0) (b := 900) rfl rfl).1 hv.1 (by omega)
      refine kx_iload_n 101 F 2 dX1_take_100 rfl rfl rfl ?_
      have h_386 := Inv.g hI_N_375 hk_c0 rfl 1 (a := 0) (b := 900) rfl rfl
      have h_387 := Inv.g hI_N_375 hk_c0 rfl 2 (a := (-2147483648)) (b := 2147483647) rfl rfl
      have h_388 := Inv.g hI_N_375 hk_c0 rfl 3 (a := (-2147483648)) (b := 2147483647) rfl rfl
      exact kx_zret F hQ (by omega) ⟨hI_N_375, hF_N_375, (by omega), hX_N_375, hE_N_375, (by have hz := hTK.n (by omega); exact ⟨q, t, ⟨k, j, hCH, hz.1⟩, Or.inr ⟨by omega, hz.2⟩⟩)⟩ dX1_take_101
    · refine kx_iload_n 56 F 2 dX1_take_55 rfl rfl rfl ?_
      refine kx_if_eq 59 F 100 dX1_take_56 (by decide) rfl (by omega) (fun h_389 => ?_) (fun h_389 => ?_)
      · refine kx_iload_n 101 F 2 dX1_take_100 rfl rfl rfl ?_
        have h_390 := Inv.g hI_N_375 hk_c0 rfl 1 (a := 0) (b := 900) rfl rfl
        have h_391 := Inv.g hI_N_375 hk_c0 rfl 2 (a := (-2147483648)) (b := 2147483647) rfl rfl
        have h_392 := Inv.g hI_N_375 hk_c0 rfl 3 (a := (-2147483648)) (b := 2147483647) rfl rfl
        exact kx_zret F hQ (by omega) ⟨hI_N_375, hF_N_375, (by omega), hX_N_375, hE_N_375, (by have hz := hTK.n (by omega); exact ⟨q, t, ⟨k, j, hCH, hz.1⟩, Or.inr ⟨by omega, hz.2⟩⟩)⟩ dX1_take_101
      · have hy := hTK.y (by omega)
        refine kx_aload_n 60 F 0 dX1_take_59 rfl rfl rfl ?_
        have h_393 := Inv.g hI_N_375 hk_c0 rfl 7 (a := 0) (b := 900) rfl rfl
        have h_394 := Inv.g hI_N_375 hk_c0 rfl 8 (a := 0) (b := 900) rfl rfl
        refine kx_Vi 63 (ci := 0) F (As := []) (st := []) vd_X1_57 (e_X1_advance G l N_375 c0 hI_N_375 hk_c0 (by omega) Bt hp_382 j (j - 1) (by omega) (by omega) (by omega)) hk_c0 rfl rfl rfl ⟨by decide, by decide⟩ rfl rfl (Nat.le_of_ble_eq_true rfl) dX1_take_60 rfl ?_
        intro r_395 N_396 q_397
        obtain ⟨hI_N_396, hG_N_396, q_397c⟩ := q_397
        have hF_N_396 : Fr f_e_take2 M N_396 := Fr.c hF_N_375 hG_N_396 rfl
        have hE_N_396 : Cf (fun x => M c0 0 ≤ x ∧ x < M c0 0 + 19) M N_396 := Cf.fr hE_N_375 hG_N_396 rfl
        have hX_N_396 : XX N_396 := XX.fr hX_N_375 hI_N_375 hG_N_396 rfl
        have htj := tp_le (TB.tx hBl hI_N_375 hk_c0) (Inv.g hI_N_375 hk_c0 rfl 5 (a := 0) (b := 900) rfl rfl).1 (j := j) hv.1
        have h_398 := Inv.g hI_N_396 hk_c0 rfl 7 (a := 0) (b := 900) rfl rfl
        have h_399 := Inv.g hI_N_396 hk_c0 rfl 8 (a := 0) (b := 900) rfl rfl
        have h_400 := Inv.g hI_N_396 hk_c0 rfl 6 (a := 0) (b := 5) rfl rfl
        have h_401 := Inv.g hI_N_375 hk_c0 rfl 2 (a := (-2147483648)) (b := 2147483647) rfl rfl
        have h_402 := Inv.g hI_N_396 hk_c0 rfl 2 (a := (-2147483648)) (b := 2147483647) rfl rfl
        have h_403 := Inv.g hI_N_375 hk_c0 rfl 3 (a := (-2147483648)) (b := 2147483647) rfl rfl
        have h_404 := Inv.g hI_N_396 hk_c0 rfl 3 (a := (-2147483648)) (b := 2147483647) rfl rfl
        have h_405 := Inv.g hI_N_396 hk_c0 rfl 7 (a := 0) (b := 900) rfl rfl
        have h_406 := Inv.g hI_N_396 hk_c0 rfl 8 (a := 0) (b := 900) rfl rfl
        have h_407 := Inv.g hI_N_396 hk_c0 rfl 6 (a := 0) (b := 5) rfl rfl
        have h_408 := Inv.g hI_N_396 hk_c0 rfl 9 (a := (-2147483648)) (b := 2147483647) rfl rfl
        have h_409 := Inv.g hI_N_375 hk_c0 rfl 2 (a := (-2147483648)) (b := 2147483647) rfl rfl
        have h_410 := Inv.g hI_N_396 hk_c0 rfl 2 (a := (-2147483648)) (b := 2147483647) rfl rfl
        have h_411 := Inv.g hI_N_375 hk_c0 rfl 3 (a := (-2147483648)) (b := 2147483647) rfl rfl
        have h_412 := Inv.g hI_N_396 hk_c0 rfl 3 (a := (-2147483648)) (b := 2147483647) rfl rfl
        have h_413 := Inv.g hI_N_396 hk_c0 rfl 7 (a := 0) (b := 900) rfl rfl
        have h_414 := Inv.g hI_N_396 hk_c0 rfl 8 (a := 0) (b := 900) rfl rfl
        have h_415 := Inv.g hI_N_396 hk_c0 rfl 6 (a := 0) (b := 5) rfl rfl
        have h_416 := Inv.g hI_N_396 hk_c0 rfl 2 (a := (-2147483648)) (b := 2147483647) rfl rfl
        have h_417 := Inv.g hI_N_396 hk_c0 rfl 3 (a := (-2147483648)) (b := 2147483647) rfl rfl
        rcases q_397c with q_397c | q_397c | q_397c
        · refine kx_istore_n 64 F 2 (lo' := [some (vR G c0), none, some (vI r_395), some (vI x3_374)]) dX1_take_63 rfl (by decide) rfl rfl rfl ?_
          refine kx_iload_n 65 F 2 dX1_take_64 rfl rfl rfl ?_
          refine kx_if_eq 68 F 77 dX1_take_65 (by decide) rfl (by omega) (fun h_418 => (by exfalso; omega)) (fun h_418 => ?_)
          refine kx_aload_n 69 F 0 dX1_take_68 rfl rfl rfl ?_
          refine kx_geti 72 F fl_X1_61 hk_c0 rfl rfl (j := 6) rfl dX1_take_69 (v := (N_396 c0 6)) rfl rfl ?_
          refine kx_if_ne 75 F 77 dX1_take_72 (by decide) rfl (by omega) (fun h_419 => ?_) (fun h_419 => ?_)
          · refine kx_iload_n 78 F 2 dX1_take_77 rfl rfl rfl ?_
            refine kx_if_eq 81 F 92 dX1_take_78 (by decide) rfl (by omega) (fun h_420 => (by exfalso; omega)) (fun h_420 => ?_)
            refine kx_aload_n 82 F 0 dX1_take_81 rfl rfl rfl ?_
            refine kx_Vi 85 (ci := 0) F (As := []) (st := []) vd_X1_64 (e_X1_takePart G l N_396 c0 hI_N_396 hk_c0 (by omega) hX_N_396 Bt (TB.fr hp_382 hI_N_375 hk_c0 hG_N_396 rfl) j (by omega) (by omega) t q (NU.fr hy.2.2.2.1 hI_N_375 hk_c0 hG_N_396 rfl) (CQ.fr hy.2.2.1 hI_N_375 hk_c0 hG_N_396 rfl) (CA.fr hy.2.2.2.2.1 hI_N_375 hk_c0 hG_N_396 rfl) (FZ.fr hZl hG_N_396 rfl) hv.2.hr (by omega)) hk_c0 rfl rfl rfl ⟨by decide, by decide⟩ rfl rfl (Nat.le_of_ble_eq_true rfl) dX1_take_82 rfl ?_
            intro r_421 N_422 q_423
            obtain ⟨hI_N_422, hG_N_422, q_423c, hX_N_422, hC_N_422, ⟨e_N_422, q_N_422, t_N_422, hp_N_422, hl_N_422⟩⟩ := q_423
            have hF_N_422 : Fr f_e_take2 M N_422 := Fr.c hF_N_396 hG_N_422 rfl
            have hE_N_422 : Cf (fun x => M c0 0 ≤ x ∧ x < M c0 0 + 19) M N_422 := Cf.c hE_N_396 hC_N_422 (fun y hy => by have e : N_396 c0 0 = M c0 0 := (by rw [Fr.e hG_N_396 hk_c0 _ rfl, Fr.e hF_N_375 hk_c0 _ rfl]); have a := hy.1; have b := hy.2; rw [e] at a b; exact ⟨a, by omega⟩)
            refine kx_if_eq 88 F 92 dX1_take_85 (by decide) rfl (by omega) (fun h_424 => ?_) (fun h_424 => ?_)
            · refine kx_iconst 93 F dX1_take_92 rfl ?_
              refine kx_istore_n 94 F 2 (lo' := [some (vR G c0), none, some (vI 0), some (vI x3_374)]) dX1_take_93 rfl (by decide) rfl rfl rfl ?_
              refine kx_iinc 97 F 3 (v := x3_374 + 1) (lo' := [some (vR G c0), none, some (vI 0), some (vI (x3_374 + 1))]) dX1_take_94 rfl (by omega) (by decide) rfl rfl rfl ?_
              refine kx_goto 47 F dX1_take_97 (by decide) ?_
              have h_425 := Inv.g hI_N_422 hk_c0 rfl 2 (a := (-2147483648)) (b := 2147483647) rfl rfl
              have h_426 := Inv.g hI_N_422 hk_c0 rfl 3 (a := (-2147483648)) (b := 2147483647) rfl rfl
              have e_427 : (N_422 c0 1) = (N_375 c0 1) := by rw [Fr.e hG_N_422 hk_c0 _ rfl, Fr.e hG_N_396 hk_c0 _ rfl]
              have h_428 := Inv.g hI_N_375 hk_c0 rfl 1 (a := 0) (b := 900) rfl rfl
              exact ih_378 _ (by omega) 0 (x3_374 + 1) N_422 hI_N_422 hF_N_422 hX_N_422 hE_N_422 (zTK.stop hCH (Or.inr (Or.inl ⟨by omega, by omega, _, _, _, zPS.r0 hp_N_422 (by omega)⟩)) (zPS.r0 hp_N_422 (by omega)).f) (TB.fr (TB.fr hp_382 hI_N_375 hk_c0 hG_N_396 rfl) hI_N_396 hk_c0 hG_N_422 rfl) (FZ.fr hZ hF_N_422 rfl) (by omega) rfl
            · refine kx_iconst 89 F dX1_take_88 rfl ?_
              refine kx_goto 93 F dX1_take_89 (by decide) ?_
              refine kx_istore_n 94 F 2 (lo' := [some (vR G c0), none, some (vI 1), some (vI x3_374)]) dX1_take_93 rfl (by decide) rfl rfl rfl ?_
              refine kx_iinc 97 F 3 (v := x3_374 + 1) (lo' := [some (vR G c0), none, some (vI 1), some (vI (x3_374 + 1))]) dX1_take_94 rfl (by omega) (by decide) rfl rfl rfl ?_
              refine kx_goto 47 F dX1_take_97 (by decide) ?_
              have h_429 := Inv.g hI_N_422 hk_c0 rfl 2 (a := (-2147483648)) (b := 2147483647) rfl rfl
              have h_430 := Inv.g hI_N_422 hk_c0 rfl 3 (a := (-2147483648)) (b := 2147483647) rfl rfl
              have ha := hl_N_422 (by omega)
              have hb := ha.1
              have hc : N_422 c0 2 = 0 ∧ N_422 c0 3 = -1 ∧ N_422 c0 7 + N_422 c0 8 = tq Bt e_N_422 := ⟨hb.1.trans (by omega), hb.2.1.trans (by omega), hb.2.2.2.2⟩
              have e_431 : (N_422 c0 1) = (N_375 c0 1) := by rw [Fr.e hG_N_422 hk_c0 _ rfl, Fr.e hG_N_396 hk_c0 _ rfl]
              have h_432 := Inv.g hI_N_375 hk_c0 rfl 1 (a := 0) (b := 900) rfl rfl
              exact ih_378 _ (by omega) 1 (x3_374 + 1) N_422 hI_N_422 hF_N_422 hX_N_422 hE_N_422 (zTK.next hCH (TB.tx hBl hI_N_375 hk_c0) (Inv.g hI_N_375 hk_c0 rfl 5 (a := 0) (b := 900) rfl rfl).1 (zPS.r1 hp_N_422 (by omega)) hy.1 (by omega) hc.2.2 ha.2.1 ha.2.2.1 ha.2.2.2 hc.1 hc.2.1) (TB.fr (TB.fr hp_382 hI_N_375 hk_c0 hG_N_396 rfl) hI_N_396 hk_c0 hG_N_422 rfl) (FZ.fr hZ hF_N_422 rfl) (by omega) rfl
          · refine kx_iconst 76 F dX1_take_75 rfl ?_
            have e_433 : (N_396 c0 1) = (N_375 c0 1) := by rw [Fr.e hG_N_396 hk_c0 _ rfl]
            have h_434 := Inv.g hI_N_375 hk_c0 rfl 1 (a := 0) (b := 900) rfl rfl
            exact kx_zret F hQ (by omega) ⟨hI_N_396, hF_N_396, (by omega), hX_N_396, hE_N_396, ⟨q, t, ⟨k, j, hCH, Or.inr (Or.inr ⟨by omega, by omega, by omega⟩)⟩, Or.inl ⟨rfl, by omega, CQ.fr hy.2.2.1 hI_N_375 hk_c0 hG_N_396 rfl, CA.fr hy.2.2.2.2.1 hI_N_375 hk_c0 hG_N_396 rfl⟩⟩⟩ dX1_take_76
        · refine kx_istore_n 64 F 2 (lo' := [some (vR G c0), none, some (vI r_395), some (vI x3_374)]) dX1_take_63 rfl (by decide) rfl rfl rfl ?_
          refine kx_iload_n 65 F 2 dX1_take_64 rfl rfl rfl ?_
          refine kx_if_eq 68 F 77 dX1_take_65 (by decide) rfl (by omega) (fun h_435 => (by exfalso; omega)) (fun h_435 => ?_)
          refine kx_aload_n 69 F 0 dX1_take_68 rfl rfl rfl ?_
          refine kx_geti 72 F fl_X1_61 hk_c0 rfl rfl (j := 6) rfl dX1_take_69 (v := (N_396 c0 6)) rfl rfl ?_
          refine kx_if_ne 75 F 77 dX1_take_72 (by decide) rfl (by omega) (fun h_436 => ?_) (fun h_436 => (by exfalso; omega))
          refine kx_iload_n 78 F 2 dX1_take_77 rfl rfl rfl ?_
          refine kx_if_eq 81 F 92 dX1_take_78 (by decide) rfl (by omega) (fun h_437 => (by exfalso; omega)) (fun h_437 => ?_)
          refine kx_aload_n 82 F 0 dX1_take_81 rfl rfl rfl ?_
          refine kx_Vi 85 (ci := 0) F (As := []) (st := []) vd_X1_64 (e_X1_takePart G l N_396 c0 hI_N_396 hk_c0 (by omega) hX_N_396 Bt (TB.fr hp_382 hI_N_375 hk_c0 hG_N_396 rfl) j (by omega) (by omega) t q (NU.fr hy.2.2.2.1 hI_N_375 hk_c0 hG_N_396 rfl) (CQ.fr hy.2.2.1 hI_N_375 hk_c0 hG_N_396 rfl) (CA.fr hy.2.2.2.2.1 hI_N_375 hk_c0 hG_N_396 rfl) (FZ.fr hZl hG_N_396 rfl) hv.2.hr (by omega)) hk_c0 rfl rfl rfl ⟨by decide, by decide⟩ rfl rfl (Nat.le_of_ble_eq_true rfl) dX1_take_82 rfl ?_
          intro r_438 N_439 q_440
          obtain ⟨hI_N_439, hG_N_439, q_440c, hX_N_439, hC_N_439, ⟨e_N_439, q_N_439, t_N_439, hp_N_439, hl_N_439⟩⟩ := q_440
          have hF_N_439 : Fr f_e_take2 M N_439 := Fr.c hF_N_396 hG_N_439 rfl
          have hE_N_439 : Cf (fun x => M c0 0 ≤ x ∧ x < M c0 0 + 19) M N_439 := Cf.c hE_N_396 hC_N_439 (fun y hy => by have e : N_396 c0 0 = M c0 0 := (by rw [Fr.e hG_N_396 hk_c0 _ rfl, Fr.e hF_N_375 hk_c0 _ rfl]); have a := hy.1; have b := hy.2; rw [e] at a b; exact ⟨a, by omega⟩)
          refine kx_if_eq 88 F 92 dX1_take_85 (by decide) rfl (by omega) (fun h_441 => ?_) (fun h_441 => ?_)
          · refine kx_iconst 93 F dX1_take_92 rfl ?_
            refine kx_istore_n 94 F 2 (lo' := [some (vR G c0), none, some (vI 0), some (vI x3_374)]) dX1_take_93 rfl (by decide) rfl rfl rfl ?_
            refine kx_iinc 97 F 3 (v := x3_374 + 1) (lo' := [some (vR G c0), none, some (vI 0), some (vI (x3_374 + 1))]) dX1_take_94 rfl (by omega) (by decide) rfl rfl rfl ?_
            refine kx_goto 47 F dX1_take_97 (by decide) ?_
            have h_442 := Inv.g hI_N_439 hk_c0 rfl 2 (a := (-2147483648)) (b := 2147483647) rfl rfl
            have h_443 := Inv.g hI_N_439 hk_c0 rfl 3 (a := (-2147483648)) (b := 2147483647) rfl rfl
            have e_444 : (N_439 c0 1) = (N_375 c0 1) := by rw [Fr.e hG_N_439 hk_c0 _ rfl, Fr.e hG_N_396 hk_c0 _ rfl]
            have h_445 := Inv.g hI_N_375 hk_c0 rfl 1 (a := 0) (b := 900) rfl rfl
            exact ih_378 _ (by omega) 0 (x3_374 + 1) N_439 hI_N_439 hF_N_439 hX_N_439 hE_N_439 (zTK.stop hCH (Or.inr (Or.inl ⟨by omega, by omega, _, _, _, zPS.r0 hp_N_439 (by omega)⟩)) (zPS.r0 hp_N_439 (by omega)).f) (TB.fr (TB.fr hp_382 hI_N_375 hk_c0 hG_N_396 rfl) hI_N_396 hk_c0 hG_N_439 rfl) (FZ.fr hZ hF_N_439 rfl) (by omega) rfl
          · refine kx_iconst 89 F dX1_take_88 rfl ?_
            refine kx_goto 93 F dX1_take_89 (by decide) ?_
            refine kx_istore_n 94 F 2 (lo' := [some (vR G c0), none, some (vI 1), some (vI x3_374)]) dX1_take_93 rfl (by decide) rfl rfl rfl ?_
            refine kx_iinc 97 F 3 (v := x3_374 + 1) (lo' := [some (vR G c0), none, some (vI 1), some (vI (x3_374 + 1))]) dX1_take_94 rfl (by omega) (by decide) rfl rfl rfl ?_
            refine kx_goto 47 F dX1_take_97 (by decide) ?_
            have h_446 := Inv.g hI_N_439 hk_c0 rfl 2 (a := (-2147483648)) (b := 2147483647) rfl rfl
            have h_447 := Inv.g hI_N_439 hk_c0 rfl 3 (a := (-2147483648)) (b := 2147483647) rfl rfl
            have ha := hl_N_439 (by omega)
            have hb := ha.1
            have hc : N_439 c0 2 = 0 ∧ N_439 c0 3 = -1 ∧ N_439 c0 7 + N_439 c0 8 = tq Bt e_N_439 := ⟨hb.1.trans (by omega), hb.2.1.trans (by omega), hb.2.2.2.2⟩
            have e_448 : (N_439 c0 1) = (N_375 c0 1) := by rw [Fr.e hG_N_439 hk_c0 _ rfl, Fr.e hG_N_396 hk_c0 _ rfl]
            have h_449 := Inv.g hI_N_375 hk_c0 rfl 1 (a := 0) (b := 900) rfl rfl
            exact ih_378 _ (by omega) 1 (x3_374 + 1) N_439 hI_N_439 hF_N_439 hX_N_439 hE_N_439 (zTK.next hCH (TB.tx hBl hI_N_375 hk_c0) (Inv.g hI_N_375 hk_c0 rfl 5 (a := 0) (b := 900) rfl rfl).1 (zPS.r1 hp_N_439 (by omega)) hy.1 (by omega) hc.2.2 ha.2.1 ha.2.2.1 ha.2.2.2 hc.1 hc.2.1) (TB.fr (TB.fr hp_382 hI_N_375 hk_c0 hG_N_396 rfl) hI_N_396 hk_c0 hG_N_439 rfl) (FZ.fr hZ hF_N_439 rfl) (by omega) rfl
        · refine kx_istore_n 64 F 2 (lo' := [some (vR G c0), none, some (vI r_395), some (vI x3_374)]) dX1_take_63 rfl (by decide) rfl rfl rfl ?_
          refine kx_iload_n 65 F 2 dX1_take_64 rfl rfl rfl ?_
          refine kx_if_eq 68 F 77 dX1_take_65 (by decide) rfl (by omega) (fun h_450 => ?_) (fun h_450 => (by exfalso; omega))
          refine kx_iload_n 78 F 2 dX1_take_77 rfl rfl rfl ?_
          refine kx_if_eq 81 F 92 dX1_take_78 (by decide) rfl (by omega) (fun h_451 => ?_) (fun h_451 => (by exfalso; omega))
          refine kx_iconst 93 F dX1_take_92 rfl ?_
          refine kx_istore_n 94 F 2 (lo' := [some (vR G c0), none, some (vI 0), some (vI x3_374)]) dX1_take_93 rfl (by decide) rfl rfl rfl ?_
          refine kx_iinc 97 F 3 (v := x3_374 + 1) (lo' := [some (vR G c0), none, some (vI 0), some (vI (x3_374 + 1))]) dX1_take_94 rfl (by omega) (by decide) rfl rfl rfl ?_
          refine kx_goto 47 F dX1_take_97 (by decide) ?_
          have e_452 : (N_396 c0 1) = (N_375 c0 1) := by rw [Fr.e hG_N_396 hk_c0 _ rfl]
          have h_453 := Inv.g hI_N_375 hk_c0 rfl 1 (a := 0) (b := 900) rfl rfl
          exact ih_378 _ (by omega) 0 (x3_374 + 1) N_396 hI_N_396 hF_N_396 hX_N_396 hE_N_396 (zTK.stop hCH (Or.inl ⟨by omega, by omega, by omega⟩) (by omega)) (TB.fr hp_382 hI_N_375 hk_c0 hG_N_396 rfl) (FZ.fr hZ hF_N_396 rfl) (by omega) rfl
  refine kx_drop 1 (lo' := [some (vR G c0), none, some (vI 1), some (vI 0)]) rfl ?_
  have e_454 : (N_16 c0 0) = (M c0 0) := by rw [hM_N_16, mu_i (by omega), hM_N_15, mu_i (by omega), hM_N_14, mu_i (by omega), hM_N_13, mu_i (by omega), Fr.e hG_N_7 hk_c0 _ rfl, hM_N_6, mu_i (by omega), hM_N_5, mu_i (by omega)]
  have e_455 : (N_16 c0 2) = 0 := by rw [hM_N_16, mu_i (by omega), hM_N_15, mu_i (by omega), hM_N_14, mu_i (by omega), hM_N_13, mu_s]
  have e_456 : (N_16 c0 3) = -1 := by rw [hM_N_16, mu_i (by omega), hM_N_15, mu_i (by omega), hM_N_14, mu_s]
  have e_457 : (N_16 c0 7) = 0 := by rw [hM_N_16, mu_i (by omega), hM_N_15, mu_s]
  have e_458 : (N_16 c0 8) = 0 := by rw [hM_N_16, mu_s]
  have e_459 : (N_16 c0 0) = (M c0 0) := by rw [hM_N_16, mu_i (by omega), hM_N_15, mu_i (by omega), hM_N_14, mu_i (by omega), hM_N_13, mu_i (by omega), Fr.e hG_N_7 hk_c0 _ rfl, hM_N_6, mu_i (by omega), hM_N_5, mu_i (by omega)]
  have e_460 : (N_16 (N_16 c0 0) 0) = (N_7 (M c0 0) 0) := by rw [e_459, hM_N_16, mu_k hk_2 hk_c0 rfl, hM_N_15, mu_k hk_2 hk_c0 rfl, hM_N_14, mu_k hk_2 hk_c0 rfl, hM_N_13, mu_k hk_2 hk_c0 rfl]
  have e_461 : (N_16 c0 0) = (M c0 0) := by rw [hM_N_16, mu_i (by omega), hM_N_15, mu_i (by omega), hM_N_14, mu_i (by omega), hM_N_13, mu_i (by omega), Fr.e hG_N_7 hk_c0 _ rfl, hM_N_6, mu_i (by omega), hM_N_5, mu_i (by omega)]
  have e_462 : (N_16 (N_16 c0 0) 1) = (N_7 (M c0 0) 1) := by rw [e_461, hM_N_16, mu_k hk_2 hk_c0 rfl, hM_N_15, mu_k hk_2 hk_c0 rfl, hM_N_14, mu_k hk_2 hk_c0 rfl, hM_N_13, mu_k hk_2 hk_c0 rfl]
  have e_463 : (N_16 c0 0) = (M c0 0) := by rw [hM_N_16, mu_i (by omega), hM_N_15, mu_i (by omega), hM_N_14, mu_i (by omega), hM_N_13, mu_i (by omega), Fr.e hG_N_7 hk_c0 _ rfl, hM_N_6, mu_i (by omega), hM_N_5, mu_i (by omega)]
  have e_464 : (N_16 (N_16 c0 0) 2) = (N_7 (M c0 0) 2) := by rw [e_463, hM_N_16, mu_k hk_2 hk_c0 rfl, hM_N_15, mu_k hk_2 hk_c0 rfl, hM_N_14, mu_k hk_2 hk_c0 rfl, hM_N_13, mu_k hk_2 hk_c0 rfl]
  have e_465 : (N_16 c0 0) = (M c0 0) := by rw [hM_N_16, mu_i (by omega), hM_N_15, mu_i (by omega), hM_N_14, mu_i (by omega), hM_N_13, mu_i (by omega), Fr.e hG_N_7 hk_c0 _ rfl, hM_N_6, mu_i (by omega), hM_N_5, mu_i (by omega)]
  have e_466 : (N_16 (N_16 c0 0) 3) = (N_7 (M c0 0) 3) := by rw [e_465, hM_N_16, mu_k hk_2 hk_c0 rfl, hM_N_15, mu_k hk_2 hk_c0 rfl, hM_N_14, mu_k hk_2 hk_c0 rfl, hM_N_13, mu_k hk_2 hk_c0 rfl]
  have e_467 : (N_16 c0 4) = (M c0 4) := by rw [hM_N_16, mu_i (by omega), hM_N_15, mu_i (by omega), hM_N_14, mu_i (by omega), hM_N_13, mu_i (by omega), Fr.e hG_N_7 hk_c0 _ rfl, hM_N_6, mu_i (by omega), hM_N_5, mu_i (by omega)]
  have e_468 : (N_16 c0 5) = w_3 := by rw [hM_N_16, mu_i (by omega), hM_N_15, mu_i (by omega), hM_N_14, mu_i (by omega), hM_N_13, mu_i (by omega), Fr.e hG_N_7 hk_c0 _ rfl, hM_N_6, mu_i (by omega), hM_N_5, mu_s]
  have e_469 : (N_16 c0 1) = 0 := by rw [hM_N_16, mu_i (by omega), hM_N_15, mu_i (by omega), hM_N_14, mu_i (by omega), hM_N_13, mu_i (by omega), Fr.e hG_N_7 hk_c0 _ rfl, hM_N_6, mu_s]
  exact L_376 _ 1 0 N_16 hI_N_16 hF_N_16 hX_N_16 hE_N_16 (zTK.ini ⟨by omega, by omega, by omega, by omega⟩ (by omega) (by omega) (by omega)) (zTB.of hT (by omega) (by omega) (fun k => by rw [hM_N_16, mu_k hk_1 hk_c0 rfl, hM_N_15, mu_k hk_1 hk_c0 rfl, hM_N_14, mu_k hk_1 hk_c0 rfl, hM_N_13, mu_k hk_1 hk_c0 rfl, Fr.e hG_N_7 hk_1 _ rfl, hM_N_6, mu_k hk_1 hk_c0 rfl, hM_N_5, mu_k hk_1 hk_c0 rfl])) (FZ.fr hZ hF_N_16 rfl) (by omega) rfl
