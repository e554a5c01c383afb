abbrev f_e_begin3 : List (Nat × Int) := [(8, 1), (8, 2), (8, 3), (8, 4)]
set_option maxHeartbeats 4000000 in
set_option maxRecDepth 100000 in
theorem e_begin3 (G : KG) (l : Launch) (M : Mem) (c0 : Int) (c1 : Int) (hI_M : Inv false M) (hk_c0 : kd c0 = 8) (hk_c1 : kd c1 = 1) : KC false G l yX10_begin cX10_begin 2 none (1, 22) [vR G c0, vR G c1] M (fun A => kQv false G A (fun (N : Mem) => Inv false N ∧ Fr f_e_begin3 M N ∧ ((N c0 1) = 0 ∧ (N c0 2) = 0 ∧ (N c0 3) = (M c1 2)))) := by
  refine kx_met (lo := [some (vR G c0), some (vR G c1)]) (by decide) (Nat.le_of_ble_eq_true rfl) rfl ?_
  intro X F hQ
  have hF_M : Fr f_e_begin3 M M := Fr.rf _ _
  refine kx_aload_n 1 F 0 dX10_begin_0 rfl rfl rfl ?_
  refine kx_iconst 2 F dX10_begin_1 rfl ?_
  refine kx_puti 5 F fw_X10_25 rfl hk_c0 rfl rfl (j := 1) rfl dX10_begin_2 rfl ?_
  intro N_1 hM_N_1
  have hI_N_1 : Inv false N_1 := Inv.u hI_M hM_N_1 hk_c0 (a := (-2147483648)) (b := 2147483647) rfl rfl rfl (by omega)
  have hF_N_1 : Fr f_e_begin3 M N_1 := Fr.u hF_M hM_N_1 hk_c0 rfl
  refine kx_aload_n 6 F 0 dX10_begin_5 rfl rfl rfl ?_
  refine kx_iconst 7 F dX10_begin_6 rfl ?_
  refine kx_puti 10 F fw_X10_28 rfl hk_c0 rfl rfl (j := 2) rfl dX10_begin_7 rfl ?_
  intro N_2 hM_N_2
  have hI_N_2 : Inv false N_2 := Inv.u hI_N_1 hM_N_2 hk_c0 (a := 0) (b := 30) rfl rfl rfl (by omega)
  have hF_N_2 : Fr f_e_begin3 M N_2 := Fr.u hF_N_1 hM_N_2 hk_c0 rfl
  refine kx_aload_n 11 F 0 dX10_begin_10 rfl rfl rfl ?_
  refine kx_aload_n 12 F 1 dX10_begin_11 rfl rfl rfl ?_
  refine kx_geti 15 F fl_X10_31 hk_c1 rfl rfl (j := 2) rfl dX10_begin_12 (v := (M c1 2)) (by rw [hM_N_2, mu_k hk_c1 hk_c0 rfl, hM_N_1, mu_k hk_c1 hk_c0 rfl]) rfl ?_
  have h_3 := Inv.g hI_M hk_c1 rfl 2 (a := 0) (b := 7) rfl rfl
  refine kx_puti 18 F fw_X10_36 rfl hk_c0 rfl rfl (j := 3) rfl dX10_begin_15 rfl ?_
  intro N_4 hM_N_4
  have hI_N_4 : Inv false N_4 := Inv.u hI_N_2 hM_N_4 hk_c0 (a := 0) (b := 7) rfl rfl rfl (by omega)
  have hF_N_4 : Fr f_e_begin3 M N_4 := Fr.u hF_N_2 hM_N_4 hk_c0 rfl
  refine kx_aload_n 19 F 0 dX10_begin_18 rfl rfl rfl ?_
  refine kx_aload_n 20 F 1 dX10_begin_19 rfl rfl rfl ?_
  refine kx_geti 23 F fl_X10_39 hk_c1 rfl rfl (j := 0) rfl dX10_begin_20 (v := (M c1 0)) (by rw [hM_N_4, mu_k hk_c1 hk_c0 rfl, hM_N_2, mu_k hk_c1 hk_c0 rfl, hM_N_1, mu_k hk_c1 hk_c0 rfl]) rfl ?_
  have h_5 := Inv.g hI_M hk_c1 rfl 0 (a := 0) (b := 3) rfl rfl
  refine kx_Si 26 F (As := [vI (M c1 0)]) (st := [vR G c0]) sd_X10_40 (c_X2_identity G l N_4 (M c1 0) hI_N_4 (by omega)) ⟨by decide, by decide⟩ rfl rfl (Nat.le_of_ble_eq_true rfl) dX10_begin_23 rfl ?_
  intro r_6 N_7 q_8
  obtain ⟨rfl, q_8c⟩ := q_8
  refine kx_puti 29 F fw_X10_46 rfl hk_c0 rfl rfl (j := 4) rfl dX10_begin_26 rfl ?_
  intro N_9 hM_N_9
  have hI_N_9 : Inv false N_9 := Inv.u hI_N_4 hM_N_9 hk_c0 (a := 0) (b := 511) rfl rfl rfl (by omega)
  have hF_N_9 : Fr f_e_begin3 M N_9 := Fr.u hF_N_4 hM_N_9 hk_c0 rfl
  have e_10 : (N_9 c0 1) = 0 := by rw [hM_N_9, mu_i (by omega), hM_N_4, mu_i (by omega), hM_N_2, mu_i (by omega), hM_N_1, mu_s]
  have e_11 : (N_9 c0 2) = 0 := by rw [hM_N_9, mu_i (by omega), hM_N_4, mu_i (by omega), hM_N_2, mu_s]
  have e_12 : (N_9 c0 3) = (M c1 2) := by rw [hM_N_9, mu_i (by omega), hM_N_4, mu_s]
  exact kx_vret F hQ ⟨hI_N_9, hF_N_9, (by omega)⟩ dX10_begin_29
set_option maxHeartbeats 4000000 in
set_option maxRecDepth 100000 in
theorem e_isTaken3 (G : KG) (l : Launch) (M : Mem) (c0 : Int) (c1 : Int) (hI_M : Inv false M) (hk_c0 : kd c0 = 8) (hk_c1 : kd c1 = 1) : KC false G l yX10_isTaken cX10_isTaken 2 (some .boolean) (0, 0) [vR G c0, vR G c1] M (fun A => kQi false G A (fun (r : Int) (N : Mem) => M = N ∧ ((r = 1 ∧ (zand (M c0 3) (M c1 3)) ≠ 0) ∨ (r = 0 ∧ (zand (M c0 3) (M c1 3)) = 0)))) := by
  refine kx_met (lo := [some (vR G c0), some (vR G c1)]) (by decide) (Nat.le_of_ble_eq_true rfl) rfl ?_
  intro X F hQ
  refine kx_aload_n 1 F 0 dX10_isTaken_0 rfl rfl rfl ?_
  refine kx_geti 4 F fl_X10_36 hk_c0 rfl rfl (j := 3) rfl dX10_isTaken_1 (v := (M c0 3)) rfl rfl ?_
  have h_1 := Inv.g hI_M hk_c0 rfl 3 (a := 0) (b := 7) rfl rfl
  refine kx_aload_n 5 F 1 dX10_isTaken_4 rfl rfl rfl ?_
  refine kx_geti 8 F fl_X10_63 hk_c1 rfl rfl (j := 3) rfl dX10_isTaken_5 (v := (M c1 3)) rfl rfl ?_
  have h_2 := Inv.g hI_M hk_c1 rfl 3 (a := 0) (b := 7) rfl rfl
  refine kx_iand 9 F (v := (zand (M c0 3) (M c1 3))) dX10_isTaken_8 rfl rfl ?_
  have h_3 := zand_r (a := (M c0 3)) (b := (M c1 3)) (by omega)
  refine kx_if_eq 12 F 16 dX10_isTaken_9 (by decide) rfl (by omega) (fun h_4 => ?_) (fun h_4 => ?_)
  · refine kx_iconst 17 F dX10_isTaken_16 rfl ?_
    exact kx_zret F hQ (by omega) ⟨rfl, (by omega)⟩ dX10_isTaken_17
  · refine kx_iconst 13 F dX10_isTaken_12 rfl ?_
    refine kx_goto 17 F dX10_isTaken_13 (by decide) ?_
    exact kx_zret F hQ (by omega) ⟨rfl, (by omega)⟩ dX10_isTaken_17
abbrev f_e_watch3 : List (Nat × Int) := [(8, 0), (8, 1), (8, 2), (8, 3), (8, 4), (62, 0)]
set_option maxHeartbeats 4000000 in
set_option maxRecDepth 100000 in
theorem e_watch3 (G : KG) (l : Launch) (M : Mem) (c0 : Int) (a1 : Int) (hI_M : Inv false M) (hk_c0 : kd c0 = 62) (hpre : -2147483648 ≤ a1 ∧ a1 ≤ 2147483647) (q : Int → Int) (hS : zSN M (M c0 5) q) (hU : zSU M (M c0 5) q) : KC false G l yX11_watch cX11_watch 3 (some .int) (2, 43) [vR G c0, vI a1] M (fun A => kQi false G A (fun (r : Int) (N : Mem) => Inv false N ∧ Fr f_e_watch3 M N ∧ (r ≥ -1 ∧ r ≤ 1) ∧ (zWA q a1 r))) := by
  refine kx_met (lo := [some (vR G c0), some (vI a1), none]) (by decide) (Nat.le_of_ble_eq_true rfl) rfl ?_
  intro X F hQ
  have hF_M : Fr f_e_watch3 M M := Fr.rf _ _
  have hk_1 : kd (M c0 5) = 12 := Inv.r hI_M hk_c0 rfl 5 rfl rfl
  have hSn := hS.u
  refine kx_aload_n 1 F 0 dX11_watch_0 rfl rfl rfl ?_
  refine kx_getr 4 F fl_X11_26 hk_c0 rfl rfl (j := 5) rfl dX11_watch_1 (v := (M c0 5)) rfl rfl ?_
  refine kx_iload_n 5 F 1 dX11_watch_4 rfl rfl rfl ?_
  refine kx_Vi 8 (ci := 0) F (As := [vI a1]) (st := []) vd_X11_163 (e_X5_has G l M (M c0 5) a1 hI_M hk_1 (by omega)) hk_1 rfl rfl rfl ⟨by decide, by decide⟩ rfl rfl (Nat.le_of_ble_eq_true rfl) dX11_watch_5 rfl ?_
  intro r_2 N_3 q_4
  obtain ⟨rfl, q_4c⟩ := q_4
  have h_5 := Inv.g hI_M hk_1 rfl 3 (a := 0) (b := 2) rfl rfl
  have h_6 := Inv.g hI_M hk_1 rfl 3 (a := 0) (b := 2) rfl rfl
  rcases q_4c with q_4c | q_4c | q_4c
  · refine kx_if_ne 11 F 17 dX11_watch_8 (by decide) rfl (by omega) (fun h_7 => ?_) (fun h_7 => (by exfalso; omega))
    refine kx_aload_n 18 F 0 dX11_watch_17 rfl rfl rfl ?_
    refine kx_getr 21 F fl_X11_26 hk_c0 rfl rfl (j := 5) rfl dX11_watch_18 (v := (M c0 5)) rfl rfl ?_
    refine kx_iload_n 22 F 1 dX11_watch_21 rfl rfl rfl ?_
    refine kx_Vr 25 (ci := 0) F (As := [vI a1]) (st := []) vd_X11_164 (c_X5_pickE G l M (M c0 5) a1 hI_M hk_1 (by omega)) hk_1 rfl rfl rfl ⟨by decide, by decide⟩ rfl rfl (Nat.le_of_ble_eq_true rfl) dX11_watch_22 rfl ?_
    intro r_8 N_9 q_10
    obtain ⟨rfl, hk_11, q_10d⟩ := q_10
    rcases q_10d with ⟨q_10c, rfl⟩ | ⟨q_10c, rfl⟩
    · have hA := hU.1 (by omega)
      have hn0 : M (M (M c0 5) 4) 0 = q (85 * a1 + 100) := hA.n (by decide) (by omega)
      have hn1 : M (M (M c0 5) 4) 1 = q (85 * a1 + 101) := hA.n (by decide) (by omega)
      have hn2 : M (M (M c0 5) 4) 2 = q (85 * a1 + 102) := hA.n (by decide) (by omega)
      have hn3 : M (M (M c0 5) 4) 3 = q (85 * a1 + 103) := hA.n (by decide) (by omega)
      have hn4 : M (M (M c0 5) 4) 4 = q (85 * a1 + 104) := hA.n (by decide) (by omega)
      refine kx_astore_n 26 F 2 (lo' := [some (vR G c0), some (vI a1), some (vR G (M (M c0 5) 4))]) dX11_watch_25 rfl (by decide) rfl rfl rfl ?_
      refine kx_aload_n 27 F 0 dX11_watch_26 rfl rfl rfl ?_
      refine kx_getr 30 F fl_X11_26 hk_c0 rfl rfl (j := 5) rfl dX11_watch_27 (v := (M c0 5)) rfl rfl ?_
      refine kx_getr 33 F fl_X11_367 hk_1 rfl rfl (j := 6) rfl dX11_watch_30 (v := (M (M c0 5) 6)) rfl rfl ?_
      have hk_12 : kd (M (M c0 5) 6) = 8 := Inv.r hI_M hk_1 rfl 6 rfl rfl
      refine kx_aload_n 34 F 2 dX11_watch_33 rfl rfl rfl ?_
      refine kx_Vv 37 (ci := 0) F (As := [vR G (M (M c0 5) 4)]) (st := []) vd_X11_370 (e_begin3 G l M (M (M c0 5) 6) (M (M c0 5) 4) hI_M hk_12 hk_11) hk_12 rfl rfl rfl ⟨by decide, by decide⟩ rfl rfl (Nat.le_of_ble_eq_true rfl) dX11_watch_34 rfl ?_
      intro N_13 q_14
      obtain ⟨hI_N_13, hG_N_13, q_14c⟩ := q_14
      have hF_N_13 : Fr f_e_watch3 M N_13 := Fr.c hF_M hG_N_13 rfl
      have h_15 := Inv.g hI_N_13 hk_12 rfl 1 (a := (-2147483648)) (b := 2147483647) rfl rfl
      have h_16 := Inv.g hI_N_13 hk_12 rfl 2 (a := 0) (b := 30) rfl rfl
      have h_17 := Inv.g hI_M hk_11 rfl 2 (a := 0) (b := 7) rfl rfl
      have h_18 := Inv.g hI_N_13 hk_12 rfl 3 (a := 0) (b := 7) rfl rfl
      refine kx_aload_n 38 F 0 dX11_watch_37 rfl rfl rfl ?_
      refine kx_getr 41 F fl_X11_26 hk_c0 rfl rfl (j := 5) rfl dX11_watch_38 (v := (M c0 5)) (by rw [Fr.e hG_N_13 hk_c0 _ rfl]) rfl ?_
      refine kx_getr 44 F fl_X11_367 hk_1 rfl rfl (j := 6) rfl dX11_watch_41 (v := (M (M c0 5) 6)) (by rw [Fr.e hG_N_13 hk_1 _ rfl]) rfl ?_
      refine kx_iload_n 45 F 1 dX11_watch_44 rfl rfl rfl ?_
      refine kx_puti 48 F fw_X11_372 rfl hk_12 rfl rfl (j := 0) rfl dX11_watch_45 rfl ?_
      intro N_19 hM_N_19
      have hI_N_19 : Inv false N_19 := Inv.u hI_N_13 hM_N_19 hk_12 (a := (-1)) (b := 1) rfl rfl rfl (by omega)
      have hF_N_19 : Fr f_e_watch3 M N_19 := Fr.u hF_N_13 hM_N_19 hk_12 rfl
      refine kx_aload_n 49 F 0 dX11_watch_48 rfl rfl rfl ?_
      refine kx_aload_n 50 F 0 dX11_watch_49 rfl rfl rfl ?_
      refine kx_getr 53 F fl_X11_26 hk_c0 rfl rfl (j := 5) rfl dX11_watch_50 (v := (M c0 5)) (by rw [hM_N_19, mu_k hk_c0 hk_12 rfl, Fr.e hG_N_13 hk_c0 _ rfl]) rfl ?_
      refine kx_getr 56 F fl_X11_367 hk_1 rfl rfl (j := 6) rfl dX11_watch_53 (v := (M (M c0 5) 6)) (by rw [hM_N_19, mu_k hk_1 hk_12 rfl, Fr.e hG_N_13 hk_1 _ rfl]) rfl ?_
      refine kx_aload_n 57 F 2 dX11_watch_56 rfl rfl rfl ?_
      refine kx_Vi 60 (ci := 0) F (As := [vR G (M (M c0 5) 4)]) (st := [vR G c0]) vd_X11_234 (e_isTaken3 G l N_19 (M (M c0 5) 6) (M (M c0 5) 4) hI_N_19 hk_12 hk_11) hk_12 rfl rfl rfl ⟨by decide, by decide⟩ rfl rfl (Nat.le_of_ble_eq_true rfl) dX11_watch_57 rfl ?_
      intro r_20 N_21 q_22
      obtain ⟨rfl, q_22c⟩ := q_22
      rcases q_22c with q_22c | q_22c
      · refine kx_if_eq 63 F 67 dX11_watch_60 (by decide) rfl (by omega) (fun h_23 => (by exfalso; omega)) (fun h_23 => ?_)
        refine kx_iconst 64 F dX11_watch_63 rfl ?_
        refine kx_goto 68 F dX11_watch_64 (by decide) ?_
        refine kx_Vi 71 (ci := 0) F (As := [vI 1]) (st := []) vd_X11_145 (c_X11_answer G l N_19 c0 1 hI_N_19 hk_c0 (by omega)) hk_c0 rfl rfl rfl ⟨by decide, by decide⟩ rfl rfl (Nat.le_of_ble_eq_true rfl) dX11_watch_68 rfl ?_
        intro r_24 N_25 q_26
        obtain ⟨hI_N_25, hG_N_25, q_26c⟩ := q_26
        have hF_N_25 : Fr f_e_watch3 M N_25 := Fr.c hF_N_19 hG_N_25 rfl
        have e_27 : (N_19 (M (M c0 5) 6) 3) = (N_13 (M (M c0 5) 6) 3) := by rw [hM_N_19, mu_i (by omega)]
        have e_28 : (N_19 (M (M c0 5) 4) 3) = (M (M (M c0 5) 4) 3) := by rw [hM_N_19, mu_k hk_11 hk_12 rfl, Fr.e hG_N_13 hk_11 _ rfl]
        have h_29 := Inv.g hI_M hk_11 rfl 3 (a := 0) (b := 7) rfl rfl
        have hzw : zand (N_19 (M (M c0 5) 6) 3) (N_19 (M (M c0 5) 4) 3) = zand (q (85 * a1 + 102)) (q (85 * a1 + 103)) := by rw [show N_19 (M (M c0 5) 6) 3 = q (85 * a1 + 102) by omega, show N_19 (M (M c0 5) 4) 3 = q (85 * a1 + 103) by omega]
        exact kx_iret F hQ ⟨hI_N_25, hF_N_25, (by omega), (Or.inl ⟨by omega, Or.inl ⟨by omega, by omega⟩⟩)⟩ dX11_watch_71
      · refine kx_if_eq 63 F 67 dX11_watch_60 (by decide) rfl (by omega) (fun h_30 => ?_) (fun h_30 => (by exfalso; omega))
        refine kx_iconst 68 F dX11_watch_67 rfl ?_
        refine kx_Vi 71 (ci := 0) F (As := [vI 0]) (st := []) vd_X11_145 (c_X11_answer G l N_19 c0 0 hI_N_19 hk_c0 (by omega)) hk_c0 rfl rfl rfl ⟨by decide, by decide⟩ rfl rfl (Nat.le_of_ble_eq_true rfl) dX11_watch_68 rfl ?_
        intro r_31 N_32 q_33
        obtain ⟨hI_N_32, hG_N_32, q_33c⟩ := q_33
        have hF_N_32 : Fr f_e_watch3 M N_32 := Fr.c hF_N_19 hG_N_32 rfl
        have e_34 : (N_19 (M (M c0 5) 6) 3) = (N_13 (M (M c0 5) 6) 3) := by rw [hM_N_19, mu_i (by omega)]
        have e_35 : (N_19 (M (M c0 5) 4) 3) = (M (M (M c0 5) 4) 3) := by rw [hM_N_19, mu_k hk_11 hk_12 rfl, Fr.e hG_N_13 hk_11 _ rfl]
        have h_36 := Inv.g hI_M hk_11 rfl 3 (a := 0) (b := 7) rfl rfl
        have hzw : zand (N_19 (M (M c0 5) 6) 3) (N_19 (M (M c0 5) 4) 3) = zand (q (85 * a1 + 102)) (q (85 * a1 + 103)) := by rw [show N_19 (M (M c0 5) 6) 3 = q (85 * a1 + 102) by omega, show N_19 (M (M c0 5) 4) 3 = q (85 * a1 + 103) by omega]
        exact kx_iret F hQ ⟨hI_N_32, hF_N_32, (by omega), (Or.inl ⟨by omega, Or.inr ⟨by omega, by omega⟩⟩)⟩ dX11_watch_71
    · have hA := hU.2 (by omega)
      have hn0 : M (M (M c0 5) 5) 0 = q (85 * a1 + 100) := hA.n (by decide) (by omega)
      have hn1 : M (M (M c0 5) 5) 1 = q (85 * a1 + 101) := hA.n (by decide) (by omega)
      have hn2 : M (M (M c0 5) 5) 2 = q (85 * a1 + 102) := hA.n (by decide) (by omega)
      have hn3 : M (M (M c0 5) 5) 3 = q (85 * a1 + 103) := hA.n (by decide) (by omega)
      have hn4 : M (M (M c0 5) 5) 4 = q (85 * a1 + 104) := hA.n (by decide) (by omega)
      refine kx_astore_n 26 F 2 (lo' := [some (vR G c0), some (vI a1), some (vR G (M (M c0 5) 5))]) dX11_watch_25 rfl (by decide) rfl rfl rfl ?_
      refine kx_aload_n 27 F 0 dX11_watch_26 rfl rfl rfl ?_
      refine kx_getr 30 F fl_X11_26 hk_c0 rfl rfl (j := 5) rfl dX11_watch_27 (v := (M c0 5)) rfl rfl ?_
      refine kx_getr 33 F fl_X11_367 hk_1 rfl rfl (j := 6) rfl dX11_watch_30 (v := (M (M c0 5) 6)) rfl rfl ?_
      have hk_37 : kd (M (M c0 5) 6) = 8 := Inv.r hI_M hk_1 rfl 6 rfl rfl
      refine kx_aload_n 34 F 2 dX11_watch_33 rfl rfl rfl ?_
      refine kx_Vv 37 (ci := 0) F (As := [vR G (M (M c0 5) 5)]) (st := []) vd_X11_370 (e_begin3 G l M (M (M c0 5) 6) (M (M c0 5) 5) hI_M hk_37 hk_11) hk_37 rfl rfl rfl ⟨by decide, by decide⟩ rfl rfl (Nat.le_of_ble_eq_true rfl) dX11_watch_34 rfl ?_
      intro N_38 q_39
      obtain ⟨hI_N_38, hG_N_38, q_39c⟩ := q_39
      have hF_N_38 : Fr f_e_watch3 M N_38 := Fr.c hF_M hG_N_38 rfl
      have h_40 := Inv.g hI_N_38 hk_37 rfl 1 (a := (-2147483648)) (b := 2147483647) rfl rfl
      have h_41 := Inv.g hI_N_38 hk_37 rfl 2 (a := 0) (b := 30) rfl rfl
      have h_42 := Inv.g hI_M hk_11 rfl 2 (a := 0) (b := 7) rfl rfl
      have h_43 := Inv.g hI_N_38 hk_37 rfl 3 (a := 0) (b := 7) rfl rfl
      refine kx_aload_n 38 F 0 dX11_watch_37 rfl rfl rfl ?_
      refine kx_getr 41 F fl_X11_26 hk_c0 rfl rfl (j := 5) rfl dX11_watch_38 (v := (M c0 5)) (by rw [Fr.e hG_N_38 hk_c0 _ rfl]) rfl ?_
      refine kx_getr 44 F fl_X11_367 hk_1 rfl rfl (j := 6) rfl dX11_watch_41 (v := (M (M c0 5) 6)) (by rw [Fr.e hG_N_38 hk_1 _ rfl]) rfl ?_
      refine kx_iload_n 45 F 1 dX11_watch_44 rfl rfl rfl ?_
      refine kx_puti 48 F fw_X11_372 rfl hk_37 rfl rfl (j := 0) rfl dX11_watch_45 rfl ?_
      intro N_44 hM_N_44
      have hI_N_44 : Inv false N_44 := Inv.u hI_N_38 hM_N_44 hk_37 (a := (-1)) (b := 1) rfl rfl rfl (by omega)
      have hF_N_44 : Fr f_e_watch3 M N_44 := Fr.u hF_N_38 hM_N_44 hk_37 rfl
      refine kx_aload_n 49 F 0 dX11_watch_48 rfl rfl rfl ?_
      refine kx_aload_n 50 F 0 dX11_watch_49 rfl rfl rfl ?_
      refine kx_getr 53 F fl_X11_26 hk_c0 rfl rfl (j := 5) rfl dX11_watch_50 (v := (M c0 5)) (by rw [hM_N_44, mu_k hk_c0 hk_37 rfl, Fr.e hG_N_38 hk_c0 _ rfl]) rfl ?_
      refine kx_getr 56 F fl_X11_367 hk_1 rfl rfl (j := 6) rfl dX11_watch_53 (v := (M (M c0 5) 6)) (by rw [hM_N_44, mu_k hk_1 hk_37 rfl, Fr.e hG_N_38 hk_1 _ rfl]) rfl ?_
      refine kx_aload_n 57 F 2 dX11_watch_56 rfl rfl rfl ?_
      refine kx_Vi 60 (ci := 0) F (As := [vR G (M (M c0 5) 5)]) (st := [vR G c0]) vd_X11_234 (e_isTaken3 G l N_44 (M (M c0 5) 6) (M (M c0 5) 5) hI_N_44 hk_37 hk_11) hk_37 rfl rfl rfl ⟨by decide, by decide⟩ rfl rfl (Nat.le_of_ble_eq_true rfl) dX11_watch_57 rfl ?_
      intro r_45 N_46 q_47
      obtain ⟨rfl, q_47c⟩ := q_47
      rcases q_47c with q_47c | q_47c
      · refine kx_if_eq 63 F 67 dX11_watch_60 (by decide) rfl (by omega) (fun h_48 => (by exfalso; omega)) (fun h_48 => ?_)
        refine kx_iconst 64 F dX11_watch_63 rfl ?_
        refine kx_goto 68 F dX11_watch_64 (by decide) ?_
        refine kx_Vi 71 (ci := 0) F (As := [vI 1]) (st := []) vd_X11_145 (c_X11_answer G l N_44 c0 1 hI_N_44 hk_c0 (by omega)) hk_c0 rfl rfl rfl ⟨by decide, by decide⟩ rfl rfl (Nat.le_of_ble_eq_true rfl) dX11_watch_68 rfl ?_
        intro r_49 N_50 q_51
        obtain ⟨hI_N_50, hG_N_50, q_51c⟩ := q_51
        have hF_N_50 : Fr f_e_watch3 M N_50 := Fr.c hF_N_44 hG_N_50 rfl
        have e_52 : (N_44 (M (M c0 5) 6) 3) = (N_38 (M (M c0 5) 6) 3) := by rw [hM_N_44, mu_i (by omega)]
        have e_53 : (N_44 (M (M c0 5) 5) 3) = (M (M (M c0 5) 5) 3) := by rw [hM_N_44, mu_k hk_11 hk_37 rfl, Fr.e hG_N_38 hk_11 _ rfl]
        have h_54 := Inv.g hI_M hk_11 rfl 3 (a := 0) (b := 7) rfl rfl
        have hzw : zand (N_44 (M (M c0 5) 6) 3) (N_44 (M (M c0 5) 5) 3) = zand (q (85 * a1 + 102)) (q (85 * a1 + 103)) := by rw [show N_44 (M (M c0 5) 6) 3 = q (85 * a1 + 102) by omega, show N_44 (M (M c0 5) 5) 3 = q (85 * a1 + 103) by omega]
        exact kx_iret F hQ ⟨hI_N_50, hF_N_50, (by omega), (Or.inl ⟨by omega, Or.inl ⟨by omega, by omega⟩⟩)⟩ dX11_watch_71
      · refine kx_if_eq 63 F 67 dX11_watch_60 (by decide) rfl (by omega) (fun h_55 => ?_) (fun h_55 => (by exfalso; omega))
        refine kx_iconst 68 F dX11_watch_67 rfl ?_
        refine kx_Vi 71 (ci := 0) F (As := [vI 0]) (st := []) vd_X11_145 (c_X11_answer G l N_44 c0 0 hI_N_44 hk_c0 (by omega)) hk_c0 rfl rfl rfl ⟨by decide, by decide⟩ rfl rfl (Nat.le_of_ble_eq_true rfl) dX11_watch_68 rfl ?_
        intro r_56 N_57 q_58
        obtain ⟨hI_N_57, hG_N_57, q_58c⟩ := q_58
        have hF_N_57 : Fr f_e_watch3 M N_57 := Fr.c hF_N_44 hG_N_57 rfl
        have e_59 : (N_44 (M (M c0 5) 6) 3) = (N_38 (M (M c0 5) 6) 3) := by rw [hM_N_44, mu_i (by omega)]
        have e_60 : (N_44 (M (M c0 5) 5) 3) = (M (M (M c0 5) 5) 3) := by rw [hM_N_44, mu_k hk_11 hk_37 rfl, Fr.e hG_N_38 hk_11 _ rfl]
        have h_61 := Inv.g hI_M hk_11 rfl 3 (a := 0) (b := 7) rfl rfl
        have hzw : zand (N_44 (M (M c0 5) 6) 3) (N_44 (M (M c0 5) 5) 3) = zand (q (85 * a1 + 102)) (q (85 * a1 + 103)) := by rw [show N_44 (M (M c0 5) 6) 3 = q (85 * a1 + 102) by omega, show N_44 (M (M c0 5) 5) 3 = q (85 * a1 + 103) by omega]
        exact kx_iret F hQ ⟨hI_N_57, hF_N_57, (by omega), (Or.inl ⟨by omega, Or.inr ⟨by omega, by omega⟩⟩)⟩ dX11_watch_71
  · refine kx_if_ne 11 F 17 dX11_watch_8 (by decide) rfl (by omega) (fun h_62 => (by exfalso; omega)) (fun h_62 => ?_)
    refine kx_aload_n 12 F 0 dX11_watch_11 rfl rfl rfl ?_
    refine kx_iconst 13 F dX11_watch_12 rfl ?_
    refine kx_Vi 16 (ci := 0) F (As := [vI 1]) (st := []) vd_X11_110 (c_X11_refuse G l M c0 1 hI_M hk_c0 (by omega)) hk_c0 rfl rfl rfl ⟨by decide, by decide⟩ rfl rfl (Nat.le_of_ble_eq_true rfl) dX11_watch_13 rfl ?_
    intro r_63 N_64 q_65
    obtain ⟨hI_N_64, hG_N_64, q_65c⟩ := q_65
    have hF_N_64 : Fr f_e_watch3 M N_64 := Fr.c hF_M hG_N_64 rfl
    subst q_65c
    exact kx_iret F hQ ⟨hI_N_64, hF_N_64, (by omega), (Or.inr ⟨fun h => by omega, by omega⟩)⟩ dX11_watch_16
  · refine kx_if_ne 11 F 17 dX11_watch_8 (by decide) rfl (by omega) (fun h_66 => (by exfalso; omega)) (fun h_66 => ?_)
    refine kx_aload_n 12 F 0 dX11_watch_11 rfl rfl rfl ?_
    refine kx_iconst 13 F dX11_watch_12 rfl ?_
    refine kx_Vi 16 (ci := 0) F (As := [vI 1]) (st := []) vd_X11_110 (c_X11_refuse G l M c0 1 hI_M hk_c0 (by omega)) hk_c0 rfl rfl rfl ⟨by decide, by decide⟩ rfl rfl (Nat.le_of_ble_eq_true rfl) dX11_watch_13 rfl ?_
    intro r_67 N_68 q_69
    obtain ⟨hI_N_68, hG_N_68, q_69c⟩ := q_69
    have hF_N_68 : Fr f_e_watch3 M N_68 := Fr.c hF_M hG_N_68 rfl
    subst q_69c
    exact kx_iret F hQ ⟨hI_N_68, hF_N_68, (by omega), (Or.inr ⟨fun h => by omega, by omega⟩)⟩ dX11_watch_16
