abbrev f_e_watch4 : List (Nat × Int) := [(8, 0), (8, 1), (8, 2), (8, 3), (8, 4), (62, 0)]
set_option maxHeartbeats 4000000 in
set_option maxRecDepth 100000 in
theorem e_watch4 (G : KG) (l : Launch) (M : Mem) (c0 : Int) (a1 : Int) (hI_M : Inv false M) (hk_c0 : kd c0 = 62) (hpre : -2147483648 ≤ a1 ∧ a1 ≤ 2147483647) (q : Int → Int) (hS : zSN M (M c0 5) q) (hU : zSU M (M c0 5) q) : KC false G l yX11_watch cX11_watch 3 (some .int) (2, 43) [vR G c0, vI a1] M (fun A => kQi false G A (fun (r : Int) (N : Mem) => Inv false N ∧ Fr f_e_watch4 M N ∧ (r ≥ -1 ∧ r ≤ 1) ∧ Cf (SWk M (M (M c0 5) 6)) M N ∧ (zWA q a1 r ∧ (0 ≤ a1 → a1 < q 3 → zBG (N (M (M c0 5) 6) 0) (N (M (M c0 5) 6) 1) (N (M (M c0 5) 6) 2) (N (M (M c0 5) 6) 3) (N (M (M c0 5) 6) 4) q a1) ∧ (¬ (0 ≤ a1 ∧ a1 < q 3) → Cf (fun _ => False) M N)))) := by
  refine kx_met (lo := [some (vR G c0), some (vI a1), none]) (by decide) (Nat.le_of_ble_eq_true rfl) rfl ?_
  intro X F hQ
  have hF_M : Fr f_e_watch4 M M := Fr.rf _ _
  have hE_M : Cf (SWk M (M (M c0 5) 6)) M M := Cf.rf _ _
  have hk_1 : kd (M c0 5) = 12 := Inv.r hI_M hk_c0 rfl 5 rfl rfl
  have hSn := hS.u
  have hk_2 : kd (M (M c0 5) 6) = 8 := Inv.r hI_M hk_1 rfl 6 rfl rfl
  refine kx_aload_n 1 F 0 dX11_watch_0 rfl rfl rfl ?_
  refine kx_getr 4 F fl_X11_26 hk_c0 rfl rfl (j := 5) rfl dX11_watch_1 (v := (M c0 5)) rfl rfl ?_
  refine kx_iload_n 5 F 1 dX11_watch_4 rfl rfl rfl ?_
  refine kx_Vi 8 (ci := 0) F (As := [vI a1]) (st := []) vd_X11_163 (e_X5_has G l M (M c0 5) a1 hI_M hk_1 (by omega)) hk_1 rfl rfl rfl ⟨by decide, by decide⟩ rfl rfl (Nat.le_of_ble_eq_true rfl) dX11_watch_5 rfl ?_
  intro r_3 N_4 q_5
  obtain ⟨rfl, q_5c⟩ := q_5
  have h_6 := Inv.g hI_M hk_1 rfl 3 (a := 0) (b := 2) rfl rfl
  rcases q_5c with q_5c | q_5c | q_5c
  · refine kx_if_ne 11 F 17 dX11_watch_8 (by decide) rfl (by omega) (fun h_8 => ?_) (fun h_8 => (by exfalso; omega))
    refine kx_aload_n 18 F 0 dX11_watch_17 rfl rfl rfl ?_
    refine kx_getr 21 F fl_X11_26 hk_c0 rfl rfl (j := 5) rfl dX11_watch_18 (v := (M c0 5)) rfl rfl ?_
    refine kx_iload_n 22 F 1 dX11_watch_21 rfl rfl rfl ?_
    refine kx_Vr 25 (ci := 0) F (As := [vI a1]) (st := []) vd_X11_164 (c_X5_pickE G l M (M c0 5) a1 hI_M hk_1 (by omega)) hk_1 rfl rfl rfl ⟨by decide, by decide⟩ rfl rfl (Nat.le_of_ble_eq_true rfl) dX11_watch_22 rfl ?_
    intro r_9 N_10 q_11
    obtain ⟨rfl, hk_12, q_11d⟩ := q_11
    rcases q_11d with ⟨q_11c, rfl⟩ | ⟨q_11c, rfl⟩
    · have hA := hU.1 (by omega)
      have hn0 : M (M (M c0 5) 4) 0 = q (85 * a1 + 100) := hA.n (by decide) (by omega)
      have hn1 : M (M (M c0 5) 4) 1 = q (85 * a1 + 101) := hA.n (by decide) (by omega)
      have hn2 : M (M (M c0 5) 4) 2 = q (85 * a1 + 102) := hA.n (by decide) (by omega)
      have hn3 : M (M (M c0 5) 4) 3 = q (85 * a1 + 103) := hA.n (by decide) (by omega)
      have hn4 : M (M (M c0 5) 4) 4 = q (85 * a1 + 104) := hA.n (by decide) (by omega)
      refine kx_astore_n 26 F 2 (lo' := [some (vR G c0), some (vI a1), some (vR G (M (M c0 5) 4))]) dX11_watch_25 rfl (by decide) rfl rfl rfl ?_
      refine kx_aload_n 27 F 0 dX11_watch_26 rfl rfl rfl ?_
      refine kx_getr 30 F fl_X11_26 hk_c0 rfl rfl (j := 5) rfl dX11_watch_27 (v := (M c0 5)) rfl rfl ?_
      refine kx_getr 33 F fl_X11_367 hk_1 rfl rfl (j := 6) rfl dX11_watch_30 (v := (M (M c0 5) 6)) rfl rfl ?_
      refine kx_aload_n 34 F 2 dX11_watch_33 rfl rfl rfl ?_
      refine kx_Vv 37 (ci := 0) F (As := [vR G (M (M c0 5) 4)]) (st := []) vd_X11_370 (e_begin4 G l M (M (M c0 5) 6) (M (M c0 5) 4) hI_M hk_2 hk_12) hk_2 rfl rfl rfl ⟨by decide, by decide⟩ rfl rfl (Nat.le_of_ble_eq_true rfl) dX11_watch_34 rfl ?_
      intro N_13 q_14
      obtain ⟨hI_N_13, hG_N_13, q_14c, hC_N_13, hbg_N_13⟩ := q_14
      have hF_N_13 : Fr f_e_watch4 M N_13 := Fr.c hF_M hG_N_13 rfl
      have hE_N_13 : Cf (SWk M (M (M c0 5) 6)) M N_13 := Cf.c hE_M hC_N_13 (fun y hy => hy)
      have h_15 := Inv.g hI_N_13 hk_2 rfl 1 (a := (-2147483648)) (b := 2147483647) rfl rfl
      have h_16 := Inv.g hI_N_13 hk_2 rfl 2 (a := 0) (b := 30) rfl rfl
      have h_17 := Inv.g hI_M hk_12 rfl 2 (a := 0) (b := 7) rfl rfl
      have h_18 := Inv.g hI_N_13 hk_2 rfl 3 (a := 0) (b := 7) rfl rfl
      refine kx_aload_n 38 F 0 dX11_watch_37 rfl rfl rfl ?_
      refine kx_getr 41 F fl_X11_26 hk_c0 rfl rfl (j := 5) rfl dX11_watch_38 (v := (M c0 5)) (by rw [Fr.e hG_N_13 hk_c0 _ rfl]) rfl ?_
      refine kx_getr 44 F fl_X11_367 hk_1 rfl rfl (j := 6) rfl dX11_watch_41 (v := (M (M c0 5) 6)) (by rw [Fr.e hG_N_13 hk_1 _ rfl]) rfl ?_
      refine kx_iload_n 45 F 1 dX11_watch_44 rfl rfl rfl ?_
      refine kx_puti 48 F fw_X11_372 rfl hk_2 rfl rfl (j := 0) rfl dX11_watch_45 rfl ?_
      intro N_19 hM_N_19
      have hI_N_19 : Inv false N_19 := Inv.u hI_N_13 hM_N_19 hk_2 (a := (-1)) (b := 1) rfl rfl rfl (by omega)
      have hF_N_19 : Fr f_e_watch4 M N_19 := Fr.u hF_N_13 hM_N_19 hk_2 rfl
      have hE_N_19 : Cf (SWk M (M (M c0 5) 6)) M N_19 := Cf.st hE_N_13 hM_N_19 (Or.inl rfl)
      refine kx_aload_n 49 F 0 dX11_watch_48 rfl rfl rfl ?_
      refine kx_aload_n 50 F 0 dX11_watch_49 rfl rfl rfl ?_
      refine kx_getr 53 F fl_X11_26 hk_c0 rfl rfl (j := 5) rfl dX11_watch_50 (v := (M c0 5)) (by rw [hM_N_19, mu_k hk_c0 hk_2 rfl, Fr.e hG_N_13 hk_c0 _ rfl]) rfl ?_
      refine kx_getr 56 F fl_X11_367 hk_1 rfl rfl (j := 6) rfl dX11_watch_53 (v := (M (M c0 5) 6)) (by rw [hM_N_19, mu_k hk_1 hk_2 rfl, Fr.e hG_N_13 hk_1 _ rfl]) rfl ?_
      refine kx_aload_n 57 F 2 dX11_watch_56 rfl rfl rfl ?_
      refine kx_Vi 60 (ci := 0) F (As := [vR G (M (M c0 5) 4)]) (st := [vR G c0]) vd_X11_234 (e_isTaken3 G l N_19 (M (M c0 5) 6) (M (M c0 5) 4) hI_N_19 hk_2 hk_12) hk_2 rfl rfl rfl ⟨by decide, by decide⟩ rfl rfl (Nat.le_of_ble_eq_true rfl) dX11_watch_57 rfl ?_
      intro r_20 N_21 q_22
      obtain ⟨rfl, q_22c⟩ := q_22
      rcases q_22c with q_22c | q_22c
      · refine kx_if_eq 63 F 67 dX11_watch_60 (by decide) rfl (by omega) (fun h_23 => (by exfalso; omega)) (fun h_23 => ?_)
        refine kx_iconst 64 F dX11_watch_63 rfl ?_
        refine kx_goto 68 F dX11_watch_64 (by decide) ?_
        refine kx_Vi 71 (ci := 0) F (As := [vI 1]) (st := []) vd_X11_145 (c_X11_answer G l N_19 c0 1 hI_N_19 hk_c0 (by omega)) hk_c0 rfl rfl rfl ⟨by decide, by decide⟩ rfl rfl (Nat.le_of_ble_eq_true rfl) dX11_watch_68 rfl ?_
        intro r_24 N_25 q_26
        obtain ⟨hI_N_25, hG_N_25, q_26c⟩ := q_26
        have hF_N_25 : Fr f_e_watch4 M N_25 := Fr.c hF_N_19 hG_N_25 rfl
        have hE_N_25 : Cf (SWk M (M (M c0 5) 6)) M N_25 := Cf.fr hE_N_19 hG_N_25 rfl
        have e_27 : (N_19 (M (M c0 5) 6) 3) = (N_13 (M (M c0 5) 6) 3) := by rw [hM_N_19, mu_i (by omega)]
        have e_28 : (N_19 (M (M c0 5) 4) 3) = (M (M (M c0 5) 4) 3) := by rw [hM_N_19, mu_k hk_12 hk_2 rfl, Fr.e hG_N_13 hk_12 _ rfl]
        have h_29 := Inv.g hI_M hk_12 rfl 3 (a := 0) (b := 7) rfl rfl
        have hzw : zand (N_19 (M (M c0 5) 6) 3) (N_19 (M (M c0 5) 4) 3) = zand (q (85 * a1 + 102)) (q (85 * a1 + 103)) := by rw [show N_19 (M (M c0 5) 6) 3 = q (85 * a1 + 102) by omega, show N_19 (M (M c0 5) 4) 3 = q (85 * a1 + 103) by omega]
        have e_30 : (N_25 (M (M c0 5) 6) 0) = a1 := by rw [Fr.e hG_N_25 hk_2 _ rfl, hM_N_19, mu_s]
        have e_31 : (N_25 (M (M c0 5) 6) 1) = (N_13 (M (M c0 5) 6) 1) := by rw [Fr.e hG_N_25 hk_2 _ rfl, hM_N_19, mu_i (by omega)]
        have e_32 : (N_25 (M (M c0 5) 6) 2) = (N_13 (M (M c0 5) 6) 2) := by rw [Fr.e hG_N_25 hk_2 _ rfl, hM_N_19, mu_i (by omega)]
        have e_33 : (N_25 (M (M c0 5) 6) 3) = (N_13 (M (M c0 5) 6) 3) := by rw [Fr.e hG_N_25 hk_2 _ rfl, hM_N_19, mu_i (by omega)]
        exact kx_iret F hQ ⟨hI_N_25, hF_N_25, (by omega), hE_N_25, ⟨(Or.inl ⟨by omega, Or.inl ⟨by omega, by omega⟩⟩), fun _ _ => ⟨by omega, by omega, by omega, by omega, Eq.trans (by rw [Fr.e hG_N_25 hk_2 _ rfl, hM_N_19, mu_i (by omega)]) (Eq.trans hbg_N_13 (congrArg smeZ hn0))⟩, fun h => absurd (And.intro (by omega) (by omega)) h⟩⟩ dX11_watch_71
      · refine kx_if_eq 63 F 67 dX11_watch_60 (by decide) rfl (by omega) (fun h_34 => ?_) (fun h_34 => (by exfalso; omega))
        refine kx_iconst 68 F dX11_watch_67 rfl ?_
        refine kx_Vi 71 (ci := 0) F (As := [vI 0]) (st := []) vd_X11_145 (c_X11_answer G l N_19 c0 0 hI_N_19 hk_c0 (by omega)) hk_c0 rfl rfl rfl ⟨by decide, by decide⟩ rfl rfl (Nat.le_of_ble_eq_true rfl) dX11_watch_68 rfl ?_
        intro r_35 N_36 q_37
        obtain ⟨hI_N_36, hG_N_36, q_37c⟩ := q_37
        have hF_N_36 : Fr f_e_watch4 M N_36 := Fr.c hF_N_19 hG_N_36 rfl
        have hE_N_36 : Cf (SWk M (M (M c0 5) 6)) M N_36 := Cf.fr hE_N_19 hG_N_36 rfl
        have e_38 : (N_19 (M (M c0 5) 6) 3) = (N_13 (M (M c0 5) 6) 3) := by rw [hM_N_19, mu_i (by omega)]
        have e_39 : (N_19 (M (M c0 5) 4) 3) = (M (M (M c0 5) 4) 3) := by rw [hM_N_19, mu_k hk_12 hk_2 rfl, Fr.e hG_N_13 hk_12 _ rfl]
        have h_40 := Inv.g hI_M hk_12 rfl 3 (a := 0) (b := 7) rfl rfl
        have hzw : zand (N_19 (M (M c0 5) 6) 3) (N_19 (M (M c0 5) 4) 3) = zand (q (85 * a1 + 102)) (q (85 * a1 + 103)) := by rw [show N_19 (M (M c0 5) 6) 3 = q (85 * a1 + 102) by omega, show N_19 (M (M c0 5) 4) 3 = q (85 * a1 + 103) by omega]
        have e_41 : (N_36 (M (M c0 5) 6) 0) = a1 := by rw [Fr.e hG_N_36 hk_2 _ rfl, hM_N_19, mu_s]
        have e_42 : (N_36 (M (M c0 5) 6) 1) = (N_13 (M (M c0 5) 6) 1) := by rw [Fr.e hG_N_36 hk_2 _ rfl, hM_N_19, mu_i (by omega)]
        have e_43 : (N_36 (M (M c0 5) 6) 2) = (N_13 (M (M c0 5) 6) 2) := by rw [Fr.e hG_N_36 hk_2 _ rfl, hM_N_19, mu_i (by omega)]
        have e_44 : (N_36 (M (M c0 5) 6) 3) = (N_13 (M (M c0 5) 6) 3) := by rw [Fr.e hG_N_36 hk_2 _ rfl, hM_N_19, mu_i (by omega)]
        exact kx_iret F hQ ⟨hI_N_36, hF_N_36, (by omega), hE_N_36, ⟨(Or.inl ⟨by omega, Or.inr ⟨by omega, by omega⟩⟩), fun _ _ => ⟨by omega, by omega, by omega, by omega, Eq.trans (by rw [Fr.e hG_N_36 hk_2 _ rfl, hM_N_19, mu_i (by omega)]) (Eq.trans hbg_N_13 (congrArg smeZ hn0))⟩, fun h => absurd (And.intro (by omega) (by omega)) h⟩⟩ dX11_watch_71
    · have hA := hU.2 (by omega)
      have hn0 : M (M (M c0 5) 5) 0 = q (85 * a1 + 100) := hA.n (by decide) (by omega)
      have hn1 : M (M (M c0 5) 5) 1 = q (85 * a1 + 101) := hA.n (by decide) (by omega)
      have hn2 : M (M (M c0 5) 5) 2 = q (85 * a1 + 102) := hA.n (by decide) (by omega)
      have hn3 : M (M (M c0 5) 5) 3 = q (85 * a1 + 103) := hA.n (by decide) (by omega)
      have hn4 : M (M (M c0 5) 5) 4 = q (85 * a1 + 104) := hA.n (by decide) (by omega)
      refine kx_astore_n 26 F 2 (lo' := [some (vR G c0), some (vI a1), some (vR G (M (M c0 5) 5))]) dX11_watch_25 rfl (by decide) rfl rfl rfl ?_
      refine kx_aload_n 27 F 0 dX11_watch_26 rfl rfl rfl ?_
      refine kx_getr 30 F fl_X11_26 hk_c0 rfl rfl (j := 5) rfl dX11_watch_27 (v := (M c0 5)) rfl rfl ?_
      refine kx_getr 33 F fl_X11_367 hk_1 rfl rfl (j := 6) rfl dX11_watch_30 (v := (M (M c0 5) 6)) rfl rfl ?_
      refine kx_aload_n 34 F 2 dX11_watch_33 rfl rfl rfl ?_
      refine kx_Vv 37 (ci := 0) F (As := [vR G (M (M c0 5) 5)]) (st := []) vd_X11_370 (e_begin4 G l M (M (M c0 5) 6) (M (M c0 5) 5) hI_M hk_2 hk_12) hk_2 rfl rfl rfl ⟨by decide, by decide⟩ rfl rfl (Nat.le_of_ble_eq_true rfl) dX11_watch_34 rfl ?_
      intro N_45 q_46
      obtain ⟨hI_N_45, hG_N_45, q_46c, hC_N_45, hbg_N_45⟩ := q_46
      have hF_N_45 : Fr f_e_watch4 M N_45 := Fr.c hF_M hG_N_45 rfl
      have hE_N_45 : Cf (SWk M (M (M c0 5) 6)) M N_45 := Cf.c hE_M hC_N_45 (fun y hy => hy)
      have h_47 := Inv.g hI_N_45 hk_2 rfl 1 (a := (-2147483648)) (b := 2147483647) rfl rfl
      have h_48 := Inv.g hI_N_45 hk_2 rfl 2 (a := 0) (b := 30) rfl rfl
      have h_49 := Inv.g hI_M hk_12 rfl 2 (a := 0) (b := 7) rfl rfl
      have h_50 := Inv.g hI_N_45 hk_2 rfl 3 (a := 0) (b := 7) rfl rfl
      refine kx_aload_n 38 F 0 dX11_watch_37 rfl rfl rfl ?_
      refine kx_getr 41 F fl_X11_26 hk_c0 rfl rfl (j := 5) rfl dX11_watch_38 (v := (M c0 5)) (by rw [Fr.e hG_N_45 hk_c0 _ rfl]) rfl ?_
      refine kx_getr 44 F fl_X11_367 hk_1 rfl rfl (j := 6) rfl dX11_watch_41 (v := (M (M c0 5) 6)) (by rw [Fr.e hG_N_45 hk_1 _ rfl]) rfl ?_
      refine kx_iload_n 45 F 1 dX11_watch_44 rfl rfl rfl ?_
      refine kx_puti 48 F fw_X11_372 rfl hk_2 rfl rfl (j := 0) rfl dX11_watch_45 rfl ?_
      intro N_51 hM_N_51
      have hI_N_51 : Inv false N_51 := Inv.u hI_N_45 hM_N_51 hk_2 (a := (-1)) (b := 1) rfl rfl rfl (by omega)
      have hF_N_51 : Fr f_e_watch4 M N_51 := Fr.u hF_N_45 hM_N_51 hk_2 rfl
      have hE_N_51 : Cf (SWk M (M (M c0 5) 6)) M N_51 := Cf.st hE_N_45 hM_N_51 (Or.inl rfl)
      refine kx_aload_n 49 F 0 dX11_watch_48 rfl rfl rfl ?_
      refine kx_aload_n 50 F 0 dX11_watch_49 rfl rfl rfl ?_
      refine kx_getr 53 F fl_X11_26 hk_c0 rfl rfl (j := 5) rfl dX11_watch_50 (v := (M c0 5)) (by rw [hM_N_51, mu_k hk_c0 hk_2 rfl, Fr.e hG_N_45 hk_c0 _ rfl]) rfl ?_
      refine kx_getr 56 F fl_X11_367 hk_1 rfl rfl (j := 6) rfl dX11_watch_53 (v := (M (M c0 5) 6)) (by rw [hM_N_51, mu_k hk_1 hk_2 rfl, Fr.e hG_N_45 hk_1 _ rfl]) rfl ?_
      refine kx_aload_n 57 F 2 dX11_watch_56 rfl rfl rfl ?_
      refine kx_Vi 60 (ci := 0) F (As := [vR G (M (M c0 5) 5)]) (st := [vR G c0]) vd_X11_234 (e_isTaken3 G l N_51 (M (M c0 5) 6) (M (M c0 5) 5) hI_N_51 hk_2 hk_12) hk_2 rfl rfl rfl ⟨by decide, by decide⟩ rfl rfl (Nat.le_of_ble_eq_true rfl) dX11_watch_57 rfl ?_
      intro r_52 N_53 q_54
      obtain ⟨rfl, q_54c⟩ := q_54
      rcases q_54c with q_54c | q_54c
      · refine kx_if_eq 63 F 67 dX11_watch_60 (by decide) rfl (by omega) (fun h_55 => (by exfalso; omega)) (fun h_55 => ?_)
        refine kx_iconst 64 F dX11_watch_63 rfl ?_
        refine kx_goto 68 F dX11_watch_64 (by decide) ?_
        refine kx_Vi 71 (ci := 0) F (As := [vI 1]) (st := []) vd_X11_145 (c_X11_answer G l N_51 c0 1 hI_N_51 hk_c0 (by omega)) hk_c0 rfl rfl rfl ⟨by decide, by decide⟩ rfl rfl (Nat.le_of_ble_eq_true rfl) dX11_watch_68 rfl ?_
        intro r_56 N_57 q_58
        obtain ⟨hI_N_57, hG_N_57, q_58c⟩ := q_58
        have hF_N_57 : Fr f_e_watch4 M N_57 := Fr.c hF_N_51 hG_N_57 rfl
        have hE_N_57 : Cf (SWk M (M (M c0 5) 6)) M N_57 := Cf.fr hE_N_51 hG_N_57 rfl
        have e_59 : (N_51 (M (M c0 5) 6) 3) = (N_45 (M (M c0 5) 6) 3) := by rw [hM_N_51, mu_i (by omega)]
        have e_60 : (N_51 (M (M c0 5) 5) 3) = (M (M (M c0 5) 5) 3) := by rw [hM_N_51, mu_k hk_12 hk_2 rfl, Fr.e hG_N_45 hk_12 _ rfl]
        have h_61 := Inv.g hI_M hk_12 rfl 3 (a := 0) (b := 7) rfl rfl
        have hzw : zand (N_51 (M (M c0 5) 6) 3) (N_51 (M (M c0 5) 5) 3) = zand (q (85 * a1 + 102)) (q (85 * a1 + 103)) := by rw [show N_51 (M (M c0 5) 6) 3 = q (85 * a1 + 102) by omega, show N_51 (M (M c0 5) 5) 3 = q (85 * a1 + 103) by omega]
        have e_62 : (N_57 (M (M c0 5) 6) 0) = a1 := by rw [Fr.e hG_N_57 hk_2 _ rfl, hM_N_51, mu_s]
        have e_63 : (N_57 (M (M c0 5) 6) 1) = (N_45 (M (M c0 5) 6) 1) := by rw [Fr.e hG_N_57 hk_2 _ rfl, hM_N_51, mu_i (by omega)]
        have e_64 : (N_57 (M (M c0 5) 6) 2) = (N_45 (M (M c0 5) 6) 2) := by rw [Fr.e hG_N_57 hk_2 _ rfl, hM_N_51, mu_i (by omega)]
        have e_65 : (N_57 (M (M c0 5) 6) 3) = (N_45 (M (M c0 5) 6) 3) := by rw [Fr.e hG_N_57 hk_2 _ rfl, hM_N_51, mu_i (by omega)]
        exact kx_iret F hQ ⟨hI_N_57, hF_N_57, (by omega), hE_N_57, ⟨(Or.inl ⟨by omega, Or.inl ⟨by omega, by omega⟩⟩), fun _ _ => ⟨by omega, by omega, by omega, by omega, Eq.trans (by rw [Fr.e hG_N_57 hk_2 _ rfl, hM_N_51, mu_i (by omega)]) (Eq.trans hbg_N_45 (congrArg smeZ hn0))⟩, fun h => absurd (And.intro (by omega) (by omega)) h⟩⟩ dX11_watch_71
      · refine kx_if_eq 63 F 67 dX11_watch_60 (by decide) rfl (by omega) (fun h_66 => ?_) (fun h_66 => (by exfalso; omega))
        refine kx_iconst 68 F dX11_watch_67 rfl ?_
        refine kx_Vi 71 (ci := 0) F (As := [vI 0]) (st := []) vd_X11_145 (c_X11_answer G l N_51 c0 0 hI_N_51 hk_c0 (by omega)) hk_c0 rfl rfl rfl ⟨by decide, by decide⟩ rfl rfl (Nat.le_of_ble_eq_true rfl) dX11_watch_68 rfl ?_
        intro r_67 N_68 q_69
        obtain ⟨hI_N_68, hG_N_68, q_69c⟩ := q_69
        have hF_N_68 : Fr f_e_watch4 M N_68 := Fr.c hF_N_51 hG_N_68 rfl
        have hE_N_68 : Cf (SWk M (M (M c0 5) 6)) M N_68 := Cf.fr hE_N_51 hG_N_68 rfl
        have e_70 : (N_51 (M (M c0 5) 6) 3) = (N_45 (M (M c0 5) 6) 3) := by rw [hM_N_51, mu_i (by omega)]
        have e_71 : (N_51 (M (M c0 5) 5) 3) = (M (M (M c0 5) 5) 3) := by rw [hM_N_51, mu_k hk_12 hk_2 rfl, Fr.e hG_N_45 hk_12 _ rfl]
        have h_72 := Inv.g hI_M hk_12 rfl 3 (a := 0) (b := 7) rfl rfl
        have hzw : zand (N_51 (M (M c0 5) 6) 3) (N_51 (M (M c0 5) 5) 3) = zand (q (85 * a1 + 102)) (q (85 * a1 + 103)) := by rw [show N_51 (M (M c0 5) 6) 3 = q (85 * a1 + 102) by omega, show N_51 (M (M c0 5) 5) 3 = q (85 * a1 + 103) by omega]
        have e_73 : (N_68 (M (M c0 5) 6) 0) = a1 := by rw [Fr.e hG_N_68 hk_2 _ rfl, hM_N_51, mu_s]
        have e_74 : (N_68 (M (M c0 5) 6) 1) = (N_45 (M (M c0 5) 6) 1) := by rw [Fr.e hG_N_68 hk_2 _ rfl, hM_N_51, mu_i (by omega)]
        have e_75 : (N_68 (M (M c0 5) 6) 2) = (N_45 (M (M c0 5) 6) 2) := by rw [Fr.e hG_N_68 hk_2 _ rfl, hM_N_51, mu_i (by omega)]
        have e_76 : (N_68 (M (M c0 5) 6) 3) = (N_45 (M (M c0 5) 6) 3) := by rw [Fr.e hG_N_68 hk_2 _ rfl, hM_N_51, mu_i (by omega)]
        exact kx_iret F hQ ⟨hI_N_68, hF_N_68, (by omega), hE_N_68, ⟨(Or.inl ⟨by omega, Or.inr ⟨by omega, by omega⟩⟩), fun _ _ => ⟨by omega, by omega, by omega, by omega, Eq.trans (by rw [Fr.e hG_N_68 hk_2 _ rfl, hM_N_51, mu_i (by omega)]) (Eq.trans hbg_N_45 (congrArg smeZ hn0))⟩, fun h => absurd (And.intro (by omega) (by omega)) h⟩⟩ dX11_watch_71
  · refine kx_if_ne 11 F 17 dX11_watch_8 (by decide) rfl (by omega) (fun h_77 => (by exfalso; omega)) (fun h_77 => ?_)
    refine kx_aload_n 12 F 0 dX11_watch_11 rfl rfl rfl ?_
    refine kx_iconst 13 F dX11_watch_12 rfl ?_
    refine kx_Vi 16 (ci := 0) F (As := [vI 1]) (st := []) vd_X11_110 (c_X11_refuse G l M c0 1 hI_M hk_c0 (by omega)) hk_c0 rfl rfl rfl ⟨by decide, by decide⟩ rfl rfl (Nat.le_of_ble_eq_true rfl) dX11_watch_13 rfl ?_
    intro r_78 N_79 q_80
    obtain ⟨hI_N_79, hG_N_79, q_80c⟩ := q_80
    have hF_N_79 : Fr f_e_watch4 M N_79 := Fr.c hF_M hG_N_79 rfl
    have hE_N_79 : Cf (SWk M (M (M c0 5) 6)) M N_79 := Cf.fr hE_M hG_N_79 rfl
    subst q_80c
    exact kx_iret F hQ ⟨hI_N_79, hF_N_79, (by omega), hE_N_79, ⟨(Or.inr ⟨fun h => by omega, by omega⟩), fun h1 h2 => by exfalso; omega, fun _ => Cf.fr (Cf.rf _ M) hG_N_79 rfl⟩⟩ dX11_watch_16
  · refine kx_if_ne 11 F 17 dX11_watch_8 (by decide) rfl (by omega) (fun h_81 => (by exfalso; omega)) (fun h_81 => ?_)
    refine kx_aload_n 12 F 0 dX11_watch_11 rfl rfl rfl ?_
    refine kx_iconst 13 F dX11_watch_12 rfl ?_
    refine kx_Vi 16 (ci := 0) F (As := [vI 1]) (st := []) vd_X11_110 (c_X11_refuse G l M c0 1 hI_M hk_c0 (by omega)) hk_c0 rfl rfl rfl ⟨by decide, by decide⟩ rfl rfl (Nat.le_of_ble_eq_true rfl) dX11_watch_13 rfl ?_
    intro r_82 N_83 q_84
    obtain ⟨hI_N_83, hG_N_83, q_84c⟩ := q_84
    have hF_N_83 : Fr f_e_watch4 M N_83 := Fr.c hF_M hG_N_83 rfl
    have hE_N_83 : Cf (SWk M (M (M c0 5) 6)) M N_83 := Cf.fr hE_M hG_N_83 rfl
    subst q_84c
    exact kx_iret F hQ ⟨hI_N_83, hF_N_83, (by omega), hE_N_83, ⟨(Or.inr ⟨fun h => by omega, by omega⟩), fun h1 h2 => by exfalso; omega, fun _ => Cf.fr (Cf.rf _ M) hG_N_83 rfl⟩⟩ dX11_watch_16
abbrev f_e_see3 : List (Nat × Int) := [(8, 1), (8, 2), (8, 3), (8, 4), (9, -1), (10, -1), (11, -1), (62, 0)]
set_option maxHeartbeats 4000000 in
set_option maxRecDepth 100000 in
theorem e_see3 (G : KG) (l : Launch) (M : Mem) (c0 : Int) (a1 : Int) (hI_M : Inv false M) (hk_c0 : kd c0 = 62) (hpre : -2147483648 ≤ a1 ∧ a1 ≤ 2147483647) (q : Int → Int) (hS : zSN M (M c0 5) q) (hU : zSU M (M c0 5) q) (g : Int → Int) (hW : zWN M (M (M c0 5) 6) g) (hg3 : g 3 = q 3) : KC false G l yX11_see cX11_see 5 (some .int) (3, 72) [vR G c0, vI a1] M (fun A => kQi false G A (fun (r : Int) (N : Mem) => Inv false N ∧ Fr f_e_see3 M N ∧ (r ≥ -1 ∧ r ≤ 1) ∧ Cf (SWk M (M (M c0 5) 6)) M N ∧ ((∃ g2, zSE q g a1 r g2 ∧ zWN N (M (M c0 5) 6) g2) ∧ (¬ zSEk q g a1 → Cf (fun _ => False) M N)))) := by
  refine kx_met (lo := [some (vR G c0), some (vI a1), none, none, none]) (by decide) (Nat.le_of_ble_eq_true rfl) rfl ?_
  intro X F hQ
  have hF_M : Fr f_e_see3 M M := Fr.rf _ _
  have hE_M : Cf (SWk M (M (M c0 5) 6)) M M := Cf.rf _ _
  have hk_1 : kd (M c0 5) = 12 := Inv.r hI_M hk_c0 rfl 5 rfl rfl
  have hSn := hS.u
  have hk_2 : kd (M (M c0 5) 6) = 8 := Inv.r hI_M hk_1 rfl 6 rfl rfl
  have hw4 := hW.1
  have hw4r := Inv.g hI_M hk_2 rfl 0 (a := -1) (b := 1) rfl rfl
  refine kx_aload_n 1 F 0 dX11_see_0 rfl rfl rfl ?_
  refine kx_getr 4 F fl_X11_26 hk_c0 rfl rfl (j := 5) rfl dX11_see_1 (v := (M c0 5)) rfl rfl ?_
  refine kx_iload_n 5 F 1 dX11_see_4 rfl rfl rfl ?_
  refine kx_Vi 8 (ci := 0) F (As := [vI a1]) (st := []) vd_X11_286 (e_X5_hasLetter G l M (M c0 5) a1 hI_M hk_1 (by omega)) hk_1 rfl rfl rfl ⟨by decide, by decide⟩ rfl rfl (Nat.le_of_ble_eq_true rfl) dX11_see_5 rfl ?_
  intro r_3 N_4 q_5
  obtain ⟨rfl, q_5c⟩ := q_5
  have h_6 := Inv.g hI_M hk_1 rfl 2 (a := 0) (b := 6) rfl rfl
  rcases q_5c with q_5c | q_5c | q_5c
  · refine kx_if_ne 11 F 17 dX11_see_8 (by decide) rfl (by omega) (fun h_8 => ?_) (fun h_8 => (by exfalso; omega))
    refine kx_aload_n 18 F 0 dX11_see_17 rfl rfl rfl ?_
    refine kx_getr 21 F fl_X11_26 hk_c0 rfl rfl (j := 5) rfl dX11_see_18 (v := (M c0 5)) rfl rfl ?_
    refine kx_getr 24 F fl_X11_367 hk_1 rfl rfl (j := 6) rfl dX11_see_21 (v := (M (M c0 5) 6)) rfl rfl ?_
    refine kx_astore_n 25 F 2 (lo' := [some (vR G c0), some (vI a1), some (vR G (M (M c0 5) 6)), none, none]) dX11_see_24 rfl (by decide) rfl rfl rfl ?_
    refine kx_aload_n 26 F 2 dX11_see_25 rfl rfl rfl ?_
    refine kx_geti 29 F fl_X11_372 hk_2 rfl rfl (j := 0) rfl dX11_see_26 (v := (M (M (M c0 5) 6) 0)) rfl rfl ?_
    have h_9 := Inv.g hI_M hk_2 rfl 0 (a := (-1)) (b := 1) rfl rfl
    refine kx_iconst 30 F dX11_see_29 rfl ?_
    refine kx_icmp_ne 33 F 40 dX11_see_30 (by decide) rfl (by omega) (by decide) (fun h_10 => ?_) (fun h_10 => ?_)
    · refine kx_aload_n 41 F 0 dX11_see_40 rfl rfl rfl ?_
      refine kx_getr 44 F fl_X11_26 hk_c0 rfl rfl (j := 5) rfl dX11_see_41 (v := (M c0 5)) rfl rfl ?_
      refine kx_iload_n 45 F 1 dX11_see_44 rfl rfl rfl ?_
      refine kx_Vi 48 (ci := 0) F (As := [vI a1]) (st := []) vd_X11_242 (e_X5_sortOf G l M (M c0 5) a1 hI_M hk_1 (by omega)) hk_1 rfl rfl rfl ⟨by decide, by decide⟩ rfl rfl (Nat.le_of_ble_eq_true rfl) dX11_see_45 rfl ?_
      intro r_11 N_12 q_13
      obtain ⟨rfl, q_13c⟩ := q_13
      have h_14 := Inv.g hI_M hk_1 rfl 0 (a := 0) (b := 2) rfl rfl
      have h_16 := Inv.g hI_M hk_1 rfl 1 (a := 0) (b := 4) rfl rfl
      rcases q_13c with q_13c | q_13c | q_13c | q_13c | q_13c
      · exfalso; omega
      · exfalso; omega
      · refine kx_istore_n 49 F 3 (lo' := [some (vR G c0), some (vI a1), some (vR G (M (M c0 5) 6)), some (vI r_11), none]) dX11_see_48 rfl (by decide) rfl rfl rfl ?_
        refine kx_iload_n 50 F 3 dX11_see_49 rfl rfl rfl ?_
        refine kx_if_ne 53 F 68 dX11_see_50 (by decide) rfl (by omega) (fun h_19 => (by exfalso; omega)) (fun h_19 => ?_)
        refine kx_aload_n 54 F 2 dX11_see_53 rfl rfl rfl ?_
        refine kx_geti 57 F fl_X11_375 hk_2 rfl rfl (j := 2) rfl dX11_see_54 (v := (M (M (M c0 5) 6) 2)) rfl rfl ?_
        have h_20 := Inv.g hI_M hk_2 rfl 2 (a := 0) (b := 30) rfl rfl
        refine kx_bipush 59 F dX11_see_57 (by decide) rfl ?_
        refine kx_icmp_lt 62 F 68 dX11_see_59 (by decide) rfl (by omega) (by decide) (fun h_21 => ?_) (fun h_21 => ?_)
        · refine kx_aload_n 69 F 0 dX11_see_68 rfl rfl rfl ?_
          refine kx_getr 72 F fl_X11_26 hk_c0 rfl rfl (j := 5) rfl dX11_see_69 (v := (M c0 5)) rfl rfl ?_
          refine kx_aload_n 73 F 2 dX11_see_72 rfl rfl rfl ?_
          refine kx_geti 76 F fl_X11_372 hk_2 rfl rfl (j := 0) rfl dX11_see_73 (v := (M (M (M c0 5) 6) 0)) rfl rfl ?_
          refine kx_Vr 79 (ci := 0) F (As := [vI (M (M (M c0 5) 6) 0)]) (st := []) vd_X11_164 (c_X5_pickE G l M (M c0 5) (M (M (M c0 5) 6) 0) hI_M hk_1 (by omega)) hk_1 rfl rfl rfl ⟨by decide, by decide⟩ rfl rfl (Nat.le_of_ble_eq_true rfl) dX11_see_76 rfl ?_
          intro r_22 N_23 q_24
          obtain ⟨rfl, hk_25, q_24d⟩ := q_24
          rcases q_24d with ⟨q_24c, rfl⟩ | ⟨q_24c, rfl⟩
          · have hg4 : g 4 = 0 := by omega
            have hwg := hW.2 (by omega)
            have hb4 : (100 : Int) = 85 * g 4 + 100 := by omega
            have hA := hU.1 (by omega)
            have hn3 : M (M (M c0 5) 4) 3 = q 103 := hA.n (d := 3) (by decide) rfl
            refine kx_astore 81 F 4 (lo' := [some (vR G c0), some (vI a1), some (vR G (M (M c0 5) 6)), some (vI r_11), some (vR G (M (M c0 5) 4))]) dX11_see_79 (by decide) rfl rfl rfl ?_
            refine kx_aload_n 82 F 2 dX11_see_81 rfl rfl rfl ?_
            refine kx_aload 84 F 4 dX11_see_82 rfl rfl ?_
            refine kx_iload_n 85 F 1 dX11_see_84 rfl rfl rfl ?_
            refine kx_iload_n 86 F 3 dX11_see_85 rfl rfl rfl ?_
            have h62 := hwg.2.2.1
            refine kx_Vv 89 (ci := 0) F (As := [vR G (M (M c0 5) 4), vI a1, vI r_11]) (st := []) vd_X11_378 (e_go3 G l M (M (M c0 5) 6) (M (M c0 5) 4) a1 r_11 hI_M hk_2 hk_25 (by omega) g hwg.2 (fun _ => by omega)) hk_2 rfl rfl rfl ⟨by decide, by decide⟩ rfl rfl (Nat.le_of_ble_eq_true rfl) dX11_see_86 rfl ?_
            intro N_26 q_27
            obtain ⟨hI_N_26, hG_N_26, hC_N_26, hgo_N_26⟩ := q_27
            have hF_N_26 : Fr f_e_see3 M N_26 := Fr.c hF_M hG_N_26 rfl
            have hE_N_26 : Cf (SWk M (M (M c0 5) 6)) M N_26 := Cf.c hE_M hC_N_26 (fun y hy => hy)
            refine kx_aload_n 90 F 0 dX11_see_89 rfl rfl rfl ?_
            refine kx_aload_n 91 F 2 dX11_see_90 rfl rfl rfl ?_
            refine kx_aload 93 F 4 dX11_see_91 rfl rfl ?_
            refine kx_Vi 96 (ci := 0) F (As := [vR G (M (M c0 5) 4)]) (st := [vR G c0]) vd_X11_234 (e_isTaken3 G l N_26 (M (M c0 5) 6) (M (M c0 5) 4) hI_N_26 hk_2 hk_25) hk_2 rfl rfl rfl ⟨by decide, by decide⟩ rfl rfl (Nat.le_of_ble_eq_true rfl) dX11_see_93 rfl ?_
            intro r_28 N_29 q_30
            obtain ⟨rfl, q_30c⟩ := q_30
            rcases q_30c with q_30c | q_30c
            · refine kx_if_eq 99 F 103 dX11_see_96 (by decide) rfl (by omega) (fun h_31 => (by exfalso; omega)) (fun h_31 => ?_)
              refine kx_iconst 100 F dX11_see_99 rfl ?_
              refine kx_goto 104 F dX11_see_100 (by decide) ?_
              refine kx_Vi 107 (ci := 0) F (As := [vI 1]) (st := []) vd_X11_145 (c_X11_answer G l N_26 c0 1 hI_N_26 hk_c0 (by omega)) hk_c0 rfl rfl rfl ⟨by decide, by decide⟩ rfl rfl (Nat.le_of_ble_eq_true rfl) dX11_see_104 rfl ?_
              intro r_32 N_33 q_34
              obtain ⟨hI_N_33, hG_N_33, q_34c⟩ := q_34
              have hF_N_33 : Fr f_e_see3 M N_33 := Fr.c hF_N_26 hG_N_33 rfl
              have hE_N_33 : Cf (SWk M (M (M c0 5) 6)) M N_33 := Cf.fr hE_N_26 hG_N_33 rfl
              have e_35 : (N_26 (M (M c0 5) 4) 3) = (M (M (M c0 5) 4) 3) := by rw [Fr.e hG_N_26 hk_25 _ rfl]
              have h_36 := Inv.g hI_M hk_25 rfl 3 (a := 0) (b := 7) rfl rfl
              have hws := zWN.see hgo_N_26 (Fr.e hF_N_26 hk_2 0 rfl) hI_M hk_2 hA hW (by omega) hb4 ⟨by omega, by omega⟩ (zsr.of (by omega))
              have hw7 : N_26 (M (M c0 5) 6) 3 = zSEg q g a1 7 := (hws.2 (by have h := hws.1; have e := Fr.e hF_N_26 hk_2 0 rfl; omega)).2.2.2.1
              have hws4 : zSEg q g a1 4 = g 4 := by have h := hws.1; have e := Fr.e hF_N_26 hk_2 0 rfl; omega
              have hzw : zand (N_26 (M (M c0 5) 6) 3) (N_26 (M (M c0 5) 4) 3) = zand (zSEg q g a1 7) (q (85 * zSEg q g a1 4 + 103)) := by rw [hw7, hws4, show 85 * g 4 + 103 = 103 by omega, show N_26 (M (M c0 5) 4) 3 = q 103 by omega]
              exact kx_iret F hQ ⟨hI_N_33, hF_N_33, (by omega), hE_N_33, ⟨⟨zSEg q g a1, Or.inl ⟨⟨by omega, by omega, by omega, fun _ => by have h62 := hwg.2.2.1; omega⟩, rfl, Or.inl ⟨by omega, by omega⟩⟩, (zWN.fr hws hI_N_26 hk_2 hG_N_33 rfl)⟩, fun h => absurd ⟨by omega, by omega, by omega, fun _ => by have h62 := hwg.2.2.1; omega⟩ h⟩⟩ dX11_see_107
            · refine kx_if_eq 99 F 103 dX11_see_96 (by decide) rfl (by omega) (fun h_37 => ?_) (fun h_37 => (by exfalso; omega))
              refine kx_iconst 104 F dX11_see_103 rfl ?_
              refine kx_Vi 107 (ci := 0) F (As := [vI 0]) (st := []) vd_X11_145 (c_X11_answer G l N_26 c0 0 hI_N_26 hk_c0 (by omega)) hk_c0 rfl rfl rfl ⟨by decide, by decide⟩ rfl rfl (Nat.le_of_ble_eq_true rfl) dX11_see_104 rfl ?_
              intro r_38 N_39 q_40
              obtain ⟨hI_N_39, hG_N_39, q_40c⟩ := q_40
              have hF_N_39 : Fr f_e_see3 M N_39 := Fr.c hF_N_26 hG_N_39 rfl
              have hE_N_39 : Cf (SWk M (M (M c0 5) 6)) M N_39 := Cf.fr hE_N_26 hG_N_39 rfl
              have e_41 : (N_26 (M (M c0 5) 4) 3) = (M (M (M c0 5) 4) 3) := by rw [Fr.e hG_N_26 hk_25 _ rfl]
              have h_42 := Inv.g hI_M hk_25 rfl 3 (a := 0) (b := 7) rfl rfl
              have hws := zWN.see hgo_N_26 (Fr.e hF_N_26 hk_2 0 rfl) hI_M hk_2 hA hW (by omega) hb4 ⟨by omega, by omega⟩ (zsr.of (by omega))
              have hw7 : N_26 (M (M c0 5) 6) 3 = zSEg q g a1 7 := (hws.2 (by have h := hws.1; have e := Fr.e hF_N_26 hk_2 0 rfl; omega)).2.2.2.1
              have hws4 : zSEg q g a1 4 = g 4 := by have h := hws.1; have e := Fr.e hF_N_26 hk_2 0 rfl; omega
              have hzw : zand (N_26 (M (M c0 5) 6) 3) (N_26 (M (M c0 5) 4) 3) = zand (zSEg q g a1 7) (q (85 * zSEg q g a1 4 + 103)) := by rw [hw7, hws4, show 85 * g 4 + 103 = 103 by omega, show N_26 (M (M c0 5) 4) 3 = q 103 by omega]
              exact kx_iret F hQ ⟨hI_N_39, hF_N_39, (by omega), hE_N_39, ⟨⟨zSEg q g a1, Or.inl ⟨⟨by omega, by omega, by omega, fun _ => by have h62 := hwg.2.2.1; omega⟩, rfl, Or.inr ⟨by omega, by omega⟩⟩, (zWN.fr hws hI_N_26 hk_2 hG_N_39 rfl)⟩, fun h => absurd ⟨by omega, by omega, by omega, fun _ => by have h62 := hwg.2.2.1; omega⟩ h⟩⟩ dX11_see_107
          · have hg4 : g 4 = 1 := by omega
            have hwg := hW.2 (by omega)
            have hb4 : (185 : Int) = 85 * g 4 + 100 := by omega
            have hA := hU.2 (by omega)
            have hn3 : M (M (M c0 5) 5) 3 = q 188 := hA.n (d := 3) (by decide) rfl
            refine kx_astore 81 F 4 (lo' := [some (vR G c0), some (vI a1), some (vR G (M (M c0 5) 6)), some (vI r_11), some (vR G (M (M c0 5) 5))]) dX11_see_79 (by decide) rfl rfl rfl ?_
            refine kx_aload_n 82 F 2 dX11_see_81 rfl rfl rfl ?_
            refine kx_aload 84 F 4 dX11_see_82 rfl rfl ?_
            refine kx_iload_n 85 F 1 dX11_see_84 rfl rfl rfl ?_
            refine kx_iload_n 86 F 3 dX11_see_85 rfl rfl rfl ?_
            have h62 := hwg.2.2.1
            refine kx_Vv 89 (ci := 0) F (As := [vR G (M (M c0 5) 5), vI a1, vI r_11]) (st := []) vd_X11_378 (e_go3 G l M (M (M c0 5) 6) (M (M c0 5) 5) a1 r_11 hI_M hk_2 hk_25 (by omega) g hwg.2 (fun _ => by omega)) hk_2 rfl rfl rfl ⟨by decide, by decide⟩ rfl rfl (Nat.le_of_ble_eq_true rfl) dX11_see_86 rfl ?_
            intro N_43 q_44
            obtain ⟨hI_N_43, hG_N_43, hC_N_43, hgo_N_43⟩ := q_44
            have hF_N_43 : Fr f_e_see3 M N_43 := Fr.c hF_M hG_N_43 rfl
            have hE_N_43 : Cf (SWk M (M (M c0 5) 6)) M N_43 := Cf.c hE_M hC_N_43 (fun y hy => hy)
            refine kx_aload_n 90 F 0 dX11_see_89 rfl rfl rfl ?_
            refine kx_aload_n 91 F 2 dX11_see_90 rfl rfl rfl ?_
            refine kx_aload 93 F 4 dX11_see_91 rfl rfl ?_
            refine kx_Vi 96 (ci := 0) F (As := [vR G (M (M c0 5) 5)]) (st := [vR G c0]) vd_X11_234 (e_isTaken3 G l N_43 (M (M c0 5) 6) (M (M c0 5) 5) hI_N_43 hk_2 hk_25) hk_2 rfl rfl rfl ⟨by decide, by decide⟩ rfl rfl (Nat.le_of_ble_eq_true rfl) dX11_see_93 rfl ?_
            intro r_45 N_46 q_47
            obtain ⟨rfl, q_47c⟩ := q_47
            rcases q_47c with q_47c | q_47c
            · refine kx_if_eq 99 F 103 dX11_see_96 (by decide) rfl (by omega) (fun h_48 => (by exfalso; omega)) (fun h_48 => ?_)
              refine kx_iconst 100 F dX11_see_99 rfl ?_
              refine kx_goto 104 F dX11_see_100 (by decide) ?_
              refine kx_Vi 107 (ci := 0) F (As := [vI 1]) (st := []) vd_X11_145 (c_X11_answer G l N_43 c0 1 hI_N_43 hk_c0 (by omega)) hk_c0 rfl rfl rfl ⟨by decide, by decide⟩ rfl rfl (Nat.le_of_ble_eq_true rfl) dX11_see_104 rfl ?_
              intro r_49 N_50 q_51
              obtain ⟨hI_N_50, hG_N_50, q_51c⟩ := q_51
              have hF_N_50 : Fr f_e_see3 M N_50 := Fr.c hF_N_43 hG_N_50 rfl
              have hE_N_50 : Cf (SWk M (M (M c0 5) 6)) M N_50 := Cf.fr hE_N_43 hG_N_50 rfl
              have e_52 : (N_43 (M (M c0 5) 5) 3) = (M (M (M c0 5) 5) 3) := by rw [Fr.e hG_N_43 hk_25 _ rfl]
              have h_53 := Inv.g hI_M hk_25 rfl 3 (a := 0) (b := 7) rfl rfl
              have hws := zWN.see hgo_N_43 (Fr.e hF_N_43 hk_2 0 rfl) hI_M hk_2 hA hW (by omega) hb4 ⟨by omega, by omega⟩ (zsr.of (by omega))
              have hw7 : N_43 (M (M c0 5) 6) 3 = zSEg q g a1 7 := (hws.2 (by have h := hws.1; have e := Fr.e hF_N_43 hk_2 0 rfl; omega)).2.2.2.1
              have hws4 : zSEg q g a1 4 = g 4 := by have h := hws.1; have e := Fr.e hF_N_43 hk_2 0 rfl; omega
              have hzw : zand (N_43 (M (M c0 5) 6) 3) (N_43 (M (M c0 5) 5) 3) = zand (zSEg q g a1 7) (q (85 * zSEg q g a1 4 + 103)) := by rw [hw7, hws4, show 85 * g 4 + 103 = 188 by omega, show N_43 (M (M c0 5) 5) 3 = q 188 by omega]
              exact kx_iret F hQ ⟨hI_N_50, hF_N_50, (by omega), hE_N_50, ⟨⟨zSEg q g a1, Or.inl ⟨⟨by omega, by omega, by omega, fun _ => by have h62 := hwg.2.2.1; omega⟩, rfl, Or.inl ⟨by omega, by omega⟩⟩, (zWN.fr hws hI_N_43 hk_2 hG_N_50 rfl)⟩, fun h => absurd ⟨by omega, by omega, by omega, fun _ => by have h62 := hwg.2.2.1; omega⟩ h⟩⟩ dX11_see_107
            · refine kx_if_eq 99 F 103 dX11_see_96 (by decide) rfl (by omega) (fun h_54 => ?_) (fun h_54 => (by exfalso; omega))
              refine kx_iconst 104 F dX11_see_103 rfl ?_
              refine kx_Vi 107 (ci := 0) F (As := [vI 0]) (st := []) vd_X11_145 (c_X11_answer G l N_43 c0 0 hI_N_43 hk_c0 (by omega)) hk_c0 rfl rfl rfl ⟨by decide, by decide⟩ rfl rfl (Nat.le_of_ble_eq_true rfl) dX11_see_104 rfl ?_
              intro r_55 N_56 q_57
              obtain ⟨hI_N_56, hG_N_56, q_57c⟩ := q_57
              have hF_N_56 : Fr f_e_see3 M N_56 := Fr.c hF_N_43 hG_N_56 rfl
              have hE_N_56 : Cf (SWk M (M (M c0 5) 6)) M N_56 := Cf.fr hE_N_43 hG_N_56 rfl
              have e_58 : (N_43 (M (M c0 5) 5) 3) = (M (M (M c0 5) 5) 3) := by rw [Fr.e hG_N_43 hk_25 _ rfl]
              have h_59 := Inv.g hI_M hk_25 rfl 3 (a := 0) (b := 7) rfl rfl
              have hws := zWN.see hgo_N_43 (Fr.e hF_N_43 hk_2 0 rfl) hI_M hk_2 hA hW (by omega) hb4 ⟨by omega, by omega⟩ (zsr.of (by omega))
              have hw7 : N_43 (M (M c0 5) 6) 3 = zSEg q g a1 7 := (hws.2 (by have h := hws.1; have e := Fr.e hF_N_43 hk_2 0 rfl; omega)).2.2.2.1
              have hws4 : zSEg q g a1 4 = g 4 := by have h := hws.1; have e := Fr.e hF_N_43 hk_2 0 rfl; omega
              have hzw : zand (N_43 (M (M c0 5) 6) 3) (N_43 (M (M c0 5) 5) 3) = zand (zSEg q g a1 7) (q (85 * zSEg q g a1 4 + 103)) := by rw [hw7, hws4, show 85 * g 4 + 103 = 188 by omega, show N_43 (M (M c0 5) 5) 3 = q 188 by omega]
              exact kx_iret F hQ ⟨hI_N_56, hF_N_56, (by omega), hE_N_56, ⟨⟨zSEg q g a1, Or.inl ⟨⟨by omega, by omega, by omega, fun _ => by have h62 := hwg.2.2.1; omega⟩, rfl, Or.inr ⟨by omega, by omega⟩⟩, (zWN.fr hws hI_N_43 hk_2 hG_N_56 rfl)⟩, fun h => absurd ⟨by omega, by omega, by omega, fun _ => by have h62 := hwg.2.2.1; omega⟩ h⟩⟩ dX11_see_107
        · refine kx_aload_n 63 F 0 dX11_see_62 rfl rfl rfl ?_
          refine kx_iconst 64 F dX11_see_63 rfl ?_
          refine kx_Vi 67 (ci := 0) F (As := [vI 4]) (st := []) vd_X11_110 (c_X11_refuse G l M c0 4 hI_M hk_c0 (by omega)) hk_c0 rfl rfl rfl ⟨by decide, by decide⟩ rfl rfl (Nat.le_of_ble_eq_true rfl) dX11_see_64 rfl ?_
          intro r_60 N_61 q_62
          obtain ⟨hI_N_61, hG_N_61, q_62c⟩ := q_62
          have hF_N_61 : Fr f_e_see3 M N_61 := Fr.c hF_M hG_N_61 rfl
          have hE_N_61 : Cf (SWk M (M (M c0 5) 6)) M N_61 := Cf.fr hE_M hG_N_61 rfl
          subst q_62c
          exact kx_iret F hQ ⟨hI_N_61, hF_N_61, (by omega), hE_N_61, ⟨⟨g, Or.inr ⟨fun h => by unfold zSEk at h; have h62 := hW.2; have h63 : 0 ≤ g 4 → M (M (M c0 5) 6) 2 = g 6 := fun z => (hW.2 z).2.2.1; omega, by omega, rfl⟩, zWN.fr hW hI_M hk_2 hG_N_61 rfl⟩, fun _ => Cf.fr (Cf.rf _ M) hG_N_61 rfl⟩⟩ dX11_see_67
      · refine kx_istore_n 49 F 3 (lo' := [some (vR G c0), some (vI a1), some (vR G (M (M c0 5) 6)), some (vI r_11), none]) dX11_see_48 rfl (by decide) rfl rfl rfl ?_
        refine kx_iload_n 50 F 3 dX11_see_49 rfl rfl rfl ?_
        refine kx_if_ne 53 F 68 dX11_see_50 (by decide) rfl (by omega) (fun h_63 => ?_) (fun h_63 => (by exfalso; omega))
        refine kx_aload_n 69 F 0 dX11_see_68 rfl rfl rfl ?_
        refine kx_getr 72 F fl_X11_26 hk_c0 rfl rfl (j := 5) rfl dX11_see_69 (v := (M c0 5)) rfl rfl ?_
        refine kx_aload_n 73 F 2 dX11_see_72 rfl rfl rfl ?_
        refine kx_geti 76 F fl_X11_372 hk_2 rfl rfl (j := 0) rfl dX11_see_73 (v := (M (M (M c0 5) 6) 0)) rfl rfl ?_
        refine kx_Vr 79 (ci := 0) F (As := [vI (M (M (M c0 5) 6) 0)]) (st := []) vd_X11_164 (c_X5_pickE G l M (M c0 5) (M (M (M c0 5) 6) 0) hI_M hk_1 (by omega)) hk_1 rfl rfl rfl ⟨by decide, by decide⟩ rfl rfl (Nat.le_of_ble_eq_true rfl) dX11_see_76 rfl ?_
        intro r_64 N_65 q_66
        obtain ⟨rfl, hk_67, q_66d⟩ := q_66
        rcases q_66d with ⟨q_66c, rfl⟩ | ⟨q_66c, rfl⟩
        · have hg4 : g 4 = 0 := by omega
          have hwg := hW.2 (by omega)
          have hb4 : (100 : Int) = 85 * g 4 + 100 := by omega
          have hA := hU.1 (by omega)
          have hn3 : M (M (M c0 5) 4) 3 = q 103 := hA.n (d := 3) (by decide) rfl
          refine kx_astore 81 F 4 (lo' := [some (vR G c0), some (vI a1), some (vR G (M (M c0 5) 6)), some (vI r_11), some (vR G (M (M c0 5) 4))]) dX11_see_79 (by decide) rfl rfl rfl ?_
          refine kx_aload_n 82 F 2 dX11_see_81 rfl rfl rfl ?_
          refine kx_aload 84 F 4 dX11_see_82 rfl rfl ?_
          refine kx_iload_n 85 F 1 dX11_see_84 rfl rfl rfl ?_
          refine kx_iload_n 86 F 3 dX11_see_85 rfl rfl rfl ?_
          have h62 := hwg.2.2.1
          refine kx_Vv 89 (ci := 0) F (As := [vR G (M (M c0 5) 4), vI a1, vI r_11]) (st := []) vd_X11_378 (e_go3 G l M (M (M c0 5) 6) (M (M c0 5) 4) a1 r_11 hI_M hk_2 hk_67 (by omega) g hwg.2 (fun _ => by omega)) hk_2 rfl rfl rfl ⟨by decide, by decide⟩ rfl rfl (Nat.le_of_ble_eq_true rfl) dX11_see_86 rfl ?_
          intro N_68 q_69
          obtain ⟨hI_N_68, hG_N_68, hC_N_68, hgo_N_68⟩ := q_69
          have hF_N_68 : Fr f_e_see3 M N_68 := Fr.c hF_M hG_N_68 rfl
          have hE_N_68 : Cf (SWk M (M (M c0 5) 6)) M N_68 := Cf.c hE_M hC_N_68 (fun y hy => hy)
          refine kx_aload_n 90 F 0 dX11_see_89 rfl rfl rfl ?_
          refine kx_aload_n 91 F 2 dX11_see_90 rfl rfl rfl ?_
          refine kx_aload 93 F 4 dX11_see_91 rfl rfl ?_
          refine kx_Vi 96 (ci := 0) F (As := [vR G (M (M c0 5) 4)]) (st := [vR G c0]) vd_X11_234 (e_isTaken3 G l N_68 (M (M c0 5) 6) (M (M c0 5) 4) hI_N_68 hk_2 hk_67) hk_2 rfl rfl rfl ⟨by decide, by decide⟩ rfl rfl (Nat.le_of_ble_eq_true rfl) dX11_see_93 rfl ?_
          intro r_70 N_71 q_72
          obtain ⟨rfl, q_72c⟩ := q_72
          rcases q_72c with q_72c | q_72c
          · refine kx_if_eq 99 F 103 dX11_see_96 (by decide) rfl (by omega) (fun h_73 => (by exfalso; omega)) (fun h_73 => ?_)
            refine kx_iconst 100 F dX11_see_99 rfl ?_
            refine kx_goto 104 F dX11_see_100 (by decide) ?_
            refine kx_Vi 107 (ci := 0) F (As := [vI 1]) (st := []) vd_X11_145 (c_X11_answer G l N_68 c0 1 hI_N_68 hk_c0 (by omega)) hk_c0 rfl rfl rfl ⟨by decide, by decide⟩ rfl rfl (Nat.le_of_ble_eq_true rfl) dX11_see_104 rfl ?_
            intro r_74 N_75 q_76
            obtain ⟨hI_N_75, hG_N_75, q_76c⟩ := q_76
            have hF_N_75 : Fr f_e_see3 M N_75 := Fr.c hF_N_68 hG_N_75 rfl
            have hE_N_75 : Cf (SWk M (M (M c0 5) 6)) M N_75 := Cf.fr hE_N_68 hG_N_75 rfl
            have e_77 : (N_68 (M (M c0 5) 4) 3) = (M (M (M c0 5) 4) 3) := by rw [Fr.e hG_N_68 hk_67 _ rfl]
            have h_78 := Inv.g hI_M hk_67 rfl 3 (a := 0) (b := 7) rfl rfl
            have hws := zWN.see hgo_N_68 (Fr.e hF_N_68 hk_2 0 rfl) hI_M hk_2 hA hW (by omega) hb4 ⟨by omega, by omega⟩ (zsr.of (by omega))
            have hw7 : N_68 (M (M c0 5) 6) 3 = zSEg q g a1 7 := (hws.2 (by have h := hws.1; have e := Fr.e hF_N_68 hk_2 0 rfl; omega)).2.2.2.1
            have hws4 : zSEg q g a1 4 = g 4 := by have h := hws.1; have e := Fr.e hF_N_68 hk_2 0 rfl; omega
            have hzw : zand (N_68 (M (M c0 5) 6) 3) (N_68 (M (M c0 5) 4) 3) = zand (zSEg q g a1 7) (q (85 * zSEg q g a1 4 + 103)) := by rw [hw7, hws4, show 85 * g 4 + 103 = 103 by omega, show N_68 (M (M c0 5) 4) 3 = q 103 by omega]
            exact kx_iret F hQ ⟨hI_N_75, hF_N_75, (by omega), hE_N_75, ⟨⟨zSEg q g a1, Or.inl ⟨⟨by omega, by omega, by omega, fun _ => by have h62 := hwg.2.2.1; omega⟩, rfl, Or.inl ⟨by omega, by omega⟩⟩, (zWN.fr hws hI_N_68 hk_2 hG_N_75 rfl)⟩, fun h => absurd ⟨by omega, by omega, by omega, fun _ => by have h62 := hwg.2.2.1; omega⟩ h⟩⟩ dX11_see_107
          · refine kx_if_eq 99 F 103 dX11_see_96 (by decide) rfl (by omega) (fun h_79 => ?_) (fun h_79 => (by exfalso; omega))
            refine kx_iconst 104 F dX11_see_103 rfl ?_
            refine kx_Vi 107 (ci := 0) F (As := [vI 0]) (st := []) vd_X11_145 (c_X11_answer G l N_68 c0 0 hI_N_68 hk_c0 (by omega)) hk_c0 rfl rfl rfl ⟨by decide, by decide⟩ rfl rfl (Nat.le_of_ble_eq_true rfl) dX11_see_104 rfl ?_
            intro r_80 N_81 q_82
            obtain ⟨hI_N_81, hG_N_81, q_82c⟩ := q_82
            have hF_N_81 : Fr f_e_see3 M N_81 := Fr.c hF_N_68 hG_N_81 rfl
            have hE_N_81 : Cf (SWk M (M (M c0 5) 6)) M N_81 := Cf.fr hE_N_68 hG_N_81 rfl
            have e_83 : (N_68 (M (M c0 5) 4) 3) = (M (M (M c0 5) 4) 3) := by rw [Fr.e hG_N_68 hk_67 _ rfl]
            have h_84 := Inv.g hI_M hk_67 rfl 3 (a := 0) (b := 7) rfl rfl
            have hws := zWN.see hgo_N_68 (Fr.e hF_N_68 hk_2 0 rfl) hI_M hk_2 hA hW (by omega) hb4 ⟨by omega, by omega⟩ (zsr.of (by omega))
            have hw7 : N_68 (M (M c0 5) 6) 3 = zSEg q g a1 7 := (hws.2 (by have h := hws.1; have e := Fr.e hF_N_68 hk_2 0 rfl; omega)).2.2.2.1
            have hws4 : zSEg q g a1 4 = g 4 := by have h := hws.1; have e := Fr.e hF_N_68 hk_2 0 rfl; omega
            have hzw : zand (N_68 (M (M c0 5) 6) 3) (N_68 (M (M c0 5) 4) 3) = zand (zSEg q g a1 7) (q (85 * zSEg q g a1 4 + 103)) := by rw [hw7, hws4, show 85 * g 4 + 103 = 103 by omega, show N_68 (M (M c0 5) 4) 3 = q 103 by omega]
            exact kx_iret F hQ ⟨hI_N_81, hF_N_81, (by omega), hE_N_81, ⟨⟨zSEg q g a1, Or.inl ⟨⟨by omega, by omega, by omega, fun _ => by have h62 := hwg.2.2.1; omega⟩, rfl, Or.inr ⟨by omega, by omega⟩⟩, (zWN.fr hws hI_N_68 hk_2 hG_N_81 rfl)⟩, fun h => absurd ⟨by omega, by omega, by omega, fun _ => by have h62 := hwg.2.2.1; omega⟩ h⟩⟩ dX11_see_107
        · have hg4 : g 4 = 1 := by omega
          have hwg := hW.2 (by omega)
          have hb4 : (185 : Int) = 85 * g 4 + 100 := by omega
          have hA := hU.2 (by omega)
          have hn3 : M (M (M c0 5) 5) 3 = q 188 := hA.n (d := 3) (by decide) rfl
          refine kx_astore 81 F 4 (lo' := [some (vR G c0), some (vI a1), some (vR G (M (M c0 5) 6)), some (vI r_11), some (vR G (M (M c0 5) 5))]) dX11_see_79 (by decide) rfl rfl rfl ?_
          refine kx_aload_n 82 F 2 dX11_see_81 rfl rfl rfl ?_
          refine kx_aload 84 F 4 dX11_see_82 rfl rfl ?_
          refine kx_iload_n 85 F 1 dX11_see_84 rfl rfl rfl ?_
          refine kx_iload_n 86 F 3 dX11_see_85 rfl rfl rfl ?_
          have h62 := hwg.2.2.1
          refine kx_Vv 89 (ci := 0) F (As := [vR G (M (M c0 5) 5), vI a1, vI r_11]) (st := []) vd_X11_378 (e_go3 G l M (M (M c0 5) 6) (M (M c0 5) 5) a1 r_11 hI_M hk_2 hk_67 (by omega) g hwg.2 (fun _ => by omega)) hk_2 rfl rfl rfl ⟨by decide, by decide⟩ rfl rfl (Nat.le_of_ble_eq_true rfl) dX11_see_86 rfl ?_
          intro N_85 q_86
          obtain ⟨hI_N_85, hG_N_85, hC_N_85, hgo_N_85⟩ := q_86
          have hF_N_85 : Fr f_e_see3 M N_85 := Fr.c hF_M hG_N_85 rfl
          have hE_N_85 : Cf (SWk M (M (M c0 5) 6)) M N_85 := Cf.c hE_M hC_N_85 (fun y hy => hy)
          refine kx_aload_n 90 F 0 dX11_see_89 rfl rfl rfl ?_
          refine kx_aload_n 91 F 2 dX11_see_90 rfl rfl rfl ?_
          refine kx_aload 93 F 4 dX11_see_91 rfl rfl ?_
          refine kx_Vi 96 (ci := 0) F (As := [vR G (M (M c0 5) 5)]) (st := [vR G c0]) vd_X11_234 (e_isTaken3 G l N_85 (M (M c0 5) 6) (M (M c0 5) 5) hI_N_85 hk_2 hk_67) hk_2 rfl rfl rfl ⟨by decide, by decide⟩ rfl rfl (Nat.le_of_ble_eq_true rfl) dX11_see_93 rfl ?_
          intro r_87 N_88 q_89
          obtain ⟨rfl, q_89c⟩ := q_89
          rcases q_89c with q_89c | q_89c
          · refine kx_if_eq 99 F 103 dX11_see_96 (by decide) rfl (by omega) (fun h_90 => (by exfalso; omega)) (fun h_90 => ?_)
            refine kx_iconst 100 F dX11_see_99 rfl ?_
            refine kx_goto 104 F dX11_see_100 (by decide) ?_
            refine kx_Vi 107 (ci := 0) F (As := [vI 1]) (st := []) vd_X11_145 (c_X11_answer G l N_85 c0 1 hI_N_85 hk_c0 (by omega)) hk_c0 rfl rfl rfl ⟨by decide, by decide⟩ rfl rfl (Nat.le_of_ble_eq_true rfl) dX11_see_104 rfl ?_
            intro r_91 N_92 q_93
            obtain ⟨hI_N_92, hG_N_92, q_93c⟩ := q_93
            have hF_N_92 : Fr f_e_see3 M N_92 := Fr.c hF_N_85 hG_N_92 rfl
            have hE_N_92 : Cf (SWk M (M (M c0 5) 6)) M N_92 := Cf.fr hE_N_85 hG_N_92 rfl
            have e_94 : (N_85 (M (M c0 5) 5) 3) = (M (M (M c0 5) 5) 3) := by rw [Fr.e hG_N_85 hk_67 _ rfl]
            have h_95 := Inv.g hI_M hk_67 rfl 3 (a := 0) (b := 7) rfl rfl
            have hws := zWN.see hgo_N_85 (Fr.e hF_N_85 hk_2 0 rfl) hI_M hk_2 hA hW (by omega) hb4 ⟨by omega, by omega⟩ (zsr.of (by omega))
            have hw7 : N_85 (M (M c0 5) 6) 3 = zSEg q g a1 7 := (hws.2 (by have h := hws.1; have e := Fr.e hF_N_85 hk_2 0 rfl; omega)).2.2.2.1
            have hws4 : zSEg q g a1 4 = g 4 := by have h := hws.1; have e := Fr.e hF_N_85 hk_2 0 rfl; omega
            have hzw : zand (N_85 (M (M c0 5) 6) 3) (N_85 (M (M c0 5) 5) 3) = zand (zSEg q g a1 7) (q (85 * zSEg q g a1 4 + 103)) := by rw [hw7, hws4, show 85 * g 4 + 103 = 188 by omega, show N_85 (M (M c0 5) 5) 3 = q 188 by omega]
            exact kx_iret F hQ ⟨hI_N_92, hF_N_92, (by omega), hE_N_92, ⟨⟨zSEg q g a1, Or.inl ⟨⟨by omega, by omega, by omega, fun _ => by have h62 := hwg.2.2.1; omega⟩, rfl, Or.inl ⟨by omega, by omega⟩⟩, (zWN.fr hws hI_N_85 hk_2 hG_N_92 rfl)⟩, fun h => absurd ⟨by omega, by omega, by omega, fun _ => by have h62 := hwg.2.2.1; omega⟩ h⟩⟩ dX11_see_107
          · refine kx_if_eq 99 F 103 dX11_see_96 (by decide) rfl (by omega) (fun h_96 => ?_) (fun h_96 => (by exfalso; omega))
            refine kx_iconst 104 F dX11_see_103 rfl ?_
            refine kx_Vi 107 (ci := 0) F (As := [vI 0]) (st := []) vd_X11_145 (c_X11_answer G l N_85 c0 0 hI_N_85 hk_c0 (by omega)) hk_c0 rfl rfl rfl ⟨by decide, by decide⟩ rfl rfl (Nat.le_of_ble_eq_true rfl) dX11_see_104 rfl ?_
            intro r_97 N_98 q_99
            obtain ⟨hI_N_98, hG_N_98, q_99c⟩ := q_99
            have hF_N_98 : Fr f_e_see3 M N_98 := Fr.c hF_N_85 hG_N_98 rfl
            have hE_N_98 : Cf (SWk M (M (M c0 5) 6)) M N_98 := Cf.fr hE_N_85 hG_N_98 rfl
            have e_100 : (N_85 (M (M c0 5) 5) 3) = (M (M (M c0 5) 5) 3) := by rw [Fr.e hG_N_85 hk_67 _ rfl]
            have h_101 := Inv.g hI_M hk_67 rfl 3 (a := 0) (b := 7) rfl rfl
            have hws := zWN.see hgo_N_85 (Fr.e hF_N_85 hk_2 0 rfl) hI_M hk_2 hA hW (by omega) hb4 ⟨by omega, by omega⟩ (zsr.of (by omega))
            have hw7 : N_85 (M (M c0 5) 6) 3 = zSEg q g a1 7 := (hws.2 (by have h := hws.1; have e := Fr.e hF_N_85 hk_2 0 rfl; omega)).2.2.2.1
            have hws4 : zSEg q g a1 4 = g 4 := by have h := hws.1; have e := Fr.e hF_N_85 hk_2 0 rfl; omega
            have hzw : zand (N_85 (M (M c0 5) 6) 3) (N_85 (M (M c0 5) 5) 3) = zand (zSEg q g a1 7) (q (85 * zSEg q g a1 4 + 103)) := by rw [hw7, hws4, show 85 * g 4 + 103 = 188 by omega, show N_85 (M (M c0 5) 5) 3 = q 188 by omega]
            exact kx_iret F hQ ⟨hI_N_98, hF_N_98, (by omega), hE_N_98, ⟨⟨zSEg q g a1, Or.inl ⟨⟨by omega, by omega, by omega, fun _ => by have h62 := hwg.2.2.1; omega⟩, rfl, Or.inr ⟨by omega, by omega⟩⟩, (zWN.fr hws hI_N_85 hk_2 hG_N_98 rfl)⟩, fun h => absurd ⟨by omega, by omega, by omega, fun _ => by have h62 := hwg.2.2.1; omega⟩ h⟩⟩ dX11_see_107
      · refine kx_istore_n 49 F 3 (lo' := [some (vR G c0), some (vI a1), some (vR G (M (M c0 5) 6)), some (vI r_11), none]) dX11_see_48 rfl (by decide) rfl rfl rfl ?_
        refine kx_iload_n 50 F 3 dX11_see_49 rfl rfl rfl ?_
        refine kx_if_ne 53 F 68 dX11_see_50 (by decide) rfl (by omega) (fun h_102 => ?_) (fun h_102 => (by exfalso; omega))
        refine kx_aload_n 69 F 0 dX11_see_68 rfl rfl rfl ?_
        refine kx_getr 72 F fl_X11_26 hk_c0 rfl rfl (j := 5) rfl dX11_see_69 (v := (M c0 5)) rfl rfl ?_
        refine kx_aload_n 73 F 2 dX11_see_72 rfl rfl rfl ?_
        refine kx_geti 76 F fl_X11_372 hk_2 rfl rfl (j := 0) rfl dX11_see_73 (v := (M (M (M c0 5) 6) 0)) rfl rfl ?_
        refine kx_Vr 79 (ci := 0) F (As := [vI (M (M (M c0 5) 6) 0)]) (st := []) vd_X11_164 (c_X5_pickE G l M (M c0 5) (M (M (M c0 5) 6) 0) hI_M hk_1 (by omega)) hk_1 rfl rfl rfl ⟨by decide, by decide⟩ rfl rfl (Nat.le_of_ble_eq_true rfl) dX11_see_76 rfl ?_
        intro r_103 N_104 q_105
        obtain ⟨rfl, hk_106, q_105d⟩ := q_105
        rcases q_105d with ⟨q_105c, rfl⟩ | ⟨q_105c, rfl⟩
        · have hg4 : g 4 = 0 := by omega
          have hwg := hW.2 (by omega)
          have hb4 : (100 : Int) = 85 * g 4 + 100 := by omega
          have hA := hU.1 (by omega)
          have hn3 : M (M (M c0 5) 4) 3 = q 103 := hA.n (d := 3) (by decide) rfl
          refine kx_astore 81 F 4 (lo' := [some (vR G c0), some (vI a1), some (vR G (M (M c0 5) 6)), some (vI r_11), some (vR G (M (M c0 5) 4))]) dX11_see_79 (by decide) rfl rfl rfl ?_
          refine kx_aload_n 82 F 2 dX11_see_81 rfl rfl rfl ?_
          refine kx_aload 84 F 4 dX11_see_82 rfl rfl ?_
          refine kx_iload_n 85 F 1 dX11_see_84 rfl rfl rfl ?_
          refine kx_iload_n 86 F 3 dX11_see_85 rfl rfl rfl ?_
          have h62 := hwg.2.2.1
          refine kx_Vv 89 (ci := 0) F (As := [vR G (M (M c0 5) 4), vI a1, vI r_11]) (st := []) vd_X11_378 (e_go3 G l M (M (M c0 5) 6) (M (M c0 5) 4) a1 r_11 hI_M hk_2 hk_106 (by omega) g hwg.2 (fun _ => by omega)) hk_2 rfl rfl rfl ⟨by decide, by decide⟩ rfl rfl (Nat.le_of_ble_eq_true rfl) dX11_see_86 rfl ?_
          intro N_107 q_108
          obtain ⟨hI_N_107, hG_N_107, hC_N_107, hgo_N_107⟩ := q_108
          have hF_N_107 : Fr f_e_see3 M N_107 := Fr.c hF_M hG_N_107 rfl
          have hE_N_107 : Cf (SWk M (M (M c0 5) 6)) M N_107 := Cf.c hE_M hC_N_107 (fun y hy => hy)
          refine kx_aload_n 90 F 0 dX11_see_89 rfl rfl rfl ?_
          refine kx_aload_n 91 F 2 dX11_see_90 rfl rfl rfl ?_
          refine kx_aload 93 F 4 dX11_see_91 rfl rfl ?_
          refine kx_Vi 96 (ci := 0) F (As := [vR G (M (M c0 5) 4)]) (st := [vR G c0]) vd_X11_234 (e_isTaken3 G l N_107 (M (M c0 5) 6) (M (M c0 5) 4) hI_N_107 hk_2 hk_106) hk_2 rfl rfl rfl ⟨by decide, by decide⟩ rfl rfl (Nat.le_of_ble_eq_true rfl) dX11_see_93 rfl ?_
          intro r_109 N_110 q_111
          obtain ⟨rfl, q_111c⟩ := q_111
          rcases q_111c with q_111c | q_111c
          · refine kx_if_eq 99 F 103 dX11_see_96 (by decide) rfl (by omega) (fun h_112 => (by exfalso; omega)) (fun h_112 => ?_)
            refine kx_iconst 100 F dX11_see_99 rfl ?_
            refine kx_goto 104 F dX11_see_100 (by decide) ?_
            refine kx_Vi 107 (ci := 0) F (As := [vI 1]) (st := []) vd_X11_145 (c_X11_answer G l N_107 c0 1 hI_N_107 hk_c0 (by omega)) hk_c0 rfl rfl rfl ⟨by decide, by decide⟩ rfl rfl (Nat.le_of_ble_eq_true rfl) dX11_see_104 rfl ?_
            intro r_113 N_114 q_115
            obtain ⟨hI_N_114, hG_N_114, q_115c⟩ := q_115
            have hF_N_114 : Fr f_e_see3 M N_114 := Fr.c hF_N_107 hG_N_114 rfl
            have hE_N_114 : Cf (SWk M (M (M c0 5) 6)) M N_114 := Cf.fr hE_N_107 hG_N_114 rfl
            have e_116 : (N_107 (M (M c0 5) 4) 3) = (M (M (M c0 5) 4) 3) := by rw [Fr.e hG_N_107 hk_106 _ rfl]
            have h_117 := Inv.g hI_M hk_106 rfl 3 (a := 0) (b := 7) rfl rfl
            have hws := zWN.see hgo_N_107 (Fr.e hF_N_107 hk_2 0 rfl) hI_M hk_2 hA hW (by omega) hb4 ⟨by omega, by omega⟩ (zsr.of (by omega))
            have hw7 : N_107 (M (M c0 5) 6) 3 = zSEg q g a1 7 := (hws.2 (by have h := hws.1; have e := Fr.e hF_N_107 hk_2 0 rfl; omega)).2.2.2.1
            have hws4 : zSEg q g a1 4 = g 4 := by have h := hws.1; have e := Fr.e hF_N_107 hk_2 0 rfl; omega
            have hzw : zand (N_107 (M (M c0 5) 6) 3) (N_107 (M (M c0 5) 4) 3) = zand (zSEg q g a1 7) (q (85 * zSEg q g a1 4 + 103)) := by rw [hw7, hws4, show 85 * g 4 + 103 = 103 by omega, show N_107 (M (M c0 5) 4) 3 = q 103 by omega]
            exact kx_iret F hQ ⟨hI_N_114, hF_N_114, (by omega), hE_N_114, ⟨⟨zSEg q g a1, Or.inl ⟨⟨by omega, by omega, by omega, fun _ => by have h62 := hwg.2.2.1; omega⟩, rfl, Or.inl ⟨by omega, by omega⟩⟩, (zWN.fr hws hI_N_107 hk_2 hG_N_114 rfl)⟩, fun h => absurd ⟨by omega, by omega, by omega, fun _ => by have h62 := hwg.2.2.1; omega⟩ h⟩⟩ dX11_see_107
          · refine kx_if_eq 99 F 103 dX11_see_96 (by decide) rfl (by omega) (fun h_118 => ?_) (fun h_118 => (by exfalso; omega))
            refine kx_iconst 104 F dX11_see_103 rfl ?_
            refine kx_Vi 107 (ci := 0) F (As := [vI 0]) (st := []) vd_X11_145 (c_X11_answer G l N_107 c0 0 hI_N_107 hk_c0 (by omega)) hk_c0 rfl rfl rfl ⟨by decide, by decide⟩ rfl rfl (Nat.le_of_ble_eq_true rfl) dX11_see_104 rfl ?_
            intro r_119 N_120 q_121
            obtain ⟨hI_N_120, hG_N_120, q_121c⟩ := q_121
            have hF_N_120 : Fr f_e_see3 M N_120 := Fr.c hF_N_107 hG_N_120 rfl
            have hE_N_120 : Cf (SWk M (M (M c0 5) 6)) M N_120 := Cf.fr hE_N_107 hG_N_120 rfl
            have e_122 : (N_107 (M (M c0 5) 4) 3) = (M (M (M c0 5) 4) 3) := by rw [Fr.e hG_N_107 hk_106 _ rfl]
            have h_123 := Inv.g hI_M hk_106 rfl 3 (a := 0) (b := 7) rfl rfl
            have hws := zWN.see hgo_N_107 (Fr.e hF_N_107 hk_2 0 rfl) hI_M hk_2 hA hW (by omega) hb4 ⟨by omega, by omega⟩ (zsr.of (by omega))
            have hw7 : N_107 (M (M c0 5) 6) 3 = zSEg q g a1 7 := (hws.2 (by have h := hws.1; have e := Fr.e hF_N_107 hk_2 0 rfl; omega)).2.2.2.1
            have hws4 : zSEg q g a1 4 = g 4 := by have h := hws.1; have e := Fr.e hF_N_107 hk_2 0 rfl; omega
            have hzw : zand (N_107 (M (M c0 5) 6) 3) (N_107 (M (M c0 5) 4) 3) = zand (zSEg q g a1 7) (q (85 * zSEg q g a1 4 + 103)) := by rw [hw7, hws4, show 85 * g 4 + 103 = 103 by omega, show N_107 (M (M c0 5) 4) 3 = q 103 by omega]
            exact kx_iret F hQ ⟨hI_N_120, hF_N_120, (by omega), hE_N_120, ⟨⟨zSEg q g a1, Or.inl ⟨⟨by omega, by omega, by omega, fun _ => by have h62 := hwg.2.2.1; omega⟩, rfl, Or.inr ⟨by omega, by omega⟩⟩, (zWN.fr hws hI_N_107 hk_2 hG_N_120 rfl)⟩, fun h => absurd ⟨by omega, by omega, by omega, fun _ => by have h62 := hwg.2.2.1; omega⟩ h⟩⟩ dX11_see_107
        · have hg4 : g 4 = 1 := by omega
          have hwg := hW.2 (by omega)
          have hb4 : (185 : Int) = 85 * g 4 + 100 := by omega
          have hA := hU.2 (by omega)
          have hn3 : M (M (M c0 5) 5) 3 = q 188 := hA.n (d := 3) (by decide) rfl
          refine kx_astore 81 F 4 (lo' := [some (vR G c0), some (vI a1), some (vR G (M (M c0 5) 6)), some (vI r_11), some (vR G (M (M c0 5) 5))]) dX11_see_79 (by decide) rfl rfl rfl ?_
          refine kx_aload_n 82 F 2 dX11_see_81 rfl rfl rfl ?_
          refine kx_aload 84 F 4 dX11_see_82 rfl rfl ?_
          refine kx_iload_n 85 F 1 dX11_see_84 rfl rfl rfl ?_
          refine kx_iload_n 86 F 3 dX11_see_85 rfl rfl rfl ?_
          have h62 := hwg.2.2.1
          refine kx_Vv 89 (ci := 0) F (As := [vR G (M (M c0 5) 5), vI a1, vI r_11]) (st := []) vd_X11_378 (e_go3 G l M (M (M c0 5) 6) (M (M c0 5) 5) a1 r_11 hI_M hk_2 hk_106 (by omega) g hwg.2 (fun _ => by omega)) hk_2 rfl rfl rfl ⟨by decide, by decide⟩ rfl rfl (Nat.le_of_ble_eq_true rfl) dX11_see_86 rfl ?_
          intro N_124 q_125
          obtain ⟨hI_N_124, hG_N_124, hC_N_124, hgo_N_124⟩ := q_125
          have hF_N_124 : Fr f_e_see3 M N_124 := Fr.c hF_M hG_N_124 rfl
          have hE_N_124 : Cf (SWk M (M (M c0 5) 6)) M N_124 := Cf.c hE_M hC_N_124 (fun y hy => hy)
          refine kx_aload_n 90 F 0 dX11_see_89 rfl rfl rfl ?_
          refine kx_aload_n 91 F 2 dX11_see_90 rfl rfl rfl ?_
          refine kx_aload 93 F 4 dX11_see_91 rfl rfl ?_
          refine kx_Vi 96 (ci := 0) F (As := [vR G (M (M c0 5) 5)]) (st := [vR G c0]) vd_X11_234 (e_isTaken3 G l N_124 (M (M c0 5) 6) (M (M c0 5) 5) hI_N_124 hk_2 hk_106) hk_2 rfl rfl rfl ⟨by decide, by decide⟩ rfl rfl (Nat.le_of_ble_eq_true rfl) dX11_see_93 rfl ?_
          intro r_126 N_127 q_128
          obtain ⟨rfl, q_128c⟩ := q_128
          rcases q_128c with q_128c | q_128c
          · refine kx_if_eq 99 F 103 dX11_see_96 (by decide) rfl (by omega) (fun h_129 => (by exfalso; omega)) (fun h_129 => ?_)
            refine kx_iconst 100 F dX11_see_99 rfl ?_
            refine kx_goto 104 F dX11_see_100 (by decide) ?_
            refine kx_Vi 107 (ci := 0) F (As := [vI 1]) (st := []) vd_X11_145 (c_X11_answer G l N_124 c0 1 hI_N_124 hk_c0 (by omega)) hk_c0 rfl rfl rfl ⟨by decide, by decide⟩ rfl rfl (Nat.le_of_ble_eq_true rfl) dX11_see_104 rfl ?_
            intro r_130 N_131 q_132
            obtain ⟨hI_N_131, hG_N_131, q_132c⟩ := q_132
            have hF_N_131 : Fr f_e_see3 M N_131 := Fr.c hF_N_124 hG_N_131 rfl
            have hE_N_131 : Cf (SWk M (M (M c0 5) 6)) M N_131 := Cf.fr hE_N_124 hG_N_131 rfl
            have e_133 : (N_124 (M (M c0 5) 5) 3) = (M (M (M c0 5) 5) 3) := by rw [Fr.e hG_N_124 hk_106 _ rfl]
            have h_134 := Inv.g hI_M hk_106 rfl 3 (a := 0) (b := 7) rfl rfl
            have hws := zWN.see hgo_N_124 (Fr.e hF_N_124 hk_2 0 rfl) hI_M hk_2 hA hW (by omega) hb4 ⟨by omega, by omega⟩ (zsr.of (by omega))
            have hw7 : N_124 (M (M c0 5) 6) 3 = zSEg q g a1 7 := (hws.2 (by have h := hws.1; have e := Fr.e hF_N_124 hk_2 0 rfl; omega)).2.2.2.1
            have hws4 : zSEg q g a1 4 = g 4 := by have h := hws.1; have e := Fr.e hF_N_124 hk_2 0 rfl; omega
            have hzw : zand (N_124 (M (M c0 5) 6) 3) (N_124 (M (M c0 5) 5) 3) = zand (zSEg q g a1 7) (q (85 * zSEg q g a1 4 + 103)) := by rw [hw7, hws4, show 85 * g 4 + 103 = 188 by omega, show N_124 (M (M c0 5) 5) 3 = q 188 by omega]
            exact kx_iret F hQ ⟨hI_N_131, hF_N_131, (by omega), hE_N_131, ⟨⟨zSEg q g a1, Or.inl ⟨⟨by omega, by omega, by omega, fun _ => by have h62 := hwg.2.2.1; omega⟩, rfl, Or.inl ⟨by omega, by omega⟩⟩, (zWN.fr hws hI_N_124 hk_2 hG_N_131 rfl)⟩, fun h => absurd ⟨by omega, by omega, by omega, fun _ => by have h62 := hwg.2.2.1; omega⟩ h⟩⟩ dX11_see_107
          · refine kx_if_eq 99 F 103 dX11_see_96 (by decide) rfl (by omega) (fun h_135 => ?_) (fun h_135 => (by exfalso; omega))
            refine kx_iconst 104 F dX11_see_103 rfl ?_
            refine kx_Vi 107 (ci := 0) F (As := [vI 0]) (st := []) vd_X11_145 (c_X11_answer G l N_124 c0 0 hI_N_124 hk_c0 (by omega)) hk_c0 rfl rfl rfl ⟨by decide, by decide⟩ rfl rfl (Nat.le_of_ble_eq_true rfl) dX11_see_104 rfl ?_
            intro r_136 N_137 q_138
            obtain ⟨hI_N_137, hG_N_137, q_138c⟩ := q_138
            have hF_N_137 : Fr f_e_see3 M N_137 := Fr.c hF_N_124 hG_N_137 rfl
            have hE_N_137 : Cf (SWk M (M (M c0 5) 6)) M N_137 := Cf.fr hE_N_124 hG_N_137 rfl
            have e_139 : (N_124 (M (M c0 5) 5) 3) = (M (M (M c0 5) 5) 3) := by rw [Fr.e hG_N_124 hk_106 _ rfl]
            have h_140 := Inv.g hI_M hk_106 rfl 3 (a := 0) (b := 7) rfl rfl
            have hws := zWN.see hgo_N_124 (Fr.e hF_N_124 hk_2 0 rfl) hI_M hk_2 hA hW (by omega) hb4 ⟨by omega, by omega⟩ (zsr.of (by omega))
            have hw7 : N_124 (M (M c0 5) 6) 3 = zSEg q g a1 7 := (hws.2 (by have h := hws.1; have e := Fr.e hF_N_124 hk_2 0 rfl; omega)).2.2.2.1
            have hws4 : zSEg q g a1 4 = g 4 := by have h := hws.1; have e := Fr.e hF_N_124 hk_2 0 rfl; omega
            have hzw : zand (N_124 (M (M c0 5) 6) 3) (N_124 (M (M c0 5) 5) 3) = zand (zSEg q g a1 7) (q (85 * zSEg q g a1 4 + 103)) := by rw [hw7, hws4, show 85 * g 4 + 103 = 188 by omega, show N_124 (M (M c0 5) 5) 3 = q 188 by omega]
            exact kx_iret F hQ ⟨hI_N_137, hF_N_137, (by omega), hE_N_137, ⟨⟨zSEg q g a1, Or.inl ⟨⟨by omega, by omega, by omega, fun _ => by have h62 := hwg.2.2.1; omega⟩, rfl, Or.inr ⟨by omega, by omega⟩⟩, (zWN.fr hws hI_N_124 hk_2 hG_N_137 rfl)⟩, fun h => absurd ⟨by omega, by omega, by omega, fun _ => by have h62 := hwg.2.2.1; omega⟩ h⟩⟩ dX11_see_107
    · refine kx_aload_n 34 F 0 dX11_see_33 rfl rfl rfl ?_
      refine kx_bipush 36 F dX11_see_34 (by decide) rfl ?_
      refine kx_Vi 39 (ci := 0) F (As := [vI 6]) (st := []) vd_X11_110 (c_X11_refuse G l M c0 6 hI_M hk_c0 (by omega)) hk_c0 rfl rfl rfl ⟨by decide, by decide⟩ rfl rfl (Nat.le_of_ble_eq_true rfl) dX11_see_36 rfl ?_
      intro r_141 N_142 q_143
      obtain ⟨hI_N_142, hG_N_142, q_143c⟩ := q_143
      have hF_N_142 : Fr f_e_see3 M N_142 := Fr.c hF_M hG_N_142 rfl
      have hE_N_142 : Cf (SWk M (M (M c0 5) 6)) M N_142 := Cf.fr hE_M hG_N_142 rfl
      subst q_143c
      exact kx_iret F hQ ⟨hI_N_142, hF_N_142, (by omega), hE_N_142, ⟨⟨g, Or.inr ⟨fun h => by unfold zSEk at h; have h62 := hW.2; have h63 : 0 ≤ g 4 → M (M (M c0 5) 6) 2 = g 6 := fun z => (hW.2 z).2.2.1; omega, by omega, rfl⟩, zWN.fr hW hI_M hk_2 hG_N_142 rfl⟩, fun _ => Cf.fr (Cf.rf _ M) hG_N_142 rfl⟩⟩ dX11_see_39
  · refine kx_if_ne 11 F 17 dX11_see_8 (by decide) rfl (by omega) (fun h_144 => (by exfalso; omega)) (fun h_144 => ?_)
    refine kx_aload_n 12 F 0 dX11_see_11 rfl rfl rfl ?_
    refine kx_iconst 13 F dX11_see_12 rfl ?_
    refine kx_Vi 16 (ci := 0) F (As := [vI 1]) (st := []) vd_X11_110 (c_X11_refuse G l M c0 1 hI_M hk_c0 (by omega)) hk_c0 rfl rfl rfl ⟨by decide, by decide⟩ rfl rfl (Nat.le_of_ble_eq_true rfl) dX11_see_13 rfl ?_
    intro r_145 N_146 q_147
    obtain ⟨hI_N_146, hG_N_146, q_147c⟩ := q_147
    have hF_N_146 : Fr f_e_see3 M N_146 := Fr.c hF_M hG_N_146 rfl
    have hE_N_146 : Cf (SWk M (M (M c0 5) 6)) M N_146 := Cf.fr hE_M hG_N_146 rfl
    subst q_147c
    exact kx_iret F hQ ⟨hI_N_146, hF_N_146, (by omega), hE_N_146, ⟨⟨g, Or.inr ⟨fun h => by unfold zSEk at h; have h62 := hW.2; have h63 : 0 ≤ g 4 → M (M (M c0 5) 6) 2 = g 6 := fun z => (hW.2 z).2.2.1; omega, by omega, rfl⟩, zWN.fr hW hI_M hk_2 hG_N_146 rfl⟩, fun _ => Cf.fr (Cf.rf _ M) hG_N_146 rfl⟩⟩ dX11_see_16
  · refine kx_if_ne 11 F 17 dX11_see_8 (by decide) rfl (by omega) (fun h_148 => (by exfalso; omega)) (fun h_148 => ?_)
    refine kx_aload_n 12 F 0 dX11_see_11 rfl rfl rfl ?_
    refine kx_iconst 13 F dX11_see_12 rfl ?_
    refine kx_Vi 16 (ci := 0) F (As := [vI 1]) (st := []) vd_X11_110 (c_X11_refuse G l M c0 1 hI_M hk_c0 (by omega)) hk_c0 rfl rfl rfl ⟨by decide, by decide⟩ rfl rfl (Nat.le_of_ble_eq_true rfl) dX11_see_13 rfl ?_
    intro r_149 N_150 q_151
    obtain ⟨hI_N_150, hG_N_150, q_151c⟩ := q_151
    have hF_N_150 : Fr f_e_see3 M N_150 := Fr.c hF_M hG_N_150 rfl
    have hE_N_150 : Cf (SWk M (M (M c0 5) 6)) M N_150 := Cf.fr hE_M hG_N_150 rfl
    subst q_151c
    exact kx_iret F hQ ⟨hI_N_150, hF_N_150, (by omega), hE_N_150, ⟨⟨g, Or.inr ⟨fun h => by unfold zSEk at h; have h62 := hW.2; have h63 : 0 ≤ g 4 → M (M (M c0 5) 6) 2 = g 6 := fun z => (hW.2 z).2.2.1; omega, by omega, rfl⟩, zWN.fr hW hI_M hk_2 hG_N_150 rfl⟩, fun _ => Cf.fr (Cf.rf _ M) hG_N_150 rfl⟩⟩ dX11_see_16
abbrev f_e_seen3 : List (Nat × Int) := [(62, 0)]
set_option maxHeartbeats 4000000 in
set_option maxRecDepth 100000 in
theorem e_seen3 (G : KG) (l : Launch) (M : Mem) (c0 : Int) (a1 : Int) (hI_M : Inv false M) (hk_c0 : kd c0 = 62) (hpre : -2147483648 ≤ a1 ∧ a1 ≤ 2147483647) (q : Int → Int) (hS : zSN M (M c0 5) q) (hU : zSU M (M c0 5) q) (g : Int → Int) (hW : zWN M (M (M c0 5) 6) g) (hg3 : g 3 = q 3) : KC false G l yX11_seen cX11_seen 3 (some .int) (1, 22) [vR G c0, vI a1] M (fun A => kQi false G A (fun (r : Int) (N : Mem) => Inv false N ∧ Fr f_e_seen3 M N ∧ (r ≥ -2147483648 ∧ r ≤ 2147483647) ∧ (zSN4 q g a1 r))) := by
  refine kx_met (lo := [some (vR G c0), some (vI a1), none]) (by decide) (Nat.le_of_ble_eq_true rfl) rfl ?_
  intro X F hQ
  have hF_M : Fr f_e_seen3 M M := Fr.rf _ _
  have hk_1 : kd (M c0 5) = 12 := Inv.r hI_M hk_c0 rfl 5 rfl rfl
  have hSn := hS.u
  have hk_2 : kd (M (M c0 5) 6) = 8 := Inv.r hI_M hk_1 rfl 6 rfl rfl
  have hw4 := hW.1
  have hw4r := Inv.g hI_M hk_2 rfl 0 (a := -1) (b := 1) rfl rfl
  refine kx_iload_n 1 F 1 dX11_seen_0 rfl rfl rfl ?_
  refine kx_iconst 2 F dX11_seen_1 rfl ?_
  refine kx_iconst 3 F dX11_seen_2 rfl ?_
  refine kx_Si 6 F (As := [vI a1, vI 0, vI 4]) (st := []) sd_X11_87 (e_X11_within G l M a1 0 4 hI_M (by omega)) ⟨by decide, by decide⟩ rfl rfl (Nat.le_of_ble_eq_true rfl) dX11_seen_3 rfl ?_
  intro r_3 N_4 q_5
  obtain ⟨rfl, q_5c⟩ := q_5
  rcases q_5c with q_5c | q_5c | q_5c
  · refine kx_if_ne 9 F 15 dX11_seen_6 (by decide) rfl (by omega) (fun h_6 => ?_) (fun h_6 => (by exfalso; omega))
    refine kx_aload_n 16 F 0 dX11_seen_15 rfl rfl rfl ?_
    refine kx_getr 19 F fl_X11_26 hk_c0 rfl rfl (j := 5) rfl dX11_seen_16 (v := (M c0 5)) rfl rfl ?_
    refine kx_getr 22 F fl_X11_367 hk_1 rfl rfl (j := 6) rfl dX11_seen_19 (v := (M (M c0 5) 6)) rfl rfl ?_
    refine kx_astore_n 23 F 2 (lo' := [some (vR G c0), some (vI a1), some (vR G (M (M c0 5) 6))]) dX11_seen_22 rfl (by decide) rfl rfl rfl ?_
    refine kx_aload_n 24 F 2 dX11_seen_23 rfl rfl rfl ?_
    refine kx_geti 27 F fl_X11_372 hk_2 rfl rfl (j := 0) rfl dX11_seen_24 (v := (M (M (M c0 5) 6) 0)) rfl rfl ?_
    have h_7 := Inv.g hI_M hk_2 rfl 0 (a := (-1)) (b := 1) rfl rfl
    refine kx_iconst 28 F dX11_seen_27 rfl ?_
    refine kx_icmp_ne 31 F 38 dX11_seen_28 (by decide) rfl (by omega) (by decide) (fun h_8 => ?_) (fun h_8 => ?_)
    · refine kx_iload_n 39 F 1 dX11_seen_38 rfl rfl rfl ?_
      have h_9 : a1 = 0 ∨ a1 = 1 ∨ a1 = 2 ∨ a1 = 3 ∨ (a1 < 0 ∨ 3 < a1) := by omega
      rcases h_9 with h_9 | h_9 | h_9 | h_9 | h_9
      · rw [show vI a1 = vI 0 by rw [h_9]]
        refine kx_tableIn 68 F (by decide) dX11_seen_39 (by decide) rfl (by decide) ?_
        refine kx_aload_n 69 F 0 dX11_seen_68 rfl rfl rfl ?_
        refine kx_aload_n 70 F 2 dX11_seen_69 rfl rfl rfl ?_
        refine kx_geti 73 F fl_X11_372 hk_2 rfl rfl (j := 0) rfl dX11_seen_70 (v := (M (M (M c0 5) 6) 0)) rfl rfl ?_
        refine kx_Vi 76 (ci := 0) F (As := [vI (M (M (M c0 5) 6) 0)]) (st := []) vd_X11_145 (c_X11_answer G l M c0 (M (M (M c0 5) 6) 0) hI_M hk_c0 (by omega)) hk_c0 rfl rfl rfl ⟨by decide, by decide⟩ rfl rfl (Nat.le_of_ble_eq_true rfl) dX11_seen_73 rfl ?_
        intro r_10 N_11 q_12
        obtain ⟨hI_N_11, hG_N_11, q_12c⟩ := q_12
        have hF_N_11 : Fr f_e_seen3 M N_11 := Fr.c hF_M hG_N_11 rfl
        have hwg := hW.2 (by omega)
        have hwu := hwg.2.u
        exact kx_iret F hQ ⟨hI_N_11, hF_N_11, (by omega), (Or.inl ⟨⟨by omega, by omega, by omega⟩, Or.inl ⟨by omega, by omega⟩⟩)⟩ dX11_seen_76
      · rw [show vI a1 = vI 1 by rw [h_9]]
        refine kx_tableIn 77 F (by decide) dX11_seen_39 (by decide) rfl (by decide) ?_
        refine kx_aload_n 78 F 0 dX11_seen_77 rfl rfl rfl ?_
        refine kx_aload_n 79 F 2 dX11_seen_78 rfl rfl rfl ?_
        refine kx_geti 82 F fl_X11_379 hk_2 rfl rfl (j := 1) rfl dX11_seen_79 (v := (M (M (M c0 5) 6) 1)) rfl rfl ?_
        have h_13 := Inv.g hI_M hk_2 rfl 1 (a := (-2147483648)) (b := 2147483647) rfl rfl
        refine kx_Vi 85 (ci := 0) F (As := [vI (M (M (M c0 5) 6) 1)]) (st := []) vd_X11_145 (c_X11_answer G l M c0 (M (M (M c0 5) 6) 1) hI_M hk_c0 (by omega)) hk_c0 rfl rfl rfl ⟨by decide, by decide⟩ rfl rfl (Nat.le_of_ble_eq_true rfl) dX11_seen_82 rfl ?_
        intro r_14 N_15 q_16
        obtain ⟨hI_N_15, hG_N_15, q_16c⟩ := q_16
        have hF_N_15 : Fr f_e_seen3 M N_15 := Fr.c hF_M hG_N_15 rfl
        have hwg := hW.2 (by omega)
        have hwu := hwg.2.u
        exact kx_iret F hQ ⟨hI_N_15, hF_N_15, (by omega), (Or.inl ⟨⟨by omega, by omega, by omega⟩, Or.inr (Or.inl ⟨by omega, by omega⟩)⟩)⟩ dX11_seen_85
      · rw [show vI a1 = vI 2 by rw [h_9]]
        refine kx_tableIn 86 F (by decide) dX11_seen_39 (by decide) rfl (by decide) ?_
        refine kx_aload_n 87 F 0 dX11_seen_86 rfl rfl rfl ?_
        refine kx_aload_n 88 F 2 dX11_seen_87 rfl rfl rfl ?_
        refine kx_geti 91 F fl_X11_375 hk_2 rfl rfl (j := 2) rfl dX11_seen_88 (v := (M (M (M c0 5) 6) 2)) rfl rfl ?_
        have h_17 := Inv.g hI_M hk_2 rfl 2 (a := 0) (b := 30) rfl rfl
        refine kx_Vi 94 (ci := 0) F (As := [vI (M (M (M c0 5) 6) 2)]) (st := []) vd_X11_145 (c_X11_answer G l M c0 (M (M (M c0 5) 6) 2) hI_M hk_c0 (by omega)) hk_c0 rfl rfl rfl ⟨by decide, by decide⟩ rfl rfl (Nat.le_of_ble_eq_true rfl) dX11_seen_91 rfl ?_
        intro r_18 N_19 q_20
        obtain ⟨hI_N_19, hG_N_19, q_20c⟩ := q_20
        have hF_N_19 : Fr f_e_seen3 M N_19 := Fr.c hF_M hG_N_19 rfl
        have hwg := hW.2 (by omega)
        have hwu := hwg.2.u
        exact kx_iret F hQ ⟨hI_N_19, hF_N_19, (by omega), (Or.inl ⟨⟨by omega, by omega, by omega⟩, Or.inr (Or.inr (Or.inl ⟨by omega, by omega⟩))⟩)⟩ dX11_seen_94
      · rw [show vI a1 = vI 3 by rw [h_9]]
        refine kx_tableIn 95 F (by decide) dX11_seen_39 (by decide) rfl (by decide) ?_
        refine kx_aload_n 96 F 0 dX11_seen_95 rfl rfl rfl ?_
        refine kx_aload_n 97 F 2 dX11_seen_96 rfl rfl rfl ?_
        refine kx_geti 100 F fl_X11_238 hk_2 rfl rfl (j := 3) rfl dX11_seen_97 (v := (M (M (M c0 5) 6) 3)) rfl rfl ?_
        have h_21 := Inv.g hI_M hk_2 rfl 3 (a := 0) (b := 7) rfl rfl
        refine kx_Vi 103 (ci := 0) F (As := [vI (M (M (M c0 5) 6) 3)]) (st := []) vd_X11_145 (c_X11_answer G l M c0 (M (M (M c0 5) 6) 3) hI_M hk_c0 (by omega)) hk_c0 rfl rfl rfl ⟨by decide, by decide⟩ rfl rfl (Nat.le_of_ble_eq_true rfl) dX11_seen_100 rfl ?_
        intro r_22 N_23 q_24
        obtain ⟨hI_N_23, hG_N_23, q_24c⟩ := q_24
        have hF_N_23 : Fr f_e_seen3 M N_23 := Fr.c hF_M hG_N_23 rfl
        have hwg := hW.2 (by omega)
        have hwu := hwg.2.u
        exact kx_iret F hQ ⟨hI_N_23, hF_N_23, (by omega), (Or.inl ⟨⟨by omega, by omega, by omega⟩, Or.inr (Or.inr (Or.inr (Or.inl ⟨by omega, by omega⟩)))⟩)⟩ dX11_seen_103
      · refine kx_tableOut 104 F (by omega) dX11_seen_39 h_9 (by decide) ?_
        refine kx_aload_n 105 F 0 dX11_seen_104 rfl rfl rfl ?_
        refine kx_aload_n 106 F 2 dX11_seen_105 rfl rfl rfl ?_
        refine kx_aload_n 107 F 0 dX11_seen_106 rfl rfl rfl ?_
        refine kx_getr 110 F fl_X11_26 hk_c0 rfl rfl (j := 5) rfl dX11_seen_107 (v := (M c0 5)) rfl rfl ?_
        refine kx_aload_n 111 F 2 dX11_seen_110 rfl rfl rfl ?_
        refine kx_geti 114 F fl_X11_372 hk_2 rfl rfl (j := 0) rfl dX11_seen_111 (v := (M (M (M c0 5) 6) 0)) rfl rfl ?_
        refine kx_Vr 117 (ci := 0) F (As := [vI (M (M (M c0 5) 6) 0)]) (st := [vR G (M (M c0 5) 6), vR G c0]) vd_X11_164 (c_X5_pickE G l M (M c0 5) (M (M (M c0 5) 6) 0) hI_M hk_1 (by omega)) hk_1 rfl rfl rfl ⟨by decide, by decide⟩ rfl rfl (Nat.le_of_ble_eq_true rfl) dX11_seen_114 rfl ?_
        intro r_25 N_26 q_27
        obtain ⟨rfl, hk_28, q_27d⟩ := q_27
        rcases q_27d with ⟨q_27c, rfl⟩ | ⟨q_27c, rfl⟩
        · have hg4 : g 4 = 0 := by omega
          have hwg := hW.2 (by omega)
          have hb4 : (100 : Int) = 85 * g 4 + 100 := by omega
          have hA := hU.1 (by omega)
          have hn3 : M (M (M c0 5) 4) 3 = q 103 := hA.n (d := 3) (by decide) rfl
          refine kx_Vi 120 (ci := 0) F (As := [vR G (M (M c0 5) 4)]) (st := [vR G c0]) vd_X11_234 (e_isTaken3 G l M (M (M c0 5) 6) (M (M c0 5) 4) hI_M hk_2 hk_28) hk_2 rfl rfl rfl ⟨by decide, by decide⟩ rfl rfl (Nat.le_of_ble_eq_true rfl) dX11_seen_117 rfl ?_
          intro r_29 N_30 q_31
          obtain ⟨rfl, q_31c⟩ := q_31
          rcases q_31c with q_31c | q_31c
          · refine kx_if_eq 123 F 127 dX11_seen_120 (by decide) rfl (by omega) (fun h_32 => (by exfalso; omega)) (fun h_32 => ?_)
            refine kx_iconst 124 F dX11_seen_123 rfl ?_
            refine kx_goto 128 F dX11_seen_124 (by decide) ?_
            refine kx_Vi 131 (ci := 0) F (As := [vI 1]) (st := []) vd_X11_145 (c_X11_answer G l M c0 1 hI_M hk_c0 (by omega)) hk_c0 rfl rfl rfl ⟨by decide, by decide⟩ rfl rfl (Nat.le_of_ble_eq_true rfl) dX11_seen_128 rfl ?_
            intro r_33 N_34 q_35
            obtain ⟨hI_N_34, hG_N_34, q_35c⟩ := q_35
            have hF_N_34 : Fr f_e_seen3 M N_34 := Fr.c hF_M hG_N_34 rfl
            have h_36 := Inv.g hI_M hk_28 rfl 3 (a := 0) (b := 7) rfl rfl
            have hw7 : M (M (M c0 5) 6) 3 = g 7 := hwg.2.2.2.1
            have hzw : zand (M (M (M c0 5) 6) 3) (M (M (M c0 5) 4) 3) = zand (g 7) (q (85 * g 4 + 103)) := by rw [hw7, show 85 * g 4 + 103 = 103 by omega, hn3]
            exact kx_iret F hQ ⟨hI_N_34, hF_N_34, (by omega), (Or.inl ⟨⟨by omega, by omega, by omega⟩, Or.inr (Or.inr (Or.inr (Or.inr ⟨by omega, Or.inl ⟨by omega, by omega⟩⟩)))⟩)⟩ dX11_seen_131
          · refine kx_if_eq 123 F 127 dX11_seen_120 (by decide) rfl (by omega) (fun h_37 => ?_) (fun h_37 => (by exfalso; omega))
            refine kx_iconst 128 F dX11_seen_127 rfl ?_
            refine kx_Vi 131 (ci := 0) F (As := [vI 0]) (st := []) vd_X11_145 (c_X11_answer G l M c0 0 hI_M hk_c0 (by omega)) hk_c0 rfl rfl rfl ⟨by decide, by decide⟩ rfl rfl (Nat.le_of_ble_eq_true rfl) dX11_seen_128 rfl ?_
            intro r_38 N_39 q_40
            obtain ⟨hI_N_39, hG_N_39, q_40c⟩ := q_40
            have hF_N_39 : Fr f_e_seen3 M N_39 := Fr.c hF_M hG_N_39 rfl
            have h_41 := Inv.g hI_M hk_28 rfl 3 (a := 0) (b := 7) rfl rfl
            have hw7 : M (M (M c0 5) 6) 3 = g 7 := hwg.2.2.2.1
            have hzw : zand (M (M (M c0 5) 6) 3) (M (M (M c0 5) 4) 3) = zand (g 7) (q (85 * g 4 + 103)) := by rw [hw7, show 85 * g 4 + 103 = 103 by omega, hn3]
            exact kx_iret F hQ ⟨hI_N_39, hF_N_39, (by omega), (Or.inl ⟨⟨by omega, by omega, by omega⟩, Or.inr (Or.inr (Or.inr (Or.inr ⟨by omega, Or.inr ⟨by omega, by omega⟩⟩)))⟩)⟩ dX11_seen_131
        · have hg4 : g 4 = 1 := by omega
          have hwg := hW.2 (by omega)
          have hb4 : (185 : Int) = 85 * g 4 + 100 := by omega
          have hA := hU.2 (by omega)
          have hn3 : M (M (M c0 5) 5) 3 = q 188 := hA.n (d := 3) (by decide) rfl
          refine kx_Vi 120 (ci := 0) F (As := [vR G (M (M c0 5) 5)]) (st := [vR G c0]) vd_X11_234 (e_isTaken3 G l M (M (M c0 5) 6) (M (M c0 5) 5) hI_M hk_2 hk_28) hk_2 rfl rfl rfl ⟨by decide, by decide⟩ rfl rfl (Nat.le_of_ble_eq_true rfl) dX11_seen_117 rfl ?_
          intro r_42 N_43 q_44
          obtain ⟨rfl, q_44c⟩ := q_44
          rcases q_44c with q_44c | q_44c
          · refine kx_if_eq 123 F 127 dX11_seen_120 (by decide) rfl (by omega) (fun h_45 => (by exfalso; omega)) (fun h_45 => ?_)
            refine kx_iconst 124 F dX11_seen_123 rfl ?_
            refine kx_goto 128 F dX11_seen_124 (by decide) ?_
            refine kx_Vi 131 (ci := 0) F (As := [vI 1]) (st := []) vd_X11_145 (c_X11_answer G l M c0 1 hI_M hk_c0 (by omega)) hk_c0 rfl rfl rfl ⟨by decide, by decide⟩ rfl rfl (Nat.le_of_ble_eq_true rfl) dX11_seen_128 rfl ?_
            intro r_46 N_47 q_48
            obtain ⟨hI_N_47, hG_N_47, q_48c⟩ := q_48
            have hF_N_47 : Fr f_e_seen3 M N_47 := Fr.c hF_M hG_N_47 rfl
            have h_49 := Inv.g hI_M hk_28 rfl 3 (a := 0) (b := 7) rfl rfl
            have hw7 : M (M (M c0 5) 6) 3 = g 7 := hwg.2.2.2.1
            have hzw : zand (M (M (M c0 5) 6) 3) (M (M (M c0 5) 5) 3) = zand (g 7) (q (85 * g 4 + 103)) := by rw [hw7, show 85 * g 4 + 103 = 188 by omega, hn3]
            exact kx_iret F hQ ⟨hI_N_47, hF_N_47, (by omega), (Or.inl ⟨⟨by omega, by omega, by omega⟩, Or.inr (Or.inr (Or.inr (Or.inr ⟨by omega, Or.inl ⟨by omega, by omega⟩⟩)))⟩)⟩ dX11_seen_131
          · refine kx_if_eq 123 F 127 dX11_seen_120 (by decide) rfl (by omega) (fun h_50 => ?_) (fun h_50 => (by exfalso; omega))
            refine kx_iconst 128 F dX11_seen_127 rfl ?_
            refine kx_Vi 131 (ci := 0) F (As := [vI 0]) (st := []) vd_X11_145 (c_X11_answer G l M c0 0 hI_M hk_c0 (by omega)) hk_c0 rfl rfl rfl ⟨by decide, by decide⟩ rfl rfl (Nat.le_of_ble_eq_true rfl) dX11_seen_128 rfl ?_
            intro r_51 N_52 q_53
            obtain ⟨hI_N_52, hG_N_52, q_53c⟩ := q_53
            have hF_N_52 : Fr f_e_seen3 M N_52 := Fr.c hF_M hG_N_52 rfl
            have h_54 := Inv.g hI_M hk_28 rfl 3 (a := 0) (b := 7) rfl rfl
            have hw7 : M (M (M c0 5) 6) 3 = g 7 := hwg.2.2.2.1
            have hzw : zand (M (M (M c0 5) 6) 3) (M (M (M c0 5) 5) 3) = zand (g 7) (q (85 * g 4 + 103)) := by rw [hw7, show 85 * g 4 + 103 = 188 by omega, hn3]
            exact kx_iret F hQ ⟨hI_N_52, hF_N_52, (by omega), (Or.inl ⟨⟨by omega, by omega, by omega⟩, Or.inr (Or.inr (Or.inr (Or.inr ⟨by omega, Or.inr ⟨by omega, by omega⟩⟩)))⟩)⟩ dX11_seen_131
    · refine kx_aload_n 32 F 0 dX11_seen_31 rfl rfl rfl ?_
      refine kx_bipush 34 F dX11_seen_32 (by decide) rfl ?_
      refine kx_Vi 37 (ci := 0) F (As := [vI 6]) (st := []) vd_X11_110 (c_X11_refuse G l M c0 6 hI_M hk_c0 (by omega)) hk_c0 rfl rfl rfl ⟨by decide, by decide⟩ rfl rfl (Nat.le_of_ble_eq_true rfl) dX11_seen_34 rfl ?_
      intro r_55 N_56 q_57
      obtain ⟨hI_N_56, hG_N_56, q_57c⟩ := q_57
      have hF_N_56 : Fr f_e_seen3 M N_56 := Fr.c hF_M hG_N_56 rfl
      subst q_57c
      exact kx_iret F hQ ⟨hI_N_56, hF_N_56, (by omega), (Or.inr ⟨fun h => by omega, by omega⟩)⟩ dX11_seen_37
  · refine kx_if_ne 9 F 15 dX11_seen_6 (by decide) rfl (by omega) (fun h_58 => (by exfalso; omega)) (fun h_58 => ?_)
    refine kx_aload_n 10 F 0 dX11_seen_9 rfl rfl rfl ?_
    refine kx_iconst 11 F dX11_seen_10 rfl ?_
    refine kx_Vi 14 (ci := 0) F (As := [vI 1]) (st := []) vd_X11_110 (c_X11_refuse G l M c0 1 hI_M hk_c0 (by omega)) hk_c0 rfl rfl rfl ⟨by decide, by decide⟩ rfl rfl (Nat.le_of_ble_eq_true rfl) dX11_seen_11 rfl ?_
    intro r_59 N_60 q_61
    obtain ⟨hI_N_60, hG_N_60, q_61c⟩ := q_61
    have hF_N_60 : Fr f_e_seen3 M N_60 := Fr.c hF_M hG_N_60 rfl
    subst q_61c
    exact kx_iret F hQ ⟨hI_N_60, hF_N_60, (by omega), (Or.inr ⟨fun h => by omega, by omega⟩)⟩ dX11_seen_14
  · refine kx_if_ne 9 F 15 dX11_seen_6 (by decide) rfl (by omega) (fun h_62 => (by exfalso; omega)) (fun h_62 => ?_)
    refine kx_aload_n 10 F 0 dX11_seen_9 rfl rfl rfl ?_
    refine kx_iconst 11 F dX11_seen_10 rfl ?_
    refine kx_Vi 14 (ci := 0) F (As := [vI 1]) (st := []) vd_X11_110 (c_X11_refuse G l M c0 1 hI_M hk_c0 (by omega)) hk_c0 rfl rfl rfl ⟨by decide, by decide⟩ rfl rfl (Nat.le_of_ble_eq_true rfl) dX11_seen_11 rfl ?_
    intro r_63 N_64 q_65
    obtain ⟨hI_N_64, hG_N_64, q_65c⟩ := q_65
    have hF_N_64 : Fr f_e_seen3 M N_64 := Fr.c hF_M hG_N_64 rfl
    subst q_65c
    exact kx_iret F hQ ⟨hI_N_64, hF_N_64, (by omega), (Or.inr ⟨fun h => by omega, by omega⟩)⟩ dX11_seen_14
abbrev f_e_X10_become4 : List (Nat × Int) := [(8, 0), (8, 1), (8, 2), (8, 3), (8, 4), (9, -1), (10, -1), (11, -1)]
set_option maxHeartbeats 4000000 in
set_option maxRecDepth 100000 in
theorem e_X10_become4 (G : KG) (l : Launch) (M : Mem) (c0 : Int) (c1 : Int) (hI_M : Inv false M) (hk_c0 : kd c0 = 8) (hk_c1 : kd c1 = 8) : KC false G l yX10_become cX10_become 2 none (1, 18) [vR G c0, vR G c1] M (fun A => kQv false G A (fun (N : Mem) => Inv false N ∧ Fr f_e_X10_become4 M N ∧ ((N c0 0) = (M c1 0) ∧ (N c0 1) = (M c1 1) ∧ (N c0 2) = (M c1 2) ∧ (N c0 3) = (M c1 3) ∧ (N c0 4) = (M c1 4)) ∧ Cf (SWk M c0) M N ∧ (zWBE N M c0 c1))) := by
  refine kx_met (lo := [some (vR G c0), some (vR G c1)]) (by decide) (Nat.le_of_ble_eq_true rfl) rfl ?_
  intro X F hQ
  have hF_M : Fr f_e_X10_become4 M M := Fr.rf _ _
  have hE_M : Cf (SWk M c0) M M := Cf.rf _ _
  have hk_1 : kd (M c0 5) = 9 := Inv.r hI_M hk_c0 rfl 5 rfl rfl
  have hk_2 : kd (M c0 6) = 10 := Inv.r hI_M hk_c0 rfl 6 rfl rfl
  have hk_3 : kd (M c0 7) = 11 := Inv.r hI_M hk_c0 rfl 7 rfl rfl
  have hk_4 : kd (M c1 5) = 9 := Inv.r hI_M hk_c1 rfl 5 rfl rfl
  have hk_5 : kd (M c1 6) = 10 := Inv.r hI_M hk_c1 rfl 6 rfl rfl
  have hk_6 : kd (M c1 7) = 11 := Inv.r hI_M hk_c1 rfl 7 rfl rfl
  refine kx_aload_n 1 F 0 dX10_become_0 rfl rfl rfl ?_
  refine kx_aload_n 2 F 1 dX10_become_1 rfl rfl rfl ?_
  refine kx_geti 5 F fl_X10_9 hk_c1 rfl rfl (j := 0) rfl dX10_become_2 (v := (M c1 0)) rfl rfl ?_
  have h_7 := Inv.g hI_M hk_c1 rfl 0 (a := (-1)) (b := 1) rfl rfl
  refine kx_puti 8 F fw_X10_9 rfl hk_c0 rfl rfl (j := 0) rfl dX10_become_5 rfl ?_
  intro N_8 hM_N_8
  have hI_N_8 : Inv false N_8 := Inv.u hI_M hM_N_8 hk_c0 (a := (-1)) (b := 1) rfl rfl rfl (by omega)
  have hF_N_8 : Fr f_e_X10_become4 M N_8 := Fr.u hF_M hM_N_8 hk_c0 rfl
  have hE_N_8 : Cf (SWk M c0) M N_8 := Cf.st hE_M hM_N_8 (Or.inl rfl)
  refine kx_aload_n 9 F 0 dX10_become_8 rfl rfl rfl ?_
  refine kx_aload_n 10 F 1 dX10_become_9 rfl rfl rfl ?_
  refine kx_geti 13 F fl_X10_25 hk_c1 rfl rfl (j := 1) rfl dX10_become_10 (v := (M c1 1)) (by rw [hM_N_8, mu_i (by omega)]) rfl ?_
  have h_9 := Inv.g hI_M hk_c1 rfl 1 (a := (-2147483648)) (b := 2147483647) rfl rfl
  refine kx_puti 16 F fw_X10_25 rfl hk_c0 rfl rfl (j := 1) rfl dX10_become_13 rfl ?_
  intro N_10 hM_N_10
  have hI_N_10 : Inv false N_10 := Inv.u hI_N_8 hM_N_10 hk_c0 (a := (-2147483648)) (b := 2147483647) rfl rfl rfl (by omega)
  have hF_N_10 : Fr f_e_X10_become4 M N_10 := Fr.u hF_N_8 hM_N_10 hk_c0 rfl
  have hE_N_10 : Cf (SWk M c0) M N_10 := Cf.st hE_N_8 hM_N_10 (Or.inl rfl)
  refine kx_aload_n 17 F 0 dX10_become_16 rfl rfl rfl ?_
  refine kx_aload_n 18 F 1 dX10_become_17 rfl rfl rfl ?_
  refine kx_geti 21 F fl_X10_28 hk_c1 rfl rfl (j := 2) rfl dX10_become_18 (v := (M c1 2)) (by rw [hM_N_10, mu_i (by omega), hM_N_8, mu_i (by omega)]) rfl ?_
  have h_11 := Inv.g hI_M hk_c1 rfl 2 (a := 0) (b := 30) rfl rfl
  refine kx_puti 24 F fw_X10_28 rfl hk_c0 rfl rfl (j := 2) rfl dX10_become_21 rfl ?_
  intro N_12 hM_N_12
  have hI_N_12 : Inv false N_12 := Inv.u hI_N_10 hM_N_12 hk_c0 (a := 0) (b := 30) rfl rfl rfl (by omega)
  have hF_N_12 : Fr f_e_X10_become4 M N_12 := Fr.u hF_N_10 hM_N_12 hk_c0 rfl
  have hE_N_12 : Cf (SWk M c0) M N_12 := Cf.st hE_N_10 hM_N_12 (Or.inl rfl)
  refine kx_aload_n 25 F 0 dX10_become_24 rfl rfl rfl ?_
  refine kx_aload_n 26 F 1 dX10_become_25 rfl rfl rfl ?_
  refine kx_geti 29 F fl_X10_36 hk_c1 rfl rfl (j := 3) rfl dX10_become_26 (v := (M c1 3)) (by rw [hM_N_12, mu_i (by omega), hM_N_10, mu_i (by omega), hM_N_8, mu_i (by omega)]) rfl ?_
  have h_13 := Inv.g hI_M hk_c1 rfl 3 (a := 0) (b := 7) rfl rfl
  refine kx_puti 32 F fw_X10_36 rfl hk_c0 rfl rfl (j := 3) rfl dX10_become_29 rfl ?_
  intro N_14 hM_N_14
  have hI_N_14 : Inv false N_14 := Inv.u hI_N_12 hM_N_14 hk_c0 (a := 0) (b := 7) rfl rfl rfl (by omega)
  have hF_N_14 : Fr f_e_X10_become4 M N_14 := Fr.u hF_N_12 hM_N_14 hk_c0 rfl
  have hE_N_14 : Cf (SWk M c0) M N_14 := Cf.st hE_N_12 hM_N_14 (Or.inl rfl)
  refine kx_aload_n 33 F 0 dX10_become_32 rfl rfl rfl ?_
  refine kx_aload_n 34 F 1 dX10_become_33 rfl rfl rfl ?_
  refine kx_geti 37 F fl_X10_46 hk_c1 rfl rfl (j := 4) rfl dX10_become_34 (v := (M c1 4)) (by rw [hM_N_14, mu_i (by omega), hM_N_12, mu_i (by omega), hM_N_10, mu_i (by omega), hM_N_8, mu_i (by omega)]) rfl ?_
  have h_15 := Inv.g hI_M hk_c1 rfl 4 (a := 0) (b := 511) rfl rfl
  refine kx_puti 40 F fw_X10_46 rfl hk_c0 rfl rfl (j := 4) rfl dX10_become_37 rfl ?_
  intro N_16 hM_N_16
  have hI_N_16 : Inv false N_16 := Inv.u hI_N_14 hM_N_16 hk_c0 (a := 0) (b := 511) rfl rfl rfl (by omega)
  have hF_N_16 : Fr f_e_X10_become4 M N_16 := Fr.u hF_N_14 hM_N_16 hk_c0 rfl
  have hE_N_16 : Cf (SWk M c0) M N_16 := Cf.st hE_N_14 hM_N_16 (Or.inl rfl)
  refine kx_aload_n 41 F 1 dX10_become_40 rfl rfl rfl ?_
  refine kx_getr 44 F fl_X10_15 hk_c1 rfl rfl (j := 5) rfl dX10_become_41 (v := (M c1 5)) (by rw [hM_N_16, mu_i (by omega), hM_N_14, mu_i (by omega), hM_N_12, mu_i (by omega), hM_N_10, mu_i (by omega), hM_N_8, mu_i (by omega)]) rfl ?_
  refine kx_iconst 45 F dX10_become_44 rfl ?_
  refine kx_aload_n 46 F 0 dX10_become_45 rfl rfl rfl ?_
  refine kx_getr 49 F fl_X10_15 hk_c0 rfl rfl (j := 5) rfl dX10_become_46 (v := (M c0 5)) (by rw [hM_N_16, mu_i (by omega), hM_N_14, mu_i (by omega), hM_N_12, mu_i (by omega), hM_N_10, mu_i (by omega), hM_N_8, mu_i (by omega)]) rfl ?_
  refine kx_iconst 50 F dX10_become_49 rfl ?_
  refine kx_bipush 52 F dX10_become_50 (by decide) rfl ?_
  refine kx_copyi 55 F hk_4 rfl rfl hk_1 rfl rfl dX10_become_52 (tt lm_1586 rfl) (tt lm_782 rfl) (tt lm_781 rfl) (tt lm_186 rfl) (by omega) (by decide) (by decide) (Nat.le_of_ble_eq_true rfl) rfl ?_
  intro N_17 hM_N_17
  have hI_N_17 : Inv false N_17 := Inv.cp hI_N_16 hM_N_17 hk_4 hk_1 rfl (x := 0) (y := 7) (fun _ => rfl) (fun _ => rfl) (fun _ => rfl) (fun _ => rfl) (fun _ => rfl)
  have hF_N_17 : Fr f_e_X10_become4 M N_17 := Fr.cp hF_N_16 hM_N_17 hk_1 (fun _ => rfl)
  have hE_N_17 : Cf (SWk M c0) M N_17 := Cf.cp hE_N_16 hM_N_17 (Or.inr (Or.inl rfl))
  refine kx_aload_n 56 F 1 dX10_become_55 rfl rfl rfl ?_
  refine kx_getr 59 F fl_X10_19 hk_c1 rfl rfl (j := 6) rfl dX10_become_56 (v := (M c1 6)) (by rw [hM_N_17, mcp_k hk_c1 hk_1 rfl, hM_N_16, mu_i (by omega), hM_N_14, mu_i (by omega), hM_N_12, mu_i (by omega), hM_N_10, mu_i (by omega), hM_N_8, mu_i (by omega)]) rfl ?_
  refine kx_iconst 60 F dX10_become_59 rfl ?_
  refine kx_aload_n 61 F 0 dX10_become_60 rfl rfl rfl ?_
  refine kx_getr 64 F fl_X10_19 hk_c0 rfl rfl (j := 6) rfl dX10_become_61 (v := (M c0 6)) (by rw [hM_N_17, mcp_k hk_c0 hk_1 rfl, hM_N_16, mu_i (by omega), hM_N_14, mu_i (by omega), hM_N_12, mu_i (by omega), hM_N_10, mu_i (by omega), hM_N_8, mu_i (by omega)]) rfl ?_
  refine kx_iconst 65 F dX10_become_64 rfl ?_
  refine kx_bipush 67 F dX10_become_65 (by decide) rfl ?_
  refine kx_copyi 70 F hk_5 rfl rfl hk_2 rfl rfl dX10_become_67 (tt lm_1586 rfl) (tt lm_782 rfl) (tt lm_781 rfl) (tt lm_186 rfl) (by omega) (by decide) (by decide) (Nat.le_of_ble_eq_true rfl) rfl ?_
  intro N_18 hM_N_18
  have hI_N_18 : Inv false N_18 := Inv.cp hI_N_17 hM_N_18 hk_5 hk_2 rfl (x := 0) (y := 511) (fun _ => rfl) (fun _ => rfl) (fun _ => rfl) (fun _ => rfl) (fun _ => rfl)
  have hF_N_18 : Fr f_e_X10_become4 M N_18 := Fr.cp hF_N_17 hM_N_18 hk_2 (fun _ => rfl)
  have hE_N_18 : Cf (SWk M c0) M N_18 := Cf.cp hE_N_17 hM_N_18 (Or.inr (Or.inr (Or.inl rfl)))
  refine kx_aload_n 71 F 1 dX10_become_70 rfl rfl rfl ?_
  refine kx_getr 74 F fl_X10_22 hk_c1 rfl rfl (j := 7) rfl dX10_become_71 (v := (M c1 7)) (by rw [hM_N_18, mcp_k hk_c1 hk_2 rfl, hM_N_17, mcp_k hk_c1 hk_1 rfl, hM_N_16, mu_i (by omega), hM_N_14, mu_i (by omega), hM_N_12, mu_i (by omega), hM_N_10, mu_i (by omega), hM_N_8, mu_i (by omega)]) rfl ?_
  refine kx_iconst 75 F dX10_become_74 rfl ?_
  refine kx_aload_n 76 F 0 dX10_become_75 rfl rfl rfl ?_
  refine kx_getr 79 F fl_X10_22 hk_c0 rfl rfl (j := 7) rfl dX10_become_76 (v := (M c0 7)) (by rw [hM_N_18, mcp_k hk_c0 hk_2 rfl, hM_N_17, mcp_k hk_c0 hk_1 rfl, hM_N_16, mu_i (by omega), hM_N_14, mu_i (by omega), hM_N_12, mu_i (by omega), hM_N_10, mu_i (by omega), hM_N_8, mu_i (by omega)]) rfl ?_
  refine kx_iconst 80 F dX10_become_79 rfl ?_
  refine kx_bipush 82 F dX10_become_80 (by decide) rfl ?_
  refine kx_copyi 85 F hk_6 rfl rfl hk_3 rfl rfl dX10_become_82 (tt lm_1586 rfl) (tt lm_782 rfl) (tt lm_781 rfl) (tt lm_186 rfl) (by omega) (by decide) (by decide) (Nat.le_of_ble_eq_true rfl) rfl ?_
  intro N_19 hM_N_19
  have hI_N_19 : Inv false N_19 := Inv.cp hI_N_18 hM_N_19 hk_6 hk_3 rfl (x := 0) (y := 5) (fun _ => rfl) (fun _ => rfl) (fun _ => rfl) (fun _ => rfl) (fun _ => rfl)
  have hF_N_19 : Fr f_e_X10_become4 M N_19 := Fr.cp hF_N_18 hM_N_19 hk_3 (fun _ => rfl)
  have hE_N_19 : Cf (SWk M c0) M N_19 := Cf.cp hE_N_18 hM_N_19 (Or.inr (Or.inr (Or.inr rfl)))
  have e_20 : (N_19 c0 0) = (M c1 0) := by rw [hM_N_19, mcp_k hk_c0 hk_3 rfl, hM_N_18, mcp_k hk_c0 hk_2 rfl, hM_N_17, mcp_k hk_c0 hk_1 rfl, hM_N_16, mu_i (by omega), hM_N_14, mu_i (by omega), hM_N_12, mu_i (by omega), hM_N_10, mu_i (by omega), hM_N_8, mu_s]
  have e_21 : (N_19 c0 1) = (M c1 1) := by rw [hM_N_19, mcp_k hk_c0 hk_3 rfl, hM_N_18, mcp_k hk_c0 hk_2 rfl, hM_N_17, mcp_k hk_c0 hk_1 rfl, hM_N_16, mu_i (by omega), hM_N_14, mu_i (by omega), hM_N_12, mu_i (by omega), hM_N_10, mu_s]
  have e_22 : (N_19 c0 2) = (M c1 2) := by rw [hM_N_19, mcp_k hk_c0 hk_3 rfl, hM_N_18, mcp_k hk_c0 hk_2 rfl, hM_N_17, mcp_k hk_c0 hk_1 rfl, hM_N_16, mu_i (by omega), hM_N_14, mu_i (by omega), hM_N_12, mu_s]
  have e_23 : (N_19 c0 3) = (M c1 3) := by rw [hM_N_19, mcp_k hk_c0 hk_3 rfl, hM_N_18, mcp_k hk_c0 hk_2 rfl, hM_N_17, mcp_k hk_c0 hk_1 rfl, hM_N_16, mu_i (by omega), hM_N_14, mu_s]
  have e_24 : (N_19 c0 4) = (M c1 4) := by rw [hM_N_19, mcp_k hk_c0 hk_3 rfl, hM_N_18, mcp_k hk_c0 hk_2 rfl, hM_N_17, mcp_k hk_c0 hk_1 rfl, hM_N_16, mu_s]
  exact kx_vret F hQ ⟨hI_N_19, hF_N_19, (by omega), hE_N_19, (fun i h0 h1 => ⟨by rw [hM_N_19, mcp_k hk_1 hk_3 rfl, hM_N_18, mcp_k hk_1 hk_2 rfl, hM_N_17, mcp_s (by omega), show (0 + (i - 0) : Int) = i by omega, hM_N_16, mu_k hk_4 hk_c0 rfl, hM_N_14, mu_k hk_4 hk_c0 rfl, hM_N_12, mu_k hk_4 hk_c0 rfl, hM_N_10, mu_k hk_4 hk_c0 rfl, hM_N_8, mu_k hk_4 hk_c0 rfl], by rw [hM_N_19, mcp_k hk_2 hk_3 rfl, hM_N_18, mcp_s (by omega), show (0 + (i - 0) : Int) = i by omega, hM_N_17, mcp_k hk_5 hk_1 rfl, hM_N_16, mu_k hk_5 hk_c0 rfl, hM_N_14, mu_k hk_5 hk_c0 rfl, hM_N_12, mu_k hk_5 hk_c0 rfl, hM_N_10, mu_k hk_5 hk_c0 rfl, hM_N_8, mu_k hk_5 hk_c0 rfl], by rw [hM_N_19, mcp_s (by omega), show (0 + (i - 0) : Int) = i by omega, hM_N_18, mcp_k hk_6 hk_2 rfl, hM_N_17, mcp_k hk_6 hk_1 rfl, hM_N_16, mu_k hk_6 hk_c0 rfl, hM_N_14, mu_k hk_6 hk_c0 rfl, hM_N_12, mu_k hk_6 hk_c0 rfl, hM_N_10, mu_k hk_6 hk_c0 rfl, hM_N_8, mu_k hk_6 hk_c0 rfl]⟩)⟩ dX10_become_85
abbrev f_e_X5_become4 : List (Nat × Int) := [(1, 0), (1, 1), (1, 2), (1, 3), (1, 4), (1, 5), (2, -1), (3, -1), (4, -1), (5, -1), (6, -1), (7, -1), (8, 0), (8, 1), (8, 2), (8, 3), (8, 4), (9, -1), (10, -1), (11, -1), (12, 0), (12, 1), (12, 2), (12, 3)]
set_option maxHeartbeats 4000000 in
set_option maxRecDepth 100000 in
theorem e_X5_become4 (G : KG) (l : Launch) (M : Mem) (c0 : Int) (c1 : Int) (hI_M : Inv false M) (hk_c0 : kd c0 = 12) (hk_c1 : kd c1 = 12) (hX_M : XX M) (q : Int → Int) (hS : zSN M c1 q) (hU : zSU M c1 q) (hZ : FZ M) (hV : zQV q) (hn : ¬ c0 = c1) : KC false G l yX5_become cX5_become 2 none (2, 39) [vR G c0, vR G c1] M (fun A => kQv false G A (fun (N : Mem) => Inv false N ∧ Fr f_e_X5_become4 M N ∧ XX N ∧ Cf (fun x => c0 ≤ x ∧ x < c0 + 19) M N ∧ ((zSN N c0 q ∧ zSU N c0 q) ∧ ∀ g, zWN M (M c1 6) g → zWN N (M c0 6) g))) := by
  refine kx_met (lo := [some (vR G c0), some (vR G c1)]) (by decide) (Nat.le_of_ble_eq_true rfl) rfl ?_
  intro X F hQ
  have hF_M : Fr f_e_X5_become4 M M := Fr.rf _ _
  have hE_M : Cf (fun x => c0 ≤ x ∧ x < c0 + 19) M M := Cf.rf _ _
  have h_1 := hX_M.1 c1 hk_c1
  have h_2 := Inv.g hI_M hk_c1 rfl 0 (a := 0) (b := 2) rfl rfl
  have h_3 := Inv.g hI_M hk_c1 rfl 1 (a := 0) (b := 4) rfl rfl
  have h_4 := Inv.g hI_M hk_c1 rfl 2 (a := 0) (b := 6) rfl rfl
  have hk_5 : kd (M c0 4) = 1 := Inv.r hI_M hk_c0 rfl 4 rfl rfl
  have hk_6 : kd (M c0 5) = 1 := Inv.r hI_M hk_c0 rfl 5 rfl rfl
  have hk_7 : kd (M c0 6) = 8 := Inv.r hI_M hk_c0 rfl 6 rfl rfl
  have hk_8 : kd (M c1 4) = 1 := Inv.r hI_M hk_c1 rfl 4 rfl rfl
  have hk_9 : kd (M c1 5) = 1 := Inv.r hI_M hk_c1 rfl 5 rfl rfl
  have hk_10 : kd (M c1 6) = 8 := Inv.r hI_M hk_c1 rfl 6 rfl rfl
  have hap := set_ap hk_c0 hk_c1 hn
  have hz0 := hZ.2.1 c0 hk_c0
  have hz1 := hZ.2.1 c1 hk_c1
  have hSn := hS.u
  have hVu := hV.u
  refine kx_aload_n 1 F 0 dX5_become_0 rfl rfl rfl ?_
  refine kx_aload_n 2 F 1 dX5_become_1 rfl rfl rfl ?_
  refine kx_geti 5 F fl_X5_28 hk_c1 rfl rfl (j := 0) rfl dX5_become_2 (v := (M c1 0)) rfl rfl ?_
  refine kx_puti 8 F fw_X5_28 rfl hk_c0 rfl rfl (j := 0) rfl dX5_become_5 rfl ?_
  intro N_11 hM_N_11
  have hI_N_11 : Inv false N_11 := Inv.u hI_M hM_N_11 hk_c0 (a := 0) (b := 2) rfl rfl rfl (by omega)
  have hF_N_11 : Fr f_e_X5_become4 M N_11 := Fr.u hF_M hM_N_11 hk_c0 rfl
  have hE_N_11 : Cf (fun x => c0 ≤ x ∧ x < c0 + 19) M N_11 := Cf.st hE_M hM_N_11 ⟨by omega, by omega⟩
  refine kx_aload_n 9 F 0 dX5_become_8 rfl rfl rfl ?_
  refine kx_aload_n 10 F 1 dX5_become_9 rfl rfl rfl ?_
  refine kx_geti 13 F fl_X5_32 hk_c1 rfl rfl (j := 1) rfl dX5_become_10 (v := (M c1 1)) (by rw [hM_N_11, mu_i (by omega)]) rfl ?_
  refine kx_puti 16 F fw_X5_32 rfl hk_c0 rfl rfl (j := 1) rfl dX5_become_13 rfl ?_
  intro N_12 hM_N_12
  have hI_N_12 : Inv false N_12 := Inv.u hI_N_11 hM_N_12 hk_c0 (a := 0) (b := 4) rfl rfl rfl (by omega)
  have hF_N_12 : Fr f_e_X5_become4 M N_12 := Fr.u hF_N_11 hM_N_12 hk_c0 rfl
  have hE_N_12 : Cf (fun x => c0 ≤ x ∧ x < c0 + 19) M N_12 := Cf.st hE_N_11 hM_N_12 ⟨by omega, by omega⟩
  refine kx_aload_n 17 F 0 dX5_become_16 rfl rfl rfl ?_
  refine kx_aload_n 18 F 1 dX5_become_17 rfl rfl rfl ?_
  refine kx_geti 21 F fl_X5_35 hk_c1 rfl rfl (j := 2) rfl dX5_become_18 (v := (M c1 2)) (by rw [hM_N_12, mu_i (by omega), hM_N_11, mu_i (by omega)]) rfl ?_
  refine kx_puti 24 F fw_X5_35 rfl hk_c0 rfl rfl (j := 2) rfl dX5_become_21 rfl ?_
  intro N_13 hM_N_13
  have hI_N_13 : Inv false N_13 := Inv.u hI_N_12 hM_N_13 hk_c0 (a := 0) (b := 6) rfl rfl rfl (by omega)
  have hF_N_13 : Fr f_e_X5_become4 M N_13 := Fr.u hF_N_12 hM_N_13 hk_c0 rfl
  have hE_N_13 : Cf (fun x => c0 ≤ x ∧ x < c0 + 19) M N_13 := Cf.st hE_N_12 hM_N_13 ⟨by omega, by omega⟩
  refine kx_aload_n 25 F 0 dX5_become_24 rfl rfl rfl ?_
  refine kx_aload_n 26 F 1 dX5_become_25 rfl rfl rfl ?_
  refine kx_geti 29 F fl_X5_38 hk_c1 rfl rfl (j := 3) rfl dX5_become_26 (v := (M c1 3)) (by rw [hM_N_13, mu_i (by omega), hM_N_12, mu_i (by omega), hM_N_11, mu_i (by omega)]) rfl ?_
  have h_14 := Inv.g hI_M hk_c1 rfl 3 (a := 0) (b := 2) rfl rfl
  refine kx_puti 32 F fw_X5_38 rfl hk_c0 rfl rfl (j := 3) rfl dX5_become_29 rfl ?_
  intro N_15 hM_N_15
  have hI_N_15 : Inv false N_15 := Inv.u hI_N_13 hM_N_15 hk_c0 (a := 0) (b := 2) rfl rfl rfl (by omega)
  have hF_N_15 : Fr f_e_X5_become4 M N_15 := Fr.u hF_N_13 hM_N_15 hk_c0 rfl
  have hE_N_15 : Cf (fun x => c0 ≤ x ∧ x < c0 + 19) M N_15 := Cf.st hE_N_13 hM_N_15 ⟨by omega, by omega⟩
  refine kx_aload_n 33 F 0 dX5_become_32 rfl rfl rfl ?_
  refine kx_getr 36 F fl_X5_12 hk_c0 rfl rfl (j := 4) rfl dX5_become_33 (v := (M c0 4)) (by rw [hM_N_15, mu_i (by omega), hM_N_13, mu_i (by omega), hM_N_12, mu_i (by omega), hM_N_11, mu_i (by omega)]) rfl ?_
  refine kx_aload_n 37 F 1 dX5_become_36 rfl rfl rfl ?_
  refine kx_getr 40 F fl_X5_12 hk_c1 rfl rfl (j := 4) rfl dX5_become_37 (v := (M c1 4)) (by rw [hM_N_15, mu_i (by omega), hM_N_13, mu_i (by omega), hM_N_12, mu_i (by omega), hM_N_11, mu_i (by omega)]) rfl ?_
  refine kx_Vv 43 (ci := 0) F (As := [vR G (M c1 4)]) (st := []) vd_X5_44 (e_X0_become G l N_15 (M c0 4) (M c1 4) hI_N_15 hk_5 hk_8) hk_5 rfl rfl rfl ⟨by decide, by decide⟩ rfl rfl (Nat.le_of_ble_eq_true rfl) dX5_become_40 rfl ?_
  intro N_16 q_17
  obtain ⟨hI_N_16, hG_N_16, q_17c, hC_N_16, hbe_N_16⟩ := q_17
  have hF_N_16 : Fr f_e_X5_become4 M N_16 := Fr.c hF_N_15 hG_N_16 rfl
  have hE_N_16 : Cf (fun x => c0 ≤ x ∧ x < c0 + 19) M N_16 := Cf.c hE_N_15 hC_N_16 (fun y hy => by have a := SA.in hy (FZ.fr hZ hF_N_15 rfl) hk_5; exact ⟨by omega, by omega⟩)
  have e_18 : (N_15 (M c1 4) 0) = (M (M c1 4) 0) := by rw [hM_N_15, mu_k hk_8 hk_c0 rfl, hM_N_13, mu_k hk_8 hk_c0 rfl, hM_N_12, mu_k hk_8 hk_c0 rfl, hM_N_11, mu_k hk_8 hk_c0 rfl]
  have h_19 := Inv.g hI_M hk_8 rfl 0 (a := 0) (b := 3) rfl rfl
  have h_20 := Inv.g hI_N_16 hk_5 rfl 0 (a := 0) (b := 3) rfl rfl
  have e_21 : (N_15 (M c1 4) 1) = (M (M c1 4) 1) := by rw [hM_N_15, mu_k hk_8 hk_c0 rfl, hM_N_13, mu_k hk_8 hk_c0 rfl, hM_N_12, mu_k hk_8 hk_c0 rfl, hM_N_11, mu_k hk_8 hk_c0 rfl]
  have h_22 := Inv.g hI_M hk_8 rfl 1 (a := 0) (b := 3) rfl rfl
  have h_23 := Inv.g hI_N_16 hk_5 rfl 1 (a := 0) (b := 3) rfl rfl
  have e_24 : (N_15 (M c1 4) 2) = (M (M c1 4) 2) := by rw [hM_N_15, mu_k hk_8 hk_c0 rfl, hM_N_13, mu_k hk_8 hk_c0 rfl, hM_N_12, mu_k hk_8 hk_c0 rfl, hM_N_11, mu_k hk_8 hk_c0 rfl]
  have h_25 := Inv.g hI_M hk_8 rfl 2 (a := 0) (b := 7) rfl rfl
  have h_26 := Inv.g hI_N_16 hk_5 rfl 2 (a := 0) (b := 7) rfl rfl
  have e_27 : (N_15 (M c1 4) 3) = (M (M c1 4) 3) := by rw [hM_N_15, mu_k hk_8 hk_c0 rfl, hM_N_13, mu_k hk_8 hk_c0 rfl, hM_N_12, mu_k hk_8 hk_c0 rfl, hM_N_11, mu_k hk_8 hk_c0 rfl]
  have h_28 := Inv.g hI_M hk_8 rfl 3 (a := 0) (b := 7) rfl rfl
  have h_29 := Inv.g hI_N_16 hk_5 rfl 3 (a := 0) (b := 7) rfl rfl
  have e_30 : (N_15 (M c1 4) 4) = (M (M c1 4) 4) := by rw [hM_N_15, mu_k hk_8 hk_c0 rfl, hM_N_13, mu_k hk_8 hk_c0 rfl, hM_N_12, mu_k hk_8 hk_c0 rfl, hM_N_11, mu_k hk_8 hk_c0 rfl]
  have h_31 := Inv.g hI_M hk_8 rfl 4 (a := 0) (b := 20) rfl rfl
  have h_32 := Inv.g hI_N_16 hk_5 rfl 4 (a := 0) (b := 20) rfl rfl
  have e_33 : (N_15 (M c1 4) 5) = (M (M c1 4) 5) := by rw [hM_N_15, mu_k hk_8 hk_c0 rfl, hM_N_13, mu_k hk_8 hk_c0 rfl, hM_N_12, mu_k hk_8 hk_c0 rfl, hM_N_11, mu_k hk_8 hk_c0 rfl]
  have h_34 := Inv.g hI_M hk_8 rfl 5 (a := 0) (b := 2) rfl rfl
  have h_35 := Inv.g hI_N_16 hk_5 rfl 5 (a := 0) (b := 2) rfl rfl
  refine kx_aload_n 44 F 0 dX5_become_43 rfl rfl rfl ?_
  refine kx_getr 47 F fl_X5_18 hk_c0 rfl rfl (j := 5) rfl dX5_become_44 (v := (M c0 5)) (by rw [Fr.e hG_N_16 hk_c0 _ rfl, hM_N_15, mu_i (by omega), hM_N_13, mu_i (by omega), hM_N_12, mu_i (by omega), hM_N_11, mu_i (by omega)]) rfl ?_
  refine kx_aload_n 48 F 1 dX5_become_47 rfl rfl rfl ?_
  refine kx_getr 51 F fl_X5_18 hk_c1 rfl rfl (j := 5) rfl dX5_become_48 (v := (M c1 5)) (by rw [Fr.e hG_N_16 hk_c1 _ rfl, hM_N_15, mu_i (by omega), hM_N_13, mu_i (by omega), hM_N_12, mu_i (by omega), hM_N_11, mu_i (by omega)]) rfl ?_
  refine kx_Vv 54 (ci := 0) F (As := [vR G (M c1 5)]) (st := []) vd_X5_44 (e_X0_become G l N_16 (M c0 5) (M c1 5) hI_N_16 hk_6 hk_9) hk_6 rfl rfl rfl ⟨by decide, by decide⟩ rfl rfl (Nat.le_of_ble_eq_true rfl) dX5_become_51 rfl ?_
  intro N_36 q_37
  obtain ⟨hI_N_36, hG_N_36, q_37c, hC_N_36, hbe_N_36⟩ := q_37
  have hF_N_36 : Fr f_e_X5_become4 M N_36 := Fr.c hF_N_16 hG_N_36 rfl
  have hE_N_36 : Cf (fun x => c0 ≤ x ∧ x < c0 + 19) M N_36 := Cf.c hE_N_16 hC_N_36 (fun y hy => by have a := SA.in hy (FZ.fr hZ hF_N_16 rfl) hk_6; exact ⟨by omega, by omega⟩)
  have h_38 := Inv.g hI_N_16 hk_9 rfl 0 (a := 0) (b := 3) rfl rfl
  have h_39 := Inv.g hI_N_36 hk_6 rfl 0 (a := 0) (b := 3) rfl rfl
  have h_40 := Inv.g hI_N_16 hk_9 rfl 1 (a := 0) (b := 3) rfl rfl
  have h_41 := Inv.g hI_N_36 hk_6 rfl 1 (a := 0) (b := 3) rfl rfl
  have h_42 := Inv.g hI_N_16 hk_9 rfl 2 (a := 0) (b := 7) rfl rfl
  have h_43 := Inv.g hI_N_36 hk_6 rfl 2 (a := 0) (b := 7) rfl rfl
  have h_44 := Inv.g hI_N_16 hk_9 rfl 3 (a := 0) (b := 7) rfl rfl
  have h_45 := Inv.g hI_N_36 hk_6 rfl 3 (a := 0) (b := 7) rfl rfl
  have h_46 := Inv.g hI_N_16 hk_9 rfl 4 (a := 0) (b := 20) rfl rfl
  have h_47 := Inv.g hI_N_36 hk_6 rfl 4 (a := 0) (b := 20) rfl rfl
  have h_48 := Inv.g hI_N_16 hk_9 rfl 5 (a := 0) (b := 2) rfl rfl
  have h_49 := Inv.g hI_N_36 hk_6 rfl 5 (a := 0) (b := 2) rfl rfl
  refine kx_aload_n 55 F 0 dX5_become_54 rfl rfl rfl ?_
  refine kx_getr 58 F fl_X5_24 hk_c0 rfl rfl (j := 6) rfl dX5_become_55 (v := (M c0 6)) (by rw [Fr.e hG_N_36 hk_c0 _ rfl, Fr.e hG_N_16 hk_c0 _ rfl, hM_N_15, mu_i (by omega), hM_N_13, mu_i (by omega), hM_N_12, mu_i (by omega), hM_N_11, mu_i (by omega)]) rfl ?_
  refine kx_aload_n 59 F 1 dX5_become_58 rfl rfl rfl ?_
  refine kx_getr 62 F fl_X5_24 hk_c1 rfl rfl (j := 6) rfl dX5_become_59 (v := (M c1 6)) (by rw [Fr.e hG_N_36 hk_c1 _ rfl, Fr.e hG_N_16 hk_c1 _ rfl, hM_N_15, mu_i (by omega), hM_N_13, mu_i (by omega), hM_N_12, mu_i (by omega), hM_N_11, mu_i (by omega)]) rfl ?_
  refine kx_Vv 65 (ci := 0) F (As := [vR G (M c1 6)]) (st := []) vd_X5_48 (e_X10_become4 G l N_36 (M c0 6) (M c1 6) hI_N_36 hk_7 hk_10) hk_7 rfl rfl rfl ⟨by decide, by decide⟩ rfl rfl (Nat.le_of_ble_eq_true rfl) dX5_become_62 rfl ?_
  intro N_50 q_51
  obtain ⟨hI_N_50, hG_N_50, q_51c, hC_N_50, hwb_N_50⟩ := q_51
  have hF_N_50 : Fr f_e_X5_become4 M N_50 := Fr.c hF_N_36 hG_N_50 rfl
  have hE_N_50 : Cf (fun x => c0 ≤ x ∧ x < c0 + 19) M N_50 := Cf.c hE_N_36 hC_N_50 (fun y hy => by have a := SWk.in hy (FZ.fr hZ hF_N_36 rfl) hk_7; exact ⟨by omega, by omega⟩)
  have e_52 : (N_36 (M c1 6) 0) = (M (M c1 6) 0) := by rw [Fr.e hG_N_36 hk_10 _ rfl, Fr.e hG_N_16 hk_10 _ rfl, hM_N_15, mu_k hk_10 hk_c0 rfl, hM_N_13, mu_k hk_10 hk_c0 rfl, hM_N_12, mu_k hk_10 hk_c0 rfl, hM_N_11, mu_k hk_10 hk_c0 rfl]
  have h_53 := Inv.g hI_M hk_10 rfl 0 (a := (-1)) (b := 1) rfl rfl
  have h_54 := Inv.g hI_N_50 hk_7 rfl 0 (a := (-1)) (b := 1) rfl rfl
  have e_55 : (N_36 (M c1 6) 1) = (M (M c1 6) 1) := by rw [Fr.e hG_N_36 hk_10 _ rfl, Fr.e hG_N_16 hk_10 _ rfl, hM_N_15, mu_k hk_10 hk_c0 rfl, hM_N_13, mu_k hk_10 hk_c0 rfl, hM_N_12, mu_k hk_10 hk_c0 rfl, hM_N_11, mu_k hk_10 hk_c0 rfl]
  have h_56 := Inv.g hI_M hk_10 rfl 1 (a := (-2147483648)) (b := 2147483647) rfl rfl
  have h_57 := Inv.g hI_N_50 hk_7 rfl 1 (a := (-2147483648)) (b := 2147483647) rfl rfl
  have e_58 : (N_36 (M c1 6) 2) = (M (M c1 6) 2) := by rw [Fr.e hG_N_36 hk_10 _ rfl, Fr.e hG_N_16 hk_10 _ rfl, hM_N_15, mu_k hk_10 hk_c0 rfl, hM_N_13, mu_k hk_10 hk_c0 rfl, hM_N_12, mu_k hk_10 hk_c0 rfl, hM_N_11, mu_k hk_10 hk_c0 rfl]
  have h_59 := Inv.g hI_M hk_10 rfl 2 (a := 0) (b := 30) rfl rfl
  have h_60 := Inv.g hI_N_50 hk_7 rfl 2 (a := 0) (b := 30) rfl rfl
  have e_61 : (N_36 (M c1 6) 3) = (M (M c1 6) 3) := by rw [Fr.e hG_N_36 hk_10 _ rfl, Fr.e hG_N_16 hk_10 _ rfl, hM_N_15, mu_k hk_10 hk_c0 rfl, hM_N_13, mu_k hk_10 hk_c0 rfl, hM_N_12, mu_k hk_10 hk_c0 rfl, hM_N_11, mu_k hk_10 hk_c0 rfl]
  have h_62 := Inv.g hI_M hk_10 rfl 3 (a := 0) (b := 7) rfl rfl
  have h_63 := Inv.g hI_N_50 hk_7 rfl 3 (a := 0) (b := 7) rfl rfl
  have e_64 : (N_36 (M c1 6) 4) = (M (M c1 6) 4) := by rw [Fr.e hG_N_36 hk_10 _ rfl, Fr.e hG_N_16 hk_10 _ rfl, hM_N_15, mu_k hk_10 hk_c0 rfl, hM_N_13, mu_k hk_10 hk_c0 rfl, hM_N_12, mu_k hk_10 hk_c0 rfl, hM_N_11, mu_k hk_10 hk_c0 rfl]
  have h_65 := Inv.g hI_M hk_10 rfl 4 (a := 0) (b := 511) rfl rfl
  have h_66 := Inv.g hI_N_50 hk_7 rfl 4 (a := 0) (b := 511) rfl rfl
  have e_67 : (N_50 c0 0) = (M c1 0) := by rw [Fr.e hG_N_50 hk_c0 _ rfl, Fr.e hG_N_36 hk_c0 _ rfl, Fr.e hG_N_16 hk_c0 _ rfl, hM_N_15, mu_i (by omega), hM_N_13, mu_i (by omega), hM_N_12, mu_i (by omega), hM_N_11, mu_s]
  have e_68 : (N_50 c0 1) = (M c1 1) := by rw [Fr.e hG_N_50 hk_c0 _ rfl, Fr.e hG_N_36 hk_c0 _ rfl, Fr.e hG_N_16 hk_c0 _ rfl, hM_N_15, mu_i (by omega), hM_N_13, mu_i (by omega), hM_N_12, mu_s]
  have e_69 : (N_50 c0 2) = (M c1 2) := by rw [Fr.e hG_N_50 hk_c0 _ rfl, Fr.e hG_N_36 hk_c0 _ rfl, Fr.e hG_N_16 hk_c0 _ rfl, hM_N_15, mu_i (by omega), hM_N_13, mu_s]
  have hs_N_50 : SX N_50 := SX.one hX_M.1 (c0 := c0) (fun c hkc hc => ⟨by rw [Fr.e hG_N_50 hkc _ rfl, Fr.e hG_N_36 hkc _ rfl, Fr.e hG_N_16 hkc _ rfl, hM_N_15, mu_c hc, hM_N_13, mu_c hc, hM_N_12, mu_c hc, hM_N_11, mu_c hc], by rw [Fr.e hG_N_50 hkc _ rfl, Fr.e hG_N_36 hkc _ rfl, Fr.e hG_N_16 hkc _ rfl, hM_N_15, mu_c hc, hM_N_13, mu_c hc, hM_N_12, mu_c hc, hM_N_11, mu_c hc], by rw [Fr.e hG_N_50 hkc _ rfl, Fr.e hG_N_36 hkc _ rfl, Fr.e hG_N_16 hkc _ rfl, hM_N_15, mu_c hc, hM_N_13, mu_c hc, hM_N_12, mu_c hc, hM_N_11, mu_c hc]⟩) (by omega)
  have hX_N_50 : XX N_50 := XX.set hX_M hI_M hF_N_50 rfl hs_N_50
  have e_73 : (N_50 c0 3) = (M c1 3) := by rw [Fr.e hG_N_50 hk_c0 _ rfl, Fr.e hG_N_36 hk_c0 _ rfl, Fr.e hG_N_16 hk_c0 _ rfl, hM_N_15, mu_s]
  have hf1 : 0 < q 3 → AT N_50 (M c0 4) q 100 := fun a => AT.keep (AT.keep (AT.bec (b := 100) (AT.st2 (AT.st2 (AT.st2 (AT.st2 (hU.1 a) hI_M hk_8 hM_N_11 hk_c0 rfl) hI_N_11 hk_8 hM_N_12 hk_c0 rfl) hI_N_12 hk_8 hM_N_13 hk_c0 rfl) hI_N_13 hk_8 hM_N_15 hk_c0 rfl) (by omega) (by omega) (by omega) (by omega) (by omega) (by omega) (Fr.e hG_N_16 hk_5 _ rfl) (Fr.e hG_N_16 hk_5 _ rfl) (Fr.e hG_N_16 hk_5 _ rfl) (Fr.e hG_N_16 hk_5 _ rfl) (Fr.e hG_N_16 hk_5 _ rfl) (Fr.e hG_N_16 hk_5 _ rfl) hbe_N_16.1 hbe_N_16.2 rfl (fun i _ _ => rfl) (by exact hVu.2.2.2.1)) (FZ.fr hZ hF_N_16 rfl) hI_N_16 hk_5 hC_N_36 (fun y a1 a2 a3 => by have a := SA.in a3 (FZ.fr hZ hF_N_16 rfl) hk_6; omega)) (FZ.fr hZ hF_N_36 rfl) hI_N_36 hk_5 hC_N_50 (fun y a1 a2 a3 => by have a := SWk.in a3 (FZ.fr hZ hF_N_36 rfl) hk_7; omega)
  have hf2 : 1 < q 3 → AT N_50 (M c0 5) q 185 := fun a => AT.keep (AT.bec (b := 185) (AT.keep (AT.st2 (AT.st2 (AT.st2 (AT.st2 (hU.2 a) hI_M hk_9 hM_N_11 hk_c0 rfl) hI_N_11 hk_9 hM_N_12 hk_c0 rfl) hI_N_12 hk_9 hM_N_13 hk_c0 rfl) hI_N_13 hk_9 hM_N_15 hk_c0 rfl) (FZ.fr hZ hF_N_15 rfl) hI_N_15 hk_9 hC_N_16 (fun y a1 a2 a3 => by have a := SA.in a3 (FZ.fr hZ hF_N_15 rfl) hk_5; omega)) (by omega) (by omega) (by omega) (by omega) (by omega) (by omega) (Fr.e hG_N_36 hk_6 _ rfl) (Fr.e hG_N_36 hk_6 _ rfl) (Fr.e hG_N_36 hk_6 _ rfl) (Fr.e hG_N_36 hk_6 _ rfl) (Fr.e hG_N_36 hk_6 _ rfl) (Fr.e hG_N_36 hk_6 _ rfl) hbe_N_36.1 hbe_N_36.2 rfl (fun i _ _ => rfl) (by exact hVu.2.2.2.2.2)) (FZ.fr hZ hF_N_36 rfl) hI_N_36 hk_6 hC_N_50 (fun y a1 a2 a3 => by have a := SWk.in a3 (FZ.fr hZ hF_N_36 rfl) hk_7; omega)
  exact kx_vret F hQ ⟨hI_N_50, hF_N_50, hX_N_50, hE_N_50, ⟨⟨⟨by omega, by omega, by omega, by omega, by omega, by omega, by omega, by omega, by omega, by omega, by omega, by omega⟩, by unfold zSU; rw [show N_50 c0 4 = M c0 4 from (by rw [Fr.e hG_N_50 hk_c0 _ rfl, Fr.e hG_N_36 hk_c0 _ rfl, Fr.e hG_N_16 hk_c0 _ rfl, hM_N_15, mu_i (by omega), hM_N_13, mu_i (by omega), hM_N_12, mu_i (by omega), hM_N_11, mu_i (by omega)]), show N_50 c0 5 = M c0 5 from (by rw [Fr.e hG_N_50 hk_c0 _ rfl, Fr.e hG_N_36 hk_c0 _ rfl, Fr.e hG_N_16 hk_c0 _ rfl, hM_N_15, mu_i (by omega), hM_N_13, mu_i (by omega), hM_N_12, mu_i (by omega), hM_N_11, mu_i (by omega)])]; exact ⟨hf1, hf2⟩⟩, fun g h => (zWN.bec (zWN.fr (zWN.fr (zWN.fr (zWN.fr (zWN.fr (zWN.fr h hI_M hk_10 (Fr.u (Fr.rf [(12, 0)] _) hM_N_11 hk_c0 rfl) rfl) hI_N_11 hk_10 (Fr.u (Fr.rf [(12, 1)] _) hM_N_12 hk_c0 rfl) rfl) hI_N_12 hk_10 (Fr.u (Fr.rf [(12, 2)] _) hM_N_13 hk_c0 rfl) rfl) hI_N_13 hk_10 (Fr.u (Fr.rf [(12, 3)] _) hM_N_15 hk_c0 rfl) rfl) hI_N_15 hk_10 hG_N_16 rfl) hI_N_16 hk_10 hG_N_36 rfl) (Fr.e hG_N_50 hk_7 5 rfl) (Fr.e hG_N_50 hk_7 6 rfl) (Fr.e hG_N_50 hk_7 7 rfl) hwb_N_50 hI_N_36 hk_10 (by omega) (by omega) (by omega) (by omega) (by omega))⟩⟩ dX5_become_65
abbrev f_e_mark4 : List (Nat × Int) := [(1, 0), (1, 1), (1, 2), (1, 3), (1, 4), (1, 5), (2, -1), (3, -1), (4, -1), (5, -1), (6, -1), (7, -1), (8, 0), (8, 1), (8, 2), (8, 3), (8, 4), (9, -1), (10, -1), (11, -1), (12, 0), (12, 1), (12, 2), (12, 3), (62, 0), (62, 7)]
set_option maxHeartbeats 4000000 in
set_option maxRecDepth 100000 in
theorem e_mark4 (G : KG) (l : Launch) (M : Mem) (c0 : Int) (hI_M : Inv false M) (hk_c0 : kd c0 = 62) (hX_M : XX M) (q : Int → Int) (hS : zSN M (M c0 5) q) (hU : zSU M (M c0 5) q) (hZ : FZ M) (hV : zQV q) (hn : ∀ m, 0 ≤ m → m ≤ 2 → ¬ M (M c0 6) m = M c0 5) : KC false G l yX11_mark cX11_mark 1 (some .int) (3, 60) [vR G c0] M (fun A => kQi false G A (fun (r : Int) (N : Mem) => Inv false N ∧ Fr f_e_mark4 M N ∧ (((M c0 7) = 3 ∧ r = -1 ∧ (N c0 7) = 3) ∨ ((M c0 7) ≤ 2 ∧ (N c0 7) = (M c0 7) + 1 ∧ r = (M c0 7) + 1)) ∧ XX N ∧ Cf (fun x => (M (M c0 6) (M c0 7)) ≤ x ∧ x < (M (M c0 6) (M c0 7)) + 19) M N ∧ ((M c0 7 ≤ 2 → zSN N (M (M c0 6) (M c0 7)) q ∧ zSU N (M (M c0 6) (M c0 7)) q ∧ ∀ g, zWN M (M (M c0 5) 6) g → zWN N (M (M (M c0 6) (M c0 7)) 6) g) ∧ (3 ≤ M c0 7 → Cf (fun _ => False) M N)))) := by
  refine kx_met (lo := [some (vR G c0)]) (by decide) (Nat.le_of_ble_eq_true rfl) rfl ?_
  intro X F hQ
  have hF_M : Fr f_e_mark4 M M := Fr.rf _ _
  have hE_M : Cf (fun x => (M (M c0 6) (M c0 7)) ≤ x ∧ x < (M (M c0 6) (M c0 7)) + 19) M M := Cf.rf _ _
  have hk_1 : kd (M c0 5) = 12 := Inv.r hI_M hk_c0 rfl 5 rfl rfl
  have hSn := hS.u
  have hk_2 : kd (M c0 6) = 63 := Inv.r hI_M hk_c0 rfl 6 rfl rfl
  have hk_3 : kd (M (M c0 5) 6) = 8 := Inv.r hI_M hk_1 rfl 6 rfl rfl
  refine kx_aload_n 1 F 0 dX11_mark_0 rfl rfl rfl ?_
  refine kx_geti 4 F fl_X11_385 hk_c0 rfl rfl (j := 7) rfl dX11_mark_1 (v := (M c0 7)) rfl rfl ?_
  have h_4 := Inv.g hI_M hk_c0 rfl 7 (a := 0) (b := 3) rfl rfl
  refine kx_iconst 5 F dX11_mark_4 rfl ?_
  refine kx_icmp_lt 8 F 14 dX11_mark_5 (by decide) rfl (by omega) (by decide) (fun h_5 => ?_) (fun h_5 => ?_)
  · refine kx_aload_n 15 F 0 dX11_mark_14 rfl rfl rfl ?_
    refine kx_getr 18 F fl_X11_30 hk_c0 rfl rfl (j := 6) rfl dX11_mark_15 (v := (M c0 6)) rfl rfl ?_
    refine kx_aload_n 19 F 0 dX11_mark_18 rfl rfl rfl ?_
    refine kx_geti 22 F fl_X11_385 hk_c0 rfl rfl (j := 7) rfl dX11_mark_19 (v := (M c0 7)) rfl rfl ?_
    refine kx_aald 23 F hk_2 rfl rfl (by omega) (by decide) dX11_mark_22 (v := (M (M c0 6) (M c0 7))) rfl rfl ?_
    have hk_6 : kd (M (M c0 6) (M c0 7)) = 12 := Inv.r hI_M hk_2 rfl (M c0 7) rfl rfl
    refine kx_aload_n 24 F 0 dX11_mark_23 rfl rfl rfl ?_
    refine kx_getr 27 F fl_X11_26 hk_c0 rfl rfl (j := 5) rfl dX11_mark_24 (v := (M c0 5)) rfl rfl ?_
    refine kx_Vv 30 (ci := 0) F (As := [vR G (M c0 5)]) (st := []) vd_X11_388 (e_X5_become4 G l M (M (M c0 6) (M c0 7)) (M c0 5) hI_M hk_6 hk_1 hX_M q hS hU hZ hV (hn _ (by omega) (by omega))) hk_6 rfl rfl rfl ⟨by decide, by decide⟩ rfl rfl (Nat.le_of_ble_eq_true rfl) dX11_mark_27 rfl ?_
    intro N_7 q_8
    obtain ⟨hI_N_7, hG_N_7, hX_N_7, hC_N_7, ⟨hb_N_7, hbw_N_7⟩⟩ := q_8
    have hF_N_7 : Fr f_e_mark4 M N_7 := Fr.c hF_M hG_N_7 rfl
    have hE_N_7 : Cf (fun x => (M (M c0 6) (M c0 7)) ≤ x ∧ x < (M (M c0 6) (M c0 7)) + 19) M N_7 := Cf.c hE_M hC_N_7 (fun y hy => hy)
    refine kx_aload_n 31 F 0 dX11_mark_30 rfl rfl rfl ?_
    refine kx_dup 32 F dX11_mark_31 rfl rfl ?_
    refine kx_geti 35 F fl_X11_385 hk_c0 rfl rfl (j := 7) rfl dX11_mark_32 (v := (M c0 7)) (by rw [Fr.e hG_N_7 hk_c0 _ rfl]) rfl ?_
    refine kx_iconst 36 F dX11_mark_35 rfl ?_
    refine kx_iadd 37 F (v := (M c0 7) + 1) dX11_mark_36 rfl rfl ?_
    refine kx_puti 40 F fw_X11_385 rfl hk_c0 rfl rfl (j := 7) rfl dX11_mark_37 rfl ?_
    intro N_9 hM_N_9
    have hI_N_9 : Inv false N_9 := Inv.u hI_N_7 hM_N_9 hk_c0 (a := 0) (b := 3) rfl rfl rfl (by omega)
    have hF_N_9 : Fr f_e_mark4 M N_9 := Fr.u hF_N_7 hM_N_9 hk_c0 rfl
    have hX_N_9 : XX N_9 := XX.st hX_N_7 hI_N_7 hM_N_9 hk_c0 rfl
    have hE_N_9 : Cf (fun x => (M (M c0 6) (M c0 7)) ≤ x ∧ x < (M (M c0 6) (M c0 7)) + 19) M N_9 := Cf.sk hE_N_7 hM_N_9 hk_c0 rfl
    refine kx_aload_n 41 F 0 dX11_mark_40 rfl rfl rfl ?_
    refine kx_aload_n 42 F 0 dX11_mark_41 rfl rfl rfl ?_
    refine kx_geti 45 F fl_X11_385 hk_c0 rfl rfl (j := 7) rfl dX11_mark_42 (v := (M c0 7) + 1) (by rw [hM_N_9, mu_s]) rfl ?_
    refine kx_Vi 48 (ci := 0) F (As := [vI ((M c0 7) + 1)]) (st := []) vd_X11_145 (c_X11_answer G l N_9 c0 ((M c0 7) + 1) hI_N_9 hk_c0 (by omega)) hk_c0 rfl rfl rfl ⟨by decide, by decide⟩ rfl rfl (Nat.le_of_ble_eq_true rfl) dX11_mark_45 rfl ?_
    intro r_10 N_11 q_12
    obtain ⟨hI_N_11, hG_N_11, q_12c⟩ := q_12
    have hF_N_11 : Fr f_e_mark4 M N_11 := Fr.c hF_N_9 hG_N_11 rfl
    have hE_N_11 : Cf (fun x => (M (M c0 6) (M c0 7)) ≤ x ∧ x < (M (M c0 6) (M c0 7)) + 19) M N_11 := Cf.fr hE_N_9 hG_N_11 rfl
    have hX_N_11 : XX N_11 := XX.fr hX_N_9 hI_N_9 hG_N_11 rfl
    have e_13 : (N_11 c0 7) = (M c0 7) + 1 := by rw [Fr.e hG_N_11 hk_c0 _ rfl, hM_N_9, mu_s]
    have hk_kpm : kd (M (M (M c0 6) (M c0 7)) 6) = 8 := Inv.r hI_M hk_6 rfl 6 rfl rfl
    exact kx_iret F hQ ⟨hI_N_11, hF_N_11, (by omega), hX_N_11, hE_N_11, ⟨fun _ => ⟨(zSN.fr (zSN.fr hb_N_7.1 hk_6 (Fr.u (Fr.rf [(62, 7)] _) hM_N_9 hk_c0 rfl) rfl) hk_6 hG_N_11 rfl), (zSU.fr (zSU.fr hb_N_7.2 hI_N_7 hk_6 (Fr.u (Fr.rf [(62, 7)] _) hM_N_9 hk_c0 rfl) rfl) hI_N_9 hk_6 hG_N_11 rfl), fun g h => (zWN.fr (zWN.fr (hbw_N_7 g h) hI_N_7 hk_kpm (Fr.u (Fr.rf [(62, 7)] _) hM_N_9 hk_c0 rfl) rfl) hI_N_9 hk_kpm hG_N_11 rfl)⟩, fun h => by exfalso; omega⟩⟩ dX11_mark_48
  · refine kx_aload_n 9 F 0 dX11_mark_8 rfl rfl rfl ?_
    refine kx_iconst 10 F dX11_mark_9 rfl ?_
    refine kx_Vi 13 (ci := 0) F (As := [vI 4]) (st := []) vd_X11_110 (c_X11_refuse G l M c0 4 hI_M hk_c0 (by omega)) hk_c0 rfl rfl rfl ⟨by decide, by decide⟩ rfl rfl (Nat.le_of_ble_eq_true rfl) dX11_mark_10 rfl ?_
    intro r_15 N_16 q_17
    obtain ⟨hI_N_16, hG_N_16, q_17c⟩ := q_17
    have hF_N_16 : Fr f_e_mark4 M N_16 := Fr.c hF_M hG_N_16 rfl
    have hE_N_16 : Cf (fun x => (M (M c0 6) (M c0 7)) ≤ x ∧ x < (M (M c0 6) (M c0 7)) + 19) M N_16 := Cf.fr hE_M hG_N_16 rfl
    have hX_N_16 : XX N_16 := XX.fr hX_M hI_M hG_N_16 rfl
    subst q_17c
    have e_18 : (N_16 c0 7) = (M c0 7) := by rw [Fr.e hG_N_16 hk_c0 _ rfl]
    exact kx_iret F hQ ⟨hI_N_16, hF_N_16, (by omega), hX_N_16, hE_N_16, ⟨fun h => by exfalso; omega, fun _ => Cf.fr (Cf.rf _ M) hG_N_16 rfl⟩⟩ dX11_mark_13
abbrev f_e_go5 : List (Nat × Int) := [(8, 1), (8, 2), (8, 3), (8, 4), (9, -1), (10, -1), (11, -1)]
set_option maxHeartbeats 4000000 in
set_option maxRecDepth 100000 in
theorem e_go5 (G : KG) (l : Launch) (M : Mem) (c0 : Int) (c1 : Int) (a2 : Int) (a3 : Int) (hI_M : Inv false M) (hk_c0 : kd c0 = 8) (hk_c1 : kd c1 = 1) (hpre : -2147483648 ≤ a2 ∧ a2 ≤ 2147483647 ∧ -2147483648 ≤ a3 ∧ a3 ≤ 2147483647 ∧ 0 ≤ a2 ∧ a2 ≤ 5) : KC false G l yX10_go cX10_go 5 none (2, 48) [vR G c0, vR G c1, vI a2, vI a3] M (fun A => kQv false G A (fun (N : Mem) => Inv false N ∧ Fr f_e_go5 M N ∧ Cf (SWk M c0) M N)) := by
  refine kx_met (lo := [some (vR G c0), some (vR G c1), some (vI a2), some (vI a3), none]) (by decide) (Nat.le_of_ble_eq_true rfl) rfl ?_
  intro X F hQ
  have hF_M : Fr f_e_go5 M M := Fr.rf _ _
  have hE_M : Cf (SWk M c0) M M := Cf.rf _ _
  have hk_1 : kd (M c0 5) = 9 := Inv.r hI_M hk_c0 rfl 5 rfl rfl
  have hk_2 : kd (M c0 6) = 10 := Inv.r hI_M hk_c0 rfl 6 rfl rfl
  have hk_3 : kd (M c0 7) = 11 := Inv.r hI_M hk_c0 rfl 7 rfl rfl
  have hk_4 : kd (M c1 10) = 6 := Inv.r hI_M hk_c1 rfl 10 rfl rfl
  have hk_5 : kd (M c1 11) = 7 := Inv.r hI_M hk_c1 rfl 11 rfl rfl
  have hp2 := Inv.g hI_M hk_c0 rfl 2 (a := 0) (b := 30) rfl rfl
  refine kx_aload_n 1 F 0 dX10_go_0 rfl rfl rfl ?_
  refine kx_dup 2 F dX10_go_1 rfl rfl ?_
  refine kx_geti 5 F fl_X10_25 hk_c0 rfl rfl (j := 1) rfl dX10_go_2 (v := (M c0 1)) rfl rfl ?_
  have h_6 := Inv.g hI_M hk_c0 rfl 1 (a := (-2147483648)) (b := 2147483647) rfl rfl
  refine kx_iconst 6 F dX10_go_5 rfl ?_
  refine kx_iadd 7 F (v := (M c0 1) + 1) dX10_go_6 rfl rfl ?_
  refine kx_wrapi (fun w_7 h_8 _ => ?_)
  refine kx_puti 10 F fw_X10_25 rfl hk_c0 rfl rfl (j := 1) rfl dX10_go_7 rfl ?_
  intro N_9 hM_N_9
  have hI_N_9 : Inv false N_9 := Inv.u hI_M hM_N_9 hk_c0 (a := (-2147483648)) (b := 2147483647) rfl rfl rfl (by omega)
  have hF_N_9 : Fr f_e_go5 M N_9 := Fr.u hF_M hM_N_9 hk_c0 rfl
  have hE_N_9 : Cf (SWk M c0) M N_9 := Cf.st hE_M hM_N_9 (Or.inl rfl)
  refine kx_iload_n 11 F 3 dX10_go_10 rfl rfl rfl ?_
  refine kx_if_ne 14 F 100 dX10_go_11 (by decide) rfl (by omega) (fun h_10 => ?_) (fun h_10 => ?_)
  · refine kx_iload_n 101 F 3 dX10_go_100 rfl rfl rfl ?_
    refine kx_iconst 102 F dX10_go_101 rfl ?_
    refine kx_icmp_ne 105 F 181 dX10_go_102 (by decide) rfl (by omega) (by decide) (fun h_11 => ?_) (fun h_11 => ?_)
    · refine kx_aload_n 182 F 0 dX10_go_181 rfl rfl rfl ?_
      refine kx_aload_n 183 F 0 dX10_go_182 rfl rfl rfl ?_
      refine kx_geti 186 F fl_X10_36 hk_c0 rfl rfl (j := 3) rfl dX10_go_183 (v := (M c0 3)) (by rw [hM_N_9, mu_i (by omega)]) rfl ?_
      have h_12 := Inv.g hI_M hk_c0 rfl 3 (a := 0) (b := 7) rfl rfl
      refine kx_aload_n 187 F 1 dX10_go_186 rfl rfl rfl ?_
      refine kx_getr 190 F fl_X10_49 hk_c1 rfl rfl (j := 10) rfl dX10_go_187 (v := (M c1 10)) (by rw [hM_N_9, mu_k hk_c1 hk_c0 rfl]) rfl ?_
      refine kx_iload_n 191 F 2 dX10_go_190 rfl rfl rfl ?_
      refine kx_iald 192 F hk_4 rfl rfl (by omega) (by decide) dX10_go_191 (v := (M (M c1 10) a2)) (by rw [hM_N_9, mu_k hk_4 hk_c0 rfl]) rfl ?_
      have h_13 := Inv.g hI_M hk_4 rfl a2 (a := 0) (b := 511) rfl rfl
      refine kx_Si 195 F (As := [vI (M c0 3), vI (M (M c1 10) a2)]) (st := [vR G c0]) sd_X10_52 (e_image3 G l N_9 (M c0 3) (M (M c1 10) a2) hI_N_9 (by omega)) ⟨by decide, by decide⟩ rfl rfl (Nat.le_of_ble_eq_true rfl) dX10_go_192 rfl ?_
      intro r_14 N_15 q_16
      obtain ⟨rfl, q_16c, hz_N_15⟩ := q_16
      refine kx_puti 198 F fw_X10_36 rfl hk_c0 rfl rfl (j := 3) rfl dX10_go_195 rfl ?_
      intro N_17 hM_N_17
      have hI_N_17 : Inv false N_17 := Inv.u hI_N_9 hM_N_17 hk_c0 (a := 0) (b := 7) rfl rfl rfl (by omega)
      have hF_N_17 : Fr f_e_go5 M N_17 := Fr.u hF_N_9 hM_N_17 hk_c0 rfl
      have hE_N_17 : Cf (SWk M c0) M N_17 := Cf.st hE_N_9 hM_N_17 (Or.inl rfl)
      refine kx_aload_n 199 F 0 dX10_go_198 rfl rfl rfl ?_
      refine kx_aload_n 200 F 0 dX10_go_199 rfl rfl rfl ?_
      refine kx_geti 203 F fl_X10_46 hk_c0 rfl rfl (j := 4) rfl dX10_go_200 (v := (M c0 4)) (by rw [hM_N_17, mu_i (by omega), hM_N_9, mu_i (by omega)]) rfl ?_
      have h_18 := Inv.g hI_M hk_c0 rfl 4 (a := 0) (b := 511) rfl rfl
      refine kx_aload_n 204 F 1 dX10_go_203 rfl rfl rfl ?_
      refine kx_getr 207 F fl_X10_49 hk_c1 rfl rfl (j := 10) rfl dX10_go_204 (v := (M c1 10)) (by rw [hM_N_17, mu_k hk_c1 hk_c0 rfl, hM_N_9, mu_k hk_c1 hk_c0 rfl]) rfl ?_
      refine kx_iload_n 208 F 2 dX10_go_207 rfl rfl rfl ?_
      refine kx_iald 209 F hk_4 rfl rfl (by omega) (by decide) dX10_go_208 (v := (M (M c1 10) a2)) (by rw [hM_N_17, mu_k hk_4 hk_c0 rfl, hM_N_9, mu_k hk_4 hk_c0 rfl]) rfl ?_
      refine kx_Si 212 F (As := [vI (M c0 4), vI (M (M c1 10) a2)]) (st := [vR G c0]) sd_X10_60 (e_compose3 G l N_17 (M c0 4) (M (M c1 10) a2) hI_N_17 (by omega)) ⟨by decide, by decide⟩ rfl rfl (Nat.le_of_ble_eq_true rfl) dX10_go_209 rfl ?_
      intro r_19 N_20 q_21
      obtain ⟨rfl, q_21c, hz_N_20⟩ := q_21
      refine kx_puti 215 F fw_X10_46 rfl hk_c0 rfl rfl (j := 4) rfl dX10_go_212 rfl ?_
      intro N_22 hM_N_22
      have hI_N_22 : Inv false N_22 := Inv.u hI_N_17 hM_N_22 hk_c0 (a := 0) (b := 511) rfl rfl rfl (by omega)
      have hF_N_22 : Fr f_e_go5 M N_22 := Fr.u hF_N_17 hM_N_22 hk_c0 rfl
      have hE_N_22 : Cf (SWk M c0) M N_22 := Cf.st hE_N_17 hM_N_22 (Or.inl rfl)
      exact kx_vret F hQ ⟨hI_N_22, hF_N_22, hE_N_22⟩ dX10_go_215
    · refine kx_aload_n 106 F 0 dX10_go_105 rfl rfl rfl ?_
      refine kx_geti 109 F fl_X10_28 hk_c0 rfl rfl (j := 2) rfl dX10_go_106 (v := (M c0 2)) (by rw [hM_N_9, mu_i (by omega)]) rfl ?_
      refine kx_if_le 112 F 181 dX10_go_109 (by decide) rfl (by omega) (fun h_24 => ?_) (fun h_24 => ?_)
      · refine kx_aload_n 182 F 0 dX10_go_181 rfl rfl rfl ?_
        refine kx_aload_n 183 F 0 dX10_go_182 rfl rfl rfl ?_
        refine kx_geti 186 F fl_X10_36 hk_c0 rfl rfl (j := 3) rfl dX10_go_183 (v := (M c0 3)) (by rw [hM_N_9, mu_i (by omega)]) rfl ?_
        have h_25 := Inv.g hI_M hk_c0 rfl 3 (a := 0) (b := 7) rfl rfl
        refine kx_aload_n 187 F 1 dX10_go_186 rfl rfl rfl ?_
        refine kx_getr 190 F fl_X10_49 hk_c1 rfl rfl (j := 10) rfl dX10_go_187 (v := (M c1 10)) (by rw [hM_N_9, mu_k hk_c1 hk_c0 rfl]) rfl ?_
        refine kx_iload_n 191 F 2 dX10_go_190 rfl rfl rfl ?_
        refine kx_iald 192 F hk_4 rfl rfl (by omega) (by decide) dX10_go_191 (v := (M (M c1 10) a2)) (by rw [hM_N_9, mu_k hk_4 hk_c0 rfl]) rfl ?_
        have h_26 := Inv.g hI_M hk_4 rfl a2 (a := 0) (b := 511) rfl rfl
        refine kx_Si 195 F (As := [vI (M c0 3), vI (M (M c1 10) a2)]) (st := [vR G c0]) sd_X10_52 (e_image3 G l N_9 (M c0 3) (M (M c1 10) a2) hI_N_9 (by omega)) ⟨by decide, by decide⟩ rfl rfl (Nat.le_of_ble_eq_true rfl) dX10_go_192 rfl ?_
        intro r_27 N_28 q_29
        obtain ⟨rfl, q_29c, hz_N_28⟩ := q_29
        refine kx_puti 198 F fw_X10_36 rfl hk_c0 rfl rfl (j := 3) rfl dX10_go_195 rfl ?_
        intro N_30 hM_N_30
        have hI_N_30 : Inv false N_30 := Inv.u hI_N_9 hM_N_30 hk_c0 (a := 0) (b := 7) rfl rfl rfl (by omega)
        have hF_N_30 : Fr f_e_go5 M N_30 := Fr.u hF_N_9 hM_N_30 hk_c0 rfl
        have hE_N_30 : Cf (SWk M c0) M N_30 := Cf.st hE_N_9 hM_N_30 (Or.inl rfl)
        refine kx_aload_n 199 F 0 dX10_go_198 rfl rfl rfl ?_
        refine kx_aload_n 200 F 0 dX10_go_199 rfl rfl rfl ?_
        refine kx_geti 203 F fl_X10_46 hk_c0 rfl rfl (j := 4) rfl dX10_go_200 (v := (M c0 4)) (by rw [hM_N_30, mu_i (by omega), hM_N_9, mu_i (by omega)]) rfl ?_
        have h_31 := Inv.g hI_M hk_c0 rfl 4 (a := 0) (b := 511) rfl rfl
        refine kx_aload_n 204 F 1 dX10_go_203 rfl rfl rfl ?_
        refine kx_getr 207 F fl_X10_49 hk_c1 rfl rfl (j := 10) rfl dX10_go_204 (v := (M c1 10)) (by rw [hM_N_30, mu_k hk_c1 hk_c0 rfl, hM_N_9, mu_k hk_c1 hk_c0 rfl]) rfl ?_
        refine kx_iload_n 208 F 2 dX10_go_207 rfl rfl rfl ?_
        refine kx_iald 209 F hk_4 rfl rfl (by omega) (by decide) dX10_go_208 (v := (M (M c1 10) a2)) (by rw [hM_N_30, mu_k hk_4 hk_c0 rfl, hM_N_9, mu_k hk_4 hk_c0 rfl]) rfl ?_
        refine kx_Si 212 F (As := [vI (M c0 4), vI (M (M c1 10) a2)]) (st := [vR G c0]) sd_X10_60 (e_compose3 G l N_30 (M c0 4) (M (M c1 10) a2) hI_N_30 (by omega)) ⟨by decide, by decide⟩ rfl rfl (Nat.le_of_ble_eq_true rfl) dX10_go_209 rfl ?_
        intro r_32 N_33 q_34
        obtain ⟨rfl, q_34c, hz_N_33⟩ := q_34
        refine kx_puti 215 F fw_X10_46 rfl hk_c0 rfl rfl (j := 4) rfl dX10_go_212 rfl ?_
        intro N_35 hM_N_35
        have hI_N_35 : Inv false N_35 := Inv.u hI_N_30 hM_N_35 hk_c0 (a := 0) (b := 511) rfl rfl rfl (by omega)
        have hF_N_35 : Fr f_e_go5 M N_35 := Fr.u hF_N_30 hM_N_35 hk_c0 rfl
        have hE_N_35 : Cf (SWk M c0) M N_35 := Cf.st hE_N_30 hM_N_35 (Or.inl rfl)
        exact kx_vret F hQ ⟨hI_N_35, hF_N_35, hE_N_35⟩ dX10_go_215
      · refine kx_aload_n 113 F 0 dX10_go_112 rfl rfl rfl ?_
        refine kx_dup 114 F dX10_go_113 rfl rfl ?_
        refine kx_geti 117 F fl_X10_28 hk_c0 rfl rfl (j := 2) rfl dX10_go_114 (v := (M c0 2)) (by rw [hM_N_9, mu_i (by omega)]) rfl ?_
        refine kx_iconst 118 F dX10_go_117 rfl ?_
        refine kx_isub 119 F (v := (M c0 2) - 1) dX10_go_118 rfl rfl ?_
        refine kx_puti 122 F fw_X10_28 rfl hk_c0 rfl rfl (j := 2) rfl dX10_go_119 rfl ?_
        intro N_36 hM_N_36
        have hI_N_36 : Inv false N_36 := Inv.u hI_N_9 hM_N_36 hk_c0 (a := 0) (b := 30) rfl rfl rfl (by omega)
        have hF_N_36 : Fr f_e_go5 M N_36 := Fr.u hF_N_9 hM_N_36 hk_c0 rfl
        have hE_N_36 : Cf (SWk M c0) M N_36 := Cf.st hE_N_9 hM_N_36 (Or.inl rfl)
        refine kx_aload_n 123 F 1 dX10_go_122 rfl rfl rfl ?_
        refine kx_aload_n 124 F 0 dX10_go_123 rfl rfl rfl ?_
        refine kx_getr 127 F fl_X10_22 hk_c0 rfl rfl (j := 7) rfl dX10_go_124 (v := (M c0 7)) (by rw [hM_N_36, mu_i (by omega), hM_N_9, mu_i (by omega)]) rfl ?_
        refine kx_aload_n 128 F 0 dX10_go_127 rfl rfl rfl ?_
        refine kx_geti 131 F fl_X10_28 hk_c0 rfl rfl (j := 2) rfl dX10_go_128 (v := (M c0 2) - 1) (by rw [hM_N_36, mu_s]) rfl ?_
        refine kx_iald 132 F hk_3 rfl rfl (by omega) (by decide) dX10_go_131 (v := (M (M c0 7) ((M c0 2) - 1))) (by rw [hM_N_36, mu_k hk_3 hk_c0 rfl, hM_N_9, mu_k hk_3 hk_c0 rfl]) rfl ?_
        have h_37 := Inv.g hI_M hk_3 rfl ((M c0 2) - 1) (a := 0) (b := 5) rfl rfl
        refine kx_iload_n 133 F 2 dX10_go_132 rfl rfl rfl ?_
        refine kx_aload_n 134 F 0 dX10_go_133 rfl rfl rfl ?_
        refine kx_geti 137 F fl_X10_46 hk_c0 rfl rfl (j := 4) rfl dX10_go_134 (v := (M c0 4)) (by rw [hM_N_36, mu_i (by omega), hM_N_9, mu_i (by omega)]) rfl ?_
        have h_38 := Inv.g hI_M hk_c0 rfl 4 (a := 0) (b := 511) rfl rfl
        refine kx_Vi 140 (ci := 0) F (As := [vI (M (M c0 7) ((M c0 2) - 1)), vI a2, vI (M c0 4)]) (st := []) vd_X10_56 (e_over3 G l N_36 c1 (M (M c0 7) ((M c0 2) - 1)) a2 (M c0 4) hI_N_36 hk_c1 (by omega)) hk_c1 rfl rfl rfl ⟨by decide, by decide⟩ rfl rfl (Nat.le_of_ble_eq_true rfl) dX10_go_137 rfl ?_
        intro r_39 N_40 q_41
        obtain ⟨rfl, q_41c, hz_N_40⟩ := q_41
        refine kx_istore 142 F 4 (lo' := [some (vR G c0), some (vR G c1), some (vI a2), some (vI a3), some (vI r_39)]) dX10_go_140 (by decide) rfl rfl rfl ?_
        refine kx_aload_n 143 F 0 dX10_go_142 rfl rfl rfl ?_
        refine kx_aload_n 144 F 0 dX10_go_143 rfl rfl rfl ?_
        refine kx_getr 147 F fl_X10_15 hk_c0 rfl rfl (j := 5) rfl dX10_go_144 (v := (M c0 5)) (by rw [hM_N_36, mu_i (by omega), hM_N_9, mu_i (by omega)]) rfl ?_
        refine kx_aload_n 148 F 0 dX10_go_147 rfl rfl rfl ?_
        refine kx_geti 151 F fl_X10_28 hk_c0 rfl rfl (j := 2) rfl dX10_go_148 (v := (M c0 2) - 1) (by rw [hM_N_36, mu_s]) rfl ?_
        refine kx_iald 152 F hk_1 rfl rfl (by omega) (by decide) dX10_go_151 (v := (M (M c0 5) ((M c0 2) - 1))) (by rw [hM_N_36, mu_k hk_1 hk_c0 rfl, hM_N_9, mu_k hk_1 hk_c0 rfl]) rfl ?_
        have h_42 := Inv.g hI_M hk_1 rfl ((M c0 2) - 1) (a := 0) (b := 7) rfl rfl
        refine kx_iload 154 F 4 dX10_go_152 rfl rfl ?_
        refine kx_Si 157 F (As := [vI (M (M c0 5) ((M c0 2) - 1)), vI r_39]) (st := [vR G c0]) sd_X10_52 (e_image3 G l N_36 (M (M c0 5) ((M c0 2) - 1)) r_39 hI_N_36 (by omega)) ⟨by decide, by decide⟩ rfl rfl (Nat.le_of_ble_eq_true rfl) dX10_go_154 rfl ?_
        intro r_43 N_44 q_45
        obtain ⟨rfl, q_45c, hz_N_44⟩ := q_45
        refine kx_puti 160 F fw_X10_36 rfl hk_c0 rfl rfl (j := 3) rfl dX10_go_157 rfl ?_
        intro N_46 hM_N_46
        have hI_N_46 : Inv false N_46 := Inv.u hI_N_36 hM_N_46 hk_c0 (a := 0) (b := 7) rfl rfl rfl (by omega)
        have hF_N_46 : Fr f_e_go5 M N_46 := Fr.u hF_N_36 hM_N_46 hk_c0 rfl
        have hE_N_46 : Cf (SWk M c0) M N_46 := Cf.st hE_N_36 hM_N_46 (Or.inl rfl)
        refine kx_aload_n 161 F 0 dX10_go_160 rfl rfl rfl ?_
        refine kx_aload_n 162 F 0 dX10_go_161 rfl rfl rfl ?_
        refine kx_getr 165 F fl_X10_19 hk_c0 rfl rfl (j := 6) rfl dX10_go_162 (v := (M c0 6)) (by rw [hM_N_46, mu_i (by omega), hM_N_36, mu_i (by omega), hM_N_9, mu_i (by omega)]) rfl ?_
        refine kx_aload_n 166 F 0 dX10_go_165 rfl rfl rfl ?_
        refine kx_geti 169 F fl_X10_28 hk_c0 rfl rfl (j := 2) rfl dX10_go_166 (v := (M c0 2) - 1) (by rw [hM_N_46, mu_i (by omega), hM_N_36, mu_s]) rfl ?_
        refine kx_iald 170 F hk_2 rfl rfl (by omega) (by decide) dX10_go_169 (v := (M (M c0 6) ((M c0 2) - 1))) (by rw [hM_N_46, mu_k hk_2 hk_c0 rfl, hM_N_36, mu_k hk_2 hk_c0 rfl, hM_N_9, mu_k hk_2 hk_c0 rfl]) rfl ?_
        have h_47 := Inv.g hI_M hk_2 rfl ((M c0 2) - 1) (a := 0) (b := 511) rfl rfl
        refine kx_iload 172 F 4 dX10_go_170 rfl rfl ?_
        refine kx_Si 175 F (As := [vI (M (M c0 6) ((M c0 2) - 1)), vI r_39]) (st := [vR G c0]) sd_X10_60 (e_compose3 G l N_46 (M (M c0 6) ((M c0 2) - 1)) r_39 hI_N_46 (by omega)) ⟨by decide, by decide⟩ rfl rfl (Nat.le_of_ble_eq_true rfl) dX10_go_172 rfl ?_
        intro r_48 N_49 q_50
        obtain ⟨rfl, q_50c, hz_N_49⟩ := q_50
        refine kx_puti 178 F fw_X10_46 rfl hk_c0 rfl rfl (j := 4) rfl dX10_go_175 rfl ?_
        intro N_51 hM_N_51
        have hI_N_51 : Inv false N_51 := Inv.u hI_N_46 hM_N_51 hk_c0 (a := 0) (b := 511) rfl rfl rfl (by omega)
        have hF_N_51 : Fr f_e_go5 M N_51 := Fr.u hF_N_46 hM_N_51 hk_c0 rfl
        have hE_N_51 : Cf (SWk M c0) M N_51 := Cf.st hE_N_46 hM_N_51 (Or.inl rfl)
        refine kx_goto 215 F dX10_go_178 (by decide) ?_
        exact kx_vret F hQ ⟨hI_N_51, hF_N_51, hE_N_51⟩ dX10_go_215
  · refine kx_aload_n 15 F 0 dX10_go_14 rfl rfl rfl ?_
    refine kx_geti 18 F fl_X10_28 hk_c0 rfl rfl (j := 2) rfl dX10_go_15 (v := (M c0 2)) (by rw [hM_N_9, mu_i (by omega)]) rfl ?_
    refine kx_bipush 20 F dX10_go_18 (by decide) rfl ?_
    refine kx_icmp_ge 23 F 100 dX10_go_20 (by decide) rfl (by omega) (by decide) (fun h_53 => ?_) (fun h_53 => ?_)
    · refine kx_iload_n 101 F 3 dX10_go_100 rfl rfl rfl ?_
      refine kx_iconst 102 F dX10_go_101 rfl ?_
      refine kx_icmp_ne 105 F 181 dX10_go_102 (by decide) rfl (by omega) (by decide) (fun h_54 => ?_) (fun h_54 => (by exfalso; omega))
      refine kx_aload_n 182 F 0 dX10_go_181 rfl rfl rfl ?_
      refine kx_aload_n 183 F 0 dX10_go_182 rfl rfl rfl ?_
      refine kx_geti 186 F fl_X10_36 hk_c0 rfl rfl (j := 3) rfl dX10_go_183 (v := (M c0 3)) (by rw [hM_N_9, mu_i (by omega)]) rfl ?_
      have h_55 := Inv.g hI_M hk_c0 rfl 3 (a := 0) (b := 7) rfl rfl
      refine kx_aload_n 187 F 1 dX10_go_186 rfl rfl rfl ?_
      refine kx_getr 190 F fl_X10_49 hk_c1 rfl rfl (j := 10) rfl dX10_go_187 (v := (M c1 10)) (by rw [hM_N_9, mu_k hk_c1 hk_c0 rfl]) rfl ?_
      refine kx_iload_n 191 F 2 dX10_go_190 rfl rfl rfl ?_
      refine kx_iald 192 F hk_4 rfl rfl (by omega) (by decide) dX10_go_191 (v := (M (M c1 10) a2)) (by rw [hM_N_9, mu_k hk_4 hk_c0 rfl]) rfl ?_
      have h_56 := Inv.g hI_M hk_4 rfl a2 (a := 0) (b := 511) rfl rfl
      refine kx_Si 195 F (As := [vI (M c0 3), vI (M (M c1 10) a2)]) (st := [vR G c0]) sd_X10_52 (e_image3 G l N_9 (M c0 3) (M (M c1 10) a2) hI_N_9 (by omega)) ⟨by decide, by decide⟩ rfl rfl (Nat.le_of_ble_eq_true rfl) dX10_go_192 rfl ?_
      intro r_57 N_58 q_59
      obtain ⟨rfl, q_59c, hz_N_58⟩ := q_59
      refine kx_puti 198 F fw_X10_36 rfl hk_c0 rfl rfl (j := 3) rfl dX10_go_195 rfl ?_
      intro N_60 hM_N_60
      have hI_N_60 : Inv false N_60 := Inv.u hI_N_9 hM_N_60 hk_c0 (a := 0) (b := 7) rfl rfl rfl (by omega)
      have hF_N_60 : Fr f_e_go5 M N_60 := Fr.u hF_N_9 hM_N_60 hk_c0 rfl
      have hE_N_60 : Cf (SWk M c0) M N_60 := Cf.st hE_N_9 hM_N_60 (Or.inl rfl)
      refine kx_aload_n 199 F 0 dX10_go_198 rfl rfl rfl ?_
      refine kx_aload_n 200 F 0 dX10_go_199 rfl rfl rfl ?_
      refine kx_geti 203 F fl_X10_46 hk_c0 rfl rfl (j := 4) rfl dX10_go_200 (v := (M c0 4)) (by rw [hM_N_60, mu_i (by omega), hM_N_9, mu_i (by omega)]) rfl ?_
      have h_61 := Inv.g hI_M hk_c0 rfl 4 (a := 0) (b := 511) rfl rfl
      refine kx_aload_n 204 F 1 dX10_go_203 rfl rfl rfl ?_
      refine kx_getr 207 F fl_X10_49 hk_c1 rfl rfl (j := 10) rfl dX10_go_204 (v := (M c1 10)) (by rw [hM_N_60, mu_k hk_c1 hk_c0 rfl, hM_N_9, mu_k hk_c1 hk_c0 rfl]) rfl ?_
      refine kx_iload_n 208 F 2 dX10_go_207 rfl rfl rfl ?_
      refine kx_iald 209 F hk_4 rfl rfl (by omega) (by decide) dX10_go_208 (v := (M (M c1 10) a2)) (by rw [hM_N_60, mu_k hk_4 hk_c0 rfl, hM_N_9, mu_k hk_4 hk_c0 rfl]) rfl ?_
      refine kx_Si 212 F (As := [vI (M c0 4), vI (M (M c1 10) a2)]) (st := [vR G c0]) sd_X10_60 (e_compose3 G l N_60 (M c0 4) (M (M c1 10) a2) hI_N_60 (by omega)) ⟨by decide, by decide⟩ rfl rfl (Nat.le_of_ble_eq_true rfl) dX10_go_209 rfl ?_
      intro r_62 N_63 q_64
      obtain ⟨rfl, q_64c, hz_N_63⟩ := q_64
      refine kx_puti 215 F fw_X10_46 rfl hk_c0 rfl rfl (j := 4) rfl dX10_go_212 rfl ?_
      intro N_65 hM_N_65
      have hI_N_65 : Inv false N_65 := Inv.u hI_N_60 hM_N_65 hk_c0 (a := 0) (b := 511) rfl rfl rfl (by omega)
      have hF_N_65 : Fr f_e_go5 M N_65 := Fr.u hF_N_60 hM_N_65 hk_c0 rfl
      have hE_N_65 : Cf (SWk M c0) M N_65 := Cf.st hE_N_60 hM_N_65 (Or.inl rfl)
      exact kx_vret F hQ ⟨hI_N_65, hF_N_65, hE_N_65⟩ dX10_go_215
    · refine kx_aload_n 24 F 0 dX10_go_23 rfl rfl rfl ?_
      refine kx_getr 27 F fl_X10_15 hk_c0 rfl rfl (j := 5) rfl dX10_go_24 (v := (M c0 5)) (by rw [hM_N_9, mu_i (by omega)]) rfl ?_
      refine kx_aload_n 28 F 0 dX10_go_27 rfl rfl rfl ?_
      refine kx_geti 31 F fl_X10_28 hk_c0 rfl rfl (j := 2) rfl dX10_go_28 (v := (M c0 2)) (by rw [hM_N_9, mu_i (by omega)]) rfl ?_
      refine kx_aload_n 32 F 0 dX10_go_31 rfl rfl rfl ?_
      refine kx_geti 35 F fl_X10_36 hk_c0 rfl rfl (j := 3) rfl dX10_go_32 (v := (M c0 3)) (by rw [hM_N_9, mu_i (by omega)]) rfl ?_
      have h_66 := Inv.g hI_M hk_c0 rfl 3 (a := 0) (b := 7) rfl rfl
      refine kx_iast 36 F hk_1 rfl rfl (by omega) (by decide) dX10_go_35 rfl ?_
      intro N_67 hM_N_67
      have hI_N_67 : Inv false N_67 := Inv.u hI_N_9 hM_N_67 hk_1 (a := 0) (b := 7) rfl rfl rfl (by omega)
      have hF_N_67 : Fr f_e_go5 M N_67 := Fr.u hF_N_9 hM_N_67 hk_1 rfl
      have hE_N_67 : Cf (SWk M c0) M N_67 := Cf.st hE_N_9 hM_N_67 (Or.inr (Or.inl rfl))
      refine kx_aload_n 37 F 0 dX10_go_36 rfl rfl rfl ?_
      refine kx_getr 40 F fl_X10_19 hk_c0 rfl rfl (j := 6) rfl dX10_go_37 (v := (M c0 6)) (by rw [hM_N_67, mu_k hk_c0 hk_1 rfl, hM_N_9, mu_i (by omega)]) rfl ?_
      refine kx_aload_n 41 F 0 dX10_go_40 rfl rfl rfl ?_
      refine kx_geti 44 F fl_X10_28 hk_c0 rfl rfl (j := 2) rfl dX10_go_41 (v := (M c0 2)) (by rw [hM_N_67, mu_k hk_c0 hk_1 rfl, hM_N_9, mu_i (by omega)]) rfl ?_
      refine kx_aload_n 45 F 0 dX10_go_44 rfl rfl rfl ?_
      refine kx_geti 48 F fl_X10_46 hk_c0 rfl rfl (j := 4) rfl dX10_go_45 (v := (M c0 4)) (by rw [hM_N_67, mu_k hk_c0 hk_1 rfl, hM_N_9, mu_i (by omega)]) rfl ?_
      have h_68 := Inv.g hI_M hk_c0 rfl 4 (a := 0) (b := 511) rfl rfl
      refine kx_iast 49 F hk_2 rfl rfl (by omega) (by decide) dX10_go_48 rfl ?_
      intro N_69 hM_N_69
      have hI_N_69 : Inv false N_69 := Inv.u hI_N_67 hM_N_69 hk_2 (a := 0) (b := 511) rfl rfl rfl (by omega)
      have hF_N_69 : Fr f_e_go5 M N_69 := Fr.u hF_N_67 hM_N_69 hk_2 rfl
      have hE_N_69 : Cf (SWk M c0) M N_69 := Cf.st hE_N_67 hM_N_69 (Or.inr (Or.inr (Or.inl rfl)))
      refine kx_aload_n 50 F 0 dX10_go_49 rfl rfl rfl ?_
      refine kx_getr 53 F fl_X10_22 hk_c0 rfl rfl (j := 7) rfl dX10_go_50 (v := (M c0 7)) (by rw [hM_N_69, mu_k hk_c0 hk_2 rfl, hM_N_67, mu_k hk_c0 hk_1 rfl, hM_N_9, mu_i (by omega)]) rfl ?_
      refine kx_aload_n 54 F 0 dX10_go_53 rfl rfl rfl ?_
      refine kx_geti 57 F fl_X10_28 hk_c0 rfl rfl (j := 2) rfl dX10_go_54 (v := (M c0 2)) (by rw [hM_N_69, mu_k hk_c0 hk_2 rfl, hM_N_67, mu_k hk_c0 hk_1 rfl, hM_N_9, mu_i (by omega)]) rfl ?_
      refine kx_iload_n 58 F 2 dX10_go_57 rfl rfl rfl ?_
      refine kx_iast 59 F hk_3 rfl rfl (by omega) (by decide) dX10_go_58 rfl ?_
      intro N_70 hM_N_70
      have hI_N_70 : Inv false N_70 := Inv.u hI_N_69 hM_N_70 hk_3 (a := 0) (b := 5) rfl rfl rfl (by omega)
      have hF_N_70 : Fr f_e_go5 M N_70 := Fr.u hF_N_69 hM_N_70 hk_3 rfl
      have hE_N_70 : Cf (SWk M c0) M N_70 := Cf.st hE_N_69 hM_N_70 (Or.inr (Or.inr (Or.inr rfl)))
      refine kx_aload_n 60 F 0 dX10_go_59 rfl rfl rfl ?_
      refine kx_dup 61 F dX10_go_60 rfl rfl ?_
      refine kx_geti 64 F fl_X10_28 hk_c0 rfl rfl (j := 2) rfl dX10_go_61 (v := (M c0 2)) (by rw [hM_N_70, mu_k hk_c0 hk_3 rfl, hM_N_69, mu_k hk_c0 hk_2 rfl, hM_N_67, mu_k hk_c0 hk_1 rfl, hM_N_9, mu_i (by omega)]) rfl ?_
      refine kx_iconst 65 F dX10_go_64 rfl ?_
      refine kx_iadd 66 F (v := (M c0 2) + 1) dX10_go_65 rfl rfl ?_
      refine kx_puti 69 F fw_X10_28 rfl hk_c0 rfl rfl (j := 2) rfl dX10_go_66 rfl ?_
      intro N_71 hM_N_71
      have hI_N_71 : Inv false N_71 := Inv.u hI_N_70 hM_N_71 hk_c0 (a := 0) (b := 30) rfl rfl rfl (by omega)
      have hF_N_71 : Fr f_e_go5 M N_71 := Fr.u hF_N_70 hM_N_71 hk_c0 rfl
      have hE_N_71 : Cf (SWk M c0) M N_71 := Cf.st hE_N_70 hM_N_71 (Or.inl rfl)
      refine kx_aload_n 70 F 0 dX10_go_69 rfl rfl rfl ?_
      refine kx_aload_n 71 F 0 dX10_go_70 rfl rfl rfl ?_
      refine kx_geti 74 F fl_X10_36 hk_c0 rfl rfl (j := 3) rfl dX10_go_71 (v := (M c0 3)) (by rw [hM_N_71, mu_i (by omega), hM_N_70, mu_k hk_c0 hk_3 rfl, hM_N_69, mu_k hk_c0 hk_2 rfl, hM_N_67, mu_k hk_c0 hk_1 rfl, hM_N_9, mu_i (by omega)]) rfl ?_
      refine kx_aload_n 75 F 1 dX10_go_74 rfl rfl rfl ?_
      refine kx_getr 78 F fl_X10_49 hk_c1 rfl rfl (j := 10) rfl dX10_go_75 (v := (M c1 10)) (by rw [hM_N_71, mu_k hk_c1 hk_c0 rfl, hM_N_70, mu_k hk_c1 hk_3 rfl, hM_N_69, mu_k hk_c1 hk_2 rfl, hM_N_67, mu_k hk_c1 hk_1 rfl, hM_N_9, mu_k hk_c1 hk_c0 rfl]) rfl ?_
      refine kx_iload_n 79 F 2 dX10_go_78 rfl rfl rfl ?_
      refine kx_iald 80 F hk_4 rfl rfl (by omega) (by decide) dX10_go_79 (v := (M (M c1 10) a2)) (by rw [hM_N_71, mu_k hk_4 hk_c0 rfl, hM_N_70, mu_k hk_4 hk_3 rfl, hM_N_69, mu_k hk_4 hk_2 rfl, hM_N_67, mu_k hk_4 hk_1 rfl, hM_N_9, mu_k hk_4 hk_c0 rfl]) rfl ?_
      have h_72 := Inv.g hI_M hk_4 rfl a2 (a := 0) (b := 511) rfl rfl
      refine kx_Si 83 F (As := [vI (M c0 3), vI (M (M c1 10) a2)]) (st := [vR G c0]) sd_X10_52 (e_image3 G l N_71 (M c0 3) (M (M c1 10) a2) hI_N_71 (by omega)) ⟨by decide, by decide⟩ rfl rfl (Nat.le_of_ble_eq_true rfl) dX10_go_80 rfl ?_
      intro r_73 N_74 q_75
      obtain ⟨rfl, q_75c, hz_N_74⟩ := q_75
      refine kx_puti 86 F fw_X10_36 rfl hk_c0 rfl rfl (j := 3) rfl dX10_go_83 rfl ?_
      intro N_76 hM_N_76
      have hI_N_76 : Inv false N_76 := Inv.u hI_N_71 hM_N_76 hk_c0 (a := 0) (b := 7) rfl rfl rfl (by omega)
      have hF_N_76 : Fr f_e_go5 M N_76 := Fr.u hF_N_71 hM_N_76 hk_c0 rfl
      have hE_N_76 : Cf (SWk M c0) M N_76 := Cf.st hE_N_71 hM_N_76 (Or.inl rfl)
      refine kx_aload_n 87 F 0 dX10_go_86 rfl rfl rfl ?_
      refine kx_aload_n 88 F 1 dX10_go_87 rfl rfl rfl ?_
      refine kx_geti 91 F fl_X10_39 hk_c1 rfl rfl (j := 0) rfl dX10_go_88 (v := (M c1 0)) (by rw [hM_N_76, mu_k hk_c1 hk_c0 rfl, hM_N_71, mu_k hk_c1 hk_c0 rfl, hM_N_70, mu_k hk_c1 hk_3 rfl, hM_N_69, mu_k hk_c1 hk_2 rfl, hM_N_67, mu_k hk_c1 hk_1 rfl, hM_N_9, mu_k hk_c1 hk_c0 rfl]) rfl ?_
      have h_77 := Inv.g hI_M hk_c1 rfl 0 (a := 0) (b := 3) rfl rfl
      refine kx_Si 94 F (As := [vI (M c1 0)]) (st := [vR G c0]) sd_X10_40 (e_identity3 G l N_76 (M c1 0) hI_N_76 (by omega)) ⟨by decide, by decide⟩ rfl rfl (Nat.le_of_ble_eq_true rfl) dX10_go_91 rfl ?_
      intro r_78 N_79 q_80
      obtain ⟨rfl, q_80c, hz_N_79⟩ := q_80
      refine kx_puti 97 F fw_X10_46 rfl hk_c0 rfl rfl (j := 4) rfl dX10_go_94 rfl ?_
      intro N_81 hM_N_81
      have hI_N_81 : Inv false N_81 := Inv.u hI_N_76 hM_N_81 hk_c0 (a := 0) (b := 511) rfl rfl rfl (by omega)
      have hF_N_81 : Fr f_e_go5 M N_81 := Fr.u hF_N_76 hM_N_81 hk_c0 rfl
      have hE_N_81 : Cf (SWk M c0) M N_81 := Cf.st hE_N_76 hM_N_81 (Or.inl rfl)
      refine kx_goto 215 F dX10_go_97 (by decide) ?_
      exact kx_vret F hQ ⟨hI_N_81, hF_N_81, hE_N_81⟩ dX10_go_215
abbrev f_e_walkDrawn5 : List (Nat × Int) := [(8, 1), (8, 2), (8, 3), (8, 4), (9, -1), (10, -1), (11, -1), (62, 14)]
set_option maxHeartbeats 4000000 in
set_option maxRecDepth 100000 in
theorem e_walkDrawn5 (G : KG) (l : Launch) (M : Mem) (c0 : Int) (c1 : Int) (a2 : Int) (hI_M : Inv false M) (hk_c0 : kd c0 = 62) (hk_c1 : kd c1 = 1) (hpre : -2147483648 ≤ a2 ∧ a2 ≤ 2147483647) : KC false G l yX11_walkDrawn cX11_walkDrawn 5 none (3, 72) [vR G c0, vR G c1, vI a2] M (fun A => kQv false G A (fun (N : Mem) => Inv false N ∧ Fr f_e_walkDrawn5 M N ∧ Cf (SWk M (M c0 12)) M N)) := by
  refine kx_met (lo := [some (vR G c0), some (vR G c1), some (vI a2), none, none]) (by decide) (Nat.le_of_ble_eq_true rfl) rfl ?_
  intro X F hQ
  have hF_M : Fr f_e_walkDrawn5 M M := Fr.rf _ _
  have hE_M : Cf (SWk M (M c0 12)) M M := Cf.rf _ _
  have hk_1 : kd (M c0 12) = 8 := Inv.r hI_M hk_c0 rfl 12 rfl rfl
  refine kx_aload_n 1 F 0 dX11_walkDrawn_0 rfl rfl rfl ?_
  refine kx_getr 4 F fl_X11_61 hk_c0 rfl rfl (j := 12) rfl dX11_walkDrawn_1 (v := (M c0 12)) rfl rfl ?_
  refine kx_aload_n 5 F 1 dX11_walkDrawn_4 rfl rfl rfl ?_
  refine kx_Vv 8 (ci := 0) F (As := [vR G c1]) (st := []) vd_X11_370 (e_begin4 G l M (M c0 12) c1 hI_M hk_1 hk_c1) hk_1 rfl rfl rfl ⟨by decide, by decide⟩ rfl rfl (Nat.le_of_ble_eq_true rfl) dX11_walkDrawn_5 rfl ?_
  intro N_2 q_3
  obtain ⟨hI_N_2, hG_N_2, q_3c, hC_N_2, hbg_N_2⟩ := q_3
  have hF_N_2 : Fr f_e_walkDrawn5 M N_2 := Fr.c hF_M hG_N_2 rfl
  have hE_N_2 : Cf (SWk M (M c0 12)) M N_2 := Cf.c hE_M hC_N_2 (fun y hy => hy)
  have h_4 := Inv.g hI_N_2 hk_1 rfl 1 (a := (-2147483648)) (b := 2147483647) rfl rfl
  have h_5 := Inv.g hI_N_2 hk_1 rfl 2 (a := 0) (b := 30) rfl rfl
  have h_6 := Inv.g hI_M hk_c1 rfl 2 (a := 0) (b := 7) rfl rfl
  have h_7 := Inv.g hI_N_2 hk_1 rfl 3 (a := 0) (b := 7) rfl rfl
  refine kx_iconst 9 F dX11_walkDrawn_8 rfl ?_
  refine kx_istore_n 10 F 3 (lo' := [some (vR G c0), some (vR G c1), some (vI a2), some (vI 0), none]) dX11_walkDrawn_9 rfl (by decide) rfl rfl rfl ?_
  have L_304 : ∀ (n_305 : Nat) (x3_302 : Int) (N_303 : Mem), Inv false N_303 → Fr f_e_walkDrawn5 M N_303 → Cf (SWk M (M c0 12)) M N_303 → 0 ≤ x3_302 ∧ x3_302 ≤ 2147483647 → (2147483647 - (x3_302)).toNat = n_305 → KJ false G X N_303 10 [some (vR G c0), some (vR G c1), some (vI a2), some (vI x3_302), none] [] := by
    intro n_305
    refine Nat.strongRecOn n_305 ?_
    intro n_305 ih_306 x3_302 N_303 hI_N_303 hF_N_303 hE_N_303 h_307 hm_308
    refine kx_iload_n 11 F 3 dX11_walkDrawn_10 rfl rfl rfl ?_
    refine kx_iload_n 12 F 2 dX11_walkDrawn_11 rfl rfl rfl ?_
    refine kx_icmp_ge 15 F 53 dX11_walkDrawn_12 (by decide) rfl (by omega) (by omega) (fun h_309 => ?_) (fun h_309 => ?_)
    · exact kx_vret F hQ ⟨hI_N_303, hF_N_303, hE_N_303⟩ dX11_walkDrawn_53
    · refine kx_aload_n 16 F 0 dX11_walkDrawn_15 rfl rfl rfl ?_
      refine kx_aload_n 17 F 0 dX11_walkDrawn_16 rfl rfl rfl ?_
      refine kx_getr 20 F fl_X11_26 hk_c0 rfl rfl (j := 5) rfl dX11_walkDrawn_17 (v := (M c0 5)) (by rw [Fr.e hF_N_303 hk_c0 _ rfl]) rfl ?_
      have hk_310 : kd (M c0 5) = 12 := Inv.r hI_M hk_c0 rfl 5 rfl rfl
      refine kx_geti 23 F fl_X11_160 hk_310 rfl rfl (j := 2) rfl dX11_walkDrawn_20 (v := (M (M c0 5) 2)) (by rw [Fr.e hF_N_303 hk_310 _ rfl]) rfl ?_
      have h_311 := Inv.g hI_M hk_310 rfl 2 (a := 0) (b := 6) rfl rfl
      refine kx_Vi 26 (ci := 0) F (As := [vI (M (M c0 5) 2)]) (st := []) vd_X11_360 (c_X11_draw G l N_303 c0 (M (M c0 5) 2) hI_N_303 hk_c0 (by omega)) hk_c0 rfl rfl rfl ⟨by decide, by decide⟩ rfl rfl (Nat.le_of_ble_eq_true rfl) dX11_walkDrawn_23 rfl ?_
      intro r_312 N_313 q_314
      obtain ⟨hI_N_313, hG_N_313, q_314c⟩ := q_314
      have hF_N_313 : Fr f_e_walkDrawn5 M N_313 := Fr.c hF_N_303 hG_N_313 rfl
      have hE_N_313 : Cf (SWk M (M c0 12)) M N_313 := Cf.fr hE_N_303 hG_N_313 rfl
      refine kx_istore 28 F 4 (lo' := [some (vR G c0), some (vR G c1), some (vI a2), some (vI x3_302), some (vI r_312)]) dX11_walkDrawn_26 (by decide) rfl rfl rfl ?_
      refine kx_aload_n 29 F 0 dX11_walkDrawn_28 rfl rfl rfl ?_
      refine kx_getr 32 F fl_X11_61 hk_c0 rfl rfl (j := 12) rfl dX11_walkDrawn_29 (v := (M c0 12)) (by rw [Fr.e hG_N_313 hk_c0 _ rfl, Fr.e hF_N_303 hk_c0 _ rfl]) rfl ?_
      refine kx_aload_n 33 F 1 dX11_walkDrawn_32 rfl rfl rfl ?_
      refine kx_iload 35 F 4 dX11_walkDrawn_33 rfl rfl ?_
      refine kx_aload_n 36 F 0 dX11_walkDrawn_35 rfl rfl rfl ?_
      refine kx_getr 39 F fl_X11_26 hk_c0 rfl rfl (j := 5) rfl dX11_walkDrawn_36 (v := (M c0 5)) (by rw [Fr.e hG_N_313 hk_c0 _ rfl, Fr.e hF_N_303 hk_c0 _ rfl]) rfl ?_
      refine kx_iload 41 F 4 dX11_walkDrawn_39 rfl rfl ?_
      refine kx_Vi 44 (ci := 0) F (As := [vI r_312]) (st := [vI r_312, vR G c1, vR G (M c0 12)]) vd_X11_242 (e_X5_sortOf G l N_313 (M c0 5) r_312 hI_N_313 hk_310 (by omega)) hk_310 rfl rfl rfl ⟨by decide, by decide⟩ rfl rfl (Nat.le_of_ble_eq_true rfl) dX11_walkDrawn_41 rfl ?_
      intro r_315 N_316 q_317
      obtain ⟨rfl, q_317c⟩ := q_317
      have e_318 : (N_313 (M c0 5) 2) = (M (M c0 5) 2) := by rw [Fr.e hG_N_313 hk_310 _ rfl, Fr.e hF_N_303 hk_310 _ rfl]
      have e_320 : (N_313 (M c0 5) 0) = (M (M c0 5) 0) := by rw [Fr.e hG_N_313 hk_310 _ rfl, Fr.e hF_N_303 hk_310 _ rfl]
      have h_321 := Inv.g hI_M hk_310 rfl 0 (a := 0) (b := 2) rfl rfl
      have e_328 : (N_313 (M c0 5) 1) = (M (M c0 5) 1) := by rw [Fr.e hG_N_313 hk_310 _ rfl, Fr.e hF_N_303 hk_310 _ rfl]
      have h_329 := Inv.g hI_M hk_310 rfl 1 (a := 0) (b := 4) rfl rfl
      rcases q_317c with q_317c | q_317c | q_317c | q_317c | q_317c
      · exfalso; omega
      · refine kx_Vv 47 (ci := 0) F (As := [vR G c1, vI r_312, vI r_315]) (st := []) vd_X11_378 (e_go5 G l N_313 (M c0 12) c1 r_312 r_315 hI_N_313 hk_1 hk_c1 (by omega)) hk_1 rfl rfl rfl ⟨by decide, by decide⟩ rfl rfl (Nat.le_of_ble_eq_true rfl) dX11_walkDrawn_44 rfl ?_
        intro N_341 q_342
        obtain ⟨hI_N_341, hG_N_341, hC_N_341⟩ := q_342
        have hF_N_341 : Fr f_e_walkDrawn5 M N_341 := Fr.c hF_N_313 hG_N_341 rfl
        have hE_N_341 : Cf (SWk M (M c0 12)) M N_341 := Cf.c hE_N_313 hC_N_341 (fun y hy => SWk.e hy (Fr.e hF_N_313 hk_1 5 rfl) (Fr.e hF_N_313 hk_1 6 rfl) (Fr.e hF_N_313 hk_1 7 rfl))
        refine kx_iinc 50 F 3 (v := x3_302 + 1) (lo' := [some (vR G c0), some (vR G c1), some (vI a2), some (vI (x3_302 + 1)), some (vI r_312)]) dX11_walkDrawn_47 rfl (by omega) (by decide) rfl rfl rfl ?_
        refine kx_goto 10 F dX11_walkDrawn_50 (by decide) ?_
        refine kx_drop 4 (lo' := [some (vR G c0), some (vR G c1), some (vI a2), some (vI (x3_302 + 1)), none]) rfl ?_
        exact ih_306 _ (by omega) (x3_302 + 1) N_341 hI_N_341 hF_N_341 hE_N_341 (by omega) rfl
      · refine kx_Vv 47 (ci := 0) F (As := [vR G c1, vI r_312, vI r_315]) (st := []) vd_X11_378 (e_go5 G l N_313 (M c0 12) c1 r_312 r_315 hI_N_313 hk_1 hk_c1 (by omega)) hk_1 rfl rfl rfl ⟨by decide, by decide⟩ rfl rfl (Nat.le_of_ble_eq_true rfl) dX11_walkDrawn_44 rfl ?_
        intro N_343 q_344
        obtain ⟨hI_N_343, hG_N_343, hC_N_343⟩ := q_344
        have hF_N_343 : Fr f_e_walkDrawn5 M N_343 := Fr.c hF_N_313 hG_N_343 rfl
        have hE_N_343 : Cf (SWk M (M c0 12)) M N_343 := Cf.c hE_N_313 hC_N_343 (fun y hy => SWk.e hy (Fr.e hF_N_313 hk_1 5 rfl) (Fr.e hF_N_313 hk_1 6 rfl) (Fr.e hF_N_313 hk_1 7 rfl))
        refine kx_iinc 50 F 3 (v := x3_302 + 1) (lo' := [some (vR G c0), some (vR G c1), some (vI a2), some (vI (x3_302 + 1)), some (vI r_312)]) dX11_walkDrawn_47 rfl (by omega) (by decide) rfl rfl rfl ?_
        refine kx_goto 10 F dX11_walkDrawn_50 (by decide) ?_
        refine kx_drop 4 (lo' := [some (vR G c0), some (vR G c1), some (vI a2), some (vI (x3_302 + 1)), none]) rfl ?_
        exact ih_306 _ (by omega) (x3_302 + 1) N_343 hI_N_343 hF_N_343 hE_N_343 (by omega) rfl
      · refine kx_Vv 47 (ci := 0) F (As := [vR G c1, vI r_312, vI r_315]) (st := []) vd_X11_378 (e_go5 G l N_313 (M c0 12) c1 r_312 r_315 hI_N_313 hk_1 hk_c1 (by omega)) hk_1 rfl rfl rfl ⟨by decide, by decide⟩ rfl rfl (Nat.le_of_ble_eq_true rfl) dX11_walkDrawn_44 rfl ?_
        intro N_345 q_346
        obtain ⟨hI_N_345, hG_N_345, hC_N_345⟩ := q_346
        have hF_N_345 : Fr f_e_walkDrawn5 M N_345 := Fr.c hF_N_313 hG_N_345 rfl
        have hE_N_345 : Cf (SWk M (M c0 12)) M N_345 := Cf.c hE_N_313 hC_N_345 (fun y hy => SWk.e hy (Fr.e hF_N_313 hk_1 5 rfl) (Fr.e hF_N_313 hk_1 6 rfl) (Fr.e hF_N_313 hk_1 7 rfl))
        refine kx_iinc 50 F 3 (v := x3_302 + 1) (lo' := [some (vR G c0), some (vR G c1), some (vI a2), some (vI (x3_302 + 1)), some (vI r_312)]) dX11_walkDrawn_47 rfl (by omega) (by decide) rfl rfl rfl ?_
        refine kx_goto 10 F dX11_walkDrawn_50 (by decide) ?_
        refine kx_drop 4 (lo' := [some (vR G c0), some (vR G c1), some (vI a2), some (vI (x3_302 + 1)), none]) rfl ?_
        exact ih_306 _ (by omega) (x3_302 + 1) N_345 hI_N_345 hF_N_345 hE_N_345 (by omega) rfl
      · refine kx_Vv 47 (ci := 0) F (As := [vR G c1, vI r_312, vI r_315]) (st := []) vd_X11_378 (e_go5 G l N_313 (M c0 12) c1 r_312 r_315 hI_N_313 hk_1 hk_c1 (by omega)) hk_1 rfl rfl rfl ⟨by decide, by decide⟩ rfl rfl (Nat.le_of_ble_eq_true rfl) dX11_walkDrawn_44 rfl ?_
        intro N_347 q_348
        obtain ⟨hI_N_347, hG_N_347, hC_N_347⟩ := q_348
        have hF_N_347 : Fr f_e_walkDrawn5 M N_347 := Fr.c hF_N_313 hG_N_347 rfl
        have hE_N_347 : Cf (SWk M (M c0 12)) M N_347 := Cf.c hE_N_313 hC_N_347 (fun y hy => SWk.e hy (Fr.e hF_N_313 hk_1 5 rfl) (Fr.e hF_N_313 hk_1 6 rfl) (Fr.e hF_N_313 hk_1 7 rfl))
        refine kx_iinc 50 F 3 (v := x3_302 + 1) (lo' := [some (vR G c0), some (vR G c1), some (vI a2), some (vI (x3_302 + 1)), some (vI r_312)]) dX11_walkDrawn_47 rfl (by omega) (by decide) rfl rfl rfl ?_
        refine kx_goto 10 F dX11_walkDrawn_50 (by decide) ?_
        refine kx_drop 4 (lo' := [some (vR G c0), some (vR G c1), some (vI a2), some (vI (x3_302 + 1)), none]) rfl ?_
        exact ih_306 _ (by omega) (x3_302 + 1) N_347 hI_N_347 hF_N_347 hE_N_347 (by omega) rfl
  exact L_304 _ 0 N_2 hI_N_2 hF_N_2 hE_N_2 (by omega) rfl
abbrev f_e_chance5 : List (Nat × Int) := [(8, 1), (8, 2), (8, 3), (8, 4), (9, -1), (10, -1), (11, -1), (62, 0), (62, 1), (62, 2), (62, 14)]
set_option maxHeartbeats 4000000 in
set_option maxRecDepth 100000 in
theorem e_chance5 (G : KG) (l : Launch) (M : Mem) (c0 : Int) (a1 : Int) (a2 : Int) (a3 : Int) (a4 : Int) (hI_M : Inv false M) (hk_c0 : kd c0 = 62) (hpre : -2147483648 ≤ a1 ∧ a1 ≤ 2147483647 ∧ -2147483648 ≤ a2 ∧ a2 ≤ 2147483647 ∧ -2147483648 ≤ a3 ∧ a3 ≤ 2147483647 ∧ -2147483648 ≤ a4 ∧ a4 ≤ 2147483647) (q : Int → Int) (hS : zSN M (M c0 5) q) (hU : zSU M (M c0 5) q) : KC false G l yX11_chance cX11_chance 8 (some .boolean) (4, 96) [vR G c0, vI a1, vI a2, vI a3, vI a4] M (fun A => kQi false G A (fun (r : Int) (N : Mem) => Inv false N ∧ Fr f_e_chance5 M N ∧ (r ≥ 0 ∧ r ≤ 1) ∧ Cf (SWk M (M c0 12)) M N ∧ (zCHN q a1 a2 a3 a4 (M (M c0 5) 2) r))) := by
  refine kx_met (lo := [some (vR G c0), some (vI a1), some (vI a2), some (vI a3), some (vI a4), none, none, none]) (by decide) (Nat.le_of_ble_eq_true rfl) rfl ?_
  intro X F hQ
  have hF_M : Fr f_e_chance5 M M := Fr.rf _ _
  have hE_M : Cf (SWk M (M c0 12)) M M := Cf.rf _ _
  have hk_1 : kd (M c0 3) = 13 := Inv.r hI_M hk_c0 rfl 3 rfl rfl
  have hk_2 : kd (M (M c0 3) 0) = 14 := Inv.r hI_M hk_1 rfl 0 rfl rfl
  have hk_3 : kd (M (M c0 3) 1) = 15 := Inv.r hI_M hk_1 rfl 1 rfl rfl
  have hk_4 : kd (M (M c0 3) 2) = 16 := Inv.r hI_M hk_1 rfl 2 rfl rfl
  have hk_5 : kd (M c0 5) = 12 := Inv.r hI_M hk_c0 rfl 5 rfl rfl
  have hSn := hS.u
  have hlr := Inv.g hI_M hk_5 rfl 2 (a := 0) (b := 6) rfl rfl
  have hk_6 : kd (M c0 12) = 8 := Inv.r hI_M hk_c0 rfl 12 rfl rfl
  refine kx_aload_n 1 F 0 dX11_chance_0 rfl rfl rfl ?_
  refine kx_getr 4 F fl_X11_26 hk_c0 rfl rfl (j := 5) rfl dX11_chance_1 (v := (M c0 5)) rfl rfl ?_
  refine kx_iload_n 5 F 1 dX11_chance_4 rfl rfl rfl ?_
  refine kx_Vi 8 (ci := 0) F (As := [vI a1]) (st := []) vd_X11_163 (e_X5_has G l M (M c0 5) a1 hI_M hk_5 (by omega)) hk_5 rfl rfl rfl ⟨by decide, by decide⟩ rfl rfl (Nat.le_of_ble_eq_true rfl) dX11_chance_5 rfl ?_
  intro r_7 N_8 q_9
  obtain ⟨rfl, q_9c⟩ := q_9
  have h_10 := Inv.g hI_M hk_5 rfl 3 (a := 0) (b := 2) rfl rfl
  rcases q_9c with q_9c | q_9c | q_9c
  · refine kx_if_eq 11 F 43 dX11_chance_8 (by decide) rfl (by omega) (fun h_12 => (by exfalso; omega)) (fun h_12 => ?_)
    refine kx_iload_n 12 F 2 dX11_chance_11 rfl rfl rfl ?_
    refine kx_iconst 13 F dX11_chance_12 rfl ?_
    refine kx_bipush 15 F dX11_chance_13 (by decide) rfl ?_
    refine kx_Si 18 F (As := [vI a2, vI 0, vI 20]) (st := []) sd_X11_87 (e_X11_within G l M a2 0 20 hI_M (by omega)) ⟨by decide, by decide⟩ rfl rfl (Nat.le_of_ble_eq_true rfl) dX11_chance_15 rfl ?_
    intro r_13 N_14 q_15
    obtain ⟨rfl, q_15c⟩ := q_15
    rcases q_15c with q_15c | q_15c | q_15c
    · refine kx_if_eq 21 F 43 dX11_chance_18 (by decide) rfl (by omega) (fun h_16 => (by exfalso; omega)) (fun h_16 => ?_)
      refine kx_iload_n 22 F 3 dX11_chance_21 rfl rfl rfl ?_
      refine kx_iconst 23 F dX11_chance_22 rfl ?_
      refine kx_bipush 25 F dX11_chance_23 (by decide) rfl ?_
      refine kx_Si 28 F (As := [vI a3, vI 1, vI 50]) (st := []) sd_X11_87 (e_X11_within G l M a3 1 50 hI_M (by omega)) ⟨by decide, by decide⟩ rfl rfl (Nat.le_of_ble_eq_true rfl) dX11_chance_25 rfl ?_
      intro r_17 N_18 q_19
      obtain ⟨rfl, q_19c⟩ := q_19
      rcases q_19c with q_19c | q_19c | q_19c
      · refine kx_if_eq 31 F 43 dX11_chance_28 (by decide) rfl (by omega) (fun h_20 => (by exfalso; omega)) (fun h_20 => ?_)
        refine kx_iload 33 F 4 dX11_chance_31 rfl rfl ?_
        refine kx_iconst 34 F dX11_chance_33 rfl ?_
        refine kx_sipush 37 F dX11_chance_34 (by decide) rfl ?_
        refine kx_Si 40 F (As := [vI a4, vI 0, vI 9999]) (st := []) sd_X11_87 (e_X11_within G l M a4 0 9999 hI_M (by omega)) ⟨by decide, by decide⟩ rfl rfl (Nat.le_of_ble_eq_true rfl) dX11_chance_37 rfl ?_
        intro r_21 N_22 q_23
        obtain ⟨rfl, q_23c⟩ := q_23
        rcases q_23c with q_23c | q_23c | q_23c
        · refine kx_if_ne 43 F 49 dX11_chance_40 (by decide) rfl (by omega) (fun h_24 => ?_) (fun h_24 => (by exfalso; omega))
          refine kx_aload_n 50 F 0 dX11_chance_49 rfl rfl rfl ?_
          refine kx_getr 53 F fl_X11_26 hk_c0 rfl rfl (j := 5) rfl dX11_chance_50 (v := (M c0 5)) rfl rfl ?_
          refine kx_geti 56 F fl_X11_160 hk_5 rfl rfl (j := 2) rfl dX11_chance_53 (v := (M (M c0 5) 2)) rfl rfl ?_
          refine kx_if_ne 59 F 70 dX11_chance_56 (by decide) rfl (by omega) (fun h_26 => ?_) (fun h_26 => ?_)
          · refine kx_aload_n 71 F 0 dX11_chance_70 rfl rfl rfl ?_
            refine kx_getr 74 F fl_X11_26 hk_c0 rfl rfl (j := 5) rfl dX11_chance_71 (v := (M c0 5)) rfl rfl ?_
            refine kx_iload_n 75 F 1 dX11_chance_74 rfl rfl rfl ?_
            refine kx_Vr 78 (ci := 0) F (As := [vI a1]) (st := []) vd_X11_164 (c_X5_pickE G l M (M c0 5) a1 hI_M hk_5 (by omega)) hk_5 rfl rfl rfl ⟨by decide, by decide⟩ rfl rfl (Nat.le_of_ble_eq_true rfl) dX11_chance_75 rfl ?_
            intro r_27 N_28 q_29
            obtain ⟨rfl, hk_30, q_29d⟩ := q_29
            rcases q_29d with ⟨q_29c, rfl⟩ | ⟨q_29c, rfl⟩
            · refine kx_astore 80 F 5 (lo' := [some (vR G c0), some (vI a1), some (vI a2), some (vI a3), some (vI a4), some (vR G (M (M c0 5) 4)), none, none]) dX11_chance_78 (by decide) rfl rfl rfl ?_
              refine kx_aload_n 81 F 0 dX11_chance_80 rfl rfl rfl ?_
              refine kx_iload 83 F 4 dX11_chance_81 rfl rfl ?_
              refine kx_puti 86 F fw_X11_357 rfl hk_c0 rfl rfl (j := 14) rfl dX11_chance_83 rfl ?_
              intro N_31 hM_N_31
              have hI_N_31 : Inv false N_31 := Inv.u hI_M hM_N_31 hk_c0 (a := 0) (b := 65535) rfl rfl rfl (by omega)
              have hF_N_31 : Fr f_e_chance5 M N_31 := Fr.u hF_M hM_N_31 hk_c0 rfl
              have hE_N_31 : Cf (SWk M (M c0 12)) M N_31 := Cf.sk hE_M hM_N_31 hk_c0 rfl
              refine kx_iconst 87 F dX11_chance_86 rfl ?_
              refine kx_istore 89 F 6 (lo' := [some (vR G c0), some (vI a1), some (vI a2), some (vI a3), some (vI a4), some (vR G (M (M c0 5) 4)), some (vI 0), none]) dX11_chance_87 (by decide) rfl rfl rfl ?_
              refine kx_iconst 90 F dX11_chance_89 rfl ?_
              refine kx_istore 92 F 7 (lo' := [some (vR G c0), some (vI a1), some (vI a2), some (vI a3), some (vI a4), some (vR G (M (M c0 5) 4)), some (vI 0), some (vI 0)]) dX11_chance_90 (by decide) rfl rfl rfl ?_
              have L_180 : ∀ (n_181 : Nat) (x6_177 : Int) (x7_178 : Int) (N_179 : Mem), Inv false N_179 → Fr f_e_chance5 M N_179 → Cf (SWk M (M c0 12)) M N_179 → (-2147483648) ≤ x6_177 ∧ x6_177 ≤ 2147483647 ∧ 0 ≤ x7_178 ∧ x7_178 ≤ 50 → (50 - (x7_178)).toNat = n_181 → KJ false G X N_179 92 [some (vR G c0), none, some (vI a2), some (vI a3), none, some (vR G (M (M c0 5) 4)), some (vI x6_177), some (vI x7_178)] [] := by
                intro n_181
                refine Nat.strongRecOn n_181 ?_
                intro n_181 ih_182 x6_177 x7_178 N_179 hI_N_179 hF_N_179 hE_N_179 h_183 hm_184
                refine kx_iload 94 F 7 dX11_chance_92 rfl rfl ?_
                refine kx_iload_n 95 F 3 dX11_chance_94 rfl rfl rfl ?_
                refine kx_icmp_ge 98 F 133 dX11_chance_95 (by decide) rfl (by omega) (by omega) (fun h_185 => ?_) (fun h_185 => ?_)
                · refine kx_aload_n 134 F 0 dX11_chance_133 rfl rfl rfl ?_
                  refine kx_iload 136 F 6 dX11_chance_134 rfl rfl ?_
                  refine kx_i2l 137 F dX11_chance_136 (by omega) rfl ?_
                  refine kx_iload_n 138 F 3 dX11_chance_137 rfl rfl rfl ?_
                  refine kx_i2l 139 F dX11_chance_138 (by omega) rfl ?_
                  refine kx_Vv 142 (ci := 0) F (As := [vL x6_177, vL a3]) (st := []) vd_X11_252 (c_X11_tellFraction G l N_179 c0 x6_177 a3 hI_N_179 hk_c0 (by omega)) hk_c0 rfl rfl rfl ⟨by decide, by decide⟩ rfl rfl (Nat.le_of_ble_eq_true rfl) dX11_chance_139 rfl ?_
                  intro N_186 q_187
                  obtain ⟨hI_N_186, hG_N_186⟩ := q_187
                  have hF_N_186 : Fr f_e_chance5 M N_186 := Fr.c hF_N_179 hG_N_186 rfl
                  have hE_N_186 : Cf (SWk M (M c0 12)) M N_186 := Cf.fr hE_N_179 hG_N_186 rfl
                  refine kx_aload_n 143 F 0 dX11_chance_142 rfl rfl rfl ?_
                  refine kx_Vi 146 (ci := 0) F (As := []) (st := []) vd_X11_98 (c_X11_agree G l N_186 c0 hI_N_186 hk_c0) hk_c0 rfl rfl rfl ⟨by decide, by decide⟩ rfl rfl (Nat.le_of_ble_eq_true rfl) dX11_chance_143 rfl ?_
                  intro r_188 N_189 q_190
                  obtain ⟨hI_N_189, hG_N_189, q_190c⟩ := q_190
                  have hF_N_189 : Fr f_e_chance5 M N_189 := Fr.c hF_N_186 hG_N_189 rfl
                  have hE_N_189 : Cf (SWk M (M c0 12)) M N_189 := Cf.fr hE_N_186 hG_N_189 rfl
                  subst q_190c
                  exact kx_zret F hQ (by omega) ⟨hI_N_189, hF_N_189, (by omega), hE_N_189, (Or.inl ⟨by omega, by omega, by omega, by omega, by omega, by omega, by omega, by omega, by omega, by omega⟩)⟩ dX11_chance_146
                · refine kx_aload_n 99 F 0 dX11_chance_98 rfl rfl rfl ?_
                  refine kx_aload 101 F 5 dX11_chance_99 rfl rfl ?_
                  refine kx_iload_n 102 F 2 dX11_chance_101 rfl rfl rfl ?_
                  refine kx_Vv 105 (ci := 0) F (As := [vR G (M (M c0 5) 4), vI a2]) (st := []) vd_X11_363 (e_walkDrawn5 G l N_179 c0 (M (M c0 5) 4) a2 hI_N_179 hk_c0 hk_30 (by omega)) hk_c0 rfl rfl rfl ⟨by decide, by decide⟩ rfl rfl (Nat.le_of_ble_eq_true rfl) dX11_chance_102 rfl ?_
                  intro N_191 q_192
                  obtain ⟨hI_N_191, hG_N_191, hC_N_191⟩ := q_192
                  have hF_N_191 : Fr f_e_chance5 M N_191 := Fr.c hF_N_179 hG_N_191 rfl
                  have hE_N_191 : Cf (SWk M (M c0 12)) M N_191 := Cf.c hE_N_179 hC_N_191 (fun y hy => SWk.e (by rw [Fr.e hF_N_179 hk_c0 12 rfl] at hy; exact hy) (Fr.e hF_N_179 hk_6 5 rfl) (Fr.e hF_N_179 hk_6 6 rfl) (Fr.e hF_N_179 hk_6 7 rfl))
                  refine kx_iload 107 F 6 dX11_chance_105 rfl rfl ?_
                  refine kx_aload_n 108 F 0 dX11_chance_107 rfl rfl rfl ?_
                  refine kx_getr 111 F fl_X11_61 hk_c0 rfl rfl (j := 12) rfl dX11_chance_108 (v := (M c0 12)) (by rw [Fr.e hG_N_191 hk_c0 _ rfl, Fr.e hF_N_179 hk_c0 _ rfl]) rfl ?_
                  refine kx_aload 113 F 5 dX11_chance_111 rfl rfl ?_
                  refine kx_Vi 116 (ci := 0) F (As := [vR G (M (M c0 5) 4)]) (st := [vI x6_177]) vd_X11_234 (e_isTaken3 G l N_191 (M c0 12) (M (M c0 5) 4) hI_N_191 hk_6 hk_30) hk_6 rfl rfl rfl ⟨by decide, by decide⟩ rfl rfl (Nat.le_of_ble_eq_true rfl) dX11_chance_113 rfl ?_
                  intro r_193 N_194 q_195
                  obtain ⟨rfl, q_195c⟩ := q_195
                  rcases q_195c with q_195c | q_195c
                  · refine kx_if_eq 119 F 123 dX11_chance_116 (by decide) rfl (by omega) (fun h_196 => (by exfalso; omega)) (fun h_196 => ?_)
                    refine kx_iconst 120 F dX11_chance_119 rfl ?_
                    refine kx_goto 124 F dX11_chance_120 (by decide) ?_
                    refine kx_iadd 125 F (v := x6_177 + 1) dX11_chance_124 rfl rfl ?_
                    refine kx_wrapi (fun w_197 h_198 _ => ?_)
                    refine kx_istore 127 F 6 (lo' := [some (vR G c0), none, some (vI a2), some (vI a3), none, some (vR G (M (M c0 5) 4)), some (vI w_197), some (vI x7_178)]) dX11_chance_125 (by decide) rfl rfl rfl ?_
                    refine kx_iinc 130 F 7 (v := x7_178 + 1) (lo' := [some (vR G c0), none, some (vI a2), some (vI a3), none, some (vR G (M (M c0 5) 4)), some (vI w_197), some (vI (x7_178 + 1))]) dX11_chance_127 rfl (by omega) (by decide) rfl rfl rfl ?_
                    refine kx_goto 92 F dX11_chance_130 (by decide) ?_
                    exact ih_182 _ (by omega) w_197 (x7_178 + 1) N_191 hI_N_191 hF_N_191 hE_N_191 (by omega) rfl
                  · refine kx_if_eq 119 F 123 dX11_chance_116 (by decide) rfl (by omega) (fun h_199 => ?_) (fun h_199 => (by exfalso; omega))
                    refine kx_iconst 124 F dX11_chance_123 rfl ?_
                    refine kx_iadd 125 F (v := x6_177) dX11_chance_124 (by omega) rfl ?_
                    refine kx_istore 127 F 6 (lo' := [some (vR G c0), none, some (vI a2), some (vI a3), none, some (vR G (M (M c0 5) 4)), some (vI x6_177), some (vI x7_178)]) dX11_chance_125 (by decide) rfl rfl rfl ?_
                    refine kx_iinc 130 F 7 (v := x7_178 + 1) (lo' := [some (vR G c0), none, some (vI a2), some (vI a3), none, some (vR G (M (M c0 5) 4)), some (vI x6_177), some (vI (x7_178 + 1))]) dX11_chance_127 rfl (by omega) (by decide) rfl rfl rfl ?_
                    refine kx_goto 92 F dX11_chance_130 (by decide) ?_
                    exact ih_182 _ (by omega) x6_177 (x7_178 + 1) N_191 hI_N_191 hF_N_191 hE_N_191 (by omega) rfl
              refine kx_drop 1 (lo' := [some (vR G c0), none, some (vI a2), some (vI a3), some (vI a4), some (vR G (M (M c0 5) 4)), some (vI 0), some (vI 0)]) rfl ?_
              refine kx_drop 4 (lo' := [some (vR G c0), none, some (vI a2), some (vI a3), none, some (vR G (M (M c0 5) 4)), some (vI 0), some (vI 0)]) rfl ?_
              exact L_180 _ 0 0 N_31 hI_N_31 hF_N_31 hE_N_31 (by omega) rfl
            · refine kx_astore 80 F 5 (lo' := [some (vR G c0), some (vI a1), some (vI a2), some (vI a3), some (vI a4), some (vR G (M (M c0 5) 5)), none, none]) dX11_chance_78 (by decide) rfl rfl rfl ?_
              refine kx_aload_n 81 F 0 dX11_chance_80 rfl rfl rfl ?_
              refine kx_iload 83 F 4 dX11_chance_81 rfl rfl ?_
              refine kx_puti 86 F fw_X11_357 rfl hk_c0 rfl rfl (j := 14) rfl dX11_chance_83 rfl ?_
              intro N_200 hM_N_200
              have hI_N_200 : Inv false N_200 := Inv.u hI_M hM_N_200 hk_c0 (a := 0) (b := 65535) rfl rfl rfl (by omega)
              have hF_N_200 : Fr f_e_chance5 M N_200 := Fr.u hF_M hM_N_200 hk_c0 rfl
              have hE_N_200 : Cf (SWk M (M c0 12)) M N_200 := Cf.sk hE_M hM_N_200 hk_c0 rfl
              refine kx_iconst 87 F dX11_chance_86 rfl ?_
              refine kx_istore 89 F 6 (lo' := [some (vR G c0), some (vI a1), some (vI a2), some (vI a3), some (vI a4), some (vR G (M (M c0 5) 5)), some (vI 0), none]) dX11_chance_87 (by decide) rfl rfl rfl ?_
              refine kx_iconst 90 F dX11_chance_89 rfl ?_
              refine kx_istore 92 F 7 (lo' := [some (vR G c0), some (vI a1), some (vI a2), some (vI a3), some (vI a4), some (vR G (M (M c0 5) 5)), some (vI 0), some (vI 0)]) dX11_chance_90 (by decide) rfl rfl rfl ?_
              have L_349 : ∀ (n_350 : Nat) (x6_346 : Int) (x7_347 : Int) (N_348 : Mem), Inv false N_348 → Fr f_e_chance5 M N_348 → Cf (SWk M (M c0 12)) M N_348 → (-2147483648) ≤ x6_346 ∧ x6_346 ≤ 2147483647 ∧ 0 ≤ x7_347 ∧ x7_347 ≤ 50 → (50 - (x7_347)).toNat = n_350 → KJ false G X N_348 92 [some (vR G c0), none, some (vI a2), some (vI a3), none, some (vR G (M (M c0 5) 5)), some (vI x6_346), some (vI x7_347)] [] := by
                intro n_350
                refine Nat.strongRecOn n_350 ?_
                intro n_350 ih_351 x6_346 x7_347 N_348 hI_N_348 hF_N_348 hE_N_348 h_352 hm_353
                refine kx_iload 94 F 7 dX11_chance_92 rfl rfl ?_
                refine kx_iload_n 95 F 3 dX11_chance_94 rfl rfl rfl ?_
                refine kx_icmp_ge 98 F 133 dX11_chance_95 (by decide) rfl (by omega) (by omega) (fun h_354 => ?_) (fun h_354 => ?_)
                · refine kx_aload_n 134 F 0 dX11_chance_133 rfl rfl rfl ?_
                  refine kx_iload 136 F 6 dX11_chance_134 rfl rfl ?_
                  refine kx_i2l 137 F dX11_chance_136 (by omega) rfl ?_
                  refine kx_iload_n 138 F 3 dX11_chance_137 rfl rfl rfl ?_
                  refine kx_i2l 139 F dX11_chance_138 (by omega) rfl ?_
                  refine kx_Vv 142 (ci := 0) F (As := [vL x6_346, vL a3]) (st := []) vd_X11_252 (c_X11_tellFraction G l N_348 c0 x6_346 a3 hI_N_348 hk_c0 (by omega)) hk_c0 rfl rfl rfl ⟨by decide, by decide⟩ rfl rfl (Nat.le_of_ble_eq_true rfl) dX11_chance_139 rfl ?_
                  intro N_355 q_356
                  obtain ⟨hI_N_355, hG_N_355⟩ := q_356
                  have hF_N_355 : Fr f_e_chance5 M N_355 := Fr.c hF_N_348 hG_N_355 rfl
                  have hE_N_355 : Cf (SWk M (M c0 12)) M N_355 := Cf.fr hE_N_348 hG_N_355 rfl
                  refine kx_aload_n 143 F 0 dX11_chance_142 rfl rfl rfl ?_
                  refine kx_Vi 146 (ci := 0) F (As := []) (st := []) vd_X11_98 (c_X11_agree G l N_355 c0 hI_N_355 hk_c0) hk_c0 rfl rfl rfl ⟨by decide, by decide⟩ rfl rfl (Nat.le_of_ble_eq_true rfl) dX11_chance_143 rfl ?_
                  intro r_357 N_358 q_359
                  obtain ⟨hI_N_358, hG_N_358, q_359c⟩ := q_359
                  have hF_N_358 : Fr f_e_chance5 M N_358 := Fr.c hF_N_355 hG_N_358 rfl
                  have hE_N_358 : Cf (SWk M (M c0 12)) M N_358 := Cf.fr hE_N_355 hG_N_358 rfl
                  subst q_359c
                  exact kx_zret F hQ (by omega) ⟨hI_N_358, hF_N_358, (by omega), hE_N_358, (Or.inl ⟨by omega, by omega, by omega, by omega, by omega, by omega, by omega, by omega, by omega, by omega⟩)⟩ dX11_chance_146
                · refine kx_aload_n 99 F 0 dX11_chance_98 rfl rfl rfl ?_
                  refine kx_aload 101 F 5 dX11_chance_99 rfl rfl ?_
                  refine kx_iload_n 102 F 2 dX11_chance_101 rfl rfl rfl ?_
                  refine kx_Vv 105 (ci := 0) F (As := [vR G (M (M c0 5) 5), vI a2]) (st := []) vd_X11_363 (e_walkDrawn5 G l N_348 c0 (M (M c0 5) 5) a2 hI_N_348 hk_c0 hk_30 (by omega)) hk_c0 rfl rfl rfl ⟨by decide, by decide⟩ rfl rfl (Nat.le_of_ble_eq_true rfl) dX11_chance_102 rfl ?_
                  intro N_360 q_361
                  obtain ⟨hI_N_360, hG_N_360, hC_N_360⟩ := q_361
                  have hF_N_360 : Fr f_e_chance5 M N_360 := Fr.c hF_N_348 hG_N_360 rfl
                  have hE_N_360 : Cf (SWk M (M c0 12)) M N_360 := Cf.c hE_N_348 hC_N_360 (fun y hy => SWk.e (by rw [Fr.e hF_N_348 hk_c0 12 rfl] at hy; exact hy) (Fr.e hF_N_348 hk_6 5 rfl) (Fr.e hF_N_348 hk_6 6 rfl) (Fr.e hF_N_348 hk_6 7 rfl))
                  refine kx_iload 107 F 6 dX11_chance_105 rfl rfl ?_
                  refine kx_aload_n 108 F 0 dX11_chance_107 rfl rfl rfl ?_
                  refine kx_getr 111 F fl_X11_61 hk_c0 rfl rfl (j := 12) rfl dX11_chance_108 (v := (M c0 12)) (by rw [Fr.e hG_N_360 hk_c0 _ rfl, Fr.e hF_N_348 hk_c0 _ rfl]) rfl ?_
                  refine kx_aload 113 F 5 dX11_chance_111 rfl rfl ?_
                  refine kx_Vi 116 (ci := 0) F (As := [vR G (M (M c0 5) 5)]) (st := [vI x6_346]) vd_X11_234 (e_isTaken3 G l N_360 (M c0 12) (M (M c0 5) 5) hI_N_360 hk_6 hk_30) hk_6 rfl rfl rfl ⟨by decide, by decide⟩ rfl rfl (Nat.le_of_ble_eq_true rfl) dX11_chance_113 rfl ?_
                  intro r_362 N_363 q_364
                  obtain ⟨rfl, q_364c⟩ := q_364
                  rcases q_364c with q_364c | q_364c
                  · refine kx_if_eq 119 F 123 dX11_chance_116 (by decide) rfl (by omega) (fun h_365 => (by exfalso; omega)) (fun h_365 => ?_)
                    refine kx_iconst 120 F dX11_chance_119 rfl ?_
                    refine kx_goto 124 F dX11_chance_120 (by decide) ?_
                    refine kx_iadd 125 F (v := x6_346 + 1) dX11_chance_124 rfl rfl ?_
                    refine kx_wrapi (fun w_366 h_367 _ => ?_)
                    refine kx_istore 127 F 6 (lo' := [some (vR G c0), none, some (vI a2), some (vI a3), none, some (vR G (M (M c0 5) 5)), some (vI w_366), some (vI x7_347)]) dX11_chance_125 (by decide) rfl rfl rfl ?_
                    refine kx_iinc 130 F 7 (v := x7_347 + 1) (lo' := [some (vR G c0), none, some (vI a2), some (vI a3), none, some (vR G (M (M c0 5) 5)), some (vI w_366), some (vI (x7_347 + 1))]) dX11_chance_127 rfl (by omega) (by decide) rfl rfl rfl ?_
                    refine kx_goto 92 F dX11_chance_130 (by decide) ?_
                    exact ih_351 _ (by omega) w_366 (x7_347 + 1) N_360 hI_N_360 hF_N_360 hE_N_360 (by omega) rfl
                  · refine kx_if_eq 119 F 123 dX11_chance_116 (by decide) rfl (by omega) (fun h_368 => ?_) (fun h_368 => (by exfalso; omega))
                    refine kx_iconst 124 F dX11_chance_123 rfl ?_
                    refine kx_iadd 125 F (v := x6_346) dX11_chance_124 (by omega) rfl ?_
                    refine kx_istore 127 F 6 (lo' := [some (vR G c0), none, some (vI a2), some (vI a3), none, some (vR G (M (M c0 5) 5)), some (vI x6_346), some (vI x7_347)]) dX11_chance_125 (by decide) rfl rfl rfl ?_
                    refine kx_iinc 130 F 7 (v := x7_347 + 1) (lo' := [some (vR G c0), none, some (vI a2), some (vI a3), none, some (vR G (M (M c0 5) 5)), some (vI x6_346), some (vI (x7_347 + 1))]) dX11_chance_127 rfl (by omega) (by decide) rfl rfl rfl ?_
                    refine kx_goto 92 F dX11_chance_130 (by decide) ?_
                    exact ih_351 _ (by omega) x6_346 (x7_347 + 1) N_360 hI_N_360 hF_N_360 hE_N_360 (by omega) rfl
              refine kx_drop 1 (lo' := [some (vR G c0), none, some (vI a2), some (vI a3), some (vI a4), some (vR G (M (M c0 5) 5)), some (vI 0), some (vI 0)]) rfl ?_
              refine kx_drop 4 (lo' := [some (vR G c0), none, some (vI a2), some (vI a3), none, some (vR G (M (M c0 5) 5)), some (vI 0), some (vI 0)]) rfl ?_
              exact L_349 _ 0 0 N_200 hI_N_200 hF_N_200 hE_N_200 (by omega) rfl
          · refine kx_iload_n 60 F 2 dX11_chance_59 rfl rfl rfl ?_
            refine kx_if_le 63 F 70 dX11_chance_60 (by decide) rfl (by omega) (fun h_369 => ?_) (fun h_369 => ?_)
            · refine kx_aload_n 71 F 0 dX11_chance_70 rfl rfl rfl ?_
              refine kx_getr 74 F fl_X11_26 hk_c0 rfl rfl (j := 5) rfl dX11_chance_71 (v := (M c0 5)) rfl rfl ?_
              refine kx_iload_n 75 F 1 dX11_chance_74 rfl rfl rfl ?_
              refine kx_Vr 78 (ci := 0) F (As := [vI a1]) (st := []) vd_X11_164 (c_X5_pickE G l M (M c0 5) a1 hI_M hk_5 (by omega)) hk_5 rfl rfl rfl ⟨by decide, by decide⟩ rfl rfl (Nat.le_of_ble_eq_true rfl) dX11_chance_75 rfl ?_
              intro r_370 N_371 q_372
              obtain ⟨rfl, hk_373, q_372d⟩ := q_372
              rcases q_372d with ⟨q_372c, rfl⟩ | ⟨q_372c, rfl⟩
              · refine kx_astore 80 F 5 (lo' := [some (vR G c0), some (vI a1), some (vI a2), some (vI a3), some (vI a4), some (vR G (M (M c0 5) 4)), none, none]) dX11_chance_78 (by decide) rfl rfl rfl ?_
                refine kx_aload_n 81 F 0 dX11_chance_80 rfl rfl rfl ?_
                refine kx_iload 83 F 4 dX11_chance_81 rfl rfl ?_
                refine kx_puti 86 F fw_X11_357 rfl hk_c0 rfl rfl (j := 14) rfl dX11_chance_83 rfl ?_
                intro N_374 hM_N_374
                have hI_N_374 : Inv false N_374 := Inv.u hI_M hM_N_374 hk_c0 (a := 0) (b := 65535) rfl rfl rfl (by omega)
                have hF_N_374 : Fr f_e_chance5 M N_374 := Fr.u hF_M hM_N_374 hk_c0 rfl
                have hE_N_374 : Cf (SWk M (M c0 12)) M N_374 := Cf.sk hE_M hM_N_374 hk_c0 rfl
                refine kx_iconst 87 F dX11_chance_86 rfl ?_
                refine kx_istore 89 F 6 (lo' := [some (vR G c0), some (vI a1), some (vI a2), some (vI a3), some (vI a4), some (vR G (M (M c0 5) 4)), some (vI 0), none]) dX11_chance_87 (by decide) rfl rfl rfl ?_
                refine kx_iconst 90 F dX11_chance_89 rfl ?_
                refine kx_istore 92 F 7 (lo' := [some (vR G c0), some (vI a1), some (vI a2), some (vI a3), some (vI a4), some (vR G (M (M c0 5) 4)), some (vI 0), some (vI 0)]) dX11_chance_90 (by decide) rfl rfl rfl ?_
                have L_523 : ∀ (n_524 : Nat) (x6_520 : Int) (x7_521 : Int) (N_522 : Mem), Inv false N_522 → Fr f_e_chance5 M N_522 → Cf (SWk M (M c0 12)) M N_522 → (-2147483648) ≤ x6_520 ∧ x6_520 ≤ 2147483647 ∧ 0 ≤ x7_521 ∧ x7_521 ≤ 50 → (50 - (x7_521)).toNat = n_524 → KJ false G X N_522 92 [some (vR G c0), none, some (vI a2), some (vI a3), none, some (vR G (M (M c0 5) 4)), some (vI x6_520), some (vI x7_521)] [] := by
                  intro n_524
                  refine Nat.strongRecOn n_524 ?_
                  intro n_524 ih_525 x6_520 x7_521 N_522 hI_N_522 hF_N_522 hE_N_522 h_526 hm_527
                  refine kx_iload 94 F 7 dX11_chance_92 rfl rfl ?_
                  refine kx_iload_n 95 F 3 dX11_chance_94 rfl rfl rfl ?_
                  refine kx_icmp_ge 98 F 133 dX11_chance_95 (by decide) rfl (by omega) (by omega) (fun h_528 => ?_) (fun h_528 => ?_)
                  · refine kx_aload_n 134 F 0 dX11_chance_133 rfl rfl rfl ?_
                    refine kx_iload 136 F 6 dX11_chance_134 rfl rfl ?_
                    refine kx_i2l 137 F dX11_chance_136 (by omega) rfl ?_
                    refine kx_iload_n 138 F 3 dX11_chance_137 rfl rfl rfl ?_
                    refine kx_i2l 139 F dX11_chance_138 (by omega) rfl ?_
                    refine kx_Vv 142 (ci := 0) F (As := [vL x6_520, vL a3]) (st := []) vd_X11_252 (c_X11_tellFraction G l N_522 c0 x6_520 a3 hI_N_522 hk_c0 (by omega)) hk_c0 rfl rfl rfl ⟨by decide, by decide⟩ rfl rfl (Nat.le_of_ble_eq_true rfl) dX11_chance_139 rfl ?_
                    intro N_529 q_530
                    obtain ⟨hI_N_529, hG_N_529⟩ := q_530
                    have hF_N_529 : Fr f_e_chance5 M N_529 := Fr.c hF_N_522 hG_N_529 rfl
                    have hE_N_529 : Cf (SWk M (M c0 12)) M N_529 := Cf.fr hE_N_522 hG_N_529 rfl
                    refine kx_aload_n 143 F 0 dX11_chance_142 rfl rfl rfl ?_
                    refine kx_Vi 146 (ci := 0) F (As := []) (st := []) vd_X11_98 (c_X11_agree G l N_529 c0 hI_N_529 hk_c0) hk_c0 rfl rfl rfl ⟨by decide, by decide⟩ rfl rfl (Nat.le_of_ble_eq_true rfl) dX11_chance_143 rfl ?_
                    intro r_531 N_532 q_533
                    obtain ⟨hI_N_532, hG_N_532, q_533c⟩ := q_533
                    have hF_N_532 : Fr f_e_chance5 M N_532 := Fr.c hF_N_529 hG_N_532 rfl
                    have hE_N_532 : Cf (SWk M (M c0 12)) M N_532 := Cf.fr hE_N_529 hG_N_532 rfl
                    subst q_533c
                    exact kx_zret F hQ (by omega) ⟨hI_N_532, hF_N_532, (by omega), hE_N_532, (Or.inl ⟨by omega, by omega, by omega, by omega, by omega, by omega, by omega, by omega, by omega, by omega⟩)⟩ dX11_chance_146
                  · refine kx_aload_n 99 F 0 dX11_chance_98 rfl rfl rfl ?_
                    refine kx_aload 101 F 5 dX11_chance_99 rfl rfl ?_
                    refine kx_iload_n 102 F 2 dX11_chance_101 rfl rfl rfl ?_
                    refine kx_Vv 105 (ci := 0) F (As := [vR G (M (M c0 5) 4), vI a2]) (st := []) vd_X11_363 (e_walkDrawn5 G l N_522 c0 (M (M c0 5) 4) a2 hI_N_522 hk_c0 hk_373 (by omega)) hk_c0 rfl rfl rfl ⟨by decide, by decide⟩ rfl rfl (Nat.le_of_ble_eq_true rfl) dX11_chance_102 rfl ?_
                    intro N_534 q_535
                    obtain ⟨hI_N_534, hG_N_534, hC_N_534⟩ := q_535
                    have hF_N_534 : Fr f_e_chance5 M N_534 := Fr.c hF_N_522 hG_N_534 rfl
                    have hE_N_534 : Cf (SWk M (M c0 12)) M N_534 := Cf.c hE_N_522 hC_N_534 (fun y hy => SWk.e (by rw [Fr.e hF_N_522 hk_c0 12 rfl] at hy; exact hy) (Fr.e hF_N_522 hk_6 5 rfl) (Fr.e hF_N_522 hk_6 6 rfl) (Fr.e hF_N_522 hk_6 7 rfl))
                    refine kx_iload 107 F 6 dX11_chance_105 rfl rfl ?_
                    refine kx_aload_n 108 F 0 dX11_chance_107 rfl rfl rfl ?_
                    refine kx_getr 111 F fl_X11_61 hk_c0 rfl rfl (j := 12) rfl dX11_chance_108 (v := (M c0 12)) (by rw [Fr.e hG_N_534 hk_c0 _ rfl, Fr.e hF_N_522 hk_c0 _ rfl]) rfl ?_
                    refine kx_aload 113 F 5 dX11_chance_111 rfl rfl ?_
                    refine kx_Vi 116 (ci := 0) F (As := [vR G (M (M c0 5) 4)]) (st := [vI x6_520]) vd_X11_234 (e_isTaken3 G l N_534 (M c0 12) (M (M c0 5) 4) hI_N_534 hk_6 hk_373) hk_6 rfl rfl rfl ⟨by decide, by decide⟩ rfl rfl (Nat.le_of_ble_eq_true rfl) dX11_chance_113 rfl ?_
                    intro r_536 N_537 q_538
                    obtain ⟨rfl, q_538c⟩ := q_538
                    rcases q_538c with q_538c | q_538c
                    · refine kx_if_eq 119 F 123 dX11_chance_116 (by decide) rfl (by omega) (fun h_539 => (by exfalso; omega)) (fun h_539 => ?_)
                      refine kx_iconst 120 F dX11_chance_119 rfl ?_
                      refine kx_goto 124 F dX11_chance_120 (by decide) ?_
                      refine kx_iadd 125 F (v := x6_520 + 1) dX11_chance_124 rfl rfl ?_
                      refine kx_wrapi (fun w_540 h_541 _ => ?_)
                      refine kx_istore 127 F 6 (lo' := [some (vR G c0), none, some (vI a2), some (vI a3), none, some (vR G (M (M c0 5) 4)), some (vI w_540), some (vI x7_521)]) dX11_chance_125 (by decide) rfl rfl rfl ?_
                      refine kx_iinc 130 F 7 (v := x7_521 + 1) (lo' := [some (vR G c0), none, some (vI a2), some (vI a3), none, some (vR G (M (M c0 5) 4)), some (vI w_540), some (vI (x7_521 + 1))]) dX11_chance_127 rfl (by omega) (by decide) rfl rfl rfl ?_
                      refine kx_goto 92 F dX11_chance_130 (by decide) ?_
                      exact ih_525 _ (by omega) w_540 (x7_521 + 1) N_534 hI_N_534 hF_N_534 hE_N_534 (by omega) rfl
                    · refine kx_if_eq 119 F 123 dX11_chance_116 (by decide) rfl (by omega) (fun h_542 => ?_) (fun h_542 => (by exfalso; omega))
                      refine kx_iconst 124 F dX11_chance_123 rfl ?_
                      refine kx_iadd 125 F (v := x6_520) dX11_chance_124 (by omega) rfl ?_
                      refine kx_istore 127 F 6 (lo' := [some (vR G c0), none, some (vI a2), some (vI a3), none, some (vR G (M (M c0 5) 4)), some (vI x6_520), some (vI x7_521)]) dX11_chance_125 (by decide) rfl rfl rfl ?_
                      refine kx_iinc 130 F 7 (v := x7_521 + 1) (lo' := [some (vR G c0), none, some (vI a2), some (vI a3), none, some (vR G (M (M c0 5) 4)), some (vI x6_520), some (vI (x7_521 + 1))]) dX11_chance_127 rfl (by omega) (by decide) rfl rfl rfl ?_
                      refine kx_goto 92 F dX11_chance_130 (by decide) ?_
                      exact ih_525 _ (by omega) x6_520 (x7_521 + 1) N_534 hI_N_534 hF_N_534 hE_N_534 (by omega) rfl
                refine kx_drop 1 (lo' := [some (vR G c0), none, some (vI a2), some (vI a3), some (vI a4), some (vR G (M (M c0 5) 4)), some (vI 0), some (vI 0)]) rfl ?_
                refine kx_drop 4 (lo' := [some (vR G c0), none, some (vI a2), some (vI a3), none, some (vR G (M (M c0 5) 4)), some (vI 0), some (vI 0)]) rfl ?_
                exact L_523 _ 0 0 N_374 hI_N_374 hF_N_374 hE_N_374 (by omega) rfl
              · refine kx_astore 80 F 5 (lo' := [some (vR G c0), some (vI a1), some (vI a2), some (vI a3), some (vI a4), some (vR G (M (M c0 5) 5)), none, none]) dX11_chance_78 (by decide) rfl rfl rfl ?_
                refine kx_aload_n 81 F 0 dX11_chance_80 rfl rfl rfl ?_
                refine kx_iload 83 F 4 dX11_chance_81 rfl rfl ?_
                refine kx_puti 86 F fw_X11_357 rfl hk_c0 rfl rfl (j := 14) rfl dX11_chance_83 rfl ?_
                intro N_543 hM_N_543
                have hI_N_543 : Inv false N_543 := Inv.u hI_M hM_N_543 hk_c0 (a := 0) (b := 65535) rfl rfl rfl (by omega)
                have hF_N_543 : Fr f_e_chance5 M N_543 := Fr.u hF_M hM_N_543 hk_c0 rfl
                have hE_N_543 : Cf (SWk M (M c0 12)) M N_543 := Cf.sk hE_M hM_N_543 hk_c0 rfl
                refine kx_iconst 87 F dX11_chance_86 rfl ?_
                refine kx_istore 89 F 6 (lo' := [some (vR G c0), some (vI a1), some (vI a2), some (vI a3), some (vI a4), some (vR G (M (M c0 5) 5)), some (vI 0), none]) dX11_chance_87 (by decide) rfl rfl rfl ?_
                refine kx_iconst 90 F dX11_chance_89 rfl ?_
                refine kx_istore 92 F 7 (lo' := [some (vR G c0), some (vI a1), some (vI a2), some (vI a3), some (vI a4), some (vR G (M (M c0 5) 5)), some (vI 0), some (vI 0)]) dX11_chance_90 (by decide) rfl rfl rfl ?_
                have L_692 : ∀ (n_693 : Nat) (x6_689 : Int) (x7_690 : Int) (N_691 : Mem), Inv false N_691 → Fr f_e_chance5 M N_691 → Cf (SWk M (M c0 12)) M N_691 → (-2147483648) ≤ x6_689 ∧ x6_689 ≤ 2147483647 ∧ 0 ≤ x7_690 ∧ x7_690 ≤ 50 → (50 - (x7_690)).toNat = n_693 → KJ false G X N_691 92 [some (vR G c0), none, some (vI a2), some (vI a3), none, some (vR G (M (M c0 5) 5)), some (vI x6_689), some (vI x7_690)] [] := by
                  intro n_693
                  refine Nat.strongRecOn n_693 ?_
                  intro n_693 ih_694 x6_689 x7_690 N_691 hI_N_691 hF_N_691 hE_N_691 h_695 hm_696
                  refine kx_iload 94 F 7 dX11_chance_92 rfl rfl ?_
                  refine kx_iload_n 95 F 3 dX11_chance_94 rfl rfl rfl ?_
                  refine kx_icmp_ge 98 F 133 dX11_chance_95 (by decide) rfl (by omega) (by omega) (fun h_697 => ?_) (fun h_697 => ?_)
                  · refine kx_aload_n 134 F 0 dX11_chance_133 rfl rfl rfl ?_
                    refine kx_iload 136 F 6 dX11_chance_134 rfl rfl ?_
                    refine kx_i2l 137 F dX11_chance_136 (by omega) rfl ?_
                    refine kx_iload_n 138 F 3 dX11_chance_137 rfl rfl rfl ?_
                    refine kx_i2l 139 F dX11_chance_138 (by omega) rfl ?_
                    refine kx_Vv 142 (ci := 0) F (As := [vL x6_689, vL a3]) (st := []) vd_X11_252 (c_X11_tellFraction G l N_691 c0 x6_689 a3 hI_N_691 hk_c0 (by omega)) hk_c0 rfl rfl rfl ⟨by decide, by decide⟩ rfl rfl (Nat.le_of_ble_eq_true rfl) dX11_chance_139 rfl ?_
                    intro N_698 q_699
                    obtain ⟨hI_N_698, hG_N_698⟩ := q_699
                    have hF_N_698 : Fr f_e_chance5 M N_698 := Fr.c hF_N_691 hG_N_698 rfl
                    have hE_N_698 : Cf (SWk M (M c0 12)) M N_698 := Cf.fr hE_N_691 hG_N_698 rfl
                    refine kx_aload_n 143 F 0 dX11_chance_142 rfl rfl rfl ?_
                    refine kx_Vi 146 (ci := 0) F (As := []) (st := []) vd_X11_98 (c_X11_agree G l N_698 c0 hI_N_698 hk_c0) hk_c0 rfl rfl rfl ⟨by decide, by decide⟩ rfl rfl (Nat.le_of_ble_eq_true rfl) dX11_chance_143 rfl ?_
                    intro r_700 N_701 q_702
                    obtain ⟨hI_N_701, hG_N_701, q_702c⟩ := q_702
                    have hF_N_701 : Fr f_e_chance5 M N_701 := Fr.c hF_N_698 hG_N_701 rfl
                    have hE_N_701 : Cf (SWk M (M c0 12)) M N_701 := Cf.fr hE_N_698 hG_N_701 rfl
                    subst q_702c
                    exact kx_zret F hQ (by omega) ⟨hI_N_701, hF_N_701, (by omega), hE_N_701, (Or.inl ⟨by omega, by omega, by omega, by omega, by omega, by omega, by omega, by omega, by omega, by omega⟩)⟩ dX11_chance_146
                  · refine kx_aload_n 99 F 0 dX11_chance_98 rfl rfl rfl ?_
                    refine kx_aload 101 F 5 dX11_chance_99 rfl rfl ?_
                    refine kx_iload_n 102 F 2 dX11_chance_101 rfl rfl rfl ?_
                    refine kx_Vv 105 (ci := 0) F (As := [vR G (M (M c0 5) 5), vI a2]) (st := []) vd_X11_363 (e_walkDrawn5 G l N_691 c0 (M (M c0 5) 5) a2 hI_N_691 hk_c0 hk_373 (by omega)) hk_c0 rfl rfl rfl ⟨by decide, by decide⟩ rfl rfl (Nat.le_of_ble_eq_true rfl) dX11_chance_102 rfl ?_
                    intro N_703 q_704
                    obtain ⟨hI_N_703, hG_N_703, hC_N_703⟩ := q_704
                    have hF_N_703 : Fr f_e_chance5 M N_703 := Fr.c hF_N_691 hG_N_703 rfl
                    have hE_N_703 : Cf (SWk M (M c0 12)) M N_703 := Cf.c hE_N_691 hC_N_703 (fun y hy => SWk.e (by rw [Fr.e hF_N_691 hk_c0 12 rfl] at hy; exact hy) (Fr.e hF_N_691 hk_6 5 rfl) (Fr.e hF_N_691 hk_6 6 rfl) (Fr.e hF_N_691 hk_6 7 rfl))
                    refine kx_iload 107 F 6 dX11_chance_105 rfl rfl ?_
                    refine kx_aload_n 108 F 0 dX11_chance_107 rfl rfl rfl ?_
                    refine kx_getr 111 F fl_X11_61 hk_c0 rfl rfl (j := 12) rfl dX11_chance_108 (v := (M c0 12)) (by rw [Fr.e hG_N_703 hk_c0 _ rfl, Fr.e hF_N_691 hk_c0 _ rfl]) rfl ?_
                    refine kx_aload 113 F 5 dX11_chance_111 rfl rfl ?_
                    refine kx_Vi 116 (ci := 0) F (As := [vR G (M (M c0 5) 5)]) (st := [vI x6_689]) vd_X11_234 (e_isTaken3 G l N_703 (M c0 12) (M (M c0 5) 5) hI_N_703 hk_6 hk_373) hk_6 rfl rfl rfl ⟨by decide, by decide⟩ rfl rfl (Nat.le_of_ble_eq_true rfl) dX11_chance_113 rfl ?_
                    intro r_705 N_706 q_707
                    obtain ⟨rfl, q_707c⟩ := q_707
                    rcases q_707c with q_707c | q_707c
                    · refine kx_if_eq 119 F 123 dX11_chance_116 (by decide) rfl (by omega) (fun h_708 => (by exfalso; omega)) (fun h_708 => ?_)
                      refine kx_iconst 120 F dX11_chance_119 rfl ?_
                      refine kx_goto 124 F dX11_chance_120 (by decide) ?_
                      refine kx_iadd 125 F (v := x6_689 + 1) dX11_chance_124 rfl rfl ?_
                      refine kx_wrapi (fun w_709 h_710 _ => ?_)
                      refine kx_istore 127 F 6 (lo' := [some (vR G c0), none, some (vI a2), some (vI a3), none, some (vR G (M (M c0 5) 5)), some (vI w_709), some (vI x7_690)]) dX11_chance_125 (by decide) rfl rfl rfl ?_
                      refine kx_iinc 130 F 7 (v := x7_690 + 1) (lo' := [some (vR G c0), none, some (vI a2), some (vI a3), none, some (vR G (M (M c0 5) 5)), some (vI w_709), some (vI (x7_690 + 1))]) dX11_chance_127 rfl (by omega) (by decide) rfl rfl rfl ?_
                      refine kx_goto 92 F dX11_chance_130 (by decide) ?_
                      exact ih_694 _ (by omega) w_709 (x7_690 + 1) N_703 hI_N_703 hF_N_703 hE_N_703 (by omega) rfl
                    · refine kx_if_eq 119 F 123 dX11_chance_116 (by decide) rfl (by omega) (fun h_711 => ?_) (fun h_711 => (by exfalso; omega))
                      refine kx_iconst 124 F dX11_chance_123 rfl ?_
                      refine kx_iadd 125 F (v := x6_689) dX11_chance_124 (by omega) rfl ?_
                      refine kx_istore 127 F 6 (lo' := [some (vR G c0), none, some (vI a2), some (vI a3), none, some (vR G (M (M c0 5) 5)), some (vI x6_689), some (vI x7_690)]) dX11_chance_125 (by decide) rfl rfl rfl ?_
                      refine kx_iinc 130 F 7 (v := x7_690 + 1) (lo' := [some (vR G c0), none, some (vI a2), some (vI a3), none, some (vR G (M (M c0 5) 5)), some (vI x6_689), some (vI (x7_690 + 1))]) dX11_chance_127 rfl (by omega) (by decide) rfl rfl rfl ?_
                      refine kx_goto 92 F dX11_chance_130 (by decide) ?_
                      exact ih_694 _ (by omega) x6_689 (x7_690 + 1) N_703 hI_N_703 hF_N_703 hE_N_703 (by omega) rfl
                refine kx_drop 1 (lo' := [some (vR G c0), none, some (vI a2), some (vI a3), some (vI a4), some (vR G (M (M c0 5) 5)), some (vI 0), some (vI 0)]) rfl ?_
                refine kx_drop 4 (lo' := [some (vR G c0), none, some (vI a2), some (vI a3), none, some (vR G (M (M c0 5) 5)), some (vI 0), some (vI 0)]) rfl ?_
                exact L_692 _ 0 0 N_543 hI_N_543 hF_N_543 hE_N_543 (by omega) rfl
            · refine kx_aload_n 64 F 0 dX11_chance_63 rfl rfl rfl ?_
              refine kx_bipush 66 F dX11_chance_64 (by decide) rfl ?_
              refine kx_Vi 69 (ci := 0) F (As := [vI 6]) (st := []) vd_X11_91 (c_X11_deny G l M c0 6 hI_M hk_c0 (by omega)) hk_c0 rfl rfl rfl ⟨by decide, by decide⟩ rfl rfl (Nat.le_of_ble_eq_true rfl) dX11_chance_66 rfl ?_
              intro r_712 N_713 q_714
              obtain ⟨hI_N_713, hG_N_713, q_714c⟩ := q_714
              have hF_N_713 : Fr f_e_chance5 M N_713 := Fr.c hF_M hG_N_713 rfl
              have hE_N_713 : Cf (SWk M (M c0 12)) M N_713 := Cf.fr hE_M hG_N_713 rfl
              subst q_714c
              exact kx_zret F hQ (by omega) ⟨hI_N_713, hF_N_713, (by omega), hE_N_713, (Or.inr ⟨by omega, by omega⟩)⟩ dX11_chance_69
        · refine kx_if_ne 43 F 49 dX11_chance_40 (by decide) rfl (by omega) (fun h_715 => (by exfalso; omega)) (fun h_715 => ?_)
          refine kx_aload_n 44 F 0 dX11_chance_43 rfl rfl rfl ?_
          refine kx_iconst 45 F dX11_chance_44 rfl ?_
          refine kx_Vi 48 (ci := 0) F (As := [vI 1]) (st := []) vd_X11_91 (c_X11_deny G l M c0 1 hI_M hk_c0 (by omega)) hk_c0 rfl rfl rfl ⟨by decide, by decide⟩ rfl rfl (Nat.le_of_ble_eq_true rfl) dX11_chance_45 rfl ?_
          intro r_716 N_717 q_718
          obtain ⟨hI_N_717, hG_N_717, q_718c⟩ := q_718
          have hF_N_717 : Fr f_e_chance5 M N_717 := Fr.c hF_M hG_N_717 rfl
          have hE_N_717 : Cf (SWk M (M c0 12)) M N_717 := Cf.fr hE_M hG_N_717 rfl
          subst q_718c
          exact kx_zret F hQ (by omega) ⟨hI_N_717, hF_N_717, (by omega), hE_N_717, (Or.inr ⟨by omega, by omega⟩)⟩ dX11_chance_48
        · refine kx_if_ne 43 F 49 dX11_chance_40 (by decide) rfl (by omega) (fun h_719 => (by exfalso; omega)) (fun h_719 => ?_)
          refine kx_aload_n 44 F 0 dX11_chance_43 rfl rfl rfl ?_
          refine kx_iconst 45 F dX11_chance_44 rfl ?_
          refine kx_Vi 48 (ci := 0) F (As := [vI 1]) (st := []) vd_X11_91 (c_X11_deny G l M c0 1 hI_M hk_c0 (by omega)) hk_c0 rfl rfl rfl ⟨by decide, by decide⟩ rfl rfl (Nat.le_of_ble_eq_true rfl) dX11_chance_45 rfl ?_
          intro r_720 N_721 q_722
          obtain ⟨hI_N_721, hG_N_721, q_722c⟩ := q_722
          have hF_N_721 : Fr f_e_chance5 M N_721 := Fr.c hF_M hG_N_721 rfl
          have hE_N_721 : Cf (SWk M (M c0 12)) M N_721 := Cf.fr hE_M hG_N_721 rfl
          subst q_722c
          exact kx_zret F hQ (by omega) ⟨hI_N_721, hF_N_721, (by omega), hE_N_721, (Or.inr ⟨by omega, by omega⟩)⟩ dX11_chance_48
      · refine kx_if_eq 31 F 43 dX11_chance_28 (by decide) rfl (by omega) (fun h_723 => ?_) (fun h_723 => (by exfalso; omega))
        refine kx_aload_n 44 F 0 dX11_chance_43 rfl rfl rfl ?_
        refine kx_iconst 45 F dX11_chance_44 rfl ?_
        refine kx_Vi 48 (ci := 0) F (As := [vI 1]) (st := []) vd_X11_91 (c_X11_deny G l M c0 1 hI_M hk_c0 (by omega)) hk_c0 rfl rfl rfl ⟨by decide, by decide⟩ rfl rfl (Nat.le_of_ble_eq_true rfl) dX11_chance_45 rfl ?_
        intro r_724 N_725 q_726
        obtain ⟨hI_N_725, hG_N_725, q_726c⟩ := q_726
        have hF_N_725 : Fr f_e_chance5 M N_725 := Fr.c hF_M hG_N_725 rfl
        have hE_N_725 : Cf (SWk M (M c0 12)) M N_725 := Cf.fr hE_M hG_N_725 rfl
        subst q_726c
        exact kx_zret F hQ (by omega) ⟨hI_N_725, hF_N_725, (by omega), hE_N_725, (Or.inr ⟨by omega, by omega⟩)⟩ dX11_chance_48
      · refine kx_if_eq 31 F 43 dX11_chance_28 (by decide) rfl (by omega) (fun h_727 => ?_) (fun h_727 => (by exfalso; omega))
        refine kx_aload_n 44 F 0 dX11_chance_43 rfl rfl rfl ?_
        refine kx_iconst 45 F dX11_chance_44 rfl ?_
        refine kx_Vi 48 (ci := 0) F (As := [vI 1]) (st := []) vd_X11_91 (c_X11_deny G l M c0 1 hI_M hk_c0 (by omega)) hk_c0 rfl rfl rfl ⟨by decide, by decide⟩ rfl rfl (Nat.le_of_ble_eq_true rfl) dX11_chance_45 rfl ?_
        intro r_728 N_729 q_730
        obtain ⟨hI_N_729, hG_N_729, q_730c⟩ := q_730
        have hF_N_729 : Fr f_e_chance5 M N_729 := Fr.c hF_M hG_N_729 rfl
        have hE_N_729 : Cf (SWk M (M c0 12)) M N_729 := Cf.fr hE_M hG_N_729 rfl
        subst q_730c
        exact kx_zret F hQ (by omega) ⟨hI_N_729, hF_N_729, (by omega), hE_N_729, (Or.inr ⟨by omega, by omega⟩)⟩ dX11_chance_48
    · refine kx_if_eq 21 F 43 dX11_chance_18 (by decide) rfl (by omega) (fun h_731 => ?_) (fun h_731 => (by exfalso; omega))
      refine kx_aload_n 44 F 0 dX11_chance_43 rfl rfl rfl ?_
      refine kx_iconst 45 F dX11_chance_44 rfl ?_
      refine kx_Vi 48 (ci := 0) F (As := [vI 1]) (st := []) vd_X11_91 (c_X11_deny G l M c0 1 hI_M hk_c0 (by omega)) hk_c0 rfl rfl rfl ⟨by decide, by decide⟩ rfl rfl (Nat.le_of_ble_eq_true rfl) dX11_chance_45 rfl ?_
      intro r_732 N_733 q_734
      obtain ⟨hI_N_733, hG_N_733, q_734c⟩ := q_734
      have hF_N_733 : Fr f_e_chance5 M N_733 := Fr.c hF_M hG_N_733 rfl
      have hE_N_733 : Cf (SWk M (M c0 12)) M N_733 := Cf.fr hE_M hG_N_733 rfl
      subst q_734c
      exact kx_zret F hQ (by omega) ⟨hI_N_733, hF_N_733, (by omega), hE_N_733, (Or.inr ⟨by omega, by omega⟩)⟩ dX11_chance_48
    · refine kx_if_eq 21 F 43 dX11_chance_18 (by decide) rfl (by omega) (fun h_735 => ?_) (fun h_735 => (by exfalso; omega))
      refine kx_aload_n 44 F 0 dX11_chance_43 rfl rfl rfl ?_
      refine kx_iconst 45 F dX11_chance_44 rfl ?_
      refine kx_Vi 48 (ci := 0) F (As := [vI 1]) (st := []) vd_X11_91 (c_X11_deny G l M c0 1 hI_M hk_c0 (by omega)) hk_c0 rfl rfl rfl ⟨by decide, by decide⟩ rfl rfl (Nat.le_of_ble_eq_true rfl) dX11_chance_45 rfl ?_
      intro r_736 N_737 q_738
      obtain ⟨hI_N_737, hG_N_737, q_738c⟩ := q_738
      have hF_N_737 : Fr f_e_chance5 M N_737 := Fr.c hF_M hG_N_737 rfl
      have hE_N_737 : Cf (SWk M (M c0 12)) M N_737 := Cf.fr hE_M hG_N_737 rfl
      subst q_738c
      exact kx_zret F hQ (by omega) ⟨hI_N_737, hF_N_737, (by omega), hE_N_737, (Or.inr ⟨by omega, by omega⟩)⟩ dX11_chance_48
  · refine kx_if_eq 11 F 43 dX11_chance_8 (by decide) rfl (by omega) (fun h_739 => ?_) (fun h_739 => (by exfalso; omega))
    refine kx_aload_n 44 F 0 dX11_chance_43 rfl rfl rfl ?_
    refine kx_iconst 45 F dX11_chance_44 rfl ?_
    refine kx_Vi 48 (ci := 0) F (As := [vI 1]) (st := []) vd_X11_91 (c_X11_deny G l M c0 1 hI_M hk_c0 (by omega)) hk_c0 rfl rfl rfl ⟨by decide, by decide⟩ rfl rfl (Nat.le_of_ble_eq_true rfl) dX11_chance_45 rfl ?_
    intro r_740 N_741 q_742
    obtain ⟨hI_N_741, hG_N_741, q_742c⟩ := q_742
    have hF_N_741 : Fr f_e_chance5 M N_741 := Fr.c hF_M hG_N_741 rfl
    have hE_N_741 : Cf (SWk M (M c0 12)) M N_741 := Cf.fr hE_M hG_N_741 rfl
    subst q_742c
    exact kx_zret F hQ (by omega) ⟨hI_N_741, hF_N_741, (by omega), hE_N_741, (Or.inr ⟨by omega, by omega⟩)⟩ dX11_chance_48
  · refine kx_if_eq 11 F 43 dX11_chance_8 (by decide) rfl (by omega) (fun h_743 => ?_) (fun h_743 => (by exfalso; omega))
    refine kx_aload_n 44 F 0 dX11_chance_43 rfl rfl rfl ?_
    refine kx_iconst 45 F dX11_chance_44 rfl ?_
    refine kx_Vi 48 (ci := 0) F (As := [vI 1]) (st := []) vd_X11_91 (c_X11_deny G l M c0 1 hI_M hk_c0 (by omega)) hk_c0 rfl rfl rfl ⟨by decide, by decide⟩ rfl rfl (Nat.le_of_ble_eq_true rfl) dX11_chance_45 rfl ?_
    intro r_744 N_745 q_746
    obtain ⟨hI_N_745, hG_N_745, q_746c⟩ := q_746
    have hF_N_745 : Fr f_e_chance5 M N_745 := Fr.c hF_M hG_N_745 rfl
    have hE_N_745 : Cf (SWk M (M c0 12)) M N_745 := Cf.fr hE_M hG_N_745 rfl
    subst q_746c
    exact kx_zret F hQ (by omega) ⟨hI_N_745, hF_N_745, (by omega), hE_N_745, (Or.inr ⟨by omega, by omega⟩)⟩ dX11_chance_48
abbrev f_e_clear5 : List (Nat × Int) := [(8, 0), (12, 0), (12, 1), (12, 2), (12, 3)]
set_option maxHeartbeats 4000000 in
set_option maxRecDepth 100000 in
theorem e_clear5 (G : KG) (l : Launch) (M : Mem) (c0 : Int) (hI_M : Inv false M) (hk_c0 : kd c0 = 12) (hX_M : XX M) (hZ : FZ M) : KC false G l yX5_clear cX5_clear 1 none (0, 0) [vR G c0] M (fun A => kQv false G A (fun (N : Mem) => Inv false N ∧ Fr f_e_clear5 M N ∧ ((N c0 0) = 0 ∧ (N c0 1) = 0 ∧ (N c0 2) = 0 ∧ (N c0 3) = 0) ∧ XX N ∧ Cf (fun x => c0 ≤ x ∧ x < c0 + 19) M N ∧ (N (M c0 6) 0 = -1))) := by
  refine kx_met (lo := [some (vR G c0)]) (by decide) (Nat.le_of_ble_eq_true rfl) rfl ?_
  intro X F hQ
  have hF_M : Fr f_e_clear5 M M := Fr.rf _ _
  have hE_M : Cf (fun x => c0 ≤ x ∧ x < c0 + 19) M M := Cf.rf _ _
  have hk_1 : kd (M c0 6) = 8 := Inv.r hI_M hk_c0 rfl 6 rfl rfl
  refine kx_aload_n 1 F 0 dX5_clear_0 rfl rfl rfl ?_
  refine kx_iconst 2 F dX5_clear_1 rfl ?_
  refine kx_puti 5 F fw_X5_28 rfl hk_c0 rfl rfl (j := 0) rfl dX5_clear_2 rfl ?_
  intro N_2 hM_N_2
  have hI_N_2 : Inv false N_2 := Inv.u hI_M hM_N_2 hk_c0 (a := 0) (b := 2) rfl rfl rfl (by omega)
  have hF_N_2 : Fr f_e_clear5 M N_2 := Fr.u hF_M hM_N_2 hk_c0 rfl
  have hE_N_2 : Cf (fun x => c0 ≤ x ∧ x < c0 + 19) M N_2 := Cf.st hE_M hM_N_2 ⟨by omega, by omega⟩
  refine kx_aload_n 6 F 0 dX5_clear_5 rfl rfl rfl ?_
  refine kx_iconst 7 F dX5_clear_6 rfl ?_
  refine kx_puti 10 F fw_X5_32 rfl hk_c0 rfl rfl (j := 1) rfl dX5_clear_7 rfl ?_
  intro N_3 hM_N_3
  have hI_N_3 : Inv false N_3 := Inv.u hI_N_2 hM_N_3 hk_c0 (a := 0) (b := 4) rfl rfl rfl (by omega)
  have hF_N_3 : Fr f_e_clear5 M N_3 := Fr.u hF_N_2 hM_N_3 hk_c0 rfl
  have hE_N_3 : Cf (fun x => c0 ≤ x ∧ x < c0 + 19) M N_3 := Cf.st hE_N_2 hM_N_3 ⟨by omega, by omega⟩
  refine kx_aload_n 11 F 0 dX5_clear_10 rfl rfl rfl ?_
  refine kx_iconst 12 F dX5_clear_11 rfl ?_
  refine kx_puti 15 F fw_X5_35 rfl hk_c0 rfl rfl (j := 2) rfl dX5_clear_12 rfl ?_
  intro N_4 hM_N_4
  have hI_N_4 : Inv false N_4 := Inv.u hI_N_3 hM_N_4 hk_c0 (a := 0) (b := 6) rfl rfl rfl (by omega)
  have hF_N_4 : Fr f_e_clear5 M N_4 := Fr.u hF_N_3 hM_N_4 hk_c0 rfl
  have hE_N_4 : Cf (fun x => c0 ≤ x ∧ x < c0 + 19) M N_4 := Cf.st hE_N_3 hM_N_4 ⟨by omega, by omega⟩
  refine kx_aload_n 16 F 0 dX5_clear_15 rfl rfl rfl ?_
  refine kx_iconst 17 F dX5_clear_16 rfl ?_
  refine kx_puti 20 F fw_X5_38 rfl hk_c0 rfl rfl (j := 3) rfl dX5_clear_17 rfl ?_
  intro N_5 hM_N_5
  have hI_N_5 : Inv false N_5 := Inv.u hI_N_4 hM_N_5 hk_c0 (a := 0) (b := 2) rfl rfl rfl (by omega)
  have hF_N_5 : Fr f_e_clear5 M N_5 := Fr.u hF_N_4 hM_N_5 hk_c0 rfl
  have hE_N_5 : Cf (fun x => c0 ≤ x ∧ x < c0 + 19) M N_5 := Cf.st hE_N_4 hM_N_5 ⟨by omega, by omega⟩
  refine kx_aload_n 21 F 0 dX5_clear_20 rfl rfl rfl ?_
  refine kx_getr 24 F fl_X5_24 hk_c0 rfl rfl (j := 6) rfl dX5_clear_21 (v := (M c0 6)) (by rw [hM_N_5, mu_i (by omega), hM_N_4, mu_i (by omega), hM_N_3, mu_i (by omega), hM_N_2, mu_i (by omega)]) rfl ?_
  refine kx_iconst 25 F dX5_clear_24 rfl ?_
  refine kx_puti 28 F fw_X5_41 rfl hk_1 rfl rfl (j := 0) rfl dX5_clear_25 rfl ?_
  intro N_6 hM_N_6
  have hI_N_6 : Inv false N_6 := Inv.u hI_N_5 hM_N_6 hk_1 (a := (-1)) (b := 1) rfl rfl rfl (by omega)
  have hF_N_6 : Fr f_e_clear5 M N_6 := Fr.u hF_N_5 hM_N_6 hk_1 rfl
  have hE_N_6 : Cf (fun x => c0 ≤ x ∧ x < c0 + 19) M N_6 := Cf.st hE_N_5 hM_N_6 ⟨by have z := hZ.2.1 c0 hk_c0; omega, by have z := hZ.2.1 c0 hk_c0; omega⟩
  have e_7 : (N_6 c0 0) = 0 := by rw [hM_N_6, mu_k hk_c0 hk_1 rfl, hM_N_5, mu_i (by omega), hM_N_4, mu_i (by omega), hM_N_3, mu_i (by omega), hM_N_2, mu_s]
  have e_8 : (N_6 c0 1) = 0 := by rw [hM_N_6, mu_k hk_c0 hk_1 rfl, hM_N_5, mu_i (by omega), hM_N_4, mu_i (by omega), hM_N_3, mu_s]
  have e_9 : (N_6 c0 2) = 0 := by rw [hM_N_6, mu_k hk_c0 hk_1 rfl, hM_N_5, mu_i (by omega), hM_N_4, mu_s]
  have hs_N_6 : SX N_6 := SX.one hX_M.1 (c0 := c0) (fun c hkc hc => ⟨by rw [hM_N_6, mu_k hkc hk_1 rfl, hM_N_5, mu_c hc, hM_N_4, mu_c hc, hM_N_3, mu_c hc, hM_N_2, mu_c hc], by rw [hM_N_6, mu_k hkc hk_1 rfl, hM_N_5, mu_c hc, hM_N_4, mu_c hc, hM_N_3, mu_c hc, hM_N_2, mu_c hc], by rw [hM_N_6, mu_k hkc hk_1 rfl, hM_N_5, mu_c hc, hM_N_4, mu_c hc, hM_N_3, mu_c hc, hM_N_2, mu_c hc]⟩) (by omega)
  have hX_N_6 : XX N_6 := XX.set hX_M hI_M hF_N_6 rfl hs_N_6
  have e_13 : (N_6 c0 3) = 0 := by rw [hM_N_6, mu_k hk_c0 hk_1 rfl, hM_N_5, mu_s]
  have e_14 : (N_6 (M c0 6) 0) = -1 := by rw [hM_N_6, mu_s]
  exact kx_vret F hQ ⟨hI_N_6, hF_N_6, (by omega), hX_N_6, hE_N_6, (by omega)⟩ dX5_clear_28
abbrev f_e_take5 : List (Nat × Int) := [(1, 0), (1, 1), (1, 2), (1, 3), (1, 4), (1, 5), (2, -1), (3, -1), (4, -1), (5, -1), (6, -1), (7, -1), (8, 0), (12, 0), (12, 1), (12, 2), (12, 3), (17, 1), (17, 2), (17, 3), (17, 5), (17, 6), (17, 7), (17, 8), (17, 9), (19, -1), (20, -1)]
set_option maxHeartbeats 4000000 in
set_option maxRecDepth 100000 in
theorem e_take5 (G : KG) (l : Launch) (M : Mem) (c0 : Int) (a1 : Int) (hI_M : Inv false M) (hk_c0 : kd c0 = 17) (hpre : -2147483648 ≤ a1 ∧ a1 ≤ 2147483647 ∧ 0 ≤ a1 ∧ a1 ≤ 900) (hX_M : XX M) (Bt : Int → Int) (hT : zTB M (M c0 4) a1 Bt) (hZ : FZ M) : KC false G l yX1_take cX1_take 4 (some .boolean) (9, 195) [vR G c0, vI a1] M (fun A => kQi false G A (fun (r : Int) (N : Mem) => Inv false N ∧ Fr f_e_take5 M N ∧ ((N c0 1) = 0 ∧ r ≥ 0 ∧ r ≤ 1 ∧ (N (M (M c0 0) 6) 0) = -1) ∧ XX N ∧ Cf (fun x => M c0 0 ≤ x ∧ x < M c0 0 + 19) M N ∧ (zFIN N c0 Bt r))) := by
  refine kx_met (lo := [some (vR G c0), some (vI a1), none, none]) (by decide) (Nat.le_of_ble_eq_true rfl) rfl ?_
  intro X F hQ
  have hF_M : Fr f_e_take5 M M := Fr.rf _ _
  have hE_M : Cf (fun x => M c0 0 ≤ x ∧ x < M c0 0 + 19) M M := Cf.rf _ _
  have hk_1 : kd (M c0 4) = 18 := Inv.r hI_M hk_c0 rfl 4 rfl rfl
  have hk_2 : kd (M c0 0) = 12 := Inv.r hI_M hk_c0 rfl 0 rfl rfl
  have hk_3 : kd (M (M c0 0) 6) = 8 := Inv.r hI_M hk_2 rfl 6 rfl rfl
  refine kx_aload_n 1 F 0 dX1_take_0 rfl rfl rfl ?_
  refine kx_iload_n 2 F 1 dX1_take_1 rfl rfl rfl ?_
  refine kx_sipush 5 F dX1_take_2 (by decide) rfl ?_
  refine kx_mmin 8 F dX1_take_5 (tt lm_799 rfl) (tt lm_800 rfl) (tt lm_180 rfl) (tt lm_801 rfl) (by decide) (Nat.le_of_ble_eq_true rfl) (by omega) (by omega) rfl (fun w_4 h_5 => ?_)
  have hmin : w_4 = a1 := by omega
  refine kx_puti 11 F fw_X1_45 rfl hk_c0 rfl rfl (j := 5) rfl dX1_take_8 rfl ?_
  intro N_6 hM_N_6
  have hI_N_6 : Inv false N_6 := Inv.u hI_M hM_N_6 hk_c0 (a := 0) (b := 900) rfl rfl rfl (by omega)
  have hF_N_6 : Fr f_e_take5 M N_6 := Fr.u hF_M hM_N_6 hk_c0 rfl
  have hX_N_6 : XX N_6 := XX.st hX_M hI_M hM_N_6 hk_c0 rfl
  have hE_N_6 : Cf (fun x => M c0 0 ≤ x ∧ x < M c0 0 + 19) M N_6 := Cf.sk hE_M hM_N_6 hk_c0 rfl
  refine kx_aload_n 12 F 0 dX1_take_11 rfl rfl rfl ?_
  refine kx_iconst 13 F dX1_take_12 rfl ?_
  refine kx_puti 16 F fw_X1_36 rfl hk_c0 rfl rfl (j := 1) rfl dX1_take_13 rfl ?_
  intro N_7 hM_N_7
  have hI_N_7 : Inv false N_7 := Inv.u hI_N_6 hM_N_7 hk_c0 (a := 0) (b := 900) rfl rfl rfl (by omega)
  have hF_N_7 : Fr f_e_take5 M N_7 := Fr.u hF_N_6 hM_N_7 hk_c0 rfl
  have hX_N_7 : XX N_7 := XX.st hX_N_6 hI_N_6 hM_N_7 hk_c0 rfl
  have hE_N_7 : Cf (fun x => M c0 0 ≤ x ∧ x < M c0 0 + 19) M N_7 := Cf.sk hE_N_6 hM_N_7 hk_c0 rfl
  refine kx_aload_n 17 F 0 dX1_take_16 rfl rfl rfl ?_
  refine kx_getr 20 F fl_X1_12 hk_c0 rfl rfl (j := 0) rfl dX1_take_17 (v := (M c0 0)) (by rw [hM_N_7, mu_i (by omega), hM_N_6, mu_i (by omega)]) rfl ?_
  refine kx_Vv 23 (ci := 0) F (As := []) (st := []) vd_X1_48 (e_clear5 G l N_7 (M c0 0) hI_N_7 hk_2 hX_N_7 (FZ.fr hZ hF_N_7 rfl)) hk_2 rfl rfl rfl ⟨by decide, by decide⟩ rfl rfl (Nat.le_of_ble_eq_true rfl) dX1_take_20 rfl ?_
  intro N_8 q_9
  obtain ⟨hI_N_8, hG_N_8, q_9c, hX_N_8, hC_N_8, hcl_N_8⟩ := q_9
  have hF_N_8 : Fr f_e_take5 M N_8 := Fr.c hF_N_7 hG_N_8 rfl
  have hE_N_8 : Cf (fun x => M c0 0 ≤ x ∧ x < M c0 0 + 19) M N_8 := Cf.c hE_N_7 hC_N_8 (fun _ hx => hx)
  have hcm_N_8 : N_8 (M (M c0 0) 6) 0 = -1 := by rw [← ((by rw [hM_N_7, mu_k hk_2 hk_c0 rfl, hM_N_6, mu_k hk_2 hk_c0 rfl]) : N_7 (M c0 0) 6 = M (M c0 0) 6)]; exact hcl_N_8
  have h_10 := Inv.g hI_N_8 hk_2 rfl 0 (a := 0) (b := 2) rfl rfl
  have h_11 := Inv.g hI_N_8 hk_2 rfl 1 (a := 0) (b := 4) rfl rfl
  have h_12 := Inv.g hI_N_8 hk_2 rfl 2 (a := 0) (b := 6) rfl rfl
  have h_13 := Inv.g hI_N_8 hk_2 rfl 3 (a := 0) (b := 2) rfl rfl
  refine kx_aload_n 24 F 0 dX1_take_23 rfl rfl rfl ?_
  refine kx_iconst 25 F dX1_take_24 rfl ?_
  refine kx_puti 28 F fw_X1_18 rfl hk_c0 rfl rfl (j := 2) rfl dX1_take_25 rfl ?_
  intro N_14 hM_N_14
  have hI_N_14 : Inv false N_14 := Inv.u hI_N_8 hM_N_14 hk_c0 (a := (-2147483648)) (b := 2147483647) rfl rfl rfl (by omega)
  have hF_N_14 : Fr f_e_take5 M N_14 := Fr.u hF_N_8 hM_N_14 hk_c0 rfl
  have hX_N_14 : XX N_14 := XX.st hX_N_8 hI_N_8 hM_N_14 hk_c0 rfl
  have hE_N_14 : Cf (fun x => M c0 0 ≤ x ∧ x < M c0 0 + 19) M N_14 := Cf.sk hE_N_8 hM_N_14 hk_c0 rfl
  refine kx_aload_n 29 F 0 dX1_take_28 rfl rfl rfl ?_
  refine kx_iconst 30 F dX1_take_29 rfl ?_
  refine kx_puti 33 F fw_X1_22 rfl hk_c0 rfl rfl (j := 3) rfl dX1_take_30 rfl ?_
  intro N_15 hM_N_15
  have hI_N_15 : Inv false N_15 := Inv.u hI_N_14 hM_N_15 hk_c0 (a := (-2147483648)) (b := 2147483647) rfl rfl rfl (by omega)
  have hF_N_15 : Fr f_e_take5 M N_15 := Fr.u hF_N_14 hM_N_15 hk_c0 rfl
  have hX_N_15 : XX N_15 := XX.st hX_N_14 hI_N_14 hM_N_15 hk_c0 rfl
  have hE_N_15 : Cf (fun x => M c0 0 ≤ x ∧ x < M c0 0 + 19) M N_15 := Cf.sk hE_N_14 hM_N_15 hk_c0 rfl
  refine kx_aload_n 34 F 0 dX1_take_33 rfl rfl rfl ?_
  refine kx_iconst 35 F dX1_take_34 rfl ?_
  refine kx_puti 38 F fw_X1_51 rfl hk_c0 rfl rfl (j := 7) rfl dX1_take_35 rfl ?_
  intro N_16 hM_N_16
  have hI_N_16 : Inv false N_16 := Inv.u hI_N_15 hM_N_16 hk_c0 (a := 0) (b := 900) rfl rfl rfl (by omega)
  have hF_N_16 : Fr f_e_take5 M N_16 := Fr.u hF_N_15 hM_N_16 hk_c0 rfl
  have hX_N_16 : XX N_16 := XX.st hX_N_15 hI_N_15 hM_N_16 hk_c0 rfl
  have hE_N_16 : Cf (fun x => M c0 0 ≤ x ∧ x < M c0 0 + 19) M N_16 := Cf.sk hE_N_15 hM_N_16 hk_c0 rfl
  refine kx_aload_n 39 F 0 dX1_take_38 rfl rfl rfl ?_
  refine kx_iconst 40 F dX1_take_39 rfl ?_
  refine kx_puti 43 F fw_X1_54 rfl hk_c0 rfl rfl (j := 8) rfl dX1_take_40 rfl ?_
  intro N_17 hM_N_17
  have hI_N_17 : Inv false N_17 := Inv.u hI_N_16 hM_N_17 hk_c0 (a := 0) (b := 900) rfl rfl rfl (by omega)
  have hF_N_17 : Fr f_e_take5 M N_17 := Fr.u hF_N_16 hM_N_17 hk_c0 rfl
  have hX_N_17 : XX N_17 := XX.st hX_N_16 hI_N_16 hM_N_17 hk_c0 rfl
  have hE_N_17 : Cf (fun x => M c0 0 ≤ x ∧ x < M c0 0 + 19) M N_17 := Cf.sk hE_N_16 hM_N_17 hk_c0 rfl
  refine kx_iconst 44 F dX1_take_43 rfl ?_
  refine kx_istore_n 45 F 2 (lo' := [some (vR G c0), some (vI a1), some (vI 1), none]) dX1_take_44 rfl (by decide) rfl rfl rfl ?_
  refine kx_iconst 46 F dX1_take_45 rfl ?_
  refine kx_istore_n 47 F 3 (lo' := [some (vR G c0), some (vI a1), some (vI 1), some (vI 0)]) dX1_take_46 rfl (by decide) rfl rfl rfl ?_
  have L_404 : ∀ (n_405 : Nat) (x2_401 : Int) (x3_402 : Int) (N_403 : Mem), Inv false N_403 → Fr f_e_take5 M N_403 → XX N_403 → Cf (fun x => M c0 0 ≤ x ∧ x < M c0 0 + 19) M N_403 → zTK N_403 c0 Bt x2_401 x3_402 → TB N_403 c0 Bt → FZ N_403 → 0 ≤ x2_401 ∧ x2_401 ≤ 1 ∧ 0 ≤ x3_402 ∧ x3_402 ≤ 901 ∧ (N_403 c0 1) = 0 ∧ (N_403 (M (M c0 0) 6) 0) = -1 → (901 - (x3_402)).toNat = n_405 → KJ false G X N_403 47 [some (vR G c0), none, some (vI x2_401), some (vI x3_402)] [] := by
    intro n_405
    refine Nat.strongRecOn n_405 ?_
    intro n_405 ih_406 x2_401 x3_402 N_403 hI_N_403 hF_N_403 hX_N_403 hE_N_403 hp_409 hp_410 hp_411 h_407 hm_408
    obtain ⟨k, j, q, t, hCH, hTK⟩ := hp_409
    have hv := zCH.v k hCH
    have hBl := hp_410
    have hZl := hp_411
    have htn := tq_n (TB.tx hBl hI_N_403 hk_c0) (Inv.g hI_N_403 hk_c0 rfl 5 (a := 0) (b := 900) rfl rfl).1 hv.1 rfl
    have hnn := Inv.g hI_N_403 hk_c0 rfl 5 (a := 0) (b := 900) rfl rfl
    refine kx_iload_n 48 F 3 dX1_take_47 rfl rfl rfl ?_
    refine kx_aload_n 49 F 0 dX1_take_48 rfl rfl rfl ?_
    refine kx_geti 52 F fl_X1_45 hk_c0 rfl rfl (j := 5) rfl dX1_take_49 (v := (N_403 c0 5)) rfl rfl ?_
    refine kx_icmp_gt 55 F 100 dX1_take_52 (by decide) rfl (by omega) (by omega) (fun h_413 => ?_) (fun h_413 => ?_)
    · have hg0 := hTK.z (TB.tx hBl hI_N_403 hk_c0) (Inv.g hI_N_403 hk_c0 rfl 5 (a := 0) (b := 900) rfl rfl).1 hv.1 (by omega)
      refine kx_iload_n 101 F 2 dX1_take_100 rfl rfl rfl ?_
      have h_414 := Inv.g hI_N_403 hk_c0 rfl 1 (a := 0) (b := 900) rfl rfl
      have h_415 := Inv.g hI_N_403 hk_3 rfl 0 (a := (-1)) (b := 1) rfl rfl
      have h_416 := Inv.g hI_N_403 hk_c0 rfl 2 (a := (-2147483648)) (b := 2147483647) rfl rfl
      have h_417 := Inv.g hI_N_403 hk_c0 rfl 3 (a := (-2147483648)) (b := 2147483647) rfl rfl
      exact kx_zret F hQ (by omega) ⟨hI_N_403, hF_N_403, (by omega), hX_N_403, hE_N_403, (by have hz := hTK.n (by omega); exact ⟨q, t, ⟨k, j, hCH, hz.1⟩, Or.inr ⟨by omega, hz.2⟩⟩)⟩ dX1_take_101
    · refine kx_iload_n 56 F 2 dX1_take_55 rfl rfl rfl ?_
      refine kx_if_eq 59 F 100 dX1_take_56 (by decide) rfl (by omega) (fun h_418 => ?_) (fun h_418 => ?_)
      · refine kx_iload_n 101 F 2 dX1_take_100 rfl rfl rfl ?_
        have h_419 := Inv.g hI_N_403 hk_c0 rfl 1 (a := 0) (b := 900) rfl rfl
        have h_420 := Inv.g hI_N_403 hk_3 rfl 0 (a := (-1)) (b := 1) rfl rfl
        have h_421 := Inv.g hI_N_403 hk_c0 rfl 2 (a := (-2147483648)) (b := 2147483647) rfl rfl
        have h_422 := Inv.g hI_N_403 hk_c0 rfl 3 (a := (-2147483648)) (b := 2147483647) rfl rfl
        exact kx_zret F hQ (by omega) ⟨hI_N_403, hF_N_403, (by omega), hX_N_403, hE_N_403, (by have hz := hTK.n (by omega); exact ⟨q, t, ⟨k, j, hCH, hz.1⟩, Or.inr ⟨by omega, hz.2⟩⟩)⟩ dX1_take_101
      · have hy := hTK.y (by omega)
        refine kx_aload_n 60 F 0 dX1_take_59 rfl rfl rfl ?_
        have h_423 := Inv.g hI_N_403 hk_c0 rfl 7 (a := 0) (b := 900) rfl rfl
        have h_424 := Inv.g hI_N_403 hk_c0 rfl 8 (a := 0) (b := 900) rfl rfl
        refine kx_Vi 63 (ci := 0) F (As := []) (st := []) vd_X1_57 (e_X1_advance G l N_403 c0 hI_N_403 hk_c0 (by omega) Bt hp_410 j (j - 1) (by omega) (by omega) (by omega)) hk_c0 rfl rfl rfl ⟨by decide, by decide⟩ rfl rfl (Nat.le_of_ble_eq_true rfl) dX1_take_60 rfl ?_
        intro r_425 N_426 q_427
        obtain ⟨hI_N_426, hG_N_426, q_427c⟩ := q_427
        have hF_N_426 : Fr f_e_take5 M N_426 := Fr.c hF_N_403 hG_N_426 rfl
        have hE_N_426 : Cf (fun x => M c0 0 ≤ x ∧ x < M c0 0 + 19) M N_426 := Cf.fr hE_N_403 hG_N_426 rfl
        have hX_N_426 : XX N_426 := XX.fr hX_N_403 hI_N_403 hG_N_426 rfl
        have htj := tp_le (TB.tx hBl hI_N_403 hk_c0) (Inv.g hI_N_403 hk_c0 rfl 5 (a := 0) (b := 900) rfl rfl).1 (j := j) hv.1
        have h_428 := Inv.g hI_N_426 hk_c0 rfl 7 (a := 0) (b := 900) rfl rfl
        have h_429 := Inv.g hI_N_426 hk_c0 rfl 8 (a := 0) (b := 900) rfl rfl
        have h_430 := Inv.g hI_N_426 hk_c0 rfl 6 (a := 0) (b := 5) rfl rfl
        have h_431 := Inv.g hI_N_403 hk_c0 rfl 2 (a := (-2147483648)) (b := 2147483647) rfl rfl
        have h_432 := Inv.g hI_N_426 hk_c0 rfl 2 (a := (-2147483648)) (b := 2147483647) rfl rfl
        have h_433 := Inv.g hI_N_403 hk_c0 rfl 3 (a := (-2147483648)) (b := 2147483647) rfl rfl
        have h_434 := Inv.g hI_N_426 hk_c0 rfl 3 (a := (-2147483648)) (b := 2147483647) rfl rfl
        have h_438 := Inv.g hI_N_426 hk_c0 rfl 9 (a := (-2147483648)) (b := 2147483647) rfl rfl
        rcases q_427c with q_427c | q_427c | q_427c
        · refine kx_istore_n 64 F 2 (lo' := [some (vR G c0), none, some (vI r_425), some (vI x3_402)]) dX1_take_63 rfl (by decide) rfl rfl rfl ?_
          refine kx_iload_n 65 F 2 dX1_take_64 rfl rfl rfl ?_
          refine kx_if_eq 68 F 77 dX1_take_65 (by decide) rfl (by omega) (fun h_448 => (by exfalso; omega)) (fun h_448 => ?_)
          refine kx_aload_n 69 F 0 dX1_take_68 rfl rfl rfl ?_
          refine kx_geti 72 F fl_X1_61 hk_c0 rfl rfl (j := 6) rfl dX1_take_69 (v := (N_426 c0 6)) rfl rfl ?_
          refine kx_if_ne 75 F 77 dX1_take_72 (by decide) rfl (by omega) (fun h_449 => ?_) (fun h_449 => ?_)
          · refine kx_iload_n 78 F 2 dX1_take_77 rfl rfl rfl ?_
            refine kx_if_eq 81 F 92 dX1_take_78 (by decide) rfl (by omega) (fun h_450 => (by exfalso; omega)) (fun h_450 => ?_)
            refine kx_aload_n 82 F 0 dX1_take_81 rfl rfl rfl ?_
            refine kx_Vi 85 (ci := 0) F (As := []) (st := []) vd_X1_64 (e_X1_takePart G l N_426 c0 hI_N_426 hk_c0 (by omega) hX_N_426 Bt (TB.fr hp_410 hI_N_403 hk_c0 hG_N_426 rfl) j (by omega) (by omega) t q (NU.fr hy.2.2.2.1 hI_N_403 hk_c0 hG_N_426 rfl) (CQ.fr hy.2.2.1 hI_N_403 hk_c0 hG_N_426 rfl) (CA.fr hy.2.2.2.2.1 hI_N_403 hk_c0 hG_N_426 rfl) (FZ.fr hZl hG_N_426 rfl) hv.2.hr (by omega)) hk_c0 rfl rfl rfl ⟨by decide, by decide⟩ rfl rfl (Nat.le_of_ble_eq_true rfl) dX1_take_82 rfl ?_
            intro r_451 N_452 q_453
            obtain ⟨hI_N_452, hG_N_452, q_453c, hX_N_452, hC_N_452, ⟨e_N_452, q_N_452, t_N_452, hp_N_452, hl_N_452⟩⟩ := q_453
            have hF_N_452 : Fr f_e_take5 M N_452 := Fr.c hF_N_426 hG_N_452 rfl
            have hE_N_452 : Cf (fun x => M c0 0 ≤ x ∧ x < M c0 0 + 19) M N_452 := Cf.c hE_N_426 hC_N_452 (fun y hy => by have e : N_426 c0 0 = M c0 0 := (by rw [Fr.e hG_N_426 hk_c0 _ rfl, Fr.e hF_N_403 hk_c0 _ rfl]); have a := hy.1; have b := hy.2; rw [e] at a b; exact ⟨a, by omega⟩)
            refine kx_if_eq 88 F 92 dX1_take_85 (by decide) rfl (by omega) (fun h_454 => ?_) (fun h_454 => ?_)
            · refine kx_iconst 93 F dX1_take_92 rfl ?_
              refine kx_istore_n 94 F 2 (lo' := [some (vR G c0), none, some (vI 0), some (vI x3_402)]) dX1_take_93 rfl (by decide) rfl rfl rfl ?_
              refine kx_iinc 97 F 3 (v := x3_402 + 1) (lo' := [some (vR G c0), none, some (vI 0), some (vI (x3_402 + 1))]) dX1_take_94 rfl (by omega) (by decide) rfl rfl rfl ?_
              refine kx_goto 47 F dX1_take_97 (by decide) ?_
              have h_455 := Inv.g hI_N_452 hk_c0 rfl 2 (a := (-2147483648)) (b := 2147483647) rfl rfl
              have h_456 := Inv.g hI_N_452 hk_c0 rfl 3 (a := (-2147483648)) (b := 2147483647) rfl rfl
              have e_457 : (N_452 c0 1) = (N_403 c0 1) := by rw [Fr.e hG_N_452 hk_c0 _ rfl, Fr.e hG_N_426 hk_c0 _ rfl]
              have h_458 := Inv.g hI_N_403 hk_c0 rfl 1 (a := 0) (b := 900) rfl rfl
              have e_459 : (N_452 (M (M c0 0) 6) 0) = (N_403 (M (M c0 0) 6) 0) := by rw [Fr.e hG_N_452 hk_3 _ rfl, Fr.e hG_N_426 hk_3 _ rfl]
              have h_460 := Inv.g hI_N_403 hk_3 rfl 0 (a := (-1)) (b := 1) rfl rfl
              exact ih_406 _ (by omega) 0 (x3_402 + 1) N_452 hI_N_452 hF_N_452 hX_N_452 hE_N_452 (zTK.stop hCH (Or.inr (Or.inl ⟨by omega, by omega, _, _, _, zPS.r0 hp_N_452 (by omega)⟩)) (zPS.r0 hp_N_452 (by omega)).f) (TB.fr (TB.fr hp_410 hI_N_403 hk_c0 hG_N_426 rfl) hI_N_426 hk_c0 hG_N_452 rfl) (FZ.fr hZ hF_N_452 rfl) (by omega) rfl
            · refine kx_iconst 89 F dX1_take_88 rfl ?_
              refine kx_goto 93 F dX1_take_89 (by decide) ?_
              refine kx_istore_n 94 F 2 (lo' := [some (vR G c0), none, some (vI 1), some (vI x3_402)]) dX1_take_93 rfl (by decide) rfl rfl rfl ?_
              refine kx_iinc 97 F 3 (v := x3_402 + 1) (lo' := [some (vR G c0), none, some (vI 1), some (vI (x3_402 + 1))]) dX1_take_94 rfl (by omega) (by decide) rfl rfl rfl ?_
              refine kx_goto 47 F dX1_take_97 (by decide) ?_
              have h_461 := Inv.g hI_N_452 hk_c0 rfl 2 (a := (-2147483648)) (b := 2147483647) rfl rfl
              have h_462 := Inv.g hI_N_452 hk_c0 rfl 3 (a := (-2147483648)) (b := 2147483647) rfl rfl
              have ha := hl_N_452 (by omega)
              have hb := ha.1
              have hc : N_452 c0 2 = 0 ∧ N_452 c0 3 = -1 ∧ N_452 c0 7 + N_452 c0 8 = tq Bt e_N_452 := ⟨hb.1.trans (by omega), hb.2.1.trans (by omega), hb.2.2.2.2⟩
              have e_463 : (N_452 c0 1) = (N_403 c0 1) := by rw [Fr.e hG_N_452 hk_c0 _ rfl, Fr.e hG_N_426 hk_c0 _ rfl]
              have h_464 := Inv.g hI_N_403 hk_c0 rfl 1 (a := 0) (b := 900) rfl rfl
              have e_465 : (N_452 (M (M c0 0) 6) 0) = (N_403 (M (M c0 0) 6) 0) := by rw [Fr.e hG_N_452 hk_3 _ rfl, Fr.e hG_N_426 hk_3 _ rfl]
              have h_466 := Inv.g hI_N_403 hk_3 rfl 0 (a := (-1)) (b := 1) rfl rfl
              exact ih_406 _ (by omega) 1 (x3_402 + 1) N_452 hI_N_452 hF_N_452 hX_N_452 hE_N_452 (zTK.next hCH (TB.tx hBl hI_N_403 hk_c0) (Inv.g hI_N_403 hk_c0 rfl 5 (a := 0) (b := 900) rfl rfl).1 (zPS.r1 hp_N_452 (by omega)) hy.1 (by omega) hc.2.2 ha.2.1 ha.2.2.1 ha.2.2.2 hc.1 hc.2.1) (TB.fr (TB.fr hp_410 hI_N_403 hk_c0 hG_N_426 rfl) hI_N_426 hk_c0 hG_N_452 rfl) (FZ.fr hZ hF_N_452 rfl) (by omega) rfl
          · refine kx_iconst 76 F dX1_take_75 rfl ?_
            have e_467 : (N_426 c0 1) = (N_403 c0 1) := by rw [Fr.e hG_N_426 hk_c0 _ rfl]
            have h_468 := Inv.g hI_N_403 hk_c0 rfl 1 (a := 0) (b := 900) rfl rfl
            have e_469 : (N_426 (M (M c0 0) 6) 0) = (N_403 (M (M c0 0) 6) 0) := by rw [Fr.e hG_N_426 hk_3 _ rfl]
            have h_470 := Inv.g hI_N_403 hk_3 rfl 0 (a := (-1)) (b := 1) rfl rfl
            exact kx_zret F hQ (by omega) ⟨hI_N_426, hF_N_426, (by omega), hX_N_426, hE_N_426, ⟨q, t, ⟨k, j, hCH, Or.inr (Or.inr ⟨by omega, by omega, by omega⟩)⟩, Or.inl ⟨rfl, by omega, CQ.fr hy.2.2.1 hI_N_403 hk_c0 hG_N_426 rfl, CA.fr hy.2.2.2.2.1 hI_N_403 hk_c0 hG_N_426 rfl⟩⟩⟩ dX1_take_76
        · refine kx_istore_n 64 F 2 (lo' := [some (vR G c0), none, some (vI r_425), some (vI x3_402)]) dX1_take_63 rfl (by decide) rfl rfl rfl ?_
          refine kx_iload_n 65 F 2 dX1_take_64 rfl rfl rfl ?_
          refine kx_if_eq 68 F 77 dX1_take_65 (by decide) rfl (by omega) (fun h_471 => (by exfalso; omega)) (fun h_471 => ?_)
          refine kx_aload_n 69 F 0 dX1_take_68 rfl rfl rfl ?_
          refine kx_geti 72 F fl_X1_61 hk_c0 rfl rfl (j := 6) rfl dX1_take_69 (v := (N_426 c0 6)) rfl rfl ?_
          refine kx_if_ne 75 F 77 dX1_take_72 (by decide) rfl (by omega) (fun h_472 => ?_) (fun h_472 => (by exfalso; omega))
          refine kx_iload_n 78 F 2 dX1_take_77 rfl rfl rfl ?_
          refine kx_if_eq 81 F 92 dX1_take_78 (by decide) rfl (by omega) (fun h_473 => (by exfalso; omega)) (fun h_473 => ?_)
          refine kx_aload_n 82 F 0 dX1_take_81 rfl rfl rfl ?_
          refine kx_Vi 85 (ci := 0) F (As := []) (st := []) vd_X1_64 (e_X1_takePart G l N_426 c0 hI_N_426 hk_c0 (by omega) hX_N_426 Bt (TB.fr hp_410 hI_N_403 hk_c0 hG_N_426 rfl) j (by omega) (by omega) t q (NU.fr hy.2.2.2.1 hI_N_403 hk_c0 hG_N_426 rfl) (CQ.fr hy.2.2.1 hI_N_403 hk_c0 hG_N_426 rfl) (CA.fr hy.2.2.2.2.1 hI_N_403 hk_c0 hG_N_426 rfl) (FZ.fr hZl hG_N_426 rfl) hv.2.hr (by omega)) hk_c0 rfl rfl rfl ⟨by decide, by decide⟩ rfl rfl (Nat.le_of_ble_eq_true rfl) dX1_take_82 rfl ?_
          intro r_474 N_475 q_476
          obtain ⟨hI_N_475, hG_N_475, q_476c, hX_N_475, hC_N_475, ⟨e_N_475, q_N_475, t_N_475, hp_N_475, hl_N_475⟩⟩ := q_476
          have hF_N_475 : Fr f_e_take5 M N_475 := Fr.c hF_N_426 hG_N_475 rfl
          have hE_N_475 : Cf (fun x => M c0 0 ≤ x ∧ x < M c0 0 + 19) M N_475 := Cf.c hE_N_426 hC_N_475 (fun y hy => by have e : N_426 c0 0 = M c0 0 := (by rw [Fr.e hG_N_426 hk_c0 _ rfl, Fr.e hF_N_403 hk_c0 _ rfl]); have a := hy.1; have b := hy.2; rw [e] at a b; exact ⟨a, by omega⟩)
          refine kx_if_eq 88 F 92 dX1_take_85 (by decide) rfl (by omega) (fun h_477 => ?_) (fun h_477 => ?_)
          · refine kx_iconst 93 F dX1_take_92 rfl ?_
            refine kx_istore_n 94 F 2 (lo' := [some (vR G c0), none, some (vI 0), some (vI x3_402)]) dX1_take_93 rfl (by decide) rfl rfl rfl ?_
            refine kx_iinc 97 F 3 (v := x3_402 + 1) (lo' := [some (vR G c0), none, some (vI 0), some (vI (x3_402 + 1))]) dX1_take_94 rfl (by omega) (by decide) rfl rfl rfl ?_
            refine kx_goto 47 F dX1_take_97 (by decide) ?_
            have h_478 := Inv.g hI_N_475 hk_c0 rfl 2 (a := (-2147483648)) (b := 2147483647) rfl rfl
            have h_479 := Inv.g hI_N_475 hk_c0 rfl 3 (a := (-2147483648)) (b := 2147483647) rfl rfl
            have e_480 : (N_475 c0 1) = (N_403 c0 1) := by rw [Fr.e hG_N_475 hk_c0 _ rfl, Fr.e hG_N_426 hk_c0 _ rfl]
            have h_481 := Inv.g hI_N_403 hk_c0 rfl 1 (a := 0) (b := 900) rfl rfl
            have e_482 : (N_475 (M (M c0 0) 6) 0) = (N_403 (M (M c0 0) 6) 0) := by rw [Fr.e hG_N_475 hk_3 _ rfl, Fr.e hG_N_426 hk_3 _ rfl]
            have h_483 := Inv.g hI_N_403 hk_3 rfl 0 (a := (-1)) (b := 1) rfl rfl
            exact ih_406 _ (by omega) 0 (x3_402 + 1) N_475 hI_N_475 hF_N_475 hX_N_475 hE_N_475 (zTK.stop hCH (Or.inr (Or.inl ⟨by omega, by omega, _, _, _, zPS.r0 hp_N_475 (by omega)⟩)) (zPS.r0 hp_N_475 (by omega)).f) (TB.fr (TB.fr hp_410 hI_N_403 hk_c0 hG_N_426 rfl) hI_N_426 hk_c0 hG_N_475 rfl) (FZ.fr hZ hF_N_475 rfl) (by omega) rfl
          · refine kx_iconst 89 F dX1_take_88 rfl ?_
            refine kx_goto 93 F dX1_take_89 (by decide) ?_
            refine kx_istore_n 94 F 2 (lo' := [some (vR G c0), none, some (vI 1), some (vI x3_402)]) dX1_take_93 rfl (by decide) rfl rfl rfl ?_
            refine kx_iinc 97 F 3 (v := x3_402 + 1) (lo' := [some (vR G c0), none, some (vI 1), some (vI (x3_402 + 1))]) dX1_take_94 rfl (by omega) (by decide) rfl rfl rfl ?_
            refine kx_goto 47 F dX1_take_97 (by decide) ?_
            have h_484 := Inv.g hI_N_475 hk_c0 rfl 2 (a := (-2147483648)) (b := 2147483647) rfl rfl
            have h_485 := Inv.g hI_N_475 hk_c0 rfl 3 (a := (-2147483648)) (b := 2147483647) rfl rfl
            have ha := hl_N_475 (by omega)
            have hb := ha.1
            have hc : N_475 c0 2 = 0 ∧ N_475 c0 3 = -1 ∧ N_475 c0 7 + N_475 c0 8 = tq Bt e_N_475 := ⟨hb.1.trans (by omega), hb.2.1.trans (by omega), hb.2.2.2.2⟩
            have e_486 : (N_475 c0 1) = (N_403 c0 1) := by rw [Fr.e hG_N_475 hk_c0 _ rfl, Fr.e hG_N_426 hk_c0 _ rfl]
            have h_487 := Inv.g hI_N_403 hk_c0 rfl 1 (a := 0) (b := 900) rfl rfl
            have e_488 : (N_475 (M (M c0 0) 6) 0) = (N_403 (M (M c0 0) 6) 0) := by rw [Fr.e hG_N_475 hk_3 _ rfl, Fr.e hG_N_426 hk_3 _ rfl]
            have h_489 := Inv.g hI_N_403 hk_3 rfl 0 (a := (-1)) (b := 1) rfl rfl
            exact ih_406 _ (by omega) 1 (x3_402 + 1) N_475 hI_N_475 hF_N_475 hX_N_475 hE_N_475 (zTK.next hCH (TB.tx hBl hI_N_403 hk_c0) (Inv.g hI_N_403 hk_c0 rfl 5 (a := 0) (b := 900) rfl rfl).1 (zPS.r1 hp_N_475 (by omega)) hy.1 (by omega) hc.2.2 ha.2.1 ha.2.2.1 ha.2.2.2 hc.1 hc.2.1) (TB.fr (TB.fr hp_410 hI_N_403 hk_c0 hG_N_426 rfl) hI_N_426 hk_c0 hG_N_475 rfl) (FZ.fr hZ hF_N_475 rfl) (by omega) rfl
        · refine kx_istore_n 64 F 2 (lo' := [some (vR G c0), none, some (vI r_425), some (vI x3_402)]) dX1_take_63 rfl (by decide) rfl rfl rfl ?_
          refine kx_iload_n 65 F 2 dX1_take_64 rfl rfl rfl ?_
          refine kx_if_eq 68 F 77 dX1_take_65 (by decide) rfl (by omega) (fun h_490 => ?_) (fun h_490 => (by exfalso; omega))
          refine kx_iload_n 78 F 2 dX1_take_77 rfl rfl rfl ?_
          refine kx_if_eq 81 F 92 dX1_take_78 (by decide) rfl (by omega) (fun h_491 => ?_) (fun h_491 => (by exfalso; omega))
          refine kx_iconst 93 F dX1_take_92 rfl ?_
          refine kx_istore_n 94 F 2 (lo' := [some (vR G c0), none, some (vI 0), some (vI x3_402)]) dX1_take_93 rfl (by decide) rfl rfl rfl ?_
          refine kx_iinc 97 F 3 (v := x3_402 + 1) (lo' := [some (vR G c0), none, some (vI 0), some (vI (x3_402 + 1))]) dX1_take_94 rfl (by omega) (by decide) rfl rfl rfl ?_
          refine kx_goto 47 F dX1_take_97 (by decide) ?_
          have e_492 : (N_426 c0 1) = (N_403 c0 1) := by rw [Fr.e hG_N_426 hk_c0 _ rfl]
          have h_493 := Inv.g hI_N_403 hk_c0 rfl 1 (a := 0) (b := 900) rfl rfl
          have e_494 : (N_426 (M (M c0 0) 6) 0) = (N_403 (M (M c0 0) 6) 0) := by rw [Fr.e hG_N_426 hk_3 _ rfl]
          have h_495 := Inv.g hI_N_403 hk_3 rfl 0 (a := (-1)) (b := 1) rfl rfl
          exact ih_406 _ (by omega) 0 (x3_402 + 1) N_426 hI_N_426 hF_N_426 hX_N_426 hE_N_426 (zTK.stop hCH (Or.inl ⟨by omega, by omega, by omega⟩) (by omega)) (TB.fr hp_410 hI_N_403 hk_c0 hG_N_426 rfl) (FZ.fr hZ hF_N_426 rfl) (by omega) rfl
  refine kx_drop 1 (lo' := [some (vR G c0), none, some (vI 1), some (vI 0)]) rfl ?_
  have e_496 : (N_17 c0 0) = (M c0 0) := by rw [hM_N_17, mu_i (by omega), hM_N_16, mu_i (by omega), hM_N_15, mu_i (by omega), hM_N_14, mu_i (by omega), Fr.e hG_N_8 hk_c0 _ rfl, hM_N_7, mu_i (by omega), hM_N_6, mu_i (by omega)]
  have e_497 : (N_17 c0 2) = 0 := by rw [hM_N_17, mu_i (by omega), hM_N_16, mu_i (by omega), hM_N_15, mu_i (by omega), hM_N_14, mu_s]
  have e_498 : (N_17 c0 3) = -1 := by rw [hM_N_17, mu_i (by omega), hM_N_16, mu_i (by omega), hM_N_15, mu_s]
  have e_499 : (N_17 c0 7) = 0 := by rw [hM_N_17, mu_i (by omega), hM_N_16, mu_s]
  have e_500 : (N_17 c0 8) = 0 := by rw [hM_N_17, mu_s]
  have e_501 : (N_17 c0 0) = (M c0 0) := by rw [hM_N_17, mu_i (by omega), hM_N_16, mu_i (by omega), hM_N_15, mu_i (by omega), hM_N_14, mu_i (by omega), Fr.e hG_N_8 hk_c0 _ rfl, hM_N_7, mu_i (by omega), hM_N_6, mu_i (by omega)]
  have e_502 : (N_17 (N_17 c0 0) 0) = (N_8 (M c0 0) 0) := by rw [e_501, hM_N_17, mu_k hk_2 hk_c0 rfl, hM_N_16, mu_k hk_2 hk_c0 rfl, hM_N_15, mu_k hk_2 hk_c0 rfl, hM_N_14, mu_k hk_2 hk_c0 rfl]
  have e_503 : (N_17 c0 0) = (M c0 0) := by rw [hM_N_17, mu_i (by omega), hM_N_16, mu_i (by omega), hM_N_15, mu_i (by omega), hM_N_14, mu_i (by omega), Fr.e hG_N_8 hk_c0 _ rfl, hM_N_7, mu_i (by omega), hM_N_6, mu_i (by omega)]
  have e_504 : (N_17 (N_17 c0 0) 1) = (N_8 (M c0 0) 1) := by rw [e_503, hM_N_17, mu_k hk_2 hk_c0 rfl, hM_N_16, mu_k hk_2 hk_c0 rfl, hM_N_15, mu_k hk_2 hk_c0 rfl, hM_N_14, mu_k hk_2 hk_c0 rfl]
  have e_505 : (N_17 c0 0) = (M c0 0) := by rw [hM_N_17, mu_i (by omega), hM_N_16, mu_i (by omega), hM_N_15, mu_i (by omega), hM_N_14, mu_i (by omega), Fr.e hG_N_8 hk_c0 _ rfl, hM_N_7, mu_i (by omega), hM_N_6, mu_i (by omega)]
  have e_506 : (N_17 (N_17 c0 0) 2) = (N_8 (M c0 0) 2) := by rw [e_505, hM_N_17, mu_k hk_2 hk_c0 rfl, hM_N_16, mu_k hk_2 hk_c0 rfl, hM_N_15, mu_k hk_2 hk_c0 rfl, hM_N_14, mu_k hk_2 hk_c0 rfl]
  have e_507 : (N_17 c0 0) = (M c0 0) := by rw [hM_N_17, mu_i (by omega), hM_N_16, mu_i (by omega), hM_N_15, mu_i (by omega), hM_N_14, mu_i (by omega), Fr.e hG_N_8 hk_c0 _ rfl, hM_N_7, mu_i (by omega), hM_N_6, mu_i (by omega)]
  have e_508 : (N_17 (N_17 c0 0) 3) = (N_8 (M c0 0) 3) := by rw [e_507, hM_N_17, mu_k hk_2 hk_c0 rfl, hM_N_16, mu_k hk_2 hk_c0 rfl, hM_N_15, mu_k hk_2 hk_c0 rfl, hM_N_14, mu_k hk_2 hk_c0 rfl]
  have e_509 : (N_17 c0 4) = (M c0 4) := by rw [hM_N_17, mu_i (by omega), hM_N_16, mu_i (by omega), hM_N_15, mu_i (by omega), hM_N_14, mu_i (by omega), Fr.e hG_N_8 hk_c0 _ rfl, hM_N_7, mu_i (by omega), hM_N_6, mu_i (by omega)]
  have e_510 : (N_17 c0 5) = w_4 := by rw [hM_N_17, mu_i (by omega), hM_N_16, mu_i (by omega), hM_N_15, mu_i (by omega), hM_N_14, mu_i (by omega), Fr.e hG_N_8 hk_c0 _ rfl, hM_N_7, mu_i (by omega), hM_N_6, mu_s]
  have e_511 : (N_17 c0 1) = 0 := by rw [hM_N_17, mu_i (by omega), hM_N_16, mu_i (by omega), hM_N_15, mu_i (by omega), hM_N_14, mu_i (by omega), Fr.e hG_N_8 hk_c0 _ rfl, hM_N_7, mu_s]
  have e_512 : (N_17 (M (M c0 0) 6) 0) = (N_8 (M (M c0 0) 6) 0) := by rw [hM_N_17, mu_k hk_3 hk_c0 rfl, hM_N_16, mu_k hk_3 hk_c0 rfl, hM_N_15, mu_k hk_3 hk_c0 rfl, hM_N_14, mu_k hk_3 hk_c0 rfl]
  have h_513 := Inv.g hI_N_8 hk_3 rfl 0 (a := (-1)) (b := 1) rfl rfl
  exact L_404 _ 1 0 N_17 hI_N_17 hF_N_17 hX_N_17 hE_N_17 (zTK.ini ⟨by omega, by omega, by omega, by omega⟩ (by omega) (by omega) (by omega)) (zTB.of hT (by omega) (by omega) (fun k => by rw [hM_N_17, mu_k hk_1 hk_c0 rfl, hM_N_16, mu_k hk_1 hk_c0 rfl, hM_N_15, mu_k hk_1 hk_c0 rfl, hM_N_14, mu_k hk_1 hk_c0 rfl, Fr.e hG_N_8 hk_1 _ rfl, hM_N_7, mu_k hk_1 hk_c0 rfl, hM_N_6, mu_k hk_1 hk_c0 rfl])) (FZ.fr hZ hF_N_17 rfl) (by omega) rfl
