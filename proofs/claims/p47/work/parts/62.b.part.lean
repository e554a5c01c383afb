abbrev f_e_X5_addLetter : List (Nat × Int) := [(12, 0), (12, 1), (12, 2)]
set_option maxHeartbeats 4000000 in
set_option maxRecDepth 100000 in
theorem e_X5_addLetter (G : KG) (l : Launch) (M : Mem) (c0 : Int) (a1 : Int) (hI_M : Inv false M) (hk_c0 : kd c0 = 12) (hpre : -2147483648 ≤ a1 ∧ a1 ≤ 2147483647 ∧ 0 ≤ a1 ∧ a1 ≤ 2 ∧ ((a1 = 0 ∧ M c0 0 ≤ 1) ∨ (a1 = 1 ∧ M c0 1 ≤ M c0 0 + 1) ∨ (a1 = 2 ∧ M c0 2 ≤ M c0 1 + 1))) (hX_M : XX M) : KC false G l yX5_addLetter cX5_addLetter 2 none (0, 0) [vR G c0, vI a1] M (fun A => kQv false G A (fun (N : Mem) => Inv false N ∧ Fr f_e_X5_addLetter M N ∧ ((a1 = 0 ∧ (N c0 0) = (M c0 0) + 1 ∧ (N c0 1) = (M c0 1) + 1 ∧ (N c0 2) = (M c0 2) + 1) ∨ (a1 = 1 ∧ (N c0 0) = (M c0 0) ∧ (N c0 1) = (M c0 1) + 1 ∧ (N c0 2) = (M c0 2) + 1) ∨ (a1 = 2 ∧ (N c0 0) = (M c0 0) ∧ (N c0 1) = (M c0 1) ∧ (N c0 2) = (M c0 2) + 1)) ∧ XX N ∧ Cf (fun x => x = c0) M N)) := by
  refine kx_met (lo := [some (vR G c0), some (vI a1)]) (by decide) (Nat.le_of_ble_eq_true rfl) rfl ?_
  intro X F hQ
  have hF_M : Fr f_e_X5_addLetter M M := Fr.rf _ _
  have hE_M : Cf (fun x => x = c0) M M := Cf.rf _ _
  have h_1 := hX_M.1 c0 hk_c0
  have h_2 := Inv.g hI_M hk_c0 rfl 0 (a := 0) (b := 2) rfl rfl
  have h_3 := Inv.g hI_M hk_c0 rfl 1 (a := 0) (b := 4) rfl rfl
  have h_4 := Inv.g hI_M hk_c0 rfl 2 (a := 0) (b := 6) rfl rfl
  refine kx_aload_n 1 F 0 dX5_addLetter_0 rfl rfl rfl ?_
  refine kx_dup 2 F dX5_addLetter_1 rfl rfl ?_
  refine kx_geti 5 F fl_X5_28 hk_c0 rfl rfl (j := 0) rfl dX5_addLetter_2 (v := (M c0 0)) rfl rfl ?_
  refine kx_iload_n 6 F 1 dX5_addLetter_5 rfl rfl rfl ?_
  refine kx_if_ne 9 F 13 dX5_addLetter_6 (by decide) rfl (by omega) (fun h_5 => ?_) (fun h_5 => ?_)
  · refine kx_iconst 14 F dX5_addLetter_13 rfl ?_
    refine kx_iadd 15 F (v := (M c0 0)) dX5_addLetter_14 (by omega) rfl ?_
    refine kx_puti 18 F fw_X5_28 rfl hk_c0 rfl rfl (j := 0) rfl dX5_addLetter_15 rfl ?_
    intro N_6 hM_N_6
    have hI_N_6 : Inv false N_6 := Inv.u hI_M hM_N_6 hk_c0 (a := 0) (b := 2) rfl rfl rfl (by omega)
    have hF_N_6 : Fr f_e_X5_addLetter M N_6 := Fr.u hF_M hM_N_6 hk_c0 rfl
    have hE_N_6 : Cf (fun x => x = c0) M N_6 := Cf.st hE_M hM_N_6 rfl
    refine kx_aload_n 19 F 0 dX5_addLetter_18 rfl rfl rfl ?_
    refine kx_dup 20 F dX5_addLetter_19 rfl rfl ?_
    refine kx_geti 23 F fl_X5_32 hk_c0 rfl rfl (j := 1) rfl dX5_addLetter_20 (v := (M c0 1)) (by rw [hM_N_6, mu_i (by omega)]) rfl ?_
    refine kx_iload_n 24 F 1 dX5_addLetter_23 rfl rfl rfl ?_
    refine kx_iconst 25 F dX5_addLetter_24 rfl ?_
    refine kx_icmp_eq 28 F 32 dX5_addLetter_25 (by decide) rfl (by omega) (by decide) (fun h_7 => ?_) (fun h_7 => ?_)
    · refine kx_iconst 33 F dX5_addLetter_32 rfl ?_
      refine kx_iadd 34 F (v := (M c0 1)) dX5_addLetter_33 (by omega) rfl ?_
      refine kx_puti 37 F fw_X5_32 rfl hk_c0 rfl rfl (j := 1) rfl dX5_addLetter_34 rfl ?_
      intro N_8 hM_N_8
      have hI_N_8 : Inv false N_8 := Inv.u hI_N_6 hM_N_8 hk_c0 (a := 0) (b := 4) rfl rfl rfl (by omega)
      have hF_N_8 : Fr f_e_X5_addLetter M N_8 := Fr.u hF_N_6 hM_N_8 hk_c0 rfl
      have hE_N_8 : Cf (fun x => x = c0) M N_8 := Cf.st hE_N_6 hM_N_8 rfl
      refine kx_aload_n 38 F 0 dX5_addLetter_37 rfl rfl rfl ?_
      refine kx_dup 39 F dX5_addLetter_38 rfl rfl ?_
      refine kx_geti 42 F fl_X5_35 hk_c0 rfl rfl (j := 2) rfl dX5_addLetter_39 (v := (M c0 2)) (by rw [hM_N_8, mu_i (by omega), hM_N_6, mu_i (by omega)]) rfl ?_
      refine kx_iconst 43 F dX5_addLetter_42 rfl ?_
      refine kx_iadd 44 F (v := (M c0 2) + 1) dX5_addLetter_43 rfl rfl ?_
      refine kx_puti 47 F fw_X5_35 rfl hk_c0 rfl rfl (j := 2) rfl dX5_addLetter_44 rfl ?_
      intro N_9 hM_N_9
      have hI_N_9 : Inv false N_9 := Inv.u hI_N_8 hM_N_9 hk_c0 (a := 0) (b := 6) rfl rfl rfl (by omega)
      have hF_N_9 : Fr f_e_X5_addLetter M N_9 := Fr.u hF_N_8 hM_N_9 hk_c0 rfl
      have hE_N_9 : Cf (fun x => x = c0) M N_9 := Cf.st hE_N_8 hM_N_9 rfl
      have e_10 : (N_9 c0 0) = (M c0 0) := by rw [hM_N_9, mu_i (by omega), hM_N_8, mu_i (by omega), hM_N_6, mu_s]
      have e_11 : (N_9 c0 1) = (M c0 1) := by rw [hM_N_9, mu_i (by omega), hM_N_8, mu_s]
      have e_12 : (N_9 c0 2) = (M c0 2) + 1 := by rw [hM_N_9, mu_s]
      have hs_N_9 : SX N_9 := SX.one hX_M.1 (c0 := c0) (fun c hkc hc => ⟨by rw [hM_N_9, mu_c hc, hM_N_8, mu_c hc, hM_N_6, mu_c hc], by rw [hM_N_9, mu_c hc, hM_N_8, mu_c hc, hM_N_6, mu_c hc], by rw [hM_N_9, mu_c hc, hM_N_8, mu_c hc, hM_N_6, mu_c hc]⟩) (by omega)
      have hX_N_9 : XX N_9 := XX.set hX_M hI_M hF_N_9 rfl hs_N_9
      exact kx_vret F hQ ⟨hI_N_9, hF_N_9, (Or.inr (Or.inr (by omega))), hX_N_9, hE_N_9⟩ dX5_addLetter_47
    · refine kx_iconst 29 F dX5_addLetter_28 rfl ?_
      refine kx_goto 33 F dX5_addLetter_29 (by decide) ?_
      refine kx_iadd 34 F (v := (M c0 1) + 1) dX5_addLetter_33 rfl rfl ?_
      refine kx_puti 37 F fw_X5_32 rfl hk_c0 rfl rfl (j := 1) rfl dX5_addLetter_34 rfl ?_
      intro N_22 hM_N_22
      have hI_N_22 : Inv false N_22 := Inv.u hI_N_6 hM_N_22 hk_c0 (a := 0) (b := 4) rfl rfl rfl (by omega)
      have hF_N_22 : Fr f_e_X5_addLetter M N_22 := Fr.u hF_N_6 hM_N_22 hk_c0 rfl
      have hE_N_22 : Cf (fun x => x = c0) M N_22 := Cf.st hE_N_6 hM_N_22 rfl
      refine kx_aload_n 38 F 0 dX5_addLetter_37 rfl rfl rfl ?_
      refine kx_dup 39 F dX5_addLetter_38 rfl rfl ?_
      refine kx_geti 42 F fl_X5_35 hk_c0 rfl rfl (j := 2) rfl dX5_addLetter_39 (v := (M c0 2)) (by rw [hM_N_22, mu_i (by omega), hM_N_6, mu_i (by omega)]) rfl ?_
      refine kx_iconst 43 F dX5_addLetter_42 rfl ?_
      refine kx_iadd 44 F (v := (M c0 2) + 1) dX5_addLetter_43 rfl rfl ?_
      refine kx_puti 47 F fw_X5_35 rfl hk_c0 rfl rfl (j := 2) rfl dX5_addLetter_44 rfl ?_
      intro N_23 hM_N_23
      have hI_N_23 : Inv false N_23 := Inv.u hI_N_22 hM_N_23 hk_c0 (a := 0) (b := 6) rfl rfl rfl (by omega)
      have hF_N_23 : Fr f_e_X5_addLetter M N_23 := Fr.u hF_N_22 hM_N_23 hk_c0 rfl
      have hE_N_23 : Cf (fun x => x = c0) M N_23 := Cf.st hE_N_22 hM_N_23 rfl
      have e_24 : (N_23 c0 0) = (M c0 0) := by rw [hM_N_23, mu_i (by omega), hM_N_22, mu_i (by omega), hM_N_6, mu_s]
      have e_25 : (N_23 c0 1) = (M c0 1) + 1 := by rw [hM_N_23, mu_i (by omega), hM_N_22, mu_s]
      have e_26 : (N_23 c0 2) = (M c0 2) + 1 := by rw [hM_N_23, mu_s]
      have hs_N_23 : SX N_23 := SX.one hX_M.1 (c0 := c0) (fun c hkc hc => ⟨by rw [hM_N_23, mu_c hc, hM_N_22, mu_c hc, hM_N_6, mu_c hc], by rw [hM_N_23, mu_c hc, hM_N_22, mu_c hc, hM_N_6, mu_c hc], by rw [hM_N_23, mu_c hc, hM_N_22, mu_c hc, hM_N_6, mu_c hc]⟩) (by omega)
      have hX_N_23 : XX N_23 := XX.set hX_M hI_M hF_N_23 rfl hs_N_23
      exact kx_vret F hQ ⟨hI_N_23, hF_N_23, (Or.inr (Or.inl (by omega))), hX_N_23, hE_N_23⟩ dX5_addLetter_47
  · refine kx_iconst 10 F dX5_addLetter_9 rfl ?_
    refine kx_goto 14 F dX5_addLetter_10 (by decide) ?_
    refine kx_iadd 15 F (v := (M c0 0) + 1) dX5_addLetter_14 rfl rfl ?_
    refine kx_puti 18 F fw_X5_28 rfl hk_c0 rfl rfl (j := 0) rfl dX5_addLetter_15 rfl ?_
    intro N_36 hM_N_36
    have hI_N_36 : Inv false N_36 := Inv.u hI_M hM_N_36 hk_c0 (a := 0) (b := 2) rfl rfl rfl (by omega)
    have hF_N_36 : Fr f_e_X5_addLetter M N_36 := Fr.u hF_M hM_N_36 hk_c0 rfl
    have hE_N_36 : Cf (fun x => x = c0) M N_36 := Cf.st hE_M hM_N_36 rfl
    refine kx_aload_n 19 F 0 dX5_addLetter_18 rfl rfl rfl ?_
    refine kx_dup 20 F dX5_addLetter_19 rfl rfl ?_
    refine kx_geti 23 F fl_X5_32 hk_c0 rfl rfl (j := 1) rfl dX5_addLetter_20 (v := (M c0 1)) (by rw [hM_N_36, mu_i (by omega)]) rfl ?_
    refine kx_iload_n 24 F 1 dX5_addLetter_23 rfl rfl rfl ?_
    refine kx_iconst 25 F dX5_addLetter_24 rfl ?_
    refine kx_icmp_eq 28 F 32 dX5_addLetter_25 (by decide) rfl (by omega) (by decide) (fun h_37 => (by exfalso; omega)) (fun h_37 => ?_)
    refine kx_iconst 29 F dX5_addLetter_28 rfl ?_
    refine kx_goto 33 F dX5_addLetter_29 (by decide) ?_
    refine kx_iadd 34 F (v := (M c0 1) + 1) dX5_addLetter_33 rfl rfl ?_
    refine kx_puti 37 F fw_X5_32 rfl hk_c0 rfl rfl (j := 1) rfl dX5_addLetter_34 rfl ?_
    intro N_38 hM_N_38
    have hI_N_38 : Inv false N_38 := Inv.u hI_N_36 hM_N_38 hk_c0 (a := 0) (b := 4) rfl rfl rfl (by omega)
    have hF_N_38 : Fr f_e_X5_addLetter M N_38 := Fr.u hF_N_36 hM_N_38 hk_c0 rfl
    have hE_N_38 : Cf (fun x => x = c0) M N_38 := Cf.st hE_N_36 hM_N_38 rfl
    refine kx_aload_n 38 F 0 dX5_addLetter_37 rfl rfl rfl ?_
    refine kx_dup 39 F dX5_addLetter_38 rfl rfl ?_
    refine kx_geti 42 F fl_X5_35 hk_c0 rfl rfl (j := 2) rfl dX5_addLetter_39 (v := (M c0 2)) (by rw [hM_N_38, mu_i (by omega), hM_N_36, mu_i (by omega)]) rfl ?_
    refine kx_iconst 43 F dX5_addLetter_42 rfl ?_
    refine kx_iadd 44 F (v := (M c0 2) + 1) dX5_addLetter_43 rfl rfl ?_
    refine kx_puti 47 F fw_X5_35 rfl hk_c0 rfl rfl (j := 2) rfl dX5_addLetter_44 rfl ?_
    intro N_39 hM_N_39
    have hI_N_39 : Inv false N_39 := Inv.u hI_N_38 hM_N_39 hk_c0 (a := 0) (b := 6) rfl rfl rfl (by omega)
    have hF_N_39 : Fr f_e_X5_addLetter M N_39 := Fr.u hF_N_38 hM_N_39 hk_c0 rfl
    have hE_N_39 : Cf (fun x => x = c0) M N_39 := Cf.st hE_N_38 hM_N_39 rfl
    have e_40 : (N_39 c0 0) = (M c0 0) + 1 := by rw [hM_N_39, mu_i (by omega), hM_N_38, mu_i (by omega), hM_N_36, mu_s]
    have e_41 : (N_39 c0 1) = (M c0 1) + 1 := by rw [hM_N_39, mu_i (by omega), hM_N_38, mu_s]
    have e_42 : (N_39 c0 2) = (M c0 2) + 1 := by rw [hM_N_39, mu_s]
    have hs_N_39 : SX N_39 := SX.one hX_M.1 (c0 := c0) (fun c hkc hc => ⟨by rw [hM_N_39, mu_c hc, hM_N_38, mu_c hc, hM_N_36, mu_c hc], by rw [hM_N_39, mu_c hc, hM_N_38, mu_c hc, hM_N_36, mu_c hc], by rw [hM_N_39, mu_c hc, hM_N_38, mu_c hc, hM_N_36, mu_c hc]⟩) (by omega)
    have hX_N_39 : XX N_39 := XX.set hX_M hI_M hF_N_39 rfl hs_N_39
    exact kx_vret F hQ ⟨hI_N_39, hF_N_39, (Or.inl (by omega)), hX_N_39, hE_N_39⟩ dX5_addLetter_47
abbrev f_e_X1_takeLetter : List (Nat × Int) := [(12, 0), (12, 1), (12, 2), (17, 2), (17, 3), (17, 6), (17, 7), (17, 8), (17, 9), (19, -1), (20, -1)]
set_option maxHeartbeats 4000000 in
set_option maxRecDepth 100000 in
theorem e_X1_takeLetter (G : KG) (l : Launch) (M : Mem) (c0 : Int) (a1 : Int) (hI_M : Inv false M) (hk_c0 : kd c0 = 17) (hpre : -2147483648 ≤ a1 ∧ a1 ≤ 2147483647 ∧ 0 ≤ a1 ∧ a1 ≤ 2 ∧ (M c0 7) + (M c0 8) ≤ 900) (hX_M : XX M) (Bt : Int → Int) (hB : TB M c0 Bt) (j : Int) (hj : 0 ≤ j) (hs : M c0 6 = tk Bt j ∧ M c0 7 = tp Bt j ∧ M c0 7 + M c0 8 = tq Bt j) (t q : Int → Int) (hN : NU M c0 Bt t q) (hq : M (M c0 0) 0 = q 0 ∧ M (M c0 0) 1 = q 0 + q 1 ∧ M (M c0 0) 2 = q 0 + q 1 + q 2 ∧ M (M c0 0) 3 = q 3 ∧ 0 ≤ q 0 ∧ q 0 ≤ 2 ∧ 0 ≤ q 1 ∧ q 1 ≤ 2 ∧ 0 ≤ q 2 ∧ q 2 ≤ 2 ∧ 0 ≤ q 3 ∧ q 3 ≤ 2) : KC false G l yX1_takeLetter cX1_takeLetter 3 (some .boolean) (7, 147) [vR G c0, vI a1] M (fun A => kQi false G A (fun (r : Int) (N : Mem) => Inv false N ∧ Fr f_e_X1_takeLetter M N ∧ (r ≥ 0 ∧ r ≤ 1) ∧ XX N ∧ Cf (Sm (M c0 0)) M N ∧ (zLR Bt t q j a1 r (N c0 2) (N c0 3) ∧ (r = 1 → zCP N M c0 Bt (j + 2) ∧ CQ N c0 (upk q a1 (q a1 + 1)) ∧ NU N c0 Bt (upk t (2 * a1 + q a1) (j + 1)) (upk q a1 (q a1 + 1)) ∧ CA N c0 (upk q a1 (q a1 + 1)))))) := by
  refine kx_met (lo := [some (vR G c0), some (vI a1), none]) (by decide) (Nat.le_of_ble_eq_true rfl) rfl ?_
  intro X F hQ
  have hF_M : Fr f_e_X1_takeLetter M M := Fr.rf _ _
  have hE_M : Cf (Sm (M c0 0)) M M := Cf.rf _ _
  have h_1 := Inv.g hI_M hk_c0 rfl 7 (a := 0) (b := 900) rfl rfl
  have h_2 := Inv.g hI_M hk_c0 rfl 8 (a := 0) (b := 900) rfl rfl
  have ht_3 := tp_le (n := M c0 5) (TB.tx hB hI_M hk_c0) (Inv.g hI_M hk_c0 rfl 5 (a := 0) (b := 900) rfl rfl).1 (j := j) (by omega)
  have h_4 := Inv.g hI_M hk_c0 rfl 5 (a := 0) (b := 900) rfl rfl
  have ht_5 : 0 ≤ tk Bt j ∧ tk Bt j ≤ 4 := tk_b (n := M c0 5) (TB.tx hB hI_M hk_c0) (by omega)
  have hk_6 : kd (M c0 0) = 12 := Inv.r hI_M hk_c0 rfl 0 rfl rfl
  have hk_7 : kd (M c0 10) = 19 := Inv.r hI_M hk_c0 rfl 10 rfl rfl
  have hk_8 : kd (M c0 11) = 20 := Inv.r hI_M hk_c0 rfl 11 rfl rfl
  refine kx_aload_n 1 F 0 dX1_takeLetter_0 rfl rfl rfl ?_
  refine kx_getr 4 F fl_X1_12 hk_c0 rfl rfl (j := 0) rfl dX1_takeLetter_1 (v := (M c0 0)) rfl rfl ?_
  refine kx_geti 7 F fl_X1_86 hk_6 rfl rfl (j := 3) rfl dX1_takeLetter_4 (v := (M (M c0 0) 3)) rfl rfl ?_
  have h_9 := Inv.g hI_M hk_6 rfl 3 (a := 0) (b := 2) rfl rfl
  refine kx_if_le 10 F 16 dX1_takeLetter_7 (by decide) rfl (by omega) (fun h_10 => ?_) (fun h_10 => ?_)
  · refine kx_aload_n 17 F 0 dX1_takeLetter_16 rfl rfl rfl ?_
    refine kx_getr 20 F fl_X1_12 hk_c0 rfl rfl (j := 0) rfl dX1_takeLetter_17 (v := (M c0 0)) rfl rfl ?_
    refine kx_iload_n 21 F 1 dX1_takeLetter_20 rfl rfl rfl ?_
    refine kx_Vi 24 (ci := 0) F (As := [vI a1]) (st := []) vd_X1_105 (c_X5_manyOf G l M (M c0 0) a1 hI_M hk_6 (by omega)) hk_6 rfl rfl rfl ⟨by decide, by decide⟩ rfl rfl (Nat.le_of_ble_eq_true rfl) dX1_takeLetter_21 rfl ?_
    intro r_11 N_12 q_13
    obtain ⟨rfl, q_13c⟩ := q_13
    have h_14 := Inv.g hI_M hk_6 rfl 0 (a := 0) (b := 2) rfl rfl
    have h_15 := Inv.g hI_M hk_6 rfl 1 (a := 0) (b := 4) rfl rfl
    have h_17 := Inv.g hI_M hk_6 rfl 2 (a := 0) (b := 6) rfl rfl
    rcases q_13c with q_13c | q_13c | q_13c
    · have hr_19 : r_11 = q a1 := by rw [show a1 = 0 by omega]; omega
      refine kx_istore_n 25 F 2 (lo' := [some (vR G c0), some (vI a1), some (vI r_11)]) dX1_takeLetter_24 rfl (by decide) rfl rfl rfl ?_
      refine kx_iload_n 26 F 2 dX1_takeLetter_25 rfl rfl rfl ?_
      refine kx_iconst 27 F dX1_takeLetter_26 rfl ?_
      refine kx_icmp_lt 30 F 37 dX1_takeLetter_27 (by decide) rfl (by omega) (by decide) (fun h_20 => ?_) (fun h_20 => ?_)
      · refine kx_aload_n 38 F 0 dX1_takeLetter_37 rfl rfl rfl ?_
        refine kx_Vi 41 (ci := 0) F (As := []) (st := []) vd_X1_57 (e_X1_advance G l M c0 hI_M hk_c0 (by omega) Bt hB (j + 1) j (by omega) (by omega) (by omega)) hk_c0 rfl rfl rfl ⟨by decide, by decide⟩ rfl rfl (Nat.le_of_ble_eq_true rfl) dX1_takeLetter_38 rfl ?_
        intro r_21 N_22 q_23
        obtain ⟨hI_N_22, hG_N_22, q_23c⟩ := q_23
        have hF_N_22 : Fr f_e_X1_takeLetter M N_22 := Fr.c hF_M hG_N_22 rfl
        have hE_N_22 : Cf (Sm (M c0 0)) M N_22 := Cf.fr hE_M hG_N_22 rfl
        have hX_N_22 : XX N_22 := XX.fr hX_M hI_M hG_N_22 rfl
        have ht_24 := tp_le (n := M c0 5) (TB.tx hB hI_M hk_c0) (Inv.g hI_M hk_c0 rfl 5 (a := 0) (b := 900) rfl rfl).1 (j := (j + 1)) (by omega)
        have ht_26 : 0 ≤ tk Bt (j + 1) ∧ tk Bt (j + 1) ≤ 4 := tk_b (n := M c0 5) (TB.tx hB hI_M hk_c0) (by omega)
        have h_27 := Inv.g hI_N_22 hk_c0 rfl 7 (a := 0) (b := 900) rfl rfl
        have h_28 := Inv.g hI_N_22 hk_c0 rfl 8 (a := 0) (b := 900) rfl rfl
        have h_29 := Inv.g hI_N_22 hk_c0 rfl 6 (a := 0) (b := 5) rfl rfl
        have h_30 := Inv.g hI_M hk_c0 rfl 2 (a := (-2147483648)) (b := 2147483647) rfl rfl
        have h_31 := Inv.g hI_N_22 hk_c0 rfl 2 (a := (-2147483648)) (b := 2147483647) rfl rfl
        have h_32 := Inv.g hI_M hk_c0 rfl 3 (a := (-2147483648)) (b := 2147483647) rfl rfl
        have h_33 := Inv.g hI_N_22 hk_c0 rfl 3 (a := (-2147483648)) (b := 2147483647) rfl rfl
        have h_37 := Inv.g hI_N_22 hk_c0 rfl 9 (a := (-2147483648)) (b := 2147483647) rfl rfl
        rcases q_23c with q_23c | q_23c | q_23c
        · refine kx_if_eq 44 F 51 dX1_takeLetter_41 (by decide) rfl (by omega) (fun h_47 => (by exfalso; omega)) (fun h_47 => ?_)
          refine kx_aload_n 45 F 0 dX1_takeLetter_44 rfl rfl rfl ?_
          refine kx_Vi 48 (ci := 0) F (As := []) (st := []) vd_X1_109 (e_X1_standsName G l N_22 c0 hI_N_22 hk_c0 Bt (TB.fr hB hI_M hk_c0 hF_N_22 rfl) (j + 1) (by omega) (by omega)) hk_c0 rfl rfl rfl ⟨by decide, by decide⟩ rfl rfl (Nat.le_of_ble_eq_true rfl) dX1_takeLetter_45 rfl ?_
          intro r_48 N_49 q_50
          obtain ⟨hI_N_49, hG_N_49, q_50c⟩ := q_50
          have hF_N_49 : Fr f_e_X1_takeLetter M N_49 := Fr.c hF_N_22 hG_N_49 rfl
          have hE_N_49 : Cf (Sm (M c0 0)) M N_49 := Cf.fr hE_N_22 hG_N_49 rfl
          have hX_N_49 : XX N_49 := XX.fr hX_N_22 hI_N_22 hG_N_49 rfl
          have h_51 := Inv.g hI_N_49 hk_c0 rfl 2 (a := (-2147483648)) (b := 2147483647) rfl rfl
          have h_52 := Inv.g hI_N_49 hk_c0 rfl 3 (a := (-2147483648)) (b := 2147483647) rfl rfl
          rcases q_50c with q_50c | q_50c
          · refine kx_if_ne 51 F 53 dX1_takeLetter_48 (by decide) rfl (by omega) (fun h_55 => ?_) (fun h_55 => (by exfalso; omega))
            refine kx_aload_n 54 F 0 dX1_takeLetter_53 rfl rfl rfl ?_
            have e_56 : (N_49 c0 6) = (N_22 c0 6) := by rw [Fr.e hG_N_49 hk_c0 _ rfl]
            have e_57 : (N_49 c0 7) = (N_22 c0 7) := by rw [Fr.e hG_N_49 hk_c0 _ rfl]
            have e_58 : (N_49 c0 8) = (N_22 c0 8) := by rw [Fr.e hG_N_49 hk_c0 _ rfl]
            have e_59 : (N_49 c0 0) = (M c0 0) := by rw [Fr.e hG_N_49 hk_c0 _ rfl, Fr.e hG_N_22 hk_c0 _ rfl]
            have e_60 : (N_49 (N_49 c0 0) 0) = (M (M c0 0) 0) := by rw [e_59, Fr.e hG_N_49 hk_6 _ rfl, Fr.e hG_N_22 hk_6 _ rfl]
            have e_61 : (N_49 c0 0) = (M c0 0) := by rw [Fr.e hG_N_49 hk_c0 _ rfl, Fr.e hG_N_22 hk_c0 _ rfl]
            have e_62 : (N_49 (N_49 c0 0) 1) = (M (M c0 0) 1) := by rw [e_61, Fr.e hG_N_49 hk_6 _ rfl, Fr.e hG_N_22 hk_6 _ rfl]
            have e_64 : (N_49 c0 0) = (M c0 0) := by rw [Fr.e hG_N_49 hk_c0 _ rfl, Fr.e hG_N_22 hk_c0 _ rfl]
            have e_65 : (N_49 (N_49 c0 0) 2) = (M (M c0 0) 2) := by rw [e_64, Fr.e hG_N_49 hk_6 _ rfl, Fr.e hG_N_22 hk_6 _ rfl]
            have e_67 : (N_49 c0 0) = (M c0 0) := by rw [Fr.e hG_N_49 hk_c0 _ rfl, Fr.e hG_N_22 hk_c0 _ rfl]
            have e_68 : (N_49 (N_49 c0 0) 3) = (M (M c0 0) 3) := by rw [e_67, Fr.e hG_N_49 hk_6 _ rfl, Fr.e hG_N_22 hk_6 _ rfl]
            refine kx_Vi 57 (ci := 0) F (As := []) (st := []) vd_X1_112 (e_X1_findName G l N_49 c0 hI_N_49 hk_c0 Bt (TB.fr hB hI_M hk_c0 hF_N_49 rfl) (j + 1) (by omega) (by omega) t q (NU.fr (NU.fr hN hI_M hk_c0 hG_N_22 rfl) hI_N_22 hk_c0 hG_N_49 rfl) (by omega)) hk_c0 rfl rfl rfl ⟨by decide, by decide⟩ rfl rfl (Nat.le_of_ble_eq_true rfl) dX1_takeLetter_54 rfl ?_
            intro r_69 N_70 q_71
            obtain ⟨rfl, q_71c⟩ := q_71
            have hl_72 := lfn_b Bt t (q 0) (q 1) (q 2) (j + 1) (by omega) (by omega) (by omega)
            refine kx_iconst 58 F dX1_takeLetter_57 rfl ?_
            refine kx_icmp_eq 61 F 67 dX1_takeLetter_58 (by decide) rfl (by omega) (by decide) (fun h_73 => ?_) (fun h_73 => ?_)
            · refine kx_aload_n 68 F 0 dX1_takeLetter_67 rfl rfl rfl ?_
              refine kx_getr 71 F fl_X1_29 hk_c0 rfl rfl (j := 10) rfl dX1_takeLetter_68 (v := (M c0 10)) (by rw [Fr.e hG_N_49 hk_c0 _ rfl, Fr.e hG_N_22 hk_c0 _ rfl]) rfl ?_
              refine kx_iload_n 72 F 1 dX1_takeLetter_71 rfl rfl rfl ?_
              refine kx_iconst 73 F dX1_takeLetter_72 rfl ?_
              refine kx_imul 74 F (v := 2 * a1) dX1_takeLetter_73 (by omega) rfl ?_
              refine kx_iload_n 75 F 2 dX1_takeLetter_74 rfl rfl rfl ?_
              refine kx_iadd 76 F (v := 2 * a1 + r_11) dX1_takeLetter_75 rfl rfl ?_
              refine kx_aload_n 77 F 0 dX1_takeLetter_76 rfl rfl rfl ?_
              refine kx_geti 80 F fl_X1_51 hk_c0 rfl rfl (j := 7) rfl dX1_takeLetter_77 (v := (N_22 c0 7)) (by rw [Fr.e hG_N_49 hk_c0 _ rfl]) rfl ?_
              refine kx_iast 81 F hk_7 rfl rfl (by omega) (by decide) dX1_takeLetter_80 rfl ?_
              intro N_74 hM_N_74
              have hI_N_74 : Inv false N_74 := Inv.u hI_N_49 hM_N_74 hk_7 (a := 0) (b := 900) rfl rfl rfl (by omega)
              have hF_N_74 : Fr f_e_X1_takeLetter M N_74 := Fr.u hF_N_49 hM_N_74 hk_7 rfl
              have hX_N_74 : XX N_74 := XX.st hX_N_49 hI_N_49 hM_N_74 hk_7 rfl
              have hE_N_74 : Cf (Sm (M c0 0)) M N_74 := Cf.sk hE_N_49 hM_N_74 hk_7 rfl
              refine kx_aload_n 82 F 0 dX1_takeLetter_81 rfl rfl rfl ?_
              refine kx_getr 85 F fl_X1_33 hk_c0 rfl rfl (j := 11) rfl dX1_takeLetter_82 (v := (M c0 11)) (by rw [hM_N_74, mu_k hk_c0 hk_7 rfl, Fr.e hG_N_49 hk_c0 _ rfl, Fr.e hG_N_22 hk_c0 _ rfl]) rfl ?_
              refine kx_iload_n 86 F 1 dX1_takeLetter_85 rfl rfl rfl ?_
              refine kx_iconst 87 F dX1_takeLetter_86 rfl ?_
              refine kx_imul 88 F (v := 2 * a1) dX1_takeLetter_87 (by omega) rfl ?_
              refine kx_iload_n 89 F 2 dX1_takeLetter_88 rfl rfl rfl ?_
              refine kx_iadd 90 F (v := 2 * a1 + r_11) dX1_takeLetter_89 rfl rfl ?_
              refine kx_aload_n 91 F 0 dX1_takeLetter_90 rfl rfl rfl ?_
              refine kx_geti 94 F fl_X1_54 hk_c0 rfl rfl (j := 8) rfl dX1_takeLetter_91 (v := (N_22 c0 8)) (by rw [hM_N_74, mu_k hk_c0 hk_7 rfl, Fr.e hG_N_49 hk_c0 _ rfl]) rfl ?_
              refine kx_iast 95 F hk_8 rfl rfl (by omega) (by decide) dX1_takeLetter_94 rfl ?_
              intro N_75 hM_N_75
              have hI_N_75 : Inv false N_75 := Inv.u hI_N_74 hM_N_75 hk_8 (a := 0) (b := 900) rfl rfl rfl (by omega)
              have hF_N_75 : Fr f_e_X1_takeLetter M N_75 := Fr.u hF_N_74 hM_N_75 hk_8 rfl
              have hX_N_75 : XX N_75 := XX.st hX_N_74 hI_N_74 hM_N_75 hk_8 rfl
              have hE_N_75 : Cf (Sm (M c0 0)) M N_75 := Cf.sk hE_N_74 hM_N_75 hk_8 rfl
              refine kx_aload_n 96 F 0 dX1_takeLetter_95 rfl rfl rfl ?_
              refine kx_getr 99 F fl_X1_12 hk_c0 rfl rfl (j := 0) rfl dX1_takeLetter_96 (v := (M c0 0)) (by rw [hM_N_75, mu_k hk_c0 hk_8 rfl, hM_N_74, mu_k hk_c0 hk_7 rfl, Fr.e hG_N_49 hk_c0 _ rfl, Fr.e hG_N_22 hk_c0 _ rfl]) rfl ?_
              refine kx_iload_n 100 F 1 dX1_takeLetter_99 rfl rfl rfl ?_
              have e_76 : (N_75 (M c0 0) 0) = (M (M c0 0) 0) := by rw [hM_N_75, mu_k hk_6 hk_8 rfl, hM_N_74, mu_k hk_6 hk_7 rfl, Fr.e hG_N_49 hk_6 _ rfl, Fr.e hG_N_22 hk_6 _ rfl]
              have e_77 : (N_75 (M c0 0) 1) = (M (M c0 0) 1) := by rw [hM_N_75, mu_k hk_6 hk_8 rfl, hM_N_74, mu_k hk_6 hk_7 rfl, Fr.e hG_N_49 hk_6 _ rfl, Fr.e hG_N_22 hk_6 _ rfl]
              have e_78 : (N_75 (M c0 0) 2) = (M (M c0 0) 2) := by rw [hM_N_75, mu_k hk_6 hk_8 rfl, hM_N_74, mu_k hk_6 hk_7 rfl, Fr.e hG_N_49 hk_6 _ rfl, Fr.e hG_N_22 hk_6 _ rfl]
              refine kx_Vv 103 (ci := 0) F (As := [vI a1]) (st := []) vd_X1_116 (e_X5_addLetter G l N_75 (M c0 0) a1 hI_N_75 hk_6 (by omega) hX_N_75) hk_6 rfl rfl rfl ⟨by decide, by decide⟩ rfl rfl (Nat.le_of_ble_eq_true rfl) dX1_takeLetter_100 rfl ?_
              intro N_91 q_92
              obtain ⟨hI_N_91, hG_N_91, q_92c, hX_N_91, hC_N_91⟩ := q_92
              have hF_N_91 : Fr f_e_X1_takeLetter M N_91 := Fr.c hF_N_75 hG_N_91 rfl
              have hE_N_91 : Cf (Sm (M c0 0)) M N_91 := Cf.c hE_N_75 hC_N_91 (fun x hx => by have e : x = (M c0 0) := hx; exact ⟨by omega, by omega⟩)
              have h_94 := Inv.g hI_N_91 hk_6 rfl 0 (a := 0) (b := 2) rfl rfl
              have h_96 := Inv.g hI_N_91 hk_6 rfl 1 (a := 0) (b := 4) rfl rfl
              have h_98 := Inv.g hI_N_91 hk_6 rfl 2 (a := 0) (b := 6) rfl rfl
              rcases q_92c with q_92c | q_92c | q_92c
              · refine kx_aload_n 104 F 0 dX1_takeLetter_103 rfl rfl rfl ?_
                have e_111 : (N_91 c0 7) = (N_22 c0 7) := by rw [Fr.e hG_N_91 hk_c0 _ rfl, hM_N_75, mu_k hk_c0 hk_8 rfl, hM_N_74, mu_k hk_c0 hk_7 rfl, Fr.e hG_N_49 hk_c0 _ rfl]
                have e_112 : (N_91 c0 8) = (N_22 c0 8) := by rw [Fr.e hG_N_91 hk_c0 _ rfl, hM_N_75, mu_k hk_c0 hk_8 rfl, hM_N_74, mu_k hk_c0 hk_7 rfl, Fr.e hG_N_49 hk_c0 _ rfl]
                refine kx_Vi 107 (ci := 0) F (As := []) (st := []) vd_X1_57 (e_X1_advance G l N_91 c0 hI_N_91 hk_c0 (by omega) Bt (TB.fr hB hI_M hk_c0 hF_N_91 rfl) (j + 2) (j + 1) (by omega) (by omega) (by omega)) hk_c0 rfl rfl rfl ⟨by decide, by decide⟩ rfl rfl (Nat.le_of_ble_eq_true rfl) dX1_takeLetter_104 rfl ?_
                intro r_115 N_116 q_117
                obtain ⟨hI_N_116, hG_N_116, q_117c⟩ := q_117
                have hF_N_116 : Fr f_e_X1_takeLetter M N_116 := Fr.c hF_N_91 hG_N_116 rfl
                have hE_N_116 : Cf (Sm (M c0 0)) M N_116 := Cf.fr hE_N_91 hG_N_116 rfl
                have hX_N_116 : XX N_116 := XX.fr hX_N_91 hI_N_91 hG_N_116 rfl
                have ht_118 := tp_le (n := M c0 5) (TB.tx hB hI_M hk_c0) (Inv.g hI_M hk_c0 rfl 5 (a := 0) (b := 900) rfl rfl).1 (j := (j + 2)) (by omega)
                have ht_120 : 0 ≤ tk Bt (j + 2) ∧ tk Bt (j + 2) ≤ 4 := tk_b (n := M c0 5) (TB.tx hB hI_M hk_c0) (by omega)
                have h_121 := Inv.g hI_N_116 hk_c0 rfl 7 (a := 0) (b := 900) rfl rfl
                have h_122 := Inv.g hI_N_116 hk_c0 rfl 8 (a := 0) (b := 900) rfl rfl
                have h_123 := Inv.g hI_N_116 hk_c0 rfl 6 (a := 0) (b := 5) rfl rfl
                have e_124 : (N_91 c0 2) = (N_49 c0 2) := by rw [Fr.e hG_N_91 hk_c0 _ rfl, hM_N_75, mu_k hk_c0 hk_8 rfl, hM_N_74, mu_k hk_c0 hk_7 rfl]
                have h_125 := Inv.g hI_N_116 hk_c0 rfl 2 (a := (-2147483648)) (b := 2147483647) rfl rfl
                have e_126 : (N_91 c0 3) = (N_49 c0 3) := by rw [Fr.e hG_N_91 hk_c0 _ rfl, hM_N_75, mu_k hk_c0 hk_8 rfl, hM_N_74, mu_k hk_c0 hk_7 rfl]
                have h_127 := Inv.g hI_N_116 hk_c0 rfl 3 (a := (-2147483648)) (b := 2147483647) rfl rfl
                have h_131 := Inv.g hI_N_116 hk_c0 rfl 9 (a := (-2147483648)) (b := 2147483647) rfl rfl
                rcases q_117c with q_117c | q_117c | q_117c
                · refine kx_if_eq 110 F 121 dX1_takeLetter_107 (by decide) rfl (by omega) (fun h_141 => (by exfalso; omega)) (fun h_141 => ?_)
                  refine kx_aload_n 111 F 0 dX1_takeLetter_110 rfl rfl rfl ?_
                  refine kx_Vi 114 (ci := 0) F (As := []) (st := []) vd_X1_120 (e_X1_standsSign G l N_116 c0 hI_N_116 hk_c0 Bt (TB.fr hB hI_M hk_c0 hF_N_116 rfl) (j + 2) (by omega) (by omega)) hk_c0 rfl rfl rfl ⟨by decide, by decide⟩ rfl rfl (Nat.le_of_ble_eq_true rfl) dX1_takeLetter_111 rfl ?_
                  intro r_142 N_143 q_144
                  obtain ⟨hI_N_143, hG_N_143, q_144c⟩ := q_144
                  have hF_N_143 : Fr f_e_X1_takeLetter M N_143 := Fr.c hF_N_116 hG_N_143 rfl
                  have hE_N_143 : Cf (Sm (M c0 0)) M N_143 := Cf.fr hE_N_116 hG_N_143 rfl
                  have hX_N_143 : XX N_143 := XX.fr hX_N_116 hI_N_116 hG_N_143 rfl
                  have h_145 := Inv.g hI_N_143 hk_c0 rfl 2 (a := (-2147483648)) (b := 2147483647) rfl rfl
                  have h_146 := Inv.g hI_N_143 hk_c0 rfl 3 (a := (-2147483648)) (b := 2147483647) rfl rfl
                  rcases q_144c with q_144c | q_144c
                  · refine kx_if_eq 117 F 121 dX1_takeLetter_114 (by decide) rfl (by omega) (fun h_149 => (by exfalso; omega)) (fun h_149 => ?_)
                    refine kx_iconst 118 F dX1_takeLetter_117 rfl ?_
                    refine kx_goto 122 F dX1_takeLetter_118 (by decide) ?_
                    have e_150 : (N_143 c0 0) = (M c0 0) := by rw [Fr.e hG_N_143 hk_c0 _ rfl, Fr.e hG_N_116 hk_c0 _ rfl, Fr.e hG_N_91 hk_c0 _ rfl, hM_N_75, mu_k hk_c0 hk_8 rfl, hM_N_74, mu_k hk_c0 hk_7 rfl, Fr.e hG_N_49 hk_c0 _ rfl, Fr.e hG_N_22 hk_c0 _ rfl]
                    have e_151 : (N_143 (M c0 0) 0) = (N_91 (M c0 0) 0) := by rw [Fr.e hG_N_143 hk_6 _ rfl, Fr.e hG_N_116 hk_6 _ rfl]
                    have e_152 : (N_143 (M c0 0) 1) = (N_91 (M c0 0) 1) := by rw [Fr.e hG_N_143 hk_6 _ rfl, Fr.e hG_N_116 hk_6 _ rfl]
                    have e_153 : (N_143 (M c0 0) 2) = (N_91 (M c0 0) 2) := by rw [Fr.e hG_N_143 hk_6 _ rfl, Fr.e hG_N_116 hk_6 _ rfl]
                    have e_154 : (N_143 (M c0 0) 3) = (M (M c0 0) 3) := by rw [Fr.e hG_N_143 hk_6 _ rfl, Fr.e hG_N_116 hk_6 _ rfl, Fr.e hG_N_91 hk_6 _ rfl, hM_N_75, mu_k hk_6 hk_8 rfl, hM_N_74, mu_k hk_6 hk_7 rfl, Fr.e hG_N_49 hk_6 _ rfl, Fr.e hG_N_22 hk_6 _ rfl]
                    have e_155 : (N_143 c0 6) = (N_116 c0 6) := by rw [Fr.e hG_N_143 hk_c0 _ rfl]
                    have e_156 : (N_143 c0 7) = (N_116 c0 7) := by rw [Fr.e hG_N_143 hk_c0 _ rfl]
                    have e_157 : (N_143 c0 8) = (N_116 c0 8) := by rw [Fr.e hG_N_143 hk_c0 _ rfl]
                    exact kx_zret F hQ (by omega) ⟨hI_N_143, hF_N_143, (by omega), hX_N_143, hE_N_143, ⟨(Or.inr ⟨(Or.inr (Or.inr (Or.inr (Or.inr (Or.inr ((by omega))))))), (Or.inr (Or.inr (Or.inr ((by omega)))))⟩), (fun _ => ⟨⟨by omega, by omega, by omega, by omega, by omega⟩, CQ.up (a := a1) hq (by omega) (by rw [Fr.e hG_N_143 hk_c0 _ rfl, Fr.e hG_N_116 hk_c0 _ rfl, Fr.e hG_N_91 hk_c0 _ rfl, hM_N_75, mu_k hk_c0 hk_8 rfl, hM_N_74, mu_k hk_c0 hk_7 rfl, Fr.e hG_N_49 hk_c0 _ rfl, Fr.e hG_N_22 hk_c0 _ rfl]) (by omega) (by omega), NU.up hN (by omega) (by omega) (by omega) (by rw [Fr.e hG_N_143 hk_c0 _ rfl, Fr.e hG_N_116 hk_c0 _ rfl, Fr.e hG_N_91 hk_c0 _ rfl, hM_N_75, mu_k hk_c0 hk_8 rfl, hM_N_74, mu_k hk_c0 hk_7 rfl, Fr.e hG_N_49 hk_c0 _ rfl, Fr.e hG_N_22 hk_c0 _ rfl]) (by rw [Fr.e hG_N_143 hk_c0 _ rfl, Fr.e hG_N_116 hk_c0 _ rfl, Fr.e hG_N_91 hk_c0 _ rfl, hM_N_75, mu_k hk_c0 hk_8 rfl, hM_N_74, mu_k hk_c0 hk_7 rfl, Fr.e hG_N_49 hk_c0 _ rfl, Fr.e hG_N_22 hk_c0 _ rfl]) (UP.fr (UP.fr (UP.fr (UP.ot (UP.of (fun j => by rw [Fr.e hG_N_49 hk_7 _ rfl, Fr.e hG_N_22 hk_7 _ rfl]) hM_N_74) hM_N_75 hk_7 hk_8 rfl) hG_N_91 hk_7 rfl) hG_N_116 hk_7 rfl) hG_N_143 hk_7 rfl) (UP.fr (UP.fr (UP.fr (UP.of (fun j => by rw [hM_N_74, mu_k hk_8 hk_7 rfl, Fr.e hG_N_49 hk_8 _ rfl, Fr.e hG_N_22 hk_8 _ rfl]) hM_N_75) hG_N_91 hk_8 rfl) hG_N_116 hk_8 rfl) hG_N_143 hk_8 rfl) (by omega) (by omega) (nm_t (by omega) (by omega)), CA.nil (by rw [upk_o (by omega)]; omega)⟩)⟩⟩ dX1_takeLetter_122
                  · refine kx_if_eq 117 F 121 dX1_takeLetter_114 (by decide) rfl (by omega) (fun h_158 => ?_) (fun h_158 => (by exfalso; omega))
                    refine kx_iconst 122 F dX1_takeLetter_121 rfl ?_
                    exact kx_zret F hQ (by omega) ⟨hI_N_143, hF_N_143, (by omega), hX_N_143, hE_N_143, ⟨(Or.inr ⟨(Or.inr (Or.inr (Or.inr (Or.inr (Or.inr ((by omega))))))), (Or.inr (Or.inl (by omega)))⟩), (fun h => absurd h (by omega))⟩⟩ dX1_takeLetter_122
                · refine kx_if_eq 110 F 121 dX1_takeLetter_107 (by decide) rfl (by omega) (fun h_159 => (by exfalso; omega)) (fun h_159 => ?_)
                  refine kx_aload_n 111 F 0 dX1_takeLetter_110 rfl rfl rfl ?_
                  refine kx_Vi 114 (ci := 0) F (As := []) (st := []) vd_X1_120 (e_X1_standsSign G l N_116 c0 hI_N_116 hk_c0 Bt (TB.fr hB hI_M hk_c0 hF_N_116 rfl) (j + 2) (by omega) (by omega)) hk_c0 rfl rfl rfl ⟨by decide, by decide⟩ rfl rfl (Nat.le_of_ble_eq_true rfl) dX1_takeLetter_111 rfl ?_
                  intro r_160 N_161 q_162
                  obtain ⟨hI_N_161, hG_N_161, q_162c⟩ := q_162
                  have hF_N_161 : Fr f_e_X1_takeLetter M N_161 := Fr.c hF_N_116 hG_N_161 rfl
                  have hE_N_161 : Cf (Sm (M c0 0)) M N_161 := Cf.fr hE_N_116 hG_N_161 rfl
                  have hX_N_161 : XX N_161 := XX.fr hX_N_116 hI_N_116 hG_N_161 rfl
                  have h_163 := Inv.g hI_N_161 hk_c0 rfl 2 (a := (-2147483648)) (b := 2147483647) rfl rfl
                  have h_164 := Inv.g hI_N_161 hk_c0 rfl 3 (a := (-2147483648)) (b := 2147483647) rfl rfl
                  rcases q_162c with q_162c | q_162c
                  · exfalso; omega
                  · refine kx_if_eq 117 F 121 dX1_takeLetter_114 (by decide) rfl (by omega) (fun h_167 => ?_) (fun h_167 => (by exfalso; omega))
                    refine kx_iconst 122 F dX1_takeLetter_121 rfl ?_
                    exact kx_zret F hQ (by omega) ⟨hI_N_161, hF_N_161, (by omega), hX_N_161, hE_N_161, ⟨(Or.inr ⟨(Or.inr (Or.inr (Or.inr (Or.inr (Or.inr ((by omega))))))), (Or.inr (Or.inl (by omega)))⟩), (fun h => absurd h (by omega))⟩⟩ dX1_takeLetter_122
                · refine kx_if_eq 110 F 121 dX1_takeLetter_107 (by decide) rfl (by omega) (fun h_168 => ?_) (fun h_168 => (by exfalso; omega))
                  refine kx_iconst 122 F dX1_takeLetter_121 rfl ?_
                  exact kx_zret F hQ (by omega) ⟨hI_N_116, hF_N_116, (by omega), hX_N_116, hE_N_116, ⟨(Or.inr ⟨(Or.inr (Or.inr (Or.inr (Or.inr (Or.inr ((by omega))))))), (Or.inl (by omega))⟩), (fun h => absurd h (by omega))⟩⟩ dX1_takeLetter_122
              · exfalso; omega
              · exfalso; omega
            · refine kx_aload_n 62 F 0 dX1_takeLetter_61 rfl rfl rfl ?_
              refine kx_iconst 63 F dX1_takeLetter_62 rfl ?_
              refine kx_Vi 66 (ci := 0) F (As := [vI 3]) (st := []) vd_X1_89 (e_X1_fail G l N_49 c0 3 hI_N_49 hk_c0 (by omega)) hk_c0 rfl rfl rfl ⟨by decide, by decide⟩ rfl rfl (Nat.le_of_ble_eq_true rfl) dX1_takeLetter_63 rfl ?_
              intro r_169 N_170 q_171
              obtain ⟨hI_N_170, hG_N_170, q_171c⟩ := q_171
              have hF_N_170 : Fr f_e_X1_takeLetter M N_170 := Fr.c hF_N_49 hG_N_170 rfl
              have hE_N_170 : Cf (Sm (M c0 0)) M N_170 := Cf.fr hE_N_49 hG_N_170 rfl
              have hX_N_170 : XX N_170 := XX.fr hX_N_49 hI_N_49 hG_N_170 rfl
              have h_172 := Inv.g hI_N_170 hk_c0 rfl 2 (a := (-2147483648)) (b := 2147483647) rfl rfl
              have h_174 := Inv.g hI_N_170 hk_c0 rfl 3 (a := (-2147483648)) (b := 2147483647) rfl rfl
              exact kx_zret F hQ (by omega) ⟨hI_N_170, hF_N_170, (by omega), hX_N_170, hE_N_170, ⟨(Or.inl ⟨by omega, (Or.inr (Or.inr (Or.inr (Or.inr (Or.inl (by omega))))))⟩), (fun h => absurd h (by omega))⟩⟩ dX1_takeLetter_66
          · refine kx_if_ne 51 F 53 dX1_takeLetter_48 (by decide) rfl (by omega) (fun h_175 => (by exfalso; omega)) (fun h_175 => ?_)
            refine kx_iconst 52 F dX1_takeLetter_51 rfl ?_
            exact kx_zret F hQ (by omega) ⟨hI_N_49, hF_N_49, (by omega), hX_N_49, hE_N_49, ⟨(Or.inl ⟨by omega, (Or.inr (Or.inr (Or.inr (Or.inl (by omega)))))⟩), (fun h => absurd h (by omega))⟩⟩ dX1_takeLetter_52
        · refine kx_if_eq 44 F 51 dX1_takeLetter_41 (by decide) rfl (by omega) (fun h_176 => (by exfalso; omega)) (fun h_176 => ?_)
          refine kx_aload_n 45 F 0 dX1_takeLetter_44 rfl rfl rfl ?_
          refine kx_Vi 48 (ci := 0) F (As := []) (st := []) vd_X1_109 (e_X1_standsName G l N_22 c0 hI_N_22 hk_c0 Bt (TB.fr hB hI_M hk_c0 hF_N_22 rfl) (j + 1) (by omega) (by omega)) hk_c0 rfl rfl rfl ⟨by decide, by decide⟩ rfl rfl (Nat.le_of_ble_eq_true rfl) dX1_takeLetter_45 rfl ?_
          intro r_177 N_178 q_179
          obtain ⟨hI_N_178, hG_N_178, q_179c⟩ := q_179
          have hF_N_178 : Fr f_e_X1_takeLetter M N_178 := Fr.c hF_N_22 hG_N_178 rfl
          have hE_N_178 : Cf (Sm (M c0 0)) M N_178 := Cf.fr hE_N_22 hG_N_178 rfl
          have hX_N_178 : XX N_178 := XX.fr hX_N_22 hI_N_22 hG_N_178 rfl
          have h_180 := Inv.g hI_N_178 hk_c0 rfl 2 (a := (-2147483648)) (b := 2147483647) rfl rfl
          have h_181 := Inv.g hI_N_178 hk_c0 rfl 3 (a := (-2147483648)) (b := 2147483647) rfl rfl
          rcases q_179c with q_179c | q_179c
          · exfalso; omega
          · refine kx_if_ne 51 F 53 dX1_takeLetter_48 (by decide) rfl (by omega) (fun h_184 => (by exfalso; omega)) (fun h_184 => ?_)
            refine kx_iconst 52 F dX1_takeLetter_51 rfl ?_
            exact kx_zret F hQ (by omega) ⟨hI_N_178, hF_N_178, (by omega), hX_N_178, hE_N_178, ⟨(Or.inl ⟨by omega, (Or.inr (Or.inr (Or.inr (Or.inl (by omega)))))⟩), (fun h => absurd h (by omega))⟩⟩ dX1_takeLetter_52
        · refine kx_if_eq 44 F 51 dX1_takeLetter_41 (by decide) rfl (by omega) (fun h_185 => ?_) (fun h_185 => (by exfalso; omega))
          refine kx_iconst 52 F dX1_takeLetter_51 rfl ?_
          exact kx_zret F hQ (by omega) ⟨hI_N_22, hF_N_22, (by omega), hX_N_22, hE_N_22, ⟨(Or.inl ⟨by omega, (Or.inr (Or.inr (Or.inl (by omega))))⟩), (fun h => absurd h (by omega))⟩⟩ dX1_takeLetter_52
      · refine kx_aload_n 31 F 0 dX1_takeLetter_30 rfl rfl rfl ?_
        refine kx_bipush 33 F dX1_takeLetter_31 (by decide) rfl ?_
        refine kx_Vi 36 (ci := 0) F (As := [vI 6]) (st := []) vd_X1_89 (e_X1_fail G l M c0 6 hI_M hk_c0 (by omega)) hk_c0 rfl rfl rfl ⟨by decide, by decide⟩ rfl rfl (Nat.le_of_ble_eq_true rfl) dX1_takeLetter_33 rfl ?_
        intro r_186 N_187 q_188
        obtain ⟨hI_N_187, hG_N_187, q_188c⟩ := q_188
        have hF_N_187 : Fr f_e_X1_takeLetter M N_187 := Fr.c hF_M hG_N_187 rfl
        have hE_N_187 : Cf (Sm (M c0 0)) M N_187 := Cf.fr hE_M hG_N_187 rfl
        have hX_N_187 : XX N_187 := XX.fr hX_M hI_M hG_N_187 rfl
        have h_189 := Inv.g hI_N_187 hk_c0 rfl 2 (a := (-2147483648)) (b := 2147483647) rfl rfl
        have h_190 := Inv.g hI_N_187 hk_c0 rfl 3 (a := (-2147483648)) (b := 2147483647) rfl rfl
        exact kx_zret F hQ (by omega) ⟨hI_N_187, hF_N_187, (by omega), hX_N_187, hE_N_187, ⟨(Or.inl ⟨by omega, (Or.inr (Or.inl (by omega)))⟩), (fun h => absurd h (by omega))⟩⟩ dX1_takeLetter_36
    · have hr_191 : r_11 = q a1 := by rw [show a1 = 1 by omega]; omega
      refine kx_istore_n 25 F 2 (lo' := [some (vR G c0), some (vI a1), some (vI r_11)]) dX1_takeLetter_24 rfl (by decide) rfl rfl rfl ?_
      refine kx_iload_n 26 F 2 dX1_takeLetter_25 rfl rfl rfl ?_
      refine kx_iconst 27 F dX1_takeLetter_26 rfl ?_
      refine kx_icmp_lt 30 F 37 dX1_takeLetter_27 (by decide) rfl (by omega) (by decide) (fun h_192 => ?_) (fun h_192 => ?_)
      · refine kx_aload_n 38 F 0 dX1_takeLetter_37 rfl rfl rfl ?_
        refine kx_Vi 41 (ci := 0) F (As := []) (st := []) vd_X1_57 (e_X1_advance G l M c0 hI_M hk_c0 (by omega) Bt hB (j + 1) j (by omega) (by omega) (by omega)) hk_c0 rfl rfl rfl ⟨by decide, by decide⟩ rfl rfl (Nat.le_of_ble_eq_true rfl) dX1_takeLetter_38 rfl ?_
        intro r_193 N_194 q_195
        obtain ⟨hI_N_194, hG_N_194, q_195c⟩ := q_195
        have hF_N_194 : Fr f_e_X1_takeLetter M N_194 := Fr.c hF_M hG_N_194 rfl
        have hE_N_194 : Cf (Sm (M c0 0)) M N_194 := Cf.fr hE_M hG_N_194 rfl
        have hX_N_194 : XX N_194 := XX.fr hX_M hI_M hG_N_194 rfl
        have ht_196 := tp_le (n := M c0 5) (TB.tx hB hI_M hk_c0) (Inv.g hI_M hk_c0 rfl 5 (a := 0) (b := 900) rfl rfl).1 (j := (j + 1)) (by omega)
        have ht_198 : 0 ≤ tk Bt (j + 1) ∧ tk Bt (j + 1) ≤ 4 := tk_b (n := M c0 5) (TB.tx hB hI_M hk_c0) (by omega)
        have h_199 := Inv.g hI_N_194 hk_c0 rfl 7 (a := 0) (b := 900) rfl rfl
        have h_200 := Inv.g hI_N_194 hk_c0 rfl 8 (a := 0) (b := 900) rfl rfl
        have h_201 := Inv.g hI_N_194 hk_c0 rfl 6 (a := 0) (b := 5) rfl rfl
        have h_202 := Inv.g hI_M hk_c0 rfl 2 (a := (-2147483648)) (b := 2147483647) rfl rfl
        have h_203 := Inv.g hI_N_194 hk_c0 rfl 2 (a := (-2147483648)) (b := 2147483647) rfl rfl
        have h_204 := Inv.g hI_M hk_c0 rfl 3 (a := (-2147483648)) (b := 2147483647) rfl rfl
        have h_205 := Inv.g hI_N_194 hk_c0 rfl 3 (a := (-2147483648)) (b := 2147483647) rfl rfl
        have h_209 := Inv.g hI_N_194 hk_c0 rfl 9 (a := (-2147483648)) (b := 2147483647) rfl rfl
        rcases q_195c with q_195c | q_195c | q_195c
        · refine kx_if_eq 44 F 51 dX1_takeLetter_41 (by decide) rfl (by omega) (fun h_219 => (by exfalso; omega)) (fun h_219 => ?_)
          refine kx_aload_n 45 F 0 dX1_takeLetter_44 rfl rfl rfl ?_
          refine kx_Vi 48 (ci := 0) F (As := []) (st := []) vd_X1_109 (e_X1_standsName G l N_194 c0 hI_N_194 hk_c0 Bt (TB.fr hB hI_M hk_c0 hF_N_194 rfl) (j + 1) (by omega) (by omega)) hk_c0 rfl rfl rfl ⟨by decide, by decide⟩ rfl rfl (Nat.le_of_ble_eq_true rfl) dX1_takeLetter_45 rfl ?_
          intro r_220 N_221 q_222
          obtain ⟨hI_N_221, hG_N_221, q_222c⟩ := q_222
          have hF_N_221 : Fr f_e_X1_takeLetter M N_221 := Fr.c hF_N_194 hG_N_221 rfl
          have hE_N_221 : Cf (Sm (M c0 0)) M N_221 := Cf.fr hE_N_194 hG_N_221 rfl
          have hX_N_221 : XX N_221 := XX.fr hX_N_194 hI_N_194 hG_N_221 rfl
          have h_223 := Inv.g hI_N_221 hk_c0 rfl 2 (a := (-2147483648)) (b := 2147483647) rfl rfl
          have h_224 := Inv.g hI_N_221 hk_c0 rfl 3 (a := (-2147483648)) (b := 2147483647) rfl rfl
          rcases q_222c with q_222c | q_222c
          · refine kx_if_ne 51 F 53 dX1_takeLetter_48 (by decide) rfl (by omega) (fun h_227 => ?_) (fun h_227 => (by exfalso; omega))
            refine kx_aload_n 54 F 0 dX1_takeLetter_53 rfl rfl rfl ?_
            have e_228 : (N_221 c0 6) = (N_194 c0 6) := by rw [Fr.e hG_N_221 hk_c0 _ rfl]
            have e_229 : (N_221 c0 7) = (N_194 c0 7) := by rw [Fr.e hG_N_221 hk_c0 _ rfl]
            have e_230 : (N_221 c0 8) = (N_194 c0 8) := by rw [Fr.e hG_N_221 hk_c0 _ rfl]
            have e_231 : (N_221 c0 0) = (M c0 0) := by rw [Fr.e hG_N_221 hk_c0 _ rfl, Fr.e hG_N_194 hk_c0 _ rfl]
            have e_232 : (N_221 (N_221 c0 0) 0) = (M (M c0 0) 0) := by rw [e_231, Fr.e hG_N_221 hk_6 _ rfl, Fr.e hG_N_194 hk_6 _ rfl]
            have e_233 : (N_221 c0 0) = (M c0 0) := by rw [Fr.e hG_N_221 hk_c0 _ rfl, Fr.e hG_N_194 hk_c0 _ rfl]
            have e_234 : (N_221 (N_221 c0 0) 1) = (M (M c0 0) 1) := by rw [e_233, Fr.e hG_N_221 hk_6 _ rfl, Fr.e hG_N_194 hk_6 _ rfl]
            have e_235 : (N_221 c0 0) = (M c0 0) := by rw [Fr.e hG_N_221 hk_c0 _ rfl, Fr.e hG_N_194 hk_c0 _ rfl]
            have e_236 : (N_221 (N_221 c0 0) 2) = (M (M c0 0) 2) := by rw [e_235, Fr.e hG_N_221 hk_6 _ rfl, Fr.e hG_N_194 hk_6 _ rfl]
            have e_238 : (N_221 c0 0) = (M c0 0) := by rw [Fr.e hG_N_221 hk_c0 _ rfl, Fr.e hG_N_194 hk_c0 _ rfl]
            have e_239 : (N_221 (N_221 c0 0) 3) = (M (M c0 0) 3) := by rw [e_238, Fr.e hG_N_221 hk_6 _ rfl, Fr.e hG_N_194 hk_6 _ rfl]
            refine kx_Vi 57 (ci := 0) F (As := []) (st := []) vd_X1_112 (e_X1_findName G l N_221 c0 hI_N_221 hk_c0 Bt (TB.fr hB hI_M hk_c0 hF_N_221 rfl) (j + 1) (by omega) (by omega) t q (NU.fr (NU.fr hN hI_M hk_c0 hG_N_194 rfl) hI_N_194 hk_c0 hG_N_221 rfl) (by omega)) hk_c0 rfl rfl rfl ⟨by decide, by decide⟩ rfl rfl (Nat.le_of_ble_eq_true rfl) dX1_takeLetter_54 rfl ?_
            intro r_240 N_241 q_242
            obtain ⟨rfl, q_242c⟩ := q_242
            have hl_243 := lfn_b Bt t (q 0) (q 1) (q 2) (j + 1) (by omega) (by omega) (by omega)
            refine kx_iconst 58 F dX1_takeLetter_57 rfl ?_
            refine kx_icmp_eq 61 F 67 dX1_takeLetter_58 (by decide) rfl (by omega) (by decide) (fun h_244 => ?_) (fun h_244 => ?_)
            · refine kx_aload_n 68 F 0 dX1_takeLetter_67 rfl rfl rfl ?_
              refine kx_getr 71 F fl_X1_29 hk_c0 rfl rfl (j := 10) rfl dX1_takeLetter_68 (v := (M c0 10)) (by rw [Fr.e hG_N_221 hk_c0 _ rfl, Fr.e hG_N_194 hk_c0 _ rfl]) rfl ?_
              refine kx_iload_n 72 F 1 dX1_takeLetter_71 rfl rfl rfl ?_
              refine kx_iconst 73 F dX1_takeLetter_72 rfl ?_
              refine kx_imul 74 F (v := 2 * a1) dX1_takeLetter_73 (by omega) rfl ?_
              refine kx_iload_n 75 F 2 dX1_takeLetter_74 rfl rfl rfl ?_
              refine kx_iadd 76 F (v := 2 * a1 + r_11) dX1_takeLetter_75 rfl rfl ?_
              refine kx_aload_n 77 F 0 dX1_takeLetter_76 rfl rfl rfl ?_
              refine kx_geti 80 F fl_X1_51 hk_c0 rfl rfl (j := 7) rfl dX1_takeLetter_77 (v := (N_194 c0 7)) (by rw [Fr.e hG_N_221 hk_c0 _ rfl]) rfl ?_
              refine kx_iast 81 F hk_7 rfl rfl (by omega) (by decide) dX1_takeLetter_80 rfl ?_
              intro N_245 hM_N_245
              have hI_N_245 : Inv false N_245 := Inv.u hI_N_221 hM_N_245 hk_7 (a := 0) (b := 900) rfl rfl rfl (by omega)
              have hF_N_245 : Fr f_e_X1_takeLetter M N_245 := Fr.u hF_N_221 hM_N_245 hk_7 rfl
              have hX_N_245 : XX N_245 := XX.st hX_N_221 hI_N_221 hM_N_245 hk_7 rfl
              have hE_N_245 : Cf (Sm (M c0 0)) M N_245 := Cf.sk hE_N_221 hM_N_245 hk_7 rfl
              refine kx_aload_n 82 F 0 dX1_takeLetter_81 rfl rfl rfl ?_
              refine kx_getr 85 F fl_X1_33 hk_c0 rfl rfl (j := 11) rfl dX1_takeLetter_82 (v := (M c0 11)) (by rw [hM_N_245, mu_k hk_c0 hk_7 rfl, Fr.e hG_N_221 hk_c0 _ rfl, Fr.e hG_N_194 hk_c0 _ rfl]) rfl ?_
              refine kx_iload_n 86 F 1 dX1_takeLetter_85 rfl rfl rfl ?_
              refine kx_iconst 87 F dX1_takeLetter_86 rfl ?_
              refine kx_imul 88 F (v := 2 * a1) dX1_takeLetter_87 (by omega) rfl ?_
              refine kx_iload_n 89 F 2 dX1_takeLetter_88 rfl rfl rfl ?_
              refine kx_iadd 90 F (v := 2 * a1 + r_11) dX1_takeLetter_89 rfl rfl ?_
              refine kx_aload_n 91 F 0 dX1_takeLetter_90 rfl rfl rfl ?_
              refine kx_geti 94 F fl_X1_54 hk_c0 rfl rfl (j := 8) rfl dX1_takeLetter_91 (v := (N_194 c0 8)) (by rw [hM_N_245, mu_k hk_c0 hk_7 rfl, Fr.e hG_N_221 hk_c0 _ rfl]) rfl ?_
              refine kx_iast 95 F hk_8 rfl rfl (by omega) (by decide) dX1_takeLetter_94 rfl ?_
              intro N_246 hM_N_246
              have hI_N_246 : Inv false N_246 := Inv.u hI_N_245 hM_N_246 hk_8 (a := 0) (b := 900) rfl rfl rfl (by omega)
              have hF_N_246 : Fr f_e_X1_takeLetter M N_246 := Fr.u hF_N_245 hM_N_246 hk_8 rfl
              have hX_N_246 : XX N_246 := XX.st hX_N_245 hI_N_245 hM_N_246 hk_8 rfl
              have hE_N_246 : Cf (Sm (M c0 0)) M N_246 := Cf.sk hE_N_245 hM_N_246 hk_8 rfl
              refine kx_aload_n 96 F 0 dX1_takeLetter_95 rfl rfl rfl ?_
              refine kx_getr 99 F fl_X1_12 hk_c0 rfl rfl (j := 0) rfl dX1_takeLetter_96 (v := (M c0 0)) (by rw [hM_N_246, mu_k hk_c0 hk_8 rfl, hM_N_245, mu_k hk_c0 hk_7 rfl, Fr.e hG_N_221 hk_c0 _ rfl, Fr.e hG_N_194 hk_c0 _ rfl]) rfl ?_
              refine kx_iload_n 100 F 1 dX1_takeLetter_99 rfl rfl rfl ?_
              have e_247 : (N_246 (M c0 0) 0) = (M (M c0 0) 0) := by rw [hM_N_246, mu_k hk_6 hk_8 rfl, hM_N_245, mu_k hk_6 hk_7 rfl, Fr.e hG_N_221 hk_6 _ rfl, Fr.e hG_N_194 hk_6 _ rfl]
              have e_248 : (N_246 (M c0 0) 1) = (M (M c0 0) 1) := by rw [hM_N_246, mu_k hk_6 hk_8 rfl, hM_N_245, mu_k hk_6 hk_7 rfl, Fr.e hG_N_221 hk_6 _ rfl, Fr.e hG_N_194 hk_6 _ rfl]
              have e_249 : (N_246 (M c0 0) 2) = (M (M c0 0) 2) := by rw [hM_N_246, mu_k hk_6 hk_8 rfl, hM_N_245, mu_k hk_6 hk_7 rfl, Fr.e hG_N_221 hk_6 _ rfl, Fr.e hG_N_194 hk_6 _ rfl]
              refine kx_Vv 103 (ci := 0) F (As := [vI a1]) (st := []) vd_X1_116 (e_X5_addLetter G l N_246 (M c0 0) a1 hI_N_246 hk_6 (by omega) hX_N_246) hk_6 rfl rfl rfl ⟨by decide, by decide⟩ rfl rfl (Nat.le_of_ble_eq_true rfl) dX1_takeLetter_100 rfl ?_
              intro N_262 q_263
              obtain ⟨hI_N_262, hG_N_262, q_263c, hX_N_262, hC_N_262⟩ := q_263
              have hF_N_262 : Fr f_e_X1_takeLetter M N_262 := Fr.c hF_N_246 hG_N_262 rfl
              have hE_N_262 : Cf (Sm (M c0 0)) M N_262 := Cf.c hE_N_246 hC_N_262 (fun x hx => by have e : x = (M c0 0) := hx; exact ⟨by omega, by omega⟩)
              have h_265 := Inv.g hI_N_262 hk_6 rfl 0 (a := 0) (b := 2) rfl rfl
              have h_267 := Inv.g hI_N_262 hk_6 rfl 1 (a := 0) (b := 4) rfl rfl
              have h_269 := Inv.g hI_N_262 hk_6 rfl 2 (a := 0) (b := 6) rfl rfl
              rcases q_263c with q_263c | q_263c | q_263c
              · exfalso; omega
              · refine kx_aload_n 104 F 0 dX1_takeLetter_103 rfl rfl rfl ?_
                have e_282 : (N_262 c0 7) = (N_194 c0 7) := by rw [Fr.e hG_N_262 hk_c0 _ rfl, hM_N_246, mu_k hk_c0 hk_8 rfl, hM_N_245, mu_k hk_c0 hk_7 rfl, Fr.e hG_N_221 hk_c0 _ rfl]
                have e_283 : (N_262 c0 8) = (N_194 c0 8) := by rw [Fr.e hG_N_262 hk_c0 _ rfl, hM_N_246, mu_k hk_c0 hk_8 rfl, hM_N_245, mu_k hk_c0 hk_7 rfl, Fr.e hG_N_221 hk_c0 _ rfl]
                refine kx_Vi 107 (ci := 0) F (As := []) (st := []) vd_X1_57 (e_X1_advance G l N_262 c0 hI_N_262 hk_c0 (by omega) Bt (TB.fr hB hI_M hk_c0 hF_N_262 rfl) (j + 2) (j + 1) (by omega) (by omega) (by omega)) hk_c0 rfl rfl rfl ⟨by decide, by decide⟩ rfl rfl (Nat.le_of_ble_eq_true rfl) dX1_takeLetter_104 rfl ?_
                intro r_286 N_287 q_288
                obtain ⟨hI_N_287, hG_N_287, q_288c⟩ := q_288
                have hF_N_287 : Fr f_e_X1_takeLetter M N_287 := Fr.c hF_N_262 hG_N_287 rfl
                have hE_N_287 : Cf (Sm (M c0 0)) M N_287 := Cf.fr hE_N_262 hG_N_287 rfl
                have hX_N_287 : XX N_287 := XX.fr hX_N_262 hI_N_262 hG_N_287 rfl
                have ht_289 := tp_le (n := M c0 5) (TB.tx hB hI_M hk_c0) (Inv.g hI_M hk_c0 rfl 5 (a := 0) (b := 900) rfl rfl).1 (j := (j + 2)) (by omega)
                have ht_291 : 0 ≤ tk Bt (j + 2) ∧ tk Bt (j + 2) ≤ 4 := tk_b (n := M c0 5) (TB.tx hB hI_M hk_c0) (by omega)
                have h_292 := Inv.g hI_N_287 hk_c0 rfl 7 (a := 0) (b := 900) rfl rfl
                have h_293 := Inv.g hI_N_287 hk_c0 rfl 8 (a := 0) (b := 900) rfl rfl
                have h_294 := Inv.g hI_N_287 hk_c0 rfl 6 (a := 0) (b := 5) rfl rfl
                have e_295 : (N_262 c0 2) = (N_221 c0 2) := by rw [Fr.e hG_N_262 hk_c0 _ rfl, hM_N_246, mu_k hk_c0 hk_8 rfl, hM_N_245, mu_k hk_c0 hk_7 rfl]
                have h_296 := Inv.g hI_N_287 hk_c0 rfl 2 (a := (-2147483648)) (b := 2147483647) rfl rfl
                have e_297 : (N_262 c0 3) = (N_221 c0 3) := by rw [Fr.e hG_N_262 hk_c0 _ rfl, hM_N_246, mu_k hk_c0 hk_8 rfl, hM_N_245, mu_k hk_c0 hk_7 rfl]
                have h_298 := Inv.g hI_N_287 hk_c0 rfl 3 (a := (-2147483648)) (b := 2147483647) rfl rfl
                have h_302 := Inv.g hI_N_287 hk_c0 rfl 9 (a := (-2147483648)) (b := 2147483647) rfl rfl
                rcases q_288c with q_288c | q_288c | q_288c
                · refine kx_if_eq 110 F 121 dX1_takeLetter_107 (by decide) rfl (by omega) (fun h_312 => (by exfalso; omega)) (fun h_312 => ?_)
                  refine kx_aload_n 111 F 0 dX1_takeLetter_110 rfl rfl rfl ?_
                  refine kx_Vi 114 (ci := 0) F (As := []) (st := []) vd_X1_120 (e_X1_standsSign G l N_287 c0 hI_N_287 hk_c0 Bt (TB.fr hB hI_M hk_c0 hF_N_287 rfl) (j + 2) (by omega) (by omega)) hk_c0 rfl rfl rfl ⟨by decide, by decide⟩ rfl rfl (Nat.le_of_ble_eq_true rfl) dX1_takeLetter_111 rfl ?_
                  intro r_313 N_314 q_315
                  obtain ⟨hI_N_314, hG_N_314, q_315c⟩ := q_315
                  have hF_N_314 : Fr f_e_X1_takeLetter M N_314 := Fr.c hF_N_287 hG_N_314 rfl
                  have hE_N_314 : Cf (Sm (M c0 0)) M N_314 := Cf.fr hE_N_287 hG_N_314 rfl
                  have hX_N_314 : XX N_314 := XX.fr hX_N_287 hI_N_287 hG_N_314 rfl
                  have h_316 := Inv.g hI_N_314 hk_c0 rfl 2 (a := (-2147483648)) (b := 2147483647) rfl rfl
                  have h_317 := Inv.g hI_N_314 hk_c0 rfl 3 (a := (-2147483648)) (b := 2147483647) rfl rfl
                  rcases q_315c with q_315c | q_315c
                  · refine kx_if_eq 117 F 121 dX1_takeLetter_114 (by decide) rfl (by omega) (fun h_320 => (by exfalso; omega)) (fun h_320 => ?_)
                    refine kx_iconst 118 F dX1_takeLetter_117 rfl ?_
                    refine kx_goto 122 F dX1_takeLetter_118 (by decide) ?_
                    have e_321 : (N_314 c0 0) = (M c0 0) := by rw [Fr.e hG_N_314 hk_c0 _ rfl, Fr.e hG_N_287 hk_c0 _ rfl, Fr.e hG_N_262 hk_c0 _ rfl, hM_N_246, mu_k hk_c0 hk_8 rfl, hM_N_245, mu_k hk_c0 hk_7 rfl, Fr.e hG_N_221 hk_c0 _ rfl, Fr.e hG_N_194 hk_c0 _ rfl]
                    have e_322 : (N_314 (M c0 0) 0) = (N_262 (M c0 0) 0) := by rw [Fr.e hG_N_314 hk_6 _ rfl, Fr.e hG_N_287 hk_6 _ rfl]
                    have e_323 : (N_314 (M c0 0) 1) = (N_262 (M c0 0) 1) := by rw [Fr.e hG_N_314 hk_6 _ rfl, Fr.e hG_N_287 hk_6 _ rfl]
                    have e_324 : (N_314 (M c0 0) 2) = (N_262 (M c0 0) 2) := by rw [Fr.e hG_N_314 hk_6 _ rfl, Fr.e hG_N_287 hk_6 _ rfl]
                    have e_325 : (N_314 (M c0 0) 3) = (M (M c0 0) 3) := by rw [Fr.e hG_N_314 hk_6 _ rfl, Fr.e hG_N_287 hk_6 _ rfl, Fr.e hG_N_262 hk_6 _ rfl, hM_N_246, mu_k hk_6 hk_8 rfl, hM_N_245, mu_k hk_6 hk_7 rfl, Fr.e hG_N_221 hk_6 _ rfl, Fr.e hG_N_194 hk_6 _ rfl]
                    have e_326 : (N_314 c0 6) = (N_287 c0 6) := by rw [Fr.e hG_N_314 hk_c0 _ rfl]
                    have e_327 : (N_314 c0 7) = (N_287 c0 7) := by rw [Fr.e hG_N_314 hk_c0 _ rfl]
                    have e_328 : (N_314 c0 8) = (N_287 c0 8) := by rw [Fr.e hG_N_314 hk_c0 _ rfl]
                    exact kx_zret F hQ (by omega) ⟨hI_N_314, hF_N_314, (by omega), hX_N_314, hE_N_314, ⟨(Or.inr ⟨(Or.inr (Or.inr (Or.inr (Or.inr (Or.inr ((by omega))))))), (Or.inr (Or.inr (Or.inr ((by omega)))))⟩), (fun _ => ⟨⟨by omega, by omega, by omega, by omega, by omega⟩, CQ.up (a := a1) hq (by omega) (by rw [Fr.e hG_N_314 hk_c0 _ rfl, Fr.e hG_N_287 hk_c0 _ rfl, Fr.e hG_N_262 hk_c0 _ rfl, hM_N_246, mu_k hk_c0 hk_8 rfl, hM_N_245, mu_k hk_c0 hk_7 rfl, Fr.e hG_N_221 hk_c0 _ rfl, Fr.e hG_N_194 hk_c0 _ rfl]) (by omega) (by omega), NU.up hN (by omega) (by omega) (by omega) (by rw [Fr.e hG_N_314 hk_c0 _ rfl, Fr.e hG_N_287 hk_c0 _ rfl, Fr.e hG_N_262 hk_c0 _ rfl, hM_N_246, mu_k hk_c0 hk_8 rfl, hM_N_245, mu_k hk_c0 hk_7 rfl, Fr.e hG_N_221 hk_c0 _ rfl, Fr.e hG_N_194 hk_c0 _ rfl]) (by rw [Fr.e hG_N_314 hk_c0 _ rfl, Fr.e hG_N_287 hk_c0 _ rfl, Fr.e hG_N_262 hk_c0 _ rfl, hM_N_246, mu_k hk_c0 hk_8 rfl, hM_N_245, mu_k hk_c0 hk_7 rfl, Fr.e hG_N_221 hk_c0 _ rfl, Fr.e hG_N_194 hk_c0 _ rfl]) (UP.fr (UP.fr (UP.fr (UP.ot (UP.of (fun j => by rw [Fr.e hG_N_221 hk_7 _ rfl, Fr.e hG_N_194 hk_7 _ rfl]) hM_N_245) hM_N_246 hk_7 hk_8 rfl) hG_N_262 hk_7 rfl) hG_N_287 hk_7 rfl) hG_N_314 hk_7 rfl) (UP.fr (UP.fr (UP.fr (UP.of (fun j => by rw [hM_N_245, mu_k hk_8 hk_7 rfl, Fr.e hG_N_221 hk_8 _ rfl, Fr.e hG_N_194 hk_8 _ rfl]) hM_N_246) hG_N_262 hk_8 rfl) hG_N_287 hk_8 rfl) hG_N_314 hk_8 rfl) (by omega) (by omega) (nm_t (by omega) (by omega)), CA.nil (by rw [upk_o (by omega)]; omega)⟩)⟩⟩ dX1_takeLetter_122
                  · refine kx_if_eq 117 F 121 dX1_takeLetter_114 (by decide) rfl (by omega) (fun h_329 => ?_) (fun h_329 => (by exfalso; omega))
                    refine kx_iconst 122 F dX1_takeLetter_121 rfl ?_
                    exact kx_zret F hQ (by omega) ⟨hI_N_314, hF_N_314, (by omega), hX_N_314, hE_N_314, ⟨(Or.inr ⟨(Or.inr (Or.inr (Or.inr (Or.inr (Or.inr ((by omega))))))), (Or.inr (Or.inl (by omega)))⟩), (fun h => absurd h (by omega))⟩⟩ dX1_takeLetter_122
                · refine kx_if_eq 110 F 121 dX1_takeLetter_107 (by decide) rfl (by omega) (fun h_330 => (by exfalso; omega)) (fun h_330 => ?_)
                  refine kx_aload_n 111 F 0 dX1_takeLetter_110 rfl rfl rfl ?_
                  refine kx_Vi 114 (ci := 0) F (As := []) (st := []) vd_X1_120 (e_X1_standsSign G l N_287 c0 hI_N_287 hk_c0 Bt (TB.fr hB hI_M hk_c0 hF_N_287 rfl) (j + 2) (by omega) (by omega)) hk_c0 rfl rfl rfl ⟨by decide, by decide⟩ rfl rfl (Nat.le_of_ble_eq_true rfl) dX1_takeLetter_111 rfl ?_
                  intro r_331 N_332 q_333
                  obtain ⟨hI_N_332, hG_N_332, q_333c⟩ := q_333
                  have hF_N_332 : Fr f_e_X1_takeLetter M N_332 := Fr.c hF_N_287 hG_N_332 rfl
                  have hE_N_332 : Cf (Sm (M c0 0)) M N_332 := Cf.fr hE_N_287 hG_N_332 rfl
                  have hX_N_332 : XX N_332 := XX.fr hX_N_287 hI_N_287 hG_N_332 rfl
                  have h_334 := Inv.g hI_N_332 hk_c0 rfl 2 (a := (-2147483648)) (b := 2147483647) rfl rfl
                  have h_335 := Inv.g hI_N_332 hk_c0 rfl 3 (a := (-2147483648)) (b := 2147483647) rfl rfl
                  rcases q_333c with q_333c | q_333c
                  · exfalso; omega
                  · refine kx_if_eq 117 F 121 dX1_takeLetter_114 (by decide) rfl (by omega) (fun h_338 => ?_) (fun h_338 => (by exfalso; omega))
                    refine kx_iconst 122 F dX1_takeLetter_121 rfl ?_
                    exact kx_zret F hQ (by omega) ⟨hI_N_332, hF_N_332, (by omega), hX_N_332, hE_N_332, ⟨(Or.inr ⟨(Or.inr (Or.inr (Or.inr (Or.inr (Or.inr ((by omega))))))), (Or.inr (Or.inl (by omega)))⟩), (fun h => absurd h (by omega))⟩⟩ dX1_takeLetter_122
                · refine kx_if_eq 110 F 121 dX1_takeLetter_107 (by decide) rfl (by omega) (fun h_339 => ?_) (fun h_339 => (by exfalso; omega))
                  refine kx_iconst 122 F dX1_takeLetter_121 rfl ?_
                  exact kx_zret F hQ (by omega) ⟨hI_N_287, hF_N_287, (by omega), hX_N_287, hE_N_287, ⟨(Or.inr ⟨(Or.inr (Or.inr (Or.inr (Or.inr (Or.inr ((by omega))))))), (Or.inl (by omega))⟩), (fun h => absurd h (by omega))⟩⟩ dX1_takeLetter_122
              · exfalso; omega
            · refine kx_aload_n 62 F 0 dX1_takeLetter_61 rfl rfl rfl ?_
              refine kx_iconst 63 F dX1_takeLetter_62 rfl ?_
              refine kx_Vi 66 (ci := 0) F (As := [vI 3]) (st := []) vd_X1_89 (e_X1_fail G l N_221 c0 3 hI_N_221 hk_c0 (by omega)) hk_c0 rfl rfl rfl ⟨by decide, by decide⟩ rfl rfl (Nat.le_of_ble_eq_true rfl) dX1_takeLetter_63 rfl ?_
              intro r_340 N_341 q_342
              obtain ⟨hI_N_341, hG_N_341, q_342c⟩ := q_342
              have hF_N_341 : Fr f_e_X1_takeLetter M N_341 := Fr.c hF_N_221 hG_N_341 rfl
              have hE_N_341 : Cf (Sm (M c0 0)) M N_341 := Cf.fr hE_N_221 hG_N_341 rfl
              have hX_N_341 : XX N_341 := XX.fr hX_N_221 hI_N_221 hG_N_341 rfl
              have h_343 := Inv.g hI_N_341 hk_c0 rfl 2 (a := (-2147483648)) (b := 2147483647) rfl rfl
              have h_345 := Inv.g hI_N_341 hk_c0 rfl 3 (a := (-2147483648)) (b := 2147483647) rfl rfl
              exact kx_zret F hQ (by omega) ⟨hI_N_341, hF_N_341, (by omega), hX_N_341, hE_N_341, ⟨(Or.inl ⟨by omega, (Or.inr (Or.inr (Or.inr (Or.inr (Or.inl (by omega))))))⟩), (fun h => absurd h (by omega))⟩⟩ dX1_takeLetter_66
          · refine kx_if_ne 51 F 53 dX1_takeLetter_48 (by decide) rfl (by omega) (fun h_346 => (by exfalso; omega)) (fun h_346 => ?_)
            refine kx_iconst 52 F dX1_takeLetter_51 rfl ?_
            exact kx_zret F hQ (by omega) ⟨hI_N_221, hF_N_221, (by omega), hX_N_221, hE_N_221, ⟨(Or.inl ⟨by omega, (Or.inr (Or.inr (Or.inr (Or.inl (by omega)))))⟩), (fun h => absurd h (by omega))⟩⟩ dX1_takeLetter_52
        · refine kx_if_eq 44 F 51 dX1_takeLetter_41 (by decide) rfl (by omega) (fun h_347 => (by exfalso; omega)) (fun h_347 => ?_)
          refine kx_aload_n 45 F 0 dX1_takeLetter_44 rfl rfl rfl ?_
          refine kx_Vi 48 (ci := 0) F (As := []) (st := []) vd_X1_109 (e_X1_standsName G l N_194 c0 hI_N_194 hk_c0 Bt (TB.fr hB hI_M hk_c0 hF_N_194 rfl) (j + 1) (by omega) (by omega)) hk_c0 rfl rfl rfl ⟨by decide, by decide⟩ rfl rfl (Nat.le_of_ble_eq_true rfl) dX1_takeLetter_45 rfl ?_
          intro r_348 N_349 q_350
          obtain ⟨hI_N_349, hG_N_349, q_350c⟩ := q_350
          have hF_N_349 : Fr f_e_X1_takeLetter M N_349 := Fr.c hF_N_194 hG_N_349 rfl
          have hE_N_349 : Cf (Sm (M c0 0)) M N_349 := Cf.fr hE_N_194 hG_N_349 rfl
          have hX_N_349 : XX N_349 := XX.fr hX_N_194 hI_N_194 hG_N_349 rfl
          have h_351 := Inv.g hI_N_349 hk_c0 rfl 2 (a := (-2147483648)) (b := 2147483647) rfl rfl
          have h_352 := Inv.g hI_N_349 hk_c0 rfl 3 (a := (-2147483648)) (b := 2147483647) rfl rfl
          rcases q_350c with q_350c | q_350c
          · exfalso; omega
          · refine kx_if_ne 51 F 53 dX1_takeLetter_48 (by decide) rfl (by omega) (fun h_355 => (by exfalso; omega)) (fun h_355 => ?_)
            refine kx_iconst 52 F dX1_takeLetter_51 rfl ?_
            exact kx_zret F hQ (by omega) ⟨hI_N_349, hF_N_349, (by omega), hX_N_349, hE_N_349, ⟨(Or.inl ⟨by omega, (Or.inr (Or.inr (Or.inr (Or.inl (by omega)))))⟩), (fun h => absurd h (by omega))⟩⟩ dX1_takeLetter_52
        · refine kx_if_eq 44 F 51 dX1_takeLetter_41 (by decide) rfl (by omega) (fun h_356 => ?_) (fun h_356 => (by exfalso; omega))
          refine kx_iconst 52 F dX1_takeLetter_51 rfl ?_
          exact kx_zret F hQ (by omega) ⟨hI_N_194, hF_N_194, (by omega), hX_N_194, hE_N_194, ⟨(Or.inl ⟨by omega, (Or.inr (Or.inr (Or.inl (by omega))))⟩), (fun h => absurd h (by omega))⟩⟩ dX1_takeLetter_52
      · refine kx_aload_n 31 F 0 dX1_takeLetter_30 rfl rfl rfl ?_
        refine kx_bipush 33 F dX1_takeLetter_31 (by decide) rfl ?_
        refine kx_Vi 36 (ci := 0) F (As := [vI 6]) (st := []) vd_X1_89 (e_X1_fail G l M c0 6 hI_M hk_c0 (by omega)) hk_c0 rfl rfl rfl ⟨by decide, by decide⟩ rfl rfl (Nat.le_of_ble_eq_true rfl) dX1_takeLetter_33 rfl ?_
        intro r_357 N_358 q_359
        obtain ⟨hI_N_358, hG_N_358, q_359c⟩ := q_359
        have hF_N_358 : Fr f_e_X1_takeLetter M N_358 := Fr.c hF_M hG_N_358 rfl
        have hE_N_358 : Cf (Sm (M c0 0)) M N_358 := Cf.fr hE_M hG_N_358 rfl
        have hX_N_358 : XX N_358 := XX.fr hX_M hI_M hG_N_358 rfl
        have h_360 := Inv.g hI_N_358 hk_c0 rfl 2 (a := (-2147483648)) (b := 2147483647) rfl rfl
        have h_361 := Inv.g hI_N_358 hk_c0 rfl 3 (a := (-2147483648)) (b := 2147483647) rfl rfl
        exact kx_zret F hQ (by omega) ⟨hI_N_358, hF_N_358, (by omega), hX_N_358, hE_N_358, ⟨(Or.inl ⟨by omega, (Or.inr (Or.inl (by omega)))⟩), (fun h => absurd h (by omega))⟩⟩ dX1_takeLetter_36
    · have hr_362 : r_11 = q a1 := by rw [show a1 = 2 by omega]; omega
      refine kx_istore_n 25 F 2 (lo' := [some (vR G c0), some (vI a1), some (vI r_11)]) dX1_takeLetter_24 rfl (by decide) rfl rfl rfl ?_
      refine kx_iload_n 26 F 2 dX1_takeLetter_25 rfl rfl rfl ?_
      refine kx_iconst 27 F dX1_takeLetter_26 rfl ?_
      refine kx_icmp_lt 30 F 37 dX1_takeLetter_27 (by decide) rfl (by omega) (by decide) (fun h_363 => ?_) (fun h_363 => ?_)
      · refine kx_aload_n 38 F 0 dX1_takeLetter_37 rfl rfl rfl ?_
        refine kx_Vi 41 (ci := 0) F (As := []) (st := []) vd_X1_57 (e_X1_advance G l M c0 hI_M hk_c0 (by omega) Bt hB (j + 1) j (by omega) (by omega) (by omega)) hk_c0 rfl rfl rfl ⟨by decide, by decide⟩ rfl rfl (Nat.le_of_ble_eq_true rfl) dX1_takeLetter_38 rfl ?_
        intro r_364 N_365 q_366
        obtain ⟨hI_N_365, hG_N_365, q_366c⟩ := q_366
        have hF_N_365 : Fr f_e_X1_takeLetter M N_365 := Fr.c hF_M hG_N_365 rfl
        have hE_N_365 : Cf (Sm (M c0 0)) M N_365 := Cf.fr hE_M hG_N_365 rfl
        have hX_N_365 : XX N_365 := XX.fr hX_M hI_M hG_N_365 rfl
        have ht_367 := tp_le (n := M c0 5) (TB.tx hB hI_M hk_c0) (Inv.g hI_M hk_c0 rfl 5 (a := 0) (b := 900) rfl rfl).1 (j := (j + 1)) (by omega)
        have ht_369 : 0 ≤ tk Bt (j + 1) ∧ tk Bt (j + 1) ≤ 4 := tk_b (n := M c0 5) (TB.tx hB hI_M hk_c0) (by omega)
        have h_370 := Inv.g hI_N_365 hk_c0 rfl 7 (a := 0) (b := 900) rfl rfl
        have h_371 := Inv.g hI_N_365 hk_c0 rfl 8 (a := 0) (b := 900) rfl rfl
        have h_372 := Inv.g hI_N_365 hk_c0 rfl 6 (a := 0) (b := 5) rfl rfl
        have h_373 := Inv.g hI_M hk_c0 rfl 2 (a := (-2147483648)) (b := 2147483647) rfl rfl
        have h_374 := Inv.g hI_N_365 hk_c0 rfl 2 (a := (-2147483648)) (b := 2147483647) rfl rfl
        have h_375 := Inv.g hI_M hk_c0 rfl 3 (a := (-2147483648)) (b := 2147483647) rfl rfl
        have h_376 := Inv.g hI_N_365 hk_c0 rfl 3 (a := (-2147483648)) (b := 2147483647) rfl rfl
        have h_380 := Inv.g hI_N_365 hk_c0 rfl 9 (a := (-2147483648)) (b := 2147483647) rfl rfl
        rcases q_366c with q_366c | q_366c | q_366c
        · refine kx_if_eq 44 F 51 dX1_takeLetter_41 (by decide) rfl (by omega) (fun h_390 => (by exfalso; omega)) (fun h_390 => ?_)
          refine kx_aload_n 45 F 0 dX1_takeLetter_44 rfl rfl rfl ?_
          refine kx_Vi 48 (ci := 0) F (As := []) (st := []) vd_X1_109 (e_X1_standsName G l N_365 c0 hI_N_365 hk_c0 Bt (TB.fr hB hI_M hk_c0 hF_N_365 rfl) (j + 1) (by omega) (by omega)) hk_c0 rfl rfl rfl ⟨by decide, by decide⟩ rfl rfl (Nat.le_of_ble_eq_true rfl) dX1_takeLetter_45 rfl ?_
          intro r_391 N_392 q_393
          obtain ⟨hI_N_392, hG_N_392, q_393c⟩ := q_393
          have hF_N_392 : Fr f_e_X1_takeLetter M N_392 := Fr.c hF_N_365 hG_N_392 rfl
          have hE_N_392 : Cf (Sm (M c0 0)) M N_392 := Cf.fr hE_N_365 hG_N_392 rfl
          have hX_N_392 : XX N_392 := XX.fr hX_N_365 hI_N_365 hG_N_392 rfl
          have h_394 := Inv.g hI_N_392 hk_c0 rfl 2 (a := (-2147483648)) (b := 2147483647) rfl rfl
          have h_395 := Inv.g hI_N_392 hk_c0 rfl 3 (a := (-2147483648)) (b := 2147483647) rfl rfl
          rcases q_393c with q_393c | q_393c
          · refine kx_if_ne 51 F 53 dX1_takeLetter_48 (by decide) rfl (by omega) (fun h_398 => ?_) (fun h_398 => (by exfalso; omega))
            refine kx_aload_n 54 F 0 dX1_takeLetter_53 rfl rfl rfl ?_
            have e_399 : (N_392 c0 6) = (N_365 c0 6) := by rw [Fr.e hG_N_392 hk_c0 _ rfl]
            have e_400 : (N_392 c0 7) = (N_365 c0 7) := by rw [Fr.e hG_N_392 hk_c0 _ rfl]
            have e_401 : (N_392 c0 8) = (N_365 c0 8) := by rw [Fr.e hG_N_392 hk_c0 _ rfl]
            have e_402 : (N_392 c0 0) = (M c0 0) := by rw [Fr.e hG_N_392 hk_c0 _ rfl, Fr.e hG_N_365 hk_c0 _ rfl]
            have e_403 : (N_392 (N_392 c0 0) 0) = (M (M c0 0) 0) := by rw [e_402, Fr.e hG_N_392 hk_6 _ rfl, Fr.e hG_N_365 hk_6 _ rfl]
            have e_405 : (N_392 c0 0) = (M c0 0) := by rw [Fr.e hG_N_392 hk_c0 _ rfl, Fr.e hG_N_365 hk_c0 _ rfl]
            have e_406 : (N_392 (N_392 c0 0) 1) = (M (M c0 0) 1) := by rw [e_405, Fr.e hG_N_392 hk_6 _ rfl, Fr.e hG_N_365 hk_6 _ rfl]
            have e_407 : (N_392 c0 0) = (M c0 0) := by rw [Fr.e hG_N_392 hk_c0 _ rfl, Fr.e hG_N_365 hk_c0 _ rfl]
            have e_408 : (N_392 (N_392 c0 0) 2) = (M (M c0 0) 2) := by rw [e_407, Fr.e hG_N_392 hk_6 _ rfl, Fr.e hG_N_365 hk_6 _ rfl]
            have e_409 : (N_392 c0 0) = (M c0 0) := by rw [Fr.e hG_N_392 hk_c0 _ rfl, Fr.e hG_N_365 hk_c0 _ rfl]
            have e_410 : (N_392 (N_392 c0 0) 3) = (M (M c0 0) 3) := by rw [e_409, Fr.e hG_N_392 hk_6 _ rfl, Fr.e hG_N_365 hk_6 _ rfl]
            refine kx_Vi 57 (ci := 0) F (As := []) (st := []) vd_X1_112 (e_X1_findName G l N_392 c0 hI_N_392 hk_c0 Bt (TB.fr hB hI_M hk_c0 hF_N_392 rfl) (j + 1) (by omega) (by omega) t q (NU.fr (NU.fr hN hI_M hk_c0 hG_N_365 rfl) hI_N_365 hk_c0 hG_N_392 rfl) (by omega)) hk_c0 rfl rfl rfl ⟨by decide, by decide⟩ rfl rfl (Nat.le_of_ble_eq_true rfl) dX1_takeLetter_54 rfl ?_
            intro r_411 N_412 q_413
            obtain ⟨rfl, q_413c⟩ := q_413
            have hl_414 := lfn_b Bt t (q 0) (q 1) (q 2) (j + 1) (by omega) (by omega) (by omega)
            refine kx_iconst 58 F dX1_takeLetter_57 rfl ?_
            refine kx_icmp_eq 61 F 67 dX1_takeLetter_58 (by decide) rfl (by omega) (by decide) (fun h_415 => ?_) (fun h_415 => ?_)
            · refine kx_aload_n 68 F 0 dX1_takeLetter_67 rfl rfl rfl ?_
              refine kx_getr 71 F fl_X1_29 hk_c0 rfl rfl (j := 10) rfl dX1_takeLetter_68 (v := (M c0 10)) (by rw [Fr.e hG_N_392 hk_c0 _ rfl, Fr.e hG_N_365 hk_c0 _ rfl]) rfl ?_
              refine kx_iload_n 72 F 1 dX1_takeLetter_71 rfl rfl rfl ?_
              refine kx_iconst 73 F dX1_takeLetter_72 rfl ?_
              refine kx_imul 74 F (v := 2 * a1) dX1_takeLetter_73 (by omega) rfl ?_
              refine kx_iload_n 75 F 2 dX1_takeLetter_74 rfl rfl rfl ?_
              refine kx_iadd 76 F (v := 2 * a1 + r_11) dX1_takeLetter_75 rfl rfl ?_
              refine kx_aload_n 77 F 0 dX1_takeLetter_76 rfl rfl rfl ?_
              refine kx_geti 80 F fl_X1_51 hk_c0 rfl rfl (j := 7) rfl dX1_takeLetter_77 (v := (N_365 c0 7)) (by rw [Fr.e hG_N_392 hk_c0 _ rfl]) rfl ?_
              refine kx_iast 81 F hk_7 rfl rfl (by omega) (by decide) dX1_takeLetter_80 rfl ?_
              intro N_416 hM_N_416
              have hI_N_416 : Inv false N_416 := Inv.u hI_N_392 hM_N_416 hk_7 (a := 0) (b := 900) rfl rfl rfl (by omega)
              have hF_N_416 : Fr f_e_X1_takeLetter M N_416 := Fr.u hF_N_392 hM_N_416 hk_7 rfl
              have hX_N_416 : XX N_416 := XX.st hX_N_392 hI_N_392 hM_N_416 hk_7 rfl
              have hE_N_416 : Cf (Sm (M c0 0)) M N_416 := Cf.sk hE_N_392 hM_N_416 hk_7 rfl
              refine kx_aload_n 82 F 0 dX1_takeLetter_81 rfl rfl rfl ?_
              refine kx_getr 85 F fl_X1_33 hk_c0 rfl rfl (j := 11) rfl dX1_takeLetter_82 (v := (M c0 11)) (by rw [hM_N_416, mu_k hk_c0 hk_7 rfl, Fr.e hG_N_392 hk_c0 _ rfl, Fr.e hG_N_365 hk_c0 _ rfl]) rfl ?_
              refine kx_iload_n 86 F 1 dX1_takeLetter_85 rfl rfl rfl ?_
              refine kx_iconst 87 F dX1_takeLetter_86 rfl ?_
              refine kx_imul 88 F (v := 2 * a1) dX1_takeLetter_87 (by omega) rfl ?_
              refine kx_iload_n 89 F 2 dX1_takeLetter_88 rfl rfl rfl ?_
              refine kx_iadd 90 F (v := 2 * a1 + r_11) dX1_takeLetter_89 rfl rfl ?_
              refine kx_aload_n 91 F 0 dX1_takeLetter_90 rfl rfl rfl ?_
              refine kx_geti 94 F fl_X1_54 hk_c0 rfl rfl (j := 8) rfl dX1_takeLetter_91 (v := (N_365 c0 8)) (by rw [hM_N_416, mu_k hk_c0 hk_7 rfl, Fr.e hG_N_392 hk_c0 _ rfl]) rfl ?_
              refine kx_iast 95 F hk_8 rfl rfl (by omega) (by decide) dX1_takeLetter_94 rfl ?_
              intro N_417 hM_N_417
              have hI_N_417 : Inv false N_417 := Inv.u hI_N_416 hM_N_417 hk_8 (a := 0) (b := 900) rfl rfl rfl (by omega)
              have hF_N_417 : Fr f_e_X1_takeLetter M N_417 := Fr.u hF_N_416 hM_N_417 hk_8 rfl
              have hX_N_417 : XX N_417 := XX.st hX_N_416 hI_N_416 hM_N_417 hk_8 rfl
              have hE_N_417 : Cf (Sm (M c0 0)) M N_417 := Cf.sk hE_N_416 hM_N_417 hk_8 rfl
              refine kx_aload_n 96 F 0 dX1_takeLetter_95 rfl rfl rfl ?_
              refine kx_getr 99 F fl_X1_12 hk_c0 rfl rfl (j := 0) rfl dX1_takeLetter_96 (v := (M c0 0)) (by rw [hM_N_417, mu_k hk_c0 hk_8 rfl, hM_N_416, mu_k hk_c0 hk_7 rfl, Fr.e hG_N_392 hk_c0 _ rfl, Fr.e hG_N_365 hk_c0 _ rfl]) rfl ?_
              refine kx_iload_n 100 F 1 dX1_takeLetter_99 rfl rfl rfl ?_
              have e_418 : (N_417 (M c0 0) 0) = (M (M c0 0) 0) := by rw [hM_N_417, mu_k hk_6 hk_8 rfl, hM_N_416, mu_k hk_6 hk_7 rfl, Fr.e hG_N_392 hk_6 _ rfl, Fr.e hG_N_365 hk_6 _ rfl]
              have e_419 : (N_417 (M c0 0) 1) = (M (M c0 0) 1) := by rw [hM_N_417, mu_k hk_6 hk_8 rfl, hM_N_416, mu_k hk_6 hk_7 rfl, Fr.e hG_N_392 hk_6 _ rfl, Fr.e hG_N_365 hk_6 _ rfl]
              have e_420 : (N_417 (M c0 0) 2) = (M (M c0 0) 2) := by rw [hM_N_417, mu_k hk_6 hk_8 rfl, hM_N_416, mu_k hk_6 hk_7 rfl, Fr.e hG_N_392 hk_6 _ rfl, Fr.e hG_N_365 hk_6 _ rfl]
              refine kx_Vv 103 (ci := 0) F (As := [vI a1]) (st := []) vd_X1_116 (e_X5_addLetter G l N_417 (M c0 0) a1 hI_N_417 hk_6 (by omega) hX_N_417) hk_6 rfl rfl rfl ⟨by decide, by decide⟩ rfl rfl (Nat.le_of_ble_eq_true rfl) dX1_takeLetter_100 rfl ?_
              intro N_433 q_434
              obtain ⟨hI_N_433, hG_N_433, q_434c, hX_N_433, hC_N_433⟩ := q_434
              have hF_N_433 : Fr f_e_X1_takeLetter M N_433 := Fr.c hF_N_417 hG_N_433 rfl
              have hE_N_433 : Cf (Sm (M c0 0)) M N_433 := Cf.c hE_N_417 hC_N_433 (fun x hx => by have e : x = (M c0 0) := hx; exact ⟨by omega, by omega⟩)
              have h_436 := Inv.g hI_N_433 hk_6 rfl 0 (a := 0) (b := 2) rfl rfl
              have h_438 := Inv.g hI_N_433 hk_6 rfl 1 (a := 0) (b := 4) rfl rfl
              have h_440 := Inv.g hI_N_433 hk_6 rfl 2 (a := 0) (b := 6) rfl rfl
              rcases q_434c with q_434c | q_434c | q_434c
              · exfalso; omega
              · exfalso; omega
              · refine kx_aload_n 104 F 0 dX1_takeLetter_103 rfl rfl rfl ?_
                have e_453 : (N_433 c0 7) = (N_365 c0 7) := by rw [Fr.e hG_N_433 hk_c0 _ rfl, hM_N_417, mu_k hk_c0 hk_8 rfl, hM_N_416, mu_k hk_c0 hk_7 rfl, Fr.e hG_N_392 hk_c0 _ rfl]
                have e_454 : (N_433 c0 8) = (N_365 c0 8) := by rw [Fr.e hG_N_433 hk_c0 _ rfl, hM_N_417, mu_k hk_c0 hk_8 rfl, hM_N_416, mu_k hk_c0 hk_7 rfl, Fr.e hG_N_392 hk_c0 _ rfl]
                refine kx_Vi 107 (ci := 0) F (As := []) (st := []) vd_X1_57 (e_X1_advance G l N_433 c0 hI_N_433 hk_c0 (by omega) Bt (TB.fr hB hI_M hk_c0 hF_N_433 rfl) (j + 2) (j + 1) (by omega) (by omega) (by omega)) hk_c0 rfl rfl rfl ⟨by decide, by decide⟩ rfl rfl (Nat.le_of_ble_eq_true rfl) dX1_takeLetter_104 rfl ?_
                intro r_457 N_458 q_459
                obtain ⟨hI_N_458, hG_N_458, q_459c⟩ := q_459
                have hF_N_458 : Fr f_e_X1_takeLetter M N_458 := Fr.c hF_N_433 hG_N_458 rfl
                have hE_N_458 : Cf (Sm (M c0 0)) M N_458 := Cf.fr hE_N_433 hG_N_458 rfl
                have hX_N_458 : XX N_458 := XX.fr hX_N_433 hI_N_433 hG_N_458 rfl
                have ht_460 := tp_le (n := M c0 5) (TB.tx hB hI_M hk_c0) (Inv.g hI_M hk_c0 rfl 5 (a := 0) (b := 900) rfl rfl).1 (j := (j + 2)) (by omega)
                have ht_462 : 0 ≤ tk Bt (j + 2) ∧ tk Bt (j + 2) ≤ 4 := tk_b (n := M c0 5) (TB.tx hB hI_M hk_c0) (by omega)
                have h_463 := Inv.g hI_N_458 hk_c0 rfl 7 (a := 0) (b := 900) rfl rfl
                have h_464 := Inv.g hI_N_458 hk_c0 rfl 8 (a := 0) (b := 900) rfl rfl
                have h_465 := Inv.g hI_N_458 hk_c0 rfl 6 (a := 0) (b := 5) rfl rfl
                have e_466 : (N_433 c0 2) = (N_392 c0 2) := by rw [Fr.e hG_N_433 hk_c0 _ rfl, hM_N_417, mu_k hk_c0 hk_8 rfl, hM_N_416, mu_k hk_c0 hk_7 rfl]
                have h_467 := Inv.g hI_N_458 hk_c0 rfl 2 (a := (-2147483648)) (b := 2147483647) rfl rfl
                have e_468 : (N_433 c0 3) = (N_392 c0 3) := by rw [Fr.e hG_N_433 hk_c0 _ rfl, hM_N_417, mu_k hk_c0 hk_8 rfl, hM_N_416, mu_k hk_c0 hk_7 rfl]
                have h_469 := Inv.g hI_N_458 hk_c0 rfl 3 (a := (-2147483648)) (b := 2147483647) rfl rfl
                have h_473 := Inv.g hI_N_458 hk_c0 rfl 9 (a := (-2147483648)) (b := 2147483647) rfl rfl
                rcases q_459c with q_459c | q_459c | q_459c
                · refine kx_if_eq 110 F 121 dX1_takeLetter_107 (by decide) rfl (by omega) (fun h_483 => (by exfalso; omega)) (fun h_483 => ?_)
                  refine kx_aload_n 111 F 0 dX1_takeLetter_110 rfl rfl rfl ?_
                  refine kx_Vi 114 (ci := 0) F (As := []) (st := []) vd_X1_120 (e_X1_standsSign G l N_458 c0 hI_N_458 hk_c0 Bt (TB.fr hB hI_M hk_c0 hF_N_458 rfl) (j + 2) (by omega) (by omega)) hk_c0 rfl rfl rfl ⟨by decide, by decide⟩ rfl rfl (Nat.le_of_ble_eq_true rfl) dX1_takeLetter_111 rfl ?_
                  intro r_484 N_485 q_486
                  obtain ⟨hI_N_485, hG_N_485, q_486c⟩ := q_486
                  have hF_N_485 : Fr f_e_X1_takeLetter M N_485 := Fr.c hF_N_458 hG_N_485 rfl
                  have hE_N_485 : Cf (Sm (M c0 0)) M N_485 := Cf.fr hE_N_458 hG_N_485 rfl
                  have hX_N_485 : XX N_485 := XX.fr hX_N_458 hI_N_458 hG_N_485 rfl
                  have h_487 := Inv.g hI_N_485 hk_c0 rfl 2 (a := (-2147483648)) (b := 2147483647) rfl rfl
                  have h_488 := Inv.g hI_N_485 hk_c0 rfl 3 (a := (-2147483648)) (b := 2147483647) rfl rfl
                  rcases q_486c with q_486c | q_486c
                  · refine kx_if_eq 117 F 121 dX1_takeLetter_114 (by decide) rfl (by omega) (fun h_491 => (by exfalso; omega)) (fun h_491 => ?_)
                    refine kx_iconst 118 F dX1_takeLetter_117 rfl ?_
                    refine kx_goto 122 F dX1_takeLetter_118 (by decide) ?_
                    have e_492 : (N_485 c0 0) = (M c0 0) := by rw [Fr.e hG_N_485 hk_c0 _ rfl, Fr.e hG_N_458 hk_c0 _ rfl, Fr.e hG_N_433 hk_c0 _ rfl, hM_N_417, mu_k hk_c0 hk_8 rfl, hM_N_416, mu_k hk_c0 hk_7 rfl, Fr.e hG_N_392 hk_c0 _ rfl, Fr.e hG_N_365 hk_c0 _ rfl]
                    have e_493 : (N_485 (M c0 0) 0) = (N_433 (M c0 0) 0) := by rw [Fr.e hG_N_485 hk_6 _ rfl, Fr.e hG_N_458 hk_6 _ rfl]
                    have e_494 : (N_485 (M c0 0) 1) = (N_433 (M c0 0) 1) := by rw [Fr.e hG_N_485 hk_6 _ rfl, Fr.e hG_N_458 hk_6 _ rfl]
                    have e_495 : (N_485 (M c0 0) 2) = (N_433 (M c0 0) 2) := by rw [Fr.e hG_N_485 hk_6 _ rfl, Fr.e hG_N_458 hk_6 _ rfl]
                    have e_496 : (N_485 (M c0 0) 3) = (M (M c0 0) 3) := by rw [Fr.e hG_N_485 hk_6 _ rfl, Fr.e hG_N_458 hk_6 _ rfl, Fr.e hG_N_433 hk_6 _ rfl, hM_N_417, mu_k hk_6 hk_8 rfl, hM_N_416, mu_k hk_6 hk_7 rfl, Fr.e hG_N_392 hk_6 _ rfl, Fr.e hG_N_365 hk_6 _ rfl]
                    have e_497 : (N_485 c0 6) = (N_458 c0 6) := by rw [Fr.e hG_N_485 hk_c0 _ rfl]
                    have e_498 : (N_485 c0 7) = (N_458 c0 7) := by rw [Fr.e hG_N_485 hk_c0 _ rfl]
                    have e_499 : (N_485 c0 8) = (N_458 c0 8) := by rw [Fr.e hG_N_485 hk_c0 _ rfl]
                    exact kx_zret F hQ (by omega) ⟨hI_N_485, hF_N_485, (by omega), hX_N_485, hE_N_485, ⟨(Or.inr ⟨(Or.inr (Or.inr (Or.inr (Or.inr (Or.inr ((by omega))))))), (Or.inr (Or.inr (Or.inr ((by omega)))))⟩), (fun _ => ⟨⟨by omega, by omega, by omega, by omega, by omega⟩, CQ.up (a := a1) hq (by omega) (by rw [Fr.e hG_N_485 hk_c0 _ rfl, Fr.e hG_N_458 hk_c0 _ rfl, Fr.e hG_N_433 hk_c0 _ rfl, hM_N_417, mu_k hk_c0 hk_8 rfl, hM_N_416, mu_k hk_c0 hk_7 rfl, Fr.e hG_N_392 hk_c0 _ rfl, Fr.e hG_N_365 hk_c0 _ rfl]) (by omega) (by omega), NU.up hN (by omega) (by omega) (by omega) (by rw [Fr.e hG_N_485 hk_c0 _ rfl, Fr.e hG_N_458 hk_c0 _ rfl, Fr.e hG_N_433 hk_c0 _ rfl, hM_N_417, mu_k hk_c0 hk_8 rfl, hM_N_416, mu_k hk_c0 hk_7 rfl, Fr.e hG_N_392 hk_c0 _ rfl, Fr.e hG_N_365 hk_c0 _ rfl]) (by rw [Fr.e hG_N_485 hk_c0 _ rfl, Fr.e hG_N_458 hk_c0 _ rfl, Fr.e hG_N_433 hk_c0 _ rfl, hM_N_417, mu_k hk_c0 hk_8 rfl, hM_N_416, mu_k hk_c0 hk_7 rfl, Fr.e hG_N_392 hk_c0 _ rfl, Fr.e hG_N_365 hk_c0 _ rfl]) (UP.fr (UP.fr (UP.fr (UP.ot (UP.of (fun j => by rw [Fr.e hG_N_392 hk_7 _ rfl, Fr.e hG_N_365 hk_7 _ rfl]) hM_N_416) hM_N_417 hk_7 hk_8 rfl) hG_N_433 hk_7 rfl) hG_N_458 hk_7 rfl) hG_N_485 hk_7 rfl) (UP.fr (UP.fr (UP.fr (UP.of (fun j => by rw [hM_N_416, mu_k hk_8 hk_7 rfl, Fr.e hG_N_392 hk_8 _ rfl, Fr.e hG_N_365 hk_8 _ rfl]) hM_N_417) hG_N_433 hk_8 rfl) hG_N_458 hk_8 rfl) hG_N_485 hk_8 rfl) (by omega) (by omega) (nm_t (by omega) (by omega)), CA.nil (by rw [upk_o (by omega)]; omega)⟩)⟩⟩ dX1_takeLetter_122
                  · refine kx_if_eq 117 F 121 dX1_takeLetter_114 (by decide) rfl (by omega) (fun h_500 => ?_) (fun h_500 => (by exfalso; omega))
                    refine kx_iconst 122 F dX1_takeLetter_121 rfl ?_
                    exact kx_zret F hQ (by omega) ⟨hI_N_485, hF_N_485, (by omega), hX_N_485, hE_N_485, ⟨(Or.inr ⟨(Or.inr (Or.inr (Or.inr (Or.inr (Or.inr ((by omega))))))), (Or.inr (Or.inl (by omega)))⟩), (fun h => absurd h (by omega))⟩⟩ dX1_takeLetter_122
                · refine kx_if_eq 110 F 121 dX1_takeLetter_107 (by decide) rfl (by omega) (fun h_501 => (by exfalso; omega)) (fun h_501 => ?_)
                  refine kx_aload_n 111 F 0 dX1_takeLetter_110 rfl rfl rfl ?_
                  refine kx_Vi 114 (ci := 0) F (As := []) (st := []) vd_X1_120 (e_X1_standsSign G l N_458 c0 hI_N_458 hk_c0 Bt (TB.fr hB hI_M hk_c0 hF_N_458 rfl) (j + 2) (by omega) (by omega)) hk_c0 rfl rfl rfl ⟨by decide, by decide⟩ rfl rfl (Nat.le_of_ble_eq_true rfl) dX1_takeLetter_111 rfl ?_
                  intro r_502 N_503 q_504
                  obtain ⟨hI_N_503, hG_N_503, q_504c⟩ := q_504
                  have hF_N_503 : Fr f_e_X1_takeLetter M N_503 := Fr.c hF_N_458 hG_N_503 rfl
                  have hE_N_503 : Cf (Sm (M c0 0)) M N_503 := Cf.fr hE_N_458 hG_N_503 rfl
                  have hX_N_503 : XX N_503 := XX.fr hX_N_458 hI_N_458 hG_N_503 rfl
                  have h_505 := Inv.g hI_N_503 hk_c0 rfl 2 (a := (-2147483648)) (b := 2147483647) rfl rfl
                  have h_506 := Inv.g hI_N_503 hk_c0 rfl 3 (a := (-2147483648)) (b := 2147483647) rfl rfl
                  rcases q_504c with q_504c | q_504c
                  · exfalso; omega
                  · refine kx_if_eq 117 F 121 dX1_takeLetter_114 (by decide) rfl (by omega) (fun h_509 => ?_) (fun h_509 => (by exfalso; omega))
                    refine kx_iconst 122 F dX1_takeLetter_121 rfl ?_
                    exact kx_zret F hQ (by omega) ⟨hI_N_503, hF_N_503, (by omega), hX_N_503, hE_N_503, ⟨(Or.inr ⟨(Or.inr (Or.inr (Or.inr (Or.inr (Or.inr ((by omega))))))), (Or.inr (Or.inl (by omega)))⟩), (fun h => absurd h (by omega))⟩⟩ dX1_takeLetter_122
                · refine kx_if_eq 110 F 121 dX1_takeLetter_107 (by decide) rfl (by omega) (fun h_510 => ?_) (fun h_510 => (by exfalso; omega))
                  refine kx_iconst 122 F dX1_takeLetter_121 rfl ?_
                  exact kx_zret F hQ (by omega) ⟨hI_N_458, hF_N_458, (by omega), hX_N_458, hE_N_458, ⟨(Or.inr ⟨(Or.inr (Or.inr (Or.inr (Or.inr (Or.inr ((by omega))))))), (Or.inl (by omega))⟩), (fun h => absurd h (by omega))⟩⟩ dX1_takeLetter_122
            · refine kx_aload_n 62 F 0 dX1_takeLetter_61 rfl rfl rfl ?_
              refine kx_iconst 63 F dX1_takeLetter_62 rfl ?_
              refine kx_Vi 66 (ci := 0) F (As := [vI 3]) (st := []) vd_X1_89 (e_X1_fail G l N_392 c0 3 hI_N_392 hk_c0 (by omega)) hk_c0 rfl rfl rfl ⟨by decide, by decide⟩ rfl rfl (Nat.le_of_ble_eq_true rfl) dX1_takeLetter_63 rfl ?_
              intro r_511 N_512 q_513
              obtain ⟨hI_N_512, hG_N_512, q_513c⟩ := q_513
              have hF_N_512 : Fr f_e_X1_takeLetter M N_512 := Fr.c hF_N_392 hG_N_512 rfl
              have hE_N_512 : Cf (Sm (M c0 0)) M N_512 := Cf.fr hE_N_392 hG_N_512 rfl
              have hX_N_512 : XX N_512 := XX.fr hX_N_392 hI_N_392 hG_N_512 rfl
              have h_514 := Inv.g hI_N_512 hk_c0 rfl 2 (a := (-2147483648)) (b := 2147483647) rfl rfl
              have h_516 := Inv.g hI_N_512 hk_c0 rfl 3 (a := (-2147483648)) (b := 2147483647) rfl rfl
              exact kx_zret F hQ (by omega) ⟨hI_N_512, hF_N_512, (by omega), hX_N_512, hE_N_512, ⟨(Or.inl ⟨by omega, (Or.inr (Or.inr (Or.inr (Or.inr (Or.inl (by omega))))))⟩), (fun h => absurd h (by omega))⟩⟩ dX1_takeLetter_66
          · refine kx_if_ne 51 F 53 dX1_takeLetter_48 (by decide) rfl (by omega) (fun h_517 => (by exfalso; omega)) (fun h_517 => ?_)
            refine kx_iconst 52 F dX1_takeLetter_51 rfl ?_
            exact kx_zret F hQ (by omega) ⟨hI_N_392, hF_N_392, (by omega), hX_N_392, hE_N_392, ⟨(Or.inl ⟨by omega, (Or.inr (Or.inr (Or.inr (Or.inl (by omega)))))⟩), (fun h => absurd h (by omega))⟩⟩ dX1_takeLetter_52
        · refine kx_if_eq 44 F 51 dX1_takeLetter_41 (by decide) rfl (by omega) (fun h_518 => (by exfalso; omega)) (fun h_518 => ?_)
          refine kx_aload_n 45 F 0 dX1_takeLetter_44 rfl rfl rfl ?_
          refine kx_Vi 48 (ci := 0) F (As := []) (st := []) vd_X1_109 (e_X1_standsName G l N_365 c0 hI_N_365 hk_c0 Bt (TB.fr hB hI_M hk_c0 hF_N_365 rfl) (j + 1) (by omega) (by omega)) hk_c0 rfl rfl rfl ⟨by decide, by decide⟩ rfl rfl (Nat.le_of_ble_eq_true rfl) dX1_takeLetter_45 rfl ?_
          intro r_519 N_520 q_521
          obtain ⟨hI_N_520, hG_N_520, q_521c⟩ := q_521
          have hF_N_520 : Fr f_e_X1_takeLetter M N_520 := Fr.c hF_N_365 hG_N_520 rfl
          have hE_N_520 : Cf (Sm (M c0 0)) M N_520 := Cf.fr hE_N_365 hG_N_520 rfl
          have hX_N_520 : XX N_520 := XX.fr hX_N_365 hI_N_365 hG_N_520 rfl
          have h_522 := Inv.g hI_N_520 hk_c0 rfl 2 (a := (-2147483648)) (b := 2147483647) rfl rfl
          have h_523 := Inv.g hI_N_520 hk_c0 rfl 3 (a := (-2147483648)) (b := 2147483647) rfl rfl
          rcases q_521c with q_521c | q_521c
          · exfalso; omega
          · refine kx_if_ne 51 F 53 dX1_takeLetter_48 (by decide) rfl (by omega) (fun h_526 => (by exfalso; omega)) (fun h_526 => ?_)
            refine kx_iconst 52 F dX1_takeLetter_51 rfl ?_
            exact kx_zret F hQ (by omega) ⟨hI_N_520, hF_N_520, (by omega), hX_N_520, hE_N_520, ⟨(Or.inl ⟨by omega, (Or.inr (Or.inr (Or.inr (Or.inl (by omega)))))⟩), (fun h => absurd h (by omega))⟩⟩ dX1_takeLetter_52
        · refine kx_if_eq 44 F 51 dX1_takeLetter_41 (by decide) rfl (by omega) (fun h_527 => ?_) (fun h_527 => (by exfalso; omega))
          refine kx_iconst 52 F dX1_takeLetter_51 rfl ?_
          exact kx_zret F hQ (by omega) ⟨hI_N_365, hF_N_365, (by omega), hX_N_365, hE_N_365, ⟨(Or.inl ⟨by omega, (Or.inr (Or.inr (Or.inl (by omega))))⟩), (fun h => absurd h (by omega))⟩⟩ dX1_takeLetter_52
      · refine kx_aload_n 31 F 0 dX1_takeLetter_30 rfl rfl rfl ?_
        refine kx_bipush 33 F dX1_takeLetter_31 (by decide) rfl ?_
        refine kx_Vi 36 (ci := 0) F (As := [vI 6]) (st := []) vd_X1_89 (e_X1_fail G l M c0 6 hI_M hk_c0 (by omega)) hk_c0 rfl rfl rfl ⟨by decide, by decide⟩ rfl rfl (Nat.le_of_ble_eq_true rfl) dX1_takeLetter_33 rfl ?_
        intro r_528 N_529 q_530
        obtain ⟨hI_N_529, hG_N_529, q_530c⟩ := q_530
        have hF_N_529 : Fr f_e_X1_takeLetter M N_529 := Fr.c hF_M hG_N_529 rfl
        have hE_N_529 : Cf (Sm (M c0 0)) M N_529 := Cf.fr hE_M hG_N_529 rfl
        have hX_N_529 : XX N_529 := XX.fr hX_M hI_M hG_N_529 rfl
        have h_531 := Inv.g hI_N_529 hk_c0 rfl 2 (a := (-2147483648)) (b := 2147483647) rfl rfl
        have h_532 := Inv.g hI_N_529 hk_c0 rfl 3 (a := (-2147483648)) (b := 2147483647) rfl rfl
        exact kx_zret F hQ (by omega) ⟨hI_N_529, hF_N_529, (by omega), hX_N_529, hE_N_529, ⟨(Or.inl ⟨by omega, (Or.inr (Or.inl (by omega)))⟩), (fun h => absurd h (by omega))⟩⟩ dX1_takeLetter_36
  · refine kx_aload_n 11 F 0 dX1_takeLetter_10 rfl rfl rfl ?_
    refine kx_iconst 12 F dX1_takeLetter_11 rfl ?_
    refine kx_Vi 15 (ci := 0) F (As := [vI 5]) (st := []) vd_X1_89 (e_X1_fail G l M c0 5 hI_M hk_c0 (by omega)) hk_c0 rfl rfl rfl ⟨by decide, by decide⟩ rfl rfl (Nat.le_of_ble_eq_true rfl) dX1_takeLetter_12 rfl ?_
    intro r_533 N_534 q_535
    obtain ⟨hI_N_534, hG_N_534, q_535c⟩ := q_535
    have hF_N_534 : Fr f_e_X1_takeLetter M N_534 := Fr.c hF_M hG_N_534 rfl
    have hE_N_534 : Cf (Sm (M c0 0)) M N_534 := Cf.fr hE_M hG_N_534 rfl
    have hX_N_534 : XX N_534 := XX.fr hX_M hI_M hG_N_534 rfl
    have h_536 := Inv.g hI_N_534 hk_c0 rfl 2 (a := (-2147483648)) (b := 2147483647) rfl rfl
    have h_537 := Inv.g hI_N_534 hk_c0 rfl 3 (a := (-2147483648)) (b := 2147483647) rfl rfl
    exact kx_zret F hQ (by omega) ⟨hI_N_534, hF_N_534, (by omega), hX_N_534, hE_N_534, ⟨(Or.inl ⟨by omega, (Or.inl (by omega))⟩), (fun h => absurd h (by omega))⟩⟩ dX1_takeLetter_15
