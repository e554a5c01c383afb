set_option maxHeartbeats 4000000 in
set_option maxRecDepth 100000 in
theorem e_X5_hasLetter (G : KG) (l : Launch) (M : Mem) (c0 : Int) (a1 : Int) (hI_M : Inv false M) (hk_c0 : kd c0 = 12) (hpre : -2147483648 ≤ a1 ∧ a1 ≤ 2147483647) : KC false G l yX5_hasLetter cX5_hasLetter 2 (some .boolean) (0, 0) [vR G c0, vI a1] M (fun A => kQi false G A (fun (r : Int) (N : Mem) => M = N ∧ ((r = 1 ∧ 0 ≤ a1 ∧ a1 < (M c0 2)) ∨ (r = 0 ∧ a1 < 0) ∨ (r = 0 ∧ a1 ≥ (M c0 2))))) := by
  refine kx_met (lo := [some (vR G c0), some (vI a1)]) (by decide) (Nat.le_of_ble_eq_true rfl) rfl ?_
  intro X F hQ
  refine kx_iload_n 1 F 1 dX5_hasLetter_0 rfl rfl rfl ?_
  refine kx_if_lt 4 F 16 dX5_hasLetter_1 (by decide) rfl (by omega) (fun h_1 => ?_) (fun h_1 => ?_)
  · refine kx_iconst 17 F dX5_hasLetter_16 rfl ?_
    have h_2 := Inv.g hI_M hk_c0 rfl 2 (a := 0) (b := 6) rfl rfl
    exact kx_zret F hQ (by omega) ⟨rfl, (Or.inr (Or.inl (by omega)))⟩ dX5_hasLetter_17
  · refine kx_iload_n 5 F 1 dX5_hasLetter_4 rfl rfl rfl ?_
    refine kx_aload_n 6 F 0 dX5_hasLetter_5 rfl rfl rfl ?_
    refine kx_geti 9 F fl_X5_35 hk_c0 rfl rfl (j := 2) rfl dX5_hasLetter_6 (v := (M c0 2)) rfl rfl ?_
    have h_3 := Inv.g hI_M hk_c0 rfl 2 (a := 0) (b := 6) rfl rfl
    refine kx_icmp_ge 12 F 16 dX5_hasLetter_9 (by decide) rfl (by omega) (by omega) (fun h_4 => ?_) (fun h_4 => ?_)
    · refine kx_iconst 17 F dX5_hasLetter_16 rfl ?_
      exact kx_zret F hQ (by omega) ⟨rfl, (Or.inr (Or.inr (by omega)))⟩ dX5_hasLetter_17
    · refine kx_iconst 13 F dX5_hasLetter_12 rfl ?_
      refine kx_goto 17 F dX5_hasLetter_13 (by decide) ?_
      exact kx_zret F hQ (by omega) ⟨rfl, (Or.inl (by omega))⟩ dX5_hasLetter_17
set_option maxHeartbeats 4000000 in
set_option maxRecDepth 100000 in
theorem e_X5_sortOf (G : KG) (l : Launch) (M : Mem) (c0 : Int) (a1 : Int) (hI_M : Inv false M) (hk_c0 : kd c0 = 12) (hpre : -2147483648 ≤ a1 ∧ a1 ≤ 2147483647) : KC false G l yX5_sortOf cX5_sortOf 2 (some .int) (1, 21) [vR G c0, vI a1] M (fun A => kQi false G A (fun (r : Int) (N : Mem) => M = N ∧ ((r = -1 ∧ a1 < 0) ∨ (r = -1 ∧ a1 ≥ (M c0 2)) ∨ (r = 0 ∧ 0 ≤ a1 ∧ a1 < (M c0 0) ∧ a1 < (M c0 2)) ∨ (r = 1 ∧ 0 ≤ a1 ∧ a1 ≥ (M c0 0) ∧ a1 < (M c0 1) ∧ a1 < (M c0 2)) ∨ (r = 2 ∧ 0 ≤ a1 ∧ a1 ≥ (M c0 0) ∧ a1 ≥ (M c0 1) ∧ a1 < (M c0 2))))) := by
  refine kx_met (lo := [some (vR G c0), some (vI a1)]) (by decide) (Nat.le_of_ble_eq_true rfl) rfl ?_
  intro X F hQ
  refine kx_aload_n 1 F 0 dX5_sortOf_0 rfl rfl rfl ?_
  refine kx_iload_n 2 F 1 dX5_sortOf_1 rfl rfl rfl ?_
  refine kx_Vi 5 (ci := 0) F (As := [vI a1]) (st := []) vd_X5_51 (e_X5_hasLetter G l M c0 a1 hI_M hk_c0 (by omega)) hk_c0 rfl rfl rfl ⟨by decide, by decide⟩ rfl rfl (Nat.le_of_ble_eq_true rfl) dX5_sortOf_2 rfl ?_
  intro r_1 N_2 q_3
  obtain ⟨rfl, q_3c⟩ := q_3
  have h_4 := Inv.g hI_M hk_c0 rfl 2 (a := 0) (b := 6) rfl rfl
  rcases q_3c with q_3c | q_3c | q_3c
  · refine kx_if_ne 8 F 10 dX5_sortOf_5 (by decide) rfl (by omega) (fun h_6 => ?_) (fun h_6 => (by exfalso; omega))
    refine kx_iload_n 11 F 1 dX5_sortOf_10 rfl rfl rfl ?_
    refine kx_aload_n 12 F 0 dX5_sortOf_11 rfl rfl rfl ?_
    refine kx_geti 15 F fl_X5_28 hk_c0 rfl rfl (j := 0) rfl dX5_sortOf_12 (v := (M c0 0)) rfl rfl ?_
    have h_7 := Inv.g hI_M hk_c0 rfl 0 (a := 0) (b := 2) rfl rfl
    refine kx_icmp_ge 18 F 20 dX5_sortOf_15 (by decide) rfl (by omega) (by omega) (fun h_8 => ?_) (fun h_8 => ?_)
    · refine kx_iload_n 21 F 1 dX5_sortOf_20 rfl rfl rfl ?_
      refine kx_aload_n 22 F 0 dX5_sortOf_21 rfl rfl rfl ?_
      refine kx_geti 25 F fl_X5_32 hk_c0 rfl rfl (j := 1) rfl dX5_sortOf_22 (v := (M c0 1)) rfl rfl ?_
      have h_9 := Inv.g hI_M hk_c0 rfl 1 (a := 0) (b := 4) rfl rfl
      refine kx_icmp_ge 28 F 32 dX5_sortOf_25 (by decide) rfl (by omega) (by omega) (fun h_10 => ?_) (fun h_10 => ?_)
      · refine kx_iconst 33 F dX5_sortOf_32 rfl ?_
        exact kx_iret F hQ ⟨rfl, (Or.inr (Or.inr (Or.inr (Or.inr (by omega)))))⟩ dX5_sortOf_33
      · refine kx_iconst 29 F dX5_sortOf_28 rfl ?_
        refine kx_goto 33 F dX5_sortOf_29 (by decide) ?_
        exact kx_iret F hQ ⟨rfl, (Or.inr (Or.inr (Or.inr (Or.inl (by omega)))))⟩ dX5_sortOf_33
    · refine kx_iconst 19 F dX5_sortOf_18 rfl ?_
      have h_11 := Inv.g hI_M hk_c0 rfl 1 (a := 0) (b := 4) rfl rfl
      exact kx_iret F hQ ⟨rfl, (Or.inr (Or.inr (Or.inl (by omega))))⟩ dX5_sortOf_19
  · refine kx_if_ne 8 F 10 dX5_sortOf_5 (by decide) rfl (by omega) (fun h_12 => (by exfalso; omega)) (fun h_12 => ?_)
    refine kx_iconst 9 F dX5_sortOf_8 rfl ?_
    have h_14 := Inv.g hI_M hk_c0 rfl 0 (a := 0) (b := 2) rfl rfl
    have h_15 := Inv.g hI_M hk_c0 rfl 1 (a := 0) (b := 4) rfl rfl
    exact kx_iret F hQ ⟨rfl, (Or.inl (by omega))⟩ dX5_sortOf_9
  · refine kx_if_ne 8 F 10 dX5_sortOf_5 (by decide) rfl (by omega) (fun h_16 => (by exfalso; omega)) (fun h_16 => ?_)
    refine kx_iconst 9 F dX5_sortOf_8 rfl ?_
    have h_17 := Inv.g hI_M hk_c0 rfl 0 (a := 0) (b := 2) rfl rfl
    have h_18 := Inv.g hI_M hk_c0 rfl 1 (a := 0) (b := 4) rfl rfl
    exact kx_iret F hQ ⟨rfl, (Or.inr (Or.inl (by omega)))⟩ dX5_sortOf_9
abbrev f_e_X1_takeSymbol : List (Nat × Int) := [(17, 2), (17, 3), (17, 6), (17, 7), (17, 8), (17, 9)]
set_option maxHeartbeats 4000000 in
set_option maxRecDepth 100000 in
theorem e_X1_takeSymbol (G : KG) (l : Launch) (M : Mem) (c0 : Int) (a1 : Int) (hI_M : Inv false M) (hk_c0 : kd c0 = 17) (hpre : -2147483648 ≤ a1 ∧ a1 ≤ 2147483647 ∧ (M c0 7) + (M c0 8) ≤ 900 ∧ 0 ≤ a1 ∧ a1 ≤ 2) (Bt : Int → Int) (hB : TB M c0 Bt) (j : Int) (hj : 0 ≤ j) (hs : M c0 6 = tk Bt j ∧ M c0 7 = tp Bt j ∧ M c0 7 + M c0 8 = tq Bt j) (x sg : Int) (hkx : kd x = 1) (hlx : (M (M c0 0) 3 = 1 ∧ x = M (M c0 0) 4) ∨ (M (M c0 0) 3 ≠ 1 ∧ x = M (M c0 0) 5)) (hG : M x 1 = sg) (ht0 : tbd Bt j = 0) (j1 j2 : Int) (h1 : j1 = j + 1) (h2 : j2 = j + 2) : KC false G l yX1_takeSymbol cX1_takeSymbol 4 (some .boolean) (6, 128) [vR G c0, vI a1] M (fun A => kQi false G A (fun (r : Int) (N : Mem) => Inv false N ∧ Fr f_e_X1_takeSymbol M N ∧ ((r = 1 ∧ a1 = 2 ∧ (N c0 9) = -1 ∧ (N c0 6) = (tk Bt j) ∧ (N c0 7) = (tp Bt j) ∧ (N c0 7) + (N c0 8) = (tq Bt j) ∧ (N c0 2) = (M c0 2) ∧ (N c0 3) = (M c0 3)) ∨ (r = 0 ∧ (N c0 2) = 2 ∧ (N c0 3) = (tp Bt j) ∧ a1 = 0 ∧ (kwd Bt j) ≠ 8) ∨ (r = 0 ∧ (N c0 2) = 1 ∧ (N c0 3) = (tp Bt j1) ∧ a1 = 0 ∧ (kwd Bt j) = 8 ∧ (tbd Bt j1) = 1) ∨ (r = 0 ∧ (N c0 2) = 2 ∧ (N c0 3) = (tp Bt j1) ∧ a1 = 0 ∧ (kwd Bt j) = 8 ∧ (tbd Bt j1) = 0 ∧ (tk Bt j1) ≠ 2) ∨ (r = 0 ∧ (N c0 2) = 4 ∧ (N c0 3) = (tp Bt j1) ∧ a1 = 0 ∧ (kwd Bt j) = 8 ∧ (tbd Bt j1) = 0 ∧ (tk Bt j1) = 2 ∧ (tv Bt j1) ≥ sg) ∨ (r = 0 ∧ (N c0 2) = 1 ∧ (N c0 3) = (tp Bt j2) ∧ a1 = 0 ∧ (kwd Bt j) = 8 ∧ (tbd Bt j1) = 0 ∧ (tk Bt j1) = 2 ∧ (tv Bt j1) ≤ sg - 1 ∧ (tv Bt j1) ≥ 0 ∧ (tbd Bt j2) = 1 ∧ (N c0 9) = (tv Bt j1)) ∨ (r = 1 ∧ a1 = 0 ∧ (kwd Bt j) = 8 ∧ (tbd Bt j1) = 0 ∧ (tk Bt j1) = 2 ∧ (tv Bt j1) ≤ sg - 1 ∧ (tv Bt j1) ≥ 0 ∧ (tbd Bt j2) = 0 ∧ (N c0 9) = (tv Bt j1) ∧ (N c0 6) = (tk Bt j2) ∧ (N c0 7) = (tp Bt j2) ∧ (N c0 7) + (N c0 8) = (tq Bt j2) ∧ (N c0 2) = (M c0 2) ∧ (N c0 3) = (M c0 3)) ∨ (r = 0 ∧ (N c0 2) = 2 ∧ (N c0 3) = (tp Bt j) ∧ a1 = 1 ∧ (kwd Bt j) ≠ 10 ∧ (kwd Bt j) ≠ 9) ∨ (r = 0 ∧ (N c0 2) = 1 ∧ (N c0 3) = (tp Bt j1) ∧ a1 = 1 ∧ (kwd Bt j) = 9 ∧ (tbd Bt j1) = 1) ∨ (r = 0 ∧ (N c0 2) = 2 ∧ (N c0 3) = (tp Bt j1) ∧ a1 = 1 ∧ (kwd Bt j) = 9 ∧ (tbd Bt j1) = 0 ∧ (tk Bt j1) ≠ 2) ∨ (r = 0 ∧ (N c0 2) = 4 ∧ (N c0 3) = (tp Bt j1) ∧ a1 = 1 ∧ (kwd Bt j) = 9 ∧ (tbd Bt j1) = 0 ∧ (tk Bt j1) = 2 ∧ (tv Bt j1) ≥ sg) ∨ (r = 0 ∧ (N c0 2) = 1 ∧ (N c0 3) = (tp Bt j2) ∧ a1 = 1 ∧ (kwd Bt j) = 9 ∧ (tbd Bt j1) = 0 ∧ (tk Bt j1) = 2 ∧ (tv Bt j1) ≤ sg - 1 ∧ (tv Bt j1) ≥ 0 ∧ (tbd Bt j2) = 1 ∧ (N c0 9) = (tv Bt j1)) ∨ (r = 1 ∧ a1 = 1 ∧ (kwd Bt j) = 9 ∧ (tbd Bt j1) = 0 ∧ (tk Bt j1) = 2 ∧ (tv Bt j1) ≤ sg - 1 ∧ (tv Bt j1) ≥ 0 ∧ (tbd Bt j2) = 0 ∧ (N c0 9) = (tv Bt j1) ∧ (N c0 6) = (tk Bt j2) ∧ (N c0 7) = (tp Bt j2) ∧ (N c0 7) + (N c0 8) = (tq Bt j2) ∧ (N c0 2) = (M c0 2) ∧ (N c0 3) = (M c0 3)) ∨ (r = 0 ∧ (N c0 2) = 1 ∧ (N c0 3) = (tp Bt j1) ∧ a1 = 1 ∧ (kwd Bt j) = 10 ∧ (tbd Bt j1) = 1) ∨ (r = 1 ∧ a1 = 1 ∧ (kwd Bt j) = 10 ∧ (tbd Bt j1) = 0 ∧ (N c0 9) = -1 ∧ (N c0 6) = (tk Bt j1) ∧ (N c0 7) = (tp Bt j1) ∧ (N c0 7) + (N c0 8) = (tq Bt j1) ∧ (N c0 2) = (M c0 2) ∧ (N c0 3) = (M c0 3))))) := by
  refine kx_met (lo := [some (vR G c0), some (vI a1), none, none]) (by decide) (Nat.le_of_ble_eq_true rfl) rfl ?_
  intro X F hQ
  have hF_M : Fr f_e_X1_takeSymbol M M := Fr.rf _ _
  have h_1 := Inv.g hI_M hk_c0 rfl 7 (a := 0) (b := 900) rfl rfl
  have h_2 := Inv.g hI_M hk_c0 rfl 8 (a := 0) (b := 900) rfl rfl
  subst h1
  subst h2
  have ht_3 := tp_le (n := M c0 5) (TB.tx hB hI_M hk_c0) (Inv.g hI_M hk_c0 rfl 5 (a := 0) (b := 900) rfl rfl).1 (j := j) (by omega)
  have h_4 := Inv.g hI_M hk_c0 rfl 5 (a := 0) (b := 900) rfl rfl
  have ht_5 : 0 ≤ tk Bt j ∧ tk Bt j ≤ 4 := tk_b (n := M c0 5) (TB.tx hB hI_M hk_c0) (by omega)
  have hk_6 : kd (M c0 0) = 12 := Inv.r hI_M hk_c0 rfl 0 rfl rfl
  have hk_7 : kd (M c0 10) = 19 := Inv.r hI_M hk_c0 rfl 10 rfl rfl
  have hk_8 : kd (M c0 11) = 20 := Inv.r hI_M hk_c0 rfl 11 rfl rfl
  have hd_9 := kwd_r Bt j
  refine kx_iload_n 1 F 1 dX1_takeSymbol_0 rfl rfl rfl ?_
  refine kx_iconst 2 F dX1_takeSymbol_1 rfl ?_
  refine kx_icmp_ne 5 F 12 dX1_takeSymbol_2 (by decide) rfl (by omega) (by decide) (fun h_10 => ?_) (fun h_10 => ?_)
  · refine kx_iconst 13 F dX1_takeSymbol_12 rfl ?_
    refine kx_istore_n 14 F 2 (lo' := [some (vR G c0), some (vI a1), some (vI (-1)), none]) dX1_takeSymbol_13 rfl (by decide) rfl rfl rfl ?_
    refine kx_iload_n 15 F 1 dX1_takeSymbol_14 rfl rfl rfl ?_
    refine kx_if_eq 18 F 27 dX1_takeSymbol_15 (by decide) rfl (by omega) (fun h_11 => ?_) (fun h_11 => ?_)
    · refine kx_aload_n 28 F 0 dX1_takeSymbol_27 rfl rfl rfl ?_
      refine kx_iload_n 29 F 1 dX1_takeSymbol_28 rfl rfl rfl ?_
      refine kx_if_ne 32 F 37 dX1_takeSymbol_29 (by decide) rfl (by omega) (fun h_12 => (by exfalso; omega)) (fun h_12 => ?_)
      refine kx_ldcS 34 F 8 (by decide) rfl rfl dX1_takeSymbol_32 rfl ?_
      refine kx_goto 39 F dX1_takeSymbol_34 (by decide) ?_
      have h_13 := Inv.g hI_M hk_c0 rfl 6 (a := 0) (b := 5) rfl rfl
      refine kx_Vi 42 (ci := 0) F (As := [vT G 8]) (st := []) vd_X1_132 (e_X1_standsWord G l M c0 8 hI_M hk_c0 (by omega) Bt hB j (by omega) (by omega)) hk_c0 rfl rfl rfl ⟨by decide, by decide⟩ rfl rfl (Nat.le_of_ble_eq_true rfl) dX1_takeSymbol_39 rfl ?_
      intro r_14 N_15 q_16
      obtain ⟨hI_N_15, hG_N_15, q_16c⟩ := q_16
      have hF_N_15 : Fr f_e_X1_takeSymbol M N_15 := Fr.c hF_M hG_N_15 rfl
      have hw_17 : kwi 8 = 8 := rfl
      have h_18 := Inv.g hI_M hk_c0 rfl 2 (a := (-2147483648)) (b := 2147483647) rfl rfl
      have h_19 := Inv.g hI_N_15 hk_c0 rfl 2 (a := (-2147483648)) (b := 2147483647) rfl rfl
      have h_20 := Inv.g hI_M hk_c0 rfl 3 (a := (-2147483648)) (b := 2147483647) rfl rfl
      have h_21 := Inv.g hI_N_15 hk_c0 rfl 3 (a := (-2147483648)) (b := 2147483647) rfl rfl
      rcases q_16c with q_16c | q_16c
      · refine kx_if_ne 45 F 47 dX1_takeSymbol_42 (by decide) rfl (by omega) (fun h_24 => ?_) (fun h_24 => (by exfalso; omega))
        refine kx_aload_n 48 F 0 dX1_takeSymbol_47 rfl rfl rfl ?_
        have e_25 : (N_15 c0 7) = (M c0 7) := by rw [Fr.e hG_N_15 hk_c0 _ rfl]
        have e_26 : (N_15 c0 8) = (M c0 8) := by rw [Fr.e hG_N_15 hk_c0 _ rfl]
        refine kx_Vi 51 (ci := 0) F (As := []) (st := []) vd_X1_57 (e_X1_advance G l N_15 c0 hI_N_15 hk_c0 (by omega) Bt (TB.fr hB hI_M hk_c0 hF_N_15 rfl) (j + 1) j (by omega) (by omega) (by omega)) hk_c0 rfl rfl rfl ⟨by decide, by decide⟩ rfl rfl (Nat.le_of_ble_eq_true rfl) dX1_takeSymbol_48 rfl ?_
        intro r_29 N_30 q_31
        obtain ⟨hI_N_30, hG_N_30, q_31c⟩ := q_31
        have hF_N_30 : Fr f_e_X1_takeSymbol M N_30 := Fr.c hF_N_15 hG_N_30 rfl
        have ht_32 := tp_le (n := M c0 5) (TB.tx hB hI_M hk_c0) (Inv.g hI_M hk_c0 rfl 5 (a := 0) (b := 900) rfl rfl).1 (j := (j + 1)) (by omega)
        have ht_34 : 0 ≤ tk Bt (j + 1) ∧ tk Bt (j + 1) ≤ 4 := tk_b (n := M c0 5) (TB.tx hB hI_M hk_c0) (by omega)
        have h_35 := Inv.g hI_N_30 hk_c0 rfl 7 (a := 0) (b := 900) rfl rfl
        have h_36 := Inv.g hI_N_30 hk_c0 rfl 8 (a := 0) (b := 900) rfl rfl
        have h_37 := Inv.g hI_N_30 hk_c0 rfl 6 (a := 0) (b := 5) rfl rfl
        have h_38 := Inv.g hI_N_30 hk_c0 rfl 2 (a := (-2147483648)) (b := 2147483647) rfl rfl
        have h_39 := Inv.g hI_N_30 hk_c0 rfl 3 (a := (-2147483648)) (b := 2147483647) rfl rfl
        have h_43 := Inv.g hI_N_30 hk_c0 rfl 9 (a := (-2147483648)) (b := 2147483647) rfl rfl
        rcases q_31c with q_31c | q_31c | q_31c
        · refine kx_if_eq 54 F 71 dX1_takeSymbol_51 (by decide) rfl (by omega) (fun h_51 => (by exfalso; omega)) (fun h_51 => ?_)
          refine kx_aload_n 55 F 0 dX1_takeSymbol_54 rfl rfl rfl ?_
          refine kx_iconst 56 F dX1_takeSymbol_55 rfl ?_
          refine kx_aload_n 57 F 0 dX1_takeSymbol_56 rfl rfl rfl ?_
          have e_52 : (N_30 c0 0) = (M c0 0) := by rw [Fr.e hG_N_30 hk_c0 _ rfl, Fr.e hG_N_15 hk_c0 _ rfl]
          have e_53 : (N_30 (N_30 c0 0) 3) = (M (M c0 0) 3) := by rw [e_52, Fr.e hG_N_30 hk_6 _ rfl, Fr.e hG_N_15 hk_6 _ rfl]
          have h_54 := Inv.g hI_M hk_6 rfl 3 (a := 0) (b := 2) rfl rfl
          have e_55 : N_30 (N_30 c0 0) 4 = M (M c0 0) 4 := by rw [Fr.e hG_N_30 hk_c0 _ rfl, Fr.e hG_N_15 hk_c0 _ rfl, Fr.e hG_N_30 hk_6 _ rfl, Fr.e hG_N_15 hk_6 _ rfl]
          have e_56 : N_30 (N_30 c0 0) 5 = M (M c0 0) 5 := by rw [Fr.e hG_N_30 hk_c0 _ rfl, Fr.e hG_N_15 hk_c0 _ rfl, Fr.e hG_N_30 hk_6 _ rfl, Fr.e hG_N_15 hk_6 _ rfl]
          refine kx_Vr 60 (ci := 0) F (As := []) (st := [vI 0, vR G c0]) vd_X1_135 (e_X1_latestX G l N_30 c0 hI_N_30 hk_c0 x (by omega)) hk_c0 rfl rfl rfl ⟨by decide, by decide⟩ rfl rfl (Nat.le_of_ble_eq_true rfl) dX1_takeSymbol_57 rfl ?_
          intro r_57 N_58 q_59
          obtain ⟨rfl, hk_60, q_59d⟩ := q_59
          rcases q_59d with ⟨q_59c, rfl⟩
          · refine kx_geti 63 F fl_X1_179 hk_60 rfl rfl (j := 1) rfl dX1_takeSymbol_60 (v := (M x 1)) (by rw [Fr.e hG_N_30 hk_60 _ rfl, Fr.e hG_N_15 hk_60 _ rfl]) rfl ?_
            have h_61 := Inv.g hI_M hk_60 rfl 1 (a := 0) (b := 3) rfl rfl
            refine kx_iconst 64 F dX1_takeSymbol_63 rfl ?_
            refine kx_isub 65 F (v := (M x 1) - 1) dX1_takeSymbol_64 rfl rfl ?_
            refine kx_Vi 68 (ci := 0) F (As := [vI 0, vI ((M x 1) - 1)]) (st := []) vd_X1_123 (e_X1_standsNumber G l N_30 c0 0 ((M x 1) - 1) hI_N_30 hk_c0 (by omega) Bt (TB.fr hB hI_M hk_c0 hF_N_30 rfl) (j + 1) (by omega) (by omega)) hk_c0 rfl rfl rfl ⟨by decide, by decide⟩ rfl rfl (Nat.le_of_ble_eq_true rfl) dX1_takeSymbol_65 rfl ?_
            intro r_62 N_63 q_64
            obtain ⟨hI_N_63, hG_N_63, q_64c⟩ := q_64
            have hF_N_63 : Fr f_e_X1_takeSymbol M N_63 := Fr.c hF_N_30 hG_N_63 rfl
            have h_66 := Inv.g hI_N_63 hk_c0 rfl 2 (a := (-2147483648)) (b := 2147483647) rfl rfl
            have h_67 := Inv.g hI_N_63 hk_c0 rfl 3 (a := (-2147483648)) (b := 2147483647) rfl rfl
            rcases q_64c with q_64c | q_64c | q_64c | q_64c
            · exfalso; omega
            · refine kx_if_ne 71 F 73 dX1_takeSymbol_68 (by decide) rfl (by omega) (fun h_76 => (by exfalso; omega)) (fun h_76 => ?_)
              refine kx_iconst 72 F dX1_takeSymbol_71 rfl ?_
              have e_77 : (N_63 c0 9) = (N_30 c0 9) := by rw [Fr.e hG_N_63 hk_c0 _ rfl]
              have e_79 : (N_63 c0 6) = (N_30 c0 6) := by rw [Fr.e hG_N_63 hk_c0 _ rfl]
              have e_80 : (N_63 c0 7) = (N_30 c0 7) := by rw [Fr.e hG_N_63 hk_c0 _ rfl]
              have e_82 : (N_63 c0 8) = (N_30 c0 8) := by rw [Fr.e hG_N_63 hk_c0 _ rfl]
              exact kx_zret F hQ (by omega) ⟨hI_N_63, hF_N_63, (Or.inr (Or.inr (Or.inr (Or.inl (by omega)))))⟩ dX1_takeSymbol_72
            · exfalso; omega
            · exfalso; omega
        · refine kx_if_eq 54 F 71 dX1_takeSymbol_51 (by decide) rfl (by omega) (fun h_100 => (by exfalso; omega)) (fun h_100 => ?_)
          refine kx_aload_n 55 F 0 dX1_takeSymbol_54 rfl rfl rfl ?_
          refine kx_iconst 56 F dX1_takeSymbol_55 rfl ?_
          refine kx_aload_n 57 F 0 dX1_takeSymbol_56 rfl rfl rfl ?_
          have e_101 : (N_30 c0 0) = (M c0 0) := by rw [Fr.e hG_N_30 hk_c0 _ rfl, Fr.e hG_N_15 hk_c0 _ rfl]
          have e_102 : (N_30 (N_30 c0 0) 3) = (M (M c0 0) 3) := by rw [e_101, Fr.e hG_N_30 hk_6 _ rfl, Fr.e hG_N_15 hk_6 _ rfl]
          have h_103 := Inv.g hI_M hk_6 rfl 3 (a := 0) (b := 2) rfl rfl
          have e_104 : N_30 (N_30 c0 0) 4 = M (M c0 0) 4 := by rw [Fr.e hG_N_30 hk_c0 _ rfl, Fr.e hG_N_15 hk_c0 _ rfl, Fr.e hG_N_30 hk_6 _ rfl, Fr.e hG_N_15 hk_6 _ rfl]
          have e_105 : N_30 (N_30 c0 0) 5 = M (M c0 0) 5 := by rw [Fr.e hG_N_30 hk_c0 _ rfl, Fr.e hG_N_15 hk_c0 _ rfl, Fr.e hG_N_30 hk_6 _ rfl, Fr.e hG_N_15 hk_6 _ rfl]
          refine kx_Vr 60 (ci := 0) F (As := []) (st := [vI 0, vR G c0]) vd_X1_135 (e_X1_latestX G l N_30 c0 hI_N_30 hk_c0 x (by omega)) hk_c0 rfl rfl rfl ⟨by decide, by decide⟩ rfl rfl (Nat.le_of_ble_eq_true rfl) dX1_takeSymbol_57 rfl ?_
          intro r_106 N_107 q_108
          obtain ⟨rfl, hk_109, q_108d⟩ := q_108
          rcases q_108d with ⟨q_108c, rfl⟩
          · refine kx_geti 63 F fl_X1_179 hk_109 rfl rfl (j := 1) rfl dX1_takeSymbol_60 (v := (M x 1)) (by rw [Fr.e hG_N_30 hk_109 _ rfl, Fr.e hG_N_15 hk_109 _ rfl]) rfl ?_
            have h_110 := Inv.g hI_M hk_109 rfl 1 (a := 0) (b := 3) rfl rfl
            refine kx_iconst 64 F dX1_takeSymbol_63 rfl ?_
            refine kx_isub 65 F (v := (M x 1) - 1) dX1_takeSymbol_64 rfl rfl ?_
            refine kx_Vi 68 (ci := 0) F (As := [vI 0, vI ((M x 1) - 1)]) (st := []) vd_X1_123 (e_X1_standsNumber G l N_30 c0 0 ((M x 1) - 1) hI_N_30 hk_c0 (by omega) Bt (TB.fr hB hI_M hk_c0 hF_N_30 rfl) (j + 1) (by omega) (by omega)) hk_c0 rfl rfl rfl ⟨by decide, by decide⟩ rfl rfl (Nat.le_of_ble_eq_true rfl) dX1_takeSymbol_65 rfl ?_
            intro r_111 N_112 q_113
            obtain ⟨hI_N_112, hG_N_112, q_113c⟩ := q_113
            have hF_N_112 : Fr f_e_X1_takeSymbol M N_112 := Fr.c hF_N_30 hG_N_112 rfl
            have h_114 := Inv.g hI_N_112 hk_c0 rfl 2 (a := (-2147483648)) (b := 2147483647) rfl rfl
            have h_115 := Inv.g hI_N_112 hk_c0 rfl 3 (a := (-2147483648)) (b := 2147483647) rfl rfl
            rcases q_113c with q_113c | q_113c | q_113c | q_113c
            · refine kx_if_ne 71 F 73 dX1_takeSymbol_68 (by decide) rfl (by omega) (fun h_122 => ?_) (fun h_122 => (by exfalso; omega))
              refine kx_aload_n 74 F 0 dX1_takeSymbol_73 rfl rfl rfl ?_
              refine kx_geti 77 F fl_X1_127 hk_c0 rfl rfl (j := 9) rfl dX1_takeSymbol_74 (v := (N_30 c0 9)) (by rw [Fr.e hG_N_112 hk_c0 _ rfl]) rfl ?_
              refine kx_istore_n 78 F 2 (lo' := [some (vR G c0), some (vI a1), some (vI (N_30 c0 9)), none]) dX1_takeSymbol_77 rfl (by decide) rfl rfl rfl ?_
              refine kx_aload_n 79 F 0 dX1_takeSymbol_78 rfl rfl rfl ?_
              have e_123 : (N_112 c0 7) = (N_30 c0 7) := by rw [Fr.e hG_N_112 hk_c0 _ rfl]
              have e_124 : (N_112 c0 8) = (N_30 c0 8) := by rw [Fr.e hG_N_112 hk_c0 _ rfl]
              refine kx_Vi 82 (ci := 0) F (As := []) (st := []) vd_X1_57 (e_X1_advance G l N_112 c0 hI_N_112 hk_c0 (by omega) Bt (TB.fr hB hI_M hk_c0 hF_N_112 rfl) (j + 2) (j + 1) (by omega) (by omega) (by omega)) hk_c0 rfl rfl rfl ⟨by decide, by decide⟩ rfl rfl (Nat.le_of_ble_eq_true rfl) dX1_takeSymbol_79 rfl ?_
              intro r_127 N_128 q_129
              obtain ⟨hI_N_128, hG_N_128, q_129c⟩ := q_129
              have hF_N_128 : Fr f_e_X1_takeSymbol M N_128 := Fr.c hF_N_112 hG_N_128 rfl
              have ht_130 := tp_le (n := M c0 5) (TB.tx hB hI_M hk_c0) (Inv.g hI_M hk_c0 rfl 5 (a := 0) (b := 900) rfl rfl).1 (j := (j + 2)) (by omega)
              have ht_132 : 0 ≤ tk Bt (j + 2) ∧ tk Bt (j + 2) ≤ 4 := tk_b (n := M c0 5) (TB.tx hB hI_M hk_c0) (by omega)
              have h_133 := Inv.g hI_N_128 hk_c0 rfl 7 (a := 0) (b := 900) rfl rfl
              have h_134 := Inv.g hI_N_128 hk_c0 rfl 8 (a := 0) (b := 900) rfl rfl
              have h_135 := Inv.g hI_N_128 hk_c0 rfl 6 (a := 0) (b := 5) rfl rfl
              have h_136 := Inv.g hI_N_128 hk_c0 rfl 2 (a := (-2147483648)) (b := 2147483647) rfl rfl
              have h_137 := Inv.g hI_N_128 hk_c0 rfl 3 (a := (-2147483648)) (b := 2147483647) rfl rfl
              have h_141 := Inv.g hI_N_128 hk_c0 rfl 9 (a := (-2147483648)) (b := 2147483647) rfl rfl
              rcases q_129c with q_129c | q_129c | q_129c
              · refine kx_istore_n 83 F 3 (lo' := [some (vR G c0), some (vI a1), some (vI (N_30 c0 9)), some (vI r_127)]) dX1_takeSymbol_82 rfl (by decide) rfl rfl rfl ?_
                refine kx_aload_n 84 F 0 dX1_takeSymbol_83 rfl rfl rfl ?_
                refine kx_iload_n 85 F 2 dX1_takeSymbol_84 rfl rfl rfl ?_
                refine kx_puti 88 F fw_X1_127 rfl hk_c0 rfl rfl (j := 9) rfl dX1_takeSymbol_85 rfl ?_
                intro N_149 hM_N_149
                have hI_N_149 : Inv false N_149 := Inv.u hI_N_128 hM_N_149 hk_c0 (a := (-2147483648)) (b := 2147483647) rfl rfl rfl (by omega)
                have hF_N_149 : Fr f_e_X1_takeSymbol M N_149 := Fr.u hF_N_128 hM_N_149 hk_c0 rfl
                refine kx_iload_n 89 F 3 dX1_takeSymbol_88 rfl rfl rfl ?_
                have e_150 : (N_149 c0 9) = (N_30 c0 9) := by rw [hM_N_149, mu_s]
                have e_151 : (N_149 c0 6) = (N_128 c0 6) := by rw [hM_N_149, mu_i (by omega)]
                have e_152 : (N_149 c0 7) = (N_128 c0 7) := by rw [hM_N_149, mu_i (by omega)]
                have e_154 : (N_149 c0 8) = (N_128 c0 8) := by rw [hM_N_149, mu_i (by omega)]
                have e_155 : (N_149 c0 2) = (N_128 c0 2) := by rw [hM_N_149, mu_i (by omega)]
                have e_156 : (N_149 c0 3) = (N_128 c0 3) := by rw [hM_N_149, mu_i (by omega)]
                exact kx_zret F hQ (by omega) ⟨hI_N_149, hF_N_149, (Or.inr (Or.inr (Or.inr (Or.inr (Or.inr (Or.inr (Or.inl (by omega))))))))⟩ dX1_takeSymbol_89
              · refine kx_istore_n 83 F 3 (lo' := [some (vR G c0), some (vI a1), some (vI (N_30 c0 9)), some (vI r_127)]) dX1_takeSymbol_82 rfl (by decide) rfl rfl rfl ?_
                refine kx_aload_n 84 F 0 dX1_takeSymbol_83 rfl rfl rfl ?_
                refine kx_iload_n 85 F 2 dX1_takeSymbol_84 rfl rfl rfl ?_
                refine kx_puti 88 F fw_X1_127 rfl hk_c0 rfl rfl (j := 9) rfl dX1_takeSymbol_85 rfl ?_
                intro N_202 hM_N_202
                have hI_N_202 : Inv false N_202 := Inv.u hI_N_128 hM_N_202 hk_c0 (a := (-2147483648)) (b := 2147483647) rfl rfl rfl (by omega)
                have hF_N_202 : Fr f_e_X1_takeSymbol M N_202 := Fr.u hF_N_128 hM_N_202 hk_c0 rfl
                refine kx_iload_n 89 F 3 dX1_takeSymbol_88 rfl rfl rfl ?_
                have e_203 : (N_202 c0 9) = (N_30 c0 9) := by rw [hM_N_202, mu_s]
                have e_204 : (N_202 c0 6) = (N_128 c0 6) := by rw [hM_N_202, mu_i (by omega)]
                have e_205 : (N_202 c0 7) = (N_128 c0 7) := by rw [hM_N_202, mu_i (by omega)]
                have e_207 : (N_202 c0 8) = (N_128 c0 8) := by rw [hM_N_202, mu_i (by omega)]
                have e_208 : (N_202 c0 2) = (N_128 c0 2) := by rw [hM_N_202, mu_i (by omega)]
                have e_209 : (N_202 c0 3) = (N_128 c0 3) := by rw [hM_N_202, mu_i (by omega)]
                exact kx_zret F hQ (by omega) ⟨hI_N_202, hF_N_202, (Or.inr (Or.inr (Or.inr (Or.inr (Or.inr (Or.inr (Or.inl (by omega))))))))⟩ dX1_takeSymbol_89
              · refine kx_istore_n 83 F 3 (lo' := [some (vR G c0), some (vI a1), some (vI (N_30 c0 9)), some (vI r_127)]) dX1_takeSymbol_82 rfl (by decide) rfl rfl rfl ?_
                refine kx_aload_n 84 F 0 dX1_takeSymbol_83 rfl rfl rfl ?_
                refine kx_iload_n 85 F 2 dX1_takeSymbol_84 rfl rfl rfl ?_
                refine kx_puti 88 F fw_X1_127 rfl hk_c0 rfl rfl (j := 9) rfl dX1_takeSymbol_85 rfl ?_
                intro N_255 hM_N_255
                have hI_N_255 : Inv false N_255 := Inv.u hI_N_128 hM_N_255 hk_c0 (a := (-2147483648)) (b := 2147483647) rfl rfl rfl (by omega)
                have hF_N_255 : Fr f_e_X1_takeSymbol M N_255 := Fr.u hF_N_128 hM_N_255 hk_c0 rfl
                refine kx_iload_n 89 F 3 dX1_takeSymbol_88 rfl rfl rfl ?_
                have e_256 : (N_255 c0 9) = (N_30 c0 9) := by rw [hM_N_255, mu_s]
                have e_257 : (N_255 c0 6) = (N_128 c0 6) := by rw [hM_N_255, mu_i (by omega)]
                have e_258 : (N_255 c0 7) = (N_128 c0 7) := by rw [hM_N_255, mu_i (by omega)]
                have e_260 : (N_255 c0 8) = (N_128 c0 8) := by rw [hM_N_255, mu_i (by omega)]
                have e_261 : (N_255 c0 2) = (N_128 c0 2) := by rw [hM_N_255, mu_i (by omega)]
                have e_262 : (N_255 c0 3) = (N_128 c0 3) := by rw [hM_N_255, mu_i (by omega)]
                exact kx_zret F hQ (by omega) ⟨hI_N_255, hF_N_255, (Or.inr (Or.inr (Or.inr (Or.inr (Or.inr (Or.inl (by omega)))))))⟩ dX1_takeSymbol_89
            · exfalso; omega
            · exfalso; omega
            · refine kx_if_ne 71 F 73 dX1_takeSymbol_68 (by decide) rfl (by omega) (fun h_308 => (by exfalso; omega)) (fun h_308 => ?_)
              refine kx_iconst 72 F dX1_takeSymbol_71 rfl ?_
              have e_309 : (N_112 c0 9) = (N_30 c0 9) := by rw [Fr.e hG_N_112 hk_c0 _ rfl]
              have e_310 : (N_112 c0 6) = (N_30 c0 6) := by rw [Fr.e hG_N_112 hk_c0 _ rfl]
              have e_311 : (N_112 c0 7) = (N_30 c0 7) := by rw [Fr.e hG_N_112 hk_c0 _ rfl]
              have e_313 : (N_112 c0 8) = (N_30 c0 8) := by rw [Fr.e hG_N_112 hk_c0 _ rfl]
              exact kx_zret F hQ (by omega) ⟨hI_N_112, hF_N_112, (Or.inr (Or.inr (Or.inr (Or.inr (Or.inl (by omega))))))⟩ dX1_takeSymbol_72
        · refine kx_if_eq 54 F 71 dX1_takeSymbol_51 (by decide) rfl (by omega) (fun h_331 => ?_) (fun h_331 => (by exfalso; omega))
          refine kx_iconst 72 F dX1_takeSymbol_71 rfl ?_
          exact kx_zret F hQ (by omega) ⟨hI_N_30, hF_N_30, (Or.inr (Or.inr (Or.inl (by omega))))⟩ dX1_takeSymbol_72
      · refine kx_if_ne 45 F 47 dX1_takeSymbol_42 (by decide) rfl (by omega) (fun h_333 => (by exfalso; omega)) (fun h_333 => ?_)
        refine kx_iconst 46 F dX1_takeSymbol_45 rfl ?_
        have e_334 : (N_15 c0 9) = (M c0 9) := by rw [Fr.e hG_N_15 hk_c0 _ rfl]
        have h_335 := Inv.g hI_M hk_c0 rfl 9 (a := (-2147483648)) (b := 2147483647) rfl rfl
        have e_336 : (N_15 c0 6) = (M c0 6) := by rw [Fr.e hG_N_15 hk_c0 _ rfl]
        have e_337 : (N_15 c0 7) = (M c0 7) := by rw [Fr.e hG_N_15 hk_c0 _ rfl]
        have e_339 : (N_15 c0 8) = (M c0 8) := by rw [Fr.e hG_N_15 hk_c0 _ rfl]
        exact kx_zret F hQ (by omega) ⟨hI_N_15, hF_N_15, (Or.inr (Or.inl (by omega)))⟩ dX1_takeSymbol_46
    · refine kx_aload_n 19 F 0 dX1_takeSymbol_18 rfl rfl rfl ?_
      refine kx_ldcS 21 F 10 (by decide) rfl rfl dX1_takeSymbol_19 rfl ?_
      have h_357 := Inv.g hI_M hk_c0 rfl 6 (a := 0) (b := 5) rfl rfl
      refine kx_Vi 24 (ci := 0) F (As := [vT G 10]) (st := []) vd_X1_69 (e_X1_isWord G l M c0 10 hI_M hk_c0 (by omega) Bt hB j (by omega) (by omega)) hk_c0 rfl rfl rfl ⟨by decide, by decide⟩ rfl rfl (Nat.le_of_ble_eq_true rfl) dX1_takeSymbol_21 rfl ?_
      intro r_358 N_359 q_360
      obtain ⟨rfl, q_360c⟩ := q_360
      have hw_361 : kwi 10 = 10 := rfl
      rcases q_360c with q_360c | q_360c
      · refine kx_if_ne 27 F 78 dX1_takeSymbol_24 (by decide) rfl (by omega) (fun h_362 => ?_) (fun h_362 => (by exfalso; omega))
        refine kx_aload_n 79 F 0 dX1_takeSymbol_78 rfl rfl rfl ?_
        refine kx_Vi 82 (ci := 0) F (As := []) (st := []) vd_X1_57 (e_X1_advance G l M c0 hI_M hk_c0 (by omega) Bt hB (j + 1) j (by omega) (by omega) (by omega)) hk_c0 rfl rfl rfl ⟨by decide, by decide⟩ rfl rfl (Nat.le_of_ble_eq_true rfl) dX1_takeSymbol_79 rfl ?_
        intro r_363 N_364 q_365
        obtain ⟨hI_N_364, hG_N_364, q_365c⟩ := q_365
        have hF_N_364 : Fr f_e_X1_takeSymbol M N_364 := Fr.c hF_M hG_N_364 rfl
        have ht_366 := tp_le (n := M c0 5) (TB.tx hB hI_M hk_c0) (Inv.g hI_M hk_c0 rfl 5 (a := 0) (b := 900) rfl rfl).1 (j := (j + 1)) (by omega)
        have ht_368 : 0 ≤ tk Bt (j + 1) ∧ tk Bt (j + 1) ≤ 4 := tk_b (n := M c0 5) (TB.tx hB hI_M hk_c0) (by omega)
        have h_369 := Inv.g hI_N_364 hk_c0 rfl 7 (a := 0) (b := 900) rfl rfl
        have h_370 := Inv.g hI_N_364 hk_c0 rfl 8 (a := 0) (b := 900) rfl rfl
        have h_371 := Inv.g hI_N_364 hk_c0 rfl 6 (a := 0) (b := 5) rfl rfl
        have h_372 := Inv.g hI_M hk_c0 rfl 2 (a := (-2147483648)) (b := 2147483647) rfl rfl
        have h_373 := Inv.g hI_N_364 hk_c0 rfl 2 (a := (-2147483648)) (b := 2147483647) rfl rfl
        have h_374 := Inv.g hI_M hk_c0 rfl 3 (a := (-2147483648)) (b := 2147483647) rfl rfl
        have h_375 := Inv.g hI_N_364 hk_c0 rfl 3 (a := (-2147483648)) (b := 2147483647) rfl rfl
        have h_379 := Inv.g hI_N_364 hk_c0 rfl 9 (a := (-2147483648)) (b := 2147483647) rfl rfl
        rcases q_365c with q_365c | q_365c | q_365c
        · refine kx_istore_n 83 F 3 (lo' := [some (vR G c0), some (vI a1), some (vI (-1)), some (vI r_363)]) dX1_takeSymbol_82 rfl (by decide) rfl rfl rfl ?_
          refine kx_aload_n 84 F 0 dX1_takeSymbol_83 rfl rfl rfl ?_
          refine kx_iload_n 85 F 2 dX1_takeSymbol_84 rfl rfl rfl ?_
          refine kx_puti 88 F fw_X1_127 rfl hk_c0 rfl rfl (j := 9) rfl dX1_takeSymbol_85 rfl ?_
          intro N_389 hM_N_389
          have hI_N_389 : Inv false N_389 := Inv.u hI_N_364 hM_N_389 hk_c0 (a := (-2147483648)) (b := 2147483647) rfl rfl rfl (by omega)
          have hF_N_389 : Fr f_e_X1_takeSymbol M N_389 := Fr.u hF_N_364 hM_N_389 hk_c0 rfl
          refine kx_iload_n 89 F 3 dX1_takeSymbol_88 rfl rfl rfl ?_
          have e_390 : (N_389 c0 9) = -1 := by rw [hM_N_389, mu_s]
          have e_391 : (N_389 c0 6) = (N_364 c0 6) := by rw [hM_N_389, mu_i (by omega)]
          have e_392 : (N_389 c0 7) = (N_364 c0 7) := by rw [hM_N_389, mu_i (by omega)]
          have e_394 : (N_389 c0 8) = (N_364 c0 8) := by rw [hM_N_389, mu_i (by omega)]
          have e_395 : (N_389 c0 2) = (N_364 c0 2) := by rw [hM_N_389, mu_i (by omega)]
          have e_396 : (N_389 c0 3) = (N_364 c0 3) := by rw [hM_N_389, mu_i (by omega)]
          exact kx_zret F hQ (by omega) ⟨hI_N_389, hF_N_389, (Or.inr (Or.inr (Or.inr (Or.inr (Or.inr (Or.inr (Or.inr (Or.inr (Or.inr (Or.inr (Or.inr (Or.inr (Or.inr (Or.inr (by omega)))))))))))))))⟩ dX1_takeSymbol_89
        · refine kx_istore_n 83 F 3 (lo' := [some (vR G c0), some (vI a1), some (vI (-1)), some (vI r_363)]) dX1_takeSymbol_82 rfl (by decide) rfl rfl rfl ?_
          refine kx_aload_n 84 F 0 dX1_takeSymbol_83 rfl rfl rfl ?_
          refine kx_iload_n 85 F 2 dX1_takeSymbol_84 rfl rfl rfl ?_
          refine kx_puti 88 F fw_X1_127 rfl hk_c0 rfl rfl (j := 9) rfl dX1_takeSymbol_85 rfl ?_
          intro N_442 hM_N_442
          have hI_N_442 : Inv false N_442 := Inv.u hI_N_364 hM_N_442 hk_c0 (a := (-2147483648)) (b := 2147483647) rfl rfl rfl (by omega)
          have hF_N_442 : Fr f_e_X1_takeSymbol M N_442 := Fr.u hF_N_364 hM_N_442 hk_c0 rfl
          refine kx_iload_n 89 F 3 dX1_takeSymbol_88 rfl rfl rfl ?_
          have e_443 : (N_442 c0 9) = -1 := by rw [hM_N_442, mu_s]
          have e_444 : (N_442 c0 6) = (N_364 c0 6) := by rw [hM_N_442, mu_i (by omega)]
          have e_445 : (N_442 c0 7) = (N_364 c0 7) := by rw [hM_N_442, mu_i (by omega)]
          have e_447 : (N_442 c0 8) = (N_364 c0 8) := by rw [hM_N_442, mu_i (by omega)]
          have e_448 : (N_442 c0 2) = (N_364 c0 2) := by rw [hM_N_442, mu_i (by omega)]
          have e_449 : (N_442 c0 3) = (N_364 c0 3) := by rw [hM_N_442, mu_i (by omega)]
          exact kx_zret F hQ (by omega) ⟨hI_N_442, hF_N_442, (Or.inr (Or.inr (Or.inr (Or.inr (Or.inr (Or.inr (Or.inr (Or.inr (Or.inr (Or.inr (Or.inr (Or.inr (Or.inr (Or.inr (by omega)))))))))))))))⟩ dX1_takeSymbol_89
        · refine kx_istore_n 83 F 3 (lo' := [some (vR G c0), some (vI a1), some (vI (-1)), some (vI r_363)]) dX1_takeSymbol_82 rfl (by decide) rfl rfl rfl ?_
          refine kx_aload_n 84 F 0 dX1_takeSymbol_83 rfl rfl rfl ?_
          refine kx_iload_n 85 F 2 dX1_takeSymbol_84 rfl rfl rfl ?_
          refine kx_puti 88 F fw_X1_127 rfl hk_c0 rfl rfl (j := 9) rfl dX1_takeSymbol_85 rfl ?_
          intro N_495 hM_N_495
          have hI_N_495 : Inv false N_495 := Inv.u hI_N_364 hM_N_495 hk_c0 (a := (-2147483648)) (b := 2147483647) rfl rfl rfl (by omega)
          have hF_N_495 : Fr f_e_X1_takeSymbol M N_495 := Fr.u hF_N_364 hM_N_495 hk_c0 rfl
          refine kx_iload_n 89 F 3 dX1_takeSymbol_88 rfl rfl rfl ?_
          have e_496 : (N_495 c0 9) = -1 := by rw [hM_N_495, mu_s]
          have e_497 : (N_495 c0 6) = (N_364 c0 6) := by rw [hM_N_495, mu_i (by omega)]
          have e_498 : (N_495 c0 7) = (N_364 c0 7) := by rw [hM_N_495, mu_i (by omega)]
          have e_500 : (N_495 c0 8) = (N_364 c0 8) := by rw [hM_N_495, mu_i (by omega)]
          have e_501 : (N_495 c0 2) = (N_364 c0 2) := by rw [hM_N_495, mu_i (by omega)]
          have e_502 : (N_495 c0 3) = (N_364 c0 3) := by rw [hM_N_495, mu_i (by omega)]
          exact kx_zret F hQ (by omega) ⟨hI_N_495, hF_N_495, (Or.inr (Or.inr (Or.inr (Or.inr (Or.inr (Or.inr (Or.inr (Or.inr (Or.inr (Or.inr (Or.inr (Or.inr (Or.inr (Or.inl (by omega)))))))))))))))⟩ dX1_takeSymbol_89
      · refine kx_if_ne 27 F 78 dX1_takeSymbol_24 (by decide) rfl (by omega) (fun h_548 => (by exfalso; omega)) (fun h_548 => ?_)
        refine kx_aload_n 28 F 0 dX1_takeSymbol_27 rfl rfl rfl ?_
        refine kx_iload_n 29 F 1 dX1_takeSymbol_28 rfl rfl rfl ?_
        refine kx_if_ne 32 F 37 dX1_takeSymbol_29 (by decide) rfl (by omega) (fun h_549 => ?_) (fun h_549 => (by exfalso; omega))
        refine kx_ldcS 39 F 9 (by decide) rfl rfl dX1_takeSymbol_37 rfl ?_
        refine kx_Vi 42 (ci := 0) F (As := [vT G 9]) (st := []) vd_X1_132 (e_X1_standsWord G l M c0 9 hI_M hk_c0 (by omega) Bt hB j (by omega) (by omega)) hk_c0 rfl rfl rfl ⟨by decide, by decide⟩ rfl rfl (Nat.le_of_ble_eq_true rfl) dX1_takeSymbol_39 rfl ?_
        intro r_550 N_551 q_552
        obtain ⟨hI_N_551, hG_N_551, q_552c⟩ := q_552
        have hF_N_551 : Fr f_e_X1_takeSymbol M N_551 := Fr.c hF_M hG_N_551 rfl
        have hw_553 : kwi 9 = 9 := rfl
        have h_554 := Inv.g hI_M hk_c0 rfl 2 (a := (-2147483648)) (b := 2147483647) rfl rfl
        have h_555 := Inv.g hI_N_551 hk_c0 rfl 2 (a := (-2147483648)) (b := 2147483647) rfl rfl
        have h_556 := Inv.g hI_M hk_c0 rfl 3 (a := (-2147483648)) (b := 2147483647) rfl rfl
        have h_557 := Inv.g hI_N_551 hk_c0 rfl 3 (a := (-2147483648)) (b := 2147483647) rfl rfl
        rcases q_552c with q_552c | q_552c
        · refine kx_if_ne 45 F 47 dX1_takeSymbol_42 (by decide) rfl (by omega) (fun h_560 => ?_) (fun h_560 => (by exfalso; omega))
          refine kx_aload_n 48 F 0 dX1_takeSymbol_47 rfl rfl rfl ?_
          have e_561 : (N_551 c0 7) = (M c0 7) := by rw [Fr.e hG_N_551 hk_c0 _ rfl]
          have e_562 : (N_551 c0 8) = (M c0 8) := by rw [Fr.e hG_N_551 hk_c0 _ rfl]
          refine kx_Vi 51 (ci := 0) F (As := []) (st := []) vd_X1_57 (e_X1_advance G l N_551 c0 hI_N_551 hk_c0 (by omega) Bt (TB.fr hB hI_M hk_c0 hF_N_551 rfl) (j + 1) j (by omega) (by omega) (by omega)) hk_c0 rfl rfl rfl ⟨by decide, by decide⟩ rfl rfl (Nat.le_of_ble_eq_true rfl) dX1_takeSymbol_48 rfl ?_
          intro r_565 N_566 q_567
          obtain ⟨hI_N_566, hG_N_566, q_567c⟩ := q_567
          have hF_N_566 : Fr f_e_X1_takeSymbol M N_566 := Fr.c hF_N_551 hG_N_566 rfl
          have ht_568 := tp_le (n := M c0 5) (TB.tx hB hI_M hk_c0) (Inv.g hI_M hk_c0 rfl 5 (a := 0) (b := 900) rfl rfl).1 (j := (j + 1)) (by omega)
          have ht_570 : 0 ≤ tk Bt (j + 1) ∧ tk Bt (j + 1) ≤ 4 := tk_b (n := M c0 5) (TB.tx hB hI_M hk_c0) (by omega)
          have h_571 := Inv.g hI_N_566 hk_c0 rfl 7 (a := 0) (b := 900) rfl rfl
          have h_572 := Inv.g hI_N_566 hk_c0 rfl 8 (a := 0) (b := 900) rfl rfl
          have h_573 := Inv.g hI_N_566 hk_c0 rfl 6 (a := 0) (b := 5) rfl rfl
          have h_574 := Inv.g hI_N_566 hk_c0 rfl 2 (a := (-2147483648)) (b := 2147483647) rfl rfl
          have h_575 := Inv.g hI_N_566 hk_c0 rfl 3 (a := (-2147483648)) (b := 2147483647) rfl rfl
          have h_579 := Inv.g hI_N_566 hk_c0 rfl 9 (a := (-2147483648)) (b := 2147483647) rfl rfl
          rcases q_567c with q_567c | q_567c | q_567c
          · refine kx_if_eq 54 F 71 dX1_takeSymbol_51 (by decide) rfl (by omega) (fun h_587 => (by exfalso; omega)) (fun h_587 => ?_)
            refine kx_aload_n 55 F 0 dX1_takeSymbol_54 rfl rfl rfl ?_
            refine kx_iconst 56 F dX1_takeSymbol_55 rfl ?_
            refine kx_aload_n 57 F 0 dX1_takeSymbol_56 rfl rfl rfl ?_
            have e_588 : (N_566 c0 0) = (M c0 0) := by rw [Fr.e hG_N_566 hk_c0 _ rfl, Fr.e hG_N_551 hk_c0 _ rfl]
            have e_589 : (N_566 (N_566 c0 0) 3) = (M (M c0 0) 3) := by rw [e_588, Fr.e hG_N_566 hk_6 _ rfl, Fr.e hG_N_551 hk_6 _ rfl]
            have h_590 := Inv.g hI_M hk_6 rfl 3 (a := 0) (b := 2) rfl rfl
            have e_591 : N_566 (N_566 c0 0) 4 = M (M c0 0) 4 := by rw [Fr.e hG_N_566 hk_c0 _ rfl, Fr.e hG_N_551 hk_c0 _ rfl, Fr.e hG_N_566 hk_6 _ rfl, Fr.e hG_N_551 hk_6 _ rfl]
            have e_592 : N_566 (N_566 c0 0) 5 = M (M c0 0) 5 := by rw [Fr.e hG_N_566 hk_c0 _ rfl, Fr.e hG_N_551 hk_c0 _ rfl, Fr.e hG_N_566 hk_6 _ rfl, Fr.e hG_N_551 hk_6 _ rfl]
            refine kx_Vr 60 (ci := 0) F (As := []) (st := [vI 0, vR G c0]) vd_X1_135 (e_X1_latestX G l N_566 c0 hI_N_566 hk_c0 x (by omega)) hk_c0 rfl rfl rfl ⟨by decide, by decide⟩ rfl rfl (Nat.le_of_ble_eq_true rfl) dX1_takeSymbol_57 rfl ?_
            intro r_593 N_594 q_595
            obtain ⟨rfl, hk_596, q_595d⟩ := q_595
            rcases q_595d with ⟨q_595c, rfl⟩
            · refine kx_geti 63 F fl_X1_179 hk_596 rfl rfl (j := 1) rfl dX1_takeSymbol_60 (v := (M x 1)) (by rw [Fr.e hG_N_566 hk_596 _ rfl, Fr.e hG_N_551 hk_596 _ rfl]) rfl ?_
              have h_597 := Inv.g hI_M hk_596 rfl 1 (a := 0) (b := 3) rfl rfl
              refine kx_iconst 64 F dX1_takeSymbol_63 rfl ?_
              refine kx_isub 65 F (v := (M x 1) - 1) dX1_takeSymbol_64 rfl rfl ?_
              refine kx_Vi 68 (ci := 0) F (As := [vI 0, vI ((M x 1) - 1)]) (st := []) vd_X1_123 (e_X1_standsNumber G l N_566 c0 0 ((M x 1) - 1) hI_N_566 hk_c0 (by omega) Bt (TB.fr hB hI_M hk_c0 hF_N_566 rfl) (j + 1) (by omega) (by omega)) hk_c0 rfl rfl rfl ⟨by decide, by decide⟩ rfl rfl (Nat.le_of_ble_eq_true rfl) dX1_takeSymbol_65 rfl ?_
              intro r_598 N_599 q_600
              obtain ⟨hI_N_599, hG_N_599, q_600c⟩ := q_600
              have hF_N_599 : Fr f_e_X1_takeSymbol M N_599 := Fr.c hF_N_566 hG_N_599 rfl
              have h_602 := Inv.g hI_N_599 hk_c0 rfl 2 (a := (-2147483648)) (b := 2147483647) rfl rfl
              have h_603 := Inv.g hI_N_599 hk_c0 rfl 3 (a := (-2147483648)) (b := 2147483647) rfl rfl
              rcases q_600c with q_600c | q_600c | q_600c | q_600c
              · exfalso; omega
              · refine kx_if_ne 71 F 73 dX1_takeSymbol_68 (by decide) rfl (by omega) (fun h_612 => (by exfalso; omega)) (fun h_612 => ?_)
                refine kx_iconst 72 F dX1_takeSymbol_71 rfl ?_
                have e_613 : (N_599 c0 9) = (N_566 c0 9) := by rw [Fr.e hG_N_599 hk_c0 _ rfl]
                have e_615 : (N_599 c0 6) = (N_566 c0 6) := by rw [Fr.e hG_N_599 hk_c0 _ rfl]
                have e_616 : (N_599 c0 7) = (N_566 c0 7) := by rw [Fr.e hG_N_599 hk_c0 _ rfl]
                have e_618 : (N_599 c0 8) = (N_566 c0 8) := by rw [Fr.e hG_N_599 hk_c0 _ rfl]
                exact kx_zret F hQ (by omega) ⟨hI_N_599, hF_N_599, (Or.inr (Or.inr (Or.inr (Or.inr (Or.inr (Or.inr (Or.inr (Or.inr (Or.inr (Or.inl (by omega)))))))))))⟩ dX1_takeSymbol_72
              · exfalso; omega
              · exfalso; omega
          · refine kx_if_eq 54 F 71 dX1_takeSymbol_51 (by decide) rfl (by omega) (fun h_636 => (by exfalso; omega)) (fun h_636 => ?_)
            refine kx_aload_n 55 F 0 dX1_takeSymbol_54 rfl rfl rfl ?_
            refine kx_iconst 56 F dX1_takeSymbol_55 rfl ?_
            refine kx_aload_n 57 F 0 dX1_takeSymbol_56 rfl rfl rfl ?_
            have e_637 : (N_566 c0 0) = (M c0 0) := by rw [Fr.e hG_N_566 hk_c0 _ rfl, Fr.e hG_N_551 hk_c0 _ rfl]
            have e_638 : (N_566 (N_566 c0 0) 3) = (M (M c0 0) 3) := by rw [e_637, Fr.e hG_N_566 hk_6 _ rfl, Fr.e hG_N_551 hk_6 _ rfl]
            have h_639 := Inv.g hI_M hk_6 rfl 3 (a := 0) (b := 2) rfl rfl
            have e_640 : N_566 (N_566 c0 0) 4 = M (M c0 0) 4 := by rw [Fr.e hG_N_566 hk_c0 _ rfl, Fr.e hG_N_551 hk_c0 _ rfl, Fr.e hG_N_566 hk_6 _ rfl, Fr.e hG_N_551 hk_6 _ rfl]
            have e_641 : N_566 (N_566 c0 0) 5 = M (M c0 0) 5 := by rw [Fr.e hG_N_566 hk_c0 _ rfl, Fr.e hG_N_551 hk_c0 _ rfl, Fr.e hG_N_566 hk_6 _ rfl, Fr.e hG_N_551 hk_6 _ rfl]
            refine kx_Vr 60 (ci := 0) F (As := []) (st := [vI 0, vR G c0]) vd_X1_135 (e_X1_latestX G l N_566 c0 hI_N_566 hk_c0 x (by omega)) hk_c0 rfl rfl rfl ⟨by decide, by decide⟩ rfl rfl (Nat.le_of_ble_eq_true rfl) dX1_takeSymbol_57 rfl ?_
            intro r_642 N_643 q_644
            obtain ⟨rfl, hk_645, q_644d⟩ := q_644
            rcases q_644d with ⟨q_644c, rfl⟩
            · refine kx_geti 63 F fl_X1_179 hk_645 rfl rfl (j := 1) rfl dX1_takeSymbol_60 (v := (M x 1)) (by rw [Fr.e hG_N_566 hk_645 _ rfl, Fr.e hG_N_551 hk_645 _ rfl]) rfl ?_
              have h_646 := Inv.g hI_M hk_645 rfl 1 (a := 0) (b := 3) rfl rfl
              refine kx_iconst 64 F dX1_takeSymbol_63 rfl ?_
              refine kx_isub 65 F (v := (M x 1) - 1) dX1_takeSymbol_64 rfl rfl ?_
              refine kx_Vi 68 (ci := 0) F (As := [vI 0, vI ((M x 1) - 1)]) (st := []) vd_X1_123 (e_X1_standsNumber G l N_566 c0 0 ((M x 1) - 1) hI_N_566 hk_c0 (by omega) Bt (TB.fr hB hI_M hk_c0 hF_N_566 rfl) (j + 1) (by omega) (by omega)) hk_c0 rfl rfl rfl ⟨by decide, by decide⟩ rfl rfl (Nat.le_of_ble_eq_true rfl) dX1_takeSymbol_65 rfl ?_
              intro r_647 N_648 q_649
              obtain ⟨hI_N_648, hG_N_648, q_649c⟩ := q_649
              have hF_N_648 : Fr f_e_X1_takeSymbol M N_648 := Fr.c hF_N_566 hG_N_648 rfl
              have h_650 := Inv.g hI_N_648 hk_c0 rfl 2 (a := (-2147483648)) (b := 2147483647) rfl rfl
              have h_651 := Inv.g hI_N_648 hk_c0 rfl 3 (a := (-2147483648)) (b := 2147483647) rfl rfl
              rcases q_649c with q_649c | q_649c | q_649c | q_649c
              · refine kx_if_ne 71 F 73 dX1_takeSymbol_68 (by decide) rfl (by omega) (fun h_658 => ?_) (fun h_658 => (by exfalso; omega))
                refine kx_aload_n 74 F 0 dX1_takeSymbol_73 rfl rfl rfl ?_
                refine kx_geti 77 F fl_X1_127 hk_c0 rfl rfl (j := 9) rfl dX1_takeSymbol_74 (v := (N_566 c0 9)) (by rw [Fr.e hG_N_648 hk_c0 _ rfl]) rfl ?_
                refine kx_istore_n 78 F 2 (lo' := [some (vR G c0), some (vI a1), some (vI (N_566 c0 9)), none]) dX1_takeSymbol_77 rfl (by decide) rfl rfl rfl ?_
                refine kx_aload_n 79 F 0 dX1_takeSymbol_78 rfl rfl rfl ?_
                have e_659 : (N_648 c0 7) = (N_566 c0 7) := by rw [Fr.e hG_N_648 hk_c0 _ rfl]
                have e_660 : (N_648 c0 8) = (N_566 c0 8) := by rw [Fr.e hG_N_648 hk_c0 _ rfl]
                refine kx_Vi 82 (ci := 0) F (As := []) (st := []) vd_X1_57 (e_X1_advance G l N_648 c0 hI_N_648 hk_c0 (by omega) Bt (TB.fr hB hI_M hk_c0 hF_N_648 rfl) (j + 2) (j + 1) (by omega) (by omega) (by omega)) hk_c0 rfl rfl rfl ⟨by decide, by decide⟩ rfl rfl (Nat.le_of_ble_eq_true rfl) dX1_takeSymbol_79 rfl ?_
                intro r_663 N_664 q_665
                obtain ⟨hI_N_664, hG_N_664, q_665c⟩ := q_665
                have hF_N_664 : Fr f_e_X1_takeSymbol M N_664 := Fr.c hF_N_648 hG_N_664 rfl
                have ht_666 := tp_le (n := M c0 5) (TB.tx hB hI_M hk_c0) (Inv.g hI_M hk_c0 rfl 5 (a := 0) (b := 900) rfl rfl).1 (j := (j + 2)) (by omega)
                have ht_668 : 0 ≤ tk Bt (j + 2) ∧ tk Bt (j + 2) ≤ 4 := tk_b (n := M c0 5) (TB.tx hB hI_M hk_c0) (by omega)
                have h_669 := Inv.g hI_N_664 hk_c0 rfl 7 (a := 0) (b := 900) rfl rfl
                have h_670 := Inv.g hI_N_664 hk_c0 rfl 8 (a := 0) (b := 900) rfl rfl
                have h_671 := Inv.g hI_N_664 hk_c0 rfl 6 (a := 0) (b := 5) rfl rfl
                have h_672 := Inv.g hI_N_664 hk_c0 rfl 2 (a := (-2147483648)) (b := 2147483647) rfl rfl
                have h_673 := Inv.g hI_N_664 hk_c0 rfl 3 (a := (-2147483648)) (b := 2147483647) rfl rfl
                have h_677 := Inv.g hI_N_664 hk_c0 rfl 9 (a := (-2147483648)) (b := 2147483647) rfl rfl
                rcases q_665c with q_665c | q_665c | q_665c
                · refine kx_istore_n 83 F 3 (lo' := [some (vR G c0), some (vI a1), some (vI (N_566 c0 9)), some (vI r_663)]) dX1_takeSymbol_82 rfl (by decide) rfl rfl rfl ?_
                  refine kx_aload_n 84 F 0 dX1_takeSymbol_83 rfl rfl rfl ?_
                  refine kx_iload_n 85 F 2 dX1_takeSymbol_84 rfl rfl rfl ?_
                  refine kx_puti 88 F fw_X1_127 rfl hk_c0 rfl rfl (j := 9) rfl dX1_takeSymbol_85 rfl ?_
                  intro N_685 hM_N_685
                  have hI_N_685 : Inv false N_685 := Inv.u hI_N_664 hM_N_685 hk_c0 (a := (-2147483648)) (b := 2147483647) rfl rfl rfl (by omega)
                  have hF_N_685 : Fr f_e_X1_takeSymbol M N_685 := Fr.u hF_N_664 hM_N_685 hk_c0 rfl
                  refine kx_iload_n 89 F 3 dX1_takeSymbol_88 rfl rfl rfl ?_
                  have e_686 : (N_685 c0 9) = (N_566 c0 9) := by rw [hM_N_685, mu_s]
                  have e_687 : (N_685 c0 6) = (N_664 c0 6) := by rw [hM_N_685, mu_i (by omega)]
                  have e_688 : (N_685 c0 7) = (N_664 c0 7) := by rw [hM_N_685, mu_i (by omega)]
                  have e_690 : (N_685 c0 8) = (N_664 c0 8) := by rw [hM_N_685, mu_i (by omega)]
                  have e_691 : (N_685 c0 2) = (N_664 c0 2) := by rw [hM_N_685, mu_i (by omega)]
                  have e_692 : (N_685 c0 3) = (N_664 c0 3) := by rw [hM_N_685, mu_i (by omega)]
                  exact kx_zret F hQ (by omega) ⟨hI_N_685, hF_N_685, (Or.inr (Or.inr (Or.inr (Or.inr (Or.inr (Or.inr (Or.inr (Or.inr (Or.inr (Or.inr (Or.inr (Or.inr (Or.inl (by omega))))))))))))))⟩ dX1_takeSymbol_89
                · refine kx_istore_n 83 F 3 (lo' := [some (vR G c0), some (vI a1), some (vI (N_566 c0 9)), some (vI r_663)]) dX1_takeSymbol_82 rfl (by decide) rfl rfl rfl ?_
                  refine kx_aload_n 84 F 0 dX1_takeSymbol_83 rfl rfl rfl ?_
                  refine kx_iload_n 85 F 2 dX1_takeSymbol_84 rfl rfl rfl ?_
                  refine kx_puti 88 F fw_X1_127 rfl hk_c0 rfl rfl (j := 9) rfl dX1_takeSymbol_85 rfl ?_
                  intro N_738 hM_N_738
                  have hI_N_738 : Inv false N_738 := Inv.u hI_N_664 hM_N_738 hk_c0 (a := (-2147483648)) (b := 2147483647) rfl rfl rfl (by omega)
                  have hF_N_738 : Fr f_e_X1_takeSymbol M N_738 := Fr.u hF_N_664 hM_N_738 hk_c0 rfl
                  refine kx_iload_n 89 F 3 dX1_takeSymbol_88 rfl rfl rfl ?_
                  have e_739 : (N_738 c0 9) = (N_566 c0 9) := by rw [hM_N_738, mu_s]
                  have e_740 : (N_738 c0 6) = (N_664 c0 6) := by rw [hM_N_738, mu_i (by omega)]
                  have e_741 : (N_738 c0 7) = (N_664 c0 7) := by rw [hM_N_738, mu_i (by omega)]
                  have e_743 : (N_738 c0 8) = (N_664 c0 8) := by rw [hM_N_738, mu_i (by omega)]
                  have e_744 : (N_738 c0 2) = (N_664 c0 2) := by rw [hM_N_738, mu_i (by omega)]
                  have e_745 : (N_738 c0 3) = (N_664 c0 3) := by rw [hM_N_738, mu_i (by omega)]
                  exact kx_zret F hQ (by omega) ⟨hI_N_738, hF_N_738, (Or.inr (Or.inr (Or.inr (Or.inr (Or.inr (Or.inr (Or.inr (Or.inr (Or.inr (Or.inr (Or.inr (Or.inr (Or.inl (by omega))))))))))))))⟩ dX1_takeSymbol_89
                · refine kx_istore_n 83 F 3 (lo' := [some (vR G c0), some (vI a1), some (vI (N_566 c0 9)), some (vI r_663)]) dX1_takeSymbol_82 rfl (by decide) rfl rfl rfl ?_
                  refine kx_aload_n 84 F 0 dX1_takeSymbol_83 rfl rfl rfl ?_
                  refine kx_iload_n 85 F 2 dX1_takeSymbol_84 rfl rfl rfl ?_
                  refine kx_puti 88 F fw_X1_127 rfl hk_c0 rfl rfl (j := 9) rfl dX1_takeSymbol_85 rfl ?_
                  intro N_791 hM_N_791
                  have hI_N_791 : Inv false N_791 := Inv.u hI_N_664 hM_N_791 hk_c0 (a := (-2147483648)) (b := 2147483647) rfl rfl rfl (by omega)
                  have hF_N_791 : Fr f_e_X1_takeSymbol M N_791 := Fr.u hF_N_664 hM_N_791 hk_c0 rfl
                  refine kx_iload_n 89 F 3 dX1_takeSymbol_88 rfl rfl rfl ?_
                  have e_792 : (N_791 c0 9) = (N_566 c0 9) := by rw [hM_N_791, mu_s]
                  have e_793 : (N_791 c0 6) = (N_664 c0 6) := by rw [hM_N_791, mu_i (by omega)]
                  have e_794 : (N_791 c0 7) = (N_664 c0 7) := by rw [hM_N_791, mu_i (by omega)]
                  have e_796 : (N_791 c0 8) = (N_664 c0 8) := by rw [hM_N_791, mu_i (by omega)]
                  have e_797 : (N_791 c0 2) = (N_664 c0 2) := by rw [hM_N_791, mu_i (by omega)]
                  have e_798 : (N_791 c0 3) = (N_664 c0 3) := by rw [hM_N_791, mu_i (by omega)]
                  exact kx_zret F hQ (by omega) ⟨hI_N_791, hF_N_791, (Or.inr (Or.inr (Or.inr (Or.inr (Or.inr (Or.inr (Or.inr (Or.inr (Or.inr (Or.inr (Or.inr (Or.inl (by omega)))))))))))))⟩ dX1_takeSymbol_89
              · exfalso; omega
              · exfalso; omega
              · refine kx_if_ne 71 F 73 dX1_takeSymbol_68 (by decide) rfl (by omega) (fun h_844 => (by exfalso; omega)) (fun h_844 => ?_)
                refine kx_iconst 72 F dX1_takeSymbol_71 rfl ?_
                have e_845 : (N_648 c0 9) = (N_566 c0 9) := by rw [Fr.e hG_N_648 hk_c0 _ rfl]
                have e_846 : (N_648 c0 6) = (N_566 c0 6) := by rw [Fr.e hG_N_648 hk_c0 _ rfl]
                have e_847 : (N_648 c0 7) = (N_566 c0 7) := by rw [Fr.e hG_N_648 hk_c0 _ rfl]
                have e_849 : (N_648 c0 8) = (N_566 c0 8) := by rw [Fr.e hG_N_648 hk_c0 _ rfl]
                exact kx_zret F hQ (by omega) ⟨hI_N_648, hF_N_648, (Or.inr (Or.inr (Or.inr (Or.inr (Or.inr (Or.inr (Or.inr (Or.inr (Or.inr (Or.inr (Or.inl (by omega))))))))))))⟩ dX1_takeSymbol_72
          · refine kx_if_eq 54 F 71 dX1_takeSymbol_51 (by decide) rfl (by omega) (fun h_867 => ?_) (fun h_867 => (by exfalso; omega))
            refine kx_iconst 72 F dX1_takeSymbol_71 rfl ?_
            exact kx_zret F hQ (by omega) ⟨hI_N_566, hF_N_566, (Or.inr (Or.inr (Or.inr (Or.inr (Or.inr (Or.inr (Or.inr (Or.inr (Or.inl (by omega))))))))))⟩ dX1_takeSymbol_72
        · refine kx_if_ne 45 F 47 dX1_takeSymbol_42 (by decide) rfl (by omega) (fun h_869 => (by exfalso; omega)) (fun h_869 => ?_)
          refine kx_iconst 46 F dX1_takeSymbol_45 rfl ?_
          have e_870 : (N_551 c0 9) = (M c0 9) := by rw [Fr.e hG_N_551 hk_c0 _ rfl]
          have h_871 := Inv.g hI_M hk_c0 rfl 9 (a := (-2147483648)) (b := 2147483647) rfl rfl
          have e_872 : (N_551 c0 6) = (M c0 6) := by rw [Fr.e hG_N_551 hk_c0 _ rfl]
          have e_873 : (N_551 c0 7) = (M c0 7) := by rw [Fr.e hG_N_551 hk_c0 _ rfl]
          have e_875 : (N_551 c0 8) = (M c0 8) := by rw [Fr.e hG_N_551 hk_c0 _ rfl]
          exact kx_zret F hQ (by omega) ⟨hI_N_551, hF_N_551, (Or.inr (Or.inr (Or.inr (Or.inr (Or.inr (Or.inr (Or.inr (Or.inl (by omega)))))))))⟩ dX1_takeSymbol_46
  · refine kx_aload_n 6 F 0 dX1_takeSymbol_5 rfl rfl rfl ?_
    refine kx_iconst 7 F dX1_takeSymbol_6 rfl ?_
    refine kx_puti 10 F fw_X1_127 rfl hk_c0 rfl rfl (j := 9) rfl dX1_takeSymbol_7 rfl ?_
    intro N_893 hM_N_893
    have hI_N_893 : Inv false N_893 := Inv.u hI_M hM_N_893 hk_c0 (a := (-2147483648)) (b := 2147483647) rfl rfl rfl (by omega)
    have hF_N_893 : Fr f_e_X1_takeSymbol M N_893 := Fr.u hF_M hM_N_893 hk_c0 rfl
    refine kx_iconst 11 F dX1_takeSymbol_10 rfl ?_
    have e_894 : (N_893 c0 9) = -1 := by rw [hM_N_893, mu_s]
    have e_895 : (N_893 c0 6) = (M c0 6) := by rw [hM_N_893, mu_i (by omega)]
    have h_896 := Inv.g hI_M hk_c0 rfl 6 (a := 0) (b := 5) rfl rfl
    have e_897 : (N_893 c0 7) = (M c0 7) := by rw [hM_N_893, mu_i (by omega)]
    have e_899 : (N_893 c0 8) = (M c0 8) := by rw [hM_N_893, mu_i (by omega)]
    have e_900 : (N_893 c0 2) = (M c0 2) := by rw [hM_N_893, mu_i (by omega)]
    have h_901 := Inv.g hI_M hk_c0 rfl 2 (a := (-2147483648)) (b := 2147483647) rfl rfl
    have e_902 : (N_893 c0 3) = (M c0 3) := by rw [hM_N_893, mu_i (by omega)]
    have h_903 := Inv.g hI_M hk_c0 rfl 3 (a := (-2147483648)) (b := 2147483647) rfl rfl
    exact kx_zret F hQ (by omega) ⟨hI_N_893, hF_N_893, (Or.inl (by omega))⟩ dX1_takeSymbol_11
