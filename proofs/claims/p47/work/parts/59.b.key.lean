set_option maxHeartbeats 4000000 in
set_option maxRecDepth 100000 in
theorem e_X1_isWord (G : KG) (l : Launch) (M : Mem) (c0 : Int) (i1 : Nat) (hI_M : Inv false M) (hk_c0 : kd c0 = 17) (hpre : i1 < 12 ∧ (i1 < 11)) (Bt : Int → Int) (hB : TB M c0 Bt) (j : Int) (hj : 0 ≤ j) (hs : M c0 6 = tk Bt j ∧ M c0 7 = tp Bt j ∧ M c0 7 + M c0 8 = tq Bt j) : KC false G l yX1_isWord cX1_isWord 3 (some .boolean) (4, 85) [vR G c0, vT G i1] M (fun A => kQi false G A (fun (r : Int) (N : Mem) => M = N ∧ ((r = 1 ∧ (kwd Bt j) = (kwi i1) ∧ (tk Bt j) = 1) ∨ (r = 0 ∧ (kwd Bt j) ≠ (kwi i1))))) := by
  refine kx_met (lo := [some (vR G c0), some (vT G i1), none]) (by decide) (Nat.le_of_ble_eq_true rfl) rfl ?_
  intro X F hQ
  have ht_1 := tp_le (n := M c0 5) (TB.tx hB hI_M hk_c0) (Inv.g hI_M hk_c0 rfl 5 (a := 0) (b := 900) rfl rfl).1 (j := j) (by omega)
  have h_2 := Inv.g hI_M hk_c0 rfl 5 (a := 0) (b := 900) rfl rfl
  have ht_3 : 0 ≤ tk Bt j ∧ tk Bt j ≤ 4 := tk_b (n := M c0 5) (TB.tx hB hI_M hk_c0) (by omega)
  refine kx_aload_n 1 F 0 dX1_isWord_0 rfl rfl rfl ?_
  refine kx_geti 4 F fl_X1_61 hk_c0 rfl rfl (j := 6) rfl dX1_isWord_1 (v := (M c0 6)) rfl rfl ?_
  have h_4 := Inv.g hI_M hk_c0 rfl 6 (a := 0) (b := 5) rfl rfl
  refine kx_iconst 5 F dX1_isWord_4 rfl ?_
  refine kx_icmp_ne 8 F 19 dX1_isWord_5 (by decide) rfl (by omega) (by decide) (fun h_5 => ?_) (fun h_5 => ?_)
  · have hd_6 : kwd Bt j ≠ kwi i1 := kwd_n1 (by omega) (by omega)
    refine kx_iconst 20 F dX1_isWord_19 rfl ?_
    exact kx_zret F hQ (by omega) ⟨rfl, (by omega)⟩ dX1_isWord_20
  · refine kx_aload_n 9 F 0 dX1_isWord_8 rfl rfl rfl ?_
    refine kx_geti 12 F fl_X1_54 hk_c0 rfl rfl (j := 8) rfl dX1_isWord_9 (v := (M c0 8)) rfl rfl ?_
    have h_7 := Inv.g hI_M hk_c0 rfl 8 (a := 0) (b := 900) rfl rfl
    refine kx_aload_n 13 F 1 dX1_isWord_12 rfl rfl rfl ?_
    refine kx_VSi 16 F (As := []) (st := [vI (M c0 8)]) (by omega) vd_X1_192 (c_slength_f G l M i1 hI_M (by omega)) rfl ⟨by decide, by decide⟩ rfl rfl (Nat.le_of_ble_eq_true rfl) dX1_isWord_13 rfl ?_
    intro r_8 N_9 q_10
    obtain ⟨rfl, q_10c⟩ := q_10
    have h_11 := slen_rng i1
    refine kx_icmp_eq 19 F 21 dX1_isWord_16 (by decide) rfl (by omega) (by omega) (fun h_12 => ?_) (fun h_12 => ?_)
    · refine kx_iconst 22 F dX1_isWord_21 rfl ?_
      refine kx_istore_n 23 F 2 (lo' := [some (vR G c0), some (vT G i1), some (vI 0)]) dX1_isWord_22 rfl (by decide) rfl rfl rfl ?_
      have L_161 : ∀ (n_162 : Nat) (x2_160 : Int), EQw M Bt j i1 x2_160 → 0 ≤ x2_160 ∧ x2_160 ≤ 67 → (67 - (x2_160)).toNat = n_162 → KJ false G X M 23 [some (vR G c0), some (vT G i1), some (vI x2_160)] [] := by
        intro n_162
        refine Nat.strongRecOn n_162 ?_
        intro n_162 ih_163 x2_160 hp_166 h_164 hm_165
        refine kx_iload_n 24 F 2 dX1_isWord_23 rfl rfl rfl ?_
        refine kx_aload_n 25 F 0 dX1_isWord_24 rfl rfl rfl ?_
        refine kx_geti 28 F fl_X1_54 hk_c0 rfl rfl (j := 8) rfl dX1_isWord_25 (v := (M c0 8)) rfl rfl ?_
        refine kx_icmp_ge 31 F 57 dX1_isWord_28 (by decide) rfl (by omega) (by omega) (fun h_167 => ?_) (fun h_167 => ?_)
        · have hd_168 : kwd Bt j = kwi i1 := EQw.done hp_166 (by omega) (by omega) (by omega) (by omega)
          refine kx_iconst 58 F dX1_isWord_57 rfl ?_
          exact kx_zret F hQ (by omega) ⟨rfl, (by omega)⟩ dX1_isWord_58
        · refine kx_aload_n 32 F 0 dX1_isWord_31 rfl rfl rfl ?_
          refine kx_aload_n 33 F 0 dX1_isWord_32 rfl rfl rfl ?_
          refine kx_geti 36 F fl_X1_51 hk_c0 rfl rfl (j := 7) rfl dX1_isWord_33 (v := (M c0 7)) rfl rfl ?_
          have h_169 := Inv.g hI_M hk_c0 rfl 7 (a := 0) (b := 900) rfl rfl
          refine kx_iload_n 37 F 2 dX1_isWord_36 rfl rfl rfl ?_
          refine kx_iadd 38 F (v := (M c0 7) + x2_160) dX1_isWord_37 rfl rfl ?_
          refine kx_Vi 41 (ci := 0) F (As := [vI ((M c0 7) + x2_160)]) (st := []) vd_X1_196 (e_X1_byteAt G l M c0 ((M c0 7) + x2_160) hI_M hk_c0 (by omega) Bt hB) hk_c0 rfl rfl rfl ⟨by decide, by decide⟩ rfl rfl (Nat.le_of_ble_eq_true rfl) dX1_isWord_38 rfl ?_
          intro r_170 N_171 q_172
          obtain ⟨rfl, q_172c⟩ := q_172
          rcases q_172c with q_172c | q_172c
          · refine kx_aload_n 42 F 1 dX1_isWord_41 rfl rfl rfl ?_
            refine kx_iload_n 43 F 2 dX1_isWord_42 rfl rfl rfl ?_
            refine kx_VSi 46 F (As := [vI x2_160]) (st := [vI r_170]) (by omega) vd_X1_199 (c_charAt_f G l M i1 x2_160 hI_M (by omega)) rfl ⟨by decide, by decide⟩ rfl rfl (Nat.le_of_ble_eq_true rfl) dX1_isWord_43 rfl ?_
            intro r_173 N_174 q_175
            obtain ⟨rfl, q_175c⟩ := q_175
            have hz_176 := schar_z i1 (by omega) x2_160
            have hz_177 := schar_rng i1 (by omega) x2_160
            refine kx_icmp_eq 49 F 51 dX1_isWord_46 (by decide) rfl (by omega) (by omega) (fun h_178 => ?_) (fun h_178 => ?_)
            · refine kx_iinc 54 F 2 (v := x2_160 + 1) (lo' := [some (vR G c0), some (vT G i1), some (vI (x2_160 + 1))]) dX1_isWord_51 rfl (by omega) (by decide) rfl rfl rfl ?_
              refine kx_goto 23 F dX1_isWord_54 (by decide) ?_
              exact ih_163 _ (by omega) (x2_160 + 1) (EQw.step hp_166 (by rw [show tp Bt j + x2_160 = M c0 7 + x2_160 by omega]; omega)) (by omega) rfl
            · have hd_179 : kwd Bt j ≠ kwi i1 := kwd_n2 (x := x2_160) (by omega) (by omega) (by rw [show tp Bt j + x2_160 = M c0 7 + x2_160 by omega]; omega)
              refine kx_iconst 50 F dX1_isWord_49 rfl ?_
              exact kx_zret F hQ (by omega) ⟨rfl, (by omega)⟩ dX1_isWord_50
          · refine kx_aload_n 42 F 1 dX1_isWord_41 rfl rfl rfl ?_
            refine kx_iload_n 43 F 2 dX1_isWord_42 rfl rfl rfl ?_
            refine kx_VSi 46 F (As := [vI x2_160]) (st := [vI r_170]) (by omega) vd_X1_199 (c_charAt_f G l M i1 x2_160 hI_M (by omega)) rfl ⟨by decide, by decide⟩ rfl rfl (Nat.le_of_ble_eq_true rfl) dX1_isWord_43 rfl ?_
            intro r_180 N_181 q_182
            obtain ⟨rfl, q_182c⟩ := q_182
            have hz_183 := schar_z i1 (by omega) x2_160
            have hz_184 := schar_rng i1 (by omega) x2_160
            refine kx_icmp_eq 49 F 51 dX1_isWord_46 (by decide) rfl (by omega) (by omega) (fun h_185 => (by exfalso; omega)) (fun h_185 => ?_)
            have hd_186 : kwd Bt j ≠ kwi i1 := kwd_n2 (x := x2_160) (by omega) (by omega) (by rw [show tp Bt j + x2_160 = M c0 7 + x2_160 by omega]; omega)
            refine kx_iconst 50 F dX1_isWord_49 rfl ?_
            exact kx_zret F hQ (by omega) ⟨rfl, (by omega)⟩ dX1_isWord_50
      exact L_161 _ 0 EQw.nil (by omega) rfl
    · have hd_187 : kwd Bt j ≠ kwi i1 := kwd_n1 (by omega) (by omega)
      refine kx_iconst 20 F dX1_isWord_19 rfl ?_
      exact kx_zret F hQ (by omega) ⟨rfl, (by omega)⟩ dX1_isWord_20
set_option maxHeartbeats 4000000 in
set_option maxRecDepth 100000 in
theorem e_X1_isKeyword (G : KG) (l : Launch) (M : Mem) (c0 : Int) (hI_M : Inv false M) (hk_c0 : kd c0 = 17) (Bt : Int → Int) (hB : TB M c0 Bt) (j : Int) (hj : 0 ≤ j) (hs : M c0 6 = tk Bt j ∧ M c0 7 = tp Bt j ∧ M c0 7 + M c0 8 = tq Bt j) : KC false G l yX1_isKeyword cX1_isKeyword 1 (some .boolean) (5, 107) [vR G c0] M (fun A => kQi false G A (fun (r : Int) (N : Mem) => M = N ∧ ((r = 1 ∧ (kwd Bt j) ≥ 0) ∨ (r = 0 ∧ (kwd Bt j) = -1)))) := by
  refine kx_met (lo := [some (vR G c0)]) (by decide) (Nat.le_of_ble_eq_true rfl) rfl ?_
  intro X F hQ
  have hd_1 := kwd_r Bt j
  refine kx_aload_n 1 F 0 dX1_isKeyword_0 rfl rfl rfl ?_
  refine kx_ldcS 3 F 0 (by decide) rfl rfl dX1_isKeyword_1 rfl ?_
  have h_2 := Inv.g hI_M hk_c0 rfl 6 (a := 0) (b := 5) rfl rfl
  have h_3 := Inv.g hI_M hk_c0 rfl 7 (a := 0) (b := 900) rfl rfl
  have h_4 := Inv.g hI_M hk_c0 rfl 8 (a := 0) (b := 900) rfl rfl
  refine kx_Vi 6 (ci := 0) F (As := [vT G 0]) (st := []) vd_X1_69 (e_X1_isWord G l M c0 0 hI_M hk_c0 (by omega) Bt hB j (by omega) (by omega)) hk_c0 rfl rfl rfl ⟨by decide, by decide⟩ rfl rfl (Nat.le_of_ble_eq_true rfl) dX1_isKeyword_3 rfl ?_
  intro r_5 N_6 q_7
  obtain ⟨rfl, q_7c⟩ := q_7
  have hw_8 : kwi 0 = 0 := rfl
  rcases q_7c with q_7c | q_7c
  · refine kx_if_ne 9 F 99 dX1_isKeyword_6 (by decide) rfl (by omega) (fun h_9 => ?_) (fun h_9 => (by exfalso; omega))
    refine kx_iconst 100 F dX1_isKeyword_99 rfl ?_
    refine kx_goto 104 F dX1_isKeyword_100 (by decide) ?_
    exact kx_zret F hQ (by omega) ⟨rfl, (by omega)⟩ dX1_isKeyword_104
  · refine kx_if_ne 9 F 99 dX1_isKeyword_6 (by decide) rfl (by omega) (fun h_10 => (by exfalso; omega)) (fun h_10 => ?_)
    refine kx_aload_n 10 F 0 dX1_isKeyword_9 rfl rfl rfl ?_
    refine kx_ldcS 12 F 1 (by decide) rfl rfl dX1_isKeyword_10 rfl ?_
    refine kx_Vi 15 (ci := 0) F (As := [vT G 1]) (st := []) vd_X1_69 (e_X1_isWord G l M c0 1 hI_M hk_c0 (by omega) Bt hB j (by omega) (by omega)) hk_c0 rfl rfl rfl ⟨by decide, by decide⟩ rfl rfl (Nat.le_of_ble_eq_true rfl) dX1_isKeyword_12 rfl ?_
    intro r_11 N_12 q_13
    obtain ⟨rfl, q_13c⟩ := q_13
    have hw_14 : kwi 1 = 1 := rfl
    rcases q_13c with q_13c | q_13c
    · refine kx_if_ne 18 F 99 dX1_isKeyword_15 (by decide) rfl (by omega) (fun h_15 => ?_) (fun h_15 => (by exfalso; omega))
      refine kx_iconst 100 F dX1_isKeyword_99 rfl ?_
      refine kx_goto 104 F dX1_isKeyword_100 (by decide) ?_
      exact kx_zret F hQ (by omega) ⟨rfl, (by omega)⟩ dX1_isKeyword_104
    · refine kx_if_ne 18 F 99 dX1_isKeyword_15 (by decide) rfl (by omega) (fun h_16 => (by exfalso; omega)) (fun h_16 => ?_)
      refine kx_aload_n 19 F 0 dX1_isKeyword_18 rfl rfl rfl ?_
      refine kx_ldcS 21 F 2 (by decide) rfl rfl dX1_isKeyword_19 rfl ?_
      refine kx_Vi 24 (ci := 0) F (As := [vT G 2]) (st := []) vd_X1_69 (e_X1_isWord G l M c0 2 hI_M hk_c0 (by omega) Bt hB j (by omega) (by omega)) hk_c0 rfl rfl rfl ⟨by decide, by decide⟩ rfl rfl (Nat.le_of_ble_eq_true rfl) dX1_isKeyword_21 rfl ?_
      intro r_17 N_18 q_19
      obtain ⟨rfl, q_19c⟩ := q_19
      have hw_20 : kwi 2 = 2 := rfl
      rcases q_19c with q_19c | q_19c
      · refine kx_if_ne 27 F 99 dX1_isKeyword_24 (by decide) rfl (by omega) (fun h_21 => ?_) (fun h_21 => (by exfalso; omega))
        refine kx_iconst 100 F dX1_isKeyword_99 rfl ?_
        refine kx_goto 104 F dX1_isKeyword_100 (by decide) ?_
        exact kx_zret F hQ (by omega) ⟨rfl, (by omega)⟩ dX1_isKeyword_104
      · refine kx_if_ne 27 F 99 dX1_isKeyword_24 (by decide) rfl (by omega) (fun h_22 => (by exfalso; omega)) (fun h_22 => ?_)
        refine kx_aload_n 28 F 0 dX1_isKeyword_27 rfl rfl rfl ?_
        refine kx_ldcS 30 F 3 (by decide) rfl rfl dX1_isKeyword_28 rfl ?_
        refine kx_Vi 33 (ci := 0) F (As := [vT G 3]) (st := []) vd_X1_69 (e_X1_isWord G l M c0 3 hI_M hk_c0 (by omega) Bt hB j (by omega) (by omega)) hk_c0 rfl rfl rfl ⟨by decide, by decide⟩ rfl rfl (Nat.le_of_ble_eq_true rfl) dX1_isKeyword_30 rfl ?_
        intro r_23 N_24 q_25
        obtain ⟨rfl, q_25c⟩ := q_25
        have hw_26 : kwi 3 = 3 := rfl
        rcases q_25c with q_25c | q_25c
        · refine kx_if_ne 36 F 99 dX1_isKeyword_33 (by decide) rfl (by omega) (fun h_27 => ?_) (fun h_27 => (by exfalso; omega))
          refine kx_iconst 100 F dX1_isKeyword_99 rfl ?_
          refine kx_goto 104 F dX1_isKeyword_100 (by decide) ?_
          exact kx_zret F hQ (by omega) ⟨rfl, (by omega)⟩ dX1_isKeyword_104
        · refine kx_if_ne 36 F 99 dX1_isKeyword_33 (by decide) rfl (by omega) (fun h_28 => (by exfalso; omega)) (fun h_28 => ?_)
          refine kx_aload_n 37 F 0 dX1_isKeyword_36 rfl rfl rfl ?_
          refine kx_ldcS 39 F 4 (by decide) rfl rfl dX1_isKeyword_37 rfl ?_
          refine kx_Vi 42 (ci := 0) F (As := [vT G 4]) (st := []) vd_X1_69 (e_X1_isWord G l M c0 4 hI_M hk_c0 (by omega) Bt hB j (by omega) (by omega)) hk_c0 rfl rfl rfl ⟨by decide, by decide⟩ rfl rfl (Nat.le_of_ble_eq_true rfl) dX1_isKeyword_39 rfl ?_
          intro r_29 N_30 q_31
          obtain ⟨rfl, q_31c⟩ := q_31
          have hw_32 : kwi 4 = 7 := rfl
          rcases q_31c with q_31c | q_31c
          · refine kx_if_ne 45 F 99 dX1_isKeyword_42 (by decide) rfl (by omega) (fun h_33 => ?_) (fun h_33 => (by exfalso; omega))
            refine kx_iconst 100 F dX1_isKeyword_99 rfl ?_
            refine kx_goto 104 F dX1_isKeyword_100 (by decide) ?_
            exact kx_zret F hQ (by omega) ⟨rfl, (by omega)⟩ dX1_isKeyword_104
          · refine kx_if_ne 45 F 99 dX1_isKeyword_42 (by decide) rfl (by omega) (fun h_34 => (by exfalso; omega)) (fun h_34 => ?_)
            refine kx_aload_n 46 F 0 dX1_isKeyword_45 rfl rfl rfl ?_
            refine kx_ldcS 48 F 5 (by decide) rfl rfl dX1_isKeyword_46 rfl ?_
            refine kx_Vi 51 (ci := 0) F (As := [vT G 5]) (st := []) vd_X1_69 (e_X1_isWord G l M c0 5 hI_M hk_c0 (by omega) Bt hB j (by omega) (by omega)) hk_c0 rfl rfl rfl ⟨by decide, by decide⟩ rfl rfl (Nat.le_of_ble_eq_true rfl) dX1_isKeyword_48 rfl ?_
            intro r_35 N_36 q_37
            obtain ⟨rfl, q_37c⟩ := q_37
            have hw_38 : kwi 5 = 4 := rfl
            rcases q_37c with q_37c | q_37c
            · refine kx_if_ne 54 F 99 dX1_isKeyword_51 (by decide) rfl (by omega) (fun h_39 => ?_) (fun h_39 => (by exfalso; omega))
              refine kx_iconst 100 F dX1_isKeyword_99 rfl ?_
              refine kx_goto 104 F dX1_isKeyword_100 (by decide) ?_
              exact kx_zret F hQ (by omega) ⟨rfl, (by omega)⟩ dX1_isKeyword_104
            · refine kx_if_ne 54 F 99 dX1_isKeyword_51 (by decide) rfl (by omega) (fun h_40 => (by exfalso; omega)) (fun h_40 => ?_)
              refine kx_aload_n 55 F 0 dX1_isKeyword_54 rfl rfl rfl ?_
              refine kx_ldcS 57 F 6 (by decide) rfl rfl dX1_isKeyword_55 rfl ?_
              refine kx_Vi 60 (ci := 0) F (As := [vT G 6]) (st := []) vd_X1_69 (e_X1_isWord G l M c0 6 hI_M hk_c0 (by omega) Bt hB j (by omega) (by omega)) hk_c0 rfl rfl rfl ⟨by decide, by decide⟩ rfl rfl (Nat.le_of_ble_eq_true rfl) dX1_isKeyword_57 rfl ?_
              intro r_41 N_42 q_43
              obtain ⟨rfl, q_43c⟩ := q_43
              have hw_44 : kwi 6 = 5 := rfl
              rcases q_43c with q_43c | q_43c
              · refine kx_if_ne 63 F 99 dX1_isKeyword_60 (by decide) rfl (by omega) (fun h_45 => ?_) (fun h_45 => (by exfalso; omega))
                refine kx_iconst 100 F dX1_isKeyword_99 rfl ?_
                refine kx_goto 104 F dX1_isKeyword_100 (by decide) ?_
                exact kx_zret F hQ (by omega) ⟨rfl, (by omega)⟩ dX1_isKeyword_104
              · refine kx_if_ne 63 F 99 dX1_isKeyword_60 (by decide) rfl (by omega) (fun h_46 => (by exfalso; omega)) (fun h_46 => ?_)
                refine kx_aload_n 64 F 0 dX1_isKeyword_63 rfl rfl rfl ?_
                refine kx_ldcS 66 F 7 (by decide) rfl rfl dX1_isKeyword_64 rfl ?_
                refine kx_Vi 69 (ci := 0) F (As := [vT G 7]) (st := []) vd_X1_69 (e_X1_isWord G l M c0 7 hI_M hk_c0 (by omega) Bt hB j (by omega) (by omega)) hk_c0 rfl rfl rfl ⟨by decide, by decide⟩ rfl rfl (Nat.le_of_ble_eq_true rfl) dX1_isKeyword_66 rfl ?_
                intro r_47 N_48 q_49
                obtain ⟨rfl, q_49c⟩ := q_49
                have hw_50 : kwi 7 = 6 := rfl
                rcases q_49c with q_49c | q_49c
                · refine kx_if_ne 72 F 99 dX1_isKeyword_69 (by decide) rfl (by omega) (fun h_51 => ?_) (fun h_51 => (by exfalso; omega))
                  refine kx_iconst 100 F dX1_isKeyword_99 rfl ?_
                  refine kx_goto 104 F dX1_isKeyword_100 (by decide) ?_
                  exact kx_zret F hQ (by omega) ⟨rfl, (by omega)⟩ dX1_isKeyword_104
                · refine kx_if_ne 72 F 99 dX1_isKeyword_69 (by decide) rfl (by omega) (fun h_52 => (by exfalso; omega)) (fun h_52 => ?_)
                  refine kx_aload_n 73 F 0 dX1_isKeyword_72 rfl rfl rfl ?_
                  refine kx_ldcS 75 F 8 (by decide) rfl rfl dX1_isKeyword_73 rfl ?_
                  refine kx_Vi 78 (ci := 0) F (As := [vT G 8]) (st := []) vd_X1_69 (e_X1_isWord G l M c0 8 hI_M hk_c0 (by omega) Bt hB j (by omega) (by omega)) hk_c0 rfl rfl rfl ⟨by decide, by decide⟩ rfl rfl (Nat.le_of_ble_eq_true rfl) dX1_isKeyword_75 rfl ?_
                  intro r_53 N_54 q_55
                  obtain ⟨rfl, q_55c⟩ := q_55
                  have hw_56 : kwi 8 = 8 := rfl
                  rcases q_55c with q_55c | q_55c
                  · refine kx_if_ne 81 F 99 dX1_isKeyword_78 (by decide) rfl (by omega) (fun h_57 => ?_) (fun h_57 => (by exfalso; omega))
                    refine kx_iconst 100 F dX1_isKeyword_99 rfl ?_
                    refine kx_goto 104 F dX1_isKeyword_100 (by decide) ?_
                    exact kx_zret F hQ (by omega) ⟨rfl, (by omega)⟩ dX1_isKeyword_104
                  · refine kx_if_ne 81 F 99 dX1_isKeyword_78 (by decide) rfl (by omega) (fun h_58 => (by exfalso; omega)) (fun h_58 => ?_)
                    refine kx_aload_n 82 F 0 dX1_isKeyword_81 rfl rfl rfl ?_
                    refine kx_ldcS 84 F 9 (by decide) rfl rfl dX1_isKeyword_82 rfl ?_
                    refine kx_Vi 87 (ci := 0) F (As := [vT G 9]) (st := []) vd_X1_69 (e_X1_isWord G l M c0 9 hI_M hk_c0 (by omega) Bt hB j (by omega) (by omega)) hk_c0 rfl rfl rfl ⟨by decide, by decide⟩ rfl rfl (Nat.le_of_ble_eq_true rfl) dX1_isKeyword_84 rfl ?_
                    intro r_59 N_60 q_61
                    obtain ⟨rfl, q_61c⟩ := q_61
                    have hw_62 : kwi 9 = 9 := rfl
                    rcases q_61c with q_61c | q_61c
                    · refine kx_if_ne 90 F 99 dX1_isKeyword_87 (by decide) rfl (by omega) (fun h_63 => ?_) (fun h_63 => (by exfalso; omega))
                      refine kx_iconst 100 F dX1_isKeyword_99 rfl ?_
                      refine kx_goto 104 F dX1_isKeyword_100 (by decide) ?_
                      exact kx_zret F hQ (by omega) ⟨rfl, (by omega)⟩ dX1_isKeyword_104
                    · refine kx_if_ne 90 F 99 dX1_isKeyword_87 (by decide) rfl (by omega) (fun h_64 => (by exfalso; omega)) (fun h_64 => ?_)
                      refine kx_aload_n 91 F 0 dX1_isKeyword_90 rfl rfl rfl ?_
                      refine kx_ldcS 93 F 10 (by decide) rfl rfl dX1_isKeyword_91 rfl ?_
                      refine kx_Vi 96 (ci := 0) F (As := [vT G 10]) (st := []) vd_X1_69 (e_X1_isWord G l M c0 10 hI_M hk_c0 (by omega) Bt hB j (by omega) (by omega)) hk_c0 rfl rfl rfl ⟨by decide, by decide⟩ rfl rfl (Nat.le_of_ble_eq_true rfl) dX1_isKeyword_93 rfl ?_
                      intro r_65 N_66 q_67
                      obtain ⟨rfl, q_67c⟩ := q_67
                      have hw_68 : kwi 10 = 10 := rfl
                      rcases q_67c with q_67c | q_67c
                      · refine kx_if_eq 99 F 103 dX1_isKeyword_96 (by decide) rfl (by omega) (fun h_69 => (by exfalso; omega)) (fun h_69 => ?_)
                        refine kx_iconst 100 F dX1_isKeyword_99 rfl ?_
                        refine kx_goto 104 F dX1_isKeyword_100 (by decide) ?_
                        exact kx_zret F hQ (by omega) ⟨rfl, (by omega)⟩ dX1_isKeyword_104
                      · refine kx_if_eq 99 F 103 dX1_isKeyword_96 (by decide) rfl (by omega) (fun h_70 => ?_) (fun h_70 => (by exfalso; omega))
                        refine kx_iconst 104 F dX1_isKeyword_103 rfl ?_
                        exact kx_zret F hQ (by omega) ⟨rfl, (by omega)⟩ dX1_isKeyword_104
abbrev f_e_X1_standsSign : List (Nat × Int) := [(17, 2), (17, 3)]
set_option maxHeartbeats 4000000 in
set_option maxRecDepth 100000 in
theorem e_X1_standsSign (G : KG) (l : Launch) (M : Mem) (c0 : Int) (hI_M : Inv false M) (hk_c0 : kd c0 = 17) (Bt : Int → Int) (hB : TB M c0 Bt) (j : Int) (hj : 0 ≤ j) (hs : M c0 6 = tk Bt j ∧ M c0 7 = tp Bt j ∧ M c0 7 + M c0 8 = tq Bt j) : KC false G l yX1_standsSign cX1_standsSign 1 (some .boolean) (1, 21) [vR G c0] M (fun A => kQi false G A (fun (r : Int) (N : Mem) => Inv false N ∧ Fr f_e_X1_standsSign M N ∧ ((r = 1 ∧ (tk Bt j) = 3 ∧ (N c0 2) = (M c0 2) ∧ (N c0 3) = (M c0 3)) ∨ (r = 0 ∧ (tk Bt j) ≠ 3 ∧ (N c0 2) = 2 ∧ (N c0 3) = (tp Bt j))))) := by
  refine kx_met (lo := [some (vR G c0)]) (by decide) (Nat.le_of_ble_eq_true rfl) rfl ?_
  intro X F hQ
  have hF_M : Fr f_e_X1_standsSign M M := Fr.rf _ _
  refine kx_aload_n 1 F 0 dX1_standsSign_0 rfl rfl rfl ?_
  refine kx_geti 4 F fl_X1_61 hk_c0 rfl rfl (j := 6) rfl dX1_standsSign_1 (v := (M c0 6)) rfl rfl ?_
  have h_1 := Inv.g hI_M hk_c0 rfl 6 (a := 0) (b := 5) rfl rfl
  refine kx_iconst 5 F dX1_standsSign_4 rfl ?_
  refine kx_icmp_eq 8 F 16 dX1_standsSign_5 (by decide) rfl (by omega) (by decide) (fun h_2 => ?_) (fun h_2 => ?_)
  · refine kx_iconst 17 F dX1_standsSign_16 rfl ?_
    refine kx_goto 21 F dX1_standsSign_17 (by decide) ?_
    have h_3 := Inv.g hI_M hk_c0 rfl 2 (a := (-2147483648)) (b := 2147483647) rfl rfl
    have h_4 := Inv.g hI_M hk_c0 rfl 3 (a := (-2147483648)) (b := 2147483647) rfl rfl
    exact kx_zret F hQ (by omega) ⟨hI_M, hF_M, (by omega)⟩ dX1_standsSign_21
  · refine kx_aload_n 9 F 0 dX1_standsSign_8 rfl rfl rfl ?_
    refine kx_iconst 10 F dX1_standsSign_9 rfl ?_
    refine kx_Vi 13 (ci := 0) F (As := [vI 2]) (st := []) vd_X1_89 (e_X1_fail G l M c0 2 hI_M hk_c0 (by omega)) hk_c0 rfl rfl rfl ⟨by decide, by decide⟩ rfl rfl (Nat.le_of_ble_eq_true rfl) dX1_standsSign_10 rfl ?_
    intro r_5 N_6 q_7
    obtain ⟨hI_N_6, hG_N_6, q_7c⟩ := q_7
    have hF_N_6 : Fr f_e_X1_standsSign M N_6 := Fr.c hF_M hG_N_6 rfl
    have h_8 := Inv.g hI_N_6 hk_c0 rfl 2 (a := (-2147483648)) (b := 2147483647) rfl rfl
    have h_9 := Inv.g hI_M hk_c0 rfl 7 (a := 0) (b := 900) rfl rfl
    have h_10 := Inv.g hI_N_6 hk_c0 rfl 3 (a := (-2147483648)) (b := 2147483647) rfl rfl
    refine kx_if_eq 16 F 20 dX1_standsSign_13 (by decide) rfl (by omega) (fun h_11 => ?_) (fun h_11 => (by exfalso; omega))
    refine kx_iconst 21 F dX1_standsSign_20 rfl ?_
    exact kx_zret F hQ (by omega) ⟨hI_N_6, hF_N_6, (by omega)⟩ dX1_standsSign_21
abbrev f_e_X1_standsWord : List (Nat × Int) := [(17, 2), (17, 3)]
set_option maxHeartbeats 4000000 in
set_option maxRecDepth 100000 in
theorem e_X1_standsWord (G : KG) (l : Launch) (M : Mem) (c0 : Int) (i1 : Nat) (hI_M : Inv false M) (hk_c0 : kd c0 = 17) (hpre : i1 < 12 ∧ (i1 < 11)) (Bt : Int → Int) (hB : TB M c0 Bt) (j : Int) (hj : 0 ≤ j) (hs : M c0 6 = tk Bt j ∧ M c0 7 = tp Bt j ∧ M c0 7 + M c0 8 = tq Bt j) : KC false G l yX1_standsWord cX1_standsWord 2 (some .boolean) (5, 107) [vR G c0, vT G i1] M (fun A => kQi false G A (fun (r : Int) (N : Mem) => Inv false N ∧ Fr f_e_X1_standsWord M N ∧ ((r = 1 ∧ (kwd Bt j) = (kwi i1) ∧ (tk Bt j) = 1 ∧ (N c0 2) = (M c0 2) ∧ (N c0 3) = (M c0 3)) ∨ (r = 0 ∧ (kwd Bt j) ≠ (kwi i1) ∧ (N c0 2) = 2 ∧ (N c0 3) = (tp Bt j))))) := by
  refine kx_met (lo := [some (vR G c0), some (vT G i1)]) (by decide) (Nat.le_of_ble_eq_true rfl) rfl ?_
  intro X F hQ
  have hF_M : Fr f_e_X1_standsWord M M := Fr.rf _ _
  refine kx_aload_n 1 F 0 dX1_standsWord_0 rfl rfl rfl ?_
  refine kx_aload_n 2 F 1 dX1_standsWord_1 rfl rfl rfl ?_
  have h_1 := Inv.g hI_M hk_c0 rfl 6 (a := 0) (b := 5) rfl rfl
  have h_2 := Inv.g hI_M hk_c0 rfl 7 (a := 0) (b := 900) rfl rfl
  have h_3 := Inv.g hI_M hk_c0 rfl 8 (a := 0) (b := 900) rfl rfl
  refine kx_Vi 5 (ci := 0) F (As := [vT G i1]) (st := []) vd_X1_69 (e_X1_isWord G l M c0 i1 hI_M hk_c0 (by omega) Bt hB j (by omega) (by omega)) hk_c0 rfl rfl rfl ⟨by decide, by decide⟩ rfl rfl (Nat.le_of_ble_eq_true rfl) dX1_standsWord_2 rfl ?_
  intro r_4 N_5 q_6
  obtain ⟨rfl, q_6c⟩ := q_6
  rcases q_6c with q_6c | q_6c
  · refine kx_if_ne 8 F 16 dX1_standsWord_5 (by decide) rfl (by omega) (fun h_7 => ?_) (fun h_7 => (by exfalso; omega))
    refine kx_iconst 17 F dX1_standsWord_16 rfl ?_
    refine kx_goto 21 F dX1_standsWord_17 (by decide) ?_
    have h_8 := Inv.g hI_M hk_c0 rfl 2 (a := (-2147483648)) (b := 2147483647) rfl rfl
    have h_9 := Inv.g hI_M hk_c0 rfl 3 (a := (-2147483648)) (b := 2147483647) rfl rfl
    exact kx_zret F hQ (by omega) ⟨hI_M, hF_M, (by omega)⟩ dX1_standsWord_21
  · refine kx_if_ne 8 F 16 dX1_standsWord_5 (by decide) rfl (by omega) (fun h_10 => (by exfalso; omega)) (fun h_10 => ?_)
    refine kx_aload_n 9 F 0 dX1_standsWord_8 rfl rfl rfl ?_
    refine kx_iconst 10 F dX1_standsWord_9 rfl ?_
    refine kx_Vi 13 (ci := 0) F (As := [vI 2]) (st := []) vd_X1_89 (e_X1_fail G l M c0 2 hI_M hk_c0 (by omega)) hk_c0 rfl rfl rfl ⟨by decide, by decide⟩ rfl rfl (Nat.le_of_ble_eq_true rfl) dX1_standsWord_10 rfl ?_
    intro r_11 N_12 q_13
    obtain ⟨hI_N_12, hG_N_12, q_13c⟩ := q_13
    have hF_N_12 : Fr f_e_X1_standsWord M N_12 := Fr.c hF_M hG_N_12 rfl
    have h_14 := Inv.g hI_N_12 hk_c0 rfl 2 (a := (-2147483648)) (b := 2147483647) rfl rfl
    have h_15 := Inv.g hI_N_12 hk_c0 rfl 3 (a := (-2147483648)) (b := 2147483647) rfl rfl
    refine kx_if_eq 16 F 20 dX1_standsWord_13 (by decide) rfl (by omega) (fun h_16 => ?_) (fun h_16 => (by exfalso; omega))
    refine kx_iconst 21 F dX1_standsWord_20 rfl ?_
    exact kx_zret F hQ (by omega) ⟨hI_N_12, hF_N_12, (by omega)⟩ dX1_standsWord_21
abbrev f_e_X1_standsName : List (Nat × Int) := [(17, 2), (17, 3)]
set_option maxHeartbeats 4000000 in
set_option maxRecDepth 100000 in
theorem e_X1_standsName (G : KG) (l : Launch) (M : Mem) (c0 : Int) (hI_M : Inv false M) (hk_c0 : kd c0 = 17) (Bt : Int → Int) (hB : TB M c0 Bt) (j : Int) (hj : 0 ≤ j) (hs : M c0 6 = tk Bt j ∧ M c0 7 = tp Bt j ∧ M c0 7 + M c0 8 = tq Bt j) : KC false G l yX1_standsName cX1_standsName 1 (some .boolean) (6, 127) [vR G c0] M (fun A => kQi false G A (fun (r : Int) (N : Mem) => Inv false N ∧ Fr f_e_X1_standsName M N ∧ ((r = 1 ∧ (nm Bt j) = 1 ∧ (tk Bt j) = 1 ∧ (N c0 2) = (M c0 2) ∧ (N c0 3) = (M c0 3)) ∨ (r = 0 ∧ (nm Bt j) = 0 ∧ (N c0 2) = 2 ∧ (N c0 3) = (tp Bt j))))) := by
  refine kx_met (lo := [some (vR G c0)]) (by decide) (Nat.le_of_ble_eq_true rfl) rfl ?_
  intro X F hQ
  have hF_M : Fr f_e_X1_standsName M M := Fr.rf _ _
  have hd_1 := kwd_r Bt j
  refine kx_aload_n 1 F 0 dX1_standsName_0 rfl rfl rfl ?_
  refine kx_geti 4 F fl_X1_61 hk_c0 rfl rfl (j := 6) rfl dX1_standsName_1 (v := (M c0 6)) rfl rfl ?_
  have h_2 := Inv.g hI_M hk_c0 rfl 6 (a := 0) (b := 5) rfl rfl
  refine kx_iconst 5 F dX1_standsName_4 rfl ?_
  refine kx_icmp_ne 8 F 24 dX1_standsName_5 (by decide) rfl (by omega) (by decide) (fun h_3 => ?_) (fun h_3 => ?_)
  · have hd_4 : nm Bt j = 0 := by have := nm_c Bt j; omega
    refine kx_aload_n 25 F 0 dX1_standsName_24 rfl rfl rfl ?_
    refine kx_iconst 26 F dX1_standsName_25 rfl ?_
    refine kx_Vi 29 (ci := 0) F (As := [vI 2]) (st := []) vd_X1_89 (e_X1_fail G l M c0 2 hI_M hk_c0 (by omega)) hk_c0 rfl rfl rfl ⟨by decide, by decide⟩ rfl rfl (Nat.le_of_ble_eq_true rfl) dX1_standsName_26 rfl ?_
    intro r_5 N_6 q_7
    obtain ⟨hI_N_6, hG_N_6, q_7c⟩ := q_7
    have hF_N_6 : Fr f_e_X1_standsName M N_6 := Fr.c hF_M hG_N_6 rfl
    have h_8 := Inv.g hI_N_6 hk_c0 rfl 2 (a := (-2147483648)) (b := 2147483647) rfl rfl
    have h_9 := Inv.g hI_M hk_c0 rfl 7 (a := 0) (b := 900) rfl rfl
    have h_10 := Inv.g hI_N_6 hk_c0 rfl 3 (a := (-2147483648)) (b := 2147483647) rfl rfl
    refine kx_if_eq 32 F 36 dX1_standsName_29 (by decide) rfl (by omega) (fun h_11 => ?_) (fun h_11 => (by exfalso; omega))
    refine kx_iconst 37 F dX1_standsName_36 rfl ?_
    exact kx_zret F hQ (by omega) ⟨hI_N_6, hF_N_6, (by omega)⟩ dX1_standsName_37
  · refine kx_aload_n 9 F 0 dX1_standsName_8 rfl rfl rfl ?_
    refine kx_geti 12 F fl_X1_54 hk_c0 rfl rfl (j := 8) rfl dX1_standsName_9 (v := (M c0 8)) rfl rfl ?_
    have h_12 := Inv.g hI_M hk_c0 rfl 8 (a := 0) (b := 900) rfl rfl
    refine kx_bipush 14 F dX1_standsName_12 (by decide) rfl ?_
    refine kx_icmp_gt 17 F 24 dX1_standsName_14 (by decide) rfl (by omega) (by decide) (fun h_13 => ?_) (fun h_13 => ?_)
    · have hd_14 : nm Bt j = 0 := by have := nm_c Bt j; omega
      refine kx_aload_n 25 F 0 dX1_standsName_24 rfl rfl rfl ?_
      refine kx_iconst 26 F dX1_standsName_25 rfl ?_
      refine kx_Vi 29 (ci := 0) F (As := [vI 2]) (st := []) vd_X1_89 (e_X1_fail G l M c0 2 hI_M hk_c0 (by omega)) hk_c0 rfl rfl rfl ⟨by decide, by decide⟩ rfl rfl (Nat.le_of_ble_eq_true rfl) dX1_standsName_26 rfl ?_
      intro r_15 N_16 q_17
      obtain ⟨hI_N_16, hG_N_16, q_17c⟩ := q_17
      have hF_N_16 : Fr f_e_X1_standsName M N_16 := Fr.c hF_M hG_N_16 rfl
      have h_18 := Inv.g hI_N_16 hk_c0 rfl 2 (a := (-2147483648)) (b := 2147483647) rfl rfl
      have h_19 := Inv.g hI_M hk_c0 rfl 7 (a := 0) (b := 900) rfl rfl
      have h_20 := Inv.g hI_N_16 hk_c0 rfl 3 (a := (-2147483648)) (b := 2147483647) rfl rfl
      refine kx_if_eq 32 F 36 dX1_standsName_29 (by decide) rfl (by omega) (fun h_21 => ?_) (fun h_21 => (by exfalso; omega))
      refine kx_iconst 37 F dX1_standsName_36 rfl ?_
      exact kx_zret F hQ (by omega) ⟨hI_N_16, hF_N_16, (by omega)⟩ dX1_standsName_37
    · refine kx_aload_n 18 F 0 dX1_standsName_17 rfl rfl rfl ?_
      have h_22 := Inv.g hI_M hk_c0 rfl 7 (a := 0) (b := 900) rfl rfl
      refine kx_Vi 21 (ci := 0) F (As := []) (st := []) vd_X1_185 (e_X1_isKeyword G l M c0 hI_M hk_c0 Bt hB j (by omega) (by omega)) hk_c0 rfl rfl rfl ⟨by decide, by decide⟩ rfl rfl (Nat.le_of_ble_eq_true rfl) dX1_standsName_18 rfl ?_
      intro r_23 N_24 q_25
      obtain ⟨rfl, q_25c⟩ := q_25
      rcases q_25c with q_25c | q_25c
      · refine kx_if_eq 24 F 32 dX1_standsName_21 (by decide) rfl (by omega) (fun h_26 => (by exfalso; omega)) (fun h_26 => ?_)
        have hd_27 : nm Bt j = 0 := by have := nm_c Bt j; omega
        refine kx_aload_n 25 F 0 dX1_standsName_24 rfl rfl rfl ?_
        refine kx_iconst 26 F dX1_standsName_25 rfl ?_
        refine kx_Vi 29 (ci := 0) F (As := [vI 2]) (st := []) vd_X1_89 (e_X1_fail G l M c0 2 hI_M hk_c0 (by omega)) hk_c0 rfl rfl rfl ⟨by decide, by decide⟩ rfl rfl (Nat.le_of_ble_eq_true rfl) dX1_standsName_26 rfl ?_
        intro r_28 N_29 q_30
        obtain ⟨hI_N_29, hG_N_29, q_30c⟩ := q_30
        have hF_N_29 : Fr f_e_X1_standsName M N_29 := Fr.c hF_M hG_N_29 rfl
        have h_31 := Inv.g hI_N_29 hk_c0 rfl 2 (a := (-2147483648)) (b := 2147483647) rfl rfl
        have h_32 := Inv.g hI_N_29 hk_c0 rfl 3 (a := (-2147483648)) (b := 2147483647) rfl rfl
        refine kx_if_eq 32 F 36 dX1_standsName_29 (by decide) rfl (by omega) (fun h_33 => ?_) (fun h_33 => (by exfalso; omega))
        refine kx_iconst 37 F dX1_standsName_36 rfl ?_
        exact kx_zret F hQ (by omega) ⟨hI_N_29, hF_N_29, (by omega)⟩ dX1_standsName_37
      · refine kx_if_eq 24 F 32 dX1_standsName_21 (by decide) rfl (by omega) (fun h_34 => ?_) (fun h_34 => (by exfalso; omega))
        have hd_35 : nm Bt j = 1 := by have := nm_c Bt j; omega
        refine kx_iconst 33 F dX1_standsName_32 rfl ?_
        refine kx_goto 37 F dX1_standsName_33 (by decide) ?_
        have h_36 := Inv.g hI_M hk_c0 rfl 2 (a := (-2147483648)) (b := 2147483647) rfl rfl
        have h_37 := Inv.g hI_M hk_c0 rfl 3 (a := (-2147483648)) (b := 2147483647) rfl rfl
        exact kx_zret F hQ (by omega) ⟨hI_M, hF_M, (by omega)⟩ dX1_standsName_37
abbrev f_e_X1_standsNumber : List (Nat × Int) := [(17, 2), (17, 3)]
set_option maxHeartbeats 4000000 in
set_option maxRecDepth 100000 in
theorem e_X1_standsNumber (G : KG) (l : Launch) (M : Mem) (c0 : Int) (a1 : Int) (a2 : Int) (hI_M : Inv false M) (hk_c0 : kd c0 = 17) (hpre : -2147483648 ≤ a1 ∧ a1 ≤ 2147483647 ∧ -2147483648 ≤ a2 ∧ a2 ≤ 2147483647) (Bt : Int → Int) (hB : TB M c0 Bt) (j : Int) (hj : 0 ≤ j) (hs : M c0 6 = tk Bt j ∧ M c0 7 = tp Bt j ∧ M c0 7 + M c0 8 = tq Bt j) : KC false G l yX1_standsNumber cX1_standsNumber 3 (some .boolean) (1, 22) [vR G c0, vI a1, vI a2] M (fun A => kQi false G A (fun (r : Int) (N : Mem) => Inv false N ∧ Fr f_e_X1_standsNumber M N ∧ ((r = 1 ∧ (tk Bt j) = 2 ∧ a1 ≤ (M c0 9) ∧ (M c0 9) ≤ a2 ∧ (N c0 2) = (M c0 2) ∧ (N c0 3) = (M c0 3)) ∨ (r = 0 ∧ (tk Bt j) ≠ 2 ∧ (N c0 2) = 2 ∧ (N c0 3) = (tp Bt j)) ∨ (r = 0 ∧ (tk Bt j) = 2 ∧ (M c0 9) < a1 ∧ (N c0 2) = 4 ∧ (N c0 3) = (tp Bt j)) ∨ (r = 0 ∧ (tk Bt j) = 2 ∧ (M c0 9) > a2 ∧ (N c0 2) = 4 ∧ (N c0 3) = (tp Bt j))))) := by
  refine kx_met (lo := [some (vR G c0), some (vI a1), some (vI a2)]) (by decide) (Nat.le_of_ble_eq_true rfl) rfl ?_
  intro X F hQ
  have hF_M : Fr f_e_X1_standsNumber M M := Fr.rf _ _
  refine kx_aload_n 1 F 0 dX1_standsNumber_0 rfl rfl rfl ?_
  refine kx_geti 4 F fl_X1_61 hk_c0 rfl rfl (j := 6) rfl dX1_standsNumber_1 (v := (M c0 6)) rfl rfl ?_
  have h_1 := Inv.g hI_M hk_c0 rfl 6 (a := 0) (b := 5) rfl rfl
  refine kx_iconst 5 F dX1_standsNumber_4 rfl ?_
  refine kx_icmp_eq 8 F 14 dX1_standsNumber_5 (by decide) rfl (by omega) (by decide) (fun h_2 => ?_) (fun h_2 => ?_)
  · refine kx_aload_n 15 F 0 dX1_standsNumber_14 rfl rfl rfl ?_
    refine kx_geti 18 F fl_X1_127 hk_c0 rfl rfl (j := 9) rfl dX1_standsNumber_15 (v := (M c0 9)) rfl rfl ?_
    have h_3 := Inv.g hI_M hk_c0 rfl 9 (a := (-2147483648)) (b := 2147483647) rfl rfl
    refine kx_iload_n 19 F 1 dX1_standsNumber_18 rfl rfl rfl ?_
    refine kx_iload_n 20 F 2 dX1_standsNumber_19 rfl rfl rfl ?_
    refine kx_SNi 23 F (As := [vI (M c0 9), vI a1, vI a2]) (st := []) sn_X1_188 (e_X11_within G l M (M c0 9) a1 a2 hI_M (by omega)) ⟨by decide, by decide⟩ rfl rfl (Nat.le_of_ble_eq_true rfl) dX1_standsNumber_20 rfl ?_
    intro r_4 N_5 q_6
    obtain ⟨rfl, q_6c⟩ := q_6
    rcases q_6c with q_6c | q_6c | q_6c
    · refine kx_if_ne 26 F 34 dX1_standsNumber_23 (by decide) rfl (by omega) (fun h_7 => ?_) (fun h_7 => (by exfalso; omega))
      refine kx_iconst 35 F dX1_standsNumber_34 rfl ?_
      refine kx_goto 39 F dX1_standsNumber_35 (by decide) ?_
      have h_8 := Inv.g hI_M hk_c0 rfl 2 (a := (-2147483648)) (b := 2147483647) rfl rfl
      have h_9 := Inv.g hI_M hk_c0 rfl 3 (a := (-2147483648)) (b := 2147483647) rfl rfl
      exact kx_zret F hQ (by omega) ⟨hI_M, hF_M, (Or.inl (by omega))⟩ dX1_standsNumber_39
    · refine kx_if_ne 26 F 34 dX1_standsNumber_23 (by decide) rfl (by omega) (fun h_10 => (by exfalso; omega)) (fun h_10 => ?_)
      refine kx_aload_n 27 F 0 dX1_standsNumber_26 rfl rfl rfl ?_
      refine kx_iconst 28 F dX1_standsNumber_27 rfl ?_
      refine kx_Vi 31 (ci := 0) F (As := [vI 4]) (st := []) vd_X1_89 (e_X1_fail G l M c0 4 hI_M hk_c0 (by omega)) hk_c0 rfl rfl rfl ⟨by decide, by decide⟩ rfl rfl (Nat.le_of_ble_eq_true rfl) dX1_standsNumber_28 rfl ?_
      intro r_11 N_12 q_13
      obtain ⟨hI_N_12, hG_N_12, q_13c⟩ := q_13
      have hF_N_12 : Fr f_e_X1_standsNumber M N_12 := Fr.c hF_M hG_N_12 rfl
      have h_14 := Inv.g hI_N_12 hk_c0 rfl 2 (a := (-2147483648)) (b := 2147483647) rfl rfl
      have h_15 := Inv.g hI_M hk_c0 rfl 7 (a := 0) (b := 900) rfl rfl
      have h_16 := Inv.g hI_N_12 hk_c0 rfl 3 (a := (-2147483648)) (b := 2147483647) rfl rfl
      refine kx_if_eq 34 F 38 dX1_standsNumber_31 (by decide) rfl (by omega) (fun h_17 => ?_) (fun h_17 => (by exfalso; omega))
      refine kx_iconst 39 F dX1_standsNumber_38 rfl ?_
      exact kx_zret F hQ (by omega) ⟨hI_N_12, hF_N_12, (by omega)⟩ dX1_standsNumber_39
    · refine kx_if_ne 26 F 34 dX1_standsNumber_23 (by decide) rfl (by omega) (fun h_18 => (by exfalso; omega)) (fun h_18 => ?_)
      refine kx_aload_n 27 F 0 dX1_standsNumber_26 rfl rfl rfl ?_
      refine kx_iconst 28 F dX1_standsNumber_27 rfl ?_
      refine kx_Vi 31 (ci := 0) F (As := [vI 4]) (st := []) vd_X1_89 (e_X1_fail G l M c0 4 hI_M hk_c0 (by omega)) hk_c0 rfl rfl rfl ⟨by decide, by decide⟩ rfl rfl (Nat.le_of_ble_eq_true rfl) dX1_standsNumber_28 rfl ?_
      intro r_19 N_20 q_21
      obtain ⟨hI_N_20, hG_N_20, q_21c⟩ := q_21
      have hF_N_20 : Fr f_e_X1_standsNumber M N_20 := Fr.c hF_M hG_N_20 rfl
      have h_22 := Inv.g hI_N_20 hk_c0 rfl 2 (a := (-2147483648)) (b := 2147483647) rfl rfl
      have h_23 := Inv.g hI_M hk_c0 rfl 7 (a := 0) (b := 900) rfl rfl
      have h_24 := Inv.g hI_N_20 hk_c0 rfl 3 (a := (-2147483648)) (b := 2147483647) rfl rfl
      refine kx_if_eq 34 F 38 dX1_standsNumber_31 (by decide) rfl (by omega) (fun h_25 => ?_) (fun h_25 => (by exfalso; omega))
      refine kx_iconst 39 F dX1_standsNumber_38 rfl ?_
      exact kx_zret F hQ (by omega) ⟨hI_N_20, hF_N_20, (by omega)⟩ dX1_standsNumber_39
  · refine kx_aload_n 9 F 0 dX1_standsNumber_8 rfl rfl rfl ?_
    refine kx_iconst 10 F dX1_standsNumber_9 rfl ?_
    refine kx_Vi 13 (ci := 0) F (As := [vI 2]) (st := []) vd_X1_89 (e_X1_fail G l M c0 2 hI_M hk_c0 (by omega)) hk_c0 rfl rfl rfl ⟨by decide, by decide⟩ rfl rfl (Nat.le_of_ble_eq_true rfl) dX1_standsNumber_10 rfl ?_
    intro r_26 N_27 q_28
    obtain ⟨hI_N_27, hG_N_27, q_28c⟩ := q_28
    have hF_N_27 : Fr f_e_X1_standsNumber M N_27 := Fr.c hF_M hG_N_27 rfl
    have h_29 := Inv.g hI_N_27 hk_c0 rfl 2 (a := (-2147483648)) (b := 2147483647) rfl rfl
    have h_30 := Inv.g hI_M hk_c0 rfl 7 (a := 0) (b := 900) rfl rfl
    have h_31 := Inv.g hI_N_27 hk_c0 rfl 3 (a := (-2147483648)) (b := 2147483647) rfl rfl
    exact kx_zret F hQ (by omega) ⟨hI_N_27, hF_N_27, (Or.inr (Or.inl (by omega)))⟩ dX1_standsNumber_13
set_option maxHeartbeats 4000000 in
set_option maxRecDepth 100000 in
theorem e_X1_isNameAt (G : KG) (l : Launch) (M : Mem) (c0 : Int) (a1 : Int) (hI_M : Inv false M) (hk_c0 : kd c0 = 17) (hpre : -2147483648 ≤ a1 ∧ a1 ≤ 2147483647 ∧ 0 ≤ a1 ∧ a1 ≤ 5) (Bt : Int → Int) (hB : TB M c0 Bt) (j : Int) (hj : 0 ≤ j) (hs : M c0 6 = tk Bt j ∧ M c0 7 = tp Bt j ∧ M c0 7 + M c0 8 = tq Bt j) (i : Int) (hi : nmt Bt i ∧ M (M c0 10) a1 = tp Bt i ∧ M (M c0 11) a1 = tq Bt i - tp Bt i) : KC false G l yX1_isNameAt cX1_isNameAt 3 (some .boolean) (1, 21) [vR G c0, vI a1] M (fun A => kQi false G A (fun (r : Int) (N : Mem) => M = N ∧ ((r = 1 ∧ (te Bt i j) = 1) ∨ (r = 0 ∧ (te Bt i j) = 0)))) := by
  refine kx_met (lo := [some (vR G c0), some (vI a1), none]) (by decide) (Nat.le_of_ble_eq_true rfl) rfl ?_
  intro X F hQ
  have ht_1 := tp_le (n := M c0 5) (TB.tx hB hI_M hk_c0) (Inv.g hI_M hk_c0 rfl 5 (a := 0) (b := 900) rfl rfl).1 (j := j) (by omega)
  have h_2 := Inv.g hI_M hk_c0 rfl 5 (a := 0) (b := 900) rfl rfl
  have ht_3 : 0 ≤ tk Bt j ∧ tk Bt j ≤ 4 := tk_b (n := M c0 5) (TB.tx hB hI_M hk_c0) (by omega)
  have hi1 := hi.1
  have hi2 := hi.2.1
  have hi3 := hi.2.2
  have ht_4 := tp_le (n := M c0 5) (TB.tx hB hI_M hk_c0) (Inv.g hI_M hk_c0 rfl 5 (a := 0) (b := 900) rfl rfl).1 (j := i) hi1.1
  have hk_5 : kd (M c0 10) = 19 := Inv.r hI_M hk_c0 rfl 10 rfl rfl
  have hk_6 : kd (M c0 11) = 20 := Inv.r hI_M hk_c0 rfl 11 rfl rfl
  refine kx_iload_n 1 F 1 dX1_isNameAt_0 rfl rfl rfl ?_
  refine kx_aload_n 2 F 0 dX1_isNameAt_1 rfl rfl rfl ?_
  refine kx_getr 5 F fl_X1_33 hk_c0 rfl rfl (j := 11) rfl dX1_isNameAt_2 (v := (M c0 11)) rfl rfl ?_
  refine kx_alen 6 F hk_6 rfl rfl (z := 6) (by decide) dX1_isNameAt_5 rfl ?_
  refine kx_icmp_ge 9 F 22 dX1_isNameAt_6 (by decide) rfl (by omega) (by decide) (fun h_7 => (by exfalso; omega)) (fun h_7 => ?_)
  refine kx_aload_n 10 F 0 dX1_isNameAt_9 rfl rfl rfl ?_
  refine kx_getr 13 F fl_X1_33 hk_c0 rfl rfl (j := 11) rfl dX1_isNameAt_10 (v := (M c0 11)) rfl rfl ?_
  refine kx_iload_n 14 F 1 dX1_isNameAt_13 rfl rfl rfl ?_
  refine kx_iald 15 F hk_6 rfl rfl (by omega) (by decide) dX1_isNameAt_14 (v := (M (M c0 11) a1)) rfl rfl ?_
  have h_8 := Inv.g hI_M hk_6 rfl a1 (a := 0) (b := 900) rfl rfl
  refine kx_aload_n 16 F 0 dX1_isNameAt_15 rfl rfl rfl ?_
  refine kx_geti 19 F fl_X1_54 hk_c0 rfl rfl (j := 8) rfl dX1_isNameAt_16 (v := (M c0 8)) rfl rfl ?_
  have h_9 := Inv.g hI_M hk_c0 rfl 8 (a := 0) (b := 900) rfl rfl
  refine kx_icmp_eq 22 F 24 dX1_isNameAt_19 (by decide) rfl (by omega) (by omega) (fun h_10 => ?_) (fun h_10 => ?_)
  · refine kx_iconst 25 F dX1_isNameAt_24 rfl ?_
    refine kx_istore_n 26 F 2 (lo' := [some (vR G c0), some (vI a1), some (vI 0)]) dX1_isNameAt_25 rfl (by decide) rfl rfl rfl ?_
    have L_229 : ∀ (n_230 : Nat) (x2_228 : Int), NQw M Bt i j x2_228 → 0 ≤ x2_228 ∧ x2_228 ≤ 900 → (900 - (x2_228)).toNat = n_230 → KJ false G X M 26 [some (vR G c0), some (vI a1), some (vI x2_228)] [] := by
      intro n_230
      refine Nat.strongRecOn n_230 ?_
      intro n_230 ih_231 x2_228 hp_234 h_232 hm_233
      refine kx_iload_n 27 F 2 dX1_isNameAt_26 rfl rfl rfl ?_
      refine kx_aload_n 28 F 0 dX1_isNameAt_27 rfl rfl rfl ?_
      refine kx_geti 31 F fl_X1_54 hk_c0 rfl rfl (j := 8) rfl dX1_isNameAt_28 (v := (M c0 8)) rfl rfl ?_
      refine kx_icmp_ge 34 F 67 dX1_isNameAt_31 (by decide) rfl (by omega) (by omega) (fun h_235 => ?_) (fun h_235 => ?_)
      · have hd_236 : te Bt i j = 1 := NQw.done hp_234 (by omega) (by omega)
        refine kx_iconst 68 F dX1_isNameAt_67 rfl ?_
        exact kx_zret F hQ (by omega) ⟨rfl, (by omega)⟩ dX1_isNameAt_68
      · refine kx_aload_n 35 F 0 dX1_isNameAt_34 rfl rfl rfl ?_
        refine kx_aload_n 36 F 0 dX1_isNameAt_35 rfl rfl rfl ?_
        refine kx_getr 39 F fl_X1_29 hk_c0 rfl rfl (j := 10) rfl dX1_isNameAt_36 (v := (M c0 10)) rfl rfl ?_
        refine kx_iload_n 40 F 1 dX1_isNameAt_39 rfl rfl rfl ?_
        refine kx_iald 41 F hk_5 rfl rfl (by omega) (by decide) dX1_isNameAt_40 (v := (M (M c0 10) a1)) rfl rfl ?_
        have h_237 := Inv.g hI_M hk_5 rfl a1 (a := 0) (b := 900) rfl rfl
        refine kx_iload_n 42 F 2 dX1_isNameAt_41 rfl rfl rfl ?_
        refine kx_iadd 43 F (v := (M (M c0 10) a1) + x2_228) dX1_isNameAt_42 rfl rfl ?_
        refine kx_Vi 46 (ci := 0) F (As := [vI ((M (M c0 10) a1) + x2_228)]) (st := []) vd_X1_196 (e_X1_byteAt G l M c0 ((M (M c0 10) a1) + x2_228) hI_M hk_c0 (by omega) Bt hB) hk_c0 rfl rfl rfl ⟨by decide, by decide⟩ rfl rfl (Nat.le_of_ble_eq_true rfl) dX1_isNameAt_43 rfl ?_
        intro r_238 N_239 q_240
        obtain ⟨rfl, q_240c⟩ := q_240
        rcases q_240c with q_240c | q_240c
        · refine kx_aload_n 47 F 0 dX1_isNameAt_46 rfl rfl rfl ?_
          refine kx_aload_n 48 F 0 dX1_isNameAt_47 rfl rfl rfl ?_
          refine kx_geti 51 F fl_X1_51 hk_c0 rfl rfl (j := 7) rfl dX1_isNameAt_48 (v := (M c0 7)) rfl rfl ?_
          have h_241 := Inv.g hI_M hk_c0 rfl 7 (a := 0) (b := 900) rfl rfl
          refine kx_iload_n 52 F 2 dX1_isNameAt_51 rfl rfl rfl ?_
          refine kx_iadd 53 F (v := (M c0 7) + x2_228) dX1_isNameAt_52 rfl rfl ?_
          refine kx_Vi 56 (ci := 0) F (As := [vI ((M c0 7) + x2_228)]) (st := [vI r_238]) vd_X1_196 (e_X1_byteAt G l M c0 ((M c0 7) + x2_228) hI_M hk_c0 (by omega) Bt hB) hk_c0 rfl rfl rfl ⟨by decide, by decide⟩ rfl rfl (Nat.le_of_ble_eq_true rfl) dX1_isNameAt_53 rfl ?_
          intro r_242 N_243 q_244
          obtain ⟨rfl, q_244c⟩ := q_244
          rcases q_244c with q_244c | q_244c
          · have hx_245 := (TB.tx hB hI_M hk_c0) (M (M c0 10) a1 + x2_228)
            have hx_246 := (TB.tx hB hI_M hk_c0) (M c0 7 + x2_228)
            refine kx_icmp_eq 59 F 61 dX1_isNameAt_56 (by decide) rfl (by omega) (by omega) (fun h_247 => ?_) (fun h_247 => ?_)
            · refine kx_iinc 64 F 2 (v := x2_228 + 1) (lo' := [some (vR G c0), some (vI a1), some (vI (x2_228 + 1))]) dX1_isNameAt_61 rfl (by omega) (by decide) rfl rfl rfl ?_
              refine kx_goto 26 F dX1_isNameAt_64 (by decide) ?_
              exact ih_231 _ (by omega) (x2_228 + 1) (NQw.step hp_234 (by rw [show tp Bt i + x2_228 = M (M c0 10) a1 + x2_228 by omega, show tp Bt j + x2_228 = M c0 7 + x2_228 by omega]; omega)) (by omega) rfl
            · have hd_248 : te Bt i j = 0 := te_n2 (x := x2_228) (by omega) (by rw [show tp Bt i + x2_228 = M (M c0 10) a1 + x2_228 by omega, show tp Bt j + x2_228 = M c0 7 + x2_228 by omega]; omega)
              refine kx_iconst 60 F dX1_isNameAt_59 rfl ?_
              exact kx_zret F hQ (by omega) ⟨rfl, (by omega)⟩ dX1_isNameAt_60
          · have hx_249 := (TB.tx hB hI_M hk_c0) (M (M c0 10) a1 + x2_228)
            have hx_250 := (TB.tx hB hI_M hk_c0) (M c0 7 + x2_228)
            refine kx_icmp_eq 59 F 61 dX1_isNameAt_56 (by decide) rfl (by omega) (by omega) (fun h_251 => ?_) (fun h_251 => ?_)
            · refine kx_iinc 64 F 2 (v := x2_228 + 1) (lo' := [some (vR G c0), some (vI a1), some (vI (x2_228 + 1))]) dX1_isNameAt_61 rfl (by omega) (by decide) rfl rfl rfl ?_
              refine kx_goto 26 F dX1_isNameAt_64 (by decide) ?_
              exact ih_231 _ (by omega) (x2_228 + 1) (NQw.step hp_234 (by rw [show tp Bt i + x2_228 = M (M c0 10) a1 + x2_228 by omega, show tp Bt j + x2_228 = M c0 7 + x2_228 by omega]; omega)) (by omega) rfl
            · have hd_252 : te Bt i j = 0 := te_n2 (x := x2_228) (by omega) (by rw [show tp Bt i + x2_228 = M (M c0 10) a1 + x2_228 by omega, show tp Bt j + x2_228 = M c0 7 + x2_228 by omega]; omega)
              refine kx_iconst 60 F dX1_isNameAt_59 rfl ?_
              exact kx_zret F hQ (by omega) ⟨rfl, (by omega)⟩ dX1_isNameAt_60
        · refine kx_aload_n 47 F 0 dX1_isNameAt_46 rfl rfl rfl ?_
          refine kx_aload_n 48 F 0 dX1_isNameAt_47 rfl rfl rfl ?_
          refine kx_geti 51 F fl_X1_51 hk_c0 rfl rfl (j := 7) rfl dX1_isNameAt_48 (v := (M c0 7)) rfl rfl ?_
          have h_253 := Inv.g hI_M hk_c0 rfl 7 (a := 0) (b := 900) rfl rfl
          refine kx_iload_n 52 F 2 dX1_isNameAt_51 rfl rfl rfl ?_
          refine kx_iadd 53 F (v := (M c0 7) + x2_228) dX1_isNameAt_52 rfl rfl ?_
          refine kx_Vi 56 (ci := 0) F (As := [vI ((M c0 7) + x2_228)]) (st := [vI r_238]) vd_X1_196 (e_X1_byteAt G l M c0 ((M c0 7) + x2_228) hI_M hk_c0 (by omega) Bt hB) hk_c0 rfl rfl rfl ⟨by decide, by decide⟩ rfl rfl (Nat.le_of_ble_eq_true rfl) dX1_isNameAt_53 rfl ?_
          intro r_254 N_255 q_256
          obtain ⟨rfl, q_256c⟩ := q_256
          rcases q_256c with q_256c | q_256c
          · have hx_257 := (TB.tx hB hI_M hk_c0) (M (M c0 10) a1 + x2_228)
            have hx_258 := (TB.tx hB hI_M hk_c0) (M c0 7 + x2_228)
            refine kx_icmp_eq 59 F 61 dX1_isNameAt_56 (by decide) rfl (by omega) (by omega) (fun h_259 => ?_) (fun h_259 => ?_)
            · refine kx_iinc 64 F 2 (v := x2_228 + 1) (lo' := [some (vR G c0), some (vI a1), some (vI (x2_228 + 1))]) dX1_isNameAt_61 rfl (by omega) (by decide) rfl rfl rfl ?_
              refine kx_goto 26 F dX1_isNameAt_64 (by decide) ?_
              exact ih_231 _ (by omega) (x2_228 + 1) (NQw.step hp_234 (by rw [show tp Bt i + x2_228 = M (M c0 10) a1 + x2_228 by omega, show tp Bt j + x2_228 = M c0 7 + x2_228 by omega]; omega)) (by omega) rfl
            · have hd_260 : te Bt i j = 0 := te_n2 (x := x2_228) (by omega) (by rw [show tp Bt i + x2_228 = M (M c0 10) a1 + x2_228 by omega, show tp Bt j + x2_228 = M c0 7 + x2_228 by omega]; omega)
              refine kx_iconst 60 F dX1_isNameAt_59 rfl ?_
              exact kx_zret F hQ (by omega) ⟨rfl, (by omega)⟩ dX1_isNameAt_60
          · have hx_261 := (TB.tx hB hI_M hk_c0) (M (M c0 10) a1 + x2_228)
            have hx_262 := (TB.tx hB hI_M hk_c0) (M c0 7 + x2_228)
            refine kx_icmp_eq 59 F 61 dX1_isNameAt_56 (by decide) rfl (by omega) (by omega) (fun h_263 => ?_) (fun h_263 => ?_)
            · refine kx_iinc 64 F 2 (v := x2_228 + 1) (lo' := [some (vR G c0), some (vI a1), some (vI (x2_228 + 1))]) dX1_isNameAt_61 rfl (by omega) (by decide) rfl rfl rfl ?_
              refine kx_goto 26 F dX1_isNameAt_64 (by decide) ?_
              exact ih_231 _ (by omega) (x2_228 + 1) (NQw.step hp_234 (by rw [show tp Bt i + x2_228 = M (M c0 10) a1 + x2_228 by omega, show tp Bt j + x2_228 = M c0 7 + x2_228 by omega]; omega)) (by omega) rfl
            · have hd_264 : te Bt i j = 0 := te_n2 (x := x2_228) (by omega) (by rw [show tp Bt i + x2_228 = M (M c0 10) a1 + x2_228 by omega, show tp Bt j + x2_228 = M c0 7 + x2_228 by omega]; omega)
              refine kx_iconst 60 F dX1_isNameAt_59 rfl ?_
              exact kx_zret F hQ (by omega) ⟨rfl, (by omega)⟩ dX1_isNameAt_60
    exact L_229 _ 0 NQw.nil (by omega) rfl
  · have hd_265 : te Bt i j = 0 := te_n1 (by omega)
    refine kx_iconst 23 F dX1_isNameAt_22 rfl ?_
    exact kx_zret F hQ (by omega) ⟨rfl, (by omega)⟩ dX1_isNameAt_23
set_option maxHeartbeats 4000000 in
set_option maxRecDepth 100000 in
theorem e_X1_findName (G : KG) (l : Launch) (M : Mem) (c0 : Int) (hI_M : Inv false M) (hk_c0 : kd c0 = 17) (Bt : Int → Int) (hB : TB M c0 Bt) (j : Int) (hj : 0 ≤ j) (hs : M c0 6 = tk Bt j ∧ M c0 7 = tp Bt j ∧ M c0 7 + M c0 8 = tq Bt j) (t q : Int → Int) (hN : NU M c0 Bt t q) (hq : M (M c0 0) 0 = q 0 ∧ M (M c0 0) 1 = q 0 + q 1 ∧ M (M c0 0) 2 = q 0 + q 1 + q 2 ∧ M (M c0 0) 3 = q 3 ∧ 0 ≤ q 0 ∧ q 0 ≤ 2 ∧ 0 ≤ q 1 ∧ q 1 ≤ 2 ∧ 0 ≤ q 2 ∧ q 2 ≤ 2 ∧ 0 ≤ q 3 ∧ q 3 ≤ 2) : KC false G l yX1_findName cX1_findName 3 (some .int) (2, 43) [vR G c0] M (fun A => kQi false G A (fun (r : Int) (N : Mem) => M = N ∧ (r = (lfn Bt t (q 0) (q 1) (q 2) j)))) := by
  refine kx_met (lo := [some (vR G c0), none, none]) (by decide) (Nat.le_of_ble_eq_true rfl) rfl ?_
  intro X F hQ
  refine kx_iconst 1 F dX1_findName_0 rfl ?_
  refine kx_istore_n 2 F 1 (lo' := [some (vR G c0), some (vI 0), none]) dX1_findName_1 rfl (by decide) rfl rfl rfl ?_
  have L_118 : ∀ (n_119 : Nat) (x1_117 : Int), FNo M Bt t q j (2 * x1_117) → 0 ≤ x1_117 ∧ x1_117 ≤ 3 → (3 - (x1_117)).toNat = n_119 → KJ false G X M 2 [some (vR G c0), some (vI x1_117), none] [] := by
    intro n_119
    refine Nat.strongRecOn n_119 ?_
    intro n_119 ih_120 x1_117 hp_123 h_121 hm_122
    refine kx_iload_n 3 F 1 dX1_findName_2 rfl rfl rfl ?_
    refine kx_iconst 4 F dX1_findName_3 rfl ?_
    refine kx_icmp_gt 7 F 56 dX1_findName_4 (by decide) rfl (by omega) (by decide) (fun h_124 => ?_) (fun h_124 => ?_)
    · have hl_125 := FNo.fin hp_123 (by omega)
      refine kx_iconst 57 F dX1_findName_56 rfl ?_
      exact kx_iret F hQ ⟨rfl, (by omega)⟩ dX1_findName_57
    · refine kx_iconst 8 F dX1_findName_7 rfl ?_
      refine kx_istore_n 9 F 2 (lo' := [some (vR G c0), some (vI x1_117), some (vI 0)]) dX1_findName_8 rfl (by decide) rfl rfl rfl ?_
      have L_181 : ∀ (n_182 : Nat) (x2_180 : Int), FNo M Bt t q j (2 * x1_117 + x2_180) → 0 ≤ x2_180 ∧ x2_180 ≤ 2 → (2 - (x2_180)).toNat = n_182 → KJ false G X M 9 [some (vR G c0), some (vI x1_117), some (vI x2_180)] [] := by
        intro n_182
        refine Nat.strongRecOn n_182 ?_
        intro n_182 ih_183 x2_180 hp_186 h_184 hm_185
        refine kx_iload_n 10 F 2 dX1_findName_9 rfl rfl rfl ?_
        refine kx_aload_n 11 F 0 dX1_findName_10 rfl rfl rfl ?_
        refine kx_getr 14 F fl_X1_12 hk_c0 rfl rfl (j := 0) rfl dX1_findName_11 (v := (M c0 0)) rfl rfl ?_
        have hk_187 : kd (M c0 0) = 12 := Inv.r hI_M hk_c0 rfl 0 rfl rfl
        refine kx_iload_n 15 F 1 dX1_findName_14 rfl rfl rfl ?_
        refine kx_Vi 18 (ci := 0) F (As := [vI x1_117]) (st := [vI x2_180]) vd_X1_105 (c_X5_manyOf G l M (M c0 0) x1_117 hI_M hk_187 (by omega)) hk_187 rfl rfl rfl ⟨by decide, by decide⟩ rfl rfl (Nat.le_of_ble_eq_true rfl) dX1_findName_15 rfl ?_
        intro r_188 N_189 q_190
        obtain ⟨rfl, q_190c⟩ := q_190
        have h_191 := Inv.g hI_M hk_187 rfl 0 (a := 0) (b := 2) rfl rfl
        have h_192 := Inv.g hI_M hk_187 rfl 1 (a := 0) (b := 4) rfl rfl
        have h_194 := Inv.g hI_M hk_187 rfl 2 (a := 0) (b := 6) rfl rfl
        rcases q_190c with q_190c | q_190c | q_190c
        · have hr_196 : r_188 = q x1_117 := by rcases (by omega : x1_117 = 0 ∨ x1_117 = 1 ∨ x1_117 = 2) with e | e | e <;> rw [e] <;> omega
          have hr_197 : 0 ≤ q x1_117 ∧ q x1_117 ≤ 2 := by omega
          refine kx_icmp_ge 21 F 50 dX1_findName_18 (by decide) rfl (by omega) (by omega) (fun h_198 => ?_) (fun h_198 => ?_)
          · refine kx_iinc 53 F 1 (v := x1_117 + 1) (lo' := [some (vR G c0), some (vI (x1_117 + 1)), some (vI x2_180)]) dX1_findName_50 rfl (by omega) (by decide) rfl rfl rfl ?_
            refine kx_goto 2 F dX1_findName_53 (by decide) ?_
            refine kx_drop 2 (lo' := [some (vR G c0), some (vI (x1_117 + 1)), none]) rfl ?_
            exact ih_120 _ (by omega) (x1_117 + 1) (FNo.skip (k := x1_117) (i := x2_180) hp_186 (by omega) (by omega) (by omega) (by omega)) (by omega) rfl
          · refine kx_aload_n 22 F 0 dX1_findName_21 rfl rfl rfl ?_
            refine kx_iload_n 23 F 1 dX1_findName_22 rfl rfl rfl ?_
            refine kx_iconst 24 F dX1_findName_23 rfl ?_
            refine kx_imul 25 F (v := 2 * x1_117) dX1_findName_24 (by omega) rfl ?_
            refine kx_iload_n 26 F 2 dX1_findName_25 rfl rfl rfl ?_
            refine kx_iadd 27 F (v := 2 * x1_117 + x2_180) dX1_findName_26 rfl rfl ?_
            have h_199 := Inv.g hI_M hk_c0 rfl 6 (a := 0) (b := 5) rfl rfl
            have h_200 := Inv.g hI_M hk_c0 rfl 7 (a := 0) (b := 900) rfl rfl
            have h_201 := Inv.g hI_M hk_c0 rfl 8 (a := 0) (b := 900) rfl rfl
            refine kx_Vi 30 (ci := 0) F (As := [vI (2 * x1_117 + x2_180)]) (st := []) vd_X1_203 (e_X1_isNameAt G l M c0 (2 * x1_117 + x2_180) hI_M hk_c0 (by omega) Bt hB j (by omega) (by omega) (t (2 * x1_117 + x2_180)) (NU.g hN (s := 2 * x1_117 + x2_180) ⟨by omega, by omega⟩ (k := x1_117) (by omega) (by omega))) hk_c0 rfl rfl rfl ⟨by decide, by decide⟩ rfl rfl (Nat.le_of_ble_eq_true rfl) dX1_findName_27 rfl ?_
            intro r_202 N_203 q_204
            obtain ⟨rfl, q_204c⟩ := q_204
            rcases q_204c with q_204c | q_204c
            · refine kx_if_eq 33 F 44 dX1_findName_30 (by decide) rfl (by omega) (fun h_205 => (by exfalso; omega)) (fun h_205 => ?_)
              refine kx_aload_n 34 F 0 dX1_findName_33 rfl rfl rfl ?_
              refine kx_getr 37 F fl_X1_12 hk_c0 rfl rfl (j := 0) rfl dX1_findName_34 (v := (M c0 0)) rfl rfl ?_
              refine kx_iload_n 38 F 1 dX1_findName_37 rfl rfl rfl ?_
              refine kx_Vi 41 (ci := 0) F (As := [vI x1_117]) (st := []) vd_X1_206 (c_X5_firstOf G l M (M c0 0) x1_117 hI_M hk_187 (by omega)) hk_187 rfl rfl rfl ⟨by decide, by decide⟩ rfl rfl (Nat.le_of_ble_eq_true rfl) dX1_findName_38 rfl ?_
              intro r_206 N_207 q_208
              obtain ⟨rfl, q_208c⟩ := q_208
              rcases q_208c with q_208c | q_208c | q_208c
              · refine kx_iload_n 42 F 2 dX1_findName_41 rfl rfl rfl ?_
                refine kx_iadd 43 F (v := r_206 + x2_180) dX1_findName_42 rfl rfl ?_
                have hl_210 := FNo.hit (k := x1_117) (i := x2_180) hp_186 (by omega) (by omega) (by omega)
                exact kx_iret F hQ ⟨rfl, (by omega)⟩ dX1_findName_43
              · exfalso; omega
              · exfalso; omega
            · refine kx_if_eq 33 F 44 dX1_findName_30 (by decide) rfl (by omega) (fun h_211 => ?_) (fun h_211 => (by exfalso; omega))
              refine kx_iinc 47 F 2 (v := x2_180 + 1) (lo' := [some (vR G c0), some (vI x1_117), some (vI (x2_180 + 1))]) dX1_findName_44 rfl (by omega) (by decide) rfl rfl rfl ?_
              refine kx_goto 9 F dX1_findName_47 (by decide) ?_
              exact ih_183 _ (by omega) (x2_180 + 1) (FNo.step hp_186 (by omega) (by omega)) (by omega) rfl
        · have hr_212 : r_188 = q x1_117 := by rcases (by omega : x1_117 = 0 ∨ x1_117 = 1 ∨ x1_117 = 2) with e | e | e <;> rw [e] <;> omega
          have hr_213 : 0 ≤ q x1_117 ∧ q x1_117 ≤ 2 := by omega
          refine kx_icmp_ge 21 F 50 dX1_findName_18 (by decide) rfl (by omega) (by omega) (fun h_214 => ?_) (fun h_214 => ?_)
          · refine kx_iinc 53 F 1 (v := x1_117 + 1) (lo' := [some (vR G c0), some (vI (x1_117 + 1)), some (vI x2_180)]) dX1_findName_50 rfl (by omega) (by decide) rfl rfl rfl ?_
            refine kx_goto 2 F dX1_findName_53 (by decide) ?_
            refine kx_drop 2 (lo' := [some (vR G c0), some (vI (x1_117 + 1)), none]) rfl ?_
            exact ih_120 _ (by omega) (x1_117 + 1) (FNo.skip (k := x1_117) (i := x2_180) hp_186 (by omega) (by omega) (by omega) (by omega)) (by omega) rfl
          · refine kx_aload_n 22 F 0 dX1_findName_21 rfl rfl rfl ?_
            refine kx_iload_n 23 F 1 dX1_findName_22 rfl rfl rfl ?_
            refine kx_iconst 24 F dX1_findName_23 rfl ?_
            refine kx_imul 25 F (v := 2 * x1_117) dX1_findName_24 (by omega) rfl ?_
            refine kx_iload_n 26 F 2 dX1_findName_25 rfl rfl rfl ?_
            refine kx_iadd 27 F (v := 2 * x1_117 + x2_180) dX1_findName_26 rfl rfl ?_
            have h_215 := Inv.g hI_M hk_c0 rfl 6 (a := 0) (b := 5) rfl rfl
            have h_216 := Inv.g hI_M hk_c0 rfl 7 (a := 0) (b := 900) rfl rfl
            have h_217 := Inv.g hI_M hk_c0 rfl 8 (a := 0) (b := 900) rfl rfl
            refine kx_Vi 30 (ci := 0) F (As := [vI (2 * x1_117 + x2_180)]) (st := []) vd_X1_203 (e_X1_isNameAt G l M c0 (2 * x1_117 + x2_180) hI_M hk_c0 (by omega) Bt hB j (by omega) (by omega) (t (2 * x1_117 + x2_180)) (NU.g hN (s := 2 * x1_117 + x2_180) ⟨by omega, by omega⟩ (k := x1_117) (by omega) (by omega))) hk_c0 rfl rfl rfl ⟨by decide, by decide⟩ rfl rfl (Nat.le_of_ble_eq_true rfl) dX1_findName_27 rfl ?_
            intro r_218 N_219 q_220
            obtain ⟨rfl, q_220c⟩ := q_220
            rcases q_220c with q_220c | q_220c
            · refine kx_if_eq 33 F 44 dX1_findName_30 (by decide) rfl (by omega) (fun h_221 => (by exfalso; omega)) (fun h_221 => ?_)
              refine kx_aload_n 34 F 0 dX1_findName_33 rfl rfl rfl ?_
              refine kx_getr 37 F fl_X1_12 hk_c0 rfl rfl (j := 0) rfl dX1_findName_34 (v := (M c0 0)) rfl rfl ?_
              refine kx_iload_n 38 F 1 dX1_findName_37 rfl rfl rfl ?_
              refine kx_Vi 41 (ci := 0) F (As := [vI x1_117]) (st := []) vd_X1_206 (c_X5_firstOf G l M (M c0 0) x1_117 hI_M hk_187 (by omega)) hk_187 rfl rfl rfl ⟨by decide, by decide⟩ rfl rfl (Nat.le_of_ble_eq_true rfl) dX1_findName_38 rfl ?_
              intro r_222 N_223 q_224
              obtain ⟨rfl, q_224c⟩ := q_224
              rcases q_224c with q_224c | q_224c | q_224c
              · exfalso; omega
              · refine kx_iload_n 42 F 2 dX1_findName_41 rfl rfl rfl ?_
                refine kx_iadd 43 F (v := r_222 + x2_180) dX1_findName_42 rfl rfl ?_
                have hl_225 := FNo.hit (k := x1_117) (i := x2_180) hp_186 (by omega) (by omega) (by omega)
                exact kx_iret F hQ ⟨rfl, (by omega)⟩ dX1_findName_43
              · exfalso; omega
            · refine kx_if_eq 33 F 44 dX1_findName_30 (by decide) rfl (by omega) (fun h_226 => ?_) (fun h_226 => (by exfalso; omega))
              refine kx_iinc 47 F 2 (v := x2_180 + 1) (lo' := [some (vR G c0), some (vI x1_117), some (vI (x2_180 + 1))]) dX1_findName_44 rfl (by omega) (by decide) rfl rfl rfl ?_
              refine kx_goto 9 F dX1_findName_47 (by decide) ?_
              exact ih_183 _ (by omega) (x2_180 + 1) (FNo.step hp_186 (by omega) (by omega)) (by omega) rfl
        · have hr_227 : r_188 = q x1_117 := by rcases (by omega : x1_117 = 0 ∨ x1_117 = 1 ∨ x1_117 = 2) with e | e | e <;> rw [e] <;> omega
          have hr_228 : 0 ≤ q x1_117 ∧ q x1_117 ≤ 2 := by omega
          refine kx_icmp_ge 21 F 50 dX1_findName_18 (by decide) rfl (by omega) (by omega) (fun h_229 => ?_) (fun h_229 => ?_)
          · refine kx_iinc 53 F 1 (v := x1_117 + 1) (lo' := [some (vR G c0), some (vI (x1_117 + 1)), some (vI x2_180)]) dX1_findName_50 rfl (by omega) (by decide) rfl rfl rfl ?_
            refine kx_goto 2 F dX1_findName_53 (by decide) ?_
            refine kx_drop 2 (lo' := [some (vR G c0), some (vI (x1_117 + 1)), none]) rfl ?_
            exact ih_120 _ (by omega) (x1_117 + 1) (FNo.skip (k := x1_117) (i := x2_180) hp_186 (by omega) (by omega) (by omega) (by omega)) (by omega) rfl
          · refine kx_aload_n 22 F 0 dX1_findName_21 rfl rfl rfl ?_
            refine kx_iload_n 23 F 1 dX1_findName_22 rfl rfl rfl ?_
            refine kx_iconst 24 F dX1_findName_23 rfl ?_
            refine kx_imul 25 F (v := 2 * x1_117) dX1_findName_24 (by omega) rfl ?_
            refine kx_iload_n 26 F 2 dX1_findName_25 rfl rfl rfl ?_
            refine kx_iadd 27 F (v := 2 * x1_117 + x2_180) dX1_findName_26 rfl rfl ?_
            have h_230 := Inv.g hI_M hk_c0 rfl 6 (a := 0) (b := 5) rfl rfl
            have h_231 := Inv.g hI_M hk_c0 rfl 7 (a := 0) (b := 900) rfl rfl
            have h_232 := Inv.g hI_M hk_c0 rfl 8 (a := 0) (b := 900) rfl rfl
            refine kx_Vi 30 (ci := 0) F (As := [vI (2 * x1_117 + x2_180)]) (st := []) vd_X1_203 (e_X1_isNameAt G l M c0 (2 * x1_117 + x2_180) hI_M hk_c0 (by omega) Bt hB j (by omega) (by omega) (t (2 * x1_117 + x2_180)) (NU.g hN (s := 2 * x1_117 + x2_180) ⟨by omega, by omega⟩ (k := x1_117) (by omega) (by omega))) hk_c0 rfl rfl rfl ⟨by decide, by decide⟩ rfl rfl (Nat.le_of_ble_eq_true rfl) dX1_findName_27 rfl ?_
            intro r_233 N_234 q_235
            obtain ⟨rfl, q_235c⟩ := q_235
            rcases q_235c with q_235c | q_235c
            · refine kx_if_eq 33 F 44 dX1_findName_30 (by decide) rfl (by omega) (fun h_236 => (by exfalso; omega)) (fun h_236 => ?_)
              refine kx_aload_n 34 F 0 dX1_findName_33 rfl rfl rfl ?_
              refine kx_getr 37 F fl_X1_12 hk_c0 rfl rfl (j := 0) rfl dX1_findName_34 (v := (M c0 0)) rfl rfl ?_
              refine kx_iload_n 38 F 1 dX1_findName_37 rfl rfl rfl ?_
              refine kx_Vi 41 (ci := 0) F (As := [vI x1_117]) (st := []) vd_X1_206 (c_X5_firstOf G l M (M c0 0) x1_117 hI_M hk_187 (by omega)) hk_187 rfl rfl rfl ⟨by decide, by decide⟩ rfl rfl (Nat.le_of_ble_eq_true rfl) dX1_findName_38 rfl ?_
              intro r_237 N_238 q_239
              obtain ⟨rfl, q_239c⟩ := q_239
              rcases q_239c with q_239c | q_239c | q_239c
              · exfalso; omega
              · exfalso; omega
              · refine kx_iload_n 42 F 2 dX1_findName_41 rfl rfl rfl ?_
                refine kx_iadd 43 F (v := r_237 + x2_180) dX1_findName_42 rfl rfl ?_
                have hl_241 := FNo.hit (k := x1_117) (i := x2_180) hp_186 (by omega) (by omega) (by omega)
                exact kx_iret F hQ ⟨rfl, (by omega)⟩ dX1_findName_43
            · refine kx_if_eq 33 F 44 dX1_findName_30 (by decide) rfl (by omega) (fun h_242 => ?_) (fun h_242 => (by exfalso; omega))
              refine kx_iinc 47 F 2 (v := x2_180 + 1) (lo' := [some (vR G c0), some (vI x1_117), some (vI (x2_180 + 1))]) dX1_findName_44 rfl (by omega) (by decide) rfl rfl rfl ?_
              refine kx_goto 9 F dX1_findName_47 (by decide) ?_
              exact ih_183 _ (by omega) (x2_180 + 1) (FNo.step hp_186 (by omega) (by omega)) (by omega) rfl
      exact L_181 _ 0 (by rw [Int.add_zero]; exact hp_123) (by omega) rfl
  exact L_118 _ 0 (FNo.nil (by decide)) (by omega) rfl
