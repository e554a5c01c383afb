set_option maxHeartbeats 4000000 in
set_option maxRecDepth 100000 in
theorem e_wordRefusal3 (G : KG) (l : Launch) (M : Mem) (c0 : Int) (a1 : Int) (a2 : Int) (a3 : Int) (hI_M : Inv false M) (hk_c0 : kd c0 = 62) (hpre : 0 ≤ a1 ∧ a1 ≤ 1 ∧ -2147483648 ≤ a2 ∧ a2 ≤ 2147483647 ∧ -2147483648 ≤ a3 ∧ a3 ≤ 2147483647) : KC false G l yX11_wordRefusal cX11_wordRefusal 7 (some .int) (2, 43) [vR G c0, vI a1, vI a2, vI a3] M (fun A => kQi false G A (fun (r : Int) (N : Mem) => M = N ∧ ((r = 0 ∧ a1 = 1 ∧ 0 ≤ a2 ∧ a2 ≤ 3 ∧ 0 ≤ a3 ∧ a3 ≤ 20) ∨ (r ≥ 1 ∧ r ≤ 5)) ∧ (zWR a1 (M (M (M c0 3) 0)) a2 a3 (M (M (M c0 3) 2) a2) (M (M c0 5) 2) r))) := by
  refine kx_met (lo := [some (vR G c0), some (vI a1), some (vI a2), some (vI a3), none, none, none]) (by decide) (Nat.le_of_ble_eq_true rfl) rfl ?_
  intro X F hQ
  have hk_1 : kd (M c0 3) = 13 := Inv.r hI_M hk_c0 rfl 3 rfl rfl
  have hk_2 : kd (M (M c0 3) 0) = 14 := Inv.r hI_M hk_1 rfl 0 rfl rfl
  have hk_3 : kd (M (M c0 3) 1) = 15 := Inv.r hI_M hk_1 rfl 1 rfl rfl
  have hk_4 : kd (M (M c0 3) 2) = 16 := Inv.r hI_M hk_1 rfl 2 rfl rfl
  have hk_5 : kd (M c0 5) = 12 := Inv.r hI_M hk_c0 rfl 5 rfl rfl
  refine kx_iload_n 1 F 1 dX11_wordRefusal_0 rfl rfl rfl ?_
  refine kx_if_eq 4 F 25 dX11_wordRefusal_1 (by decide) rfl (by omega) (fun h_6 => ?_) (fun h_6 => ?_)
  · refine kx_iconst 26 F dX11_wordRefusal_25 rfl ?_
    exact kx_iret F hQ ⟨rfl, (by omega), (Or.inr ⟨by omega, fun h => by have h0 := h.1; have h1 := h.2.1; have h2 := h.2.2.1; have h3 := h.2.2.2.1; have h4 := h.2.2.2.2.1; have h5 := h.2.2.2.2.2.1; have h6 := h.2.2.2.2.2.2.1; clear h; omega⟩)⟩ dX11_wordRefusal_26
  · refine kx_aload_n 5 F 0 dX11_wordRefusal_4 rfl rfl rfl ?_
    refine kx_getr 8 F fl_X11_10 hk_c0 rfl rfl (j := 3) rfl dX11_wordRefusal_5 (v := (M c0 3)) rfl rfl ?_
    refine kx_iload_n 9 F 2 dX11_wordRefusal_8 rfl rfl rfl ?_
    refine kx_Vi 12 (ci := 0) F (As := [vI a2]) (st := []) vd_X11_83 (e_X9_has G l M (M c0 3) a2 hI_M hk_1 (by omega)) hk_1 rfl rfl rfl ⟨by decide, by decide⟩ rfl rfl (Nat.le_of_ble_eq_true rfl) dX11_wordRefusal_9 rfl ?_
    intro r_7 N_8 q_9
    obtain ⟨rfl, q_9c⟩ := q_9
    rcases q_9c with q_9c | q_9c | q_9c
    · refine kx_if_eq 15 F 25 dX11_wordRefusal_12 (by decide) rfl (by omega) (fun h_10 => (by exfalso; omega)) (fun h_10 => ?_)
      refine kx_iload_n 16 F 3 dX11_wordRefusal_15 rfl rfl rfl ?_
      refine kx_iconst 17 F dX11_wordRefusal_16 rfl ?_
      refine kx_bipush 19 F dX11_wordRefusal_17 (by decide) rfl ?_
      refine kx_Si 22 F (As := [vI a3, vI 0, vI 20]) (st := []) sd_X11_87 (e_X11_within G l M a3 0 20 hI_M (by omega)) ⟨by decide, by decide⟩ rfl rfl (Nat.le_of_ble_eq_true rfl) dX11_wordRefusal_19 rfl ?_
      intro r_11 N_12 q_13
      obtain ⟨rfl, q_13c⟩ := q_13
      rcases q_13c with q_13c | q_13c | q_13c
      · refine kx_if_ne 25 F 27 dX11_wordRefusal_22 (by decide) rfl (by omega) (fun h_14 => ?_) (fun h_14 => (by exfalso; omega))
        refine kx_aload_n 28 F 0 dX11_wordRefusal_27 rfl rfl rfl ?_
        refine kx_getr 31 F fl_X11_10 hk_c0 rfl rfl (j := 3) rfl dX11_wordRefusal_28 (v := (M c0 3)) rfl rfl ?_
        refine kx_iload_n 32 F 2 dX11_wordRefusal_31 rfl rfl rfl ?_
        refine kx_Vi 35 (ci := 0) F (As := [vI a2]) (st := []) vd_X11_351 (e_X9_isMissing G l M (M c0 3) a2 hI_M hk_1 (by omega)) hk_1 rfl rfl rfl ⟨by decide, by decide⟩ rfl rfl (Nat.le_of_ble_eq_true rfl) dX11_wordRefusal_32 rfl ?_
        intro r_15 N_16 q_17
        obtain ⟨rfl, q_17c⟩ := q_17
        rcases q_17c with q_17c | q_17c
        · refine kx_if_eq 38 F 40 dX11_wordRefusal_35 (by decide) rfl (by omega) (fun h_18 => (by exfalso; omega)) (fun h_18 => ?_)
          refine kx_iconst 39 F dX11_wordRefusal_38 rfl ?_
          exact kx_iret F hQ ⟨rfl, (by omega), (Or.inr ⟨by omega, fun h => by have h0 := h.1; have h1 := h.2.1; have h2 := h.2.2.1; have h3 := h.2.2.2.1; have h4 := h.2.2.2.2.1; have h5 := h.2.2.2.2.2.1; have h6 := h.2.2.2.2.2.2.1; clear h; omega⟩)⟩ dX11_wordRefusal_39
        · refine kx_if_eq 38 F 40 dX11_wordRefusal_35 (by decide) rfl (by omega) (fun h_19 => ?_) (fun h_19 => (by exfalso; omega))
          refine kx_iload_n 41 F 3 dX11_wordRefusal_40 rfl rfl rfl ?_
          refine kx_aload_n 42 F 0 dX11_wordRefusal_41 rfl rfl rfl ?_
          refine kx_getr 45 F fl_X11_10 hk_c0 rfl rfl (j := 3) rfl dX11_wordRefusal_42 (v := (M c0 3)) rfl rfl ?_
          refine kx_iload_n 46 F 2 dX11_wordRefusal_45 rfl rfl rfl ?_
          refine kx_Vi 49 (ci := 0) F (As := [vI a2]) (st := [vI a3]) vd_X11_354 (e_placesOf3 G l M (M c0 3) a2 hI_M hk_1 (by omega)) hk_1 rfl rfl rfl ⟨by decide, by decide⟩ rfl rfl (Nat.le_of_ble_eq_true rfl) dX11_wordRefusal_46 rfl ?_
          intro r_20 N_21 q_22
          obtain ⟨rfl, q_22c⟩ := q_22
          refine kx_icmp_le 52 F 54 dX11_wordRefusal_49 (by decide) rfl (by omega) (by omega) (fun h_23 => ?_) (fun h_23 => ?_)
          · refine kx_iconst 55 F dX11_wordRefusal_54 rfl ?_
            refine kx_istore 57 F 4 (lo' := [some (vR G c0), some (vI a1), some (vI a2), some (vI a3), some (vI 0), none, none]) dX11_wordRefusal_55 (by decide) rfl rfl rfl ?_
            have L_109 : ∀ (n_110 : Nat) (x4_108 : Int), zWL (M (M (M c0 3) 0)) a2 x4_108 (M (M c0 5) 2) → 0 ≤ x4_108 ∧ x4_108 ≤ 20 ∧ x4_108 ≤ a3 → (20 - (x4_108)).toNat = n_110 → KJ false G X M 57 [some (vR G c0), none, some (vI a2), some (vI a3), some (vI x4_108), none, none] [] := by
              intro n_110
              refine Nat.strongRecOn n_110 ?_
              intro n_110 ih_111 x4_108 hp_114 h_112 hm_113
              refine kx_iload 59 F 4 dX11_wordRefusal_57 rfl rfl ?_
              refine kx_iload_n 60 F 3 dX11_wordRefusal_59 rfl rfl rfl ?_
              refine kx_icmp_ge 63 F 104 dX11_wordRefusal_60 (by decide) rfl (by omega) (by omega) (fun h_115 => ?_) (fun h_115 => ?_)
              · refine kx_iconst 105 F dX11_wordRefusal_104 rfl ?_
                exact kx_iret F hQ ⟨rfl, (by omega), (Or.inl ⟨by omega, by omega, ⟨by omega, by omega, by omega, by omega, by omega, by omega, fun k h0 h1 => hp_114 k h0 (by omega)⟩⟩)⟩ dX11_wordRefusal_105
              · refine kx_aload_n 64 F 0 dX11_wordRefusal_63 rfl rfl rfl ?_
                refine kx_getr 67 F fl_X11_10 hk_c0 rfl rfl (j := 3) rfl dX11_wordRefusal_64 (v := (M c0 3)) rfl rfl ?_
                refine kx_iload_n 68 F 2 dX11_wordRefusal_67 rfl rfl rfl ?_
                refine kx_iload 70 F 4 dX11_wordRefusal_68 rfl rfl ?_
                refine kx_Vl 73 (ci := 0) F (As := [vI a2, vI x4_108]) (st := []) vd_X11_114 (c_X9_get G l M (M c0 3) a2 x4_108 hI_M hk_1 (by omega)) hk_1 rfl rfl rfl ⟨by decide, by decide⟩ rfl rfl (Nat.le_of_ble_eq_true rfl) dX11_wordRefusal_70 rfl ?_
                intro r_116 N_117 q_118
                obtain ⟨rfl, q_118c⟩ := q_118
                refine kx_lstore 75 F 5 (lo' := [some (vR G c0), none, some (vI a2), some (vI a3), some (vI x4_108), some (vL r_116), none]) dX11_wordRefusal_73 (by decide) rfl rfl rfl ?_
                refine kx_lload 77 F 5 dX11_wordRefusal_75 rfl rfl ?_
                refine kx_lconst 78 (z := 0) F dX11_wordRefusal_77 (by decide) rfl ?_
                refine kx_lcmp 79 F dX11_wordRefusal_78 (by omega) (by omega) rfl (fun w_119 h_120 => ?_)
                refine kx_if_lt 82 F 96 dX11_wordRefusal_79 (by decide) rfl (by omega) (fun h_121 => ?_) (fun h_121 => ?_)
                · refine kx_iconst 97 F dX11_wordRefusal_96 rfl ?_
                  exact kx_iret F hQ ⟨rfl, (by omega), (Or.inr ⟨by omega, fun h => by have w := h.2.2.2.2.2.2.2 x4_108 (by omega) (by omega); omega⟩)⟩ dX11_wordRefusal_97
                · refine kx_lload 84 F 5 dX11_wordRefusal_82 rfl rfl ?_
                  refine kx_aload_n 85 F 0 dX11_wordRefusal_84 rfl rfl rfl ?_
                  refine kx_getr 88 F fl_X11_26 hk_c0 rfl rfl (j := 5) rfl dX11_wordRefusal_85 (v := (M c0 5)) rfl rfl ?_
                  refine kx_geti 91 F fl_X11_160 hk_5 rfl rfl (j := 2) rfl dX11_wordRefusal_88 (v := (M (M c0 5) 2)) rfl rfl ?_
                  have h_122 := Inv.g hI_M hk_5 rfl 2 (a := 0) (b := 6) rfl rfl
                  refine kx_i2l 92 F dX11_wordRefusal_91 (by omega) rfl ?_
                  refine kx_lcmp 93 F dX11_wordRefusal_92 (by omega) (by omega) rfl (fun w_123 h_124 => ?_)
                  refine kx_if_lt 96 F 98 dX11_wordRefusal_93 (by decide) rfl (by omega) (fun h_125 => ?_) (fun h_125 => ?_)
                  · refine kx_iinc 101 F 4 (v := x4_108 + 1) (lo' := [some (vR G c0), none, some (vI a2), some (vI a3), some (vI (x4_108 + 1)), some (vL r_116), none]) dX11_wordRefusal_98 rfl (by omega) (by decide) rfl rfl rfl ?_
                    refine kx_goto 57 F dX11_wordRefusal_101 (by decide) ?_
                    refine kx_drop 5 (lo' := [some (vR G c0), none, some (vI a2), some (vI a3), some (vI (x4_108 + 1)), none, none]) rfl ?_
                    exact ih_111 _ (by omega) (x4_108 + 1) (zWL.step hp_114 (by omega) (by omega) (by omega)) (by omega) rfl
                  · refine kx_iconst 97 F dX11_wordRefusal_96 rfl ?_
                    exact kx_iret F hQ ⟨rfl, (by omega), (Or.inr ⟨by omega, fun h => by have w := h.2.2.2.2.2.2.2 x4_108 (by omega) (by omega); omega⟩)⟩ dX11_wordRefusal_97
            refine kx_drop 1 (lo' := [some (vR G c0), none, some (vI a2), some (vI a3), some (vI 0), none, none]) rfl ?_
            exact L_109 _ 0 zWL.nil (by omega) rfl
          · refine kx_iconst 53 F dX11_wordRefusal_52 rfl ?_
            exact kx_iret F hQ ⟨rfl, (by omega), (Or.inr ⟨by omega, fun h => by have h0 := h.1; have h1 := h.2.1; have h2 := h.2.2.1; have h3 := h.2.2.2.1; have h4 := h.2.2.2.2.1; have h5 := h.2.2.2.2.2.1; have h6 := h.2.2.2.2.2.2.1; clear h; omega⟩)⟩ dX11_wordRefusal_53
      · refine kx_if_ne 25 F 27 dX11_wordRefusal_22 (by decide) rfl (by omega) (fun h_126 => (by exfalso; omega)) (fun h_126 => ?_)
        refine kx_iconst 26 F dX11_wordRefusal_25 rfl ?_
        exact kx_iret F hQ ⟨rfl, (by omega), (Or.inr ⟨by omega, fun h => by have h0 := h.1; have h1 := h.2.1; have h2 := h.2.2.1; have h3 := h.2.2.2.1; have h4 := h.2.2.2.2.1; have h5 := h.2.2.2.2.2.1; have h6 := h.2.2.2.2.2.2.1; clear h; omega⟩)⟩ dX11_wordRefusal_26
      · refine kx_if_ne 25 F 27 dX11_wordRefusal_22 (by decide) rfl (by omega) (fun h_127 => (by exfalso; omega)) (fun h_127 => ?_)
        refine kx_iconst 26 F dX11_wordRefusal_25 rfl ?_
        exact kx_iret F hQ ⟨rfl, (by omega), (Or.inr ⟨by omega, fun h => by have h0 := h.1; have h1 := h.2.1; have h2 := h.2.2.1; have h3 := h.2.2.2.1; have h4 := h.2.2.2.2.1; have h5 := h.2.2.2.2.2.1; have h6 := h.2.2.2.2.2.2.1; clear h; omega⟩)⟩ dX11_wordRefusal_26
    · refine kx_if_eq 15 F 25 dX11_wordRefusal_12 (by decide) rfl (by omega) (fun h_128 => ?_) (fun h_128 => (by exfalso; omega))
      refine kx_iconst 26 F dX11_wordRefusal_25 rfl ?_
      exact kx_iret F hQ ⟨rfl, (by omega), (Or.inr ⟨by omega, fun h => by have h0 := h.1; have h1 := h.2.1; have h2 := h.2.2.1; have h3 := h.2.2.2.1; have h4 := h.2.2.2.2.1; have h5 := h.2.2.2.2.2.1; have h6 := h.2.2.2.2.2.2.1; clear h; omega⟩)⟩ dX11_wordRefusal_26
    · refine kx_if_eq 15 F 25 dX11_wordRefusal_12 (by decide) rfl (by omega) (fun h_129 => ?_) (fun h_129 => (by exfalso; omega))
      refine kx_iconst 26 F dX11_wordRefusal_25 rfl ?_
      exact kx_iret F hQ ⟨rfl, (by omega), (Or.inr ⟨by omega, fun h => by have h0 := h.1; have h1 := h.2.1; have h2 := h.2.2.1; have h3 := h.2.2.2.1; have h4 := h.2.2.2.2.1; have h5 := h.2.2.2.2.2.1; have h6 := h.2.2.2.2.2.2.1; clear h; omega⟩)⟩ dX11_wordRefusal_26
set_option maxHeartbeats 4000000 in
set_option maxRecDepth 100000 in
theorem e_get3 (G : KG) (l : Launch) (M : Mem) (c0 : Int) (a1 : Int) (a2 : Int) (hI_M : Inv false M) (hk_c0 : kd c0 = 13) (hpre : -2147483648 ≤ a1 ∧ a1 ≤ 2147483647 ∧ -2147483648 ≤ a2 ∧ a2 ≤ 2147483647 ∧ 0 ≤ a1 ∧ a1 ≤ 3 ∧ 0 ≤ a2 ∧ a2 ≤ 59) : KC false G l yX9_get cX9_get 3 (some .long) (0, 0) [vR G c0, vI a1, vI a2] M (fun A => kQl false G A (fun (r : Int) (N : Mem) => M = N ∧ (r = (M (M c0 0) (60 * a1 + a2)) ∧ r ≥ -9223372036854775808 ∧ r ≤ 9223372036854775807))) := by
  refine kx_met (lo := [some (vR G c0), some (vI a1), some (vI a2)]) (by decide) (Nat.le_of_ble_eq_true rfl) rfl ?_
  intro X F hQ
  refine kx_aload_n 1 F 0 dX9_get_0 rfl rfl rfl ?_
  refine kx_getr 4 F fl_X9_11 hk_c0 rfl rfl (j := 0) rfl dX9_get_1 (v := (M c0 0)) rfl rfl ?_
  have hk_1 : kd (M c0 0) = 14 := Inv.r hI_M hk_c0 rfl 0 rfl rfl
  refine kx_iload_n 5 F 1 dX9_get_4 rfl rfl rfl ?_
  refine kx_bipush 7 F dX9_get_5 (by decide) rfl ?_
  refine kx_imul 8 F (v := 60 * a1) dX9_get_7 (by omega) rfl ?_
  refine kx_iload_n 9 F 2 dX9_get_8 rfl rfl rfl ?_
  refine kx_iadd 10 F (v := 60 * a1 + a2) dX9_get_9 rfl rfl ?_
  refine kx_lald 11 F hk_1 rfl rfl (by omega) (by decide) dX9_get_10 (v := (M (M c0 0) (60 * a1 + a2))) rfl rfl ?_
  have h_2 := Inv.g hI_M hk_1 rfl (60 * a1 + a2) (a := (-9223372036854775808)) (b := 9223372036854775807) rfl rfl
  exact kx_lret F hQ ⟨rfl, (by omega)⟩ dX9_get_11
set_option maxHeartbeats 4000000 in
set_option maxRecDepth 100000 in
theorem e_sortAt3 (G : KG) (l : Launch) (M : Mem) (c0 : Int) (a1 : Int) (a2 : Int) (hI_M : Inv false M) (hk_c0 : kd c0 = 62) (hpre : -2147483648 ≤ a1 ∧ a1 ≤ 2147483647 ∧ -2147483648 ≤ a2 ∧ a2 ≤ 2147483647 ∧ 0 ≤ a1 ∧ a1 ≤ 3 ∧ 0 ≤ a2 ∧ a2 ≤ 59 ∧ 0 ≤ (M (M (M c0 3) 0) (60 * a1 + a2)) ∧ (M (M (M c0 3) 0) (60 * a1 + a2)) ≤ 5 ∧ (M (M (M c0 3) 0) (60 * a1 + a2)) < (M (M c0 5) 2)) : KC false G l yX11_sortAt cX11_sortAt 3 (some .int) (2, 42) [vR G c0, vI a1, vI a2] M (fun A => kQi false G A (fun (r : Int) (N : Mem) => M = N ∧ ((r = 0 ∧ (M (M (M c0 3) 0) (60 * a1 + a2)) < (M (M c0 5) 0)) ∨ (r = 1 ∧ (M (M (M c0 3) 0) (60 * a1 + a2)) ≥ (M (M c0 5) 0) ∧ (M (M (M c0 3) 0) (60 * a1 + a2)) < (M (M c0 5) 1)) ∨ (r = 2 ∧ (M (M (M c0 3) 0) (60 * a1 + a2)) ≥ (M (M c0 5) 0) ∧ (M (M (M c0 3) 0) (60 * a1 + a2)) ≥ (M (M c0 5) 1))))) := by
  refine kx_met (lo := [some (vR G c0), some (vI a1), some (vI a2)]) (by decide) (Nat.le_of_ble_eq_true rfl) rfl ?_
  intro X F hQ
  have hk_1 : kd (M c0 5) = 12 := Inv.r hI_M hk_c0 rfl 5 rfl rfl
  have h_2 := Inv.g hI_M hk_1 rfl 2 (a := 0) (b := 6) rfl rfl
  have hk_3 : kd (M c0 3) = 13 := Inv.r hI_M hk_c0 rfl 3 rfl rfl
  have hk_4 : kd (M (M c0 3) 0) = 14 := Inv.r hI_M hk_3 rfl 0 rfl rfl
  have hk_5 : kd (M (M c0 3) 1) = 15 := Inv.r hI_M hk_3 rfl 1 rfl rfl
  have hk_6 : kd (M (M c0 3) 2) = 16 := Inv.r hI_M hk_3 rfl 2 rfl rfl
  refine kx_aload_n 1 F 0 dX11_sortAt_0 rfl rfl rfl ?_
  refine kx_getr 4 F fl_X11_26 hk_c0 rfl rfl (j := 5) rfl dX11_sortAt_1 (v := (M c0 5)) rfl rfl ?_
  refine kx_aload_n 5 F 0 dX11_sortAt_4 rfl rfl rfl ?_
  refine kx_getr 8 F fl_X11_10 hk_c0 rfl rfl (j := 3) rfl dX11_sortAt_5 (v := (M c0 3)) rfl rfl ?_
  refine kx_iload_n 9 F 1 dX11_sortAt_8 rfl rfl rfl ?_
  refine kx_iload_n 10 F 2 dX11_sortAt_9 rfl rfl rfl ?_
  refine kx_Vl 13 (ci := 0) F (As := [vI a1, vI a2]) (st := [vR G (M c0 5)]) vd_X11_114 (e_get3 G l M (M c0 3) a1 a2 hI_M hk_3 (by omega)) hk_3 rfl rfl rfl ⟨by decide, by decide⟩ rfl rfl (Nat.le_of_ble_eq_true rfl) dX11_sortAt_10 rfl ?_
  intro r_7 N_8 q_9
  obtain ⟨rfl, q_9c⟩ := q_9
  refine kx_l2i 14 F dX11_sortAt_13 rfl ?_
  refine kx_Vi 17 (ci := 0) F (As := [vI r_7]) (st := []) vd_X11_242 (e_X5_sortOf G l M (M c0 5) r_7 hI_M hk_1 (by omega)) hk_1 rfl rfl rfl ⟨by decide, by decide⟩ rfl rfl (Nat.le_of_ble_eq_true rfl) dX11_sortAt_14 rfl ?_
  intro r_10 N_11 q_12
  obtain ⟨rfl, q_12c⟩ := q_12
  have h_13 := Inv.g hI_M hk_1 rfl 0 (a := 0) (b := 2) rfl rfl
  have h_15 := Inv.g hI_M hk_1 rfl 1 (a := 0) (b := 4) rfl rfl
  rcases q_12c with q_12c | q_12c | q_12c | q_12c | q_12c
  · exfalso; omega
  · skip
    exact kx_iret F hQ ⟨rfl, (by omega)⟩ dX11_sortAt_17
  · skip
    exact kx_iret F hQ ⟨rfl, (Or.inl (by omega))⟩ dX11_sortAt_17
  · exact kx_iret F hQ ⟨rfl, (Or.inr (Or.inl (by omega)))⟩ dX11_sortAt_17
  · exact kx_iret F hQ ⟨rfl, (Or.inr (Or.inr (by omega)))⟩ dX11_sortAt_17
abbrev f_e_depth3 : List (Nat × Int) := [(62, 0)]
set_option maxHeartbeats 4000000 in
set_option maxRecDepth 100000 in
theorem e_depth3 (G : KG) (l : Launch) (M : Mem) (c0 : Int) (a1 : Int) (a2 : Int) (a3 : Int) (hI_M : Inv false M) (hk_c0 : kd c0 = 62) (hpre : -2147483648 ≤ a1 ∧ a1 ≤ 2147483647 ∧ -2147483648 ≤ a2 ∧ a2 ≤ 2147483647 ∧ -2147483648 ≤ a3 ∧ a3 ≤ 2147483647) : KC false G l yX11_depth cX11_depth 10 (some .int) (3, 69) [vR G c0, vI a1, vI a2, vI a3] M (fun A => kQi false G A (fun (r : Int) (N : Mem) => Inv false N ∧ Fr f_e_depth3 M N ∧ (r ≥ -1 ∧ r ≤ 20) ∧ (zDE (M (M (M c0 3) 0)) a1 a2 a3 (M (M (M c0 3) 2) a1) (M (M c0 5) 2) (M (M c0 5) 0) (M (M c0 5) 1) r))) := by
  refine kx_met (lo := [some (vR G c0), some (vI a1), some (vI a2), some (vI a3), none, none, none, none, none, none]) (by decide) (Nat.le_of_ble_eq_true rfl) rfl ?_
  intro X F hQ
  have hF_M : Fr f_e_depth3 M M := Fr.rf _ _
  have hk_1 : kd (M c0 3) = 13 := Inv.r hI_M hk_c0 rfl 3 rfl rfl
  have hk_2 : kd (M (M c0 3) 0) = 14 := Inv.r hI_M hk_1 rfl 0 rfl rfl
  have hk_3 : kd (M (M c0 3) 1) = 15 := Inv.r hI_M hk_1 rfl 1 rfl rfl
  have hk_4 : kd (M (M c0 3) 2) = 16 := Inv.r hI_M hk_1 rfl 2 rfl rfl
  have hk_5 : kd (M c0 5) = 12 := Inv.r hI_M hk_c0 rfl 5 rfl rfl
  refine kx_aload_n 1 F 0 dX11_depth_0 rfl rfl rfl ?_
  refine kx_iload_n 2 F 3 dX11_depth_1 rfl rfl rfl ?_
  refine kx_iconst 3 F dX11_depth_2 rfl ?_
  refine kx_iconst 4 F dX11_depth_3 rfl ?_
  refine kx_Si 7 F (As := [vI a3, vI 0, vI 2]) (st := [vR G c0]) sd_X11_87 (e_X11_within G l M a3 0 2 hI_M (by omega)) ⟨by decide, by decide⟩ rfl rfl (Nat.le_of_ble_eq_true rfl) dX11_depth_4 rfl ?_
  intro r_6 N_7 q_8
  obtain ⟨rfl, q_8c⟩ := q_8
  rcases q_8c with q_8c | q_8c | q_8c
  · refine kx_iload_n 8 F 1 dX11_depth_7 rfl rfl rfl ?_
    refine kx_iload_n 9 F 2 dX11_depth_8 rfl rfl rfl ?_
    refine kx_Vi 12 (ci := 0) F (As := [vI r_6, vI a1, vI a2]) (st := []) vd_X11_226 (e_wordRefusal3 G l M c0 r_6 a1 a2 hI_M hk_c0 (by omega)) hk_c0 rfl rfl rfl ⟨by decide, by decide⟩ rfl rfl (Nat.le_of_ble_eq_true rfl) dX11_depth_9 rfl ?_
    intro r_9 N_10 q_11
    obtain ⟨rfl, q_11c, hz_N_10⟩ := q_11
    rcases q_11c with q_11c | q_11c
    · refine kx_istore 14 F 4 (lo' := [some (vR G c0), some (vI a1), some (vI a2), some (vI a3), some (vI r_9), none, none, none, none, none]) dX11_depth_12 (by decide) rfl rfl rfl ?_
      refine kx_iload 16 F 4 dX11_depth_14 rfl rfl ?_
      refine kx_if_eq 19 F 26 dX11_depth_16 (by decide) rfl (by omega) (fun h_12 => ?_) (fun h_12 => (by exfalso; omega))
      refine kx_iconst 27 F dX11_depth_26 rfl ?_
      refine kx_istore 29 F 5 (lo' := [some (vR G c0), some (vI a1), some (vI a2), some (vI a3), some (vI r_9), some (vI 0), none, none, none, none]) dX11_depth_27 (by decide) rfl rfl rfl ?_
      refine kx_iconst 30 F dX11_depth_29 rfl ?_
      refine kx_istore 32 F 6 (lo' := [some (vR G c0), some (vI a1), some (vI a2), some (vI a3), some (vI r_9), some (vI 0), some (vI 0), none, none, none]) dX11_depth_30 (by decide) rfl rfl rfl ?_
      refine kx_iconst 33 F dX11_depth_32 rfl ?_
      refine kx_istore 35 F 7 (lo' := [some (vR G c0), some (vI a1), some (vI a2), some (vI a3), some (vI r_9), some (vI 0), some (vI 0), some (vI 0), none, none]) dX11_depth_33 (by decide) rfl rfl rfl ?_
      refine kx_iconst 36 F dX11_depth_35 rfl ?_
      refine kx_istore 38 F 8 (lo' := [some (vR G c0), some (vI a1), some (vI a2), some (vI a3), some (vI r_9), some (vI 0), some (vI 0), some (vI 0), some (vI 0), none]) dX11_depth_36 (by decide) rfl rfl rfl ?_
      have L_53 : ∀ (n_54 : Nat) (x5_49 : Int) (x6_50 : Int) (x7_51 : Int) (x8_52 : Int), zDJ (fun j => M (M (M c0 3) 0) (60 * a1 + j)) (M (M c0 5) 0) (M (M c0 5) 1) x8_52 x5_49 x6_50 x7_51 → 0 ≤ x5_49 ∧ x5_49 ≤ 20 ∧ 0 ≤ x6_50 ∧ x6_50 ≤ 20 ∧ 0 ≤ x7_51 ∧ x7_51 ≤ 20 ∧ 0 ≤ x8_52 ∧ x8_52 ≤ 20 ∧ x5_49 ≤ x8_52 ∧ x6_50 ≤ x8_52 ∧ x7_51 ≤ x8_52 ∧ x8_52 ≤ a2 → (20 - (x8_52)).toNat = n_54 → KJ false G X M 38 [some (vR G c0), some (vI a1), some (vI a2), some (vI a3), none, some (vI x5_49), some (vI x6_50), some (vI x7_51), some (vI x8_52), none] [] := by
        intro n_54
        refine Nat.strongRecOn n_54 ?_
        intro n_54 ih_55 x5_49 x6_50 x7_51 x8_52 hp_58 h_56 hm_57
        refine kx_iload 40 F 8 dX11_depth_38 rfl rfl ?_
        refine kx_iload_n 41 F 2 dX11_depth_40 rfl rfl rfl ?_
        refine kx_icmp_ge 44 F 105 dX11_depth_41 (by decide) rfl (by omega) (by omega) (fun h_59 => ?_) (fun h_59 => ?_)
        · refine kx_iload_n 106 F 3 dX11_depth_105 rfl rfl rfl ?_
          refine kx_if_ne 109 F 116 dX11_depth_106 (by decide) rfl (by omega) (fun h_60 => ?_) (fun h_60 => ?_)
          · refine kx_aload_n 117 F 0 dX11_depth_116 rfl rfl rfl ?_
            refine kx_iload_n 118 F 3 dX11_depth_117 rfl rfl rfl ?_
            refine kx_iconst 119 F dX11_depth_118 rfl ?_
            refine kx_icmp_ne 122 F 127 dX11_depth_119 (by decide) rfl (by omega) (by decide) (fun h_61 => ?_) (fun h_61 => ?_)
            · refine kx_iload 129 F 7 dX11_depth_127 rfl rfl ?_
              refine kx_Vi 132 (ci := 0) F (As := [vI x7_51]) (st := []) vd_X11_145 (c_X11_answer G l M c0 x7_51 hI_M hk_c0 (by omega)) hk_c0 rfl rfl rfl ⟨by decide, by decide⟩ rfl rfl (Nat.le_of_ble_eq_true rfl) dX11_depth_129 rfl ?_
              intro r_62 N_63 q_64
              obtain ⟨hI_N_63, hG_N_63, q_64c⟩ := q_64
              have hF_N_63 : Fr f_e_depth3 M N_63 := Fr.c hF_M hG_N_63 rfl
              exact kx_iret F hQ ⟨hI_N_63, hF_N_63, (by omega), (Or.inl ⟨⟨by omega, by omega, zWR.y hz_N_10 (by omega)⟩, zDJ.k hp_58 (by omega) (by omega)⟩)⟩ dX11_depth_132
            · refine kx_iload 124 F 6 dX11_depth_122 rfl rfl ?_
              refine kx_goto 129 F dX11_depth_124 (by decide) ?_
              refine kx_Vi 132 (ci := 0) F (As := [vI x6_50]) (st := []) vd_X11_145 (c_X11_answer G l M c0 x6_50 hI_M hk_c0 (by omega)) hk_c0 rfl rfl rfl ⟨by decide, by decide⟩ rfl rfl (Nat.le_of_ble_eq_true rfl) dX11_depth_129 rfl ?_
              intro r_65 N_66 q_67
              obtain ⟨hI_N_66, hG_N_66, q_67c⟩ := q_67
              have hF_N_66 : Fr f_e_depth3 M N_66 := Fr.c hF_M hG_N_66 rfl
              exact kx_iret F hQ ⟨hI_N_66, hF_N_66, (by omega), (Or.inl ⟨⟨by omega, by omega, zWR.y hz_N_10 (by omega)⟩, zDJ.k hp_58 (by omega) (by omega)⟩)⟩ dX11_depth_132
          · refine kx_aload_n 110 F 0 dX11_depth_109 rfl rfl rfl ?_
            refine kx_iload 112 F 5 dX11_depth_110 rfl rfl ?_
            refine kx_Vi 115 (ci := 0) F (As := [vI x5_49]) (st := []) vd_X11_145 (c_X11_answer G l M c0 x5_49 hI_M hk_c0 (by omega)) hk_c0 rfl rfl rfl ⟨by decide, by decide⟩ rfl rfl (Nat.le_of_ble_eq_true rfl) dX11_depth_112 rfl ?_
            intro r_68 N_69 q_70
            obtain ⟨hI_N_69, hG_N_69, q_70c⟩ := q_70
            have hF_N_69 : Fr f_e_depth3 M N_69 := Fr.c hF_M hG_N_69 rfl
            exact kx_iret F hQ ⟨hI_N_69, hF_N_69, (by omega), (Or.inl ⟨⟨by omega, by omega, zWR.y hz_N_10 (by omega)⟩, zDJ.k hp_58 (by omega) (by omega)⟩)⟩ dX11_depth_115
        · have hwo := zWR.y hz_N_10 (by omega)
          have hwr : 0 ≤ a1 ∧ a1 ≤ 3 ∧ 0 ≤ a2 ∧ a2 ≤ 20 := ⟨hwo.1, hwo.2.1, hwo.2.2.1, hwo.2.2.2.1⟩
          have hl_71 := hwo.2.2.2.2.2.2 x8_52 (by omega) (by omega)
          have hl_71l := Inv.g hI_M hk_5 rfl 2 (a := 0) (b := 6) rfl rfl
          refine kx_aload_n 45 F 0 dX11_depth_44 rfl rfl rfl ?_
          refine kx_iload_n 46 F 1 dX11_depth_45 rfl rfl rfl ?_
          refine kx_iload 48 F 8 dX11_depth_46 rfl rfl ?_
          refine kx_Vi 51 (ci := 0) F (As := [vI a1, vI x8_52]) (st := []) vd_X11_256 (e_sortAt3 G l M c0 a1 x8_52 hI_M hk_c0 (by omega)) hk_c0 rfl rfl rfl ⟨by decide, by decide⟩ rfl rfl (Nat.le_of_ble_eq_true rfl) dX11_depth_48 rfl ?_
          intro r_73 N_74 q_75
          obtain ⟨rfl, q_75c⟩ := q_75
          have h_76 := Inv.g hI_M hk_5 rfl 0 (a := 0) (b := 2) rfl rfl
          have h_78 := Inv.g hI_M hk_5 rfl 1 (a := 0) (b := 4) rfl rfl
          rcases q_75c with q_75c | q_75c | q_75c
          · refine kx_istore 53 F 9 (lo' := [some (vR G c0), some (vI a1), some (vI a2), some (vI a3), none, some (vI x5_49), some (vI x6_50), some (vI x7_51), some (vI x8_52), some (vI r_73)]) dX11_depth_51 (by decide) rfl rfl rfl ?_
            refine kx_iload 55 F 9 dX11_depth_53 rfl rfl ?_
            refine kx_if_ne 58 F 73 dX11_depth_55 (by decide) rfl (by omega) (fun h_81 => (by exfalso; omega)) (fun h_81 => ?_)
            refine kx_iinc 61 F 5 (v := x5_49 + 1) (lo' := [some (vR G c0), some (vI a1), some (vI a2), some (vI a3), none, some (vI (x5_49 + 1)), some (vI x6_50), some (vI x7_51), some (vI x8_52), some (vI r_73)]) dX11_depth_58 rfl (by omega) (by decide) rfl rfl rfl ?_
            refine kx_iload 63 F 7 dX11_depth_61 rfl rfl ?_
            refine kx_iload 65 F 5 dX11_depth_63 rfl rfl ?_
            refine kx_mmax 68 F dX11_depth_65 (tt lm_1184 rfl) (tt lm_480 rfl) (tt lm_180 rfl) (tt lm_481 rfl) (by decide) (Nat.le_of_ble_eq_true rfl) (by omega) (by omega) rfl (fun w_82 h_83 => ?_)
            refine kx_istore 70 F 7 (lo' := [some (vR G c0), some (vI a1), some (vI a2), some (vI a3), none, some (vI (x5_49 + 1)), some (vI x6_50), some (vI w_82), some (vI x8_52), some (vI r_73)]) dX11_depth_68 (by decide) rfl rfl rfl ?_
            refine kx_goto 99 F dX11_depth_70 (by decide) ?_
            refine kx_iinc 102 F 8 (v := x8_52 + 1) (lo' := [some (vR G c0), some (vI a1), some (vI a2), some (vI a3), none, some (vI (x5_49 + 1)), some (vI x6_50), some (vI w_82), some (vI (x8_52 + 1)), some (vI r_73)]) dX11_depth_99 rfl (by omega) (by decide) rfl rfl rfl ?_
            refine kx_goto 38 F dX11_depth_102 (by decide) ?_
            refine kx_drop 9 (lo' := [some (vR G c0), some (vI a1), some (vI a2), some (vI a3), none, some (vI (x5_49 + 1)), some (vI x6_50), some (vI w_82), some (vI (x8_52 + 1)), none]) rfl ?_
            exact ih_55 _ (by omega) (x5_49 + 1) x6_50 w_82 (x8_52 + 1) (zDJ.c hp_58 (by omega) (by have h : M (M (M c0 3) 0) (60 * a1 + x8_52) < (M (M c0 5) 0) := (by omega); exact h) (by omega) (by omega)) (by omega) rfl
          · refine kx_istore 53 F 9 (lo' := [some (vR G c0), some (vI a1), some (vI a2), some (vI a3), none, some (vI x5_49), some (vI x6_50), some (vI x7_51), some (vI x8_52), some (vI r_73)]) dX11_depth_51 (by decide) rfl rfl rfl ?_
            refine kx_iload 55 F 9 dX11_depth_53 rfl rfl ?_
            refine kx_if_ne 58 F 73 dX11_depth_55 (by decide) rfl (by omega) (fun h_84 => ?_) (fun h_84 => (by exfalso; omega))
            refine kx_iload 75 F 9 dX11_depth_73 rfl rfl ?_
            refine kx_iconst 76 F dX11_depth_75 rfl ?_
            refine kx_icmp_ne 79 F 90 dX11_depth_76 (by decide) rfl (by omega) (by decide) (fun h_85 => (by exfalso; omega)) (fun h_85 => ?_)
            refine kx_iload 81 F 5 dX11_depth_79 rfl rfl ?_
            refine kx_if_le 84 F 90 dX11_depth_81 (by decide) rfl (by omega) (fun h_86 => ?_) (fun h_86 => ?_)
            · refine kx_iload 92 F 9 dX11_depth_90 rfl rfl ?_
              refine kx_iconst 93 F dX11_depth_92 rfl ?_
              refine kx_icmp_ne 96 F 99 dX11_depth_93 (by decide) rfl (by omega) (by decide) (fun h_87 => (by exfalso; omega)) (fun h_87 => ?_)
              refine kx_iinc 99 F 6 (v := x6_50 + 1) (lo' := [some (vR G c0), some (vI a1), some (vI a2), some (vI a3), none, some (vI x5_49), some (vI (x6_50 + 1)), some (vI x7_51), some (vI x8_52), some (vI r_73)]) dX11_depth_96 rfl (by omega) (by decide) rfl rfl rfl ?_
              refine kx_iinc 102 F 8 (v := x8_52 + 1) (lo' := [some (vR G c0), some (vI a1), some (vI a2), some (vI a3), none, some (vI x5_49), some (vI (x6_50 + 1)), some (vI x7_51), some (vI (x8_52 + 1)), some (vI r_73)]) dX11_depth_99 rfl (by omega) (by decide) rfl rfl rfl ?_
              refine kx_goto 38 F dX11_depth_102 (by decide) ?_
              refine kx_drop 9 (lo' := [some (vR G c0), some (vI a1), some (vI a2), some (vI a3), none, some (vI x5_49), some (vI (x6_50 + 1)), some (vI x7_51), some (vI (x8_52 + 1)), none]) rfl ?_
              exact ih_55 _ (by omega) x5_49 (x6_50 + 1) x7_51 (x8_52 + 1) (zDJ.l hp_58 (by omega) (by have h : ¬ M (M (M c0 3) 0) (60 * a1 + x8_52) < (M (M c0 5) 0) := (by omega); exact h) (by have h : M (M (M c0 3) 0) (60 * a1 + x8_52) < (M (M c0 5) 1) := (by omega); exact h) (by omega) (by omega)) (by omega) rfl
            · refine kx_iinc 87 F 5 (v := x5_49 - 1) (lo' := [some (vR G c0), some (vI a1), some (vI a2), some (vI a3), none, some (vI (x5_49 - 1)), some (vI x6_50), some (vI x7_51), some (vI x8_52), some (vI r_73)]) dX11_depth_84 rfl (by omega) (by decide) rfl rfl rfl ?_
              refine kx_goto 99 F dX11_depth_87 (by decide) ?_
              refine kx_iinc 102 F 8 (v := x8_52 + 1) (lo' := [some (vR G c0), some (vI a1), some (vI a2), some (vI a3), none, some (vI (x5_49 - 1)), some (vI x6_50), some (vI x7_51), some (vI (x8_52 + 1)), some (vI r_73)]) dX11_depth_99 rfl (by omega) (by decide) rfl rfl rfl ?_
              refine kx_goto 38 F dX11_depth_102 (by decide) ?_
              refine kx_drop 9 (lo' := [some (vR G c0), some (vI a1), some (vI a2), some (vI a3), none, some (vI (x5_49 - 1)), some (vI x6_50), some (vI x7_51), some (vI (x8_52 + 1)), none]) rfl ?_
              exact ih_55 _ (by omega) (x5_49 - 1) x6_50 x7_51 (x8_52 + 1) (zDJ.r hp_58 (by omega) (by have h : ¬ M (M (M c0 3) 0) (60 * a1 + x8_52) < (M (M c0 5) 0) := (by omega); exact h) (by have h : M (M (M c0 3) 0) (60 * a1 + x8_52) < (M (M c0 5) 1) := (by omega); exact h) (by omega) (by omega)) (by omega) rfl
          · refine kx_istore 53 F 9 (lo' := [some (vR G c0), some (vI a1), some (vI a2), some (vI a3), none, some (vI x5_49), some (vI x6_50), some (vI x7_51), some (vI x8_52), some (vI r_73)]) dX11_depth_51 (by decide) rfl rfl rfl ?_
            refine kx_iload 55 F 9 dX11_depth_53 rfl rfl ?_
            refine kx_if_ne 58 F 73 dX11_depth_55 (by decide) rfl (by omega) (fun h_88 => ?_) (fun h_88 => (by exfalso; omega))
            refine kx_iload 75 F 9 dX11_depth_73 rfl rfl ?_
            refine kx_iconst 76 F dX11_depth_75 rfl ?_
            refine kx_icmp_ne 79 F 90 dX11_depth_76 (by decide) rfl (by omega) (by decide) (fun h_89 => ?_) (fun h_89 => (by exfalso; omega))
            refine kx_iload 92 F 9 dX11_depth_90 rfl rfl ?_
            refine kx_iconst 93 F dX11_depth_92 rfl ?_
            refine kx_icmp_ne 96 F 99 dX11_depth_93 (by decide) rfl (by omega) (by decide) (fun h_90 => ?_) (fun h_90 => (by exfalso; omega))
            refine kx_iinc 102 F 8 (v := x8_52 + 1) (lo' := [some (vR G c0), some (vI a1), some (vI a2), some (vI a3), none, some (vI x5_49), some (vI x6_50), some (vI x7_51), some (vI (x8_52 + 1)), some (vI r_73)]) dX11_depth_99 rfl (by omega) (by decide) rfl rfl rfl ?_
            refine kx_goto 38 F dX11_depth_102 (by decide) ?_
            refine kx_drop 9 (lo' := [some (vR G c0), some (vI a1), some (vI a2), some (vI a3), none, some (vI x5_49), some (vI x6_50), some (vI x7_51), some (vI (x8_52 + 1)), none]) rfl ?_
            exact ih_55 _ (by omega) x5_49 x6_50 x7_51 (x8_52 + 1) (zDJ.i hp_58 (by omega) (by have h : ¬ M (M (M c0 3) 0) (60 * a1 + x8_52) < (M (M c0 5) 0) := (by omega); exact h) (by have h : ¬ M (M (M c0 3) 0) (60 * a1 + x8_52) < (M (M c0 5) 1) := (by omega); exact h)) (by omega) rfl
      refine kx_drop 4 (lo' := [some (vR G c0), some (vI a1), some (vI a2), some (vI a3), none, some (vI 0), some (vI 0), some (vI 0), some (vI 0), none]) rfl ?_
      exact L_53 _ 0 0 0 0 zDJ.nil (by omega) rfl
    · refine kx_istore 14 F 4 (lo' := [some (vR G c0), some (vI a1), some (vI a2), some (vI a3), some (vI r_9), none, none, none, none, none]) dX11_depth_12 (by decide) rfl rfl rfl ?_
      refine kx_iload 16 F 4 dX11_depth_14 rfl rfl ?_
      refine kx_if_eq 19 F 26 dX11_depth_16 (by decide) rfl (by omega) (fun h_91 => (by exfalso; omega)) (fun h_91 => ?_)
      refine kx_aload_n 20 F 0 dX11_depth_19 rfl rfl rfl ?_
      refine kx_iload 22 F 4 dX11_depth_20 rfl rfl ?_
      refine kx_Vi 25 (ci := 0) F (As := [vI r_9]) (st := []) vd_X11_110 (c_X11_refuse G l M c0 r_9 hI_M hk_c0 (by omega)) hk_c0 rfl rfl rfl ⟨by decide, by decide⟩ rfl rfl (Nat.le_of_ble_eq_true rfl) dX11_depth_22 rfl ?_
      intro r_92 N_93 q_94
      obtain ⟨hI_N_93, hG_N_93, q_94c⟩ := q_94
      have hF_N_93 : Fr f_e_depth3 M N_93 := Fr.c hF_M hG_N_93 rfl
      subst q_94c
      exact kx_iret F hQ ⟨hI_N_93, hF_N_93, (by omega), (Or.inr ⟨fun h => (zWR.n hz_N_10 (by omega)) ⟨by have h1 := h.1; have h2 := h.2.1; omega, h.2.2⟩, by omega⟩)⟩ dX11_depth_25
  · refine kx_iload_n 8 F 1 dX11_depth_7 rfl rfl rfl ?_
    refine kx_iload_n 9 F 2 dX11_depth_8 rfl rfl rfl ?_
    refine kx_Vi 12 (ci := 0) F (As := [vI r_6, vI a1, vI a2]) (st := []) vd_X11_226 (e_wordRefusal3 G l M c0 r_6 a1 a2 hI_M hk_c0 (by omega)) hk_c0 rfl rfl rfl ⟨by decide, by decide⟩ rfl rfl (Nat.le_of_ble_eq_true rfl) dX11_depth_9 rfl ?_
    intro r_95 N_96 q_97
    obtain ⟨rfl, q_97c, hz_N_96⟩ := q_97
    rcases q_97c with q_97c | q_97c
    · exfalso; omega
    · refine kx_istore 14 F 4 (lo' := [some (vR G c0), some (vI a1), some (vI a2), some (vI a3), some (vI r_95), none, none, none, none, none]) dX11_depth_12 (by decide) rfl rfl rfl ?_
      refine kx_iload 16 F 4 dX11_depth_14 rfl rfl ?_
      refine kx_if_eq 19 F 26 dX11_depth_16 (by decide) rfl (by omega) (fun h_98 => (by exfalso; omega)) (fun h_98 => ?_)
      refine kx_aload_n 20 F 0 dX11_depth_19 rfl rfl rfl ?_
      refine kx_iload 22 F 4 dX11_depth_20 rfl rfl ?_
      refine kx_Vi 25 (ci := 0) F (As := [vI r_95]) (st := []) vd_X11_110 (c_X11_refuse G l M c0 r_95 hI_M hk_c0 (by omega)) hk_c0 rfl rfl rfl ⟨by decide, by decide⟩ rfl rfl (Nat.le_of_ble_eq_true rfl) dX11_depth_22 rfl ?_
      intro r_99 N_100 q_101
      obtain ⟨hI_N_100, hG_N_100, q_101c⟩ := q_101
      have hF_N_100 : Fr f_e_depth3 M N_100 := Fr.c hF_M hG_N_100 rfl
      subst q_101c
      exact kx_iret F hQ ⟨hI_N_100, hF_N_100, (by omega), (Or.inr ⟨fun h => (zWR.n hz_N_96 (by omega)) ⟨by have h1 := h.1; have h2 := h.2.1; omega, h.2.2⟩, by omega⟩)⟩ dX11_depth_25
  · refine kx_iload_n 8 F 1 dX11_depth_7 rfl rfl rfl ?_
    refine kx_iload_n 9 F 2 dX11_depth_8 rfl rfl rfl ?_
    refine kx_Vi 12 (ci := 0) F (As := [vI r_6, vI a1, vI a2]) (st := []) vd_X11_226 (e_wordRefusal3 G l M c0 r_6 a1 a2 hI_M hk_c0 (by omega)) hk_c0 rfl rfl rfl ⟨by decide, by decide⟩ rfl rfl (Nat.le_of_ble_eq_true rfl) dX11_depth_9 rfl ?_
    intro r_102 N_103 q_104
    obtain ⟨rfl, q_104c, hz_N_103⟩ := q_104
    rcases q_104c with q_104c | q_104c
    · exfalso; omega
    · refine kx_istore 14 F 4 (lo' := [some (vR G c0), some (vI a1), some (vI a2), some (vI a3), some (vI r_102), none, none, none, none, none]) dX11_depth_12 (by decide) rfl rfl rfl ?_
      refine kx_iload 16 F 4 dX11_depth_14 rfl rfl ?_
      refine kx_if_eq 19 F 26 dX11_depth_16 (by decide) rfl (by omega) (fun h_105 => (by exfalso; omega)) (fun h_105 => ?_)
      refine kx_aload_n 20 F 0 dX11_depth_19 rfl rfl rfl ?_
      refine kx_iload 22 F 4 dX11_depth_20 rfl rfl ?_
      refine kx_Vi 25 (ci := 0) F (As := [vI r_102]) (st := []) vd_X11_110 (c_X11_refuse G l M c0 r_102 hI_M hk_c0 (by omega)) hk_c0 rfl rfl rfl ⟨by decide, by decide⟩ rfl rfl (Nat.le_of_ble_eq_true rfl) dX11_depth_22 rfl ?_
      intro r_106 N_107 q_108
      obtain ⟨hI_N_107, hG_N_107, q_108c⟩ := q_108
      have hF_N_107 : Fr f_e_depth3 M N_107 := Fr.c hF_M hG_N_107 rfl
      subst q_108c
      exact kx_iret F hQ ⟨hI_N_107, hF_N_107, (by omega), (Or.inr ⟨fun h => (zWR.n hz_N_103 (by omega)) ⟨by have h1 := h.1; have h2 := h.2.1; omega, h.2.2⟩, by omega⟩)⟩ dX11_depth_25
