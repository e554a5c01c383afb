abbrev f_e_X1_takePart : List (Nat × Int) := [(1, 0), (1, 1), (1, 2), (1, 3), (1, 4), (1, 5), (2, -1), (3, -1), (4, -1), (5, -1), (6, -1), (7, -1), (12, 0), (12, 1), (12, 2), (12, 3), (17, 2), (17, 3), (17, 6), (17, 7), (17, 8), (17, 9), (19, -1), (20, -1)]
set_option maxHeartbeats 4000000 in
set_option maxRecDepth 100000 in
theorem e_X1_takePart (G : KG) (l : Launch) (M : Mem) (c0 : Int) (hI_M : Inv false M) (hk_c0 : kd c0 = 17) (hpre : (M c0 7) + (M c0 8) ≤ 900) (hX_M : XX M) (Bt : Int → Int) (hB : TB M c0 Bt) (j : Int) (hj : 0 ≤ j) (hs : M c0 6 = tk Bt j ∧ M c0 7 = tp Bt j ∧ M c0 7 + M c0 8 = tq Bt j) (t q : Int → Int) (hN : NU M c0 Bt t q) (hq : M (M c0 0) 0 = q 0 ∧ M (M c0 0) 1 = q 0 + q 1 ∧ M (M c0 0) 2 = q 0 + q 1 + q 2 ∧ M (M c0 0) 3 = q 3 ∧ 0 ≤ q 0 ∧ q 0 ≤ 2 ∧ 0 ≤ q 1 ∧ q 1 ≤ 2 ∧ 0 ≤ q 2 ∧ q 2 ≤ 2 ∧ 0 ≤ q 3 ∧ q 3 ≤ 2) (hA : CA M c0 q) (hZ : FZ M) (hr : ∀ b, (b = 100 ∨ b = 185) → q (b + 4) ≤ 20 ∨ q 3 = 0) (ht0 : tbd Bt j = 0) : KC false G l yX1_takePart cX1_takePart 1 (some .boolean) (8, 175) [vR G c0] M (fun A => kQi false G A (fun (r : Int) (N : Mem) => Inv false N ∧ Fr f_e_X1_takePart M N ∧ (r ≥ 0 ∧ r ≤ 1) ∧ XX N ∧ Cf (Sm (M c0 0)) M N ∧ (∃ e q2 t2, zPS Bt t q j r (N c0 2) (N c0 3) e q2 t2 ∧ (r = 1 → zCP N M c0 Bt e ∧ CQ N c0 q2 ∧ NU N c0 Bt t2 q2 ∧ CA N c0 q2)))) := by
  refine kx_met (lo := [some (vR G c0)]) (by decide) (Nat.le_of_ble_eq_true rfl) rfl ?_
  intro X F hQ
  have hF_M : Fr f_e_X1_takePart M M := Fr.rf _ _
  have hE_M : Cf (Sm (M c0 0)) M M := Cf.rf _ _
  have h_1 := Inv.g hI_M hk_c0 rfl 7 (a := 0) (b := 900) rfl rfl
  have h_2 := Inv.g hI_M hk_c0 rfl 8 (a := 0) (b := 900) rfl rfl
  have ht_3 := tp_le (n := M c0 5) (TB.tx hB hI_M hk_c0) (Inv.g hI_M hk_c0 rfl 5 (a := 0) (b := 900) rfl rfl).1 (j := j) (by omega)
  have h_4 := Inv.g hI_M hk_c0 rfl 5 (a := 0) (b := 900) rfl rfl
  have ht_5 : 0 ≤ tk Bt j ∧ tk Bt j ≤ 4 := tk_b (n := M c0 5) (TB.tx hB hI_M hk_c0) (by omega)
  have hk_6 : kd (M c0 0) = 12 := Inv.r hI_M hk_c0 rfl 0 rfl rfl
  have hk_7 : kd (M c0 10) = 19 := Inv.r hI_M hk_c0 rfl 10 rfl rfl
  have hk_8 : kd (M c0 11) = 20 := Inv.r hI_M hk_c0 rfl 11 rfl rfl
  have hd_9 := kwd_r Bt j
  refine kx_aload_n 1 F 0 dX1_takePart_0 rfl rfl rfl ?_
  refine kx_ldcS 3 F 0 (by decide) rfl rfl dX1_takePart_1 rfl ?_
  have h_10 := Inv.g hI_M hk_c0 rfl 6 (a := 0) (b := 5) rfl rfl
  refine kx_Vi 6 (ci := 0) F (As := [vT G 0]) (st := []) vd_X1_69 (e_X1_isWord G l M c0 0 hI_M hk_c0 (by omega) Bt hB j (by omega) (by omega)) hk_c0 rfl rfl rfl ⟨by decide, by decide⟩ rfl rfl (Nat.le_of_ble_eq_true rfl) dX1_takePart_3 rfl ?_
  intro r_11 N_12 q_13
  obtain ⟨rfl, q_13c⟩ := q_13
  have hw_14 : kwi 0 = 0 := rfl
  rcases q_13c with q_13c | q_13c
  · refine kx_if_eq 9 F 15 dX1_takePart_6 (by decide) rfl (by omega) (fun h_15 => (by exfalso; omega)) (fun h_15 => ?_)
    refine kx_aload_n 10 F 0 dX1_takePart_9 rfl rfl rfl ?_
    refine kx_iconst 11 F dX1_takePart_10 rfl ?_
    have h_16 := Inv.g hI_M hk_6 rfl 0 (a := 0) (b := 2) rfl rfl
    have h_17 := Inv.g hI_M hk_6 rfl 1 (a := 0) (b := 4) rfl rfl
    have h_18 := Inv.g hI_M hk_6 rfl 2 (a := 0) (b := 6) rfl rfl
    have h_19 := Inv.g hI_M hk_6 rfl 3 (a := 0) (b := 2) rfl rfl
    refine kx_Vi 14 (ci := 0) F (As := [vI 0]) (st := []) vd_X1_73 (e_X1_takeLetter G l M c0 0 hI_M hk_c0 (by omega) hX_M Bt hB j (by omega) (by omega) t q hN (by omega)) hk_c0 rfl rfl rfl ⟨by decide, by decide⟩ rfl rfl (Nat.le_of_ble_eq_true rfl) dX1_takePart_11 rfl ?_
    intro r_20 N_21 q_22
    obtain ⟨hI_N_21, hG_N_21, q_22c, hX_N_21, hC_N_21, ⟨ho_N_21, hl_N_21⟩⟩ := q_22
    have hF_N_21 : Fr f_e_X1_takePart M N_21 := Fr.c hF_M hG_N_21 rfl
    have hE_N_21 : Cf (Sm (M c0 0)) M N_21 := Cf.c hE_M hC_N_21 (fun _ hx => hx)
    exact kx_zret F hQ (by omega) ⟨hI_N_21, hF_N_21, (by omega), hX_N_21, hE_N_21, ⟨_, _, _, zPS.L (k := 0) (by omega) ho_N_21 (by decide), hl_N_21⟩⟩ dX1_takePart_14
  · refine kx_if_eq 9 F 15 dX1_takePart_6 (by decide) rfl (by omega) (fun h_23 => ?_) (fun h_23 => (by exfalso; omega))
    refine kx_aload_n 16 F 0 dX1_takePart_15 rfl rfl rfl ?_
    refine kx_ldcS 18 F 1 (by decide) rfl rfl dX1_takePart_16 rfl ?_
    refine kx_Vi 21 (ci := 0) F (As := [vT G 1]) (st := []) vd_X1_69 (e_X1_isWord G l M c0 1 hI_M hk_c0 (by omega) Bt hB j (by omega) (by omega)) hk_c0 rfl rfl rfl ⟨by decide, by decide⟩ rfl rfl (Nat.le_of_ble_eq_true rfl) dX1_takePart_18 rfl ?_
    intro r_24 N_25 q_26
    obtain ⟨rfl, q_26c⟩ := q_26
    have hw_27 : kwi 1 = 1 := rfl
    rcases q_26c with q_26c | q_26c
    · refine kx_if_eq 24 F 30 dX1_takePart_21 (by decide) rfl (by omega) (fun h_28 => (by exfalso; omega)) (fun h_28 => ?_)
      refine kx_aload_n 25 F 0 dX1_takePart_24 rfl rfl rfl ?_
      refine kx_iconst 26 F dX1_takePart_25 rfl ?_
      have h_29 := Inv.g hI_M hk_6 rfl 0 (a := 0) (b := 2) rfl rfl
      have h_30 := Inv.g hI_M hk_6 rfl 1 (a := 0) (b := 4) rfl rfl
      have h_31 := Inv.g hI_M hk_6 rfl 2 (a := 0) (b := 6) rfl rfl
      have h_32 := Inv.g hI_M hk_6 rfl 3 (a := 0) (b := 2) rfl rfl
      refine kx_Vi 29 (ci := 0) F (As := [vI 1]) (st := []) vd_X1_73 (e_X1_takeLetter G l M c0 1 hI_M hk_c0 (by omega) hX_M Bt hB j (by omega) (by omega) t q hN (by omega)) hk_c0 rfl rfl rfl ⟨by decide, by decide⟩ rfl rfl (Nat.le_of_ble_eq_true rfl) dX1_takePart_26 rfl ?_
      intro r_33 N_34 q_35
      obtain ⟨hI_N_34, hG_N_34, q_35c, hX_N_34, hC_N_34, ⟨ho_N_34, hl_N_34⟩⟩ := q_35
      have hF_N_34 : Fr f_e_X1_takePart M N_34 := Fr.c hF_M hG_N_34 rfl
      have hE_N_34 : Cf (Sm (M c0 0)) M N_34 := Cf.c hE_M hC_N_34 (fun _ hx => hx)
      exact kx_zret F hQ (by omega) ⟨hI_N_34, hF_N_34, (by omega), hX_N_34, hE_N_34, ⟨_, _, _, zPS.L (k := 1) (by omega) ho_N_34 (by decide), hl_N_34⟩⟩ dX1_takePart_29
    · refine kx_if_eq 24 F 30 dX1_takePart_21 (by decide) rfl (by omega) (fun h_36 => ?_) (fun h_36 => (by exfalso; omega))
      refine kx_aload_n 31 F 0 dX1_takePart_30 rfl rfl rfl ?_
      refine kx_ldcS 33 F 2 (by decide) rfl rfl dX1_takePart_31 rfl ?_
      refine kx_Vi 36 (ci := 0) F (As := [vT G 2]) (st := []) vd_X1_69 (e_X1_isWord G l M c0 2 hI_M hk_c0 (by omega) Bt hB j (by omega) (by omega)) hk_c0 rfl rfl rfl ⟨by decide, by decide⟩ rfl rfl (Nat.le_of_ble_eq_true rfl) dX1_takePart_33 rfl ?_
      intro r_37 N_38 q_39
      obtain ⟨rfl, q_39c⟩ := q_39
      have hw_40 : kwi 2 = 2 := rfl
      rcases q_39c with q_39c | q_39c
      · refine kx_if_eq 39 F 45 dX1_takePart_36 (by decide) rfl (by omega) (fun h_41 => (by exfalso; omega)) (fun h_41 => ?_)
        refine kx_aload_n 40 F 0 dX1_takePart_39 rfl rfl rfl ?_
        refine kx_iconst 41 F dX1_takePart_40 rfl ?_
        have h_42 := Inv.g hI_M hk_6 rfl 0 (a := 0) (b := 2) rfl rfl
        have h_43 := Inv.g hI_M hk_6 rfl 1 (a := 0) (b := 4) rfl rfl
        have h_44 := Inv.g hI_M hk_6 rfl 2 (a := 0) (b := 6) rfl rfl
        have h_45 := Inv.g hI_M hk_6 rfl 3 (a := 0) (b := 2) rfl rfl
        refine kx_Vi 44 (ci := 0) F (As := [vI 2]) (st := []) vd_X1_73 (e_X1_takeLetter G l M c0 2 hI_M hk_c0 (by omega) hX_M Bt hB j (by omega) (by omega) t q hN (by omega)) hk_c0 rfl rfl rfl ⟨by decide, by decide⟩ rfl rfl (Nat.le_of_ble_eq_true rfl) dX1_takePart_41 rfl ?_
        intro r_46 N_47 q_48
        obtain ⟨hI_N_47, hG_N_47, q_48c, hX_N_47, hC_N_47, ⟨ho_N_47, hl_N_47⟩⟩ := q_48
        have hF_N_47 : Fr f_e_X1_takePart M N_47 := Fr.c hF_M hG_N_47 rfl
        have hE_N_47 : Cf (Sm (M c0 0)) M N_47 := Cf.c hE_M hC_N_47 (fun _ hx => hx)
        exact kx_zret F hQ (by omega) ⟨hI_N_47, hF_N_47, (by omega), hX_N_47, hE_N_47, ⟨_, _, _, zPS.L (k := 2) (by omega) ho_N_47 (by decide), hl_N_47⟩⟩ dX1_takePart_44
      · refine kx_if_eq 39 F 45 dX1_takePart_36 (by decide) rfl (by omega) (fun h_49 => ?_) (fun h_49 => (by exfalso; omega))
        refine kx_aload_n 46 F 0 dX1_takePart_45 rfl rfl rfl ?_
        refine kx_ldcS 48 F 3 (by decide) rfl rfl dX1_takePart_46 rfl ?_
        refine kx_Vi 51 (ci := 0) F (As := [vT G 3]) (st := []) vd_X1_69 (e_X1_isWord G l M c0 3 hI_M hk_c0 (by omega) Bt hB j (by omega) (by omega)) hk_c0 rfl rfl rfl ⟨by decide, by decide⟩ rfl rfl (Nat.le_of_ble_eq_true rfl) dX1_takePart_48 rfl ?_
        intro r_50 N_51 q_52
        obtain ⟨rfl, q_52c⟩ := q_52
        have hw_53 : kwi 3 = 3 := rfl
        rcases q_52c with q_52c | q_52c
        · refine kx_if_eq 54 F 59 dX1_takePart_51 (by decide) rfl (by omega) (fun h_54 => (by exfalso; omega)) (fun h_54 => ?_)
          refine kx_aload_n 55 F 0 dX1_takePart_54 rfl rfl rfl ?_
          have h_55 := Inv.g hI_M hk_6 rfl 0 (a := 0) (b := 2) rfl rfl
          have h_56 := Inv.g hI_M hk_6 rfl 1 (a := 0) (b := 4) rfl rfl
          have h_57 := Inv.g hI_M hk_6 rfl 2 (a := 0) (b := 6) rfl rfl
          have h_58 := Inv.g hI_M hk_6 rfl 3 (a := 0) (b := 2) rfl rfl
          refine kx_Vi 58 (ci := 0) F (As := []) (st := []) vd_X1_83 (e_X1_takeAutomaton G l M c0 hI_M hk_c0 (by omega) Bt hB j (by omega) (by omega) t q hN (by omega) hA hZ hr) hk_c0 rfl rfl rfl ⟨by decide, by decide⟩ rfl rfl (Nat.le_of_ble_eq_true rfl) dX1_takePart_55 rfl ?_
          intro r_59 N_60 q_61
          obtain ⟨hI_N_60, hG_N_60, q_61c, hC_N_60, ⟨ho_N_60, hl_N_60⟩⟩ := q_61
          have hF_N_60 : Fr f_e_X1_takePart M N_60 := Fr.c hF_M hG_N_60 rfl
          have hE_N_60 : Cf (Sm (M c0 0)) M N_60 := Cf.c hE_M hC_N_60 (fun _ hx => SL.sm hx (by omega))
          have hX_N_60 : XX N_60 := XX.fr hX_M hI_M hG_N_60 rfl
          exact kx_zret F hQ (by omega) ⟨hI_N_60, hF_N_60, (by omega), hX_N_60, hE_N_60, ⟨_, _, _, zPS.A (by omega) ho_N_60, hl_N_60⟩⟩ dX1_takePart_58
        · refine kx_if_eq 54 F 59 dX1_takePart_51 (by decide) rfl (by omega) (fun h_62 => ?_) (fun h_62 => (by exfalso; omega))
          refine kx_aload_n 60 F 0 dX1_takePart_59 rfl rfl rfl ?_
          refine kx_getr 63 F fl_X1_12 hk_c0 rfl rfl (j := 0) rfl dX1_takePart_60 (v := (M c0 0)) rfl rfl ?_
          refine kx_geti 66 F fl_X1_86 hk_6 rfl rfl (j := 3) rfl dX1_takePart_63 (v := (M (M c0 0) 3)) rfl rfl ?_
          have h_63 := Inv.g hI_M hk_6 rfl 3 (a := 0) (b := 2) rfl rfl
          refine kx_if_ne 69 F 75 dX1_takePart_66 (by decide) rfl (by omega) (fun h_64 => ?_) (fun h_64 => ?_)
          · obtain ⟨x, b, hkx, hx⟩ := latx (q := q) hI_M hk_6 (by omega)
            refine kx_aload_n 76 F 0 dX1_takePart_75 rfl rfl rfl ?_
            refine kx_ldcS 78 F 5 (by decide) rfl rfl dX1_takePart_76 rfl ?_
            refine kx_Vi 81 (ci := 0) F (As := [vT G 5]) (st := []) vd_X1_69 (e_X1_isWord G l M c0 5 hI_M hk_c0 (by omega) Bt hB j (by omega) (by omega)) hk_c0 rfl rfl rfl ⟨by decide, by decide⟩ rfl rfl (Nat.le_of_ble_eq_true rfl) dX1_takePart_78 rfl ?_
            intro r_65 N_66 q_67
            obtain ⟨rfl, q_67c⟩ := q_67
            have hw_68 : kwi 5 = 4 := rfl
            rcases q_67c with q_67c | q_67c
            · refine kx_if_eq 84 F 90 dX1_takePart_81 (by decide) rfl (by omega) (fun h_69 => (by exfalso; omega)) (fun h_69 => ?_)
              refine kx_aload_n 85 F 0 dX1_takePart_84 rfl rfl rfl ?_
              refine kx_iconst 86 F dX1_takePart_85 rfl ?_
              have h_70 := Inv.g hI_M hk_6 rfl 0 (a := 0) (b := 2) rfl rfl
              have h_71 := Inv.g hI_M hk_6 rfl 1 (a := 0) (b := 4) rfl rfl
              have h_72 := Inv.g hI_M hk_6 rfl 2 (a := 0) (b := 6) rfl rfl
              refine kx_Vi 89 (ci := 0) F (As := [vI 1]) (st := []) vd_X1_94 (e_X1_takeStates G l M c0 1 hI_M hk_c0 (by omega) Bt hB j (by omega) (by omega) t q hN (by omega) hA hZ hr (by omega) x b hkx hx 2 (by decide)) hk_c0 rfl rfl rfl ⟨by decide, by decide⟩ rfl rfl (Nat.le_of_ble_eq_true rfl) dX1_takePart_86 rfl ?_
              intro r_73 N_74 q_75
              obtain ⟨hI_N_74, hG_N_74, q_75c, hC_N_74, ⟨e_N_74, s_N_74, hsr_N_74, hs2_N_74⟩⟩ := q_75
              have hF_N_74 : Fr f_e_X1_takePart M N_74 := Fr.c hF_M hG_N_74 rfl
              have hE_N_74 : Cf (Sm (M c0 0)) M N_74 := Cf.c hE_M hC_N_74 (fun _ hx => SL.sm hx (by omega))
              have hX_N_74 : XX N_74 := XX.fr hX_M hI_M hG_N_74 rfl
              exact kx_zret F hQ (by omega) ⟨hI_N_74, hF_N_74, (by omega), hX_N_74, hE_N_74, ⟨_, _, _, zPS.S (k := 4) (b := b) (i := 2) (by omega) (by decide) (by omega) (by omega) (by decide) hsr_N_74, fun h => by obtain ⟨a1, a2, a3, a4, a5, a6, a7, a8⟩ := hs2_N_74 h; exact ⟨⟨a4, a5, a1, a2, a3⟩, a6, a7, a8⟩⟩⟩ dX1_takePart_89
            · refine kx_if_eq 84 F 90 dX1_takePart_81 (by decide) rfl (by omega) (fun h_76 => ?_) (fun h_76 => (by exfalso; omega))
              refine kx_aload_n 91 F 0 dX1_takePart_90 rfl rfl rfl ?_
              refine kx_ldcS 93 F 6 (by decide) rfl rfl dX1_takePart_91 rfl ?_
              refine kx_Vi 96 (ci := 0) F (As := [vT G 6]) (st := []) vd_X1_69 (e_X1_isWord G l M c0 6 hI_M hk_c0 (by omega) Bt hB j (by omega) (by omega)) hk_c0 rfl rfl rfl ⟨by decide, by decide⟩ rfl rfl (Nat.le_of_ble_eq_true rfl) dX1_takePart_93 rfl ?_
              intro r_77 N_78 q_79
              obtain ⟨rfl, q_79c⟩ := q_79
              have hw_80 : kwi 6 = 5 := rfl
              rcases q_79c with q_79c | q_79c
              · refine kx_if_eq 99 F 105 dX1_takePart_96 (by decide) rfl (by omega) (fun h_81 => (by exfalso; omega)) (fun h_81 => ?_)
                refine kx_aload_n 100 F 0 dX1_takePart_99 rfl rfl rfl ?_
                refine kx_iconst 101 F dX1_takePart_100 rfl ?_
                have h_82 := Inv.g hI_M hk_6 rfl 0 (a := 0) (b := 2) rfl rfl
                have h_83 := Inv.g hI_M hk_6 rfl 1 (a := 0) (b := 4) rfl rfl
                have h_84 := Inv.g hI_M hk_6 rfl 2 (a := 0) (b := 6) rfl rfl
                refine kx_Vi 104 (ci := 0) F (As := [vI 0]) (st := []) vd_X1_94 (e_X1_takeStates G l M c0 0 hI_M hk_c0 (by omega) Bt hB j (by omega) (by omega) t q hN (by omega) hA hZ hr (by omega) x b hkx hx 3 (by decide)) hk_c0 rfl rfl rfl ⟨by decide, by decide⟩ rfl rfl (Nat.le_of_ble_eq_true rfl) dX1_takePart_101 rfl ?_
                intro r_85 N_86 q_87
                obtain ⟨hI_N_86, hG_N_86, q_87c, hC_N_86, ⟨e_N_86, s_N_86, hsr_N_86, hs2_N_86⟩⟩ := q_87
                have hF_N_86 : Fr f_e_X1_takePart M N_86 := Fr.c hF_M hG_N_86 rfl
                have hE_N_86 : Cf (Sm (M c0 0)) M N_86 := Cf.c hE_M hC_N_86 (fun _ hx => SL.sm hx (by omega))
                have hX_N_86 : XX N_86 := XX.fr hX_M hI_M hG_N_86 rfl
                exact kx_zret F hQ (by omega) ⟨hI_N_86, hF_N_86, (by omega), hX_N_86, hE_N_86, ⟨_, _, _, zPS.S (k := 5) (b := b) (i := 3) (by omega) (by decide) (by omega) (by omega) (by decide) hsr_N_86, fun h => by obtain ⟨a1, a2, a3, a4, a5, a6, a7, a8⟩ := hs2_N_86 h; exact ⟨⟨a4, a5, a1, a2, a3⟩, a6, a7, a8⟩⟩⟩ dX1_takePart_104
              · refine kx_if_eq 99 F 105 dX1_takePart_96 (by decide) rfl (by omega) (fun h_88 => ?_) (fun h_88 => (by exfalso; omega))
                refine kx_aload_n 106 F 0 dX1_takePart_105 rfl rfl rfl ?_
                refine kx_ldcS 108 F 7 (by decide) rfl rfl dX1_takePart_106 rfl ?_
                refine kx_Vi 111 (ci := 0) F (As := [vT G 7]) (st := []) vd_X1_69 (e_X1_isWord G l M c0 7 hI_M hk_c0 (by omega) Bt hB j (by omega) (by omega)) hk_c0 rfl rfl rfl ⟨by decide, by decide⟩ rfl rfl (Nat.le_of_ble_eq_true rfl) dX1_takePart_108 rfl ?_
                intro r_89 N_90 q_91
                obtain ⟨rfl, q_91c⟩ := q_91
                have hw_92 : kwi 7 = 6 := rfl
                rcases q_91c with q_91c | q_91c
                · refine kx_if_eq 114 F 121 dX1_takePart_111 (by decide) rfl (by omega) (fun h_93 => (by exfalso; omega)) (fun h_93 => ?_)
                  refine kx_aload_n 115 F 0 dX1_takePart_114 rfl rfl rfl ?_
                  have h_94 := Inv.g hI_M hk_6 rfl 0 (a := 0) (b := 2) rfl rfl
                  have h_95 := Inv.g hI_M hk_6 rfl 1 (a := 0) (b := 4) rfl rfl
                  have h_96 := Inv.g hI_M hk_6 rfl 2 (a := 0) (b := 6) rfl rfl
                  refine kx_Vi 118 (ci := 0) F (As := []) (st := []) vd_X1_102 (e_X1_takeRule G l M c0 hI_M hk_c0 (by omega) Bt hB j (by omega) (by omega) t q hN (by omega) hA hZ hr (by omega) x b hkx hx) hk_c0 rfl rfl rfl ⟨by decide, by decide⟩ rfl rfl (Nat.le_of_ble_eq_true rfl) dX1_takePart_115 rfl ?_
                  intro r_97 N_98 q_99
                  obtain ⟨hI_N_98, hG_N_98, q_99c, hC_N_98, ⟨e_N_98, y_N_98, ho_N_98, hl_N_98⟩⟩ := q_99
                  have hF_N_98 : Fr f_e_X1_takePart M N_98 := Fr.c hF_M hG_N_98 rfl
                  have hE_N_98 : Cf (Sm (M c0 0)) M N_98 := Cf.c hE_M hC_N_98 (fun _ hx => SL.sm hx (by omega))
                  have hX_N_98 : XX N_98 := XX.fr hX_M hI_M hG_N_98 rfl
                  refine kx_goto 126 F dX1_takePart_118 (by decide) ?_
                  exact kx_zret F hQ (by omega) ⟨hI_N_98, hF_N_98, (by omega), hX_N_98, hE_N_98, ⟨_, _, _, zPS.R (b := b) (by omega) (by omega) (by omega) ho_N_98, hl_N_98⟩⟩ dX1_takePart_126
                · refine kx_if_eq 114 F 121 dX1_takePart_111 (by decide) rfl (by omega) (fun h_100 => ?_) (fun h_100 => (by exfalso; omega))
                  refine kx_aload_n 122 F 0 dX1_takePart_121 rfl rfl rfl ?_
                  refine kx_iconst 123 F dX1_takePart_122 rfl ?_
                  refine kx_Vi 126 (ci := 0) F (As := [vI 2]) (st := []) vd_X1_89 (e_X1_fail G l M c0 2 hI_M hk_c0 (by omega)) hk_c0 rfl rfl rfl ⟨by decide, by decide⟩ rfl rfl (Nat.le_of_ble_eq_true rfl) dX1_takePart_123 rfl ?_
                  intro r_101 N_102 q_103
                  obtain ⟨hI_N_102, hG_N_102, q_103c⟩ := q_103
                  have hF_N_102 : Fr f_e_X1_takePart M N_102 := Fr.c hF_M hG_N_102 rfl
                  have hE_N_102 : Cf (Sm (M c0 0)) M N_102 := Cf.fr hE_M hG_N_102 rfl
                  have hX_N_102 : XX N_102 := XX.fr hX_M hI_M hG_N_102 rfl
                  have h_104 := Inv.g hI_N_102 hk_c0 rfl 2 (a := (-2147483648)) (b := 2147483647) rfl rfl
                  have h_105 := Inv.g hI_N_102 hk_c0 rfl 3 (a := (-2147483648)) (b := 2147483647) rfl rfl
                  exact kx_zret F hQ (by omega) ⟨hI_N_102, hF_N_102, (by omega), hX_N_102, hE_N_102, ⟨0, q, t, zPS.n (by omega) (by omega) (by omega) (by omega), fun h => absurd h (by omega)⟩⟩ dX1_takePart_126
          · refine kx_aload_n 70 F 0 dX1_takePart_69 rfl rfl rfl ?_
            refine kx_iconst 71 F dX1_takePart_70 rfl ?_
            refine kx_Vi 74 (ci := 0) F (As := [vI 2]) (st := []) vd_X1_89 (e_X1_fail G l M c0 2 hI_M hk_c0 (by omega)) hk_c0 rfl rfl rfl ⟨by decide, by decide⟩ rfl rfl (Nat.le_of_ble_eq_true rfl) dX1_takePart_71 rfl ?_
            intro r_106 N_107 q_108
            obtain ⟨hI_N_107, hG_N_107, q_108c⟩ := q_108
            have hF_N_107 : Fr f_e_X1_takePart M N_107 := Fr.c hF_M hG_N_107 rfl
            have hE_N_107 : Cf (Sm (M c0 0)) M N_107 := Cf.fr hE_M hG_N_107 rfl
            have hX_N_107 : XX N_107 := XX.fr hX_M hI_M hG_N_107 rfl
            have h_109 := Inv.g hI_N_107 hk_c0 rfl 2 (a := (-2147483648)) (b := 2147483647) rfl rfl
            have h_110 := Inv.g hI_N_107 hk_c0 rfl 3 (a := (-2147483648)) (b := 2147483647) rfl rfl
            exact kx_zret F hQ (by omega) ⟨hI_N_107, hF_N_107, (by omega), hX_N_107, hE_N_107, ⟨0, q, t, zPS.n (by omega) (by omega) (by omega) (by omega), fun h => absurd h (by omega)⟩⟩ dX1_takePart_74
