set_option maxHeartbeats 4000000 in
set_option maxRecDepth 100000 in
theorem e_X1_latest (G : KG) (l : Launch) (M : Mem) (c0 : Int) (hI_M : Inv false M) (hk_c0 : kd c0 = 17) : KC false G l yX1_latest cX1_latest 1 (some (.object "NestedChecker$Automaton")) (1, 21) [vR G c0] M (fun A => kQr false G A (fun (r : Int) (N : Mem) => M = N ∧ kd r = 1 ∧ ((((M (M c0 0) 3) = 1) ∧ r = (M (M c0 0) 4)) ∨ (((M (M c0 0) 3) ≠ 1) ∧ r = (M (M c0 0) 5))))) := by
  refine kx_met (lo := [some (vR G c0)]) (by decide) (Nat.le_of_ble_eq_true rfl) rfl ?_
  intro X F hQ
  refine kx_aload_n 1 F 0 dX1_latest_0 rfl rfl rfl ?_
  refine kx_getr 4 F fl_X1_12 hk_c0 rfl rfl (j := 0) rfl dX1_latest_1 (v := (M c0 0)) rfl rfl ?_
  have hk_1 : kd (M c0 0) = 12 := Inv.r hI_M hk_c0 rfl 0 rfl rfl
  refine kx_aload_n 5 F 0 dX1_latest_4 rfl rfl rfl ?_
  refine kx_getr 8 F fl_X1_12 hk_c0 rfl rfl (j := 0) rfl dX1_latest_5 (v := (M c0 0)) rfl rfl ?_
  refine kx_geti 11 F fl_X1_86 hk_1 rfl rfl (j := 3) rfl dX1_latest_8 (v := (M (M c0 0) 3)) rfl rfl ?_
  have h_2 := Inv.g hI_M hk_1 rfl 3 (a := 0) (b := 2) rfl rfl
  refine kx_iconst 12 F dX1_latest_11 rfl ?_
  refine kx_isub 13 F (v := (M (M c0 0) 3) - 1) dX1_latest_12 rfl rfl ?_
  refine kx_Vr 16 (ci := 0) F (As := [vI ((M (M c0 0) 3) - 1)]) (st := []) vd_X1_181 (c_X5_pickE G l M (M c0 0) ((M (M c0 0) 3) - 1) hI_M hk_1 (by omega)) hk_1 rfl rfl rfl ⟨by decide, by decide⟩ rfl rfl (Nat.le_of_ble_eq_true rfl) dX1_latest_13 rfl ?_
  intro r_3 N_4 q_5
  obtain ⟨rfl, hk_6, q_5d⟩ := q_5
  rcases q_5d with ⟨q_5c, rfl⟩ | ⟨q_5c, rfl⟩
  · exact kx_aret F hQ ⟨rfl, hk_6, Or.inl ⟨(by omega), rfl⟩⟩ dX1_latest_16
  · exact kx_aret F hQ ⟨rfl, hk_6, Or.inr ⟨(by omega), rfl⟩⟩ dX1_latest_16
abbrev f_e_X1_takeAutomaton : List (Nat × Int) := [(1, 0), (1, 1), (1, 2), (1, 3), (1, 4), (1, 5), (6, -1), (7, -1), (12, 3), (17, 2), (17, 3), (17, 6), (17, 7), (17, 8), (17, 9)]
set_option maxHeartbeats 4000000 in
set_option maxRecDepth 100000 in
theorem e_X1_takeAutomaton (G : KG) (l : Launch) (M : Mem) (c0 : Int) (hI_M : Inv false M) (hk_c0 : kd c0 = 17) (hpre : (M c0 7) + (M c0 8) ≤ 900) (Bt : Int → Int) (hB : TB M c0 Bt) (j : Int) (hj : 0 ≤ j) (hs : M c0 6 = tk Bt j ∧ M c0 7 = tp Bt j ∧ M c0 7 + M c0 8 = tq Bt j) (t q : Int → Int) (hN : NU M c0 Bt t q) (hq : M (M c0 0) 0 = q 0 ∧ M (M c0 0) 1 = q 0 + q 1 ∧ M (M c0 0) 2 = q 0 + q 1 + q 2 ∧ M (M c0 0) 3 = q 3 ∧ 0 ≤ q 0 ∧ q 0 ≤ 2 ∧ 0 ≤ q 1 ∧ q 1 ≤ 2 ∧ 0 ≤ q 2 ∧ q 2 ≤ 2 ∧ 0 ≤ q 3 ∧ q 3 ≤ 2) (hA : CA M c0 q) (hZ : FZ M) (hr : ∀ b, (b = 100 ∨ b = 185) → q (b + 4) ≤ 20 ∨ q 3 = 0) : KC false G l yX1_takeAutomaton cX1_takeAutomaton 2 (some .boolean) (6, 128) [vR G c0] M (fun A => kQi false G A (fun (r : Int) (N : Mem) => Inv false N ∧ Fr f_e_X1_takeAutomaton M N ∧ (r ≥ 0 ∧ r ≤ 1) ∧ Cf (SL (M c0 0) (min (q 3) 1)) M N ∧ (zAR Bt q j r (N c0 2) (N c0 3) ∧ (r = 1 → zCP N M c0 Bt (j + 4) ∧ CQ N c0 (uaut q (tv Bt (j + 1)) (tv Bt (j + 3))) ∧ NU N c0 Bt t (uaut q (tv Bt (j + 1)) (tv Bt (j + 3))) ∧ CA N c0 (uaut q (tv Bt (j + 1)) (tv Bt (j + 3))))))) := by
  refine kx_met (lo := [some (vR G c0), none]) (by decide) (Nat.le_of_ble_eq_true rfl) rfl ?_
  intro X F hQ
  have hF_M : Fr f_e_X1_takeAutomaton M M := Fr.rf _ _
  have hE_M : Cf (SL (M c0 0) (min (q 3) 1)) M M := Cf.rf _ _
  have h_1 := Inv.g hI_M hk_c0 rfl 7 (a := 0) (b := 900) rfl rfl
  have h_2 := Inv.g hI_M hk_c0 rfl 8 (a := 0) (b := 900) rfl rfl
  have ht_3 := tp_le (n := M c0 5) (TB.tx hB hI_M hk_c0) (Inv.g hI_M hk_c0 rfl 5 (a := 0) (b := 900) rfl rfl).1 (j := j) (by omega)
  have h_4 := Inv.g hI_M hk_c0 rfl 5 (a := 0) (b := 900) rfl rfl
  have ht_5 : 0 ≤ tk Bt j ∧ tk Bt j ≤ 4 := tk_b (n := M c0 5) (TB.tx hB hI_M hk_c0) (by omega)
  have hk_6 : kd (M c0 0) = 12 := Inv.r hI_M hk_c0 rfl 0 rfl rfl
  have hk_7 : kd (M c0 10) = 19 := Inv.r hI_M hk_c0 rfl 10 rfl rfl
  have hk_8 : kd (M c0 11) = 20 := Inv.r hI_M hk_c0 rfl 11 rfl rfl
  refine kx_aload_n 1 F 0 dX1_takeAutomaton_0 rfl rfl rfl ?_
  refine kx_getr 4 F fl_X1_12 hk_c0 rfl rfl (j := 0) rfl dX1_takeAutomaton_1 (v := (M c0 0)) rfl rfl ?_
  refine kx_geti 7 F fl_X1_86 hk_6 rfl rfl (j := 3) rfl dX1_takeAutomaton_4 (v := (M (M c0 0) 3)) rfl rfl ?_
  have h_9 := Inv.g hI_M hk_6 rfl 3 (a := 0) (b := 2) rfl rfl
  refine kx_iconst 8 F dX1_takeAutomaton_7 rfl ?_
  refine kx_icmp_lt 11 F 18 dX1_takeAutomaton_8 (by decide) rfl (by omega) (by decide) (fun h_10 => ?_) (fun h_10 => ?_)
  · refine kx_aload_n 19 F 0 dX1_takeAutomaton_18 rfl rfl rfl ?_
    refine kx_Vi 22 (ci := 0) F (As := []) (st := []) vd_X1_57 (e_X1_advance G l M c0 hI_M hk_c0 (by omega) Bt hB (j + 1) j (by omega) (by omega) (by omega)) hk_c0 rfl rfl rfl ⟨by decide, by decide⟩ rfl rfl (Nat.le_of_ble_eq_true rfl) dX1_takeAutomaton_19 rfl ?_
    intro r_11 N_12 q_13
    obtain ⟨hI_N_12, hG_N_12, q_13c⟩ := q_13
    have hF_N_12 : Fr f_e_X1_takeAutomaton M N_12 := Fr.c hF_M hG_N_12 rfl
    have hE_N_12 : Cf (SL (M c0 0) (min (q 3) 1)) M N_12 := Cf.fr hE_M hG_N_12 rfl
    have ht_14 := tp_le (n := M c0 5) (TB.tx hB hI_M hk_c0) (Inv.g hI_M hk_c0 rfl 5 (a := 0) (b := 900) rfl rfl).1 (j := (j + 1)) (by omega)
    have ht_16 : 0 ≤ tk Bt (j + 1) ∧ tk Bt (j + 1) ≤ 4 := tk_b (n := M c0 5) (TB.tx hB hI_M hk_c0) (by omega)
    have h_17 := Inv.g hI_N_12 hk_c0 rfl 7 (a := 0) (b := 900) rfl rfl
    have h_18 := Inv.g hI_N_12 hk_c0 rfl 8 (a := 0) (b := 900) rfl rfl
    have h_19 := Inv.g hI_N_12 hk_c0 rfl 6 (a := 0) (b := 5) rfl rfl
    have h_20 := Inv.g hI_M hk_c0 rfl 2 (a := (-2147483648)) (b := 2147483647) rfl rfl
    have h_21 := Inv.g hI_N_12 hk_c0 rfl 2 (a := (-2147483648)) (b := 2147483647) rfl rfl
    have h_22 := Inv.g hI_M hk_c0 rfl 3 (a := (-2147483648)) (b := 2147483647) rfl rfl
    have h_23 := Inv.g hI_N_12 hk_c0 rfl 3 (a := (-2147483648)) (b := 2147483647) rfl rfl
    have h_27 := Inv.g hI_N_12 hk_c0 rfl 9 (a := (-2147483648)) (b := 2147483647) rfl rfl
    rcases q_13c with q_13c | q_13c | q_13c
    · refine kx_if_eq 25 F 34 dX1_takeAutomaton_22 (by decide) rfl (by omega) (fun h_37 => (by exfalso; omega)) (fun h_37 => ?_)
      refine kx_aload_n 26 F 0 dX1_takeAutomaton_25 rfl rfl rfl ?_
      refine kx_iconst 27 F dX1_takeAutomaton_26 rfl ?_
      refine kx_iconst 28 F dX1_takeAutomaton_27 rfl ?_
      refine kx_Vi 31 (ci := 0) F (As := [vI 1, vI 3]) (st := []) vd_X1_123 (e_X1_standsNumber G l N_12 c0 1 3 hI_N_12 hk_c0 (by omega) Bt (TB.fr hB hI_M hk_c0 hF_N_12 rfl) (j + 1) (by omega) (by omega)) hk_c0 rfl rfl rfl ⟨by decide, by decide⟩ rfl rfl (Nat.le_of_ble_eq_true rfl) dX1_takeAutomaton_28 rfl ?_
      intro r_38 N_39 q_40
      obtain ⟨hI_N_39, hG_N_39, q_40c⟩ := q_40
      have hF_N_39 : Fr f_e_X1_takeAutomaton M N_39 := Fr.c hF_N_12 hG_N_39 rfl
      have hE_N_39 : Cf (SL (M c0 0) (min (q 3) 1)) M N_39 := Cf.fr hE_N_12 hG_N_39 rfl
      have h_42 := Inv.g hI_N_39 hk_c0 rfl 2 (a := (-2147483648)) (b := 2147483647) rfl rfl
      have h_43 := Inv.g hI_N_39 hk_c0 rfl 3 (a := (-2147483648)) (b := 2147483647) rfl rfl
      rcases q_40c with q_40c | q_40c | q_40c | q_40c
      · exfalso; omega
      · refine kx_if_ne 34 F 36 dX1_takeAutomaton_31 (by decide) rfl (by omega) (fun h_52 => (by exfalso; omega)) (fun h_52 => ?_)
        refine kx_iconst 35 F dX1_takeAutomaton_34 rfl ?_
        exact kx_zret F hQ (by omega) ⟨hI_N_39, hF_N_39, (by omega), hE_N_39, ⟨(Or.inl ⟨by omega, (Or.inr (Or.inr (Or.inl (by omega))))⟩), (fun h => absurd h (by omega))⟩⟩ dX1_takeAutomaton_35
      · exfalso; omega
      · exfalso; omega
    · refine kx_if_eq 25 F 34 dX1_takeAutomaton_22 (by decide) rfl (by omega) (fun h_53 => (by exfalso; omega)) (fun h_53 => ?_)
      refine kx_aload_n 26 F 0 dX1_takeAutomaton_25 rfl rfl rfl ?_
      refine kx_iconst 27 F dX1_takeAutomaton_26 rfl ?_
      refine kx_iconst 28 F dX1_takeAutomaton_27 rfl ?_
      refine kx_Vi 31 (ci := 0) F (As := [vI 1, vI 3]) (st := []) vd_X1_123 (e_X1_standsNumber G l N_12 c0 1 3 hI_N_12 hk_c0 (by omega) Bt (TB.fr hB hI_M hk_c0 hF_N_12 rfl) (j + 1) (by omega) (by omega)) hk_c0 rfl rfl rfl ⟨by decide, by decide⟩ rfl rfl (Nat.le_of_ble_eq_true rfl) dX1_takeAutomaton_28 rfl ?_
      intro r_54 N_55 q_56
      obtain ⟨hI_N_55, hG_N_55, q_56c⟩ := q_56
      have hF_N_55 : Fr f_e_X1_takeAutomaton M N_55 := Fr.c hF_N_12 hG_N_55 rfl
      have hE_N_55 : Cf (SL (M c0 0) (min (q 3) 1)) M N_55 := Cf.fr hE_N_12 hG_N_55 rfl
      have h_57 := Inv.g hI_N_55 hk_c0 rfl 2 (a := (-2147483648)) (b := 2147483647) rfl rfl
      have h_58 := Inv.g hI_N_55 hk_c0 rfl 3 (a := (-2147483648)) (b := 2147483647) rfl rfl
      rcases q_56c with q_56c | q_56c | q_56c | q_56c
      · refine kx_if_ne 34 F 36 dX1_takeAutomaton_31 (by decide) rfl (by omega) (fun h_65 => ?_) (fun h_65 => (by exfalso; omega))
        refine kx_aload_n 37 F 0 dX1_takeAutomaton_36 rfl rfl rfl ?_
        refine kx_geti 40 F fl_X1_127 hk_c0 rfl rfl (j := 9) rfl dX1_takeAutomaton_37 (v := (N_12 c0 9)) (by rw [Fr.e hG_N_55 hk_c0 _ rfl]) rfl ?_
        refine kx_istore_n 41 F 1 (lo' := [some (vR G c0), some (vI (N_12 c0 9))]) dX1_takeAutomaton_40 rfl (by decide) rfl rfl rfl ?_
        refine kx_aload_n 42 F 0 dX1_takeAutomaton_41 rfl rfl rfl ?_
        have e_66 : (N_55 c0 7) = (N_12 c0 7) := by rw [Fr.e hG_N_55 hk_c0 _ rfl]
        have e_67 : (N_55 c0 8) = (N_12 c0 8) := by rw [Fr.e hG_N_55 hk_c0 _ rfl]
        refine kx_Vi 45 (ci := 0) F (As := []) (st := []) vd_X1_57 (e_X1_advance G l N_55 c0 hI_N_55 hk_c0 (by omega) Bt (TB.fr hB hI_M hk_c0 hF_N_55 rfl) (j + 2) (j + 1) (by omega) (by omega) (by omega)) hk_c0 rfl rfl rfl ⟨by decide, by decide⟩ rfl rfl (Nat.le_of_ble_eq_true rfl) dX1_takeAutomaton_42 rfl ?_
        intro r_70 N_71 q_72
        obtain ⟨hI_N_71, hG_N_71, q_72c⟩ := q_72
        have hF_N_71 : Fr f_e_X1_takeAutomaton M N_71 := Fr.c hF_N_55 hG_N_71 rfl
        have hE_N_71 : Cf (SL (M c0 0) (min (q 3) 1)) M N_71 := Cf.fr hE_N_55 hG_N_71 rfl
        have ht_73 := tp_le (n := M c0 5) (TB.tx hB hI_M hk_c0) (Inv.g hI_M hk_c0 rfl 5 (a := 0) (b := 900) rfl rfl).1 (j := (j + 2)) (by omega)
        have ht_75 : 0 ≤ tk Bt (j + 2) ∧ tk Bt (j + 2) ≤ 4 := tk_b (n := M c0 5) (TB.tx hB hI_M hk_c0) (by omega)
        have h_76 := Inv.g hI_N_71 hk_c0 rfl 7 (a := 0) (b := 900) rfl rfl
        have h_77 := Inv.g hI_N_71 hk_c0 rfl 8 (a := 0) (b := 900) rfl rfl
        have h_78 := Inv.g hI_N_71 hk_c0 rfl 6 (a := 0) (b := 5) rfl rfl
        have h_79 := Inv.g hI_N_71 hk_c0 rfl 2 (a := (-2147483648)) (b := 2147483647) rfl rfl
        have h_80 := Inv.g hI_N_71 hk_c0 rfl 3 (a := (-2147483648)) (b := 2147483647) rfl rfl
        have h_84 := Inv.g hI_N_71 hk_c0 rfl 9 (a := (-2147483648)) (b := 2147483647) rfl rfl
        rcases q_72c with q_72c | q_72c | q_72c
        · refine kx_if_eq 48 F 57 dX1_takeAutomaton_45 (by decide) rfl (by omega) (fun h_92 => (by exfalso; omega)) (fun h_92 => ?_)
          refine kx_aload_n 49 F 0 dX1_takeAutomaton_48 rfl rfl rfl ?_
          refine kx_ldcS 51 F 4 (by decide) rfl rfl dX1_takeAutomaton_49 rfl ?_
          refine kx_Vi 54 (ci := 0) F (As := [vT G 4]) (st := []) vd_X1_132 (e_X1_standsWord G l N_71 c0 4 hI_N_71 hk_c0 (by omega) Bt (TB.fr hB hI_M hk_c0 hF_N_71 rfl) (j + 2) (by omega) (by omega)) hk_c0 rfl rfl rfl ⟨by decide, by decide⟩ rfl rfl (Nat.le_of_ble_eq_true rfl) dX1_takeAutomaton_51 rfl ?_
          intro r_93 N_94 q_95
          obtain ⟨hI_N_94, hG_N_94, q_95c⟩ := q_95
          have hF_N_94 : Fr f_e_X1_takeAutomaton M N_94 := Fr.c hF_N_71 hG_N_94 rfl
          have hE_N_94 : Cf (SL (M c0 0) (min (q 3) 1)) M N_94 := Cf.fr hE_N_71 hG_N_94 rfl
          have hw_96 : kwi 4 = 7 := rfl
          have h_97 := Inv.g hI_N_94 hk_c0 rfl 2 (a := (-2147483648)) (b := 2147483647) rfl rfl
          have h_98 := Inv.g hI_N_94 hk_c0 rfl 3 (a := (-2147483648)) (b := 2147483647) rfl rfl
          rcases q_95c with q_95c | q_95c
          · refine kx_if_ne 57 F 59 dX1_takeAutomaton_54 (by decide) rfl (by omega) (fun h_101 => ?_) (fun h_101 => (by exfalso; omega))
            refine kx_aload_n 60 F 0 dX1_takeAutomaton_59 rfl rfl rfl ?_
            have e_102 : (N_94 c0 7) = (N_71 c0 7) := by rw [Fr.e hG_N_94 hk_c0 _ rfl]
            have e_103 : (N_94 c0 8) = (N_71 c0 8) := by rw [Fr.e hG_N_94 hk_c0 _ rfl]
            refine kx_Vi 63 (ci := 0) F (As := []) (st := []) vd_X1_57 (e_X1_advance G l N_94 c0 hI_N_94 hk_c0 (by omega) Bt (TB.fr hB hI_M hk_c0 hF_N_94 rfl) (j + 3) (j + 2) (by omega) (by omega) (by omega)) hk_c0 rfl rfl rfl ⟨by decide, by decide⟩ rfl rfl (Nat.le_of_ble_eq_true rfl) dX1_takeAutomaton_60 rfl ?_
            intro r_106 N_107 q_108
            obtain ⟨hI_N_107, hG_N_107, q_108c⟩ := q_108
            have hF_N_107 : Fr f_e_X1_takeAutomaton M N_107 := Fr.c hF_N_94 hG_N_107 rfl
            have hE_N_107 : Cf (SL (M c0 0) (min (q 3) 1)) M N_107 := Cf.fr hE_N_94 hG_N_107 rfl
            have ht_109 := tp_le (n := M c0 5) (TB.tx hB hI_M hk_c0) (Inv.g hI_M hk_c0 rfl 5 (a := 0) (b := 900) rfl rfl).1 (j := (j + 3)) (by omega)
            have ht_111 : 0 ≤ tk Bt (j + 3) ∧ tk Bt (j + 3) ≤ 4 := tk_b (n := M c0 5) (TB.tx hB hI_M hk_c0) (by omega)
            have h_112 := Inv.g hI_N_107 hk_c0 rfl 7 (a := 0) (b := 900) rfl rfl
            have h_113 := Inv.g hI_N_107 hk_c0 rfl 8 (a := 0) (b := 900) rfl rfl
            have h_114 := Inv.g hI_N_107 hk_c0 rfl 6 (a := 0) (b := 5) rfl rfl
            have h_115 := Inv.g hI_N_107 hk_c0 rfl 2 (a := (-2147483648)) (b := 2147483647) rfl rfl
            have h_116 := Inv.g hI_N_107 hk_c0 rfl 3 (a := (-2147483648)) (b := 2147483647) rfl rfl
            have h_120 := Inv.g hI_N_107 hk_c0 rfl 9 (a := (-2147483648)) (b := 2147483647) rfl rfl
            rcases q_108c with q_108c | q_108c | q_108c
            · refine kx_if_eq 66 F 75 dX1_takeAutomaton_63 (by decide) rfl (by omega) (fun h_128 => (by exfalso; omega)) (fun h_128 => ?_)
              refine kx_aload_n 67 F 0 dX1_takeAutomaton_66 rfl rfl rfl ?_
              refine kx_iconst 68 F dX1_takeAutomaton_67 rfl ?_
              refine kx_iconst 69 F dX1_takeAutomaton_68 rfl ?_
              refine kx_Vi 72 (ci := 0) F (As := [vI 1, vI 3]) (st := []) vd_X1_123 (e_X1_standsNumber G l N_107 c0 1 3 hI_N_107 hk_c0 (by omega) Bt (TB.fr hB hI_M hk_c0 hF_N_107 rfl) (j + 3) (by omega) (by omega)) hk_c0 rfl rfl rfl ⟨by decide, by decide⟩ rfl rfl (Nat.le_of_ble_eq_true rfl) dX1_takeAutomaton_69 rfl ?_
              intro r_129 N_130 q_131
              obtain ⟨hI_N_130, hG_N_130, q_131c⟩ := q_131
              have hF_N_130 : Fr f_e_X1_takeAutomaton M N_130 := Fr.c hF_N_107 hG_N_130 rfl
              have hE_N_130 : Cf (SL (M c0 0) (min (q 3) 1)) M N_130 := Cf.fr hE_N_107 hG_N_130 rfl
              have h_133 := Inv.g hI_N_130 hk_c0 rfl 2 (a := (-2147483648)) (b := 2147483647) rfl rfl
              have h_134 := Inv.g hI_N_130 hk_c0 rfl 3 (a := (-2147483648)) (b := 2147483647) rfl rfl
              rcases q_131c with q_131c | q_131c | q_131c | q_131c
              · exfalso; omega
              · refine kx_if_ne 75 F 77 dX1_takeAutomaton_72 (by decide) rfl (by omega) (fun h_143 => (by exfalso; omega)) (fun h_143 => ?_)
                refine kx_iconst 76 F dX1_takeAutomaton_75 rfl ?_
                exact kx_zret F hQ (by omega) ⟨hI_N_130, hF_N_130, (by omega), hE_N_130, ⟨(Or.inl ⟨by omega, (Or.inr (Or.inr (Or.inr (Or.inr (Or.inr (Or.inr (Or.inr (Or.inr (Or.inl (by omega))))))))))⟩), (fun h => absurd h (by omega))⟩⟩ dX1_takeAutomaton_76
              · exfalso; omega
              · exfalso; omega
            · refine kx_if_eq 66 F 75 dX1_takeAutomaton_63 (by decide) rfl (by omega) (fun h_144 => (by exfalso; omega)) (fun h_144 => ?_)
              refine kx_aload_n 67 F 0 dX1_takeAutomaton_66 rfl rfl rfl ?_
              refine kx_iconst 68 F dX1_takeAutomaton_67 rfl ?_
              refine kx_iconst 69 F dX1_takeAutomaton_68 rfl ?_
              refine kx_Vi 72 (ci := 0) F (As := [vI 1, vI 3]) (st := []) vd_X1_123 (e_X1_standsNumber G l N_107 c0 1 3 hI_N_107 hk_c0 (by omega) Bt (TB.fr hB hI_M hk_c0 hF_N_107 rfl) (j + 3) (by omega) (by omega)) hk_c0 rfl rfl rfl ⟨by decide, by decide⟩ rfl rfl (Nat.le_of_ble_eq_true rfl) dX1_takeAutomaton_69 rfl ?_
              intro r_145 N_146 q_147
              obtain ⟨hI_N_146, hG_N_146, q_147c⟩ := q_147
              have hF_N_146 : Fr f_e_X1_takeAutomaton M N_146 := Fr.c hF_N_107 hG_N_146 rfl
              have hE_N_146 : Cf (SL (M c0 0) (min (q 3) 1)) M N_146 := Cf.fr hE_N_107 hG_N_146 rfl
              have h_148 := Inv.g hI_N_146 hk_c0 rfl 2 (a := (-2147483648)) (b := 2147483647) rfl rfl
              have h_149 := Inv.g hI_N_146 hk_c0 rfl 3 (a := (-2147483648)) (b := 2147483647) rfl rfl
              rcases q_147c with q_147c | q_147c | q_147c | q_147c
              · refine kx_if_ne 75 F 77 dX1_takeAutomaton_72 (by decide) rfl (by omega) (fun h_156 => ?_) (fun h_156 => (by exfalso; omega))
                refine kx_aload_n 78 F 0 dX1_takeAutomaton_77 rfl rfl rfl ?_
                refine kx_getr 81 F fl_X1_12 hk_c0 rfl rfl (j := 0) rfl dX1_takeAutomaton_78 (v := (M c0 0)) (by rw [Fr.e hG_N_146 hk_c0 _ rfl, Fr.e hG_N_107 hk_c0 _ rfl, Fr.e hG_N_94 hk_c0 _ rfl, Fr.e hG_N_71 hk_c0 _ rfl, Fr.e hG_N_55 hk_c0 _ rfl, Fr.e hG_N_12 hk_c0 _ rfl]) rfl ?_
                refine kx_dup 82 F dX1_takeAutomaton_81 rfl rfl ?_
                refine kx_geti 85 F fl_X1_86 hk_6 rfl rfl (j := 3) rfl dX1_takeAutomaton_82 (v := (M (M c0 0) 3)) (by rw [Fr.e hG_N_146 hk_6 _ rfl, Fr.e hG_N_107 hk_6 _ rfl, Fr.e hG_N_94 hk_6 _ rfl, Fr.e hG_N_71 hk_6 _ rfl, Fr.e hG_N_55 hk_6 _ rfl, Fr.e hG_N_12 hk_6 _ rfl]) rfl ?_
                refine kx_iconst 86 F dX1_takeAutomaton_85 rfl ?_
                refine kx_iadd 87 F (v := (M (M c0 0) 3) + 1) dX1_takeAutomaton_86 rfl rfl ?_
                refine kx_puti 90 F fw_X1_86 rfl hk_6 rfl rfl (j := 3) rfl dX1_takeAutomaton_87 rfl ?_
                intro N_157 hM_N_157
                have hI_N_157 : Inv false N_157 := Inv.u hI_N_146 hM_N_157 hk_6 (a := 0) (b := 2) rfl rfl rfl (by omega)
                have hF_N_157 : Fr f_e_X1_takeAutomaton M N_157 := Fr.u hF_N_146 hM_N_157 hk_6 rfl
                have hE_N_157 : Cf (SL (M c0 0) (min (q 3) 1)) M N_157 := Cf.st hE_N_146 hM_N_157 (Or.inl rfl)
                refine kx_aload_n 91 F 0 dX1_takeAutomaton_90 rfl rfl rfl ?_
                refine kx_Vr 94 (ci := 0) F (As := []) (st := []) vd_X1_135 (e_X1_latest G l N_157 c0 hI_N_157 hk_c0) hk_c0 rfl rfl rfl ⟨by decide, by decide⟩ rfl rfl (Nat.le_of_ble_eq_true rfl) dX1_takeAutomaton_91 rfl ?_
                intro r_158 N_159 q_160
                obtain ⟨rfl, hk_161, q_160d⟩ := q_160
                rcases q_160d with ⟨q_160c, rfl⟩ | ⟨q_160c, rfl⟩
                · have ec_162 : N_157 c0 0 = M c0 0 := by rw [hM_N_157, mu_k hk_c0 hk_6 rfl, Fr.e hG_N_146 hk_c0 _ rfl, Fr.e hG_N_107 hk_c0 _ rfl, Fr.e hG_N_94 hk_c0 _ rfl, Fr.e hG_N_71 hk_c0 _ rfl, Fr.e hG_N_55 hk_c0 _ rfl, Fr.e hG_N_12 hk_c0 _ rfl]
                  have ec_163 : (N_157 (N_157 c0 0) 4) = (M (M c0 0) 4) := by rw [ec_162, hM_N_157, mu_i (by omega), Fr.e hG_N_146 hk_6 _ rfl, Fr.e hG_N_107 hk_6 _ rfl, Fr.e hG_N_94 hk_6 _ rfl, Fr.e hG_N_71 hk_6 _ rfl, Fr.e hG_N_55 hk_6 _ rfl, Fr.e hG_N_12 hk_6 _ rfl]
                  have e_164 : (N_157 c0 0) = (M c0 0) := by rw [hM_N_157, mu_k hk_c0 hk_6 rfl, Fr.e hG_N_146 hk_c0 _ rfl, Fr.e hG_N_107 hk_c0 _ rfl, Fr.e hG_N_94 hk_c0 _ rfl, Fr.e hG_N_71 hk_c0 _ rfl, Fr.e hG_N_55 hk_c0 _ rfl, Fr.e hG_N_12 hk_c0 _ rfl]
                  have e_165 : (N_157 (N_157 c0 0) 3) = (M (M c0 0) 3) + 1 := by rw [e_164, hM_N_157, mu_s]
                  rw [ec_163]
                  have hk_166 : kd (M (M c0 0) 4) = 1 := Inv.r hI_M hk_6 rfl 4 rfl rfl
                  refine kx_aload_n 95 F 0 dX1_takeAutomaton_94 rfl rfl rfl ?_
                  refine kx_getr 98 F fl_X1_12 hk_c0 rfl rfl (j := 0) rfl dX1_takeAutomaton_95 (v := (M c0 0)) (by rw [hM_N_157, mu_k hk_c0 hk_6 rfl, Fr.e hG_N_146 hk_c0 _ rfl, Fr.e hG_N_107 hk_c0 _ rfl, Fr.e hG_N_94 hk_c0 _ rfl, Fr.e hG_N_71 hk_c0 _ rfl, Fr.e hG_N_55 hk_c0 _ rfl, Fr.e hG_N_12 hk_c0 _ rfl]) rfl ?_
                  refine kx_geti 101 F fl_X1_139 hk_6 rfl rfl (j := 0) rfl dX1_takeAutomaton_98 (v := (M (M c0 0) 0)) (by rw [hM_N_157, mu_i (by omega), Fr.e hG_N_146 hk_6 _ rfl, Fr.e hG_N_107 hk_6 _ rfl, Fr.e hG_N_94 hk_6 _ rfl, Fr.e hG_N_71 hk_6 _ rfl, Fr.e hG_N_55 hk_6 _ rfl, Fr.e hG_N_12 hk_6 _ rfl]) rfl ?_
                  have h_167 := Inv.g hI_M hk_6 rfl 0 (a := 0) (b := 2) rfl rfl
                  refine kx_iload_n 102 F 1 dX1_takeAutomaton_101 rfl rfl rfl ?_
                  refine kx_aload_n 103 F 0 dX1_takeAutomaton_102 rfl rfl rfl ?_
                  refine kx_geti 106 F fl_X1_127 hk_c0 rfl rfl (j := 9) rfl dX1_takeAutomaton_103 (v := (N_107 c0 9)) (by rw [hM_N_157, mu_k hk_c0 hk_6 rfl, Fr.e hG_N_146 hk_c0 _ rfl]) rfl ?_
                  refine kx_Vv 109 (ci := 0) F (As := [vI (M (M c0 0) 0), vI (N_12 c0 9), vI (N_107 c0 9)]) (st := []) vd_X1_142 (e_X0_clear G l N_157 (M (M c0 0) 4) (M (M c0 0) 0) (N_12 c0 9) (N_107 c0 9) hI_N_157 hk_166 (by omega)) hk_166 rfl rfl rfl ⟨by decide, by decide⟩ rfl rfl (Nat.le_of_ble_eq_true rfl) dX1_takeAutomaton_106 rfl ?_
                  intro N_168 q_169
                  obtain ⟨hI_N_168, hG_N_168, q_169c, hC_N_168, hzw_N_168⟩ := q_169
                  have hF_N_168 : Fr f_e_X1_takeAutomaton M N_168 := Fr.c hF_N_157 hG_N_168 rfl
                  have hE_N_168 : Cf (SL (M c0 0) (min (q 3) 1)) M N_168 := Cf.c hE_N_157 hC_N_168 (fun y hy => Or.inr (by have a := SA.in hy (FZ.fr hZ hF_N_157 rfl) hk_166; have b := hZ.2.1 (M c0 0) hk_6; omega))
                  have h_170 := Inv.g hI_N_168 hk_166 rfl 0 (a := 0) (b := 3) rfl rfl
                  have h_171 := Inv.g hI_N_168 hk_166 rfl 1 (a := 0) (b := 3) rfl rfl
                  have h_172 := Inv.g hI_N_168 hk_166 rfl 2 (a := 0) (b := 7) rfl rfl
                  have h_173 := Inv.g hI_N_168 hk_166 rfl 3 (a := 0) (b := 7) rfl rfl
                  have h_174 := Inv.g hI_N_168 hk_166 rfl 4 (a := 0) (b := 20) rfl rfl
                  have h_175 := Inv.g hI_N_168 hk_166 rfl 5 (a := 0) (b := 2) rfl rfl
                  refine kx_aload_n 110 F 0 dX1_takeAutomaton_109 rfl rfl rfl ?_
                  have e_176 : (N_168 c0 7) = (N_107 c0 7) := by rw [Fr.e hG_N_168 hk_c0 _ rfl, hM_N_157, mu_k hk_c0 hk_6 rfl, Fr.e hG_N_146 hk_c0 _ rfl]
                  have e_177 : (N_168 c0 8) = (N_107 c0 8) := by rw [Fr.e hG_N_168 hk_c0 _ rfl, hM_N_157, mu_k hk_c0 hk_6 rfl, Fr.e hG_N_146 hk_c0 _ rfl]
                  refine kx_Vi 113 (ci := 0) F (As := []) (st := []) vd_X1_57 (e_X1_advance G l N_168 c0 hI_N_168 hk_c0 (by omega) Bt (TB.fr hB hI_M hk_c0 hF_N_168 rfl) (j + 4) (j + 3) (by omega) (by omega) (by omega)) hk_c0 rfl rfl rfl ⟨by decide, by decide⟩ rfl rfl (Nat.le_of_ble_eq_true rfl) dX1_takeAutomaton_110 rfl ?_
                  intro r_180 N_181 q_182
                  obtain ⟨hI_N_181, hG_N_181, q_182c⟩ := q_182
                  have hF_N_181 : Fr f_e_X1_takeAutomaton M N_181 := Fr.c hF_N_168 hG_N_181 rfl
                  have hE_N_181 : Cf (SL (M c0 0) (min (q 3) 1)) M N_181 := Cf.fr hE_N_168 hG_N_181 rfl
                  have ht_183 := tp_le (n := M c0 5) (TB.tx hB hI_M hk_c0) (Inv.g hI_M hk_c0 rfl 5 (a := 0) (b := 900) rfl rfl).1 (j := (j + 4)) (by omega)
                  have ht_185 : 0 ≤ tk Bt (j + 4) ∧ tk Bt (j + 4) ≤ 4 := tk_b (n := M c0 5) (TB.tx hB hI_M hk_c0) (by omega)
                  have h_186 := Inv.g hI_N_181 hk_c0 rfl 7 (a := 0) (b := 900) rfl rfl
                  have h_187 := Inv.g hI_N_181 hk_c0 rfl 8 (a := 0) (b := 900) rfl rfl
                  have h_188 := Inv.g hI_N_181 hk_c0 rfl 6 (a := 0) (b := 5) rfl rfl
                  have e_189 : (N_168 c0 2) = (N_146 c0 2) := by rw [Fr.e hG_N_168 hk_c0 _ rfl, hM_N_157, mu_k hk_c0 hk_6 rfl]
                  have h_190 := Inv.g hI_N_181 hk_c0 rfl 2 (a := (-2147483648)) (b := 2147483647) rfl rfl
                  have e_191 : (N_168 c0 3) = (N_146 c0 3) := by rw [Fr.e hG_N_168 hk_c0 _ rfl, hM_N_157, mu_k hk_c0 hk_6 rfl]
                  have h_192 := Inv.g hI_N_181 hk_c0 rfl 3 (a := (-2147483648)) (b := 2147483647) rfl rfl
                  have h_196 := Inv.g hI_N_181 hk_c0 rfl 9 (a := (-2147483648)) (b := 2147483647) rfl rfl
                  rcases q_182c with q_182c | q_182c | q_182c
                  · refine kx_if_eq 116 F 127 dX1_takeAutomaton_113 (by decide) rfl (by omega) (fun h_206 => (by exfalso; omega)) (fun h_206 => ?_)
                    refine kx_aload_n 117 F 0 dX1_takeAutomaton_116 rfl rfl rfl ?_
                    refine kx_Vi 120 (ci := 0) F (As := []) (st := []) vd_X1_120 (e_X1_standsSign G l N_181 c0 hI_N_181 hk_c0 Bt (TB.fr hB hI_M hk_c0 hF_N_181 rfl) (j + 4) (by omega) (by omega)) hk_c0 rfl rfl rfl ⟨by decide, by decide⟩ rfl rfl (Nat.le_of_ble_eq_true rfl) dX1_takeAutomaton_117 rfl ?_
                    intro r_207 N_208 q_209
                    obtain ⟨hI_N_208, hG_N_208, q_209c⟩ := q_209
                    have hF_N_208 : Fr f_e_X1_takeAutomaton M N_208 := Fr.c hF_N_181 hG_N_208 rfl
                    have hE_N_208 : Cf (SL (M c0 0) (min (q 3) 1)) M N_208 := Cf.fr hE_N_181 hG_N_208 rfl
                    have h_210 := Inv.g hI_N_208 hk_c0 rfl 2 (a := (-2147483648)) (b := 2147483647) rfl rfl
                    have h_211 := Inv.g hI_N_208 hk_c0 rfl 3 (a := (-2147483648)) (b := 2147483647) rfl rfl
                    rcases q_209c with q_209c | q_209c
                    · refine kx_if_eq 123 F 127 dX1_takeAutomaton_120 (by decide) rfl (by omega) (fun h_214 => (by exfalso; omega)) (fun h_214 => ?_)
                      refine kx_iconst 124 F dX1_takeAutomaton_123 rfl ?_
                      refine kx_goto 128 F dX1_takeAutomaton_124 (by decide) ?_
                      have e_215 : (N_208 c0 0) = (M c0 0) := by rw [Fr.e hG_N_208 hk_c0 _ rfl, Fr.e hG_N_181 hk_c0 _ rfl, Fr.e hG_N_168 hk_c0 _ rfl, hM_N_157, mu_k hk_c0 hk_6 rfl, Fr.e hG_N_146 hk_c0 _ rfl, Fr.e hG_N_107 hk_c0 _ rfl, Fr.e hG_N_94 hk_c0 _ rfl, Fr.e hG_N_71 hk_c0 _ rfl, Fr.e hG_N_55 hk_c0 _ rfl, Fr.e hG_N_12 hk_c0 _ rfl]
                      have e_216 : (N_208 (M c0 0) 0) = (M (M c0 0) 0) := by rw [Fr.e hG_N_208 hk_6 _ rfl, Fr.e hG_N_181 hk_6 _ rfl, Fr.e hG_N_168 hk_6 _ rfl, hM_N_157, mu_i (by omega), Fr.e hG_N_146 hk_6 _ rfl, Fr.e hG_N_107 hk_6 _ rfl, Fr.e hG_N_94 hk_6 _ rfl, Fr.e hG_N_71 hk_6 _ rfl, Fr.e hG_N_55 hk_6 _ rfl, Fr.e hG_N_12 hk_6 _ rfl]
                      have e_217 : (N_208 (M c0 0) 1) = (M (M c0 0) 1) := by rw [Fr.e hG_N_208 hk_6 _ rfl, Fr.e hG_N_181 hk_6 _ rfl, Fr.e hG_N_168 hk_6 _ rfl, hM_N_157, mu_i (by omega), Fr.e hG_N_146 hk_6 _ rfl, Fr.e hG_N_107 hk_6 _ rfl, Fr.e hG_N_94 hk_6 _ rfl, Fr.e hG_N_71 hk_6 _ rfl, Fr.e hG_N_55 hk_6 _ rfl, Fr.e hG_N_12 hk_6 _ rfl]
                      have h_218 := Inv.g hI_M hk_6 rfl 1 (a := 0) (b := 4) rfl rfl
                      have e_219 : (N_208 (M c0 0) 2) = (M (M c0 0) 2) := by rw [Fr.e hG_N_208 hk_6 _ rfl, Fr.e hG_N_181 hk_6 _ rfl, Fr.e hG_N_168 hk_6 _ rfl, hM_N_157, mu_i (by omega), Fr.e hG_N_146 hk_6 _ rfl, Fr.e hG_N_107 hk_6 _ rfl, Fr.e hG_N_94 hk_6 _ rfl, Fr.e hG_N_71 hk_6 _ rfl, Fr.e hG_N_55 hk_6 _ rfl, Fr.e hG_N_12 hk_6 _ rfl]
                      have h_220 := Inv.g hI_M hk_6 rfl 2 (a := 0) (b := 6) rfl rfl
                      have e_221 : (N_208 (M c0 0) 3) = (M (M c0 0) 3) + 1 := by rw [Fr.e hG_N_208 hk_6 _ rfl, Fr.e hG_N_181 hk_6 _ rfl, Fr.e hG_N_168 hk_6 _ rfl, hM_N_157, mu_s]
                      have e_222 : (N_208 (M (M c0 0) 4) 0) = (N_168 (M (M c0 0) 4) 0) := by rw [Fr.e hG_N_208 hk_166 _ rfl, Fr.e hG_N_181 hk_166 _ rfl]
                      have e_223 : (N_208 (M (M c0 0) 4) 1) = (N_168 (M (M c0 0) 4) 1) := by rw [Fr.e hG_N_208 hk_166 _ rfl, Fr.e hG_N_181 hk_166 _ rfl]
                      have e_224 : (N_208 (M (M c0 0) 4) 2) = (N_168 (M (M c0 0) 4) 2) := by rw [Fr.e hG_N_208 hk_166 _ rfl, Fr.e hG_N_181 hk_166 _ rfl]
                      have e_225 : (N_208 (M (M c0 0) 4) 3) = (N_168 (M (M c0 0) 4) 3) := by rw [Fr.e hG_N_208 hk_166 _ rfl, Fr.e hG_N_181 hk_166 _ rfl]
                      have e_226 : (N_208 (M (M c0 0) 4) 4) = (N_168 (M (M c0 0) 4) 4) := by rw [Fr.e hG_N_208 hk_166 _ rfl, Fr.e hG_N_181 hk_166 _ rfl]
                      have e_227 : (N_208 (M (M c0 0) 4) 5) = (N_168 (M (M c0 0) 4) 5) := by rw [Fr.e hG_N_208 hk_166 _ rfl, Fr.e hG_N_181 hk_166 _ rfl]
                      have e_228 : (N_208 c0 6) = (N_181 c0 6) := by rw [Fr.e hG_N_208 hk_c0 _ rfl]
                      have e_229 : (N_208 c0 7) = (N_181 c0 7) := by rw [Fr.e hG_N_208 hk_c0 _ rfl]
                      have e_230 : (N_208 c0 8) = (N_181 c0 8) := by rw [Fr.e hG_N_208 hk_c0 _ rfl]
                      exact kx_zret F hQ (by omega) ⟨hI_N_208, hF_N_208, (by omega), hE_N_208, ⟨(Or.inr ⟨(Or.inr (Or.inr (Or.inr (Or.inr (Or.inr (Or.inr (Or.inr (Or.inr (Or.inr (Or.inr (Or.inr ((by omega))))))))))))), (Or.inr (Or.inr (Or.inr ((by omega)))))⟩), (fun _ => ⟨⟨by omega, by omega, by omega, by omega, by omega⟩, (CQ.cg (q' := uaut q (tv Bt (j + 1)) (tv Bt (j + 3))) hq (by rw [Fr.e hG_N_208 hk_c0 _ rfl, Fr.e hG_N_181 hk_c0 _ rfl, Fr.e hG_N_168 hk_c0 _ rfl, hM_N_157, mu_k hk_c0 hk_6 rfl, Fr.e hG_N_146 hk_c0 _ rfl, Fr.e hG_N_107 hk_c0 _ rfl, Fr.e hG_N_94 hk_c0 _ rfl, Fr.e hG_N_71 hk_c0 _ rfl, Fr.e hG_N_55 hk_c0 _ rfl, Fr.e hG_N_12 hk_c0 _ rfl]) (by omega) (by omega) (by omega) (by rw [uaut_3 (by omega)]; omega) (uaut_o (by decide) (by omega)) (uaut_o (by decide) (by omega)) (uaut_o (by decide) (by omega)) (by rw [uaut_3 (by omega)]; omega)), (NU.cg (NU.fr (NU.fr (NU.fr (NU.st (NU.fr (NU.fr (NU.fr (NU.fr (NU.fr (NU.fr hN hI_M hk_c0 hG_N_12 rfl) hI_N_12 hk_c0 hG_N_55 rfl) hI_N_55 hk_c0 hG_N_71 rfl) hI_N_71 hk_c0 hG_N_94 rfl) hI_N_94 hk_c0 hG_N_107 rfl) hI_N_107 hk_c0 hG_N_146 rfl) hI_N_146 hk_c0 hM_N_157 hk_6 rfl) hI_N_157 hk_c0 hG_N_168 rfl) hI_N_168 hk_c0 hG_N_181 rfl) hI_N_181 hk_c0 hG_N_208 rfl) (uaut_o (by decide) (by omega)) (uaut_o (by decide) (by omega)) (uaut_o (by decide) (by omega))), (CA.new (x := (M (M c0 0) 4)) hA (by omega) hZ hI_M hk_6 (Cf.mo hE_N_208 (fun y hy => by rw [show min (q 3) 1 = q 3 by omega] at hy; exact hy)) (by rw [Fr.e hG_N_208 hk_c0 _ rfl, Fr.e hG_N_181 hk_c0 _ rfl, Fr.e hG_N_168 hk_c0 _ rfl, hM_N_157, mu_k hk_c0 hk_6 rfl, Fr.e hG_N_146 hk_c0 _ rfl, Fr.e hG_N_107 hk_c0 _ rfl, Fr.e hG_N_94 hk_c0 _ rfl, Fr.e hG_N_71 hk_c0 _ rfl, Fr.e hG_N_55 hk_c0 _ rfl, Fr.e hG_N_12 hk_c0 _ rfl]) (by rw [Fr.e hG_N_208 hk_6 _ rfl, Fr.e hG_N_181 hk_6 _ rfl, Fr.e hG_N_168 hk_6 _ rfl, hM_N_157, mu_i (by omega), Fr.e hG_N_146 hk_6 _ rfl, Fr.e hG_N_107 hk_6 _ rfl, Fr.e hG_N_94 hk_6 _ rfl, Fr.e hG_N_71 hk_6 _ rfl, Fr.e hG_N_55 hk_6 _ rfl, Fr.e hG_N_12 hk_6 _ rfl]) (by rw [Fr.e hG_N_208 hk_6 _ rfl, Fr.e hG_N_181 hk_6 _ rfl, Fr.e hG_N_168 hk_6 _ rfl, hM_N_157, mu_i (by omega), Fr.e hG_N_146 hk_6 _ rfl, Fr.e hG_N_107 hk_6 _ rfl, Fr.e hG_N_94 hk_6 _ rfl, Fr.e hG_N_71 hk_6 _ rfl, Fr.e hG_N_55 hk_6 _ rfl, Fr.e hG_N_12 hk_6 _ rfl]) (Or.inl ⟨by omega, rfl⟩) (by omega) (by omega) (by omega) (by omega) (by omega) (by omega) (zAW.fr (zAW.fr hzw_N_168 hI_N_168 hk_166 hG_N_181 rfl) hI_N_181 hk_166 hG_N_208 rfl) hr)⟩)⟩⟩ dX1_takeAutomaton_128
                    · refine kx_if_eq 123 F 127 dX1_takeAutomaton_120 (by decide) rfl (by omega) (fun h_231 => ?_) (fun h_231 => (by exfalso; omega))
                      refine kx_iconst 128 F dX1_takeAutomaton_127 rfl ?_
                      exact kx_zret F hQ (by omega) ⟨hI_N_208, hF_N_208, (by omega), hE_N_208, ⟨(Or.inr ⟨(Or.inr (Or.inr (Or.inr (Or.inr (Or.inr (Or.inr (Or.inr (Or.inr (Or.inr (Or.inr (Or.inr ((by omega))))))))))))), (Or.inr (Or.inl (by omega)))⟩), (fun h => absurd h (by omega))⟩⟩ dX1_takeAutomaton_128
                  · refine kx_if_eq 116 F 127 dX1_takeAutomaton_113 (by decide) rfl (by omega) (fun h_232 => (by exfalso; omega)) (fun h_232 => ?_)
                    refine kx_aload_n 117 F 0 dX1_takeAutomaton_116 rfl rfl rfl ?_
                    refine kx_Vi 120 (ci := 0) F (As := []) (st := []) vd_X1_120 (e_X1_standsSign G l N_181 c0 hI_N_181 hk_c0 Bt (TB.fr hB hI_M hk_c0 hF_N_181 rfl) (j + 4) (by omega) (by omega)) hk_c0 rfl rfl rfl ⟨by decide, by decide⟩ rfl rfl (Nat.le_of_ble_eq_true rfl) dX1_takeAutomaton_117 rfl ?_
                    intro r_233 N_234 q_235
                    obtain ⟨hI_N_234, hG_N_234, q_235c⟩ := q_235
                    have hF_N_234 : Fr f_e_X1_takeAutomaton M N_234 := Fr.c hF_N_181 hG_N_234 rfl
                    have hE_N_234 : Cf (SL (M c0 0) (min (q 3) 1)) M N_234 := Cf.fr hE_N_181 hG_N_234 rfl
                    have h_236 := Inv.g hI_N_234 hk_c0 rfl 2 (a := (-2147483648)) (b := 2147483647) rfl rfl
                    have h_237 := Inv.g hI_N_234 hk_c0 rfl 3 (a := (-2147483648)) (b := 2147483647) rfl rfl
                    rcases q_235c with q_235c | q_235c
                    · exfalso; omega
                    · refine kx_if_eq 123 F 127 dX1_takeAutomaton_120 (by decide) rfl (by omega) (fun h_240 => ?_) (fun h_240 => (by exfalso; omega))
                      refine kx_iconst 128 F dX1_takeAutomaton_127 rfl ?_
                      exact kx_zret F hQ (by omega) ⟨hI_N_234, hF_N_234, (by omega), hE_N_234, ⟨(Or.inr ⟨(Or.inr (Or.inr (Or.inr (Or.inr (Or.inr (Or.inr (Or.inr (Or.inr (Or.inr (Or.inr (Or.inr ((by omega))))))))))))), (Or.inr (Or.inl (by omega)))⟩), (fun h => absurd h (by omega))⟩⟩ dX1_takeAutomaton_128
                  · refine kx_if_eq 116 F 127 dX1_takeAutomaton_113 (by decide) rfl (by omega) (fun h_241 => ?_) (fun h_241 => (by exfalso; omega))
                    refine kx_iconst 128 F dX1_takeAutomaton_127 rfl ?_
                    exact kx_zret F hQ (by omega) ⟨hI_N_181, hF_N_181, (by omega), hE_N_181, ⟨(Or.inr ⟨(Or.inr (Or.inr (Or.inr (Or.inr (Or.inr (Or.inr (Or.inr (Or.inr (Or.inr (Or.inr (Or.inr ((by omega))))))))))))), (Or.inl (by omega))⟩), (fun h => absurd h (by omega))⟩⟩ dX1_takeAutomaton_128
                · have ec_242 : N_157 c0 0 = M c0 0 := by rw [hM_N_157, mu_k hk_c0 hk_6 rfl, Fr.e hG_N_146 hk_c0 _ rfl, Fr.e hG_N_107 hk_c0 _ rfl, Fr.e hG_N_94 hk_c0 _ rfl, Fr.e hG_N_71 hk_c0 _ rfl, Fr.e hG_N_55 hk_c0 _ rfl, Fr.e hG_N_12 hk_c0 _ rfl]
                  have ec_243 : (N_157 (N_157 c0 0) 5) = (M (M c0 0) 5) := by rw [ec_242, hM_N_157, mu_i (by omega), Fr.e hG_N_146 hk_6 _ rfl, Fr.e hG_N_107 hk_6 _ rfl, Fr.e hG_N_94 hk_6 _ rfl, Fr.e hG_N_71 hk_6 _ rfl, Fr.e hG_N_55 hk_6 _ rfl, Fr.e hG_N_12 hk_6 _ rfl]
                  have e_244 : (N_157 c0 0) = (M c0 0) := by rw [hM_N_157, mu_k hk_c0 hk_6 rfl, Fr.e hG_N_146 hk_c0 _ rfl, Fr.e hG_N_107 hk_c0 _ rfl, Fr.e hG_N_94 hk_c0 _ rfl, Fr.e hG_N_71 hk_c0 _ rfl, Fr.e hG_N_55 hk_c0 _ rfl, Fr.e hG_N_12 hk_c0 _ rfl]
                  have e_245 : (N_157 (N_157 c0 0) 3) = (M (M c0 0) 3) + 1 := by rw [e_244, hM_N_157, mu_s]
                  rw [ec_243]
                  have hk_246 : kd (M (M c0 0) 5) = 1 := Inv.r hI_M hk_6 rfl 5 rfl rfl
                  refine kx_aload_n 95 F 0 dX1_takeAutomaton_94 rfl rfl rfl ?_
                  refine kx_getr 98 F fl_X1_12 hk_c0 rfl rfl (j := 0) rfl dX1_takeAutomaton_95 (v := (M c0 0)) (by rw [hM_N_157, mu_k hk_c0 hk_6 rfl, Fr.e hG_N_146 hk_c0 _ rfl, Fr.e hG_N_107 hk_c0 _ rfl, Fr.e hG_N_94 hk_c0 _ rfl, Fr.e hG_N_71 hk_c0 _ rfl, Fr.e hG_N_55 hk_c0 _ rfl, Fr.e hG_N_12 hk_c0 _ rfl]) rfl ?_
                  refine kx_geti 101 F fl_X1_139 hk_6 rfl rfl (j := 0) rfl dX1_takeAutomaton_98 (v := (M (M c0 0) 0)) (by rw [hM_N_157, mu_i (by omega), Fr.e hG_N_146 hk_6 _ rfl, Fr.e hG_N_107 hk_6 _ rfl, Fr.e hG_N_94 hk_6 _ rfl, Fr.e hG_N_71 hk_6 _ rfl, Fr.e hG_N_55 hk_6 _ rfl, Fr.e hG_N_12 hk_6 _ rfl]) rfl ?_
                  have h_247 := Inv.g hI_M hk_6 rfl 0 (a := 0) (b := 2) rfl rfl
                  refine kx_iload_n 102 F 1 dX1_takeAutomaton_101 rfl rfl rfl ?_
                  refine kx_aload_n 103 F 0 dX1_takeAutomaton_102 rfl rfl rfl ?_
                  refine kx_geti 106 F fl_X1_127 hk_c0 rfl rfl (j := 9) rfl dX1_takeAutomaton_103 (v := (N_107 c0 9)) (by rw [hM_N_157, mu_k hk_c0 hk_6 rfl, Fr.e hG_N_146 hk_c0 _ rfl]) rfl ?_
                  refine kx_Vv 109 (ci := 0) F (As := [vI (M (M c0 0) 0), vI (N_12 c0 9), vI (N_107 c0 9)]) (st := []) vd_X1_142 (e_X0_clear G l N_157 (M (M c0 0) 5) (M (M c0 0) 0) (N_12 c0 9) (N_107 c0 9) hI_N_157 hk_246 (by omega)) hk_246 rfl rfl rfl ⟨by decide, by decide⟩ rfl rfl (Nat.le_of_ble_eq_true rfl) dX1_takeAutomaton_106 rfl ?_
                  intro N_248 q_249
                  obtain ⟨hI_N_248, hG_N_248, q_249c, hC_N_248, hzw_N_248⟩ := q_249
                  have hF_N_248 : Fr f_e_X1_takeAutomaton M N_248 := Fr.c hF_N_157 hG_N_248 rfl
                  have hE_N_248 : Cf (SL (M c0 0) (min (q 3) 1)) M N_248 := Cf.c hE_N_157 hC_N_248 (fun y hy => Or.inr (by have a := SA.in hy (FZ.fr hZ hF_N_157 rfl) hk_246; have b := hZ.2.1 (M c0 0) hk_6; omega))
                  have h_250 := Inv.g hI_N_248 hk_246 rfl 0 (a := 0) (b := 3) rfl rfl
                  have h_251 := Inv.g hI_N_248 hk_246 rfl 1 (a := 0) (b := 3) rfl rfl
                  have h_252 := Inv.g hI_N_248 hk_246 rfl 2 (a := 0) (b := 7) rfl rfl
                  have h_253 := Inv.g hI_N_248 hk_246 rfl 3 (a := 0) (b := 7) rfl rfl
                  have h_254 := Inv.g hI_N_248 hk_246 rfl 4 (a := 0) (b := 20) rfl rfl
                  have h_255 := Inv.g hI_N_248 hk_246 rfl 5 (a := 0) (b := 2) rfl rfl
                  refine kx_aload_n 110 F 0 dX1_takeAutomaton_109 rfl rfl rfl ?_
                  have e_256 : (N_248 c0 7) = (N_107 c0 7) := by rw [Fr.e hG_N_248 hk_c0 _ rfl, hM_N_157, mu_k hk_c0 hk_6 rfl, Fr.e hG_N_146 hk_c0 _ rfl]
                  have e_257 : (N_248 c0 8) = (N_107 c0 8) := by rw [Fr.e hG_N_248 hk_c0 _ rfl, hM_N_157, mu_k hk_c0 hk_6 rfl, Fr.e hG_N_146 hk_c0 _ rfl]
                  refine kx_Vi 113 (ci := 0) F (As := []) (st := []) vd_X1_57 (e_X1_advance G l N_248 c0 hI_N_248 hk_c0 (by omega) Bt (TB.fr hB hI_M hk_c0 hF_N_248 rfl) (j + 4) (j + 3) (by omega) (by omega) (by omega)) hk_c0 rfl rfl rfl ⟨by decide, by decide⟩ rfl rfl (Nat.le_of_ble_eq_true rfl) dX1_takeAutomaton_110 rfl ?_
                  intro r_260 N_261 q_262
                  obtain ⟨hI_N_261, hG_N_261, q_262c⟩ := q_262
                  have hF_N_261 : Fr f_e_X1_takeAutomaton M N_261 := Fr.c hF_N_248 hG_N_261 rfl
                  have hE_N_261 : Cf (SL (M c0 0) (min (q 3) 1)) M N_261 := Cf.fr hE_N_248 hG_N_261 rfl
                  have ht_263 := tp_le (n := M c0 5) (TB.tx hB hI_M hk_c0) (Inv.g hI_M hk_c0 rfl 5 (a := 0) (b := 900) rfl rfl).1 (j := (j + 4)) (by omega)
                  have ht_265 : 0 ≤ tk Bt (j + 4) ∧ tk Bt (j + 4) ≤ 4 := tk_b (n := M c0 5) (TB.tx hB hI_M hk_c0) (by omega)
                  have h_266 := Inv.g hI_N_261 hk_c0 rfl 7 (a := 0) (b := 900) rfl rfl
                  have h_267 := Inv.g hI_N_261 hk_c0 rfl 8 (a := 0) (b := 900) rfl rfl
                  have h_268 := Inv.g hI_N_261 hk_c0 rfl 6 (a := 0) (b := 5) rfl rfl
                  have e_269 : (N_248 c0 2) = (N_146 c0 2) := by rw [Fr.e hG_N_248 hk_c0 _ rfl, hM_N_157, mu_k hk_c0 hk_6 rfl]
                  have h_270 := Inv.g hI_N_261 hk_c0 rfl 2 (a := (-2147483648)) (b := 2147483647) rfl rfl
                  have e_271 : (N_248 c0 3) = (N_146 c0 3) := by rw [Fr.e hG_N_248 hk_c0 _ rfl, hM_N_157, mu_k hk_c0 hk_6 rfl]
                  have h_272 := Inv.g hI_N_261 hk_c0 rfl 3 (a := (-2147483648)) (b := 2147483647) rfl rfl
                  have h_276 := Inv.g hI_N_261 hk_c0 rfl 9 (a := (-2147483648)) (b := 2147483647) rfl rfl
                  rcases q_262c with q_262c | q_262c | q_262c
                  · refine kx_if_eq 116 F 127 dX1_takeAutomaton_113 (by decide) rfl (by omega) (fun h_286 => (by exfalso; omega)) (fun h_286 => ?_)
                    refine kx_aload_n 117 F 0 dX1_takeAutomaton_116 rfl rfl rfl ?_
                    refine kx_Vi 120 (ci := 0) F (As := []) (st := []) vd_X1_120 (e_X1_standsSign G l N_261 c0 hI_N_261 hk_c0 Bt (TB.fr hB hI_M hk_c0 hF_N_261 rfl) (j + 4) (by omega) (by omega)) hk_c0 rfl rfl rfl ⟨by decide, by decide⟩ rfl rfl (Nat.le_of_ble_eq_true rfl) dX1_takeAutomaton_117 rfl ?_
                    intro r_287 N_288 q_289
                    obtain ⟨hI_N_288, hG_N_288, q_289c⟩ := q_289
                    have hF_N_288 : Fr f_e_X1_takeAutomaton M N_288 := Fr.c hF_N_261 hG_N_288 rfl
                    have hE_N_288 : Cf (SL (M c0 0) (min (q 3) 1)) M N_288 := Cf.fr hE_N_261 hG_N_288 rfl
                    have h_290 := Inv.g hI_N_288 hk_c0 rfl 2 (a := (-2147483648)) (b := 2147483647) rfl rfl
                    have h_291 := Inv.g hI_N_288 hk_c0 rfl 3 (a := (-2147483648)) (b := 2147483647) rfl rfl
                    rcases q_289c with q_289c | q_289c
                    · refine kx_if_eq 123 F 127 dX1_takeAutomaton_120 (by decide) rfl (by omega) (fun h_294 => (by exfalso; omega)) (fun h_294 => ?_)
                      refine kx_iconst 124 F dX1_takeAutomaton_123 rfl ?_
                      refine kx_goto 128 F dX1_takeAutomaton_124 (by decide) ?_
                      have e_295 : (N_288 c0 0) = (M c0 0) := by rw [Fr.e hG_N_288 hk_c0 _ rfl, Fr.e hG_N_261 hk_c0 _ rfl, Fr.e hG_N_248 hk_c0 _ rfl, hM_N_157, mu_k hk_c0 hk_6 rfl, Fr.e hG_N_146 hk_c0 _ rfl, Fr.e hG_N_107 hk_c0 _ rfl, Fr.e hG_N_94 hk_c0 _ rfl, Fr.e hG_N_71 hk_c0 _ rfl, Fr.e hG_N_55 hk_c0 _ rfl, Fr.e hG_N_12 hk_c0 _ rfl]
                      have e_296 : (N_288 (M c0 0) 0) = (M (M c0 0) 0) := by rw [Fr.e hG_N_288 hk_6 _ rfl, Fr.e hG_N_261 hk_6 _ rfl, Fr.e hG_N_248 hk_6 _ rfl, hM_N_157, mu_i (by omega), Fr.e hG_N_146 hk_6 _ rfl, Fr.e hG_N_107 hk_6 _ rfl, Fr.e hG_N_94 hk_6 _ rfl, Fr.e hG_N_71 hk_6 _ rfl, Fr.e hG_N_55 hk_6 _ rfl, Fr.e hG_N_12 hk_6 _ rfl]
                      have e_297 : (N_288 (M c0 0) 1) = (M (M c0 0) 1) := by rw [Fr.e hG_N_288 hk_6 _ rfl, Fr.e hG_N_261 hk_6 _ rfl, Fr.e hG_N_248 hk_6 _ rfl, hM_N_157, mu_i (by omega), Fr.e hG_N_146 hk_6 _ rfl, Fr.e hG_N_107 hk_6 _ rfl, Fr.e hG_N_94 hk_6 _ rfl, Fr.e hG_N_71 hk_6 _ rfl, Fr.e hG_N_55 hk_6 _ rfl, Fr.e hG_N_12 hk_6 _ rfl]
                      have h_298 := Inv.g hI_M hk_6 rfl 1 (a := 0) (b := 4) rfl rfl
                      have e_299 : (N_288 (M c0 0) 2) = (M (M c0 0) 2) := by rw [Fr.e hG_N_288 hk_6 _ rfl, Fr.e hG_N_261 hk_6 _ rfl, Fr.e hG_N_248 hk_6 _ rfl, hM_N_157, mu_i (by omega), Fr.e hG_N_146 hk_6 _ rfl, Fr.e hG_N_107 hk_6 _ rfl, Fr.e hG_N_94 hk_6 _ rfl, Fr.e hG_N_71 hk_6 _ rfl, Fr.e hG_N_55 hk_6 _ rfl, Fr.e hG_N_12 hk_6 _ rfl]
                      have h_300 := Inv.g hI_M hk_6 rfl 2 (a := 0) (b := 6) rfl rfl
                      have e_301 : (N_288 (M c0 0) 3) = (M (M c0 0) 3) + 1 := by rw [Fr.e hG_N_288 hk_6 _ rfl, Fr.e hG_N_261 hk_6 _ rfl, Fr.e hG_N_248 hk_6 _ rfl, hM_N_157, mu_s]
                      have e_302 : (N_288 (M (M c0 0) 5) 0) = (N_248 (M (M c0 0) 5) 0) := by rw [Fr.e hG_N_288 hk_246 _ rfl, Fr.e hG_N_261 hk_246 _ rfl]
                      have e_303 : (N_288 (M (M c0 0) 5) 1) = (N_248 (M (M c0 0) 5) 1) := by rw [Fr.e hG_N_288 hk_246 _ rfl, Fr.e hG_N_261 hk_246 _ rfl]
                      have e_304 : (N_288 (M (M c0 0) 5) 2) = (N_248 (M (M c0 0) 5) 2) := by rw [Fr.e hG_N_288 hk_246 _ rfl, Fr.e hG_N_261 hk_246 _ rfl]
                      have e_305 : (N_288 (M (M c0 0) 5) 3) = (N_248 (M (M c0 0) 5) 3) := by rw [Fr.e hG_N_288 hk_246 _ rfl, Fr.e hG_N_261 hk_246 _ rfl]
                      have e_306 : (N_288 (M (M c0 0) 5) 4) = (N_248 (M (M c0 0) 5) 4) := by rw [Fr.e hG_N_288 hk_246 _ rfl, Fr.e hG_N_261 hk_246 _ rfl]
                      have e_307 : (N_288 (M (M c0 0) 5) 5) = (N_248 (M (M c0 0) 5) 5) := by rw [Fr.e hG_N_288 hk_246 _ rfl, Fr.e hG_N_261 hk_246 _ rfl]
                      have e_308 : (N_288 c0 6) = (N_261 c0 6) := by rw [Fr.e hG_N_288 hk_c0 _ rfl]
                      have e_309 : (N_288 c0 7) = (N_261 c0 7) := by rw [Fr.e hG_N_288 hk_c0 _ rfl]
                      have e_310 : (N_288 c0 8) = (N_261 c0 8) := by rw [Fr.e hG_N_288 hk_c0 _ rfl]
                      exact kx_zret F hQ (by omega) ⟨hI_N_288, hF_N_288, (by omega), hE_N_288, ⟨(Or.inr ⟨(Or.inr (Or.inr (Or.inr (Or.inr (Or.inr (Or.inr (Or.inr (Or.inr (Or.inr (Or.inr (Or.inr ((by omega))))))))))))), (Or.inr (Or.inr (Or.inr ((by omega)))))⟩), (fun _ => ⟨⟨by omega, by omega, by omega, by omega, by omega⟩, (CQ.cg (q' := uaut q (tv Bt (j + 1)) (tv Bt (j + 3))) hq (by rw [Fr.e hG_N_288 hk_c0 _ rfl, Fr.e hG_N_261 hk_c0 _ rfl, Fr.e hG_N_248 hk_c0 _ rfl, hM_N_157, mu_k hk_c0 hk_6 rfl, Fr.e hG_N_146 hk_c0 _ rfl, Fr.e hG_N_107 hk_c0 _ rfl, Fr.e hG_N_94 hk_c0 _ rfl, Fr.e hG_N_71 hk_c0 _ rfl, Fr.e hG_N_55 hk_c0 _ rfl, Fr.e hG_N_12 hk_c0 _ rfl]) (by omega) (by omega) (by omega) (by rw [uaut_3 (by omega)]; omega) (uaut_o (by decide) (by omega)) (uaut_o (by decide) (by omega)) (uaut_o (by decide) (by omega)) (by rw [uaut_3 (by omega)]; omega)), (NU.cg (NU.fr (NU.fr (NU.fr (NU.st (NU.fr (NU.fr (NU.fr (NU.fr (NU.fr (NU.fr hN hI_M hk_c0 hG_N_12 rfl) hI_N_12 hk_c0 hG_N_55 rfl) hI_N_55 hk_c0 hG_N_71 rfl) hI_N_71 hk_c0 hG_N_94 rfl) hI_N_94 hk_c0 hG_N_107 rfl) hI_N_107 hk_c0 hG_N_146 rfl) hI_N_146 hk_c0 hM_N_157 hk_6 rfl) hI_N_157 hk_c0 hG_N_248 rfl) hI_N_248 hk_c0 hG_N_261 rfl) hI_N_261 hk_c0 hG_N_288 rfl) (uaut_o (by decide) (by omega)) (uaut_o (by decide) (by omega)) (uaut_o (by decide) (by omega))), (CA.new (x := (M (M c0 0) 5)) hA (by omega) hZ hI_M hk_6 (Cf.mo hE_N_288 (fun y hy => by rw [show min (q 3) 1 = q 3 by omega] at hy; exact hy)) (by rw [Fr.e hG_N_288 hk_c0 _ rfl, Fr.e hG_N_261 hk_c0 _ rfl, Fr.e hG_N_248 hk_c0 _ rfl, hM_N_157, mu_k hk_c0 hk_6 rfl, Fr.e hG_N_146 hk_c0 _ rfl, Fr.e hG_N_107 hk_c0 _ rfl, Fr.e hG_N_94 hk_c0 _ rfl, Fr.e hG_N_71 hk_c0 _ rfl, Fr.e hG_N_55 hk_c0 _ rfl, Fr.e hG_N_12 hk_c0 _ rfl]) (by rw [Fr.e hG_N_288 hk_6 _ rfl, Fr.e hG_N_261 hk_6 _ rfl, Fr.e hG_N_248 hk_6 _ rfl, hM_N_157, mu_i (by omega), Fr.e hG_N_146 hk_6 _ rfl, Fr.e hG_N_107 hk_6 _ rfl, Fr.e hG_N_94 hk_6 _ rfl, Fr.e hG_N_71 hk_6 _ rfl, Fr.e hG_N_55 hk_6 _ rfl, Fr.e hG_N_12 hk_6 _ rfl]) (by rw [Fr.e hG_N_288 hk_6 _ rfl, Fr.e hG_N_261 hk_6 _ rfl, Fr.e hG_N_248 hk_6 _ rfl, hM_N_157, mu_i (by omega), Fr.e hG_N_146 hk_6 _ rfl, Fr.e hG_N_107 hk_6 _ rfl, Fr.e hG_N_94 hk_6 _ rfl, Fr.e hG_N_71 hk_6 _ rfl, Fr.e hG_N_55 hk_6 _ rfl, Fr.e hG_N_12 hk_6 _ rfl]) (Or.inr ⟨by omega, rfl⟩) (by omega) (by omega) (by omega) (by omega) (by omega) (by omega) (zAW.fr (zAW.fr hzw_N_248 hI_N_248 hk_246 hG_N_261 rfl) hI_N_261 hk_246 hG_N_288 rfl) hr)⟩)⟩⟩ dX1_takeAutomaton_128
                    · refine kx_if_eq 123 F 127 dX1_takeAutomaton_120 (by decide) rfl (by omega) (fun h_311 => ?_) (fun h_311 => (by exfalso; omega))
                      refine kx_iconst 128 F dX1_takeAutomaton_127 rfl ?_
                      exact kx_zret F hQ (by omega) ⟨hI_N_288, hF_N_288, (by omega), hE_N_288, ⟨(Or.inr ⟨(Or.inr (Or.inr (Or.inr (Or.inr (Or.inr (Or.inr (Or.inr (Or.inr (Or.inr (Or.inr (Or.inr ((by omega))))))))))))), (Or.inr (Or.inl (by omega)))⟩), (fun h => absurd h (by omega))⟩⟩ dX1_takeAutomaton_128
                  · refine kx_if_eq 116 F 127 dX1_takeAutomaton_113 (by decide) rfl (by omega) (fun h_312 => (by exfalso; omega)) (fun h_312 => ?_)
                    refine kx_aload_n 117 F 0 dX1_takeAutomaton_116 rfl rfl rfl ?_
                    refine kx_Vi 120 (ci := 0) F (As := []) (st := []) vd_X1_120 (e_X1_standsSign G l N_261 c0 hI_N_261 hk_c0 Bt (TB.fr hB hI_M hk_c0 hF_N_261 rfl) (j + 4) (by omega) (by omega)) hk_c0 rfl rfl rfl ⟨by decide, by decide⟩ rfl rfl (Nat.le_of_ble_eq_true rfl) dX1_takeAutomaton_117 rfl ?_
                    intro r_313 N_314 q_315
                    obtain ⟨hI_N_314, hG_N_314, q_315c⟩ := q_315
                    have hF_N_314 : Fr f_e_X1_takeAutomaton M N_314 := Fr.c hF_N_261 hG_N_314 rfl
                    have hE_N_314 : Cf (SL (M c0 0) (min (q 3) 1)) M N_314 := Cf.fr hE_N_261 hG_N_314 rfl
                    have h_316 := Inv.g hI_N_314 hk_c0 rfl 2 (a := (-2147483648)) (b := 2147483647) rfl rfl
                    have h_317 := Inv.g hI_N_314 hk_c0 rfl 3 (a := (-2147483648)) (b := 2147483647) rfl rfl
                    rcases q_315c with q_315c | q_315c
                    · exfalso; omega
                    · refine kx_if_eq 123 F 127 dX1_takeAutomaton_120 (by decide) rfl (by omega) (fun h_320 => ?_) (fun h_320 => (by exfalso; omega))
                      refine kx_iconst 128 F dX1_takeAutomaton_127 rfl ?_
                      exact kx_zret F hQ (by omega) ⟨hI_N_314, hF_N_314, (by omega), hE_N_314, ⟨(Or.inr ⟨(Or.inr (Or.inr (Or.inr (Or.inr (Or.inr (Or.inr (Or.inr (Or.inr (Or.inr (Or.inr (Or.inr ((by omega))))))))))))), (Or.inr (Or.inl (by omega)))⟩), (fun h => absurd h (by omega))⟩⟩ dX1_takeAutomaton_128
                  · refine kx_if_eq 116 F 127 dX1_takeAutomaton_113 (by decide) rfl (by omega) (fun h_321 => ?_) (fun h_321 => (by exfalso; omega))
                    refine kx_iconst 128 F dX1_takeAutomaton_127 rfl ?_
                    exact kx_zret F hQ (by omega) ⟨hI_N_261, hF_N_261, (by omega), hE_N_261, ⟨(Or.inr ⟨(Or.inr (Or.inr (Or.inr (Or.inr (Or.inr (Or.inr (Or.inr (Or.inr (Or.inr (Or.inr (Or.inr ((by omega))))))))))))), (Or.inl (by omega))⟩), (fun h => absurd h (by omega))⟩⟩ dX1_takeAutomaton_128
              · exfalso; omega
              · refine kx_if_ne 75 F 77 dX1_takeAutomaton_72 (by decide) rfl (by omega) (fun h_322 => (by exfalso; omega)) (fun h_322 => ?_)
                refine kx_iconst 76 F dX1_takeAutomaton_75 rfl ?_
                exact kx_zret F hQ (by omega) ⟨hI_N_146, hF_N_146, (by omega), hE_N_146, ⟨(Or.inl ⟨by omega, (Or.inr (Or.inr (Or.inr (Or.inr (Or.inr (Or.inr (Or.inr (Or.inr (Or.inr (Or.inl (by omega)))))))))))⟩), (fun h => absurd h (by omega))⟩⟩ dX1_takeAutomaton_76
              · refine kx_if_ne 75 F 77 dX1_takeAutomaton_72 (by decide) rfl (by omega) (fun h_323 => (by exfalso; omega)) (fun h_323 => ?_)
                refine kx_iconst 76 F dX1_takeAutomaton_75 rfl ?_
                exact kx_zret F hQ (by omega) ⟨hI_N_146, hF_N_146, (by omega), hE_N_146, ⟨(Or.inl ⟨by omega, (Or.inr (Or.inr (Or.inr (Or.inr (Or.inr (Or.inr (Or.inr (Or.inr (Or.inr (Or.inr (Or.inl (by omega))))))))))))⟩), (fun h => absurd h (by omega))⟩⟩ dX1_takeAutomaton_76
            · refine kx_if_eq 66 F 75 dX1_takeAutomaton_63 (by decide) rfl (by omega) (fun h_324 => ?_) (fun h_324 => (by exfalso; omega))
              refine kx_iconst 76 F dX1_takeAutomaton_75 rfl ?_
              exact kx_zret F hQ (by omega) ⟨hI_N_107, hF_N_107, (by omega), hE_N_107, ⟨(Or.inl ⟨by omega, (Or.inr (Or.inr (Or.inr (Or.inr (Or.inr (Or.inr (Or.inr (Or.inl (by omega)))))))))⟩), (fun h => absurd h (by omega))⟩⟩ dX1_takeAutomaton_76
          · refine kx_if_ne 57 F 59 dX1_takeAutomaton_54 (by decide) rfl (by omega) (fun h_325 => (by exfalso; omega)) (fun h_325 => ?_)
            refine kx_iconst 58 F dX1_takeAutomaton_57 rfl ?_
            exact kx_zret F hQ (by omega) ⟨hI_N_94, hF_N_94, (by omega), hE_N_94, ⟨(Or.inl ⟨by omega, (Or.inr (Or.inr (Or.inr (Or.inr (Or.inr (Or.inr (Or.inl (by omega))))))))⟩), (fun h => absurd h (by omega))⟩⟩ dX1_takeAutomaton_58
        · refine kx_if_eq 48 F 57 dX1_takeAutomaton_45 (by decide) rfl (by omega) (fun h_326 => (by exfalso; omega)) (fun h_326 => ?_)
          refine kx_aload_n 49 F 0 dX1_takeAutomaton_48 rfl rfl rfl ?_
          refine kx_ldcS 51 F 4 (by decide) rfl rfl dX1_takeAutomaton_49 rfl ?_
          refine kx_Vi 54 (ci := 0) F (As := [vT G 4]) (st := []) vd_X1_132 (e_X1_standsWord G l N_71 c0 4 hI_N_71 hk_c0 (by omega) Bt (TB.fr hB hI_M hk_c0 hF_N_71 rfl) (j + 2) (by omega) (by omega)) hk_c0 rfl rfl rfl ⟨by decide, by decide⟩ rfl rfl (Nat.le_of_ble_eq_true rfl) dX1_takeAutomaton_51 rfl ?_
          intro r_327 N_328 q_329
          obtain ⟨hI_N_328, hG_N_328, q_329c⟩ := q_329
          have hF_N_328 : Fr f_e_X1_takeAutomaton M N_328 := Fr.c hF_N_71 hG_N_328 rfl
          have hE_N_328 : Cf (SL (M c0 0) (min (q 3) 1)) M N_328 := Cf.fr hE_N_71 hG_N_328 rfl
          have hw_330 : kwi 4 = 7 := rfl
          have h_331 := Inv.g hI_N_328 hk_c0 rfl 2 (a := (-2147483648)) (b := 2147483647) rfl rfl
          have h_332 := Inv.g hI_N_328 hk_c0 rfl 3 (a := (-2147483648)) (b := 2147483647) rfl rfl
          rcases q_329c with q_329c | q_329c
          · exfalso; omega
          · refine kx_if_ne 57 F 59 dX1_takeAutomaton_54 (by decide) rfl (by omega) (fun h_335 => (by exfalso; omega)) (fun h_335 => ?_)
            refine kx_iconst 58 F dX1_takeAutomaton_57 rfl ?_
            exact kx_zret F hQ (by omega) ⟨hI_N_328, hF_N_328, (by omega), hE_N_328, ⟨(Or.inl ⟨by omega, (Or.inr (Or.inr (Or.inr (Or.inr (Or.inr (Or.inr (Or.inl (by omega))))))))⟩), (fun h => absurd h (by omega))⟩⟩ dX1_takeAutomaton_58
        · refine kx_if_eq 48 F 57 dX1_takeAutomaton_45 (by decide) rfl (by omega) (fun h_336 => ?_) (fun h_336 => (by exfalso; omega))
          refine kx_iconst 58 F dX1_takeAutomaton_57 rfl ?_
          exact kx_zret F hQ (by omega) ⟨hI_N_71, hF_N_71, (by omega), hE_N_71, ⟨(Or.inl ⟨by omega, (Or.inr (Or.inr (Or.inr (Or.inr (Or.inr (Or.inl (by omega)))))))⟩), (fun h => absurd h (by omega))⟩⟩ dX1_takeAutomaton_58
      · exfalso; omega
      · refine kx_if_ne 34 F 36 dX1_takeAutomaton_31 (by decide) rfl (by omega) (fun h_337 => (by exfalso; omega)) (fun h_337 => ?_)
        refine kx_iconst 35 F dX1_takeAutomaton_34 rfl ?_
        exact kx_zret F hQ (by omega) ⟨hI_N_55, hF_N_55, (by omega), hE_N_55, ⟨(Or.inl ⟨by omega, (Or.inr (Or.inr (Or.inr (Or.inl (by omega)))))⟩), (fun h => absurd h (by omega))⟩⟩ dX1_takeAutomaton_35
      · refine kx_if_ne 34 F 36 dX1_takeAutomaton_31 (by decide) rfl (by omega) (fun h_338 => (by exfalso; omega)) (fun h_338 => ?_)
        refine kx_iconst 35 F dX1_takeAutomaton_34 rfl ?_
        exact kx_zret F hQ (by omega) ⟨hI_N_55, hF_N_55, (by omega), hE_N_55, ⟨(Or.inl ⟨by omega, (Or.inr (Or.inr (Or.inr (Or.inr (Or.inl (by omega))))))⟩), (fun h => absurd h (by omega))⟩⟩ dX1_takeAutomaton_35
    · refine kx_if_eq 25 F 34 dX1_takeAutomaton_22 (by decide) rfl (by omega) (fun h_339 => ?_) (fun h_339 => (by exfalso; omega))
      refine kx_iconst 35 F dX1_takeAutomaton_34 rfl ?_
      exact kx_zret F hQ (by omega) ⟨hI_N_12, hF_N_12, (by omega), hE_N_12, ⟨(Or.inl ⟨by omega, (Or.inr (Or.inl (by omega)))⟩), (fun h => absurd h (by omega))⟩⟩ dX1_takeAutomaton_35
  · refine kx_aload_n 12 F 0 dX1_takeAutomaton_11 rfl rfl rfl ?_
    refine kx_bipush 14 F dX1_takeAutomaton_12 (by decide) rfl ?_
    refine kx_Vi 17 (ci := 0) F (As := [vI 6]) (st := []) vd_X1_89 (e_X1_fail G l M c0 6 hI_M hk_c0 (by omega)) hk_c0 rfl rfl rfl ⟨by decide, by decide⟩ rfl rfl (Nat.le_of_ble_eq_true rfl) dX1_takeAutomaton_14 rfl ?_
    intro r_340 N_341 q_342
    obtain ⟨hI_N_341, hG_N_341, q_342c⟩ := q_342
    have hF_N_341 : Fr f_e_X1_takeAutomaton M N_341 := Fr.c hF_M hG_N_341 rfl
    have hE_N_341 : Cf (SL (M c0 0) (min (q 3) 1)) M N_341 := Cf.fr hE_M hG_N_341 rfl
    have h_343 := Inv.g hI_N_341 hk_c0 rfl 2 (a := (-2147483648)) (b := 2147483647) rfl rfl
    have h_344 := Inv.g hI_N_341 hk_c0 rfl 3 (a := (-2147483648)) (b := 2147483647) rfl rfl
    exact kx_zret F hQ (by omega) ⟨hI_N_341, hF_N_341, (by omega), hE_N_341, ⟨(Or.inl ⟨by omega, (Or.inl (by omega))⟩), (fun h => absurd h (by omega))⟩⟩ dX1_takeAutomaton_17
