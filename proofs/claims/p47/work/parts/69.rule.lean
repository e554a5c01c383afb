abbrev f_e_X1_takeRule : List (Nat × Int) := [(1, 4), (2, -1), (3, -1), (4, -1), (5, -1), (6, -1), (7, -1), (17, 2), (17, 3), (17, 6), (17, 7), (17, 8), (17, 9)]
set_option maxHeartbeats 4000000 in
set_option maxRecDepth 100000 in
theorem e_X1_takeRule (G : KG) (l : Launch) (M : Mem) (c0 : Int) (hI_M : Inv false M) (hk_c0 : kd c0 = 17) (hpre : (M c0 7) + (M c0 8) ≤ 900) (Bt : Int → Int) (hB : TB M c0 Bt) (j : Int) (hj : 0 ≤ j) (hs : M c0 6 = tk Bt j ∧ M c0 7 = tp Bt j ∧ M c0 7 + M c0 8 = tq Bt j) (t q : Int → Int) (hN : NU M c0 Bt t q) (hq : M (M c0 0) 0 = q 0 ∧ M (M c0 0) 1 = q 0 + q 1 ∧ M (M c0 0) 2 = q 0 + q 1 + q 2 ∧ M (M c0 0) 3 = q 3 ∧ 0 ≤ q 0 ∧ q 0 ≤ 2 ∧ 0 ≤ q 1 ∧ q 1 ≤ 2 ∧ 0 ≤ q 2 ∧ q 2 ≤ 2 ∧ 0 ≤ q 3 ∧ q 3 ≤ 2) (hA : CA M c0 q) (hZ : FZ M) (hr : ∀ b, (b = 100 ∨ b = 185) → q (b + 4) ≤ 20 ∨ q 3 = 0) (hw : tk Bt j = 1) (x b : Int) (hkx : kd x = 1) (hx : (b = 100 ∧ q 3 = 1 ∧ x = M (M c0 0) 4) ∨ (b = 185 ∧ q 3 = 2 ∧ x = M (M c0 0) 5)) : KC false G l yX1_takeRule cX1_takeRule 5 (some .boolean) (7, 151) [vR G c0] M (fun A => kQi false G A (fun (r : Int) (N : Mem) => Inv false N ∧ Fr f_e_X1_takeRule M N ∧ (r ≥ 0 ∧ r ≤ 1) ∧ Cf (SL (M c0 0) (q 3 - 1)) M N ∧ (∃ e y, zRR Bt t q b j r (N c0 2) (N c0 3) e y ∧ (r = 1 → zCP N M c0 Bt e ∧ CQ N c0 (uprul q b (lfn Bt t (q 0) (q 1) (q 2) (j + 1)) (tv Bt (j + 2)) (tv Bt (j + 3)) y) ∧ NU N c0 Bt t (uprul q b (lfn Bt t (q 0) (q 1) (q 2) (j + 1)) (tv Bt (j + 2)) (tv Bt (j + 3)) y) ∧ CA N c0 (uprul q b (lfn Bt t (q 0) (q 1) (q 2) (j + 1)) (tv Bt (j + 2)) (tv Bt (j + 3)) y))))) := by
  refine kx_met (lo := [some (vR G c0), none, none, none, none]) (by decide) (Nat.le_of_ble_eq_true rfl) rfl ?_
  intro X F hQ
  have hF_M : Fr f_e_X1_takeRule M M := Fr.rf _ _
  have hE_M : Cf (SL (M c0 0) (q 3 - 1)) M M := Cf.rf _ _
  have h_1 := Inv.g hI_M hk_c0 rfl 7 (a := 0) (b := 900) rfl rfl
  have h_2 := Inv.g hI_M hk_c0 rfl 8 (a := 0) (b := 900) rfl rfl
  have ht_3 := tp_le (n := M c0 5) (TB.tx hB hI_M hk_c0) (Inv.g hI_M hk_c0 rfl 5 (a := 0) (b := 900) rfl rfl).1 (j := j) (by omega)
  have h_4 := Inv.g hI_M hk_c0 rfl 5 (a := 0) (b := 900) rfl rfl
  have ht_5 : 0 ≤ tk Bt j ∧ tk Bt j ≤ 4 := tk_b (n := M c0 5) (TB.tx hB hI_M hk_c0) (by omega)
  have hk_6 : kd (M c0 0) = 12 := Inv.r hI_M hk_c0 rfl 0 rfl rfl
  have hk_7 : kd (M c0 10) = 19 := Inv.r hI_M hk_c0 rfl 10 rfl rfl
  have hk_8 : kd (M c0 11) = 20 := Inv.r hI_M hk_c0 rfl 11 rfl rfl
  refine kx_aload_n 1 F 0 dX1_takeRule_0 rfl rfl rfl ?_
  have h_9 := Inv.g hI_M hk_6 rfl 3 (a := 0) (b := 2) rfl rfl
  refine kx_Vr 4 (ci := 0) F (As := []) (st := []) vd_X1_135 (e_X1_latestX G l M c0 hI_M hk_c0 x (by omega)) hk_c0 rfl rfl rfl ⟨by decide, by decide⟩ rfl rfl (Nat.le_of_ble_eq_true rfl) dX1_takeRule_1 rfl ?_
  intro r_10 N_11 q_12
  obtain ⟨rfl, hk_13, q_12d⟩ := q_12
  rcases q_12d with ⟨q_12c, rfl⟩
  · have hA1 : AT M x q b := by
      rcases hx with ⟨e1, e2, e3⟩ | ⟨e1, e2, e3⟩
      · rw [e1, e3]; exact hA.1 (by omega)
      · rw [e1, e3]; exact hA.2 (by omega)
    have hAn := hA1.num
    have hxz := hZ.2.1 (M c0 0) hk_6
    refine kx_astore_n 5 F 1 (lo' := [some (vR G c0), some (vR G x), none, none, none]) dX1_takeRule_4 rfl (by decide) rfl rfl rfl ?_
    refine kx_aload_n 6 F 1 dX1_takeRule_5 rfl rfl rfl ?_
    refine kx_geti 9 F fl_X1_156 hk_13 rfl rfl (j := 4) rfl dX1_takeRule_6 (v := (M x 4)) rfl rfl ?_
    have h_14 := Inv.g hI_M hk_13 rfl 4 (a := 0) (b := 20) rfl rfl
    refine kx_bipush 11 F dX1_takeRule_9 (by decide) rfl ?_
    refine kx_icmp_lt 14 F 21 dX1_takeRule_11 (by decide) rfl (by omega) (by decide) (fun h_15 => ?_) (fun h_15 => ?_)
    · refine kx_aload_n 22 F 0 dX1_takeRule_21 rfl rfl rfl ?_
      refine kx_Vi 25 (ci := 0) F (As := []) (st := []) vd_X1_57 (e_X1_advance G l M c0 hI_M hk_c0 (by omega) Bt hB (j + 1) j (by omega) (by omega) (by omega)) hk_c0 rfl rfl rfl ⟨by decide, by decide⟩ rfl rfl (Nat.le_of_ble_eq_true rfl) dX1_takeRule_22 rfl ?_
      intro r_16 N_17 q_18
      obtain ⟨hI_N_17, hG_N_17, q_18c⟩ := q_18
      have hF_N_17 : Fr f_e_X1_takeRule M N_17 := Fr.c hF_M hG_N_17 rfl
      have hE_N_17 : Cf (SL (M c0 0) (q 3 - 1)) M N_17 := Cf.fr hE_M hG_N_17 rfl
      have ht_19 := tp_le (n := M c0 5) (TB.tx hB hI_M hk_c0) (Inv.g hI_M hk_c0 rfl 5 (a := 0) (b := 900) rfl rfl).1 (j := (j + 1)) (by omega)
      have ht_21 : 0 ≤ tk Bt (j + 1) ∧ tk Bt (j + 1) ≤ 4 := tk_b (n := M c0 5) (TB.tx hB hI_M hk_c0) (by omega)
      have h_22 := Inv.g hI_N_17 hk_c0 rfl 7 (a := 0) (b := 900) rfl rfl
      have h_23 := Inv.g hI_N_17 hk_c0 rfl 8 (a := 0) (b := 900) rfl rfl
      have h_24 := Inv.g hI_N_17 hk_c0 rfl 6 (a := 0) (b := 5) rfl rfl
      have h_25 := Inv.g hI_M hk_c0 rfl 2 (a := (-2147483648)) (b := 2147483647) rfl rfl
      have h_26 := Inv.g hI_N_17 hk_c0 rfl 2 (a := (-2147483648)) (b := 2147483647) rfl rfl
      have h_27 := Inv.g hI_M hk_c0 rfl 3 (a := (-2147483648)) (b := 2147483647) rfl rfl
      have h_28 := Inv.g hI_N_17 hk_c0 rfl 3 (a := (-2147483648)) (b := 2147483647) rfl rfl
      have h_32 := Inv.g hI_N_17 hk_c0 rfl 9 (a := (-2147483648)) (b := 2147483647) rfl rfl
      rcases q_18c with q_18c | q_18c | q_18c
      · refine kx_if_eq 28 F 35 dX1_takeRule_25 (by decide) rfl (by omega) (fun h_42 => (by exfalso; omega)) (fun h_42 => ?_)
        refine kx_aload_n 29 F 0 dX1_takeRule_28 rfl rfl rfl ?_
        refine kx_Vi 32 (ci := 0) F (As := []) (st := []) vd_X1_109 (e_X1_standsName G l N_17 c0 hI_N_17 hk_c0 Bt (TB.fr hB hI_M hk_c0 hF_N_17 rfl) (j + 1) (by omega) (by omega)) hk_c0 rfl rfl rfl ⟨by decide, by decide⟩ rfl rfl (Nat.le_of_ble_eq_true rfl) dX1_takeRule_29 rfl ?_
        intro r_43 N_44 q_45
        obtain ⟨hI_N_44, hG_N_44, q_45c⟩ := q_45
        have hF_N_44 : Fr f_e_X1_takeRule M N_44 := Fr.c hF_N_17 hG_N_44 rfl
        have hE_N_44 : Cf (SL (M c0 0) (q 3 - 1)) M N_44 := Cf.fr hE_N_17 hG_N_44 rfl
        have h_46 := Inv.g hI_N_44 hk_c0 rfl 2 (a := (-2147483648)) (b := 2147483647) rfl rfl
        have h_47 := Inv.g hI_N_44 hk_c0 rfl 3 (a := (-2147483648)) (b := 2147483647) rfl rfl
        rcases q_45c with q_45c | q_45c
        · refine kx_if_ne 35 F 37 dX1_takeRule_32 (by decide) rfl (by omega) (fun h_50 => ?_) (fun h_50 => (by exfalso; omega))
          refine kx_aload_n 38 F 0 dX1_takeRule_37 rfl rfl rfl ?_
          have e_51 : (N_44 c0 6) = (N_17 c0 6) := by rw [Fr.e hG_N_44 hk_c0 _ rfl]
          have e_52 : (N_44 c0 7) = (N_17 c0 7) := by rw [Fr.e hG_N_44 hk_c0 _ rfl]
          have e_53 : (N_44 c0 8) = (N_17 c0 8) := by rw [Fr.e hG_N_44 hk_c0 _ rfl]
          have e_54 : (N_44 c0 0) = (M c0 0) := by rw [Fr.e hG_N_44 hk_c0 _ rfl, Fr.e hG_N_17 hk_c0 _ rfl]
          have e_55 : (N_44 (N_44 c0 0) 0) = (M (M c0 0) 0) := by rw [e_54, Fr.e hG_N_44 hk_6 _ rfl, Fr.e hG_N_17 hk_6 _ rfl]
          have h_56 := Inv.g hI_M hk_6 rfl 0 (a := 0) (b := 2) rfl rfl
          have e_57 : (N_44 c0 0) = (M c0 0) := by rw [Fr.e hG_N_44 hk_c0 _ rfl, Fr.e hG_N_17 hk_c0 _ rfl]
          have e_58 : (N_44 (N_44 c0 0) 1) = (M (M c0 0) 1) := by rw [e_57, Fr.e hG_N_44 hk_6 _ rfl, Fr.e hG_N_17 hk_6 _ rfl]
          have h_59 := Inv.g hI_M hk_6 rfl 1 (a := 0) (b := 4) rfl rfl
          have e_60 : (N_44 c0 0) = (M c0 0) := by rw [Fr.e hG_N_44 hk_c0 _ rfl, Fr.e hG_N_17 hk_c0 _ rfl]
          have e_61 : (N_44 (N_44 c0 0) 2) = (M (M c0 0) 2) := by rw [e_60, Fr.e hG_N_44 hk_6 _ rfl, Fr.e hG_N_17 hk_6 _ rfl]
          have h_62 := Inv.g hI_M hk_6 rfl 2 (a := 0) (b := 6) rfl rfl
          have e_63 : (N_44 c0 0) = (M c0 0) := by rw [Fr.e hG_N_44 hk_c0 _ rfl, Fr.e hG_N_17 hk_c0 _ rfl]
          have e_64 : (N_44 (N_44 c0 0) 3) = (M (M c0 0) 3) := by rw [e_63, Fr.e hG_N_44 hk_6 _ rfl, Fr.e hG_N_17 hk_6 _ rfl]
          refine kx_Vi 41 (ci := 0) F (As := []) (st := []) vd_X1_112 (e_X1_findName G l N_44 c0 hI_N_44 hk_c0 Bt (TB.fr hB hI_M hk_c0 hF_N_44 rfl) (j + 1) (by omega) (by omega) t q (NU.fr (NU.fr hN hI_M hk_c0 hG_N_17 rfl) hI_N_17 hk_c0 hG_N_44 rfl) (by omega)) hk_c0 rfl rfl rfl ⟨by decide, by decide⟩ rfl rfl (Nat.le_of_ble_eq_true rfl) dX1_takeRule_38 rfl ?_
          intro r_65 N_66 q_67
          obtain ⟨rfl, q_67c⟩ := q_67
          have hl_68 := lfn_b Bt t (q 0) (q 1) (q 2) (j + 1) (by omega) (by omega) (by omega)
          refine kx_istore_n 42 F 2 (lo' := [some (vR G c0), some (vR G x), some (vI r_65), none, none]) dX1_takeRule_41 rfl (by decide) rfl rfl rfl ?_
          refine kx_iload_n 43 F 2 dX1_takeRule_42 rfl rfl rfl ?_
          refine kx_iconst 44 F dX1_takeRule_43 rfl ?_
          refine kx_icmp_ne 47 F 53 dX1_takeRule_44 (by decide) rfl (by omega) (by decide) (fun h_69 => ?_) (fun h_69 => ?_)
          · refine kx_aload_n 54 F 0 dX1_takeRule_53 rfl rfl rfl ?_
            refine kx_Vi 57 (ci := 0) F (As := []) (st := []) vd_X1_57 (e_X1_advance G l N_44 c0 hI_N_44 hk_c0 (by omega) Bt (TB.fr hB hI_M hk_c0 hF_N_44 rfl) (j + 2) (j + 1) (by omega) (by omega) (by omega)) hk_c0 rfl rfl rfl ⟨by decide, by decide⟩ rfl rfl (Nat.le_of_ble_eq_true rfl) dX1_takeRule_54 rfl ?_
            intro r_74 N_75 q_76
            obtain ⟨hI_N_75, hG_N_75, q_76c⟩ := q_76
            have hF_N_75 : Fr f_e_X1_takeRule M N_75 := Fr.c hF_N_44 hG_N_75 rfl
            have hE_N_75 : Cf (SL (M c0 0) (q 3 - 1)) M N_75 := Cf.fr hE_N_44 hG_N_75 rfl
            have ht_77 := tp_le (n := M c0 5) (TB.tx hB hI_M hk_c0) (Inv.g hI_M hk_c0 rfl 5 (a := 0) (b := 900) rfl rfl).1 (j := (j + 2)) (by omega)
            have ht_79 : 0 ≤ tk Bt (j + 2) ∧ tk Bt (j + 2) ≤ 4 := tk_b (n := M c0 5) (TB.tx hB hI_M hk_c0) (by omega)
            have h_80 := Inv.g hI_N_75 hk_c0 rfl 7 (a := 0) (b := 900) rfl rfl
            have h_81 := Inv.g hI_N_75 hk_c0 rfl 8 (a := 0) (b := 900) rfl rfl
            have h_82 := Inv.g hI_N_75 hk_c0 rfl 6 (a := 0) (b := 5) rfl rfl
            have h_83 := Inv.g hI_N_75 hk_c0 rfl 2 (a := (-2147483648)) (b := 2147483647) rfl rfl
            have h_84 := Inv.g hI_N_75 hk_c0 rfl 3 (a := (-2147483648)) (b := 2147483647) rfl rfl
            have h_88 := Inv.g hI_N_75 hk_c0 rfl 9 (a := (-2147483648)) (b := 2147483647) rfl rfl
            rcases q_76c with q_76c | q_76c | q_76c
            · refine kx_if_eq 60 F 74 dX1_takeRule_57 (by decide) rfl (by omega) (fun h_96 => (by exfalso; omega)) (fun h_96 => ?_)
              refine kx_aload_n 61 F 0 dX1_takeRule_60 rfl rfl rfl ?_
              refine kx_iconst 62 F dX1_takeRule_61 rfl ?_
              refine kx_aload_n 63 F 1 dX1_takeRule_62 rfl rfl rfl ?_
              refine kx_geti 66 F fl_X1_153 hk_13 rfl rfl (j := 0) rfl dX1_takeRule_63 (v := (M x 0)) (by rw [Fr.e hG_N_75 hk_13 _ rfl, Fr.e hG_N_44 hk_13 _ rfl, Fr.e hG_N_17 hk_13 _ rfl]) rfl ?_
              have h_97 := Inv.g hI_M hk_13 rfl 0 (a := 0) (b := 3) rfl rfl
              refine kx_iconst 67 F dX1_takeRule_66 rfl ?_
              refine kx_isub 68 F (v := (M x 0) - 1) dX1_takeRule_67 rfl rfl ?_
              refine kx_Vi 71 (ci := 0) F (As := [vI 0, vI ((M x 0) - 1)]) (st := []) vd_X1_123 (e_X1_standsNumber G l N_75 c0 0 ((M x 0) - 1) hI_N_75 hk_c0 (by omega) Bt (TB.fr hB hI_M hk_c0 hF_N_75 rfl) (j + 2) (by omega) (by omega)) hk_c0 rfl rfl rfl ⟨by decide, by decide⟩ rfl rfl (Nat.le_of_ble_eq_true rfl) dX1_takeRule_68 rfl ?_
              intro r_98 N_99 q_100
              obtain ⟨hI_N_99, hG_N_99, q_100c⟩ := q_100
              have hF_N_99 : Fr f_e_X1_takeRule M N_99 := Fr.c hF_N_75 hG_N_99 rfl
              have hE_N_99 : Cf (SL (M c0 0) (q 3 - 1)) M N_99 := Cf.fr hE_N_75 hG_N_99 rfl
              have h_102 := Inv.g hI_N_99 hk_c0 rfl 2 (a := (-2147483648)) (b := 2147483647) rfl rfl
              have h_103 := Inv.g hI_N_99 hk_c0 rfl 3 (a := (-2147483648)) (b := 2147483647) rfl rfl
              rcases q_100c with q_100c | q_100c | q_100c | q_100c
              · exfalso; omega
              · refine kx_if_ne 74 F 76 dX1_takeRule_71 (by decide) rfl (by omega) (fun h_112 => (by exfalso; omega)) (fun h_112 => ?_)
                refine kx_iconst 75 F dX1_takeRule_74 rfl ?_
                exact kx_zret F hQ (by omega) ⟨hI_N_99, hF_N_99, (by omega), hE_N_99, ⟨(j + 4), (-1), (Or.inl ⟨by omega, (Or.inr (Or.inr (Or.inr (Or.inr (Or.inr (Or.inl (by omega)))))))⟩), (fun h => absurd h (by omega))⟩⟩ dX1_takeRule_75
              · exfalso; omega
              · exfalso; omega
            · refine kx_if_eq 60 F 74 dX1_takeRule_57 (by decide) rfl (by omega) (fun h_113 => (by exfalso; omega)) (fun h_113 => ?_)
              refine kx_aload_n 61 F 0 dX1_takeRule_60 rfl rfl rfl ?_
              refine kx_iconst 62 F dX1_takeRule_61 rfl ?_
              refine kx_aload_n 63 F 1 dX1_takeRule_62 rfl rfl rfl ?_
              refine kx_geti 66 F fl_X1_153 hk_13 rfl rfl (j := 0) rfl dX1_takeRule_63 (v := (M x 0)) (by rw [Fr.e hG_N_75 hk_13 _ rfl, Fr.e hG_N_44 hk_13 _ rfl, Fr.e hG_N_17 hk_13 _ rfl]) rfl ?_
              have h_114 := Inv.g hI_M hk_13 rfl 0 (a := 0) (b := 3) rfl rfl
              refine kx_iconst 67 F dX1_takeRule_66 rfl ?_
              refine kx_isub 68 F (v := (M x 0) - 1) dX1_takeRule_67 rfl rfl ?_
              refine kx_Vi 71 (ci := 0) F (As := [vI 0, vI ((M x 0) - 1)]) (st := []) vd_X1_123 (e_X1_standsNumber G l N_75 c0 0 ((M x 0) - 1) hI_N_75 hk_c0 (by omega) Bt (TB.fr hB hI_M hk_c0 hF_N_75 rfl) (j + 2) (by omega) (by omega)) hk_c0 rfl rfl rfl ⟨by decide, by decide⟩ rfl rfl (Nat.le_of_ble_eq_true rfl) dX1_takeRule_68 rfl ?_
              intro r_115 N_116 q_117
              obtain ⟨hI_N_116, hG_N_116, q_117c⟩ := q_117
              have hF_N_116 : Fr f_e_X1_takeRule M N_116 := Fr.c hF_N_75 hG_N_116 rfl
              have hE_N_116 : Cf (SL (M c0 0) (q 3 - 1)) M N_116 := Cf.fr hE_N_75 hG_N_116 rfl
              have h_118 := Inv.g hI_N_116 hk_c0 rfl 2 (a := (-2147483648)) (b := 2147483647) rfl rfl
              have h_119 := Inv.g hI_N_116 hk_c0 rfl 3 (a := (-2147483648)) (b := 2147483647) rfl rfl
              rcases q_117c with q_117c | q_117c | q_117c | q_117c
              · refine kx_if_ne 74 F 76 dX1_takeRule_71 (by decide) rfl (by omega) (fun h_126 => ?_) (fun h_126 => (by exfalso; omega))
                have e_127 : (N_116 c0 9) = (N_75 c0 9) := by rw [Fr.e hG_N_116 hk_c0 _ rfl]
                have hv_128 : N_116 c0 9 = tv Bt (j + 2) := by omega
                refine kx_aload_n 77 F 0 dX1_takeRule_76 rfl rfl rfl ?_
                refine kx_geti 80 F fl_X1_127 hk_c0 rfl rfl (j := 9) rfl dX1_takeRule_77 (v := (N_75 c0 9)) (by rw [Fr.e hG_N_116 hk_c0 _ rfl]) rfl ?_
                refine kx_istore_n 81 F 3 (lo' := [some (vR G c0), some (vR G x), some (vI r_65), some (vI (N_75 c0 9)), none]) dX1_takeRule_80 rfl (by decide) rfl rfl rfl ?_
                refine kx_aload_n 82 F 0 dX1_takeRule_81 rfl rfl rfl ?_
                have e_129 : (N_116 c0 7) = (N_75 c0 7) := by rw [Fr.e hG_N_116 hk_c0 _ rfl]
                have e_130 : (N_116 c0 8) = (N_75 c0 8) := by rw [Fr.e hG_N_116 hk_c0 _ rfl]
                refine kx_Vi 85 (ci := 0) F (As := []) (st := []) vd_X1_57 (e_X1_advance G l N_116 c0 hI_N_116 hk_c0 (by omega) Bt (TB.fr hB hI_M hk_c0 hF_N_116 rfl) (j + 3) (j + 2) (by omega) (by omega) (by omega)) hk_c0 rfl rfl rfl ⟨by decide, by decide⟩ rfl rfl (Nat.le_of_ble_eq_true rfl) dX1_takeRule_82 rfl ?_
                intro r_133 N_134 q_135
                obtain ⟨hI_N_134, hG_N_134, q_135c⟩ := q_135
                have hF_N_134 : Fr f_e_X1_takeRule M N_134 := Fr.c hF_N_116 hG_N_134 rfl
                have hE_N_134 : Cf (SL (M c0 0) (q 3 - 1)) M N_134 := Cf.fr hE_N_116 hG_N_134 rfl
                have ht_136 := tp_le (n := M c0 5) (TB.tx hB hI_M hk_c0) (Inv.g hI_M hk_c0 rfl 5 (a := 0) (b := 900) rfl rfl).1 (j := (j + 3)) (by omega)
                have ht_138 : 0 ≤ tk Bt (j + 3) ∧ tk Bt (j + 3) ≤ 4 := tk_b (n := M c0 5) (TB.tx hB hI_M hk_c0) (by omega)
                have h_139 := Inv.g hI_N_134 hk_c0 rfl 7 (a := 0) (b := 900) rfl rfl
                have h_140 := Inv.g hI_N_134 hk_c0 rfl 8 (a := 0) (b := 900) rfl rfl
                have h_141 := Inv.g hI_N_134 hk_c0 rfl 6 (a := 0) (b := 5) rfl rfl
                have h_142 := Inv.g hI_N_134 hk_c0 rfl 2 (a := (-2147483648)) (b := 2147483647) rfl rfl
                have h_143 := Inv.g hI_N_134 hk_c0 rfl 3 (a := (-2147483648)) (b := 2147483647) rfl rfl
                have h_147 := Inv.g hI_N_134 hk_c0 rfl 9 (a := (-2147483648)) (b := 2147483647) rfl rfl
                rcases q_135c with q_135c | q_135c | q_135c
                · refine kx_if_eq 88 F 102 dX1_takeRule_85 (by decide) rfl (by omega) (fun h_155 => (by exfalso; omega)) (fun h_155 => ?_)
                  refine kx_aload_n 89 F 0 dX1_takeRule_88 rfl rfl rfl ?_
                  refine kx_iconst 90 F dX1_takeRule_89 rfl ?_
                  refine kx_aload_n 91 F 1 dX1_takeRule_90 rfl rfl rfl ?_
                  refine kx_geti 94 F fl_X1_153 hk_13 rfl rfl (j := 0) rfl dX1_takeRule_91 (v := (M x 0)) (by rw [Fr.e hG_N_134 hk_13 _ rfl, Fr.e hG_N_116 hk_13 _ rfl, Fr.e hG_N_75 hk_13 _ rfl, Fr.e hG_N_44 hk_13 _ rfl, Fr.e hG_N_17 hk_13 _ rfl]) rfl ?_
                  refine kx_iconst 95 F dX1_takeRule_94 rfl ?_
                  refine kx_isub 96 F (v := (M x 0) - 1) dX1_takeRule_95 rfl rfl ?_
                  refine kx_Vi 99 (ci := 0) F (As := [vI 0, vI ((M x 0) - 1)]) (st := []) vd_X1_123 (e_X1_standsNumber G l N_134 c0 0 ((M x 0) - 1) hI_N_134 hk_c0 (by omega) Bt (TB.fr hB hI_M hk_c0 hF_N_134 rfl) (j + 3) (by omega) (by omega)) hk_c0 rfl rfl rfl ⟨by decide, by decide⟩ rfl rfl (Nat.le_of_ble_eq_true rfl) dX1_takeRule_96 rfl ?_
                  intro r_156 N_157 q_158
                  obtain ⟨hI_N_157, hG_N_157, q_158c⟩ := q_158
                  have hF_N_157 : Fr f_e_X1_takeRule M N_157 := Fr.c hF_N_134 hG_N_157 rfl
                  have hE_N_157 : Cf (SL (M c0 0) (q 3 - 1)) M N_157 := Cf.fr hE_N_134 hG_N_157 rfl
                  have h_160 := Inv.g hI_N_157 hk_c0 rfl 2 (a := (-2147483648)) (b := 2147483647) rfl rfl
                  have h_161 := Inv.g hI_N_157 hk_c0 rfl 3 (a := (-2147483648)) (b := 2147483647) rfl rfl
                  rcases q_158c with q_158c | q_158c | q_158c | q_158c
                  · exfalso; omega
                  · refine kx_if_ne 102 F 104 dX1_takeRule_99 (by decide) rfl (by omega) (fun h_170 => (by exfalso; omega)) (fun h_170 => ?_)
                    refine kx_iconst 103 F dX1_takeRule_102 rfl ?_
                    exact kx_zret F hQ (by omega) ⟨hI_N_157, hF_N_157, (by omega), hE_N_157, ⟨(j + 4), (-1), (Or.inl ⟨by omega, (Or.inr (Or.inr (Or.inr (Or.inr (Or.inr (Or.inr (Or.inr (Or.inr (Or.inl (by omega))))))))))⟩), (fun h => absurd h (by omega))⟩⟩ dX1_takeRule_103
                  · exfalso; omega
                  · exfalso; omega
                · refine kx_if_eq 88 F 102 dX1_takeRule_85 (by decide) rfl (by omega) (fun h_171 => (by exfalso; omega)) (fun h_171 => ?_)
                  refine kx_aload_n 89 F 0 dX1_takeRule_88 rfl rfl rfl ?_
                  refine kx_iconst 90 F dX1_takeRule_89 rfl ?_
                  refine kx_aload_n 91 F 1 dX1_takeRule_90 rfl rfl rfl ?_
                  refine kx_geti 94 F fl_X1_153 hk_13 rfl rfl (j := 0) rfl dX1_takeRule_91 (v := (M x 0)) (by rw [Fr.e hG_N_134 hk_13 _ rfl, Fr.e hG_N_116 hk_13 _ rfl, Fr.e hG_N_75 hk_13 _ rfl, Fr.e hG_N_44 hk_13 _ rfl, Fr.e hG_N_17 hk_13 _ rfl]) rfl ?_
                  refine kx_iconst 95 F dX1_takeRule_94 rfl ?_
                  refine kx_isub 96 F (v := (M x 0) - 1) dX1_takeRule_95 rfl rfl ?_
                  refine kx_Vi 99 (ci := 0) F (As := [vI 0, vI ((M x 0) - 1)]) (st := []) vd_X1_123 (e_X1_standsNumber G l N_134 c0 0 ((M x 0) - 1) hI_N_134 hk_c0 (by omega) Bt (TB.fr hB hI_M hk_c0 hF_N_134 rfl) (j + 3) (by omega) (by omega)) hk_c0 rfl rfl rfl ⟨by decide, by decide⟩ rfl rfl (Nat.le_of_ble_eq_true rfl) dX1_takeRule_96 rfl ?_
                  intro r_172 N_173 q_174
                  obtain ⟨hI_N_173, hG_N_173, q_174c⟩ := q_174
                  have hF_N_173 : Fr f_e_X1_takeRule M N_173 := Fr.c hF_N_134 hG_N_173 rfl
                  have hE_N_173 : Cf (SL (M c0 0) (q 3 - 1)) M N_173 := Cf.fr hE_N_134 hG_N_173 rfl
                  have h_175 := Inv.g hI_N_173 hk_c0 rfl 2 (a := (-2147483648)) (b := 2147483647) rfl rfl
                  have h_176 := Inv.g hI_N_173 hk_c0 rfl 3 (a := (-2147483648)) (b := 2147483647) rfl rfl
                  rcases q_174c with q_174c | q_174c | q_174c | q_174c
                  · refine kx_if_ne 102 F 104 dX1_takeRule_99 (by decide) rfl (by omega) (fun h_183 => ?_) (fun h_183 => (by exfalso; omega))
                    have e_184 : (N_173 c0 9) = (N_134 c0 9) := by rw [Fr.e hG_N_173 hk_c0 _ rfl]
                    have hv_185 : N_173 c0 9 = tv Bt (j + 3) := by omega
                    refine kx_aload_n 105 F 0 dX1_takeRule_104 rfl rfl rfl ?_
                    refine kx_geti 108 F fl_X1_127 hk_c0 rfl rfl (j := 9) rfl dX1_takeRule_105 (v := (N_134 c0 9)) (by rw [Fr.e hG_N_173 hk_c0 _ rfl]) rfl ?_
                    refine kx_istore 110 F 4 (lo' := [some (vR G c0), some (vR G x), some (vI r_65), some (vI (N_75 c0 9)), some (vI (N_134 c0 9))]) dX1_takeRule_108 (by decide) rfl rfl rfl ?_
                    refine kx_aload_n 111 F 0 dX1_takeRule_110 rfl rfl rfl ?_
                    have e_186 : (N_173 c0 7) = (N_134 c0 7) := by rw [Fr.e hG_N_173 hk_c0 _ rfl]
                    have e_187 : (N_173 c0 8) = (N_134 c0 8) := by rw [Fr.e hG_N_173 hk_c0 _ rfl]
                    refine kx_Vi 114 (ci := 0) F (As := []) (st := []) vd_X1_57 (e_X1_advance G l N_173 c0 hI_N_173 hk_c0 (by omega) Bt (TB.fr hB hI_M hk_c0 hF_N_173 rfl) (j + 4) (j + 3) (by omega) (by omega) (by omega)) hk_c0 rfl rfl rfl ⟨by decide, by decide⟩ rfl rfl (Nat.le_of_ble_eq_true rfl) dX1_takeRule_111 rfl ?_
                    intro r_190 N_191 q_192
                    obtain ⟨hI_N_191, hG_N_191, q_192c⟩ := q_192
                    have hF_N_191 : Fr f_e_X1_takeRule M N_191 := Fr.c hF_N_173 hG_N_191 rfl
                    have hE_N_191 : Cf (SL (M c0 0) (q 3 - 1)) M N_191 := Cf.fr hE_N_173 hG_N_191 rfl
                    have ht_193 := tp_le (n := M c0 5) (TB.tx hB hI_M hk_c0) (Inv.g hI_M hk_c0 rfl 5 (a := 0) (b := 900) rfl rfl).1 (j := (j + 4)) (by omega)
                    have ht_195 : 0 ≤ tk Bt (j + 4) ∧ tk Bt (j + 4) ≤ 4 := tk_b (n := M c0 5) (TB.tx hB hI_M hk_c0) (by omega)
                    have h_196 := Inv.g hI_N_191 hk_c0 rfl 7 (a := 0) (b := 900) rfl rfl
                    have h_197 := Inv.g hI_N_191 hk_c0 rfl 8 (a := 0) (b := 900) rfl rfl
                    have h_198 := Inv.g hI_N_191 hk_c0 rfl 6 (a := 0) (b := 5) rfl rfl
                    have h_199 := Inv.g hI_N_191 hk_c0 rfl 2 (a := (-2147483648)) (b := 2147483647) rfl rfl
                    have h_200 := Inv.g hI_N_191 hk_c0 rfl 3 (a := (-2147483648)) (b := 2147483647) rfl rfl
                    have h_204 := Inv.g hI_N_191 hk_c0 rfl 9 (a := (-2147483648)) (b := 2147483647) rfl rfl
                    rcases q_192c with q_192c | q_192c | q_192c
                    · refine kx_if_eq 117 F 139 dX1_takeRule_114 (by decide) rfl (by omega) (fun h_212 => (by exfalso; omega)) (fun h_212 => ?_)
                      refine kx_aload_n 118 F 0 dX1_takeRule_117 rfl rfl rfl ?_
                      refine kx_aload_n 119 F 0 dX1_takeRule_118 rfl rfl rfl ?_
                      refine kx_getr 122 F fl_X1_12 hk_c0 rfl rfl (j := 0) rfl dX1_takeRule_119 (v := (M c0 0)) (by rw [Fr.e hG_N_191 hk_c0 _ rfl, Fr.e hG_N_173 hk_c0 _ rfl, Fr.e hG_N_134 hk_c0 _ rfl, Fr.e hG_N_116 hk_c0 _ rfl, Fr.e hG_N_75 hk_c0 _ rfl, Fr.e hG_N_44 hk_c0 _ rfl, Fr.e hG_N_17 hk_c0 _ rfl]) rfl ?_
                      refine kx_iload_n 123 F 2 dX1_takeRule_122 rfl rfl rfl ?_
                      have e_213 : (N_191 (M c0 0) 0) = (M (M c0 0) 0) := by rw [Fr.e hG_N_191 hk_6 _ rfl, Fr.e hG_N_173 hk_6 _ rfl, Fr.e hG_N_134 hk_6 _ rfl, Fr.e hG_N_116 hk_6 _ rfl, Fr.e hG_N_75 hk_6 _ rfl, Fr.e hG_N_44 hk_6 _ rfl, Fr.e hG_N_17 hk_6 _ rfl]
                      have e_214 : (N_191 (M c0 0) 1) = (M (M c0 0) 1) := by rw [Fr.e hG_N_191 hk_6 _ rfl, Fr.e hG_N_173 hk_6 _ rfl, Fr.e hG_N_134 hk_6 _ rfl, Fr.e hG_N_116 hk_6 _ rfl, Fr.e hG_N_75 hk_6 _ rfl, Fr.e hG_N_44 hk_6 _ rfl, Fr.e hG_N_17 hk_6 _ rfl]
                      have e_215 : (N_191 (M c0 0) 2) = (M (M c0 0) 2) := by rw [Fr.e hG_N_191 hk_6 _ rfl, Fr.e hG_N_173 hk_6 _ rfl, Fr.e hG_N_134 hk_6 _ rfl, Fr.e hG_N_116 hk_6 _ rfl, Fr.e hG_N_75 hk_6 _ rfl, Fr.e hG_N_44 hk_6 _ rfl, Fr.e hG_N_17 hk_6 _ rfl]
                      refine kx_Vi 126 (ci := 0) F (As := [vI r_65]) (st := [vR G c0]) vd_X1_159 (e_X5_sortOf G l N_191 (M c0 0) r_65 hI_N_191 hk_6 (by omega)) hk_6 rfl rfl rfl ⟨by decide, by decide⟩ rfl rfl (Nat.le_of_ble_eq_true rfl) dX1_takeRule_123 rfl ?_
                      intro r_216 N_217 q_218
                      obtain ⟨rfl, q_218c⟩ := q_218
                      rcases q_218c with q_218c | q_218c | q_218c | q_218c | q_218c
                      · exfalso; omega
                      · exfalso; omega
                      · have e_237 : (N_191 c0 0) = (M c0 0) := by rw [Fr.e hG_N_191 hk_c0 _ rfl, Fr.e hG_N_173 hk_c0 _ rfl, Fr.e hG_N_134 hk_c0 _ rfl, Fr.e hG_N_116 hk_c0 _ rfl, Fr.e hG_N_75 hk_c0 _ rfl, Fr.e hG_N_44 hk_c0 _ rfl, Fr.e hG_N_17 hk_c0 _ rfl]
                        have e_238 : (N_191 (N_191 c0 0) 3) = (M (M c0 0) 3) := by rw [e_237, Fr.e hG_N_191 hk_6 _ rfl, Fr.e hG_N_173 hk_6 _ rfl, Fr.e hG_N_134 hk_6 _ rfl, Fr.e hG_N_116 hk_6 _ rfl, Fr.e hG_N_75 hk_6 _ rfl, Fr.e hG_N_44 hk_6 _ rfl, Fr.e hG_N_17 hk_6 _ rfl]
                        have e_239 : N_191 (N_191 c0 0) 4 = M (M c0 0) 4 := by rw [Fr.e hG_N_191 hk_c0 _ rfl, Fr.e hG_N_173 hk_c0 _ rfl, Fr.e hG_N_134 hk_c0 _ rfl, Fr.e hG_N_116 hk_c0 _ rfl, Fr.e hG_N_75 hk_c0 _ rfl, Fr.e hG_N_44 hk_c0 _ rfl, Fr.e hG_N_17 hk_c0 _ rfl, Fr.e hG_N_191 hk_6 _ rfl, Fr.e hG_N_173 hk_6 _ rfl, Fr.e hG_N_134 hk_6 _ rfl, Fr.e hG_N_116 hk_6 _ rfl, Fr.e hG_N_75 hk_6 _ rfl, Fr.e hG_N_44 hk_6 _ rfl, Fr.e hG_N_17 hk_6 _ rfl]
                        have e_240 : N_191 (N_191 c0 0) 5 = M (M c0 0) 5 := by rw [Fr.e hG_N_191 hk_c0 _ rfl, Fr.e hG_N_173 hk_c0 _ rfl, Fr.e hG_N_134 hk_c0 _ rfl, Fr.e hG_N_116 hk_c0 _ rfl, Fr.e hG_N_75 hk_c0 _ rfl, Fr.e hG_N_44 hk_c0 _ rfl, Fr.e hG_N_17 hk_c0 _ rfl, Fr.e hG_N_191 hk_6 _ rfl, Fr.e hG_N_173 hk_6 _ rfl, Fr.e hG_N_134 hk_6 _ rfl, Fr.e hG_N_116 hk_6 _ rfl, Fr.e hG_N_75 hk_6 _ rfl, Fr.e hG_N_44 hk_6 _ rfl, Fr.e hG_N_17 hk_6 _ rfl]
                        have e_241 : (N_191 x 1) = (M x 1) := by rw [Fr.e hG_N_191 hk_13 _ rfl, Fr.e hG_N_173 hk_13 _ rfl, Fr.e hG_N_134 hk_13 _ rfl, Fr.e hG_N_116 hk_13 _ rfl, Fr.e hG_N_75 hk_13 _ rfl, Fr.e hG_N_44 hk_13 _ rfl, Fr.e hG_N_17 hk_13 _ rfl]
                        have h_242 := Inv.g hI_M hk_13 rfl 1 (a := 0) (b := 3) rfl rfl
                        refine kx_Vi 129 (ci := 0) F (As := [vI r_216]) (st := []) vd_X1_162 (e_X1_takeSymbol G l N_191 c0 r_216 hI_N_191 hk_c0 (by omega) Bt (TB.fr hB hI_M hk_c0 hF_N_191 rfl) (j + 4) (by omega) (by omega) x (q (b + 1)) hkx (by omega) (by omega) (by omega) (j + 5) (j + 6) (by omega) (by omega)) hk_c0 rfl rfl rfl ⟨by decide, by decide⟩ rfl rfl (Nat.le_of_ble_eq_true rfl) dX1_takeRule_126 rfl ?_
                        intro r_243 N_244 q_245
                        obtain ⟨hI_N_244, hG_N_244, q_245c⟩ := q_245
                        have hF_N_244 : Fr f_e_X1_takeRule M N_244 := Fr.c hF_N_191 hG_N_244 rfl
                        have hE_N_244 : Cf (SL (M c0 0) (q 3 - 1)) M N_244 := Cf.fr hE_N_191 hG_N_244 rfl
                        have h_246 := Inv.g hI_N_244 hk_c0 rfl 9 (a := (-2147483648)) (b := 2147483647) rfl rfl
                        have h_247 := Inv.g hI_N_244 hk_c0 rfl 6 (a := 0) (b := 5) rfl rfl
                        have h_248 := Inv.g hI_N_244 hk_c0 rfl 7 (a := 0) (b := 900) rfl rfl
                        have h_249 := Inv.g hI_N_244 hk_c0 rfl 8 (a := 0) (b := 900) rfl rfl
                        have h_250 := Inv.g hI_N_244 hk_c0 rfl 2 (a := (-2147483648)) (b := 2147483647) rfl rfl
                        have h_251 := Inv.g hI_N_244 hk_c0 rfl 3 (a := (-2147483648)) (b := 2147483647) rfl rfl
                        rcases q_245c with q_245c | q_245c | q_245c | q_245c | q_245c | q_245c | q_245c | q_245c | q_245c | q_245c | q_245c | q_245c | q_245c | q_245c | q_245c
                        · exfalso; omega
                        · refine kx_if_eq 132 F 139 dX1_takeRule_129 (by decide) rfl (by omega) (fun h_294 => ?_) (fun h_294 => (by exfalso; omega))
                          refine kx_iconst 140 F dX1_takeRule_139 rfl ?_
                          exact kx_zret F hQ (by omega) ⟨hI_N_244, hF_N_244, (by omega), hE_N_244, ⟨(j + 4), (-1), (Or.inl ⟨by omega, (Or.inr (Or.inr (Or.inr (Or.inr (Or.inr (Or.inr (Or.inr (Or.inr (Or.inr (Or.inr (Or.inr (Or.inr (Or.inl (by omega))))))))))))))⟩), (fun h => absurd h (by omega))⟩⟩ dX1_takeRule_140
                        · refine kx_if_eq 132 F 139 dX1_takeRule_129 (by decide) rfl (by omega) (fun h_295 => ?_) (fun h_295 => (by exfalso; omega))
                          refine kx_iconst 140 F dX1_takeRule_139 rfl ?_
                          exact kx_zret F hQ (by omega) ⟨hI_N_244, hF_N_244, (by omega), hE_N_244, ⟨(j + 4), (-1), (Or.inl ⟨by omega, (Or.inr (Or.inr (Or.inr (Or.inr (Or.inr (Or.inr (Or.inr (Or.inr (Or.inr (Or.inr (Or.inr (Or.inr (Or.inr (Or.inl (by omega)))))))))))))))⟩), (fun h => absurd h (by omega))⟩⟩ dX1_takeRule_140
                        · refine kx_if_eq 132 F 139 dX1_takeRule_129 (by decide) rfl (by omega) (fun h_296 => ?_) (fun h_296 => (by exfalso; omega))
                          refine kx_iconst 140 F dX1_takeRule_139 rfl ?_
                          exact kx_zret F hQ (by omega) ⟨hI_N_244, hF_N_244, (by omega), hE_N_244, ⟨(j + 4), (-1), (Or.inl ⟨by omega, (Or.inr (Or.inr (Or.inr (Or.inr (Or.inr (Or.inr (Or.inr (Or.inr (Or.inr (Or.inr (Or.inr (Or.inr (Or.inr (Or.inr (Or.inl (by omega))))))))))))))))⟩), (fun h => absurd h (by omega))⟩⟩ dX1_takeRule_140
                        · refine kx_if_eq 132 F 139 dX1_takeRule_129 (by decide) rfl (by omega) (fun h_297 => ?_) (fun h_297 => (by exfalso; omega))
                          refine kx_iconst 140 F dX1_takeRule_139 rfl ?_
                          exact kx_zret F hQ (by omega) ⟨hI_N_244, hF_N_244, (by omega), hE_N_244, ⟨(j + 4), (-1), (Or.inl ⟨by omega, (Or.inr (Or.inr (Or.inr (Or.inr (Or.inr (Or.inr (Or.inr (Or.inr (Or.inr (Or.inr (Or.inr (Or.inr (Or.inr (Or.inr (Or.inr (Or.inl (by omega)))))))))))))))))⟩), (fun h => absurd h (by omega))⟩⟩ dX1_takeRule_140
                        · refine kx_if_eq 132 F 139 dX1_takeRule_129 (by decide) rfl (by omega) (fun h_298 => ?_) (fun h_298 => (by exfalso; omega))
                          refine kx_iconst 140 F dX1_takeRule_139 rfl ?_
                          exact kx_zret F hQ (by omega) ⟨hI_N_244, hF_N_244, (by omega), hE_N_244, ⟨(j + 6), (tv Bt (j + 5)), (Or.inr ⟨(Or.inr (Or.inr (Or.inr (Or.inr (Or.inr (Or.inr (Or.inr (Or.inr (Or.inr (Or.inr (Or.inr (Or.inr (Or.inr (Or.inr (Or.inr (Or.inr (Or.inl (by omega)))))))))))))))))), (Or.inl (by omega))⟩), (fun h => absurd h (by omega))⟩⟩ dX1_takeRule_140
                        · have ht_299 := tp_le (n := M c0 5) (TB.tx hB hI_M hk_c0) (Inv.g hI_M hk_c0 rfl 5 (a := 0) (b := 900) rfl rfl).1 (j := (j + 6)) (by omega)
                          have ht_301 : 0 ≤ tk Bt (j + 6) ∧ tk Bt (j + 6) ≤ 4 := tk_b (n := M c0 5) (TB.tx hB hI_M hk_c0) (by omega)
                          refine kx_if_eq 132 F 139 dX1_takeRule_129 (by decide) rfl (by omega) (fun h_302 => (by exfalso; omega)) (fun h_302 => ?_)
                          refine kx_aload_n 133 F 0 dX1_takeRule_132 rfl rfl rfl ?_
                          refine kx_Vi 136 (ci := 0) F (As := []) (st := []) vd_X1_120 (e_X1_standsSign G l N_244 c0 hI_N_244 hk_c0 Bt (TB.fr hB hI_M hk_c0 hF_N_244 rfl) (j + 6) (by omega) (by omega)) hk_c0 rfl rfl rfl ⟨by decide, by decide⟩ rfl rfl (Nat.le_of_ble_eq_true rfl) dX1_takeRule_133 rfl ?_
                          intro r_303 N_304 q_305
                          obtain ⟨hI_N_304, hG_N_304, q_305c⟩ := q_305
                          have hF_N_304 : Fr f_e_X1_takeRule M N_304 := Fr.c hF_N_244 hG_N_304 rfl
                          have hE_N_304 : Cf (SL (M c0 0) (q 3 - 1)) M N_304 := Cf.fr hE_N_244 hG_N_304 rfl
                          have h_306 := Inv.g hI_N_304 hk_c0 rfl 2 (a := (-2147483648)) (b := 2147483647) rfl rfl
                          have h_307 := Inv.g hI_N_304 hk_c0 rfl 3 (a := (-2147483648)) (b := 2147483647) rfl rfl
                          rcases q_305c with q_305c | q_305c
                          · refine kx_if_ne 139 F 141 dX1_takeRule_136 (by decide) rfl (by omega) (fun h_310 => ?_) (fun h_310 => (by exfalso; omega))
                            have e_311 : (N_304 c0 9) = (N_244 c0 9) := by rw [Fr.e hG_N_304 hk_c0 _ rfl]
                            refine kx_aload_n 142 F 1 dX1_takeRule_141 rfl rfl rfl ?_
                            refine kx_iload_n 143 F 2 dX1_takeRule_142 rfl rfl rfl ?_
                            refine kx_iload_n 144 F 3 dX1_takeRule_143 rfl rfl rfl ?_
                            refine kx_iload 146 F 4 dX1_takeRule_144 rfl rfl ?_
                            refine kx_aload_n 147 F 0 dX1_takeRule_146 rfl rfl rfl ?_
                            refine kx_geti 150 F fl_X1_127 hk_c0 rfl rfl (j := 9) rfl dX1_takeRule_147 (v := (N_244 c0 9)) (by rw [Fr.e hG_N_304 hk_c0 _ rfl]) rfl ?_
                            refine kx_Vi 153 (ci := 0) F (As := [vI r_65, vI (N_75 c0 9), vI (N_134 c0 9), vI (N_244 c0 9)]) (st := []) vd_X1_165 (e_X0_find G l N_304 x r_65 (N_75 c0 9) (N_134 c0 9) (N_244 c0 9) hI_N_304 hk_13 (by omega) q b (AT.fr (AT.fr (AT.fr (AT.fr (AT.fr (AT.fr (AT.fr (AT.fr (AT.fr hA1 hI_M hk_13 hG_N_17 rfl) hI_N_17 hk_13 hG_N_44 rfl) hI_N_44 hk_13 hG_N_75 rfl) hI_N_75 hk_13 hG_N_116 rfl) hI_N_116 hk_13 hG_N_134 rfl) hI_N_134 hk_13 hG_N_173 rfl) hI_N_173 hk_13 hG_N_191 rfl) hI_N_191 hk_13 hG_N_244 rfl) hI_N_244 hk_13 hG_N_304 rfl)) hk_13 rfl rfl rfl ⟨by decide, by decide⟩ rfl rfl (Nat.le_of_ble_eq_true rfl) dX1_takeRule_150 rfl ?_
                            intro r_312 N_313 q_314
                            obtain ⟨rfl, q_314c⟩ := q_314
                            rcases q_314c with q_314c | q_314c
                            · have hq_315 : (rq q b r_65 (N_75 c0 9) (N_134 c0 9) (N_244 c0 9)) = (rq q b (lfn Bt t (q 0) (q 1) (q 2) (j + 1)) (tv Bt (j + 2)) (tv Bt (j + 3)) (tv Bt (j + 5))) := rq_cg (by omega) (by omega) (by omega) (by omega)
                              refine kx_iconst 154 F dX1_takeRule_153 rfl ?_
                              refine kx_icmp_eq 157 F 163 dX1_takeRule_154 (by decide) rfl (by omega) (by decide) (fun h_316 => (by exfalso; omega)) (fun h_316 => ?_)
                              refine kx_aload_n 158 F 0 dX1_takeRule_157 rfl rfl rfl ?_
                              refine kx_iconst 159 F dX1_takeRule_158 rfl ?_
                              refine kx_Vi 162 (ci := 0) F (As := [vI 5]) (st := []) vd_X1_89 (e_X1_fail G l N_304 c0 5 hI_N_304 hk_c0 (by omega)) hk_c0 rfl rfl rfl ⟨by decide, by decide⟩ rfl rfl (Nat.le_of_ble_eq_true rfl) dX1_takeRule_159 rfl ?_
                              intro r_317 N_318 q_319
                              obtain ⟨hI_N_318, hG_N_318, q_319c⟩ := q_319
                              have hF_N_318 : Fr f_e_X1_takeRule M N_318 := Fr.c hF_N_304 hG_N_318 rfl
                              have hE_N_318 : Cf (SL (M c0 0) (q 3 - 1)) M N_318 := Cf.fr hE_N_304 hG_N_318 rfl
                              have h_320 := Inv.g hI_N_318 hk_c0 rfl 2 (a := (-2147483648)) (b := 2147483647) rfl rfl
                              have e_321 : (N_304 c0 7) = (N_244 c0 7) := by rw [Fr.e hG_N_304 hk_c0 _ rfl]
                              have h_322 := Inv.g hI_N_318 hk_c0 rfl 3 (a := (-2147483648)) (b := 2147483647) rfl rfl
                              exact kx_zret F hQ (by omega) ⟨hI_N_318, hF_N_318, (by omega), hE_N_318, ⟨(j + 6), (tv Bt (j + 5)), (Or.inr ⟨(Or.inr (Or.inr (Or.inr (Or.inr (Or.inr (Or.inr (Or.inr (Or.inr (Or.inr (Or.inr (Or.inr (Or.inr (Or.inr (Or.inr (Or.inr (Or.inr (Or.inl (by omega)))))))))))))))))), (Or.inr (Or.inr (Or.inl (by omega))))⟩), (fun h => absurd h (by omega))⟩⟩ dX1_takeRule_162
                            · have hq_323 : (rq q b r_65 (N_75 c0 9) (N_134 c0 9) (N_244 c0 9)) = (rq q b (lfn Bt t (q 0) (q 1) (q 2) (j + 1)) (tv Bt (j + 2)) (tv Bt (j + 3)) (tv Bt (j + 5))) := rq_cg (by omega) (by omega) (by omega) (by omega)
                              refine kx_iconst 154 F dX1_takeRule_153 rfl ?_
                              refine kx_icmp_eq 157 F 163 dX1_takeRule_154 (by decide) rfl (by omega) (by decide) (fun h_324 => ?_) (fun h_324 => (by exfalso; omega))
                              refine kx_aload_n 164 F 1 dX1_takeRule_163 rfl rfl rfl ?_
                              refine kx_iload_n 165 F 2 dX1_takeRule_164 rfl rfl rfl ?_
                              refine kx_iload_n 166 F 3 dX1_takeRule_165 rfl rfl rfl ?_
                              refine kx_iload 168 F 4 dX1_takeRule_166 rfl rfl ?_
                              refine kx_aload_n 169 F 0 dX1_takeRule_168 rfl rfl rfl ?_
                              refine kx_geti 172 F fl_X1_127 hk_c0 rfl rfl (j := 9) rfl dX1_takeRule_169 (v := (N_244 c0 9)) (by rw [Fr.e hG_N_304 hk_c0 _ rfl]) rfl ?_
                              have e_325 : (N_304 x 4) = (M x 4) := by rw [Fr.e hG_N_304 hk_13 _ rfl, Fr.e hG_N_244 hk_13 _ rfl, Fr.e hG_N_191 hk_13 _ rfl, Fr.e hG_N_173 hk_13 _ rfl, Fr.e hG_N_134 hk_13 _ rfl, Fr.e hG_N_116 hk_13 _ rfl, Fr.e hG_N_75 hk_13 _ rfl, Fr.e hG_N_44 hk_13 _ rfl, Fr.e hG_N_17 hk_13 _ rfl]
                              refine kx_Vv 175 (ci := 0) F (As := [vI r_65, vI (N_75 c0 9), vI (N_134 c0 9), vI (N_244 c0 9)]) (st := []) vd_X1_169 (e_X0_append G l N_304 x r_65 (N_75 c0 9) (N_134 c0 9) (N_244 c0 9) hI_N_304 hk_13 (by omega) q b (AT.fr (AT.fr (AT.fr (AT.fr (AT.fr (AT.fr (AT.fr (AT.fr (AT.fr hA1 hI_M hk_13 hG_N_17 rfl) hI_N_17 hk_13 hG_N_44 rfl) hI_N_44 hk_13 hG_N_75 rfl) hI_N_75 hk_13 hG_N_116 rfl) hI_N_116 hk_13 hG_N_134 rfl) hI_N_134 hk_13 hG_N_173 rfl) hI_N_173 hk_13 hG_N_191 rfl) hI_N_191 hk_13 hG_N_244 rfl) hI_N_244 hk_13 hG_N_304 rfl) (by omega)) hk_13 rfl rfl rfl ⟨by decide, by decide⟩ rfl rfl (Nat.le_of_ble_eq_true rfl) dX1_takeRule_172 rfl ?_
                              intro N_326 q_327
                              obtain ⟨hI_N_326, hG_N_326, hC_N_326, hA_N_326⟩ := q_327
                              have hF_N_326 : Fr f_e_X1_takeRule M N_326 := Fr.c hF_N_304 hG_N_326 rfl
                              have hE_N_326 : Cf (SL (M c0 0) (q 3 - 1)) M N_326 := Cf.c hE_N_304 hC_N_326 (fun y hy => Or.inr (by have a := SA.in hy (FZ.fr hZ hF_N_304 rfl) hk_13; have b := hZ.2.1 (M c0 0) hk_6; omega))
                              refine kx_iconst 176 F dX1_takeRule_175 rfl ?_
                              have e_328 : (N_326 c0 2) = (N_304 c0 2) := by rw [Fr.e hG_N_326 hk_c0 _ rfl]
                              have e_329 : (N_326 c0 3) = (N_304 c0 3) := by rw [Fr.e hG_N_326 hk_c0 _ rfl]
                              have e_414 : (N_326 c0 0) = (M c0 0) := by rw [Fr.e hG_N_326 hk_c0 _ rfl, Fr.e hG_N_304 hk_c0 _ rfl, Fr.e hG_N_244 hk_c0 _ rfl, Fr.e hG_N_191 hk_c0 _ rfl, Fr.e hG_N_173 hk_c0 _ rfl, Fr.e hG_N_134 hk_c0 _ rfl, Fr.e hG_N_116 hk_c0 _ rfl, Fr.e hG_N_75 hk_c0 _ rfl, Fr.e hG_N_44 hk_c0 _ rfl, Fr.e hG_N_17 hk_c0 _ rfl]
                              have e_415 : (N_326 c0 9) = (N_244 c0 9) := by rw [Fr.e hG_N_326 hk_c0 _ rfl, Fr.e hG_N_304 hk_c0 _ rfl]
                              have e_416 : (N_326 (M c0 0) 0) = (M (M c0 0) 0) := by rw [Fr.e hG_N_326 hk_6 _ rfl, Fr.e hG_N_304 hk_6 _ rfl, Fr.e hG_N_244 hk_6 _ rfl, Fr.e hG_N_191 hk_6 _ rfl, Fr.e hG_N_173 hk_6 _ rfl, Fr.e hG_N_134 hk_6 _ rfl, Fr.e hG_N_116 hk_6 _ rfl, Fr.e hG_N_75 hk_6 _ rfl, Fr.e hG_N_44 hk_6 _ rfl, Fr.e hG_N_17 hk_6 _ rfl]
                              have e_417 : (N_326 (M c0 0) 1) = (M (M c0 0) 1) := by rw [Fr.e hG_N_326 hk_6 _ rfl, Fr.e hG_N_304 hk_6 _ rfl, Fr.e hG_N_244 hk_6 _ rfl, Fr.e hG_N_191 hk_6 _ rfl, Fr.e hG_N_173 hk_6 _ rfl, Fr.e hG_N_134 hk_6 _ rfl, Fr.e hG_N_116 hk_6 _ rfl, Fr.e hG_N_75 hk_6 _ rfl, Fr.e hG_N_44 hk_6 _ rfl, Fr.e hG_N_17 hk_6 _ rfl]
                              have e_418 : (N_326 (M c0 0) 2) = (M (M c0 0) 2) := by rw [Fr.e hG_N_326 hk_6 _ rfl, Fr.e hG_N_304 hk_6 _ rfl, Fr.e hG_N_244 hk_6 _ rfl, Fr.e hG_N_191 hk_6 _ rfl, Fr.e hG_N_173 hk_6 _ rfl, Fr.e hG_N_134 hk_6 _ rfl, Fr.e hG_N_116 hk_6 _ rfl, Fr.e hG_N_75 hk_6 _ rfl, Fr.e hG_N_44 hk_6 _ rfl, Fr.e hG_N_17 hk_6 _ rfl]
                              have e_419 : (N_326 (M c0 0) 3) = (M (M c0 0) 3) := by rw [Fr.e hG_N_326 hk_6 _ rfl, Fr.e hG_N_304 hk_6 _ rfl, Fr.e hG_N_244 hk_6 _ rfl, Fr.e hG_N_191 hk_6 _ rfl, Fr.e hG_N_173 hk_6 _ rfl, Fr.e hG_N_134 hk_6 _ rfl, Fr.e hG_N_116 hk_6 _ rfl, Fr.e hG_N_75 hk_6 _ rfl, Fr.e hG_N_44 hk_6 _ rfl, Fr.e hG_N_17 hk_6 _ rfl]
                              have e_422 : (N_326 c0 6) = (N_244 c0 6) := by rw [Fr.e hG_N_326 hk_c0 _ rfl, Fr.e hG_N_304 hk_c0 _ rfl]
                              have e_423 : (N_326 c0 7) = (N_244 c0 7) := by rw [Fr.e hG_N_326 hk_c0 _ rfl, Fr.e hG_N_304 hk_c0 _ rfl]
                              have e_424 : (N_326 c0 8) = (N_244 c0 8) := by rw [Fr.e hG_N_326 hk_c0 _ rfl, Fr.e hG_N_304 hk_c0 _ rfl]
                              exact kx_zret F hQ (by omega) ⟨hI_N_326, hF_N_326, (by omega), hE_N_326, ⟨(j + 6), (tv Bt (j + 5)), (Or.inr ⟨(Or.inr (Or.inr (Or.inr (Or.inr (Or.inr (Or.inr (Or.inr (Or.inr (Or.inr (Or.inr (Or.inr (Or.inr (Or.inr (Or.inr (Or.inr (Or.inr (Or.inl (by omega)))))))))))))))))), (Or.inr (Or.inr (Or.inr ((by omega)))))⟩), (fun _ => ⟨⟨by omega, by omega, by omega, by omega, by omega⟩, (CQ.cg (q' := (uprul q b (lfn Bt t (q 0) (q 1) (q 2) (j + 1)) (tv Bt (j + 2)) (tv Bt (j + 3)) (tv Bt (j + 5)))) hq (by rw [Fr.e hG_N_326 hk_c0 _ rfl, Fr.e hG_N_304 hk_c0 _ rfl, Fr.e hG_N_244 hk_c0 _ rfl, Fr.e hG_N_191 hk_c0 _ rfl, Fr.e hG_N_173 hk_c0 _ rfl, Fr.e hG_N_134 hk_c0 _ rfl, Fr.e hG_N_116 hk_c0 _ rfl, Fr.e hG_N_75 hk_c0 _ rfl, Fr.e hG_N_44 hk_c0 _ rfl, Fr.e hG_N_17 hk_c0 _ rfl]) (by omega) (by omega) (by omega) (by rw [uprul_l (by omega) (by omega)]; omega) (uprul_l (by omega) (by omega)) (uprul_l (by omega) (by omega)) (uprul_l (by omega) (by omega)) (by rw [uprul_l (by omega) (by omega)]; omega)), (NU.cg (NU.fr (NU.fr (NU.fr (NU.fr (NU.fr (NU.fr (NU.fr (NU.fr (NU.fr (NU.fr hN hI_M hk_c0 hG_N_17 rfl) hI_N_17 hk_c0 hG_N_44 rfl) hI_N_44 hk_c0 hG_N_75 rfl) hI_N_75 hk_c0 hG_N_116 rfl) hI_N_116 hk_c0 hG_N_134 rfl) hI_N_134 hk_c0 hG_N_173 rfl) hI_N_173 hk_c0 hG_N_191 rfl) hI_N_191 hk_c0 hG_N_244 rfl) hI_N_244 hk_c0 hG_N_304 rfl) hI_N_304 hk_c0 hG_N_326 rfl) (uprul_l (by omega) (by omega)) (uprul_l (by omega) (by omega)) (uprul_l (by omega) (by omega))), (CA.set (x := x) (b := b) hA hx hZ hI_M hk_6 hE_N_326 (by rw [Fr.e hG_N_326 hk_c0 _ rfl, Fr.e hG_N_304 hk_c0 _ rfl, Fr.e hG_N_244 hk_c0 _ rfl, Fr.e hG_N_191 hk_c0 _ rfl, Fr.e hG_N_173 hk_c0 _ rfl, Fr.e hG_N_134 hk_c0 _ rfl, Fr.e hG_N_116 hk_c0 _ rfl, Fr.e hG_N_75 hk_c0 _ rfl, Fr.e hG_N_44 hk_c0 _ rfl, Fr.e hG_N_17 hk_c0 _ rfl]) (by rw [Fr.e hG_N_326 hk_6 _ rfl, Fr.e hG_N_304 hk_6 _ rfl, Fr.e hG_N_244 hk_6 _ rfl, Fr.e hG_N_191 hk_6 _ rfl, Fr.e hG_N_173 hk_6 _ rfl, Fr.e hG_N_134 hk_6 _ rfl, Fr.e hG_N_116 hk_6 _ rfl, Fr.e hG_N_75 hk_6 _ rfl, Fr.e hG_N_44 hk_6 _ rfl, Fr.e hG_N_17 hk_6 _ rfl]) (by rw [Fr.e hG_N_326 hk_6 _ rfl, Fr.e hG_N_304 hk_6 _ rfl, Fr.e hG_N_244 hk_6 _ rfl, Fr.e hG_N_191 hk_6 _ rfl, Fr.e hG_N_173 hk_6 _ rfl, Fr.e hG_N_134 hk_6 _ rfl, Fr.e hG_N_116 hk_6 _ rfl, Fr.e hG_N_75 hk_6 _ rfl, Fr.e hG_N_44 hk_6 _ rfl, Fr.e hG_N_17 hk_6 _ rfl]) (by have ha := hA_N_326; rw [show r_65 = (lfn Bt t (q 0) (q 1) (q 2) (j + 1)) by omega, show (N_75 c0 9) = (tv Bt (j + 2)) by omega, show (N_134 c0 9) = (tv Bt (j + 3)) by omega, show (N_244 c0 9) = (tv Bt (j + 5)) by omega] at ha; exact ha) (fun k hk => uprul_l (by omega) (by omega)) hr)⟩)⟩⟩ dX1_takeRule_176
                          · refine kx_if_ne 139 F 141 dX1_takeRule_136 (by decide) rfl (by omega) (fun h_425 => (by exfalso; omega)) (fun h_425 => ?_)
                            refine kx_iconst 140 F dX1_takeRule_139 rfl ?_
                            exact kx_zret F hQ (by omega) ⟨hI_N_304, hF_N_304, (by omega), hE_N_304, ⟨(j + 6), (tv Bt (j + 5)), (Or.inr ⟨(Or.inr (Or.inr (Or.inr (Or.inr (Or.inr (Or.inr (Or.inr (Or.inr (Or.inr (Or.inr (Or.inr (Or.inr (Or.inr (Or.inr (Or.inr (Or.inr (Or.inl (by omega)))))))))))))))))), (Or.inr (Or.inl (by omega)))⟩), (fun h => absurd h (by omega))⟩⟩ dX1_takeRule_140
                        · exfalso; omega
                        · exfalso; omega
                        · exfalso; omega
                        · exfalso; omega
                        · exfalso; omega
                        · exfalso; omega
                        · exfalso; omega
                        · exfalso; omega
                      · have e_426 : (N_191 c0 0) = (M c0 0) := by rw [Fr.e hG_N_191 hk_c0 _ rfl, Fr.e hG_N_173 hk_c0 _ rfl, Fr.e hG_N_134 hk_c0 _ rfl, Fr.e hG_N_116 hk_c0 _ rfl, Fr.e hG_N_75 hk_c0 _ rfl, Fr.e hG_N_44 hk_c0 _ rfl, Fr.e hG_N_17 hk_c0 _ rfl]
                        have e_427 : (N_191 (N_191 c0 0) 3) = (M (M c0 0) 3) := by rw [e_426, Fr.e hG_N_191 hk_6 _ rfl, Fr.e hG_N_173 hk_6 _ rfl, Fr.e hG_N_134 hk_6 _ rfl, Fr.e hG_N_116 hk_6 _ rfl, Fr.e hG_N_75 hk_6 _ rfl, Fr.e hG_N_44 hk_6 _ rfl, Fr.e hG_N_17 hk_6 _ rfl]
                        have e_428 : N_191 (N_191 c0 0) 4 = M (M c0 0) 4 := by rw [Fr.e hG_N_191 hk_c0 _ rfl, Fr.e hG_N_173 hk_c0 _ rfl, Fr.e hG_N_134 hk_c0 _ rfl, Fr.e hG_N_116 hk_c0 _ rfl, Fr.e hG_N_75 hk_c0 _ rfl, Fr.e hG_N_44 hk_c0 _ rfl, Fr.e hG_N_17 hk_c0 _ rfl, Fr.e hG_N_191 hk_6 _ rfl, Fr.e hG_N_173 hk_6 _ rfl, Fr.e hG_N_134 hk_6 _ rfl, Fr.e hG_N_116 hk_6 _ rfl, Fr.e hG_N_75 hk_6 _ rfl, Fr.e hG_N_44 hk_6 _ rfl, Fr.e hG_N_17 hk_6 _ rfl]
                        have e_429 : N_191 (N_191 c0 0) 5 = M (M c0 0) 5 := by rw [Fr.e hG_N_191 hk_c0 _ rfl, Fr.e hG_N_173 hk_c0 _ rfl, Fr.e hG_N_134 hk_c0 _ rfl, Fr.e hG_N_116 hk_c0 _ rfl, Fr.e hG_N_75 hk_c0 _ rfl, Fr.e hG_N_44 hk_c0 _ rfl, Fr.e hG_N_17 hk_c0 _ rfl, Fr.e hG_N_191 hk_6 _ rfl, Fr.e hG_N_173 hk_6 _ rfl, Fr.e hG_N_134 hk_6 _ rfl, Fr.e hG_N_116 hk_6 _ rfl, Fr.e hG_N_75 hk_6 _ rfl, Fr.e hG_N_44 hk_6 _ rfl, Fr.e hG_N_17 hk_6 _ rfl]
                        have e_430 : (N_191 x 1) = (M x 1) := by rw [Fr.e hG_N_191 hk_13 _ rfl, Fr.e hG_N_173 hk_13 _ rfl, Fr.e hG_N_134 hk_13 _ rfl, Fr.e hG_N_116 hk_13 _ rfl, Fr.e hG_N_75 hk_13 _ rfl, Fr.e hG_N_44 hk_13 _ rfl, Fr.e hG_N_17 hk_13 _ rfl]
                        have h_431 := Inv.g hI_M hk_13 rfl 1 (a := 0) (b := 3) rfl rfl
                        refine kx_Vi 129 (ci := 0) F (As := [vI r_216]) (st := []) vd_X1_162 (e_X1_takeSymbol G l N_191 c0 r_216 hI_N_191 hk_c0 (by omega) Bt (TB.fr hB hI_M hk_c0 hF_N_191 rfl) (j + 4) (by omega) (by omega) x (q (b + 1)) hkx (by omega) (by omega) (by omega) (j + 5) (j + 6) (by omega) (by omega)) hk_c0 rfl rfl rfl ⟨by decide, by decide⟩ rfl rfl (Nat.le_of_ble_eq_true rfl) dX1_takeRule_126 rfl ?_
                        intro r_432 N_433 q_434
                        obtain ⟨hI_N_433, hG_N_433, q_434c⟩ := q_434
                        have hF_N_433 : Fr f_e_X1_takeRule M N_433 := Fr.c hF_N_191 hG_N_433 rfl
                        have hE_N_433 : Cf (SL (M c0 0) (q 3 - 1)) M N_433 := Cf.fr hE_N_191 hG_N_433 rfl
                        have h_435 := Inv.g hI_N_433 hk_c0 rfl 9 (a := (-2147483648)) (b := 2147483647) rfl rfl
                        have h_436 := Inv.g hI_N_433 hk_c0 rfl 6 (a := 0) (b := 5) rfl rfl
                        have h_437 := Inv.g hI_N_433 hk_c0 rfl 7 (a := 0) (b := 900) rfl rfl
                        have h_438 := Inv.g hI_N_433 hk_c0 rfl 8 (a := 0) (b := 900) rfl rfl
                        have h_439 := Inv.g hI_N_433 hk_c0 rfl 2 (a := (-2147483648)) (b := 2147483647) rfl rfl
                        have h_440 := Inv.g hI_N_433 hk_c0 rfl 3 (a := (-2147483648)) (b := 2147483647) rfl rfl
                        rcases q_434c with q_434c | q_434c | q_434c | q_434c | q_434c | q_434c | q_434c | q_434c | q_434c | q_434c | q_434c | q_434c | q_434c | q_434c | q_434c
                        · exfalso; omega
                        · exfalso; omega
                        · exfalso; omega
                        · exfalso; omega
                        · exfalso; omega
                        · exfalso; omega
                        · exfalso; omega
                        · refine kx_if_eq 132 F 139 dX1_takeRule_129 (by decide) rfl (by omega) (fun h_483 => ?_) (fun h_483 => (by exfalso; omega))
                          refine kx_iconst 140 F dX1_takeRule_139 rfl ?_
                          exact kx_zret F hQ (by omega) ⟨hI_N_433, hF_N_433, (by omega), hE_N_433, ⟨(j + 4), (-1), (Or.inl ⟨by omega, (Or.inr (Or.inr (Or.inr (Or.inr (Or.inr (Or.inr (Or.inr (Or.inr (Or.inr (Or.inr (Or.inr (Or.inr (Or.inr (Or.inr (Or.inr (Or.inr (Or.inr (Or.inr (Or.inl (by omega))))))))))))))))))))⟩), (fun h => absurd h (by omega))⟩⟩ dX1_takeRule_140
                        · refine kx_if_eq 132 F 139 dX1_takeRule_129 (by decide) rfl (by omega) (fun h_484 => ?_) (fun h_484 => (by exfalso; omega))
                          refine kx_iconst 140 F dX1_takeRule_139 rfl ?_
                          exact kx_zret F hQ (by omega) ⟨hI_N_433, hF_N_433, (by omega), hE_N_433, ⟨(j + 4), (-1), (Or.inl ⟨by omega, (Or.inr (Or.inr (Or.inr (Or.inr (Or.inr (Or.inr (Or.inr (Or.inr (Or.inr (Or.inr (Or.inr (Or.inr (Or.inr (Or.inr (Or.inr (Or.inr (Or.inr (Or.inr (Or.inr (Or.inl (by omega)))))))))))))))))))))⟩), (fun h => absurd h (by omega))⟩⟩ dX1_takeRule_140
                        · refine kx_if_eq 132 F 139 dX1_takeRule_129 (by decide) rfl (by omega) (fun h_485 => ?_) (fun h_485 => (by exfalso; omega))
                          refine kx_iconst 140 F dX1_takeRule_139 rfl ?_
                          exact kx_zret F hQ (by omega) ⟨hI_N_433, hF_N_433, (by omega), hE_N_433, ⟨(j + 4), (-1), (Or.inl ⟨by omega, (Or.inr (Or.inr (Or.inr (Or.inr (Or.inr (Or.inr (Or.inr (Or.inr (Or.inr (Or.inr (Or.inr (Or.inr (Or.inr (Or.inr (Or.inr (Or.inr (Or.inr (Or.inr (Or.inr (Or.inr (Or.inl (by omega))))))))))))))))))))))⟩), (fun h => absurd h (by omega))⟩⟩ dX1_takeRule_140
                        · refine kx_if_eq 132 F 139 dX1_takeRule_129 (by decide) rfl (by omega) (fun h_486 => ?_) (fun h_486 => (by exfalso; omega))
                          refine kx_iconst 140 F dX1_takeRule_139 rfl ?_
                          exact kx_zret F hQ (by omega) ⟨hI_N_433, hF_N_433, (by omega), hE_N_433, ⟨(j + 4), (-1), (Or.inl ⟨by omega, (Or.inr (Or.inr (Or.inr (Or.inr (Or.inr (Or.inr (Or.inr (Or.inr (Or.inr (Or.inr (Or.inr (Or.inr (Or.inr (Or.inr (Or.inr (Or.inr (Or.inr (Or.inr (Or.inr (Or.inr (Or.inr (Or.inl (by omega)))))))))))))))))))))))⟩), (fun h => absurd h (by omega))⟩⟩ dX1_takeRule_140
                        · refine kx_if_eq 132 F 139 dX1_takeRule_129 (by decide) rfl (by omega) (fun h_487 => ?_) (fun h_487 => (by exfalso; omega))
                          refine kx_iconst 140 F dX1_takeRule_139 rfl ?_
                          exact kx_zret F hQ (by omega) ⟨hI_N_433, hF_N_433, (by omega), hE_N_433, ⟨(j + 6), (tv Bt (j + 5)), (Or.inr ⟨(Or.inr (Or.inr (Or.inr (Or.inr (Or.inr (Or.inr (Or.inr (Or.inr (Or.inr (Or.inr (Or.inr (Or.inr (Or.inr (Or.inr (Or.inr (Or.inr (Or.inr (Or.inr (Or.inr (Or.inr (Or.inr (Or.inr (Or.inl (by omega)))))))))))))))))))))))), (Or.inl (by omega))⟩), (fun h => absurd h (by omega))⟩⟩ dX1_takeRule_140
                        · have ht_488 := tp_le (n := M c0 5) (TB.tx hB hI_M hk_c0) (Inv.g hI_M hk_c0 rfl 5 (a := 0) (b := 900) rfl rfl).1 (j := (j + 6)) (by omega)
                          have ht_490 : 0 ≤ tk Bt (j + 6) ∧ tk Bt (j + 6) ≤ 4 := tk_b (n := M c0 5) (TB.tx hB hI_M hk_c0) (by omega)
                          refine kx_if_eq 132 F 139 dX1_takeRule_129 (by decide) rfl (by omega) (fun h_491 => (by exfalso; omega)) (fun h_491 => ?_)
                          refine kx_aload_n 133 F 0 dX1_takeRule_132 rfl rfl rfl ?_
                          refine kx_Vi 136 (ci := 0) F (As := []) (st := []) vd_X1_120 (e_X1_standsSign G l N_433 c0 hI_N_433 hk_c0 Bt (TB.fr hB hI_M hk_c0 hF_N_433 rfl) (j + 6) (by omega) (by omega)) hk_c0 rfl rfl rfl ⟨by decide, by decide⟩ rfl rfl (Nat.le_of_ble_eq_true rfl) dX1_takeRule_133 rfl ?_
                          intro r_492 N_493 q_494
                          obtain ⟨hI_N_493, hG_N_493, q_494c⟩ := q_494
                          have hF_N_493 : Fr f_e_X1_takeRule M N_493 := Fr.c hF_N_433 hG_N_493 rfl
                          have hE_N_493 : Cf (SL (M c0 0) (q 3 - 1)) M N_493 := Cf.fr hE_N_433 hG_N_493 rfl
                          have h_495 := Inv.g hI_N_493 hk_c0 rfl 2 (a := (-2147483648)) (b := 2147483647) rfl rfl
                          have h_496 := Inv.g hI_N_493 hk_c0 rfl 3 (a := (-2147483648)) (b := 2147483647) rfl rfl
                          rcases q_494c with q_494c | q_494c
                          · refine kx_if_ne 139 F 141 dX1_takeRule_136 (by decide) rfl (by omega) (fun h_499 => ?_) (fun h_499 => (by exfalso; omega))
                            have e_500 : (N_493 c0 9) = (N_433 c0 9) := by rw [Fr.e hG_N_493 hk_c0 _ rfl]
                            refine kx_aload_n 142 F 1 dX1_takeRule_141 rfl rfl rfl ?_
                            refine kx_iload_n 143 F 2 dX1_takeRule_142 rfl rfl rfl ?_
                            refine kx_iload_n 144 F 3 dX1_takeRule_143 rfl rfl rfl ?_
                            refine kx_iload 146 F 4 dX1_takeRule_144 rfl rfl ?_
                            refine kx_aload_n 147 F 0 dX1_takeRule_146 rfl rfl rfl ?_
                            refine kx_geti 150 F fl_X1_127 hk_c0 rfl rfl (j := 9) rfl dX1_takeRule_147 (v := (N_433 c0 9)) (by rw [Fr.e hG_N_493 hk_c0 _ rfl]) rfl ?_
                            refine kx_Vi 153 (ci := 0) F (As := [vI r_65, vI (N_75 c0 9), vI (N_134 c0 9), vI (N_433 c0 9)]) (st := []) vd_X1_165 (e_X0_find G l N_493 x r_65 (N_75 c0 9) (N_134 c0 9) (N_433 c0 9) hI_N_493 hk_13 (by omega) q b (AT.fr (AT.fr (AT.fr (AT.fr (AT.fr (AT.fr (AT.fr (AT.fr (AT.fr hA1 hI_M hk_13 hG_N_17 rfl) hI_N_17 hk_13 hG_N_44 rfl) hI_N_44 hk_13 hG_N_75 rfl) hI_N_75 hk_13 hG_N_116 rfl) hI_N_116 hk_13 hG_N_134 rfl) hI_N_134 hk_13 hG_N_173 rfl) hI_N_173 hk_13 hG_N_191 rfl) hI_N_191 hk_13 hG_N_433 rfl) hI_N_433 hk_13 hG_N_493 rfl)) hk_13 rfl rfl rfl ⟨by decide, by decide⟩ rfl rfl (Nat.le_of_ble_eq_true rfl) dX1_takeRule_150 rfl ?_
                            intro r_501 N_502 q_503
                            obtain ⟨rfl, q_503c⟩ := q_503
                            rcases q_503c with q_503c | q_503c
                            · have hq_504 : (rq q b r_65 (N_75 c0 9) (N_134 c0 9) (N_433 c0 9)) = (rq q b (lfn Bt t (q 0) (q 1) (q 2) (j + 1)) (tv Bt (j + 2)) (tv Bt (j + 3)) (tv Bt (j + 5))) := rq_cg (by omega) (by omega) (by omega) (by omega)
                              refine kx_iconst 154 F dX1_takeRule_153 rfl ?_
                              refine kx_icmp_eq 157 F 163 dX1_takeRule_154 (by decide) rfl (by omega) (by decide) (fun h_505 => (by exfalso; omega)) (fun h_505 => ?_)
                              refine kx_aload_n 158 F 0 dX1_takeRule_157 rfl rfl rfl ?_
                              refine kx_iconst 159 F dX1_takeRule_158 rfl ?_
                              refine kx_Vi 162 (ci := 0) F (As := [vI 5]) (st := []) vd_X1_89 (e_X1_fail G l N_493 c0 5 hI_N_493 hk_c0 (by omega)) hk_c0 rfl rfl rfl ⟨by decide, by decide⟩ rfl rfl (Nat.le_of_ble_eq_true rfl) dX1_takeRule_159 rfl ?_
                              intro r_506 N_507 q_508
                              obtain ⟨hI_N_507, hG_N_507, q_508c⟩ := q_508
                              have hF_N_507 : Fr f_e_X1_takeRule M N_507 := Fr.c hF_N_493 hG_N_507 rfl
                              have hE_N_507 : Cf (SL (M c0 0) (q 3 - 1)) M N_507 := Cf.fr hE_N_493 hG_N_507 rfl
                              have h_509 := Inv.g hI_N_507 hk_c0 rfl 2 (a := (-2147483648)) (b := 2147483647) rfl rfl
                              have e_510 : (N_493 c0 7) = (N_433 c0 7) := by rw [Fr.e hG_N_493 hk_c0 _ rfl]
                              have h_511 := Inv.g hI_N_507 hk_c0 rfl 3 (a := (-2147483648)) (b := 2147483647) rfl rfl
                              exact kx_zret F hQ (by omega) ⟨hI_N_507, hF_N_507, (by omega), hE_N_507, ⟨(j + 6), (tv Bt (j + 5)), (Or.inr ⟨(Or.inr (Or.inr (Or.inr (Or.inr (Or.inr (Or.inr (Or.inr (Or.inr (Or.inr (Or.inr (Or.inr (Or.inr (Or.inr (Or.inr (Or.inr (Or.inr (Or.inr (Or.inr (Or.inr (Or.inr (Or.inr (Or.inr (Or.inl (by omega)))))))))))))))))))))))), (Or.inr (Or.inr (Or.inl (by omega))))⟩), (fun h => absurd h (by omega))⟩⟩ dX1_takeRule_162
                            · have hq_512 : (rq q b r_65 (N_75 c0 9) (N_134 c0 9) (N_433 c0 9)) = (rq q b (lfn Bt t (q 0) (q 1) (q 2) (j + 1)) (tv Bt (j + 2)) (tv Bt (j + 3)) (tv Bt (j + 5))) := rq_cg (by omega) (by omega) (by omega) (by omega)
                              refine kx_iconst 154 F dX1_takeRule_153 rfl ?_
                              refine kx_icmp_eq 157 F 163 dX1_takeRule_154 (by decide) rfl (by omega) (by decide) (fun h_513 => ?_) (fun h_513 => (by exfalso; omega))
                              refine kx_aload_n 164 F 1 dX1_takeRule_163 rfl rfl rfl ?_
                              refine kx_iload_n 165 F 2 dX1_takeRule_164 rfl rfl rfl ?_
                              refine kx_iload_n 166 F 3 dX1_takeRule_165 rfl rfl rfl ?_
                              refine kx_iload 168 F 4 dX1_takeRule_166 rfl rfl ?_
                              refine kx_aload_n 169 F 0 dX1_takeRule_168 rfl rfl rfl ?_
                              refine kx_geti 172 F fl_X1_127 hk_c0 rfl rfl (j := 9) rfl dX1_takeRule_169 (v := (N_433 c0 9)) (by rw [Fr.e hG_N_493 hk_c0 _ rfl]) rfl ?_
                              have e_514 : (N_493 x 4) = (M x 4) := by rw [Fr.e hG_N_493 hk_13 _ rfl, Fr.e hG_N_433 hk_13 _ rfl, Fr.e hG_N_191 hk_13 _ rfl, Fr.e hG_N_173 hk_13 _ rfl, Fr.e hG_N_134 hk_13 _ rfl, Fr.e hG_N_116 hk_13 _ rfl, Fr.e hG_N_75 hk_13 _ rfl, Fr.e hG_N_44 hk_13 _ rfl, Fr.e hG_N_17 hk_13 _ rfl]
                              refine kx_Vv 175 (ci := 0) F (As := [vI r_65, vI (N_75 c0 9), vI (N_134 c0 9), vI (N_433 c0 9)]) (st := []) vd_X1_169 (e_X0_append G l N_493 x r_65 (N_75 c0 9) (N_134 c0 9) (N_433 c0 9) hI_N_493 hk_13 (by omega) q b (AT.fr (AT.fr (AT.fr (AT.fr (AT.fr (AT.fr (AT.fr (AT.fr (AT.fr hA1 hI_M hk_13 hG_N_17 rfl) hI_N_17 hk_13 hG_N_44 rfl) hI_N_44 hk_13 hG_N_75 rfl) hI_N_75 hk_13 hG_N_116 rfl) hI_N_116 hk_13 hG_N_134 rfl) hI_N_134 hk_13 hG_N_173 rfl) hI_N_173 hk_13 hG_N_191 rfl) hI_N_191 hk_13 hG_N_433 rfl) hI_N_433 hk_13 hG_N_493 rfl) (by omega)) hk_13 rfl rfl rfl ⟨by decide, by decide⟩ rfl rfl (Nat.le_of_ble_eq_true rfl) dX1_takeRule_172 rfl ?_
                              intro N_515 q_516
                              obtain ⟨hI_N_515, hG_N_515, hC_N_515, hA_N_515⟩ := q_516
                              have hF_N_515 : Fr f_e_X1_takeRule M N_515 := Fr.c hF_N_493 hG_N_515 rfl
                              have hE_N_515 : Cf (SL (M c0 0) (q 3 - 1)) M N_515 := Cf.c hE_N_493 hC_N_515 (fun y hy => Or.inr (by have a := SA.in hy (FZ.fr hZ hF_N_493 rfl) hk_13; have b := hZ.2.1 (M c0 0) hk_6; omega))
                              refine kx_iconst 176 F dX1_takeRule_175 rfl ?_
                              have e_517 : (N_515 c0 2) = (N_493 c0 2) := by rw [Fr.e hG_N_515 hk_c0 _ rfl]
                              have e_518 : (N_515 c0 3) = (N_493 c0 3) := by rw [Fr.e hG_N_515 hk_c0 _ rfl]
                              have e_603 : (N_515 c0 0) = (M c0 0) := by rw [Fr.e hG_N_515 hk_c0 _ rfl, Fr.e hG_N_493 hk_c0 _ rfl, Fr.e hG_N_433 hk_c0 _ rfl, Fr.e hG_N_191 hk_c0 _ rfl, Fr.e hG_N_173 hk_c0 _ rfl, Fr.e hG_N_134 hk_c0 _ rfl, Fr.e hG_N_116 hk_c0 _ rfl, Fr.e hG_N_75 hk_c0 _ rfl, Fr.e hG_N_44 hk_c0 _ rfl, Fr.e hG_N_17 hk_c0 _ rfl]
                              have e_604 : (N_515 c0 9) = (N_433 c0 9) := by rw [Fr.e hG_N_515 hk_c0 _ rfl, Fr.e hG_N_493 hk_c0 _ rfl]
                              have e_605 : (N_515 (M c0 0) 0) = (M (M c0 0) 0) := by rw [Fr.e hG_N_515 hk_6 _ rfl, Fr.e hG_N_493 hk_6 _ rfl, Fr.e hG_N_433 hk_6 _ rfl, Fr.e hG_N_191 hk_6 _ rfl, Fr.e hG_N_173 hk_6 _ rfl, Fr.e hG_N_134 hk_6 _ rfl, Fr.e hG_N_116 hk_6 _ rfl, Fr.e hG_N_75 hk_6 _ rfl, Fr.e hG_N_44 hk_6 _ rfl, Fr.e hG_N_17 hk_6 _ rfl]
                              have e_606 : (N_515 (M c0 0) 1) = (M (M c0 0) 1) := by rw [Fr.e hG_N_515 hk_6 _ rfl, Fr.e hG_N_493 hk_6 _ rfl, Fr.e hG_N_433 hk_6 _ rfl, Fr.e hG_N_191 hk_6 _ rfl, Fr.e hG_N_173 hk_6 _ rfl, Fr.e hG_N_134 hk_6 _ rfl, Fr.e hG_N_116 hk_6 _ rfl, Fr.e hG_N_75 hk_6 _ rfl, Fr.e hG_N_44 hk_6 _ rfl, Fr.e hG_N_17 hk_6 _ rfl]
                              have e_607 : (N_515 (M c0 0) 2) = (M (M c0 0) 2) := by rw [Fr.e hG_N_515 hk_6 _ rfl, Fr.e hG_N_493 hk_6 _ rfl, Fr.e hG_N_433 hk_6 _ rfl, Fr.e hG_N_191 hk_6 _ rfl, Fr.e hG_N_173 hk_6 _ rfl, Fr.e hG_N_134 hk_6 _ rfl, Fr.e hG_N_116 hk_6 _ rfl, Fr.e hG_N_75 hk_6 _ rfl, Fr.e hG_N_44 hk_6 _ rfl, Fr.e hG_N_17 hk_6 _ rfl]
                              have e_608 : (N_515 (M c0 0) 3) = (M (M c0 0) 3) := by rw [Fr.e hG_N_515 hk_6 _ rfl, Fr.e hG_N_493 hk_6 _ rfl, Fr.e hG_N_433 hk_6 _ rfl, Fr.e hG_N_191 hk_6 _ rfl, Fr.e hG_N_173 hk_6 _ rfl, Fr.e hG_N_134 hk_6 _ rfl, Fr.e hG_N_116 hk_6 _ rfl, Fr.e hG_N_75 hk_6 _ rfl, Fr.e hG_N_44 hk_6 _ rfl, Fr.e hG_N_17 hk_6 _ rfl]
                              have e_611 : (N_515 c0 6) = (N_433 c0 6) := by rw [Fr.e hG_N_515 hk_c0 _ rfl, Fr.e hG_N_493 hk_c0 _ rfl]
                              have e_612 : (N_515 c0 7) = (N_433 c0 7) := by rw [Fr.e hG_N_515 hk_c0 _ rfl, Fr.e hG_N_493 hk_c0 _ rfl]
                              have e_613 : (N_515 c0 8) = (N_433 c0 8) := by rw [Fr.e hG_N_515 hk_c0 _ rfl, Fr.e hG_N_493 hk_c0 _ rfl]
                              exact kx_zret F hQ (by omega) ⟨hI_N_515, hF_N_515, (by omega), hE_N_515, ⟨(j + 6), (tv Bt (j + 5)), (Or.inr ⟨(Or.inr (Or.inr (Or.inr (Or.inr (Or.inr (Or.inr (Or.inr (Or.inr (Or.inr (Or.inr (Or.inr (Or.inr (Or.inr (Or.inr (Or.inr (Or.inr (Or.inr (Or.inr (Or.inr (Or.inr (Or.inr (Or.inr (Or.inl (by omega)))))))))))))))))))))))), (Or.inr (Or.inr (Or.inr ((by omega)))))⟩), (fun _ => ⟨⟨by omega, by omega, by omega, by omega, by omega⟩, (CQ.cg (q' := (uprul q b (lfn Bt t (q 0) (q 1) (q 2) (j + 1)) (tv Bt (j + 2)) (tv Bt (j + 3)) (tv Bt (j + 5)))) hq (by rw [Fr.e hG_N_515 hk_c0 _ rfl, Fr.e hG_N_493 hk_c0 _ rfl, Fr.e hG_N_433 hk_c0 _ rfl, Fr.e hG_N_191 hk_c0 _ rfl, Fr.e hG_N_173 hk_c0 _ rfl, Fr.e hG_N_134 hk_c0 _ rfl, Fr.e hG_N_116 hk_c0 _ rfl, Fr.e hG_N_75 hk_c0 _ rfl, Fr.e hG_N_44 hk_c0 _ rfl, Fr.e hG_N_17 hk_c0 _ rfl]) (by omega) (by omega) (by omega) (by rw [uprul_l (by omega) (by omega)]; omega) (uprul_l (by omega) (by omega)) (uprul_l (by omega) (by omega)) (uprul_l (by omega) (by omega)) (by rw [uprul_l (by omega) (by omega)]; omega)), (NU.cg (NU.fr (NU.fr (NU.fr (NU.fr (NU.fr (NU.fr (NU.fr (NU.fr (NU.fr (NU.fr hN hI_M hk_c0 hG_N_17 rfl) hI_N_17 hk_c0 hG_N_44 rfl) hI_N_44 hk_c0 hG_N_75 rfl) hI_N_75 hk_c0 hG_N_116 rfl) hI_N_116 hk_c0 hG_N_134 rfl) hI_N_134 hk_c0 hG_N_173 rfl) hI_N_173 hk_c0 hG_N_191 rfl) hI_N_191 hk_c0 hG_N_433 rfl) hI_N_433 hk_c0 hG_N_493 rfl) hI_N_493 hk_c0 hG_N_515 rfl) (uprul_l (by omega) (by omega)) (uprul_l (by omega) (by omega)) (uprul_l (by omega) (by omega))), (CA.set (x := x) (b := b) hA hx hZ hI_M hk_6 hE_N_515 (by rw [Fr.e hG_N_515 hk_c0 _ rfl, Fr.e hG_N_493 hk_c0 _ rfl, Fr.e hG_N_433 hk_c0 _ rfl, Fr.e hG_N_191 hk_c0 _ rfl, Fr.e hG_N_173 hk_c0 _ rfl, Fr.e hG_N_134 hk_c0 _ rfl, Fr.e hG_N_116 hk_c0 _ rfl, Fr.e hG_N_75 hk_c0 _ rfl, Fr.e hG_N_44 hk_c0 _ rfl, Fr.e hG_N_17 hk_c0 _ rfl]) (by rw [Fr.e hG_N_515 hk_6 _ rfl, Fr.e hG_N_493 hk_6 _ rfl, Fr.e hG_N_433 hk_6 _ rfl, Fr.e hG_N_191 hk_6 _ rfl, Fr.e hG_N_173 hk_6 _ rfl, Fr.e hG_N_134 hk_6 _ rfl, Fr.e hG_N_116 hk_6 _ rfl, Fr.e hG_N_75 hk_6 _ rfl, Fr.e hG_N_44 hk_6 _ rfl, Fr.e hG_N_17 hk_6 _ rfl]) (by rw [Fr.e hG_N_515 hk_6 _ rfl, Fr.e hG_N_493 hk_6 _ rfl, Fr.e hG_N_433 hk_6 _ rfl, Fr.e hG_N_191 hk_6 _ rfl, Fr.e hG_N_173 hk_6 _ rfl, Fr.e hG_N_134 hk_6 _ rfl, Fr.e hG_N_116 hk_6 _ rfl, Fr.e hG_N_75 hk_6 _ rfl, Fr.e hG_N_44 hk_6 _ rfl, Fr.e hG_N_17 hk_6 _ rfl]) (by have ha := hA_N_515; rw [show r_65 = (lfn Bt t (q 0) (q 1) (q 2) (j + 1)) by omega, show (N_75 c0 9) = (tv Bt (j + 2)) by omega, show (N_134 c0 9) = (tv Bt (j + 3)) by omega, show (N_433 c0 9) = (tv Bt (j + 5)) by omega] at ha; exact ha) (fun k hk => uprul_l (by omega) (by omega)) hr)⟩)⟩⟩ dX1_takeRule_176
                          · refine kx_if_ne 139 F 141 dX1_takeRule_136 (by decide) rfl (by omega) (fun h_614 => (by exfalso; omega)) (fun h_614 => ?_)
                            refine kx_iconst 140 F dX1_takeRule_139 rfl ?_
                            exact kx_zret F hQ (by omega) ⟨hI_N_493, hF_N_493, (by omega), hE_N_493, ⟨(j + 6), (tv Bt (j + 5)), (Or.inr ⟨(Or.inr (Or.inr (Or.inr (Or.inr (Or.inr (Or.inr (Or.inr (Or.inr (Or.inr (Or.inr (Or.inr (Or.inr (Or.inr (Or.inr (Or.inr (Or.inr (Or.inr (Or.inr (Or.inr (Or.inr (Or.inr (Or.inr (Or.inl (by omega)))))))))))))))))))))))), (Or.inr (Or.inl (by omega)))⟩), (fun h => absurd h (by omega))⟩⟩ dX1_takeRule_140
                        · refine kx_if_eq 132 F 139 dX1_takeRule_129 (by decide) rfl (by omega) (fun h_615 => ?_) (fun h_615 => (by exfalso; omega))
                          refine kx_iconst 140 F dX1_takeRule_139 rfl ?_
                          exact kx_zret F hQ (by omega) ⟨hI_N_433, hF_N_433, (by omega), hE_N_433, ⟨(j + 5), (-1), (Or.inr ⟨(Or.inr (Or.inr (Or.inr (Or.inr (Or.inr (Or.inr (Or.inr (Or.inr (Or.inr (Or.inr (Or.inr (Or.inr (Or.inr (Or.inr (Or.inr (Or.inr (Or.inr (Or.inr (Or.inr (Or.inr (Or.inr (Or.inr (Or.inr ((by omega))))))))))))))))))))))))), (Or.inl (by omega))⟩), (fun h => absurd h (by omega))⟩⟩ dX1_takeRule_140
                        · have ht_616 := tp_le (n := M c0 5) (TB.tx hB hI_M hk_c0) (Inv.g hI_M hk_c0 rfl 5 (a := 0) (b := 900) rfl rfl).1 (j := (j + 5)) (by omega)
                          have ht_618 : 0 ≤ tk Bt (j + 5) ∧ tk Bt (j + 5) ≤ 4 := tk_b (n := M c0 5) (TB.tx hB hI_M hk_c0) (by omega)
                          refine kx_if_eq 132 F 139 dX1_takeRule_129 (by decide) rfl (by omega) (fun h_619 => (by exfalso; omega)) (fun h_619 => ?_)
                          refine kx_aload_n 133 F 0 dX1_takeRule_132 rfl rfl rfl ?_
                          refine kx_Vi 136 (ci := 0) F (As := []) (st := []) vd_X1_120 (e_X1_standsSign G l N_433 c0 hI_N_433 hk_c0 Bt (TB.fr hB hI_M hk_c0 hF_N_433 rfl) (j + 5) (by omega) (by omega)) hk_c0 rfl rfl rfl ⟨by decide, by decide⟩ rfl rfl (Nat.le_of_ble_eq_true rfl) dX1_takeRule_133 rfl ?_
                          intro r_620 N_621 q_622
                          obtain ⟨hI_N_621, hG_N_621, q_622c⟩ := q_622
                          have hF_N_621 : Fr f_e_X1_takeRule M N_621 := Fr.c hF_N_433 hG_N_621 rfl
                          have hE_N_621 : Cf (SL (M c0 0) (q 3 - 1)) M N_621 := Cf.fr hE_N_433 hG_N_621 rfl
                          have h_623 := Inv.g hI_N_621 hk_c0 rfl 2 (a := (-2147483648)) (b := 2147483647) rfl rfl
                          have h_624 := Inv.g hI_N_621 hk_c0 rfl 3 (a := (-2147483648)) (b := 2147483647) rfl rfl
                          rcases q_622c with q_622c | q_622c
                          · refine kx_if_ne 139 F 141 dX1_takeRule_136 (by decide) rfl (by omega) (fun h_627 => ?_) (fun h_627 => (by exfalso; omega))
                            have e_628 : (N_621 c0 9) = (N_433 c0 9) := by rw [Fr.e hG_N_621 hk_c0 _ rfl]
                            refine kx_aload_n 142 F 1 dX1_takeRule_141 rfl rfl rfl ?_
                            refine kx_iload_n 143 F 2 dX1_takeRule_142 rfl rfl rfl ?_
                            refine kx_iload_n 144 F 3 dX1_takeRule_143 rfl rfl rfl ?_
                            refine kx_iload 146 F 4 dX1_takeRule_144 rfl rfl ?_
                            refine kx_aload_n 147 F 0 dX1_takeRule_146 rfl rfl rfl ?_
                            refine kx_geti 150 F fl_X1_127 hk_c0 rfl rfl (j := 9) rfl dX1_takeRule_147 (v := (N_433 c0 9)) (by rw [Fr.e hG_N_621 hk_c0 _ rfl]) rfl ?_
                            refine kx_Vi 153 (ci := 0) F (As := [vI r_65, vI (N_75 c0 9), vI (N_134 c0 9), vI (N_433 c0 9)]) (st := []) vd_X1_165 (e_X0_find G l N_621 x r_65 (N_75 c0 9) (N_134 c0 9) (N_433 c0 9) hI_N_621 hk_13 (by omega) q b (AT.fr (AT.fr (AT.fr (AT.fr (AT.fr (AT.fr (AT.fr (AT.fr (AT.fr hA1 hI_M hk_13 hG_N_17 rfl) hI_N_17 hk_13 hG_N_44 rfl) hI_N_44 hk_13 hG_N_75 rfl) hI_N_75 hk_13 hG_N_116 rfl) hI_N_116 hk_13 hG_N_134 rfl) hI_N_134 hk_13 hG_N_173 rfl) hI_N_173 hk_13 hG_N_191 rfl) hI_N_191 hk_13 hG_N_433 rfl) hI_N_433 hk_13 hG_N_621 rfl)) hk_13 rfl rfl rfl ⟨by decide, by decide⟩ rfl rfl (Nat.le_of_ble_eq_true rfl) dX1_takeRule_150 rfl ?_
                            intro r_629 N_630 q_631
                            obtain ⟨rfl, q_631c⟩ := q_631
                            rcases q_631c with q_631c | q_631c
                            · have hq_632 : (rq q b r_65 (N_75 c0 9) (N_134 c0 9) (N_433 c0 9)) = (rq q b (lfn Bt t (q 0) (q 1) (q 2) (j + 1)) (tv Bt (j + 2)) (tv Bt (j + 3)) (-1)) := rq_cg (by omega) (by omega) (by omega) (by omega)
                              refine kx_iconst 154 F dX1_takeRule_153 rfl ?_
                              refine kx_icmp_eq 157 F 163 dX1_takeRule_154 (by decide) rfl (by omega) (by decide) (fun h_633 => (by exfalso; omega)) (fun h_633 => ?_)
                              refine kx_aload_n 158 F 0 dX1_takeRule_157 rfl rfl rfl ?_
                              refine kx_iconst 159 F dX1_takeRule_158 rfl ?_
                              refine kx_Vi 162 (ci := 0) F (As := [vI 5]) (st := []) vd_X1_89 (e_X1_fail G l N_621 c0 5 hI_N_621 hk_c0 (by omega)) hk_c0 rfl rfl rfl ⟨by decide, by decide⟩ rfl rfl (Nat.le_of_ble_eq_true rfl) dX1_takeRule_159 rfl ?_
                              intro r_634 N_635 q_636
                              obtain ⟨hI_N_635, hG_N_635, q_636c⟩ := q_636
                              have hF_N_635 : Fr f_e_X1_takeRule M N_635 := Fr.c hF_N_621 hG_N_635 rfl
                              have hE_N_635 : Cf (SL (M c0 0) (q 3 - 1)) M N_635 := Cf.fr hE_N_621 hG_N_635 rfl
                              have h_637 := Inv.g hI_N_635 hk_c0 rfl 2 (a := (-2147483648)) (b := 2147483647) rfl rfl
                              have e_638 : (N_621 c0 7) = (N_433 c0 7) := by rw [Fr.e hG_N_621 hk_c0 _ rfl]
                              have h_639 := Inv.g hI_N_635 hk_c0 rfl 3 (a := (-2147483648)) (b := 2147483647) rfl rfl
                              exact kx_zret F hQ (by omega) ⟨hI_N_635, hF_N_635, (by omega), hE_N_635, ⟨(j + 5), (-1), (Or.inr ⟨(Or.inr (Or.inr (Or.inr (Or.inr (Or.inr (Or.inr (Or.inr (Or.inr (Or.inr (Or.inr (Or.inr (Or.inr (Or.inr (Or.inr (Or.inr (Or.inr (Or.inr (Or.inr (Or.inr (Or.inr (Or.inr (Or.inr (Or.inr ((by omega))))))))))))))))))))))))), (Or.inr (Or.inr (Or.inl (by omega))))⟩), (fun h => absurd h (by omega))⟩⟩ dX1_takeRule_162
                            · have hq_640 : (rq q b r_65 (N_75 c0 9) (N_134 c0 9) (N_433 c0 9)) = (rq q b (lfn Bt t (q 0) (q 1) (q 2) (j + 1)) (tv Bt (j + 2)) (tv Bt (j + 3)) (-1)) := rq_cg (by omega) (by omega) (by omega) (by omega)
                              refine kx_iconst 154 F dX1_takeRule_153 rfl ?_
                              refine kx_icmp_eq 157 F 163 dX1_takeRule_154 (by decide) rfl (by omega) (by decide) (fun h_641 => ?_) (fun h_641 => (by exfalso; omega))
                              refine kx_aload_n 164 F 1 dX1_takeRule_163 rfl rfl rfl ?_
                              refine kx_iload_n 165 F 2 dX1_takeRule_164 rfl rfl rfl ?_
                              refine kx_iload_n 166 F 3 dX1_takeRule_165 rfl rfl rfl ?_
                              refine kx_iload 168 F 4 dX1_takeRule_166 rfl rfl ?_
                              refine kx_aload_n 169 F 0 dX1_takeRule_168 rfl rfl rfl ?_
                              refine kx_geti 172 F fl_X1_127 hk_c0 rfl rfl (j := 9) rfl dX1_takeRule_169 (v := (N_433 c0 9)) (by rw [Fr.e hG_N_621 hk_c0 _ rfl]) rfl ?_
                              have e_642 : (N_621 x 4) = (M x 4) := by rw [Fr.e hG_N_621 hk_13 _ rfl, Fr.e hG_N_433 hk_13 _ rfl, Fr.e hG_N_191 hk_13 _ rfl, Fr.e hG_N_173 hk_13 _ rfl, Fr.e hG_N_134 hk_13 _ rfl, Fr.e hG_N_116 hk_13 _ rfl, Fr.e hG_N_75 hk_13 _ rfl, Fr.e hG_N_44 hk_13 _ rfl, Fr.e hG_N_17 hk_13 _ rfl]
                              refine kx_Vv 175 (ci := 0) F (As := [vI r_65, vI (N_75 c0 9), vI (N_134 c0 9), vI (N_433 c0 9)]) (st := []) vd_X1_169 (e_X0_append G l N_621 x r_65 (N_75 c0 9) (N_134 c0 9) (N_433 c0 9) hI_N_621 hk_13 (by omega) q b (AT.fr (AT.fr (AT.fr (AT.fr (AT.fr (AT.fr (AT.fr (AT.fr (AT.fr hA1 hI_M hk_13 hG_N_17 rfl) hI_N_17 hk_13 hG_N_44 rfl) hI_N_44 hk_13 hG_N_75 rfl) hI_N_75 hk_13 hG_N_116 rfl) hI_N_116 hk_13 hG_N_134 rfl) hI_N_134 hk_13 hG_N_173 rfl) hI_N_173 hk_13 hG_N_191 rfl) hI_N_191 hk_13 hG_N_433 rfl) hI_N_433 hk_13 hG_N_621 rfl) (by omega)) hk_13 rfl rfl rfl ⟨by decide, by decide⟩ rfl rfl (Nat.le_of_ble_eq_true rfl) dX1_takeRule_172 rfl ?_
                              intro N_643 q_644
                              obtain ⟨hI_N_643, hG_N_643, hC_N_643, hA_N_643⟩ := q_644
                              have hF_N_643 : Fr f_e_X1_takeRule M N_643 := Fr.c hF_N_621 hG_N_643 rfl
                              have hE_N_643 : Cf (SL (M c0 0) (q 3 - 1)) M N_643 := Cf.c hE_N_621 hC_N_643 (fun y hy => Or.inr (by have a := SA.in hy (FZ.fr hZ hF_N_621 rfl) hk_13; have b := hZ.2.1 (M c0 0) hk_6; omega))
                              refine kx_iconst 176 F dX1_takeRule_175 rfl ?_
                              have e_645 : (N_643 c0 2) = (N_621 c0 2) := by rw [Fr.e hG_N_643 hk_c0 _ rfl]
                              have e_646 : (N_643 c0 3) = (N_621 c0 3) := by rw [Fr.e hG_N_643 hk_c0 _ rfl]
                              have e_771 : (N_643 c0 0) = (M c0 0) := by rw [Fr.e hG_N_643 hk_c0 _ rfl, Fr.e hG_N_621 hk_c0 _ rfl, Fr.e hG_N_433 hk_c0 _ rfl, Fr.e hG_N_191 hk_c0 _ rfl, Fr.e hG_N_173 hk_c0 _ rfl, Fr.e hG_N_134 hk_c0 _ rfl, Fr.e hG_N_116 hk_c0 _ rfl, Fr.e hG_N_75 hk_c0 _ rfl, Fr.e hG_N_44 hk_c0 _ rfl, Fr.e hG_N_17 hk_c0 _ rfl]
                              have e_772 : (N_643 c0 9) = (N_433 c0 9) := by rw [Fr.e hG_N_643 hk_c0 _ rfl, Fr.e hG_N_621 hk_c0 _ rfl]
                              have e_773 : (N_643 (M c0 0) 0) = (M (M c0 0) 0) := by rw [Fr.e hG_N_643 hk_6 _ rfl, Fr.e hG_N_621 hk_6 _ rfl, Fr.e hG_N_433 hk_6 _ rfl, Fr.e hG_N_191 hk_6 _ rfl, Fr.e hG_N_173 hk_6 _ rfl, Fr.e hG_N_134 hk_6 _ rfl, Fr.e hG_N_116 hk_6 _ rfl, Fr.e hG_N_75 hk_6 _ rfl, Fr.e hG_N_44 hk_6 _ rfl, Fr.e hG_N_17 hk_6 _ rfl]
                              have e_774 : (N_643 (M c0 0) 1) = (M (M c0 0) 1) := by rw [Fr.e hG_N_643 hk_6 _ rfl, Fr.e hG_N_621 hk_6 _ rfl, Fr.e hG_N_433 hk_6 _ rfl, Fr.e hG_N_191 hk_6 _ rfl, Fr.e hG_N_173 hk_6 _ rfl, Fr.e hG_N_134 hk_6 _ rfl, Fr.e hG_N_116 hk_6 _ rfl, Fr.e hG_N_75 hk_6 _ rfl, Fr.e hG_N_44 hk_6 _ rfl, Fr.e hG_N_17 hk_6 _ rfl]
                              have e_775 : (N_643 (M c0 0) 2) = (M (M c0 0) 2) := by rw [Fr.e hG_N_643 hk_6 _ rfl, Fr.e hG_N_621 hk_6 _ rfl, Fr.e hG_N_433 hk_6 _ rfl, Fr.e hG_N_191 hk_6 _ rfl, Fr.e hG_N_173 hk_6 _ rfl, Fr.e hG_N_134 hk_6 _ rfl, Fr.e hG_N_116 hk_6 _ rfl, Fr.e hG_N_75 hk_6 _ rfl, Fr.e hG_N_44 hk_6 _ rfl, Fr.e hG_N_17 hk_6 _ rfl]
                              have e_776 : (N_643 (M c0 0) 3) = (M (M c0 0) 3) := by rw [Fr.e hG_N_643 hk_6 _ rfl, Fr.e hG_N_621 hk_6 _ rfl, Fr.e hG_N_433 hk_6 _ rfl, Fr.e hG_N_191 hk_6 _ rfl, Fr.e hG_N_173 hk_6 _ rfl, Fr.e hG_N_134 hk_6 _ rfl, Fr.e hG_N_116 hk_6 _ rfl, Fr.e hG_N_75 hk_6 _ rfl, Fr.e hG_N_44 hk_6 _ rfl, Fr.e hG_N_17 hk_6 _ rfl]
                              have e_779 : (N_643 c0 6) = (N_433 c0 6) := by rw [Fr.e hG_N_643 hk_c0 _ rfl, Fr.e hG_N_621 hk_c0 _ rfl]
                              have e_780 : (N_643 c0 7) = (N_433 c0 7) := by rw [Fr.e hG_N_643 hk_c0 _ rfl, Fr.e hG_N_621 hk_c0 _ rfl]
                              have e_781 : (N_643 c0 8) = (N_433 c0 8) := by rw [Fr.e hG_N_643 hk_c0 _ rfl, Fr.e hG_N_621 hk_c0 _ rfl]
                              exact kx_zret F hQ (by omega) ⟨hI_N_643, hF_N_643, (by omega), hE_N_643, ⟨(j + 5), (-1), (Or.inr ⟨(Or.inr (Or.inr (Or.inr (Or.inr (Or.inr (Or.inr (Or.inr (Or.inr (Or.inr (Or.inr (Or.inr (Or.inr (Or.inr (Or.inr (Or.inr (Or.inr (Or.inr (Or.inr (Or.inr (Or.inr (Or.inr (Or.inr (Or.inr ((by omega))))))))))))))))))))))))), (Or.inr (Or.inr (Or.inr ((by omega)))))⟩), (fun _ => ⟨⟨by omega, by omega, by omega, by omega, by omega⟩, (CQ.cg (q' := (uprul q b (lfn Bt t (q 0) (q 1) (q 2) (j + 1)) (tv Bt (j + 2)) (tv Bt (j + 3)) (-1))) hq (by rw [Fr.e hG_N_643 hk_c0 _ rfl, Fr.e hG_N_621 hk_c0 _ rfl, Fr.e hG_N_433 hk_c0 _ rfl, Fr.e hG_N_191 hk_c0 _ rfl, Fr.e hG_N_173 hk_c0 _ rfl, Fr.e hG_N_134 hk_c0 _ rfl, Fr.e hG_N_116 hk_c0 _ rfl, Fr.e hG_N_75 hk_c0 _ rfl, Fr.e hG_N_44 hk_c0 _ rfl, Fr.e hG_N_17 hk_c0 _ rfl]) (by omega) (by omega) (by omega) (by rw [uprul_l (by omega) (by omega)]; omega) (uprul_l (by omega) (by omega)) (uprul_l (by omega) (by omega)) (uprul_l (by omega) (by omega)) (by rw [uprul_l (by omega) (by omega)]; omega)), (NU.cg (NU.fr (NU.fr (NU.fr (NU.fr (NU.fr (NU.fr (NU.fr (NU.fr (NU.fr (NU.fr hN hI_M hk_c0 hG_N_17 rfl) hI_N_17 hk_c0 hG_N_44 rfl) hI_N_44 hk_c0 hG_N_75 rfl) hI_N_75 hk_c0 hG_N_116 rfl) hI_N_116 hk_c0 hG_N_134 rfl) hI_N_134 hk_c0 hG_N_173 rfl) hI_N_173 hk_c0 hG_N_191 rfl) hI_N_191 hk_c0 hG_N_433 rfl) hI_N_433 hk_c0 hG_N_621 rfl) hI_N_621 hk_c0 hG_N_643 rfl) (uprul_l (by omega) (by omega)) (uprul_l (by omega) (by omega)) (uprul_l (by omega) (by omega))), (CA.set (x := x) (b := b) hA hx hZ hI_M hk_6 hE_N_643 (by rw [Fr.e hG_N_643 hk_c0 _ rfl, Fr.e hG_N_621 hk_c0 _ rfl, Fr.e hG_N_433 hk_c0 _ rfl, Fr.e hG_N_191 hk_c0 _ rfl, Fr.e hG_N_173 hk_c0 _ rfl, Fr.e hG_N_134 hk_c0 _ rfl, Fr.e hG_N_116 hk_c0 _ rfl, Fr.e hG_N_75 hk_c0 _ rfl, Fr.e hG_N_44 hk_c0 _ rfl, Fr.e hG_N_17 hk_c0 _ rfl]) (by rw [Fr.e hG_N_643 hk_6 _ rfl, Fr.e hG_N_621 hk_6 _ rfl, Fr.e hG_N_433 hk_6 _ rfl, Fr.e hG_N_191 hk_6 _ rfl, Fr.e hG_N_173 hk_6 _ rfl, Fr.e hG_N_134 hk_6 _ rfl, Fr.e hG_N_116 hk_6 _ rfl, Fr.e hG_N_75 hk_6 _ rfl, Fr.e hG_N_44 hk_6 _ rfl, Fr.e hG_N_17 hk_6 _ rfl]) (by rw [Fr.e hG_N_643 hk_6 _ rfl, Fr.e hG_N_621 hk_6 _ rfl, Fr.e hG_N_433 hk_6 _ rfl, Fr.e hG_N_191 hk_6 _ rfl, Fr.e hG_N_173 hk_6 _ rfl, Fr.e hG_N_134 hk_6 _ rfl, Fr.e hG_N_116 hk_6 _ rfl, Fr.e hG_N_75 hk_6 _ rfl, Fr.e hG_N_44 hk_6 _ rfl, Fr.e hG_N_17 hk_6 _ rfl]) (by have ha := hA_N_643; rw [show r_65 = (lfn Bt t (q 0) (q 1) (q 2) (j + 1)) by omega, show (N_75 c0 9) = (tv Bt (j + 2)) by omega, show (N_134 c0 9) = (tv Bt (j + 3)) by omega, show (N_433 c0 9) = (-1) by omega] at ha; exact ha) (fun k hk => uprul_l (by omega) (by omega)) hr)⟩)⟩⟩ dX1_takeRule_176
                          · refine kx_if_ne 139 F 141 dX1_takeRule_136 (by decide) rfl (by omega) (fun h_782 => (by exfalso; omega)) (fun h_782 => ?_)
                            refine kx_iconst 140 F dX1_takeRule_139 rfl ?_
                            exact kx_zret F hQ (by omega) ⟨hI_N_621, hF_N_621, (by omega), hE_N_621, ⟨(j + 5), (-1), (Or.inr ⟨(Or.inr (Or.inr (Or.inr (Or.inr (Or.inr (Or.inr (Or.inr (Or.inr (Or.inr (Or.inr (Or.inr (Or.inr (Or.inr (Or.inr (Or.inr (Or.inr (Or.inr (Or.inr (Or.inr (Or.inr (Or.inr (Or.inr (Or.inr ((by omega))))))))))))))))))))))))), (Or.inr (Or.inl (by omega)))⟩), (fun h => absurd h (by omega))⟩⟩ dX1_takeRule_140
                      · have e_783 : (N_191 c0 0) = (M c0 0) := by rw [Fr.e hG_N_191 hk_c0 _ rfl, Fr.e hG_N_173 hk_c0 _ rfl, Fr.e hG_N_134 hk_c0 _ rfl, Fr.e hG_N_116 hk_c0 _ rfl, Fr.e hG_N_75 hk_c0 _ rfl, Fr.e hG_N_44 hk_c0 _ rfl, Fr.e hG_N_17 hk_c0 _ rfl]
                        have e_784 : (N_191 (N_191 c0 0) 3) = (M (M c0 0) 3) := by rw [e_783, Fr.e hG_N_191 hk_6 _ rfl, Fr.e hG_N_173 hk_6 _ rfl, Fr.e hG_N_134 hk_6 _ rfl, Fr.e hG_N_116 hk_6 _ rfl, Fr.e hG_N_75 hk_6 _ rfl, Fr.e hG_N_44 hk_6 _ rfl, Fr.e hG_N_17 hk_6 _ rfl]
                        have e_785 : N_191 (N_191 c0 0) 4 = M (M c0 0) 4 := by rw [Fr.e hG_N_191 hk_c0 _ rfl, Fr.e hG_N_173 hk_c0 _ rfl, Fr.e hG_N_134 hk_c0 _ rfl, Fr.e hG_N_116 hk_c0 _ rfl, Fr.e hG_N_75 hk_c0 _ rfl, Fr.e hG_N_44 hk_c0 _ rfl, Fr.e hG_N_17 hk_c0 _ rfl, Fr.e hG_N_191 hk_6 _ rfl, Fr.e hG_N_173 hk_6 _ rfl, Fr.e hG_N_134 hk_6 _ rfl, Fr.e hG_N_116 hk_6 _ rfl, Fr.e hG_N_75 hk_6 _ rfl, Fr.e hG_N_44 hk_6 _ rfl, Fr.e hG_N_17 hk_6 _ rfl]
                        have e_786 : N_191 (N_191 c0 0) 5 = M (M c0 0) 5 := by rw [Fr.e hG_N_191 hk_c0 _ rfl, Fr.e hG_N_173 hk_c0 _ rfl, Fr.e hG_N_134 hk_c0 _ rfl, Fr.e hG_N_116 hk_c0 _ rfl, Fr.e hG_N_75 hk_c0 _ rfl, Fr.e hG_N_44 hk_c0 _ rfl, Fr.e hG_N_17 hk_c0 _ rfl, Fr.e hG_N_191 hk_6 _ rfl, Fr.e hG_N_173 hk_6 _ rfl, Fr.e hG_N_134 hk_6 _ rfl, Fr.e hG_N_116 hk_6 _ rfl, Fr.e hG_N_75 hk_6 _ rfl, Fr.e hG_N_44 hk_6 _ rfl, Fr.e hG_N_17 hk_6 _ rfl]
                        have e_787 : (N_191 x 1) = (M x 1) := by rw [Fr.e hG_N_191 hk_13 _ rfl, Fr.e hG_N_173 hk_13 _ rfl, Fr.e hG_N_134 hk_13 _ rfl, Fr.e hG_N_116 hk_13 _ rfl, Fr.e hG_N_75 hk_13 _ rfl, Fr.e hG_N_44 hk_13 _ rfl, Fr.e hG_N_17 hk_13 _ rfl]
                        have h_788 := Inv.g hI_M hk_13 rfl 1 (a := 0) (b := 3) rfl rfl
                        refine kx_Vi 129 (ci := 0) F (As := [vI r_216]) (st := []) vd_X1_162 (e_X1_takeSymbol G l N_191 c0 r_216 hI_N_191 hk_c0 (by omega) Bt (TB.fr hB hI_M hk_c0 hF_N_191 rfl) (j + 4) (by omega) (by omega) x (q (b + 1)) hkx (by omega) (by omega) (by omega) (j + 5) (j + 6) (by omega) (by omega)) hk_c0 rfl rfl rfl ⟨by decide, by decide⟩ rfl rfl (Nat.le_of_ble_eq_true rfl) dX1_takeRule_126 rfl ?_
                        intro r_789 N_790 q_791
                        obtain ⟨hI_N_790, hG_N_790, q_791c⟩ := q_791
                        have hF_N_790 : Fr f_e_X1_takeRule M N_790 := Fr.c hF_N_191 hG_N_790 rfl
                        have hE_N_790 : Cf (SL (M c0 0) (q 3 - 1)) M N_790 := Cf.fr hE_N_191 hG_N_790 rfl
                        have h_792 := Inv.g hI_N_790 hk_c0 rfl 9 (a := (-2147483648)) (b := 2147483647) rfl rfl
                        have h_793 := Inv.g hI_N_790 hk_c0 rfl 6 (a := 0) (b := 5) rfl rfl
                        have h_794 := Inv.g hI_N_790 hk_c0 rfl 7 (a := 0) (b := 900) rfl rfl
                        have h_795 := Inv.g hI_N_790 hk_c0 rfl 8 (a := 0) (b := 900) rfl rfl
                        have h_796 := Inv.g hI_N_790 hk_c0 rfl 2 (a := (-2147483648)) (b := 2147483647) rfl rfl
                        have h_797 := Inv.g hI_N_790 hk_c0 rfl 3 (a := (-2147483648)) (b := 2147483647) rfl rfl
                        rcases q_791c with q_791c | q_791c | q_791c | q_791c | q_791c | q_791c | q_791c | q_791c | q_791c | q_791c | q_791c | q_791c | q_791c | q_791c | q_791c
                        · skip
                          refine kx_if_eq 132 F 139 dX1_takeRule_129 (by decide) rfl (by omega) (fun h_843 => (by exfalso; omega)) (fun h_843 => ?_)
                          refine kx_aload_n 133 F 0 dX1_takeRule_132 rfl rfl rfl ?_
                          refine kx_Vi 136 (ci := 0) F (As := []) (st := []) vd_X1_120 (e_X1_standsSign G l N_790 c0 hI_N_790 hk_c0 Bt (TB.fr hB hI_M hk_c0 hF_N_790 rfl) (j + 4) (by omega) (by omega)) hk_c0 rfl rfl rfl ⟨by decide, by decide⟩ rfl rfl (Nat.le_of_ble_eq_true rfl) dX1_takeRule_133 rfl ?_
                          intro r_844 N_845 q_846
                          obtain ⟨hI_N_845, hG_N_845, q_846c⟩ := q_846
                          have hF_N_845 : Fr f_e_X1_takeRule M N_845 := Fr.c hF_N_790 hG_N_845 rfl
                          have hE_N_845 : Cf (SL (M c0 0) (q 3 - 1)) M N_845 := Cf.fr hE_N_790 hG_N_845 rfl
                          have h_847 := Inv.g hI_N_845 hk_c0 rfl 2 (a := (-2147483648)) (b := 2147483647) rfl rfl
                          have h_848 := Inv.g hI_N_845 hk_c0 rfl 3 (a := (-2147483648)) (b := 2147483647) rfl rfl
                          rcases q_846c with q_846c | q_846c
                          · refine kx_if_ne 139 F 141 dX1_takeRule_136 (by decide) rfl (by omega) (fun h_851 => ?_) (fun h_851 => (by exfalso; omega))
                            have e_852 : (N_845 c0 9) = (N_790 c0 9) := by rw [Fr.e hG_N_845 hk_c0 _ rfl]
                            refine kx_aload_n 142 F 1 dX1_takeRule_141 rfl rfl rfl ?_
                            refine kx_iload_n 143 F 2 dX1_takeRule_142 rfl rfl rfl ?_
                            refine kx_iload_n 144 F 3 dX1_takeRule_143 rfl rfl rfl ?_
                            refine kx_iload 146 F 4 dX1_takeRule_144 rfl rfl ?_
                            refine kx_aload_n 147 F 0 dX1_takeRule_146 rfl rfl rfl ?_
                            refine kx_geti 150 F fl_X1_127 hk_c0 rfl rfl (j := 9) rfl dX1_takeRule_147 (v := (N_790 c0 9)) (by rw [Fr.e hG_N_845 hk_c0 _ rfl]) rfl ?_
                            refine kx_Vi 153 (ci := 0) F (As := [vI r_65, vI (N_75 c0 9), vI (N_134 c0 9), vI (N_790 c0 9)]) (st := []) vd_X1_165 (e_X0_find G l N_845 x r_65 (N_75 c0 9) (N_134 c0 9) (N_790 c0 9) hI_N_845 hk_13 (by omega) q b (AT.fr (AT.fr (AT.fr (AT.fr (AT.fr (AT.fr (AT.fr (AT.fr (AT.fr hA1 hI_M hk_13 hG_N_17 rfl) hI_N_17 hk_13 hG_N_44 rfl) hI_N_44 hk_13 hG_N_75 rfl) hI_N_75 hk_13 hG_N_116 rfl) hI_N_116 hk_13 hG_N_134 rfl) hI_N_134 hk_13 hG_N_173 rfl) hI_N_173 hk_13 hG_N_191 rfl) hI_N_191 hk_13 hG_N_790 rfl) hI_N_790 hk_13 hG_N_845 rfl)) hk_13 rfl rfl rfl ⟨by decide, by decide⟩ rfl rfl (Nat.le_of_ble_eq_true rfl) dX1_takeRule_150 rfl ?_
                            intro r_853 N_854 q_855
                            obtain ⟨rfl, q_855c⟩ := q_855
                            rcases q_855c with q_855c | q_855c
                            · have hq_856 : (rq q b r_65 (N_75 c0 9) (N_134 c0 9) (N_790 c0 9)) = (rq q b (lfn Bt t (q 0) (q 1) (q 2) (j + 1)) (tv Bt (j + 2)) (tv Bt (j + 3)) (-1)) := rq_cg (by omega) (by omega) (by omega) (by omega)
                              refine kx_iconst 154 F dX1_takeRule_153 rfl ?_
                              refine kx_icmp_eq 157 F 163 dX1_takeRule_154 (by decide) rfl (by omega) (by decide) (fun h_857 => (by exfalso; omega)) (fun h_857 => ?_)
                              refine kx_aload_n 158 F 0 dX1_takeRule_157 rfl rfl rfl ?_
                              refine kx_iconst 159 F dX1_takeRule_158 rfl ?_
                              refine kx_Vi 162 (ci := 0) F (As := [vI 5]) (st := []) vd_X1_89 (e_X1_fail G l N_845 c0 5 hI_N_845 hk_c0 (by omega)) hk_c0 rfl rfl rfl ⟨by decide, by decide⟩ rfl rfl (Nat.le_of_ble_eq_true rfl) dX1_takeRule_159 rfl ?_
                              intro r_858 N_859 q_860
                              obtain ⟨hI_N_859, hG_N_859, q_860c⟩ := q_860
                              have hF_N_859 : Fr f_e_X1_takeRule M N_859 := Fr.c hF_N_845 hG_N_859 rfl
                              have hE_N_859 : Cf (SL (M c0 0) (q 3 - 1)) M N_859 := Cf.fr hE_N_845 hG_N_859 rfl
                              have h_861 := Inv.g hI_N_859 hk_c0 rfl 2 (a := (-2147483648)) (b := 2147483647) rfl rfl
                              have e_862 : (N_845 c0 7) = (N_790 c0 7) := by rw [Fr.e hG_N_845 hk_c0 _ rfl]
                              have h_863 := Inv.g hI_N_859 hk_c0 rfl 3 (a := (-2147483648)) (b := 2147483647) rfl rfl
                              exact kx_zret F hQ (by omega) ⟨hI_N_859, hF_N_859, (by omega), hE_N_859, ⟨(j + 4), (-1), (Or.inr ⟨(Or.inr (Or.inr (Or.inr (Or.inr (Or.inr (Or.inr (Or.inr (Or.inr (Or.inr (Or.inr (Or.inl (by omega)))))))))))), (Or.inr (Or.inr (Or.inl (by omega))))⟩), (fun h => absurd h (by omega))⟩⟩ dX1_takeRule_162
                            · have hq_864 : (rq q b r_65 (N_75 c0 9) (N_134 c0 9) (N_790 c0 9)) = (rq q b (lfn Bt t (q 0) (q 1) (q 2) (j + 1)) (tv Bt (j + 2)) (tv Bt (j + 3)) (-1)) := rq_cg (by omega) (by omega) (by omega) (by omega)
                              refine kx_iconst 154 F dX1_takeRule_153 rfl ?_
                              refine kx_icmp_eq 157 F 163 dX1_takeRule_154 (by decide) rfl (by omega) (by decide) (fun h_865 => ?_) (fun h_865 => (by exfalso; omega))
                              refine kx_aload_n 164 F 1 dX1_takeRule_163 rfl rfl rfl ?_
                              refine kx_iload_n 165 F 2 dX1_takeRule_164 rfl rfl rfl ?_
                              refine kx_iload_n 166 F 3 dX1_takeRule_165 rfl rfl rfl ?_
                              refine kx_iload 168 F 4 dX1_takeRule_166 rfl rfl ?_
                              refine kx_aload_n 169 F 0 dX1_takeRule_168 rfl rfl rfl ?_
                              refine kx_geti 172 F fl_X1_127 hk_c0 rfl rfl (j := 9) rfl dX1_takeRule_169 (v := (N_790 c0 9)) (by rw [Fr.e hG_N_845 hk_c0 _ rfl]) rfl ?_
                              have e_866 : (N_845 x 4) = (M x 4) := by rw [Fr.e hG_N_845 hk_13 _ rfl, Fr.e hG_N_790 hk_13 _ rfl, Fr.e hG_N_191 hk_13 _ rfl, Fr.e hG_N_173 hk_13 _ rfl, Fr.e hG_N_134 hk_13 _ rfl, Fr.e hG_N_116 hk_13 _ rfl, Fr.e hG_N_75 hk_13 _ rfl, Fr.e hG_N_44 hk_13 _ rfl, Fr.e hG_N_17 hk_13 _ rfl]
                              refine kx_Vv 175 (ci := 0) F (As := [vI r_65, vI (N_75 c0 9), vI (N_134 c0 9), vI (N_790 c0 9)]) (st := []) vd_X1_169 (e_X0_append G l N_845 x r_65 (N_75 c0 9) (N_134 c0 9) (N_790 c0 9) hI_N_845 hk_13 (by omega) q b (AT.fr (AT.fr (AT.fr (AT.fr (AT.fr (AT.fr (AT.fr (AT.fr (AT.fr hA1 hI_M hk_13 hG_N_17 rfl) hI_N_17 hk_13 hG_N_44 rfl) hI_N_44 hk_13 hG_N_75 rfl) hI_N_75 hk_13 hG_N_116 rfl) hI_N_116 hk_13 hG_N_134 rfl) hI_N_134 hk_13 hG_N_173 rfl) hI_N_173 hk_13 hG_N_191 rfl) hI_N_191 hk_13 hG_N_790 rfl) hI_N_790 hk_13 hG_N_845 rfl) (by omega)) hk_13 rfl rfl rfl ⟨by decide, by decide⟩ rfl rfl (Nat.le_of_ble_eq_true rfl) dX1_takeRule_172 rfl ?_
                              intro N_867 q_868
                              obtain ⟨hI_N_867, hG_N_867, hC_N_867, hA_N_867⟩ := q_868
                              have hF_N_867 : Fr f_e_X1_takeRule M N_867 := Fr.c hF_N_845 hG_N_867 rfl
                              have hE_N_867 : Cf (SL (M c0 0) (q 3 - 1)) M N_867 := Cf.c hE_N_845 hC_N_867 (fun y hy => Or.inr (by have a := SA.in hy (FZ.fr hZ hF_N_845 rfl) hk_13; have b := hZ.2.1 (M c0 0) hk_6; omega))
                              refine kx_iconst 176 F dX1_takeRule_175 rfl ?_
                              have e_869 : (N_867 c0 2) = (N_845 c0 2) := by rw [Fr.e hG_N_867 hk_c0 _ rfl]
                              have e_870 : (N_867 c0 3) = (N_845 c0 3) := by rw [Fr.e hG_N_867 hk_c0 _ rfl]
                              have e_915 : (N_867 c0 0) = (M c0 0) := by rw [Fr.e hG_N_867 hk_c0 _ rfl, Fr.e hG_N_845 hk_c0 _ rfl, Fr.e hG_N_790 hk_c0 _ rfl, Fr.e hG_N_191 hk_c0 _ rfl, Fr.e hG_N_173 hk_c0 _ rfl, Fr.e hG_N_134 hk_c0 _ rfl, Fr.e hG_N_116 hk_c0 _ rfl, Fr.e hG_N_75 hk_c0 _ rfl, Fr.e hG_N_44 hk_c0 _ rfl, Fr.e hG_N_17 hk_c0 _ rfl]
                              have e_916 : (N_867 c0 9) = (N_790 c0 9) := by rw [Fr.e hG_N_867 hk_c0 _ rfl, Fr.e hG_N_845 hk_c0 _ rfl]
                              have e_917 : (N_867 (M c0 0) 0) = (M (M c0 0) 0) := by rw [Fr.e hG_N_867 hk_6 _ rfl, Fr.e hG_N_845 hk_6 _ rfl, Fr.e hG_N_790 hk_6 _ rfl, Fr.e hG_N_191 hk_6 _ rfl, Fr.e hG_N_173 hk_6 _ rfl, Fr.e hG_N_134 hk_6 _ rfl, Fr.e hG_N_116 hk_6 _ rfl, Fr.e hG_N_75 hk_6 _ rfl, Fr.e hG_N_44 hk_6 _ rfl, Fr.e hG_N_17 hk_6 _ rfl]
                              have e_918 : (N_867 (M c0 0) 1) = (M (M c0 0) 1) := by rw [Fr.e hG_N_867 hk_6 _ rfl, Fr.e hG_N_845 hk_6 _ rfl, Fr.e hG_N_790 hk_6 _ rfl, Fr.e hG_N_191 hk_6 _ rfl, Fr.e hG_N_173 hk_6 _ rfl, Fr.e hG_N_134 hk_6 _ rfl, Fr.e hG_N_116 hk_6 _ rfl, Fr.e hG_N_75 hk_6 _ rfl, Fr.e hG_N_44 hk_6 _ rfl, Fr.e hG_N_17 hk_6 _ rfl]
                              have e_919 : (N_867 (M c0 0) 2) = (M (M c0 0) 2) := by rw [Fr.e hG_N_867 hk_6 _ rfl, Fr.e hG_N_845 hk_6 _ rfl, Fr.e hG_N_790 hk_6 _ rfl, Fr.e hG_N_191 hk_6 _ rfl, Fr.e hG_N_173 hk_6 _ rfl, Fr.e hG_N_134 hk_6 _ rfl, Fr.e hG_N_116 hk_6 _ rfl, Fr.e hG_N_75 hk_6 _ rfl, Fr.e hG_N_44 hk_6 _ rfl, Fr.e hG_N_17 hk_6 _ rfl]
                              have e_920 : (N_867 (M c0 0) 3) = (M (M c0 0) 3) := by rw [Fr.e hG_N_867 hk_6 _ rfl, Fr.e hG_N_845 hk_6 _ rfl, Fr.e hG_N_790 hk_6 _ rfl, Fr.e hG_N_191 hk_6 _ rfl, Fr.e hG_N_173 hk_6 _ rfl, Fr.e hG_N_134 hk_6 _ rfl, Fr.e hG_N_116 hk_6 _ rfl, Fr.e hG_N_75 hk_6 _ rfl, Fr.e hG_N_44 hk_6 _ rfl, Fr.e hG_N_17 hk_6 _ rfl]
                              have e_923 : (N_867 c0 6) = (N_790 c0 6) := by rw [Fr.e hG_N_867 hk_c0 _ rfl, Fr.e hG_N_845 hk_c0 _ rfl]
                              have e_924 : (N_867 c0 7) = (N_790 c0 7) := by rw [Fr.e hG_N_867 hk_c0 _ rfl, Fr.e hG_N_845 hk_c0 _ rfl]
                              have e_925 : (N_867 c0 8) = (N_790 c0 8) := by rw [Fr.e hG_N_867 hk_c0 _ rfl, Fr.e hG_N_845 hk_c0 _ rfl]
                              exact kx_zret F hQ (by omega) ⟨hI_N_867, hF_N_867, (by omega), hE_N_867, ⟨(j + 4), (-1), (Or.inr ⟨(Or.inr (Or.inr (Or.inr (Or.inr (Or.inr (Or.inr (Or.inr (Or.inr (Or.inr (Or.inr (Or.inl (by omega)))))))))))), (Or.inr (Or.inr (Or.inr ((by omega)))))⟩), (fun _ => ⟨⟨by omega, by omega, by omega, by omega, by omega⟩, (CQ.cg (q' := (uprul q b (lfn Bt t (q 0) (q 1) (q 2) (j + 1)) (tv Bt (j + 2)) (tv Bt (j + 3)) (-1))) hq (by rw [Fr.e hG_N_867 hk_c0 _ rfl, Fr.e hG_N_845 hk_c0 _ rfl, Fr.e hG_N_790 hk_c0 _ rfl, Fr.e hG_N_191 hk_c0 _ rfl, Fr.e hG_N_173 hk_c0 _ rfl, Fr.e hG_N_134 hk_c0 _ rfl, Fr.e hG_N_116 hk_c0 _ rfl, Fr.e hG_N_75 hk_c0 _ rfl, Fr.e hG_N_44 hk_c0 _ rfl, Fr.e hG_N_17 hk_c0 _ rfl]) (by omega) (by omega) (by omega) (by rw [uprul_l (by omega) (by omega)]; omega) (uprul_l (by omega) (by omega)) (uprul_l (by omega) (by omega)) (uprul_l (by omega) (by omega)) (by rw [uprul_l (by omega) (by omega)]; omega)), (NU.cg (NU.fr (NU.fr (NU.fr (NU.fr (NU.fr (NU.fr (NU.fr (NU.fr (NU.fr (NU.fr hN hI_M hk_c0 hG_N_17 rfl) hI_N_17 hk_c0 hG_N_44 rfl) hI_N_44 hk_c0 hG_N_75 rfl) hI_N_75 hk_c0 hG_N_116 rfl) hI_N_116 hk_c0 hG_N_134 rfl) hI_N_134 hk_c0 hG_N_173 rfl) hI_N_173 hk_c0 hG_N_191 rfl) hI_N_191 hk_c0 hG_N_790 rfl) hI_N_790 hk_c0 hG_N_845 rfl) hI_N_845 hk_c0 hG_N_867 rfl) (uprul_l (by omega) (by omega)) (uprul_l (by omega) (by omega)) (uprul_l (by omega) (by omega))), (CA.set (x := x) (b := b) hA hx hZ hI_M hk_6 hE_N_867 (by rw [Fr.e hG_N_867 hk_c0 _ rfl, Fr.e hG_N_845 hk_c0 _ rfl, Fr.e hG_N_790 hk_c0 _ rfl, Fr.e hG_N_191 hk_c0 _ rfl, Fr.e hG_N_173 hk_c0 _ rfl, Fr.e hG_N_134 hk_c0 _ rfl, Fr.e hG_N_116 hk_c0 _ rfl, Fr.e hG_N_75 hk_c0 _ rfl, Fr.e hG_N_44 hk_c0 _ rfl, Fr.e hG_N_17 hk_c0 _ rfl]) (by rw [Fr.e hG_N_867 hk_6 _ rfl, Fr.e hG_N_845 hk_6 _ rfl, Fr.e hG_N_790 hk_6 _ rfl, Fr.e hG_N_191 hk_6 _ rfl, Fr.e hG_N_173 hk_6 _ rfl, Fr.e hG_N_134 hk_6 _ rfl, Fr.e hG_N_116 hk_6 _ rfl, Fr.e hG_N_75 hk_6 _ rfl, Fr.e hG_N_44 hk_6 _ rfl, Fr.e hG_N_17 hk_6 _ rfl]) (by rw [Fr.e hG_N_867 hk_6 _ rfl, Fr.e hG_N_845 hk_6 _ rfl, Fr.e hG_N_790 hk_6 _ rfl, Fr.e hG_N_191 hk_6 _ rfl, Fr.e hG_N_173 hk_6 _ rfl, Fr.e hG_N_134 hk_6 _ rfl, Fr.e hG_N_116 hk_6 _ rfl, Fr.e hG_N_75 hk_6 _ rfl, Fr.e hG_N_44 hk_6 _ rfl, Fr.e hG_N_17 hk_6 _ rfl]) (by have ha := hA_N_867; rw [show r_65 = (lfn Bt t (q 0) (q 1) (q 2) (j + 1)) by omega, show (N_75 c0 9) = (tv Bt (j + 2)) by omega, show (N_134 c0 9) = (tv Bt (j + 3)) by omega, show (N_790 c0 9) = (-1) by omega] at ha; exact ha) (fun k hk => uprul_l (by omega) (by omega)) hr)⟩)⟩⟩ dX1_takeRule_176
                          · refine kx_if_ne 139 F 141 dX1_takeRule_136 (by decide) rfl (by omega) (fun h_926 => (by exfalso; omega)) (fun h_926 => ?_)
                            refine kx_iconst 140 F dX1_takeRule_139 rfl ?_
                            exact kx_zret F hQ (by omega) ⟨hI_N_845, hF_N_845, (by omega), hE_N_845, ⟨(j + 4), (-1), (Or.inr ⟨(Or.inr (Or.inr (Or.inr (Or.inr (Or.inr (Or.inr (Or.inr (Or.inr (Or.inr (Or.inr (Or.inl (by omega)))))))))))), (Or.inr (Or.inl (by omega)))⟩), (fun h => absurd h (by omega))⟩⟩ dX1_takeRule_140
                        · exfalso; omega
                        · exfalso; omega
                        · exfalso; omega
                        · exfalso; omega
                        · exfalso; omega
                        · exfalso; omega
                        · exfalso; omega
                        · exfalso; omega
                        · exfalso; omega
                        · exfalso; omega
                        · exfalso; omega
                        · exfalso; omega
                        · exfalso; omega
                        · exfalso; omega
                    · refine kx_if_eq 117 F 139 dX1_takeRule_114 (by decide) rfl (by omega) (fun h_927 => (by exfalso; omega)) (fun h_927 => ?_)
                      refine kx_aload_n 118 F 0 dX1_takeRule_117 rfl rfl rfl ?_
                      refine kx_aload_n 119 F 0 dX1_takeRule_118 rfl rfl rfl ?_
                      refine kx_getr 122 F fl_X1_12 hk_c0 rfl rfl (j := 0) rfl dX1_takeRule_119 (v := (M c0 0)) (by rw [Fr.e hG_N_191 hk_c0 _ rfl, Fr.e hG_N_173 hk_c0 _ rfl, Fr.e hG_N_134 hk_c0 _ rfl, Fr.e hG_N_116 hk_c0 _ rfl, Fr.e hG_N_75 hk_c0 _ rfl, Fr.e hG_N_44 hk_c0 _ rfl, Fr.e hG_N_17 hk_c0 _ rfl]) rfl ?_
                      refine kx_iload_n 123 F 2 dX1_takeRule_122 rfl rfl rfl ?_
                      have e_928 : (N_191 (M c0 0) 0) = (M (M c0 0) 0) := by rw [Fr.e hG_N_191 hk_6 _ rfl, Fr.e hG_N_173 hk_6 _ rfl, Fr.e hG_N_134 hk_6 _ rfl, Fr.e hG_N_116 hk_6 _ rfl, Fr.e hG_N_75 hk_6 _ rfl, Fr.e hG_N_44 hk_6 _ rfl, Fr.e hG_N_17 hk_6 _ rfl]
                      have e_929 : (N_191 (M c0 0) 1) = (M (M c0 0) 1) := by rw [Fr.e hG_N_191 hk_6 _ rfl, Fr.e hG_N_173 hk_6 _ rfl, Fr.e hG_N_134 hk_6 _ rfl, Fr.e hG_N_116 hk_6 _ rfl, Fr.e hG_N_75 hk_6 _ rfl, Fr.e hG_N_44 hk_6 _ rfl, Fr.e hG_N_17 hk_6 _ rfl]
                      have e_930 : (N_191 (M c0 0) 2) = (M (M c0 0) 2) := by rw [Fr.e hG_N_191 hk_6 _ rfl, Fr.e hG_N_173 hk_6 _ rfl, Fr.e hG_N_134 hk_6 _ rfl, Fr.e hG_N_116 hk_6 _ rfl, Fr.e hG_N_75 hk_6 _ rfl, Fr.e hG_N_44 hk_6 _ rfl, Fr.e hG_N_17 hk_6 _ rfl]
                      refine kx_Vi 126 (ci := 0) F (As := [vI r_65]) (st := [vR G c0]) vd_X1_159 (e_X5_sortOf G l N_191 (M c0 0) r_65 hI_N_191 hk_6 (by omega)) hk_6 rfl rfl rfl ⟨by decide, by decide⟩ rfl rfl (Nat.le_of_ble_eq_true rfl) dX1_takeRule_123 rfl ?_
                      intro r_931 N_932 q_933
                      obtain ⟨rfl, q_933c⟩ := q_933
                      rcases q_933c with q_933c | q_933c | q_933c | q_933c | q_933c
                      · exfalso; omega
                      · exfalso; omega
                      · have e_952 : (N_191 c0 0) = (M c0 0) := by rw [Fr.e hG_N_191 hk_c0 _ rfl, Fr.e hG_N_173 hk_c0 _ rfl, Fr.e hG_N_134 hk_c0 _ rfl, Fr.e hG_N_116 hk_c0 _ rfl, Fr.e hG_N_75 hk_c0 _ rfl, Fr.e hG_N_44 hk_c0 _ rfl, Fr.e hG_N_17 hk_c0 _ rfl]
                        have e_953 : (N_191 (N_191 c0 0) 3) = (M (M c0 0) 3) := by rw [e_952, Fr.e hG_N_191 hk_6 _ rfl, Fr.e hG_N_173 hk_6 _ rfl, Fr.e hG_N_134 hk_6 _ rfl, Fr.e hG_N_116 hk_6 _ rfl, Fr.e hG_N_75 hk_6 _ rfl, Fr.e hG_N_44 hk_6 _ rfl, Fr.e hG_N_17 hk_6 _ rfl]
                        have e_954 : N_191 (N_191 c0 0) 4 = M (M c0 0) 4 := by rw [Fr.e hG_N_191 hk_c0 _ rfl, Fr.e hG_N_173 hk_c0 _ rfl, Fr.e hG_N_134 hk_c0 _ rfl, Fr.e hG_N_116 hk_c0 _ rfl, Fr.e hG_N_75 hk_c0 _ rfl, Fr.e hG_N_44 hk_c0 _ rfl, Fr.e hG_N_17 hk_c0 _ rfl, Fr.e hG_N_191 hk_6 _ rfl, Fr.e hG_N_173 hk_6 _ rfl, Fr.e hG_N_134 hk_6 _ rfl, Fr.e hG_N_116 hk_6 _ rfl, Fr.e hG_N_75 hk_6 _ rfl, Fr.e hG_N_44 hk_6 _ rfl, Fr.e hG_N_17 hk_6 _ rfl]
                        have e_955 : N_191 (N_191 c0 0) 5 = M (M c0 0) 5 := by rw [Fr.e hG_N_191 hk_c0 _ rfl, Fr.e hG_N_173 hk_c0 _ rfl, Fr.e hG_N_134 hk_c0 _ rfl, Fr.e hG_N_116 hk_c0 _ rfl, Fr.e hG_N_75 hk_c0 _ rfl, Fr.e hG_N_44 hk_c0 _ rfl, Fr.e hG_N_17 hk_c0 _ rfl, Fr.e hG_N_191 hk_6 _ rfl, Fr.e hG_N_173 hk_6 _ rfl, Fr.e hG_N_134 hk_6 _ rfl, Fr.e hG_N_116 hk_6 _ rfl, Fr.e hG_N_75 hk_6 _ rfl, Fr.e hG_N_44 hk_6 _ rfl, Fr.e hG_N_17 hk_6 _ rfl]
                        have e_956 : (N_191 x 1) = (M x 1) := by rw [Fr.e hG_N_191 hk_13 _ rfl, Fr.e hG_N_173 hk_13 _ rfl, Fr.e hG_N_134 hk_13 _ rfl, Fr.e hG_N_116 hk_13 _ rfl, Fr.e hG_N_75 hk_13 _ rfl, Fr.e hG_N_44 hk_13 _ rfl, Fr.e hG_N_17 hk_13 _ rfl]
                        have h_957 := Inv.g hI_M hk_13 rfl 1 (a := 0) (b := 3) rfl rfl
                        refine kx_Vi 129 (ci := 0) F (As := [vI r_931]) (st := []) vd_X1_162 (e_X1_takeSymbol G l N_191 c0 r_931 hI_N_191 hk_c0 (by omega) Bt (TB.fr hB hI_M hk_c0 hF_N_191 rfl) (j + 4) (by omega) (by omega) x (q (b + 1)) hkx (by omega) (by omega) (by omega) (j + 5) (j + 6) (by omega) (by omega)) hk_c0 rfl rfl rfl ⟨by decide, by decide⟩ rfl rfl (Nat.le_of_ble_eq_true rfl) dX1_takeRule_126 rfl ?_
                        intro r_958 N_959 q_960
                        obtain ⟨hI_N_959, hG_N_959, q_960c⟩ := q_960
                        have hF_N_959 : Fr f_e_X1_takeRule M N_959 := Fr.c hF_N_191 hG_N_959 rfl
                        have hE_N_959 : Cf (SL (M c0 0) (q 3 - 1)) M N_959 := Cf.fr hE_N_191 hG_N_959 rfl
                        have h_961 := Inv.g hI_N_959 hk_c0 rfl 9 (a := (-2147483648)) (b := 2147483647) rfl rfl
                        have h_962 := Inv.g hI_N_959 hk_c0 rfl 6 (a := 0) (b := 5) rfl rfl
                        have h_963 := Inv.g hI_N_959 hk_c0 rfl 7 (a := 0) (b := 900) rfl rfl
                        have h_964 := Inv.g hI_N_959 hk_c0 rfl 8 (a := 0) (b := 900) rfl rfl
                        have h_965 := Inv.g hI_N_959 hk_c0 rfl 2 (a := (-2147483648)) (b := 2147483647) rfl rfl
                        have h_966 := Inv.g hI_N_959 hk_c0 rfl 3 (a := (-2147483648)) (b := 2147483647) rfl rfl
                        rcases q_960c with q_960c | q_960c | q_960c | q_960c | q_960c | q_960c | q_960c | q_960c | q_960c | q_960c | q_960c | q_960c | q_960c | q_960c | q_960c
                        · exfalso; omega
                        · refine kx_if_eq 132 F 139 dX1_takeRule_129 (by decide) rfl (by omega) (fun h_1009 => ?_) (fun h_1009 => (by exfalso; omega))
                          refine kx_iconst 140 F dX1_takeRule_139 rfl ?_
                          exact kx_zret F hQ (by omega) ⟨hI_N_959, hF_N_959, (by omega), hE_N_959, ⟨(j + 4), (-1), (Or.inl ⟨by omega, (Or.inr (Or.inr (Or.inr (Or.inr (Or.inr (Or.inr (Or.inr (Or.inr (Or.inr (Or.inr (Or.inr (Or.inr (Or.inl (by omega))))))))))))))⟩), (fun h => absurd h (by omega))⟩⟩ dX1_takeRule_140
                        · refine kx_if_eq 132 F 139 dX1_takeRule_129 (by decide) rfl (by omega) (fun h_1010 => ?_) (fun h_1010 => (by exfalso; omega))
                          refine kx_iconst 140 F dX1_takeRule_139 rfl ?_
                          exact kx_zret F hQ (by omega) ⟨hI_N_959, hF_N_959, (by omega), hE_N_959, ⟨(j + 4), (-1), (Or.inl ⟨by omega, (Or.inr (Or.inr (Or.inr (Or.inr (Or.inr (Or.inr (Or.inr (Or.inr (Or.inr (Or.inr (Or.inr (Or.inr (Or.inr (Or.inl (by omega)))))))))))))))⟩), (fun h => absurd h (by omega))⟩⟩ dX1_takeRule_140
                        · refine kx_if_eq 132 F 139 dX1_takeRule_129 (by decide) rfl (by omega) (fun h_1011 => ?_) (fun h_1011 => (by exfalso; omega))
                          refine kx_iconst 140 F dX1_takeRule_139 rfl ?_
                          exact kx_zret F hQ (by omega) ⟨hI_N_959, hF_N_959, (by omega), hE_N_959, ⟨(j + 4), (-1), (Or.inl ⟨by omega, (Or.inr (Or.inr (Or.inr (Or.inr (Or.inr (Or.inr (Or.inr (Or.inr (Or.inr (Or.inr (Or.inr (Or.inr (Or.inr (Or.inr (Or.inl (by omega))))))))))))))))⟩), (fun h => absurd h (by omega))⟩⟩ dX1_takeRule_140
                        · refine kx_if_eq 132 F 139 dX1_takeRule_129 (by decide) rfl (by omega) (fun h_1012 => ?_) (fun h_1012 => (by exfalso; omega))
                          refine kx_iconst 140 F dX1_takeRule_139 rfl ?_
                          exact kx_zret F hQ (by omega) ⟨hI_N_959, hF_N_959, (by omega), hE_N_959, ⟨(j + 4), (-1), (Or.inl ⟨by omega, (Or.inr (Or.inr (Or.inr (Or.inr (Or.inr (Or.inr (Or.inr (Or.inr (Or.inr (Or.inr (Or.inr (Or.inr (Or.inr (Or.inr (Or.inr (Or.inl (by omega)))))))))))))))))⟩), (fun h => absurd h (by omega))⟩⟩ dX1_takeRule_140
                        · refine kx_if_eq 132 F 139 dX1_takeRule_129 (by decide) rfl (by omega) (fun h_1013 => ?_) (fun h_1013 => (by exfalso; omega))
                          refine kx_iconst 140 F dX1_takeRule_139 rfl ?_
                          exact kx_zret F hQ (by omega) ⟨hI_N_959, hF_N_959, (by omega), hE_N_959, ⟨(j + 6), (tv Bt (j + 5)), (Or.inr ⟨(Or.inr (Or.inr (Or.inr (Or.inr (Or.inr (Or.inr (Or.inr (Or.inr (Or.inr (Or.inr (Or.inr (Or.inr (Or.inr (Or.inr (Or.inr (Or.inr (Or.inl (by omega)))))))))))))))))), (Or.inl (by omega))⟩), (fun h => absurd h (by omega))⟩⟩ dX1_takeRule_140
                        · have ht_1014 := tp_le (n := M c0 5) (TB.tx hB hI_M hk_c0) (Inv.g hI_M hk_c0 rfl 5 (a := 0) (b := 900) rfl rfl).1 (j := (j + 6)) (by omega)
                          have ht_1016 : 0 ≤ tk Bt (j + 6) ∧ tk Bt (j + 6) ≤ 4 := tk_b (n := M c0 5) (TB.tx hB hI_M hk_c0) (by omega)
                          refine kx_if_eq 132 F 139 dX1_takeRule_129 (by decide) rfl (by omega) (fun h_1017 => (by exfalso; omega)) (fun h_1017 => ?_)
                          refine kx_aload_n 133 F 0 dX1_takeRule_132 rfl rfl rfl ?_
                          refine kx_Vi 136 (ci := 0) F (As := []) (st := []) vd_X1_120 (e_X1_standsSign G l N_959 c0 hI_N_959 hk_c0 Bt (TB.fr hB hI_M hk_c0 hF_N_959 rfl) (j + 6) (by omega) (by omega)) hk_c0 rfl rfl rfl ⟨by decide, by decide⟩ rfl rfl (Nat.le_of_ble_eq_true rfl) dX1_takeRule_133 rfl ?_
                          intro r_1018 N_1019 q_1020
                          obtain ⟨hI_N_1019, hG_N_1019, q_1020c⟩ := q_1020
                          have hF_N_1019 : Fr f_e_X1_takeRule M N_1019 := Fr.c hF_N_959 hG_N_1019 rfl
                          have hE_N_1019 : Cf (SL (M c0 0) (q 3 - 1)) M N_1019 := Cf.fr hE_N_959 hG_N_1019 rfl
                          have h_1021 := Inv.g hI_N_1019 hk_c0 rfl 2 (a := (-2147483648)) (b := 2147483647) rfl rfl
                          have h_1022 := Inv.g hI_N_1019 hk_c0 rfl 3 (a := (-2147483648)) (b := 2147483647) rfl rfl
                          rcases q_1020c with q_1020c | q_1020c
                          · refine kx_if_ne 139 F 141 dX1_takeRule_136 (by decide) rfl (by omega) (fun h_1025 => ?_) (fun h_1025 => (by exfalso; omega))
                            have e_1026 : (N_1019 c0 9) = (N_959 c0 9) := by rw [Fr.e hG_N_1019 hk_c0 _ rfl]
                            refine kx_aload_n 142 F 1 dX1_takeRule_141 rfl rfl rfl ?_
                            refine kx_iload_n 143 F 2 dX1_takeRule_142 rfl rfl rfl ?_
                            refine kx_iload_n 144 F 3 dX1_takeRule_143 rfl rfl rfl ?_
                            refine kx_iload 146 F 4 dX1_takeRule_144 rfl rfl ?_
                            refine kx_aload_n 147 F 0 dX1_takeRule_146 rfl rfl rfl ?_
                            refine kx_geti 150 F fl_X1_127 hk_c0 rfl rfl (j := 9) rfl dX1_takeRule_147 (v := (N_959 c0 9)) (by rw [Fr.e hG_N_1019 hk_c0 _ rfl]) rfl ?_
                            refine kx_Vi 153 (ci := 0) F (As := [vI r_65, vI (N_75 c0 9), vI (N_134 c0 9), vI (N_959 c0 9)]) (st := []) vd_X1_165 (e_X0_find G l N_1019 x r_65 (N_75 c0 9) (N_134 c0 9) (N_959 c0 9) hI_N_1019 hk_13 (by omega) q b (AT.fr (AT.fr (AT.fr (AT.fr (AT.fr (AT.fr (AT.fr (AT.fr (AT.fr hA1 hI_M hk_13 hG_N_17 rfl) hI_N_17 hk_13 hG_N_44 rfl) hI_N_44 hk_13 hG_N_75 rfl) hI_N_75 hk_13 hG_N_116 rfl) hI_N_116 hk_13 hG_N_134 rfl) hI_N_134 hk_13 hG_N_173 rfl) hI_N_173 hk_13 hG_N_191 rfl) hI_N_191 hk_13 hG_N_959 rfl) hI_N_959 hk_13 hG_N_1019 rfl)) hk_13 rfl rfl rfl ⟨by decide, by decide⟩ rfl rfl (Nat.le_of_ble_eq_true rfl) dX1_takeRule_150 rfl ?_
                            intro r_1027 N_1028 q_1029
                            obtain ⟨rfl, q_1029c⟩ := q_1029
                            rcases q_1029c with q_1029c | q_1029c
                            · have hq_1030 : (rq q b r_65 (N_75 c0 9) (N_134 c0 9) (N_959 c0 9)) = (rq q b (lfn Bt t (q 0) (q 1) (q 2) (j + 1)) (tv Bt (j + 2)) (tv Bt (j + 3)) (tv Bt (j + 5))) := rq_cg (by omega) (by omega) (by omega) (by omega)
                              refine kx_iconst 154 F dX1_takeRule_153 rfl ?_
                              refine kx_icmp_eq 157 F 163 dX1_takeRule_154 (by decide) rfl (by omega) (by decide) (fun h_1031 => (by exfalso; omega)) (fun h_1031 => ?_)
                              refine kx_aload_n 158 F 0 dX1_takeRule_157 rfl rfl rfl ?_
                              refine kx_iconst 159 F dX1_takeRule_158 rfl ?_
                              refine kx_Vi 162 (ci := 0) F (As := [vI 5]) (st := []) vd_X1_89 (e_X1_fail G l N_1019 c0 5 hI_N_1019 hk_c0 (by omega)) hk_c0 rfl rfl rfl ⟨by decide, by decide⟩ rfl rfl (Nat.le_of_ble_eq_true rfl) dX1_takeRule_159 rfl ?_
                              intro r_1032 N_1033 q_1034
                              obtain ⟨hI_N_1033, hG_N_1033, q_1034c⟩ := q_1034
                              have hF_N_1033 : Fr f_e_X1_takeRule M N_1033 := Fr.c hF_N_1019 hG_N_1033 rfl
                              have hE_N_1033 : Cf (SL (M c0 0) (q 3 - 1)) M N_1033 := Cf.fr hE_N_1019 hG_N_1033 rfl
                              have h_1035 := Inv.g hI_N_1033 hk_c0 rfl 2 (a := (-2147483648)) (b := 2147483647) rfl rfl
                              have e_1036 : (N_1019 c0 7) = (N_959 c0 7) := by rw [Fr.e hG_N_1019 hk_c0 _ rfl]
                              have h_1037 := Inv.g hI_N_1033 hk_c0 rfl 3 (a := (-2147483648)) (b := 2147483647) rfl rfl
                              exact kx_zret F hQ (by omega) ⟨hI_N_1033, hF_N_1033, (by omega), hE_N_1033, ⟨(j + 6), (tv Bt (j + 5)), (Or.inr ⟨(Or.inr (Or.inr (Or.inr (Or.inr (Or.inr (Or.inr (Or.inr (Or.inr (Or.inr (Or.inr (Or.inr (Or.inr (Or.inr (Or.inr (Or.inr (Or.inr (Or.inl (by omega)))))))))))))))))), (Or.inr (Or.inr (Or.inl (by omega))))⟩), (fun h => absurd h (by omega))⟩⟩ dX1_takeRule_162
                            · have hq_1038 : (rq q b r_65 (N_75 c0 9) (N_134 c0 9) (N_959 c0 9)) = (rq q b (lfn Bt t (q 0) (q 1) (q 2) (j + 1)) (tv Bt (j + 2)) (tv Bt (j + 3)) (tv Bt (j + 5))) := rq_cg (by omega) (by omega) (by omega) (by omega)
                              refine kx_iconst 154 F dX1_takeRule_153 rfl ?_
                              refine kx_icmp_eq 157 F 163 dX1_takeRule_154 (by decide) rfl (by omega) (by decide) (fun h_1039 => ?_) (fun h_1039 => (by exfalso; omega))
                              refine kx_aload_n 164 F 1 dX1_takeRule_163 rfl rfl rfl ?_
                              refine kx_iload_n 165 F 2 dX1_takeRule_164 rfl rfl rfl ?_
                              refine kx_iload_n 166 F 3 dX1_takeRule_165 rfl rfl rfl ?_
                              refine kx_iload 168 F 4 dX1_takeRule_166 rfl rfl ?_
                              refine kx_aload_n 169 F 0 dX1_takeRule_168 rfl rfl rfl ?_
                              refine kx_geti 172 F fl_X1_127 hk_c0 rfl rfl (j := 9) rfl dX1_takeRule_169 (v := (N_959 c0 9)) (by rw [Fr.e hG_N_1019 hk_c0 _ rfl]) rfl ?_
                              have e_1040 : (N_1019 x 4) = (M x 4) := by rw [Fr.e hG_N_1019 hk_13 _ rfl, Fr.e hG_N_959 hk_13 _ rfl, Fr.e hG_N_191 hk_13 _ rfl, Fr.e hG_N_173 hk_13 _ rfl, Fr.e hG_N_134 hk_13 _ rfl, Fr.e hG_N_116 hk_13 _ rfl, Fr.e hG_N_75 hk_13 _ rfl, Fr.e hG_N_44 hk_13 _ rfl, Fr.e hG_N_17 hk_13 _ rfl]
                              refine kx_Vv 175 (ci := 0) F (As := [vI r_65, vI (N_75 c0 9), vI (N_134 c0 9), vI (N_959 c0 9)]) (st := []) vd_X1_169 (e_X0_append G l N_1019 x r_65 (N_75 c0 9) (N_134 c0 9) (N_959 c0 9) hI_N_1019 hk_13 (by omega) q b (AT.fr (AT.fr (AT.fr (AT.fr (AT.fr (AT.fr (AT.fr (AT.fr (AT.fr hA1 hI_M hk_13 hG_N_17 rfl) hI_N_17 hk_13 hG_N_44 rfl) hI_N_44 hk_13 hG_N_75 rfl) hI_N_75 hk_13 hG_N_116 rfl) hI_N_116 hk_13 hG_N_134 rfl) hI_N_134 hk_13 hG_N_173 rfl) hI_N_173 hk_13 hG_N_191 rfl) hI_N_191 hk_13 hG_N_959 rfl) hI_N_959 hk_13 hG_N_1019 rfl) (by omega)) hk_13 rfl rfl rfl ⟨by decide, by decide⟩ rfl rfl (Nat.le_of_ble_eq_true rfl) dX1_takeRule_172 rfl ?_
                              intro N_1041 q_1042
                              obtain ⟨hI_N_1041, hG_N_1041, hC_N_1041, hA_N_1041⟩ := q_1042
                              have hF_N_1041 : Fr f_e_X1_takeRule M N_1041 := Fr.c hF_N_1019 hG_N_1041 rfl
                              have hE_N_1041 : Cf (SL (M c0 0) (q 3 - 1)) M N_1041 := Cf.c hE_N_1019 hC_N_1041 (fun y hy => Or.inr (by have a := SA.in hy (FZ.fr hZ hF_N_1019 rfl) hk_13; have b := hZ.2.1 (M c0 0) hk_6; omega))
                              refine kx_iconst 176 F dX1_takeRule_175 rfl ?_
                              have e_1043 : (N_1041 c0 2) = (N_1019 c0 2) := by rw [Fr.e hG_N_1041 hk_c0 _ rfl]
                              have e_1044 : (N_1041 c0 3) = (N_1019 c0 3) := by rw [Fr.e hG_N_1041 hk_c0 _ rfl]
                              have e_1129 : (N_1041 c0 0) = (M c0 0) := by rw [Fr.e hG_N_1041 hk_c0 _ rfl, Fr.e hG_N_1019 hk_c0 _ rfl, Fr.e hG_N_959 hk_c0 _ rfl, Fr.e hG_N_191 hk_c0 _ rfl, Fr.e hG_N_173 hk_c0 _ rfl, Fr.e hG_N_134 hk_c0 _ rfl, Fr.e hG_N_116 hk_c0 _ rfl, Fr.e hG_N_75 hk_c0 _ rfl, Fr.e hG_N_44 hk_c0 _ rfl, Fr.e hG_N_17 hk_c0 _ rfl]
                              have e_1130 : (N_1041 c0 9) = (N_959 c0 9) := by rw [Fr.e hG_N_1041 hk_c0 _ rfl, Fr.e hG_N_1019 hk_c0 _ rfl]
                              have e_1131 : (N_1041 (M c0 0) 0) = (M (M c0 0) 0) := by rw [Fr.e hG_N_1041 hk_6 _ rfl, Fr.e hG_N_1019 hk_6 _ rfl, Fr.e hG_N_959 hk_6 _ rfl, Fr.e hG_N_191 hk_6 _ rfl, Fr.e hG_N_173 hk_6 _ rfl, Fr.e hG_N_134 hk_6 _ rfl, Fr.e hG_N_116 hk_6 _ rfl, Fr.e hG_N_75 hk_6 _ rfl, Fr.e hG_N_44 hk_6 _ rfl, Fr.e hG_N_17 hk_6 _ rfl]
                              have e_1132 : (N_1041 (M c0 0) 1) = (M (M c0 0) 1) := by rw [Fr.e hG_N_1041 hk_6 _ rfl, Fr.e hG_N_1019 hk_6 _ rfl, Fr.e hG_N_959 hk_6 _ rfl, Fr.e hG_N_191 hk_6 _ rfl, Fr.e hG_N_173 hk_6 _ rfl, Fr.e hG_N_134 hk_6 _ rfl, Fr.e hG_N_116 hk_6 _ rfl, Fr.e hG_N_75 hk_6 _ rfl, Fr.e hG_N_44 hk_6 _ rfl, Fr.e hG_N_17 hk_6 _ rfl]
                              have e_1133 : (N_1041 (M c0 0) 2) = (M (M c0 0) 2) := by rw [Fr.e hG_N_1041 hk_6 _ rfl, Fr.e hG_N_1019 hk_6 _ rfl, Fr.e hG_N_959 hk_6 _ rfl, Fr.e hG_N_191 hk_6 _ rfl, Fr.e hG_N_173 hk_6 _ rfl, Fr.e hG_N_134 hk_6 _ rfl, Fr.e hG_N_116 hk_6 _ rfl, Fr.e hG_N_75 hk_6 _ rfl, Fr.e hG_N_44 hk_6 _ rfl, Fr.e hG_N_17 hk_6 _ rfl]
                              have e_1134 : (N_1041 (M c0 0) 3) = (M (M c0 0) 3) := by rw [Fr.e hG_N_1041 hk_6 _ rfl, Fr.e hG_N_1019 hk_6 _ rfl, Fr.e hG_N_959 hk_6 _ rfl, Fr.e hG_N_191 hk_6 _ rfl, Fr.e hG_N_173 hk_6 _ rfl, Fr.e hG_N_134 hk_6 _ rfl, Fr.e hG_N_116 hk_6 _ rfl, Fr.e hG_N_75 hk_6 _ rfl, Fr.e hG_N_44 hk_6 _ rfl, Fr.e hG_N_17 hk_6 _ rfl]
                              have e_1137 : (N_1041 c0 6) = (N_959 c0 6) := by rw [Fr.e hG_N_1041 hk_c0 _ rfl, Fr.e hG_N_1019 hk_c0 _ rfl]
                              have e_1138 : (N_1041 c0 7) = (N_959 c0 7) := by rw [Fr.e hG_N_1041 hk_c0 _ rfl, Fr.e hG_N_1019 hk_c0 _ rfl]
                              have e_1139 : (N_1041 c0 8) = (N_959 c0 8) := by rw [Fr.e hG_N_1041 hk_c0 _ rfl, Fr.e hG_N_1019 hk_c0 _ rfl]
                              exact kx_zret F hQ (by omega) ⟨hI_N_1041, hF_N_1041, (by omega), hE_N_1041, ⟨(j + 6), (tv Bt (j + 5)), (Or.inr ⟨(Or.inr (Or.inr (Or.inr (Or.inr (Or.inr (Or.inr (Or.inr (Or.inr (Or.inr (Or.inr (Or.inr (Or.inr (Or.inr (Or.inr (Or.inr (Or.inr (Or.inl (by omega)))))))))))))))))), (Or.inr (Or.inr (Or.inr ((by omega)))))⟩), (fun _ => ⟨⟨by omega, by omega, by omega, by omega, by omega⟩, (CQ.cg (q' := (uprul q b (lfn Bt t (q 0) (q 1) (q 2) (j + 1)) (tv Bt (j + 2)) (tv Bt (j + 3)) (tv Bt (j + 5)))) hq (by rw [Fr.e hG_N_1041 hk_c0 _ rfl, Fr.e hG_N_1019 hk_c0 _ rfl, Fr.e hG_N_959 hk_c0 _ rfl, Fr.e hG_N_191 hk_c0 _ rfl, Fr.e hG_N_173 hk_c0 _ rfl, Fr.e hG_N_134 hk_c0 _ rfl, Fr.e hG_N_116 hk_c0 _ rfl, Fr.e hG_N_75 hk_c0 _ rfl, Fr.e hG_N_44 hk_c0 _ rfl, Fr.e hG_N_17 hk_c0 _ rfl]) (by omega) (by omega) (by omega) (by rw [uprul_l (by omega) (by omega)]; omega) (uprul_l (by omega) (by omega)) (uprul_l (by omega) (by omega)) (uprul_l (by omega) (by omega)) (by rw [uprul_l (by omega) (by omega)]; omega)), (NU.cg (NU.fr (NU.fr (NU.fr (NU.fr (NU.fr (NU.fr (NU.fr (NU.fr (NU.fr (NU.fr hN hI_M hk_c0 hG_N_17 rfl) hI_N_17 hk_c0 hG_N_44 rfl) hI_N_44 hk_c0 hG_N_75 rfl) hI_N_75 hk_c0 hG_N_116 rfl) hI_N_116 hk_c0 hG_N_134 rfl) hI_N_134 hk_c0 hG_N_173 rfl) hI_N_173 hk_c0 hG_N_191 rfl) hI_N_191 hk_c0 hG_N_959 rfl) hI_N_959 hk_c0 hG_N_1019 rfl) hI_N_1019 hk_c0 hG_N_1041 rfl) (uprul_l (by omega) (by omega)) (uprul_l (by omega) (by omega)) (uprul_l (by omega) (by omega))), (CA.set (x := x) (b := b) hA hx hZ hI_M hk_6 hE_N_1041 (by rw [Fr.e hG_N_1041 hk_c0 _ rfl, Fr.e hG_N_1019 hk_c0 _ rfl, Fr.e hG_N_959 hk_c0 _ rfl, Fr.e hG_N_191 hk_c0 _ rfl, Fr.e hG_N_173 hk_c0 _ rfl, Fr.e hG_N_134 hk_c0 _ rfl, Fr.e hG_N_116 hk_c0 _ rfl, Fr.e hG_N_75 hk_c0 _ rfl, Fr.e hG_N_44 hk_c0 _ rfl, Fr.e hG_N_17 hk_c0 _ rfl]) (by rw [Fr.e hG_N_1041 hk_6 _ rfl, Fr.e hG_N_1019 hk_6 _ rfl, Fr.e hG_N_959 hk_6 _ rfl, Fr.e hG_N_191 hk_6 _ rfl, Fr.e hG_N_173 hk_6 _ rfl, Fr.e hG_N_134 hk_6 _ rfl, Fr.e hG_N_116 hk_6 _ rfl, Fr.e hG_N_75 hk_6 _ rfl, Fr.e hG_N_44 hk_6 _ rfl, Fr.e hG_N_17 hk_6 _ rfl]) (by rw [Fr.e hG_N_1041 hk_6 _ rfl, Fr.e hG_N_1019 hk_6 _ rfl, Fr.e hG_N_959 hk_6 _ rfl, Fr.e hG_N_191 hk_6 _ rfl, Fr.e hG_N_173 hk_6 _ rfl, Fr.e hG_N_134 hk_6 _ rfl, Fr.e hG_N_116 hk_6 _ rfl, Fr.e hG_N_75 hk_6 _ rfl, Fr.e hG_N_44 hk_6 _ rfl, Fr.e hG_N_17 hk_6 _ rfl]) (by have ha := hA_N_1041; rw [show r_65 = (lfn Bt t (q 0) (q 1) (q 2) (j + 1)) by omega, show (N_75 c0 9) = (tv Bt (j + 2)) by omega, show (N_134 c0 9) = (tv Bt (j + 3)) by omega, show (N_959 c0 9) = (tv Bt (j + 5)) by omega] at ha; exact ha) (fun k hk => uprul_l (by omega) (by omega)) hr)⟩)⟩⟩ dX1_takeRule_176
                          · refine kx_if_ne 139 F 141 dX1_takeRule_136 (by decide) rfl (by omega) (fun h_1140 => (by exfalso; omega)) (fun h_1140 => ?_)
                            refine kx_iconst 140 F dX1_takeRule_139 rfl ?_
                            exact kx_zret F hQ (by omega) ⟨hI_N_1019, hF_N_1019, (by omega), hE_N_1019, ⟨(j + 6), (tv Bt (j + 5)), (Or.inr ⟨(Or.inr (Or.inr (Or.inr (Or.inr (Or.inr (Or.inr (Or.inr (Or.inr (Or.inr (Or.inr (Or.inr (Or.inr (Or.inr (Or.inr (Or.inr (Or.inr (Or.inl (by omega)))))))))))))))))), (Or.inr (Or.inl (by omega)))⟩), (fun h => absurd h (by omega))⟩⟩ dX1_takeRule_140
                        · exfalso; omega
                        · exfalso; omega
                        · exfalso; omega
                        · exfalso; omega
                        · exfalso; omega
                        · exfalso; omega
                        · exfalso; omega
                        · exfalso; omega
                      · have e_1141 : (N_191 c0 0) = (M c0 0) := by rw [Fr.e hG_N_191 hk_c0 _ rfl, Fr.e hG_N_173 hk_c0 _ rfl, Fr.e hG_N_134 hk_c0 _ rfl, Fr.e hG_N_116 hk_c0 _ rfl, Fr.e hG_N_75 hk_c0 _ rfl, Fr.e hG_N_44 hk_c0 _ rfl, Fr.e hG_N_17 hk_c0 _ rfl]
                        have e_1142 : (N_191 (N_191 c0 0) 3) = (M (M c0 0) 3) := by rw [e_1141, Fr.e hG_N_191 hk_6 _ rfl, Fr.e hG_N_173 hk_6 _ rfl, Fr.e hG_N_134 hk_6 _ rfl, Fr.e hG_N_116 hk_6 _ rfl, Fr.e hG_N_75 hk_6 _ rfl, Fr.e hG_N_44 hk_6 _ rfl, Fr.e hG_N_17 hk_6 _ rfl]
                        have e_1143 : N_191 (N_191 c0 0) 4 = M (M c0 0) 4 := by rw [Fr.e hG_N_191 hk_c0 _ rfl, Fr.e hG_N_173 hk_c0 _ rfl, Fr.e hG_N_134 hk_c0 _ rfl, Fr.e hG_N_116 hk_c0 _ rfl, Fr.e hG_N_75 hk_c0 _ rfl, Fr.e hG_N_44 hk_c0 _ rfl, Fr.e hG_N_17 hk_c0 _ rfl, Fr.e hG_N_191 hk_6 _ rfl, Fr.e hG_N_173 hk_6 _ rfl, Fr.e hG_N_134 hk_6 _ rfl, Fr.e hG_N_116 hk_6 _ rfl, Fr.e hG_N_75 hk_6 _ rfl, Fr.e hG_N_44 hk_6 _ rfl, Fr.e hG_N_17 hk_6 _ rfl]
                        have e_1144 : N_191 (N_191 c0 0) 5 = M (M c0 0) 5 := by rw [Fr.e hG_N_191 hk_c0 _ rfl, Fr.e hG_N_173 hk_c0 _ rfl, Fr.e hG_N_134 hk_c0 _ rfl, Fr.e hG_N_116 hk_c0 _ rfl, Fr.e hG_N_75 hk_c0 _ rfl, Fr.e hG_N_44 hk_c0 _ rfl, Fr.e hG_N_17 hk_c0 _ rfl, Fr.e hG_N_191 hk_6 _ rfl, Fr.e hG_N_173 hk_6 _ rfl, Fr.e hG_N_134 hk_6 _ rfl, Fr.e hG_N_116 hk_6 _ rfl, Fr.e hG_N_75 hk_6 _ rfl, Fr.e hG_N_44 hk_6 _ rfl, Fr.e hG_N_17 hk_6 _ rfl]
                        have e_1145 : (N_191 x 1) = (M x 1) := by rw [Fr.e hG_N_191 hk_13 _ rfl, Fr.e hG_N_173 hk_13 _ rfl, Fr.e hG_N_134 hk_13 _ rfl, Fr.e hG_N_116 hk_13 _ rfl, Fr.e hG_N_75 hk_13 _ rfl, Fr.e hG_N_44 hk_13 _ rfl, Fr.e hG_N_17 hk_13 _ rfl]
                        have h_1146 := Inv.g hI_M hk_13 rfl 1 (a := 0) (b := 3) rfl rfl
                        refine kx_Vi 129 (ci := 0) F (As := [vI r_931]) (st := []) vd_X1_162 (e_X1_takeSymbol G l N_191 c0 r_931 hI_N_191 hk_c0 (by omega) Bt (TB.fr hB hI_M hk_c0 hF_N_191 rfl) (j + 4) (by omega) (by omega) x (q (b + 1)) hkx (by omega) (by omega) (by omega) (j + 5) (j + 6) (by omega) (by omega)) hk_c0 rfl rfl rfl ⟨by decide, by decide⟩ rfl rfl (Nat.le_of_ble_eq_true rfl) dX1_takeRule_126 rfl ?_
                        intro r_1147 N_1148 q_1149
                        obtain ⟨hI_N_1148, hG_N_1148, q_1149c⟩ := q_1149
                        have hF_N_1148 : Fr f_e_X1_takeRule M N_1148 := Fr.c hF_N_191 hG_N_1148 rfl
                        have hE_N_1148 : Cf (SL (M c0 0) (q 3 - 1)) M N_1148 := Cf.fr hE_N_191 hG_N_1148 rfl
                        have h_1150 := Inv.g hI_N_1148 hk_c0 rfl 9 (a := (-2147483648)) (b := 2147483647) rfl rfl
                        have h_1151 := Inv.g hI_N_1148 hk_c0 rfl 6 (a := 0) (b := 5) rfl rfl
                        have h_1152 := Inv.g hI_N_1148 hk_c0 rfl 7 (a := 0) (b := 900) rfl rfl
                        have h_1153 := Inv.g hI_N_1148 hk_c0 rfl 8 (a := 0) (b := 900) rfl rfl
                        have h_1154 := Inv.g hI_N_1148 hk_c0 rfl 2 (a := (-2147483648)) (b := 2147483647) rfl rfl
                        have h_1155 := Inv.g hI_N_1148 hk_c0 rfl 3 (a := (-2147483648)) (b := 2147483647) rfl rfl
                        rcases q_1149c with q_1149c | q_1149c | q_1149c | q_1149c | q_1149c | q_1149c | q_1149c | q_1149c | q_1149c | q_1149c | q_1149c | q_1149c | q_1149c | q_1149c | q_1149c
                        · exfalso; omega
                        · exfalso; omega
                        · exfalso; omega
                        · exfalso; omega
                        · exfalso; omega
                        · exfalso; omega
                        · exfalso; omega
                        · refine kx_if_eq 132 F 139 dX1_takeRule_129 (by decide) rfl (by omega) (fun h_1198 => ?_) (fun h_1198 => (by exfalso; omega))
                          refine kx_iconst 140 F dX1_takeRule_139 rfl ?_
                          exact kx_zret F hQ (by omega) ⟨hI_N_1148, hF_N_1148, (by omega), hE_N_1148, ⟨(j + 4), (-1), (Or.inl ⟨by omega, (Or.inr (Or.inr (Or.inr (Or.inr (Or.inr (Or.inr (Or.inr (Or.inr (Or.inr (Or.inr (Or.inr (Or.inr (Or.inr (Or.inr (Or.inr (Or.inr (Or.inr (Or.inr (Or.inl (by omega))))))))))))))))))))⟩), (fun h => absurd h (by omega))⟩⟩ dX1_takeRule_140
                        · refine kx_if_eq 132 F 139 dX1_takeRule_129 (by decide) rfl (by omega) (fun h_1199 => ?_) (fun h_1199 => (by exfalso; omega))
                          refine kx_iconst 140 F dX1_takeRule_139 rfl ?_
                          exact kx_zret F hQ (by omega) ⟨hI_N_1148, hF_N_1148, (by omega), hE_N_1148, ⟨(j + 4), (-1), (Or.inl ⟨by omega, (Or.inr (Or.inr (Or.inr (Or.inr (Or.inr (Or.inr (Or.inr (Or.inr (Or.inr (Or.inr (Or.inr (Or.inr (Or.inr (Or.inr (Or.inr (Or.inr (Or.inr (Or.inr (Or.inr (Or.inl (by omega)))))))))))))))))))))⟩), (fun h => absurd h (by omega))⟩⟩ dX1_takeRule_140
                        · refine kx_if_eq 132 F 139 dX1_takeRule_129 (by decide) rfl (by omega) (fun h_1200 => ?_) (fun h_1200 => (by exfalso; omega))
                          refine kx_iconst 140 F dX1_takeRule_139 rfl ?_
                          exact kx_zret F hQ (by omega) ⟨hI_N_1148, hF_N_1148, (by omega), hE_N_1148, ⟨(j + 4), (-1), (Or.inl ⟨by omega, (Or.inr (Or.inr (Or.inr (Or.inr (Or.inr (Or.inr (Or.inr (Or.inr (Or.inr (Or.inr (Or.inr (Or.inr (Or.inr (Or.inr (Or.inr (Or.inr (Or.inr (Or.inr (Or.inr (Or.inr (Or.inl (by omega))))))))))))))))))))))⟩), (fun h => absurd h (by omega))⟩⟩ dX1_takeRule_140
                        · refine kx_if_eq 132 F 139 dX1_takeRule_129 (by decide) rfl (by omega) (fun h_1201 => ?_) (fun h_1201 => (by exfalso; omega))
                          refine kx_iconst 140 F dX1_takeRule_139 rfl ?_
                          exact kx_zret F hQ (by omega) ⟨hI_N_1148, hF_N_1148, (by omega), hE_N_1148, ⟨(j + 4), (-1), (Or.inl ⟨by omega, (Or.inr (Or.inr (Or.inr (Or.inr (Or.inr (Or.inr (Or.inr (Or.inr (Or.inr (Or.inr (Or.inr (Or.inr (Or.inr (Or.inr (Or.inr (Or.inr (Or.inr (Or.inr (Or.inr (Or.inr (Or.inr (Or.inl (by omega)))))))))))))))))))))))⟩), (fun h => absurd h (by omega))⟩⟩ dX1_takeRule_140
                        · refine kx_if_eq 132 F 139 dX1_takeRule_129 (by decide) rfl (by omega) (fun h_1202 => ?_) (fun h_1202 => (by exfalso; omega))
                          refine kx_iconst 140 F dX1_takeRule_139 rfl ?_
                          exact kx_zret F hQ (by omega) ⟨hI_N_1148, hF_N_1148, (by omega), hE_N_1148, ⟨(j + 6), (tv Bt (j + 5)), (Or.inr ⟨(Or.inr (Or.inr (Or.inr (Or.inr (Or.inr (Or.inr (Or.inr (Or.inr (Or.inr (Or.inr (Or.inr (Or.inr (Or.inr (Or.inr (Or.inr (Or.inr (Or.inr (Or.inr (Or.inr (Or.inr (Or.inr (Or.inr (Or.inl (by omega)))))))))))))))))))))))), (Or.inl (by omega))⟩), (fun h => absurd h (by omega))⟩⟩ dX1_takeRule_140
                        · have ht_1203 := tp_le (n := M c0 5) (TB.tx hB hI_M hk_c0) (Inv.g hI_M hk_c0 rfl 5 (a := 0) (b := 900) rfl rfl).1 (j := (j + 6)) (by omega)
                          have ht_1205 : 0 ≤ tk Bt (j + 6) ∧ tk Bt (j + 6) ≤ 4 := tk_b (n := M c0 5) (TB.tx hB hI_M hk_c0) (by omega)
                          refine kx_if_eq 132 F 139 dX1_takeRule_129 (by decide) rfl (by omega) (fun h_1206 => (by exfalso; omega)) (fun h_1206 => ?_)
                          refine kx_aload_n 133 F 0 dX1_takeRule_132 rfl rfl rfl ?_
                          refine kx_Vi 136 (ci := 0) F (As := []) (st := []) vd_X1_120 (e_X1_standsSign G l N_1148 c0 hI_N_1148 hk_c0 Bt (TB.fr hB hI_M hk_c0 hF_N_1148 rfl) (j + 6) (by omega) (by omega)) hk_c0 rfl rfl rfl ⟨by decide, by decide⟩ rfl rfl (Nat.le_of_ble_eq_true rfl) dX1_takeRule_133 rfl ?_
                          intro r_1207 N_1208 q_1209
                          obtain ⟨hI_N_1208, hG_N_1208, q_1209c⟩ := q_1209
                          have hF_N_1208 : Fr f_e_X1_takeRule M N_1208 := Fr.c hF_N_1148 hG_N_1208 rfl
                          have hE_N_1208 : Cf (SL (M c0 0) (q 3 - 1)) M N_1208 := Cf.fr hE_N_1148 hG_N_1208 rfl
                          have h_1210 := Inv.g hI_N_1208 hk_c0 rfl 2 (a := (-2147483648)) (b := 2147483647) rfl rfl
                          have h_1211 := Inv.g hI_N_1208 hk_c0 rfl 3 (a := (-2147483648)) (b := 2147483647) rfl rfl
                          rcases q_1209c with q_1209c | q_1209c
                          · refine kx_if_ne 139 F 141 dX1_takeRule_136 (by decide) rfl (by omega) (fun h_1214 => ?_) (fun h_1214 => (by exfalso; omega))
                            have e_1215 : (N_1208 c0 9) = (N_1148 c0 9) := by rw [Fr.e hG_N_1208 hk_c0 _ rfl]
                            refine kx_aload_n 142 F 1 dX1_takeRule_141 rfl rfl rfl ?_
                            refine kx_iload_n 143 F 2 dX1_takeRule_142 rfl rfl rfl ?_
                            refine kx_iload_n 144 F 3 dX1_takeRule_143 rfl rfl rfl ?_
                            refine kx_iload 146 F 4 dX1_takeRule_144 rfl rfl ?_
                            refine kx_aload_n 147 F 0 dX1_takeRule_146 rfl rfl rfl ?_
                            refine kx_geti 150 F fl_X1_127 hk_c0 rfl rfl (j := 9) rfl dX1_takeRule_147 (v := (N_1148 c0 9)) (by rw [Fr.e hG_N_1208 hk_c0 _ rfl]) rfl ?_
                            refine kx_Vi 153 (ci := 0) F (As := [vI r_65, vI (N_75 c0 9), vI (N_134 c0 9), vI (N_1148 c0 9)]) (st := []) vd_X1_165 (e_X0_find G l N_1208 x r_65 (N_75 c0 9) (N_134 c0 9) (N_1148 c0 9) hI_N_1208 hk_13 (by omega) q b (AT.fr (AT.fr (AT.fr (AT.fr (AT.fr (AT.fr (AT.fr (AT.fr (AT.fr hA1 hI_M hk_13 hG_N_17 rfl) hI_N_17 hk_13 hG_N_44 rfl) hI_N_44 hk_13 hG_N_75 rfl) hI_N_75 hk_13 hG_N_116 rfl) hI_N_116 hk_13 hG_N_134 rfl) hI_N_134 hk_13 hG_N_173 rfl) hI_N_173 hk_13 hG_N_191 rfl) hI_N_191 hk_13 hG_N_1148 rfl) hI_N_1148 hk_13 hG_N_1208 rfl)) hk_13 rfl rfl rfl ⟨by decide, by decide⟩ rfl rfl (Nat.le_of_ble_eq_true rfl) dX1_takeRule_150 rfl ?_
                            intro r_1216 N_1217 q_1218
                            obtain ⟨rfl, q_1218c⟩ := q_1218
                            rcases q_1218c with q_1218c | q_1218c
                            · have hq_1219 : (rq q b r_65 (N_75 c0 9) (N_134 c0 9) (N_1148 c0 9)) = (rq q b (lfn Bt t (q 0) (q 1) (q 2) (j + 1)) (tv Bt (j + 2)) (tv Bt (j + 3)) (tv Bt (j + 5))) := rq_cg (by omega) (by omega) (by omega) (by omega)
                              refine kx_iconst 154 F dX1_takeRule_153 rfl ?_
                              refine kx_icmp_eq 157 F 163 dX1_takeRule_154 (by decide) rfl (by omega) (by decide) (fun h_1220 => (by exfalso; omega)) (fun h_1220 => ?_)
                              refine kx_aload_n 158 F 0 dX1_takeRule_157 rfl rfl rfl ?_
                              refine kx_iconst 159 F dX1_takeRule_158 rfl ?_
                              refine kx_Vi 162 (ci := 0) F (As := [vI 5]) (st := []) vd_X1_89 (e_X1_fail G l N_1208 c0 5 hI_N_1208 hk_c0 (by omega)) hk_c0 rfl rfl rfl ⟨by decide, by decide⟩ rfl rfl (Nat.le_of_ble_eq_true rfl) dX1_takeRule_159 rfl ?_
                              intro r_1221 N_1222 q_1223
                              obtain ⟨hI_N_1222, hG_N_1222, q_1223c⟩ := q_1223
                              have hF_N_1222 : Fr f_e_X1_takeRule M N_1222 := Fr.c hF_N_1208 hG_N_1222 rfl
                              have hE_N_1222 : Cf (SL (M c0 0) (q 3 - 1)) M N_1222 := Cf.fr hE_N_1208 hG_N_1222 rfl
                              have h_1224 := Inv.g hI_N_1222 hk_c0 rfl 2 (a := (-2147483648)) (b := 2147483647) rfl rfl
                              have e_1225 : (N_1208 c0 7) = (N_1148 c0 7) := by rw [Fr.e hG_N_1208 hk_c0 _ rfl]
                              have h_1226 := Inv.g hI_N_1222 hk_c0 rfl 3 (a := (-2147483648)) (b := 2147483647) rfl rfl
                              exact kx_zret F hQ (by omega) ⟨hI_N_1222, hF_N_1222, (by omega), hE_N_1222, ⟨(j + 6), (tv Bt (j + 5)), (Or.inr ⟨(Or.inr (Or.inr (Or.inr (Or.inr (Or.inr (Or.inr (Or.inr (Or.inr (Or.inr (Or.inr (Or.inr (Or.inr (Or.inr (Or.inr (Or.inr (Or.inr (Or.inr (Or.inr (Or.inr (Or.inr (Or.inr (Or.inr (Or.inl (by omega)))))))))))))))))))))))), (Or.inr (Or.inr (Or.inl (by omega))))⟩), (fun h => absurd h (by omega))⟩⟩ dX1_takeRule_162
                            · have hq_1227 : (rq q b r_65 (N_75 c0 9) (N_134 c0 9) (N_1148 c0 9)) = (rq q b (lfn Bt t (q 0) (q 1) (q 2) (j + 1)) (tv Bt (j + 2)) (tv Bt (j + 3)) (tv Bt (j + 5))) := rq_cg (by omega) (by omega) (by omega) (by omega)
                              refine kx_iconst 154 F dX1_takeRule_153 rfl ?_
                              refine kx_icmp_eq 157 F 163 dX1_takeRule_154 (by decide) rfl (by omega) (by decide) (fun h_1228 => ?_) (fun h_1228 => (by exfalso; omega))
                              refine kx_aload_n 164 F 1 dX1_takeRule_163 rfl rfl rfl ?_
                              refine kx_iload_n 165 F 2 dX1_takeRule_164 rfl rfl rfl ?_
                              refine kx_iload_n 166 F 3 dX1_takeRule_165 rfl rfl rfl ?_
                              refine kx_iload 168 F 4 dX1_takeRule_166 rfl rfl ?_
                              refine kx_aload_n 169 F 0 dX1_takeRule_168 rfl rfl rfl ?_
                              refine kx_geti 172 F fl_X1_127 hk_c0 rfl rfl (j := 9) rfl dX1_takeRule_169 (v := (N_1148 c0 9)) (by rw [Fr.e hG_N_1208 hk_c0 _ rfl]) rfl ?_
                              have e_1229 : (N_1208 x 4) = (M x 4) := by rw [Fr.e hG_N_1208 hk_13 _ rfl, Fr.e hG_N_1148 hk_13 _ rfl, Fr.e hG_N_191 hk_13 _ rfl, Fr.e hG_N_173 hk_13 _ rfl, Fr.e hG_N_134 hk_13 _ rfl, Fr.e hG_N_116 hk_13 _ rfl, Fr.e hG_N_75 hk_13 _ rfl, Fr.e hG_N_44 hk_13 _ rfl, Fr.e hG_N_17 hk_13 _ rfl]
                              refine kx_Vv 175 (ci := 0) F (As := [vI r_65, vI (N_75 c0 9), vI (N_134 c0 9), vI (N_1148 c0 9)]) (st := []) vd_X1_169 (e_X0_append G l N_1208 x r_65 (N_75 c0 9) (N_134 c0 9) (N_1148 c0 9) hI_N_1208 hk_13 (by omega) q b (AT.fr (AT.fr (AT.fr (AT.fr (AT.fr (AT.fr (AT.fr (AT.fr (AT.fr hA1 hI_M hk_13 hG_N_17 rfl) hI_N_17 hk_13 hG_N_44 rfl) hI_N_44 hk_13 hG_N_75 rfl) hI_N_75 hk_13 hG_N_116 rfl) hI_N_116 hk_13 hG_N_134 rfl) hI_N_134 hk_13 hG_N_173 rfl) hI_N_173 hk_13 hG_N_191 rfl) hI_N_191 hk_13 hG_N_1148 rfl) hI_N_1148 hk_13 hG_N_1208 rfl) (by omega)) hk_13 rfl rfl rfl ⟨by decide, by decide⟩ rfl rfl (Nat.le_of_ble_eq_true rfl) dX1_takeRule_172 rfl ?_
                              intro N_1230 q_1231
                              obtain ⟨hI_N_1230, hG_N_1230, hC_N_1230, hA_N_1230⟩ := q_1231
                              have hF_N_1230 : Fr f_e_X1_takeRule M N_1230 := Fr.c hF_N_1208 hG_N_1230 rfl
                              have hE_N_1230 : Cf (SL (M c0 0) (q 3 - 1)) M N_1230 := Cf.c hE_N_1208 hC_N_1230 (fun y hy => Or.inr (by have a := SA.in hy (FZ.fr hZ hF_N_1208 rfl) hk_13; have b := hZ.2.1 (M c0 0) hk_6; omega))
                              refine kx_iconst 176 F dX1_takeRule_175 rfl ?_
                              have e_1232 : (N_1230 c0 2) = (N_1208 c0 2) := by rw [Fr.e hG_N_1230 hk_c0 _ rfl]
                              have e_1233 : (N_1230 c0 3) = (N_1208 c0 3) := by rw [Fr.e hG_N_1230 hk_c0 _ rfl]
                              have e_1318 : (N_1230 c0 0) = (M c0 0) := by rw [Fr.e hG_N_1230 hk_c0 _ rfl, Fr.e hG_N_1208 hk_c0 _ rfl, Fr.e hG_N_1148 hk_c0 _ rfl, Fr.e hG_N_191 hk_c0 _ rfl, Fr.e hG_N_173 hk_c0 _ rfl, Fr.e hG_N_134 hk_c0 _ rfl, Fr.e hG_N_116 hk_c0 _ rfl, Fr.e hG_N_75 hk_c0 _ rfl, Fr.e hG_N_44 hk_c0 _ rfl, Fr.e hG_N_17 hk_c0 _ rfl]
                              have e_1319 : (N_1230 c0 9) = (N_1148 c0 9) := by rw [Fr.e hG_N_1230 hk_c0 _ rfl, Fr.e hG_N_1208 hk_c0 _ rfl]
                              have e_1320 : (N_1230 (M c0 0) 0) = (M (M c0 0) 0) := by rw [Fr.e hG_N_1230 hk_6 _ rfl, Fr.e hG_N_1208 hk_6 _ rfl, Fr.e hG_N_1148 hk_6 _ rfl, Fr.e hG_N_191 hk_6 _ rfl, Fr.e hG_N_173 hk_6 _ rfl, Fr.e hG_N_134 hk_6 _ rfl, Fr.e hG_N_116 hk_6 _ rfl, Fr.e hG_N_75 hk_6 _ rfl, Fr.e hG_N_44 hk_6 _ rfl, Fr.e hG_N_17 hk_6 _ rfl]
                              have e_1321 : (N_1230 (M c0 0) 1) = (M (M c0 0) 1) := by rw [Fr.e hG_N_1230 hk_6 _ rfl, Fr.e hG_N_1208 hk_6 _ rfl, Fr.e hG_N_1148 hk_6 _ rfl, Fr.e hG_N_191 hk_6 _ rfl, Fr.e hG_N_173 hk_6 _ rfl, Fr.e hG_N_134 hk_6 _ rfl, Fr.e hG_N_116 hk_6 _ rfl, Fr.e hG_N_75 hk_6 _ rfl, Fr.e hG_N_44 hk_6 _ rfl, Fr.e hG_N_17 hk_6 _ rfl]
                              have e_1322 : (N_1230 (M c0 0) 2) = (M (M c0 0) 2) := by rw [Fr.e hG_N_1230 hk_6 _ rfl, Fr.e hG_N_1208 hk_6 _ rfl, Fr.e hG_N_1148 hk_6 _ rfl, Fr.e hG_N_191 hk_6 _ rfl, Fr.e hG_N_173 hk_6 _ rfl, Fr.e hG_N_134 hk_6 _ rfl, Fr.e hG_N_116 hk_6 _ rfl, Fr.e hG_N_75 hk_6 _ rfl, Fr.e hG_N_44 hk_6 _ rfl, Fr.e hG_N_17 hk_6 _ rfl]
                              have e_1323 : (N_1230 (M c0 0) 3) = (M (M c0 0) 3) := by rw [Fr.e hG_N_1230 hk_6 _ rfl, Fr.e hG_N_1208 hk_6 _ rfl, Fr.e hG_N_1148 hk_6 _ rfl, Fr.e hG_N_191 hk_6 _ rfl, Fr.e hG_N_173 hk_6 _ rfl, Fr.e hG_N_134 hk_6 _ rfl, Fr.e hG_N_116 hk_6 _ rfl, Fr.e hG_N_75 hk_6 _ rfl, Fr.e hG_N_44 hk_6 _ rfl, Fr.e hG_N_17 hk_6 _ rfl]
                              have e_1326 : (N_1230 c0 6) = (N_1148 c0 6) := by rw [Fr.e hG_N_1230 hk_c0 _ rfl, Fr.e hG_N_1208 hk_c0 _ rfl]
                              have e_1327 : (N_1230 c0 7) = (N_1148 c0 7) := by rw [Fr.e hG_N_1230 hk_c0 _ rfl, Fr.e hG_N_1208 hk_c0 _ rfl]
                              have e_1328 : (N_1230 c0 8) = (N_1148 c0 8) := by rw [Fr.e hG_N_1230 hk_c0 _ rfl, Fr.e hG_N_1208 hk_c0 _ rfl]
                              exact kx_zret F hQ (by omega) ⟨hI_N_1230, hF_N_1230, (by omega), hE_N_1230, ⟨(j + 6), (tv Bt (j + 5)), (Or.inr ⟨(Or.inr (Or.inr (Or.inr (Or.inr (Or.inr (Or.inr (Or.inr (Or.inr (Or.inr (Or.inr (Or.inr (Or.inr (Or.inr (Or.inr (Or.inr (Or.inr (Or.inr (Or.inr (Or.inr (Or.inr (Or.inr (Or.inr (Or.inl (by omega)))))))))))))))))))))))), (Or.inr (Or.inr (Or.inr ((by omega)))))⟩), (fun _ => ⟨⟨by omega, by omega, by omega, by omega, by omega⟩, (CQ.cg (q' := (uprul q b (lfn Bt t (q 0) (q 1) (q 2) (j + 1)) (tv Bt (j + 2)) (tv Bt (j + 3)) (tv Bt (j + 5)))) hq (by rw [Fr.e hG_N_1230 hk_c0 _ rfl, Fr.e hG_N_1208 hk_c0 _ rfl, Fr.e hG_N_1148 hk_c0 _ rfl, Fr.e hG_N_191 hk_c0 _ rfl, Fr.e hG_N_173 hk_c0 _ rfl, Fr.e hG_N_134 hk_c0 _ rfl, Fr.e hG_N_116 hk_c0 _ rfl, Fr.e hG_N_75 hk_c0 _ rfl, Fr.e hG_N_44 hk_c0 _ rfl, Fr.e hG_N_17 hk_c0 _ rfl]) (by omega) (by omega) (by omega) (by rw [uprul_l (by omega) (by omega)]; omega) (uprul_l (by omega) (by omega)) (uprul_l (by omega) (by omega)) (uprul_l (by omega) (by omega)) (by rw [uprul_l (by omega) (by omega)]; omega)), (NU.cg (NU.fr (NU.fr (NU.fr (NU.fr (NU.fr (NU.fr (NU.fr (NU.fr (NU.fr (NU.fr hN hI_M hk_c0 hG_N_17 rfl) hI_N_17 hk_c0 hG_N_44 rfl) hI_N_44 hk_c0 hG_N_75 rfl) hI_N_75 hk_c0 hG_N_116 rfl) hI_N_116 hk_c0 hG_N_134 rfl) hI_N_134 hk_c0 hG_N_173 rfl) hI_N_173 hk_c0 hG_N_191 rfl) hI_N_191 hk_c0 hG_N_1148 rfl) hI_N_1148 hk_c0 hG_N_1208 rfl) hI_N_1208 hk_c0 hG_N_1230 rfl) (uprul_l (by omega) (by omega)) (uprul_l (by omega) (by omega)) (uprul_l (by omega) (by omega))), (CA.set (x := x) (b := b) hA hx hZ hI_M hk_6 hE_N_1230 (by rw [Fr.e hG_N_1230 hk_c0 _ rfl, Fr.e hG_N_1208 hk_c0 _ rfl, Fr.e hG_N_1148 hk_c0 _ rfl, Fr.e hG_N_191 hk_c0 _ rfl, Fr.e hG_N_173 hk_c0 _ rfl, Fr.e hG_N_134 hk_c0 _ rfl, Fr.e hG_N_116 hk_c0 _ rfl, Fr.e hG_N_75 hk_c0 _ rfl, Fr.e hG_N_44 hk_c0 _ rfl, Fr.e hG_N_17 hk_c0 _ rfl]) (by rw [Fr.e hG_N_1230 hk_6 _ rfl, Fr.e hG_N_1208 hk_6 _ rfl, Fr.e hG_N_1148 hk_6 _ rfl, Fr.e hG_N_191 hk_6 _ rfl, Fr.e hG_N_173 hk_6 _ rfl, Fr.e hG_N_134 hk_6 _ rfl, Fr.e hG_N_116 hk_6 _ rfl, Fr.e hG_N_75 hk_6 _ rfl, Fr.e hG_N_44 hk_6 _ rfl, Fr.e hG_N_17 hk_6 _ rfl]) (by rw [Fr.e hG_N_1230 hk_6 _ rfl, Fr.e hG_N_1208 hk_6 _ rfl, Fr.e hG_N_1148 hk_6 _ rfl, Fr.e hG_N_191 hk_6 _ rfl, Fr.e hG_N_173 hk_6 _ rfl, Fr.e hG_N_134 hk_6 _ rfl, Fr.e hG_N_116 hk_6 _ rfl, Fr.e hG_N_75 hk_6 _ rfl, Fr.e hG_N_44 hk_6 _ rfl, Fr.e hG_N_17 hk_6 _ rfl]) (by have ha := hA_N_1230; rw [show r_65 = (lfn Bt t (q 0) (q 1) (q 2) (j + 1)) by omega, show (N_75 c0 9) = (tv Bt (j + 2)) by omega, show (N_134 c0 9) = (tv Bt (j + 3)) by omega, show (N_1148 c0 9) = (tv Bt (j + 5)) by omega] at ha; exact ha) (fun k hk => uprul_l (by omega) (by omega)) hr)⟩)⟩⟩ dX1_takeRule_176
                          · refine kx_if_ne 139 F 141 dX1_takeRule_136 (by decide) rfl (by omega) (fun h_1329 => (by exfalso; omega)) (fun h_1329 => ?_)
                            refine kx_iconst 140 F dX1_takeRule_139 rfl ?_
                            exact kx_zret F hQ (by omega) ⟨hI_N_1208, hF_N_1208, (by omega), hE_N_1208, ⟨(j + 6), (tv Bt (j + 5)), (Or.inr ⟨(Or.inr (Or.inr (Or.inr (Or.inr (Or.inr (Or.inr (Or.inr (Or.inr (Or.inr (Or.inr (Or.inr (Or.inr (Or.inr (Or.inr (Or.inr (Or.inr (Or.inr (Or.inr (Or.inr (Or.inr (Or.inr (Or.inr (Or.inl (by omega)))))))))))))))))))))))), (Or.inr (Or.inl (by omega)))⟩), (fun h => absurd h (by omega))⟩⟩ dX1_takeRule_140
                        · refine kx_if_eq 132 F 139 dX1_takeRule_129 (by decide) rfl (by omega) (fun h_1330 => ?_) (fun h_1330 => (by exfalso; omega))
                          refine kx_iconst 140 F dX1_takeRule_139 rfl ?_
                          exact kx_zret F hQ (by omega) ⟨hI_N_1148, hF_N_1148, (by omega), hE_N_1148, ⟨(j + 5), (-1), (Or.inr ⟨(Or.inr (Or.inr (Or.inr (Or.inr (Or.inr (Or.inr (Or.inr (Or.inr (Or.inr (Or.inr (Or.inr (Or.inr (Or.inr (Or.inr (Or.inr (Or.inr (Or.inr (Or.inr (Or.inr (Or.inr (Or.inr (Or.inr (Or.inr ((by omega))))))))))))))))))))))))), (Or.inl (by omega))⟩), (fun h => absurd h (by omega))⟩⟩ dX1_takeRule_140
                        · have ht_1331 := tp_le (n := M c0 5) (TB.tx hB hI_M hk_c0) (Inv.g hI_M hk_c0 rfl 5 (a := 0) (b := 900) rfl rfl).1 (j := (j + 5)) (by omega)
                          have ht_1333 : 0 ≤ tk Bt (j + 5) ∧ tk Bt (j + 5) ≤ 4 := tk_b (n := M c0 5) (TB.tx hB hI_M hk_c0) (by omega)
                          refine kx_if_eq 132 F 139 dX1_takeRule_129 (by decide) rfl (by omega) (fun h_1334 => (by exfalso; omega)) (fun h_1334 => ?_)
                          refine kx_aload_n 133 F 0 dX1_takeRule_132 rfl rfl rfl ?_
                          refine kx_Vi 136 (ci := 0) F (As := []) (st := []) vd_X1_120 (e_X1_standsSign G l N_1148 c0 hI_N_1148 hk_c0 Bt (TB.fr hB hI_M hk_c0 hF_N_1148 rfl) (j + 5) (by omega) (by omega)) hk_c0 rfl rfl rfl ⟨by decide, by decide⟩ rfl rfl (Nat.le_of_ble_eq_true rfl) dX1_takeRule_133 rfl ?_
                          intro r_1335 N_1336 q_1337
                          obtain ⟨hI_N_1336, hG_N_1336, q_1337c⟩ := q_1337
                          have hF_N_1336 : Fr f_e_X1_takeRule M N_1336 := Fr.c hF_N_1148 hG_N_1336 rfl
                          have hE_N_1336 : Cf (SL (M c0 0) (q 3 - 1)) M N_1336 := Cf.fr hE_N_1148 hG_N_1336 rfl
                          have h_1338 := Inv.g hI_N_1336 hk_c0 rfl 2 (a := (-2147483648)) (b := 2147483647) rfl rfl
                          have h_1339 := Inv.g hI_N_1336 hk_c0 rfl 3 (a := (-2147483648)) (b := 2147483647) rfl rfl
                          rcases q_1337c with q_1337c | q_1337c
                          · refine kx_if_ne 139 F 141 dX1_takeRule_136 (by decide) rfl (by omega) (fun h_1342 => ?_) (fun h_1342 => (by exfalso; omega))
                            have e_1343 : (N_1336 c0 9) = (N_1148 c0 9) := by rw [Fr.e hG_N_1336 hk_c0 _ rfl]
                            refine kx_aload_n 142 F 1 dX1_takeRule_141 rfl rfl rfl ?_
                            refine kx_iload_n 143 F 2 dX1_takeRule_142 rfl rfl rfl ?_
                            refine kx_iload_n 144 F 3 dX1_takeRule_143 rfl rfl rfl ?_
                            refine kx_iload 146 F 4 dX1_takeRule_144 rfl rfl ?_
                            refine kx_aload_n 147 F 0 dX1_takeRule_146 rfl rfl rfl ?_
                            refine kx_geti 150 F fl_X1_127 hk_c0 rfl rfl (j := 9) rfl dX1_takeRule_147 (v := (N_1148 c0 9)) (by rw [Fr.e hG_N_1336 hk_c0 _ rfl]) rfl ?_
                            refine kx_Vi 153 (ci := 0) F (As := [vI r_65, vI (N_75 c0 9), vI (N_134 c0 9), vI (N_1148 c0 9)]) (st := []) vd_X1_165 (e_X0_find G l N_1336 x r_65 (N_75 c0 9) (N_134 c0 9) (N_1148 c0 9) hI_N_1336 hk_13 (by omega) q b (AT.fr (AT.fr (AT.fr (AT.fr (AT.fr (AT.fr (AT.fr (AT.fr (AT.fr hA1 hI_M hk_13 hG_N_17 rfl) hI_N_17 hk_13 hG_N_44 rfl) hI_N_44 hk_13 hG_N_75 rfl) hI_N_75 hk_13 hG_N_116 rfl) hI_N_116 hk_13 hG_N_134 rfl) hI_N_134 hk_13 hG_N_173 rfl) hI_N_173 hk_13 hG_N_191 rfl) hI_N_191 hk_13 hG_N_1148 rfl) hI_N_1148 hk_13 hG_N_1336 rfl)) hk_13 rfl rfl rfl ⟨by decide, by decide⟩ rfl rfl (Nat.le_of_ble_eq_true rfl) dX1_takeRule_150 rfl ?_
                            intro r_1344 N_1345 q_1346
                            obtain ⟨rfl, q_1346c⟩ := q_1346
                            rcases q_1346c with q_1346c | q_1346c
                            · have hq_1347 : (rq q b r_65 (N_75 c0 9) (N_134 c0 9) (N_1148 c0 9)) = (rq q b (lfn Bt t (q 0) (q 1) (q 2) (j + 1)) (tv Bt (j + 2)) (tv Bt (j + 3)) (-1)) := rq_cg (by omega) (by omega) (by omega) (by omega)
                              refine kx_iconst 154 F dX1_takeRule_153 rfl ?_
                              refine kx_icmp_eq 157 F 163 dX1_takeRule_154 (by decide) rfl (by omega) (by decide) (fun h_1348 => (by exfalso; omega)) (fun h_1348 => ?_)
                              refine kx_aload_n 158 F 0 dX1_takeRule_157 rfl rfl rfl ?_
                              refine kx_iconst 159 F dX1_takeRule_158 rfl ?_
                              refine kx_Vi 162 (ci := 0) F (As := [vI 5]) (st := []) vd_X1_89 (e_X1_fail G l N_1336 c0 5 hI_N_1336 hk_c0 (by omega)) hk_c0 rfl rfl rfl ⟨by decide, by decide⟩ rfl rfl (Nat.le_of_ble_eq_true rfl) dX1_takeRule_159 rfl ?_
                              intro r_1349 N_1350 q_1351
                              obtain ⟨hI_N_1350, hG_N_1350, q_1351c⟩ := q_1351
                              have hF_N_1350 : Fr f_e_X1_takeRule M N_1350 := Fr.c hF_N_1336 hG_N_1350 rfl
                              have hE_N_1350 : Cf (SL (M c0 0) (q 3 - 1)) M N_1350 := Cf.fr hE_N_1336 hG_N_1350 rfl
                              have h_1352 := Inv.g hI_N_1350 hk_c0 rfl 2 (a := (-2147483648)) (b := 2147483647) rfl rfl
                              have e_1353 : (N_1336 c0 7) = (N_1148 c0 7) := by rw [Fr.e hG_N_1336 hk_c0 _ rfl]
                              have h_1354 := Inv.g hI_N_1350 hk_c0 rfl 3 (a := (-2147483648)) (b := 2147483647) rfl rfl
                              exact kx_zret F hQ (by omega) ⟨hI_N_1350, hF_N_1350, (by omega), hE_N_1350, ⟨(j + 5), (-1), (Or.inr ⟨(Or.inr (Or.inr (Or.inr (Or.inr (Or.inr (Or.inr (Or.inr (Or.inr (Or.inr (Or.inr (Or.inr (Or.inr (Or.inr (Or.inr (Or.inr (Or.inr (Or.inr (Or.inr (Or.inr (Or.inr (Or.inr (Or.inr (Or.inr ((by omega))))))))))))))))))))))))), (Or.inr (Or.inr (Or.inl (by omega))))⟩), (fun h => absurd h (by omega))⟩⟩ dX1_takeRule_162
                            · have hq_1355 : (rq q b r_65 (N_75 c0 9) (N_134 c0 9) (N_1148 c0 9)) = (rq q b (lfn Bt t (q 0) (q 1) (q 2) (j + 1)) (tv Bt (j + 2)) (tv Bt (j + 3)) (-1)) := rq_cg (by omega) (by omega) (by omega) (by omega)
                              refine kx_iconst 154 F dX1_takeRule_153 rfl ?_
                              refine kx_icmp_eq 157 F 163 dX1_takeRule_154 (by decide) rfl (by omega) (by decide) (fun h_1356 => ?_) (fun h_1356 => (by exfalso; omega))
                              refine kx_aload_n 164 F 1 dX1_takeRule_163 rfl rfl rfl ?_
                              refine kx_iload_n 165 F 2 dX1_takeRule_164 rfl rfl rfl ?_
                              refine kx_iload_n 166 F 3 dX1_takeRule_165 rfl rfl rfl ?_
                              refine kx_iload 168 F 4 dX1_takeRule_166 rfl rfl ?_
                              refine kx_aload_n 169 F 0 dX1_takeRule_168 rfl rfl rfl ?_
                              refine kx_geti 172 F fl_X1_127 hk_c0 rfl rfl (j := 9) rfl dX1_takeRule_169 (v := (N_1148 c0 9)) (by rw [Fr.e hG_N_1336 hk_c0 _ rfl]) rfl ?_
                              have e_1357 : (N_1336 x 4) = (M x 4) := by rw [Fr.e hG_N_1336 hk_13 _ rfl, Fr.e hG_N_1148 hk_13 _ rfl, Fr.e hG_N_191 hk_13 _ rfl, Fr.e hG_N_173 hk_13 _ rfl, Fr.e hG_N_134 hk_13 _ rfl, Fr.e hG_N_116 hk_13 _ rfl, Fr.e hG_N_75 hk_13 _ rfl, Fr.e hG_N_44 hk_13 _ rfl, Fr.e hG_N_17 hk_13 _ rfl]
                              refine kx_Vv 175 (ci := 0) F (As := [vI r_65, vI (N_75 c0 9), vI (N_134 c0 9), vI (N_1148 c0 9)]) (st := []) vd_X1_169 (e_X0_append G l N_1336 x r_65 (N_75 c0 9) (N_134 c0 9) (N_1148 c0 9) hI_N_1336 hk_13 (by omega) q b (AT.fr (AT.fr (AT.fr (AT.fr (AT.fr (AT.fr (AT.fr (AT.fr (AT.fr hA1 hI_M hk_13 hG_N_17 rfl) hI_N_17 hk_13 hG_N_44 rfl) hI_N_44 hk_13 hG_N_75 rfl) hI_N_75 hk_13 hG_N_116 rfl) hI_N_116 hk_13 hG_N_134 rfl) hI_N_134 hk_13 hG_N_173 rfl) hI_N_173 hk_13 hG_N_191 rfl) hI_N_191 hk_13 hG_N_1148 rfl) hI_N_1148 hk_13 hG_N_1336 rfl) (by omega)) hk_13 rfl rfl rfl ⟨by decide, by decide⟩ rfl rfl (Nat.le_of_ble_eq_true rfl) dX1_takeRule_172 rfl ?_
                              intro N_1358 q_1359
                              obtain ⟨hI_N_1358, hG_N_1358, hC_N_1358, hA_N_1358⟩ := q_1359
                              have hF_N_1358 : Fr f_e_X1_takeRule M N_1358 := Fr.c hF_N_1336 hG_N_1358 rfl
                              have hE_N_1358 : Cf (SL (M c0 0) (q 3 - 1)) M N_1358 := Cf.c hE_N_1336 hC_N_1358 (fun y hy => Or.inr (by have a := SA.in hy (FZ.fr hZ hF_N_1336 rfl) hk_13; have b := hZ.2.1 (M c0 0) hk_6; omega))
                              refine kx_iconst 176 F dX1_takeRule_175 rfl ?_
                              have e_1360 : (N_1358 c0 2) = (N_1336 c0 2) := by rw [Fr.e hG_N_1358 hk_c0 _ rfl]
                              have e_1361 : (N_1358 c0 3) = (N_1336 c0 3) := by rw [Fr.e hG_N_1358 hk_c0 _ rfl]
                              have e_1486 : (N_1358 c0 0) = (M c0 0) := by rw [Fr.e hG_N_1358 hk_c0 _ rfl, Fr.e hG_N_1336 hk_c0 _ rfl, Fr.e hG_N_1148 hk_c0 _ rfl, Fr.e hG_N_191 hk_c0 _ rfl, Fr.e hG_N_173 hk_c0 _ rfl, Fr.e hG_N_134 hk_c0 _ rfl, Fr.e hG_N_116 hk_c0 _ rfl, Fr.e hG_N_75 hk_c0 _ rfl, Fr.e hG_N_44 hk_c0 _ rfl, Fr.e hG_N_17 hk_c0 _ rfl]
                              have e_1487 : (N_1358 c0 9) = (N_1148 c0 9) := by rw [Fr.e hG_N_1358 hk_c0 _ rfl, Fr.e hG_N_1336 hk_c0 _ rfl]
                              have e_1488 : (N_1358 (M c0 0) 0) = (M (M c0 0) 0) := by rw [Fr.e hG_N_1358 hk_6 _ rfl, Fr.e hG_N_1336 hk_6 _ rfl, Fr.e hG_N_1148 hk_6 _ rfl, Fr.e hG_N_191 hk_6 _ rfl, Fr.e hG_N_173 hk_6 _ rfl, Fr.e hG_N_134 hk_6 _ rfl, Fr.e hG_N_116 hk_6 _ rfl, Fr.e hG_N_75 hk_6 _ rfl, Fr.e hG_N_44 hk_6 _ rfl, Fr.e hG_N_17 hk_6 _ rfl]
                              have e_1489 : (N_1358 (M c0 0) 1) = (M (M c0 0) 1) := by rw [Fr.e hG_N_1358 hk_6 _ rfl, Fr.e hG_N_1336 hk_6 _ rfl, Fr.e hG_N_1148 hk_6 _ rfl, Fr.e hG_N_191 hk_6 _ rfl, Fr.e hG_N_173 hk_6 _ rfl, Fr.e hG_N_134 hk_6 _ rfl, Fr.e hG_N_116 hk_6 _ rfl, Fr.e hG_N_75 hk_6 _ rfl, Fr.e hG_N_44 hk_6 _ rfl, Fr.e hG_N_17 hk_6 _ rfl]
                              have e_1490 : (N_1358 (M c0 0) 2) = (M (M c0 0) 2) := by rw [Fr.e hG_N_1358 hk_6 _ rfl, Fr.e hG_N_1336 hk_6 _ rfl, Fr.e hG_N_1148 hk_6 _ rfl, Fr.e hG_N_191 hk_6 _ rfl, Fr.e hG_N_173 hk_6 _ rfl, Fr.e hG_N_134 hk_6 _ rfl, Fr.e hG_N_116 hk_6 _ rfl, Fr.e hG_N_75 hk_6 _ rfl, Fr.e hG_N_44 hk_6 _ rfl, Fr.e hG_N_17 hk_6 _ rfl]
                              have e_1491 : (N_1358 (M c0 0) 3) = (M (M c0 0) 3) := by rw [Fr.e hG_N_1358 hk_6 _ rfl, Fr.e hG_N_1336 hk_6 _ rfl, Fr.e hG_N_1148 hk_6 _ rfl, Fr.e hG_N_191 hk_6 _ rfl, Fr.e hG_N_173 hk_6 _ rfl, Fr.e hG_N_134 hk_6 _ rfl, Fr.e hG_N_116 hk_6 _ rfl, Fr.e hG_N_75 hk_6 _ rfl, Fr.e hG_N_44 hk_6 _ rfl, Fr.e hG_N_17 hk_6 _ rfl]
                              have e_1494 : (N_1358 c0 6) = (N_1148 c0 6) := by rw [Fr.e hG_N_1358 hk_c0 _ rfl, Fr.e hG_N_1336 hk_c0 _ rfl]
                              have e_1495 : (N_1358 c0 7) = (N_1148 c0 7) := by rw [Fr.e hG_N_1358 hk_c0 _ rfl, Fr.e hG_N_1336 hk_c0 _ rfl]
                              have e_1496 : (N_1358 c0 8) = (N_1148 c0 8) := by rw [Fr.e hG_N_1358 hk_c0 _ rfl, Fr.e hG_N_1336 hk_c0 _ rfl]
                              exact kx_zret F hQ (by omega) ⟨hI_N_1358, hF_N_1358, (by omega), hE_N_1358, ⟨(j + 5), (-1), (Or.inr ⟨(Or.inr (Or.inr (Or.inr (Or.inr (Or.inr (Or.inr (Or.inr (Or.inr (Or.inr (Or.inr (Or.inr (Or.inr (Or.inr (Or.inr (Or.inr (Or.inr (Or.inr (Or.inr (Or.inr (Or.inr (Or.inr (Or.inr (Or.inr ((by omega))))))))))))))))))))))))), (Or.inr (Or.inr (Or.inr ((by omega)))))⟩), (fun _ => ⟨⟨by omega, by omega, by omega, by omega, by omega⟩, (CQ.cg (q' := (uprul q b (lfn Bt t (q 0) (q 1) (q 2) (j + 1)) (tv Bt (j + 2)) (tv Bt (j + 3)) (-1))) hq (by rw [Fr.e hG_N_1358 hk_c0 _ rfl, Fr.e hG_N_1336 hk_c0 _ rfl, Fr.e hG_N_1148 hk_c0 _ rfl, Fr.e hG_N_191 hk_c0 _ rfl, Fr.e hG_N_173 hk_c0 _ rfl, Fr.e hG_N_134 hk_c0 _ rfl, Fr.e hG_N_116 hk_c0 _ rfl, Fr.e hG_N_75 hk_c0 _ rfl, Fr.e hG_N_44 hk_c0 _ rfl, Fr.e hG_N_17 hk_c0 _ rfl]) (by omega) (by omega) (by omega) (by rw [uprul_l (by omega) (by omega)]; omega) (uprul_l (by omega) (by omega)) (uprul_l (by omega) (by omega)) (uprul_l (by omega) (by omega)) (by rw [uprul_l (by omega) (by omega)]; omega)), (NU.cg (NU.fr (NU.fr (NU.fr (NU.fr (NU.fr (NU.fr (NU.fr (NU.fr (NU.fr (NU.fr hN hI_M hk_c0 hG_N_17 rfl) hI_N_17 hk_c0 hG_N_44 rfl) hI_N_44 hk_c0 hG_N_75 rfl) hI_N_75 hk_c0 hG_N_116 rfl) hI_N_116 hk_c0 hG_N_134 rfl) hI_N_134 hk_c0 hG_N_173 rfl) hI_N_173 hk_c0 hG_N_191 rfl) hI_N_191 hk_c0 hG_N_1148 rfl) hI_N_1148 hk_c0 hG_N_1336 rfl) hI_N_1336 hk_c0 hG_N_1358 rfl) (uprul_l (by omega) (by omega)) (uprul_l (by omega) (by omega)) (uprul_l (by omega) (by omega))), (CA.set (x := x) (b := b) hA hx hZ hI_M hk_6 hE_N_1358 (by rw [Fr.e hG_N_1358 hk_c0 _ rfl, Fr.e hG_N_1336 hk_c0 _ rfl, Fr.e hG_N_1148 hk_c0 _ rfl, Fr.e hG_N_191 hk_c0 _ rfl, Fr.e hG_N_173 hk_c0 _ rfl, Fr.e hG_N_134 hk_c0 _ rfl, Fr.e hG_N_116 hk_c0 _ rfl, Fr.e hG_N_75 hk_c0 _ rfl, Fr.e hG_N_44 hk_c0 _ rfl, Fr.e hG_N_17 hk_c0 _ rfl]) (by rw [Fr.e hG_N_1358 hk_6 _ rfl, Fr.e hG_N_1336 hk_6 _ rfl, Fr.e hG_N_1148 hk_6 _ rfl, Fr.e hG_N_191 hk_6 _ rfl, Fr.e hG_N_173 hk_6 _ rfl, Fr.e hG_N_134 hk_6 _ rfl, Fr.e hG_N_116 hk_6 _ rfl, Fr.e hG_N_75 hk_6 _ rfl, Fr.e hG_N_44 hk_6 _ rfl, Fr.e hG_N_17 hk_6 _ rfl]) (by rw [Fr.e hG_N_1358 hk_6 _ rfl, Fr.e hG_N_1336 hk_6 _ rfl, Fr.e hG_N_1148 hk_6 _ rfl, Fr.e hG_N_191 hk_6 _ rfl, Fr.e hG_N_173 hk_6 _ rfl, Fr.e hG_N_134 hk_6 _ rfl, Fr.e hG_N_116 hk_6 _ rfl, Fr.e hG_N_75 hk_6 _ rfl, Fr.e hG_N_44 hk_6 _ rfl, Fr.e hG_N_17 hk_6 _ rfl]) (by have ha := hA_N_1358; rw [show r_65 = (lfn Bt t (q 0) (q 1) (q 2) (j + 1)) by omega, show (N_75 c0 9) = (tv Bt (j + 2)) by omega, show (N_134 c0 9) = (tv Bt (j + 3)) by omega, show (N_1148 c0 9) = (-1) by omega] at ha; exact ha) (fun k hk => uprul_l (by omega) (by omega)) hr)⟩)⟩⟩ dX1_takeRule_176
                          · refine kx_if_ne 139 F 141 dX1_takeRule_136 (by decide) rfl (by omega) (fun h_1497 => (by exfalso; omega)) (fun h_1497 => ?_)
                            refine kx_iconst 140 F dX1_takeRule_139 rfl ?_
                            exact kx_zret F hQ (by omega) ⟨hI_N_1336, hF_N_1336, (by omega), hE_N_1336, ⟨(j + 5), (-1), (Or.inr ⟨(Or.inr (Or.inr (Or.inr (Or.inr (Or.inr (Or.inr (Or.inr (Or.inr (Or.inr (Or.inr (Or.inr (Or.inr (Or.inr (Or.inr (Or.inr (Or.inr (Or.inr (Or.inr (Or.inr (Or.inr (Or.inr (Or.inr (Or.inr ((by omega))))))))))))))))))))))))), (Or.inr (Or.inl (by omega)))⟩), (fun h => absurd h (by omega))⟩⟩ dX1_takeRule_140
                      · have e_1498 : (N_191 c0 0) = (M c0 0) := by rw [Fr.e hG_N_191 hk_c0 _ rfl, Fr.e hG_N_173 hk_c0 _ rfl, Fr.e hG_N_134 hk_c0 _ rfl, Fr.e hG_N_116 hk_c0 _ rfl, Fr.e hG_N_75 hk_c0 _ rfl, Fr.e hG_N_44 hk_c0 _ rfl, Fr.e hG_N_17 hk_c0 _ rfl]
                        have e_1499 : (N_191 (N_191 c0 0) 3) = (M (M c0 0) 3) := by rw [e_1498, Fr.e hG_N_191 hk_6 _ rfl, Fr.e hG_N_173 hk_6 _ rfl, Fr.e hG_N_134 hk_6 _ rfl, Fr.e hG_N_116 hk_6 _ rfl, Fr.e hG_N_75 hk_6 _ rfl, Fr.e hG_N_44 hk_6 _ rfl, Fr.e hG_N_17 hk_6 _ rfl]
                        have e_1500 : N_191 (N_191 c0 0) 4 = M (M c0 0) 4 := by rw [Fr.e hG_N_191 hk_c0 _ rfl, Fr.e hG_N_173 hk_c0 _ rfl, Fr.e hG_N_134 hk_c0 _ rfl, Fr.e hG_N_116 hk_c0 _ rfl, Fr.e hG_N_75 hk_c0 _ rfl, Fr.e hG_N_44 hk_c0 _ rfl, Fr.e hG_N_17 hk_c0 _ rfl, Fr.e hG_N_191 hk_6 _ rfl, Fr.e hG_N_173 hk_6 _ rfl, Fr.e hG_N_134 hk_6 _ rfl, Fr.e hG_N_116 hk_6 _ rfl, Fr.e hG_N_75 hk_6 _ rfl, Fr.e hG_N_44 hk_6 _ rfl, Fr.e hG_N_17 hk_6 _ rfl]
                        have e_1501 : N_191 (N_191 c0 0) 5 = M (M c0 0) 5 := by rw [Fr.e hG_N_191 hk_c0 _ rfl, Fr.e hG_N_173 hk_c0 _ rfl, Fr.e hG_N_134 hk_c0 _ rfl, Fr.e hG_N_116 hk_c0 _ rfl, Fr.e hG_N_75 hk_c0 _ rfl, Fr.e hG_N_44 hk_c0 _ rfl, Fr.e hG_N_17 hk_c0 _ rfl, Fr.e hG_N_191 hk_6 _ rfl, Fr.e hG_N_173 hk_6 _ rfl, Fr.e hG_N_134 hk_6 _ rfl, Fr.e hG_N_116 hk_6 _ rfl, Fr.e hG_N_75 hk_6 _ rfl, Fr.e hG_N_44 hk_6 _ rfl, Fr.e hG_N_17 hk_6 _ rfl]
                        have e_1502 : (N_191 x 1) = (M x 1) := by rw [Fr.e hG_N_191 hk_13 _ rfl, Fr.e hG_N_173 hk_13 _ rfl, Fr.e hG_N_134 hk_13 _ rfl, Fr.e hG_N_116 hk_13 _ rfl, Fr.e hG_N_75 hk_13 _ rfl, Fr.e hG_N_44 hk_13 _ rfl, Fr.e hG_N_17 hk_13 _ rfl]
                        have h_1503 := Inv.g hI_M hk_13 rfl 1 (a := 0) (b := 3) rfl rfl
                        refine kx_Vi 129 (ci := 0) F (As := [vI r_931]) (st := []) vd_X1_162 (e_X1_takeSymbol G l N_191 c0 r_931 hI_N_191 hk_c0 (by omega) Bt (TB.fr hB hI_M hk_c0 hF_N_191 rfl) (j + 4) (by omega) (by omega) x (q (b + 1)) hkx (by omega) (by omega) (by omega) (j + 5) (j + 6) (by omega) (by omega)) hk_c0 rfl rfl rfl ⟨by decide, by decide⟩ rfl rfl (Nat.le_of_ble_eq_true rfl) dX1_takeRule_126 rfl ?_
                        intro r_1504 N_1505 q_1506
                        obtain ⟨hI_N_1505, hG_N_1505, q_1506c⟩ := q_1506
                        have hF_N_1505 : Fr f_e_X1_takeRule M N_1505 := Fr.c hF_N_191 hG_N_1505 rfl
                        have hE_N_1505 : Cf (SL (M c0 0) (q 3 - 1)) M N_1505 := Cf.fr hE_N_191 hG_N_1505 rfl
                        have h_1507 := Inv.g hI_N_1505 hk_c0 rfl 9 (a := (-2147483648)) (b := 2147483647) rfl rfl
                        have h_1508 := Inv.g hI_N_1505 hk_c0 rfl 6 (a := 0) (b := 5) rfl rfl
                        have h_1509 := Inv.g hI_N_1505 hk_c0 rfl 7 (a := 0) (b := 900) rfl rfl
                        have h_1510 := Inv.g hI_N_1505 hk_c0 rfl 8 (a := 0) (b := 900) rfl rfl
                        have h_1511 := Inv.g hI_N_1505 hk_c0 rfl 2 (a := (-2147483648)) (b := 2147483647) rfl rfl
                        have h_1512 := Inv.g hI_N_1505 hk_c0 rfl 3 (a := (-2147483648)) (b := 2147483647) rfl rfl
                        rcases q_1506c with q_1506c | q_1506c | q_1506c | q_1506c | q_1506c | q_1506c | q_1506c | q_1506c | q_1506c | q_1506c | q_1506c | q_1506c | q_1506c | q_1506c | q_1506c
                        · skip
                          refine kx_if_eq 132 F 139 dX1_takeRule_129 (by decide) rfl (by omega) (fun h_1558 => (by exfalso; omega)) (fun h_1558 => ?_)
                          refine kx_aload_n 133 F 0 dX1_takeRule_132 rfl rfl rfl ?_
                          refine kx_Vi 136 (ci := 0) F (As := []) (st := []) vd_X1_120 (e_X1_standsSign G l N_1505 c0 hI_N_1505 hk_c0 Bt (TB.fr hB hI_M hk_c0 hF_N_1505 rfl) (j + 4) (by omega) (by omega)) hk_c0 rfl rfl rfl ⟨by decide, by decide⟩ rfl rfl (Nat.le_of_ble_eq_true rfl) dX1_takeRule_133 rfl ?_
                          intro r_1559 N_1560 q_1561
                          obtain ⟨hI_N_1560, hG_N_1560, q_1561c⟩ := q_1561
                          have hF_N_1560 : Fr f_e_X1_takeRule M N_1560 := Fr.c hF_N_1505 hG_N_1560 rfl
                          have hE_N_1560 : Cf (SL (M c0 0) (q 3 - 1)) M N_1560 := Cf.fr hE_N_1505 hG_N_1560 rfl
                          have h_1562 := Inv.g hI_N_1560 hk_c0 rfl 2 (a := (-2147483648)) (b := 2147483647) rfl rfl
                          have h_1563 := Inv.g hI_N_1560 hk_c0 rfl 3 (a := (-2147483648)) (b := 2147483647) rfl rfl
                          rcases q_1561c with q_1561c | q_1561c
                          · exfalso; omega
                          · refine kx_if_ne 139 F 141 dX1_takeRule_136 (by decide) rfl (by omega) (fun h_1566 => (by exfalso; omega)) (fun h_1566 => ?_)
                            refine kx_iconst 140 F dX1_takeRule_139 rfl ?_
                            exact kx_zret F hQ (by omega) ⟨hI_N_1560, hF_N_1560, (by omega), hE_N_1560, ⟨(j + 4), (-1), (Or.inr ⟨(Or.inr (Or.inr (Or.inr (Or.inr (Or.inr (Or.inr (Or.inr (Or.inr (Or.inr (Or.inr (Or.inl (by omega)))))))))))), (Or.inr (Or.inl (by omega)))⟩), (fun h => absurd h (by omega))⟩⟩ dX1_takeRule_140
                        · exfalso; omega
                        · exfalso; omega
                        · exfalso; omega
                        · exfalso; omega
                        · exfalso; omega
                        · exfalso; omega
                        · exfalso; omega
                        · exfalso; omega
                        · exfalso; omega
                        · exfalso; omega
                        · exfalso; omega
                        · exfalso; omega
                        · exfalso; omega
                        · exfalso; omega
                    · refine kx_if_eq 117 F 139 dX1_takeRule_114 (by decide) rfl (by omega) (fun h_1567 => ?_) (fun h_1567 => (by exfalso; omega))
                      refine kx_iconst 140 F dX1_takeRule_139 rfl ?_
                      exact kx_zret F hQ (by omega) ⟨hI_N_191, hF_N_191, (by omega), hE_N_191, ⟨(j + 4), (-1), zRR.b4 (by omega) (by omega) (by omega) (by omega) (by omega), fun h => absurd h (by omega)⟩⟩ dX1_takeRule_140
                  · exfalso; omega
                  · exfalso; omega
                  · refine kx_if_ne 102 F 104 dX1_takeRule_99 (by decide) rfl (by omega) (fun h_1568 => (by exfalso; omega)) (fun h_1568 => ?_)
                    refine kx_iconst 103 F dX1_takeRule_102 rfl ?_
                    exact kx_zret F hQ (by omega) ⟨hI_N_173, hF_N_173, (by omega), hE_N_173, ⟨(j + 4), (-1), (Or.inl ⟨by omega, (Or.inr (Or.inr (Or.inr (Or.inr (Or.inr (Or.inr (Or.inr (Or.inr (Or.inr (Or.inl (by omega)))))))))))⟩), (fun h => absurd h (by omega))⟩⟩ dX1_takeRule_103
                · refine kx_if_eq 88 F 102 dX1_takeRule_85 (by decide) rfl (by omega) (fun h_1569 => ?_) (fun h_1569 => (by exfalso; omega))
                  refine kx_iconst 103 F dX1_takeRule_102 rfl ?_
                  exact kx_zret F hQ (by omega) ⟨hI_N_134, hF_N_134, (by omega), hE_N_134, ⟨(j + 4), (-1), (Or.inl ⟨by omega, (Or.inr (Or.inr (Or.inr (Or.inr (Or.inr (Or.inr (Or.inr (Or.inl (by omega)))))))))⟩), (fun h => absurd h (by omega))⟩⟩ dX1_takeRule_103
              · exfalso; omega
              · exfalso; omega
              · refine kx_if_ne 74 F 76 dX1_takeRule_71 (by decide) rfl (by omega) (fun h_1570 => (by exfalso; omega)) (fun h_1570 => ?_)
                refine kx_iconst 75 F dX1_takeRule_74 rfl ?_
                exact kx_zret F hQ (by omega) ⟨hI_N_116, hF_N_116, (by omega), hE_N_116, ⟨(j + 4), (-1), (Or.inl ⟨by omega, (Or.inr (Or.inr (Or.inr (Or.inr (Or.inr (Or.inr (Or.inl (by omega))))))))⟩), (fun h => absurd h (by omega))⟩⟩ dX1_takeRule_75
            · refine kx_if_eq 60 F 74 dX1_takeRule_57 (by decide) rfl (by omega) (fun h_1571 => ?_) (fun h_1571 => (by exfalso; omega))
              refine kx_iconst 75 F dX1_takeRule_74 rfl ?_
              exact kx_zret F hQ (by omega) ⟨hI_N_75, hF_N_75, (by omega), hE_N_75, ⟨(j + 4), (-1), (Or.inl ⟨by omega, (Or.inr (Or.inr (Or.inr (Or.inr (Or.inl (by omega))))))⟩), (fun h => absurd h (by omega))⟩⟩ dX1_takeRule_75
          · refine kx_aload_n 48 F 0 dX1_takeRule_47 rfl rfl rfl ?_
            refine kx_iconst 49 F dX1_takeRule_48 rfl ?_
            refine kx_Vi 52 (ci := 0) F (As := [vI 3]) (st := []) vd_X1_89 (e_X1_fail G l N_44 c0 3 hI_N_44 hk_c0 (by omega)) hk_c0 rfl rfl rfl ⟨by decide, by decide⟩ rfl rfl (Nat.le_of_ble_eq_true rfl) dX1_takeRule_49 rfl ?_
            intro r_1572 N_1573 q_1574
            obtain ⟨hI_N_1573, hG_N_1573, q_1574c⟩ := q_1574
            have hF_N_1573 : Fr f_e_X1_takeRule M N_1573 := Fr.c hF_N_44 hG_N_1573 rfl
            have hE_N_1573 : Cf (SL (M c0 0) (q 3 - 1)) M N_1573 := Cf.fr hE_N_44 hG_N_1573 rfl
            have h_1575 := Inv.g hI_N_1573 hk_c0 rfl 2 (a := (-2147483648)) (b := 2147483647) rfl rfl
            have h_1577 := Inv.g hI_N_1573 hk_c0 rfl 3 (a := (-2147483648)) (b := 2147483647) rfl rfl
            exact kx_zret F hQ (by omega) ⟨hI_N_1573, hF_N_1573, (by omega), hE_N_1573, ⟨(j + 4), (-1), (Or.inl ⟨by omega, (Or.inr (Or.inr (Or.inr (Or.inl (by omega)))))⟩), (fun h => absurd h (by omega))⟩⟩ dX1_takeRule_52
        · refine kx_if_ne 35 F 37 dX1_takeRule_32 (by decide) rfl (by omega) (fun h_1578 => (by exfalso; omega)) (fun h_1578 => ?_)
          refine kx_iconst 36 F dX1_takeRule_35 rfl ?_
          exact kx_zret F hQ (by omega) ⟨hI_N_44, hF_N_44, (by omega), hE_N_44, ⟨(j + 4), (-1), (Or.inl ⟨by omega, (Or.inr (Or.inr (Or.inl (by omega))))⟩), (fun h => absurd h (by omega))⟩⟩ dX1_takeRule_36
      · refine kx_if_eq 28 F 35 dX1_takeRule_25 (by decide) rfl (by omega) (fun h_1579 => (by exfalso; omega)) (fun h_1579 => ?_)
        refine kx_aload_n 29 F 0 dX1_takeRule_28 rfl rfl rfl ?_
        refine kx_Vi 32 (ci := 0) F (As := []) (st := []) vd_X1_109 (e_X1_standsName G l N_17 c0 hI_N_17 hk_c0 Bt (TB.fr hB hI_M hk_c0 hF_N_17 rfl) (j + 1) (by omega) (by omega)) hk_c0 rfl rfl rfl ⟨by decide, by decide⟩ rfl rfl (Nat.le_of_ble_eq_true rfl) dX1_takeRule_29 rfl ?_
        intro r_1580 N_1581 q_1582
        obtain ⟨hI_N_1581, hG_N_1581, q_1582c⟩ := q_1582
        have hF_N_1581 : Fr f_e_X1_takeRule M N_1581 := Fr.c hF_N_17 hG_N_1581 rfl
        have hE_N_1581 : Cf (SL (M c0 0) (q 3 - 1)) M N_1581 := Cf.fr hE_N_17 hG_N_1581 rfl
        have h_1583 := Inv.g hI_N_1581 hk_c0 rfl 2 (a := (-2147483648)) (b := 2147483647) rfl rfl
        have h_1584 := Inv.g hI_N_1581 hk_c0 rfl 3 (a := (-2147483648)) (b := 2147483647) rfl rfl
        rcases q_1582c with q_1582c | q_1582c
        · exfalso; omega
        · refine kx_if_ne 35 F 37 dX1_takeRule_32 (by decide) rfl (by omega) (fun h_1587 => (by exfalso; omega)) (fun h_1587 => ?_)
          refine kx_iconst 36 F dX1_takeRule_35 rfl ?_
          exact kx_zret F hQ (by omega) ⟨hI_N_1581, hF_N_1581, (by omega), hE_N_1581, ⟨(j + 4), (-1), (Or.inl ⟨by omega, (Or.inr (Or.inr (Or.inl (by omega))))⟩), (fun h => absurd h (by omega))⟩⟩ dX1_takeRule_36
      · refine kx_if_eq 28 F 35 dX1_takeRule_25 (by decide) rfl (by omega) (fun h_1588 => ?_) (fun h_1588 => (by exfalso; omega))
        refine kx_iconst 36 F dX1_takeRule_35 rfl ?_
        exact kx_zret F hQ (by omega) ⟨hI_N_17, hF_N_17, (by omega), hE_N_17, ⟨(j + 4), (-1), (Or.inl ⟨by omega, (Or.inr (Or.inl (by omega)))⟩), (fun h => absurd h (by omega))⟩⟩ dX1_takeRule_36
    · refine kx_aload_n 15 F 0 dX1_takeRule_14 rfl rfl rfl ?_
      refine kx_bipush 17 F dX1_takeRule_15 (by decide) rfl ?_
      refine kx_Vi 20 (ci := 0) F (As := [vI 6]) (st := []) vd_X1_89 (e_X1_fail G l M c0 6 hI_M hk_c0 (by omega)) hk_c0 rfl rfl rfl ⟨by decide, by decide⟩ rfl rfl (Nat.le_of_ble_eq_true rfl) dX1_takeRule_17 rfl ?_
      intro r_1589 N_1590 q_1591
      obtain ⟨hI_N_1590, hG_N_1590, q_1591c⟩ := q_1591
      have hF_N_1590 : Fr f_e_X1_takeRule M N_1590 := Fr.c hF_M hG_N_1590 rfl
      have hE_N_1590 : Cf (SL (M c0 0) (q 3 - 1)) M N_1590 := Cf.fr hE_M hG_N_1590 rfl
      have h_1592 := Inv.g hI_N_1590 hk_c0 rfl 2 (a := (-2147483648)) (b := 2147483647) rfl rfl
      have h_1593 := Inv.g hI_N_1590 hk_c0 rfl 3 (a := (-2147483648)) (b := 2147483647) rfl rfl
      exact kx_zret F hQ (by omega) ⟨hI_N_1590, hF_N_1590, (by omega), hE_N_1590, ⟨(j + 4), (-1), (Or.inl ⟨by omega, (Or.inl (by omega))⟩), (fun h => absurd h (by omega))⟩⟩ dX1_takeRule_20
