abbrev f_e_X12_aRule : List (Nat × Int) := [(64, 12), (64, 13), (64, 14), (64, 15), (64, 17), (64, 18), (65, -1)]
set_option maxHeartbeats 4000000 in
set_option maxRecDepth 100000 in
theorem e_X12_aRule (G : KG) (l : Launch) (M : Mem) (a1 : Int) (hI_M : Inv true M) (hpre : -2147483648 ≤ a1 ∧ a1 ≤ 2147483647 ∧ 0 ≤ a1 ∧ a1 ≤ 1 ∧ (M 163 18) = 0) (hR : R4 M) (Bt : Int → Int) (hB : TM M Bt) (j : Int) (hj : 0 ≤ j) (hs : RT M Bt j) (hw : tk Bt j = 1) (t q : Int → Int) (hN : NR M Bt t q) (hq : M 164 1088 = q 0 ∧ M 164 1089 = q 1 ∧ M 164 1090 = q 2 ∧ M 164 1091 = q 3 ∧ 0 ≤ q 0 ∧ q 0 ≤ 2 ∧ 0 ≤ q 1 ∧ q 1 ≤ 2 ∧ 0 ≤ q 2 ∧ q 2 ≤ 2 ∧ 0 ≤ q 3 ∧ q 3 ≤ 2 ∧ M 164 1092 = -1) (hA : BA M q) (hr : ∀ b, (b = 100 ∨ b = 185) → q (b + 4) ≤ 20 ∨ q 3 = 0) (b : Int) (hb : b = 15 + 85 * q 3 ∧ 1 ≤ q 3) (ha : b = 100 + 85 * a1) : KC true G l yX12_aRule cX12_aRule 7 (some .boolean) (6, 133) [vR G 163, vI a1] M (fun A => kQi true G A (fun (r : Int) (N : Mem) => Inv true N ∧ Fr f_e_X12_aRule M N ∧ ((r = 1 ∧ (N 163 18) = (M 163 18) ∧ (N 163 17) = (M 163 17)) ∨ (r = 0 ∧ (N 163 18) ≥ 1)) ∧ ((LO N M ∧ (r = 1 → R4 N)) ∧ (∃ e y, (r = 0 → zRR Bt t q b j 0 (N 163 18) (N 163 17) e y) ∧ (r = 1 → zRM Bt t q b j 1 (N 163 18) (N 163 17) e y ∧ (tk Bt e = 3 → rq q b (lfn Bt t (q 0) (q 1) (q 2) (j + 1)) (tv Bt (j + 2)) (tv Bt (j + 3)) y = 0) ∧ RT N Bt e ∧ BQ N (uprul q b (lfn Bt t (q 0) (q 1) (q 2) (j + 1)) (tv Bt (j + 2)) (tv Bt (j + 3)) y) ∧ NR N Bt t (uprul q b (lfn Bt t (q 0) (q 1) (q 2) (j + 1)) (tv Bt (j + 2)) (tv Bt (j + 3)) y) ∧ BA N (uprul q b (lfn Bt t (q 0) (q 1) (q 2) (j + 1)) (tv Bt (j + 2)) (tv Bt (j + 3)) y)))))) := by
  refine kx_met (lo := [some (vR G 163), some (vI a1), none, none, none, none, none]) (by decide) (Nat.le_of_ble_eq_true rfl) rfl ?_
  intro X F hQ
  have hF_M : Fr f_e_X12_aRule M M := Fr.rf _ _
  have h_1 := Inv.g hI_M kd_163 rfl 18 (a := (-2147483648)) (b := 2147483647) rfl rfl
  have hu_2 := hs.u.1
  have hu_3 := hs.u.2.1
  have ht_4 := tp_le (n := M 163 11) (TM.tx hB hI_M) (Inv.g hI_M kd_163 rfl 11 (a := 0) (b := 900) rfl rfl).1 (j := j) (by omega)
  have h_5 := Inv.g hI_M kd_163 rfl 11 (a := 0) (b := 900) rfl rfl
  have hb_6 : tbd Bt j = 0 := by have := tbd_c Bt j; omega
  have hBT := hA.bt hb (by omega)
  have hn_7 : M 164 (85 * a1 + 1188) = q b := by have h := hBT.n (d := 0) (y := 85 * a1 + 1188) (by decide) (by omega); rw [Int.add_zero] at h; exact h
  have hn_8 : M 164 (85 * a1 + 1189) = q (b + 1) := by have h := hBT.n (d := 1) (y := 85 * a1 + 1189) (by decide) (by omega); exact h
  have hn_9 : M 164 (85 * a1 + 1192) = q (b + 4) := by have h := hBT.n (d := 4) (y := 85 * a1 + 1192) (by decide) (by omega); exact h
  refine kx_sipush 3 F dX12_aRule_0 (by decide) rfl ?_
  refine kx_iload_n 4 F 1 dX12_aRule_3 rfl rfl rfl ?_
  refine kx_Si 7 F (As := [vI 1088, vI a1]) (st := []) sd_X12_216 (c_X12_rowOf G l M 1088 a1 hI_M (by omega)) ⟨by decide, by decide⟩ rfl rfl (Nat.le_of_ble_eq_true rfl) dX12_aRule_4 rfl ?_
  intro r_10 N_11 q_12
  obtain ⟨rfl, q_12c⟩ := q_12
  refine kx_topi (e' := 85 * a1 + 1188) (by omega) ?_
  refine kx_istore_n 8 F 2 (lo' := [some (vR G 163), some (vI a1), some (vI (85 * a1 + 1188)), none, none, none, none]) dX12_aRule_7 rfl (by decide) rfl rfl rfl ?_
  refine kx_aload_n 9 F 0 dX12_aRule_8 rfl rfl rfl ?_
  refine kx_getr 12 F fl_X12_7 kd_163 rfl rfl (j := 0) rfl dX12_aRule_9 (v := 164) (uq_164 (Inv.r hI_M kd_163 rfl 0 rfl rfl)) rfl ?_
  refine kx_iload_n 13 F 2 dX12_aRule_12 rfl rfl rfl ?_
  refine kx_iconst 14 F dX12_aRule_13 rfl ?_
  refine kx_iadd 15 F (v := 85 * a1 + 1192) dX12_aRule_14 (by omega) rfl ?_
  refine kx_iald 16 F kd_164 rfl rfl (by omega) (by decide) dX12_aRule_15 (v := (M 164 (85 * a1 + 1192))) rfl rfl ?_
  have ha_13 : atlo (85 * a1 + 1192) = 0 ∧ athi (85 * a1 + 1192) = 20 := at_a (85 * a1 + 1192) 4 a1 4 (by omega) (by omega) (by decide)
  have h_14 := Inv.g hI_M kd_164 rfl (85 * a1 + 1192) (a := 0) (b := 20) ha_13.1 ha_13.2
  refine kx_istore_n 17 F 3 (lo' := [some (vR G 163), some (vI a1), some (vI (85 * a1 + 1188)), some (vI (M 164 (85 * a1 + 1192))), none, none, none]) dX12_aRule_16 rfl (by decide) rfl rfl rfl ?_
  refine kx_iload_n 18 F 3 dX12_aRule_17 rfl rfl rfl ?_
  refine kx_bipush 20 F dX12_aRule_18 (by decide) rfl ?_
  refine kx_icmp_ne 23 F 30 dX12_aRule_20 (by decide) rfl (by omega) (by decide) (fun h_15 => ?_) (fun h_15 => ?_)
  · refine kx_sipush 33 F dX12_aRule_30 (by decide) rfl ?_
    refine kx_iload_n 34 F 1 dX12_aRule_33 rfl rfl rfl ?_
    refine kx_iload_n 35 F 3 dX12_aRule_34 rfl rfl rfl ?_
    refine kx_Si 38 F (As := [vI 1088, vI a1, vI (M 164 (85 * a1 + 1192))]) (st := []) sd_X12_243 (c_X12_ruleRow G l M 1088 a1 (M 164 (85 * a1 + 1192)) hI_M (by omega)) ⟨by decide, by decide⟩ rfl rfl (Nat.le_of_ble_eq_true rfl) dX12_aRule_35 rfl ?_
    intro r_16 N_17 q_18
    obtain ⟨rfl, q_18c⟩ := q_18
    refine kx_topi (e' := 85 * a1 + 4 * (M 164 (85 * a1 + 1192)) + 1193) (by omega) ?_
    refine kx_istore 40 F 4 (lo' := [some (vR G 163), some (vI a1), some (vI (85 * a1 + 1188)), some (vI (M 164 (85 * a1 + 1192))), some (vI (85 * a1 + 4 * (M 164 (85 * a1 + 1192)) + 1193)), none, none]) dX12_aRule_38 (by decide) rfl rfl rfl ?_
    refine kx_aload_n 41 F 0 dX12_aRule_40 rfl rfl rfl ?_
    have hu_19 := hs.2.1
    refine kx_Vv 44 (ci := 0) F (As := []) (st := []) vd_X12_199 (e_X12_ahead G l M  hI_M Bt hB (j + 1) j (by omega) (by omega) hu_19) kd_163 rfl rfl rfl ⟨by decide, by decide⟩ rfl rfl (Nat.le_of_ble_eq_true rfl) dX12_aRule_41 rfl ?_
    intro N_20 q_21
    obtain ⟨hI_N_20, hG_N_20, ht_N_20⟩ := q_21
    have hF_N_20 : Fr f_e_X12_aRule M N_20 := Fr.c hF_M hG_N_20 rfl
    have hlo_22 : LO N_20 M := (LO.fr (LO.rf M) hG_N_20 rfl)
    refine kx_aload_n 45 F 0 dX12_aRule_44 rfl rfl rfl ?_
    refine kx_ldcS 47 F 11 (by decide) rfl rfl dX12_aRule_45 rfl ?_
    refine kx_Vi 50 (ci := 0) F (As := [vT G 11]) (st := []) vd_X12_224 (e_X12_isName G l N_20  hI_N_20 Bt (TM.fr hB hF_N_20 rfl) (j + 1) (by omega) ht_N_20) kd_163 rfl rfl rfl ⟨by decide, by decide⟩ rfl rfl (Nat.le_of_ble_eq_true rfl) dX12_aRule_47 rfl ?_
    intro r_23 N_24 q_25
    obtain ⟨rfl, q_25c⟩ := q_25
    rcases q_25c with q_25c | q_25c
    · refine kx_if_ne 53 F 59 dX12_aRule_50 (by decide) rfl (by omega) (fun h_26 => ?_) (fun h_26 => (by exfalso; omega))
      have hl_27 := lfn_b Bt t (q 0) (q 1) (q 2) (j + 1) (by omega) (by omega) (by omega)
      refine kx_aload_n 60 F 0 dX12_aRule_59 rfl rfl rfl ?_
      have e_28 : (N_20 164 1088) = (M 164 1088) := by rw [Fr.e hG_N_20 kd_164 _ rfl]
      have e_29 : (N_20 164 1089) = (M 164 1089) := by rw [Fr.e hG_N_20 kd_164 _ rfl]
      have e_30 : (N_20 164 1090) = (M 164 1090) := by rw [Fr.e hG_N_20 kd_164 _ rfl]
      have e_31 : (N_20 164 1091) = (M 164 1091) := by rw [Fr.e hG_N_20 kd_164 _ rfl]
      refine kx_Vi 63 (ci := 0) F (As := []) (st := []) vd_X12_228 (e_X12_letterHere G l N_20  hI_N_20 Bt (TM.fr hB hF_N_20 rfl) (j + 1) (by omega) ht_N_20 (nm_t (by omega) (by omega)) t q (NR.fr hN hG_N_20 rfl) (by omega)) kd_163 rfl rfl rfl ⟨by decide, by decide⟩ rfl rfl (Nat.le_of_ble_eq_true rfl) dX12_aRule_60 rfl ?_
      intro r_32 N_33 q_34
      obtain ⟨rfl, q_34c⟩ := q_34
      refine kx_topi (e' := (lfn Bt t (q 0) (q 1) (q 2) (j + 1))) (by omega) ?_
      refine kx_istore 65 F 5 (lo' := [some (vR G 163), some (vI a1), some (vI (85 * a1 + 1188)), some (vI (M 164 (85 * a1 + 1192))), some (vI (85 * a1 + 4 * (M 164 (85 * a1 + 1192)) + 1193)), some (vI (lfn Bt t (q 0) (q 1) (q 2) (j + 1))), none]) dX12_aRule_63 (by decide) rfl rfl rfl ?_
      refine kx_iload 67 F 5 dX12_aRule_65 rfl rfl ?_
      refine kx_iconst 68 F dX12_aRule_67 rfl ?_
      refine kx_icmp_ne 71 F 77 dX12_aRule_68 (by decide) rfl (by omega) (by decide) (fun h_35 => ?_) (fun h_35 => ?_)
      · refine kx_aload_n 78 F 0 dX12_aRule_77 rfl rfl rfl ?_
        have hu_36 := ht_N_20.2.1
        refine kx_Vv 81 (ci := 0) F (As := []) (st := []) vd_X12_199 (e_X12_ahead G l N_20  hI_N_20 Bt (TM.fr hB hF_N_20 rfl) (j + 2) (j + 1) (by omega) (by omega) hu_36) kd_163 rfl rfl rfl ⟨by decide, by decide⟩ rfl rfl (Nat.le_of_ble_eq_true rfl) dX12_aRule_78 rfl ?_
        intro N_37 q_38
        obtain ⟨hI_N_37, hG_N_37, ht_N_37⟩ := q_38
        have hF_N_37 : Fr f_e_X12_aRule M N_37 := Fr.c hF_N_20 hG_N_37 rfl
        have hlo_39 : LO N_37 M := (LO.fr hlo_22 hG_N_37 rfl)
        refine kx_aload_n 82 F 0 dX12_aRule_81 rfl rfl rfl ?_
        refine kx_iload 84 F 4 dX12_aRule_82 rfl rfl ?_
        refine kx_iconst 85 F dX12_aRule_84 rfl ?_
        refine kx_iadd 86 F (v := 85 * a1 + 4 * (M 164 (85 * a1 + 1192)) + 1194) dX12_aRule_85 (by omega) rfl ?_
        refine kx_iconst 87 F dX12_aRule_86 rfl ?_
        refine kx_aload_n 88 F 0 dX12_aRule_87 rfl rfl rfl ?_
        refine kx_getr 91 F fl_X12_7 kd_163 rfl rfl (j := 0) rfl dX12_aRule_88 (v := 164) (uq_164 (Inv.r hI_N_37 kd_163 rfl 0 rfl rfl)) rfl ?_
        refine kx_iload_n 92 F 2 dX12_aRule_91 rfl rfl rfl ?_
        refine kx_iald 93 F kd_164 rfl rfl (by omega) (by decide) dX12_aRule_92 (v := (M 164 (85 * a1 + 1188))) (by rw [Fr.e hG_N_37 kd_164 _ rfl, Fr.e hG_N_20 kd_164 _ rfl]) rfl ?_
        have ha_40 : atlo (85 * a1 + 1188) = 0 ∧ athi (85 * a1 + 1188) = 3 := at_a (85 * a1 + 1188) 4 a1 0 (by omega) (by omega) (by decide)
        have h_41 := Inv.g hI_M kd_164 rfl (85 * a1 + 1188) (a := 0) (b := 3) ha_40.1 ha_40.2
        refine kx_iconst 94 F dX12_aRule_93 rfl ?_
        refine kx_isub 95 F (v := (M 164 (85 * a1 + 1188)) - 1) dX12_aRule_94 rfl rfl ?_
        have ha_42 : atlo (85 * a1 + 4 * (M 164 (85 * a1 + 1192)) + 1194) = 0 ∧ athi (85 * a1 + 4 * (M 164 (85 * a1 + 1192)) + 1194) = 2 := at_r (85 * a1 + 4 * (M 164 (85 * a1 + 1192)) + 1194) 4 a1 (M 164 (85 * a1 + 1192)) 1 (by omega) (by omega) (by omega) (by decide)
        have e_43 : (N_37 163 18) = (M 163 18) := by rw [Fr.e hG_N_37 kd_163 _ rfl, Fr.e hG_N_20 kd_163 _ rfl]
        refine kx_Vi 98 (ci := 0) F (As := [vI (85 * a1 + 4 * (M 164 (85 * a1 + 1192)) + 1194), vI 0, vI ((M 164 (85 * a1 + 1188)) - 1)]) (st := []) vd_X12_231 (e_X12_number G l N_37 (85 * a1 + 4 * (M 164 (85 * a1 + 1192)) + 1194) 0 ((M 164 (85 * a1 + 1188)) - 1) hI_N_37 (by omega) Bt (TM.fr hB hF_N_37 rfl) (j + 2) (by omega) ht_N_37) kd_163 rfl rfl rfl ⟨by decide, by decide⟩ rfl rfl (Nat.le_of_ble_eq_true rfl) dX12_aRule_95 rfl ?_
        intro r_44 N_45 q_46
        obtain ⟨hI_N_45, hG_N_45, q_46c, ⟨hr_N_45, hx_N_45⟩⟩ := q_46
        have hF_N_45 : Fr f_e_X12_aRule M N_45 := Fr.c hF_N_37 hG_N_45 rfl
        have h_48 := Inv.g hI_N_45 kd_163 rfl 18 (a := (-2147483648)) (b := 2147483647) rfl rfl
        have e_49 : (N_37 163 17) = (M 163 17) := by rw [Fr.e hG_N_37 kd_163 _ rfl, Fr.e hG_N_20 kd_163 _ rfl]
        have h_50 := Inv.g hI_M kd_163 rfl 17 (a := (-2147483648)) (b := 2147483647) rfl rfl
        have h_51 := Inv.g hI_N_45 kd_163 rfl 17 (a := (-2147483648)) (b := 2147483647) rfl rfl
        rcases q_46c with q_46c | q_46c | q_46c | q_46c | q_46c
        · refine kx_if_eq 101 F 121 dX12_aRule_98 (by decide) rfl (by omega) (fun h_60 => (by exfalso; omega)) (fun h_60 => ?_)
          have ht_61 : RT N_45 Bt (j + 3) := by have hh := hr_N_45 (by omega); first | exact hh | (rw [show (j + 3) = (j + 2) + 1 by omega]; exact hh)
          have hlo_62 : LO N_45 M := (LO.ne hlo_39 hx_N_45 (by omega))
          refine kx_aload_n 102 F 0 dX12_aRule_101 rfl rfl rfl ?_
          refine kx_iload 104 F 4 dX12_aRule_102 rfl rfl ?_
          refine kx_iconst 105 F dX12_aRule_104 rfl ?_
          refine kx_iadd 106 F (v := 85 * a1 + 4 * (M 164 (85 * a1 + 1192)) + 1195) dX12_aRule_105 (by omega) rfl ?_
          refine kx_iconst 107 F dX12_aRule_106 rfl ?_
          refine kx_aload_n 108 F 0 dX12_aRule_107 rfl rfl rfl ?_
          refine kx_getr 111 F fl_X12_7 kd_163 rfl rfl (j := 0) rfl dX12_aRule_108 (v := 164) (uq_164 (Inv.r hI_N_45 kd_163 rfl 0 rfl rfl)) rfl ?_
          refine kx_iload_n 112 F 2 dX12_aRule_111 rfl rfl rfl ?_
          refine kx_iald 113 F kd_164 rfl rfl (by omega) (by decide) dX12_aRule_112 (v := (M 164 (85 * a1 + 1188))) (by rw [hx_N_45 _ (by omega), Fr.e hG_N_37 kd_164 _ rfl, Fr.e hG_N_20 kd_164 _ rfl]) rfl ?_
          refine kx_iconst 114 F dX12_aRule_113 rfl ?_
          refine kx_isub 115 F (v := (M 164 (85 * a1 + 1188)) - 1) dX12_aRule_114 rfl rfl ?_
          have ha_63 : atlo (85 * a1 + 4 * (M 164 (85 * a1 + 1192)) + 1195) = 0 ∧ athi (85 * a1 + 4 * (M 164 (85 * a1 + 1192)) + 1195) = 2 := at_r (85 * a1 + 4 * (M 164 (85 * a1 + 1192)) + 1195) 4 a1 (M 164 (85 * a1 + 1192)) 2 (by omega) (by omega) (by omega) (by decide)
          refine kx_Vi 118 (ci := 0) F (As := [vI (85 * a1 + 4 * (M 164 (85 * a1 + 1192)) + 1195), vI 0, vI ((M 164 (85 * a1 + 1188)) - 1)]) (st := []) vd_X12_231 (e_X12_number G l N_45 (85 * a1 + 4 * (M 164 (85 * a1 + 1192)) + 1195) 0 ((M 164 (85 * a1 + 1188)) - 1) hI_N_45 (by omega) Bt (TM.fr hB hF_N_45 rfl) (j + 3) (by omega) ht_61) kd_163 rfl rfl rfl ⟨by decide, by decide⟩ rfl rfl (Nat.le_of_ble_eq_true rfl) dX12_aRule_115 rfl ?_
          intro r_64 N_65 q_66
          obtain ⟨hI_N_65, hG_N_65, q_66c, ⟨hr_N_65, hx_N_65⟩⟩ := q_66
          have hF_N_65 : Fr f_e_X12_aRule M N_65 := Fr.c hF_N_45 hG_N_65 rfl
          have h_67 := Inv.g hI_N_65 kd_163 rfl 18 (a := (-2147483648)) (b := 2147483647) rfl rfl
          have h_68 := Inv.g hI_N_65 kd_163 rfl 17 (a := (-2147483648)) (b := 2147483647) rfl rfl
          rcases q_66c with q_66c | q_66c | q_66c | q_66c | q_66c
          · refine kx_if_ne 121 F 123 dX12_aRule_118 (by decide) rfl (by omega) (fun h_77 => ?_) (fun h_77 => (by exfalso; omega))
            have ht_78 : RT N_65 Bt (j + 4) := by have hh := hr_N_65 (by omega); first | exact hh | (rw [show (j + 4) = (j + 3) + 1 by omega]; exact hh)
            have hlo_79 : LO N_65 M := (LO.ne hlo_62 hx_N_65 (by omega))
            refine kx_aload_n 124 F 0 dX12_aRule_123 rfl rfl rfl ?_
            refine kx_getr 127 F fl_X12_7 kd_163 rfl rfl (j := 0) rfl dX12_aRule_124 (v := 164) (uq_164 (Inv.r hI_N_65 kd_163 rfl 0 rfl rfl)) rfl ?_
            refine kx_iload 129 F 4 dX12_aRule_127 rfl rfl ?_
            refine kx_iload 131 F 5 dX12_aRule_129 rfl rfl ?_
            refine kx_iast 132 F kd_164 rfl rfl (by omega) (by decide) dX12_aRule_131 rfl ?_
            intro N_80 hM_N_80
            have ha_81 : atlo (85 * a1 + 4 * (M 164 (85 * a1 + 1192)) + 1193) = 0 ∧ athi (85 * a1 + 4 * (M 164 (85 * a1 + 1192)) + 1193) = 5 := at_r (85 * a1 + 4 * (M 164 (85 * a1 + 1192)) + 1193) 4 a1 (M 164 (85 * a1 + 1192)) 0 (by omega) (by omega) (by omega) (by decide)
            have hI_N_80 : Inv true N_80 := Inv.u hI_N_65 hM_N_80 kd_164 (a := 0) (b := 5) ha_81.1 ha_81.2 rfl (by omega)
            have hF_N_80 : Fr f_e_X12_aRule M N_80 := Fr.u hF_N_65 hM_N_80 kd_164 rfl
            refine kx_aload_n 133 F 0 dX12_aRule_132 rfl rfl rfl ?_
            refine kx_getr 136 F fl_X12_7 kd_163 rfl rfl (j := 0) rfl dX12_aRule_133 (v := 164) (uq_164 (Inv.r hI_N_80 kd_163 rfl 0 rfl rfl)) rfl ?_
            refine kx_iload 138 F 4 dX12_aRule_136 rfl rfl ?_
            refine kx_iconst 139 F dX12_aRule_138 rfl ?_
            refine kx_iadd 140 F (v := 85 * a1 + 4 * (M 164 (85 * a1 + 1192)) + 1196) dX12_aRule_139 (by omega) rfl ?_
            refine kx_iconst 141 F dX12_aRule_140 rfl ?_
            refine kx_iast 142 F kd_164 rfl rfl (by omega) (by decide) dX12_aRule_141 rfl ?_
            intro N_82 hM_N_82
            have ha_83 : atlo (85 * a1 + 4 * (M 164 (85 * a1 + 1192)) + 1196) = (-1) ∧ athi (85 * a1 + 4 * (M 164 (85 * a1 + 1192)) + 1196) = 2 := at_r (85 * a1 + 4 * (M 164 (85 * a1 + 1192)) + 1196) 4 a1 (M 164 (85 * a1 + 1192)) 3 (by omega) (by omega) (by omega) (by decide)
            have hI_N_82 : Inv true N_82 := Inv.u hI_N_80 hM_N_82 kd_164 (a := (-1)) (b := 2) ha_83.1 ha_83.2 rfl (by omega)
            have hF_N_82 : Fr f_e_X12_aRule M N_82 := Fr.u hF_N_80 hM_N_82 kd_164 rfl
            have hlo_84 : LO N_82 M := (LO.sta (LO.sta hlo_79 hM_N_80 (by omega)) hM_N_82 (by omega))
            refine kx_aload_n 143 F 0 dX12_aRule_142 rfl rfl rfl ?_
            refine kx_sipush 146 F dX12_aRule_143 (by decide) rfl ?_
            refine kx_iload 148 F 5 dX12_aRule_146 rfl rfl ?_
            refine kx_Vi 151 (ci := 0) F (As := [vI 1088, vI (lfn Bt t (q 0) (q 1) (q 2) (j + 1))]) (st := []) vd_X12_247 (e_X12_sortOfN G l N_82 1088 (lfn Bt t (q 0) (q 1) (q 2) (j + 1)) hI_N_82 (by omega)) kd_163 rfl rfl rfl ⟨by decide, by decide⟩ rfl rfl (Nat.le_of_ble_eq_true rfl) dX12_aRule_148 rfl ?_
            intro r_85 N_86 q_87
            obtain ⟨rfl, q_87c⟩ := q_87
            have e_88 : (N_82 164 1088) = (M 164 1088) := by rw [hM_N_82, mu_i (by omega), hM_N_80, mu_i (by omega), hx_N_65 _ (by omega), hx_N_45 _ (by omega), Fr.e hG_N_37 kd_164 _ rfl, Fr.e hG_N_20 kd_164 _ rfl]
            have e_93 : (N_82 164 1089) = (M 164 1089) := by rw [hM_N_82, mu_i (by omega), hM_N_80, mu_i (by omega), hx_N_65 _ (by omega), hx_N_45 _ (by omega), Fr.e hG_N_37 kd_164 _ rfl, Fr.e hG_N_20 kd_164 _ rfl]
            rcases q_87c with q_87c | q_87c | q_87c
            · refine kx_istore 153 F 6 (lo' := [some (vR G 163), some (vI a1), some (vI (85 * a1 + 1188)), some (vI (M 164 (85 * a1 + 1192))), some (vI (85 * a1 + 4 * (M 164 (85 * a1 + 1192)) + 1193)), some (vI (lfn Bt t (q 0) (q 1) (q 2) (j + 1))), some (vI r_85)]) dX12_aRule_151 (by decide) rfl rfl rfl ?_
              refine kx_iload 155 F 6 dX12_aRule_153 rfl rfl ?_
              refine kx_if_ne 158 F 171 dX12_aRule_155 (by decide) rfl (by omega) (fun h_100 => (by exfalso; omega)) (fun h_100 => ?_)
              refine kx_aload_n 159 F 0 dX12_aRule_158 rfl rfl rfl ?_
              refine kx_ldcS 161 F 11 (by decide) rfl rfl dX12_aRule_159 rfl ?_
              refine kx_bipush 163 F dX12_aRule_161 (by decide) rfl ?_
              have e_101 : (N_82 163 18) = (N_65 163 18) := by rw [hM_N_82, mu_k kd_163 kd_164 rfl, hM_N_80, mu_k kd_163 kd_164 rfl]
              have hp_102 : RT N_80 Bt (j + 4) := RT.st ht_78 hM_N_80 kd_164 rfl
              have hp_103 : RT N_82 Bt (j + 4) := RT.st hp_102 hM_N_82 kd_164 rfl
              refine kx_Vi 166 (ci := 0) F (As := [vT G 11, vI 8]) (st := []) vd_X12_235 (e_X12_wantWord G l N_82 8 hI_N_82 (by omega) Bt (TM.fr hB hF_N_82 rfl) (j + 4) (by omega) hp_103) kd_163 rfl rfl rfl ⟨by decide, by decide⟩ rfl rfl (Nat.le_of_ble_eq_true rfl) dX12_aRule_163 rfl ?_
              intro r_104 N_105 q_106
              obtain ⟨hI_N_105, hG_N_105, q_106c, hr_N_105⟩ := q_106
              have hF_N_105 : Fr f_e_X12_aRule M N_105 := Fr.c hF_N_82 hG_N_105 rfl
              have h_108 := Inv.g hI_N_105 kd_163 rfl 18 (a := (-2147483648)) (b := 2147483647) rfl rfl
              have e_109 : (N_82 163 17) = (N_65 163 17) := by rw [hM_N_82, mu_k kd_163 kd_164 rfl, hM_N_80, mu_k kd_163 kd_164 rfl]
              have h_110 := Inv.g hI_N_105 kd_163 rfl 17 (a := (-2147483648)) (b := 2147483647) rfl rfl
              rcases q_106c with q_106c | q_106c | q_106c
              · refine kx_if_ne 169 F 171 dX12_aRule_166 (by decide) rfl (by omega) (fun h_115 => ?_) (fun h_115 => (by exfalso; omega))
                have hd_116 : tbd Bt (j + 4) = 0 := kwd_b (by omega)
                have ht_117 : RT N_105 Bt (j + 5) := by have hh := hr_N_105 (by omega); first | exact hh | (rw [show (j + 5) = (j + 4) + 1 by omega]; exact hh)
                have hlo_118 : LO N_105 M := (LO.fr hlo_84 hG_N_105 rfl)
                refine kx_iload 173 F 6 dX12_aRule_171 rfl rfl ?_
                refine kx_iconst 174 F dX12_aRule_173 rfl ?_
                refine kx_icmp_ne 177 F 221 dX12_aRule_174 (by decide) rfl (by omega) (by decide) (fun h_119 => ?_) (fun h_119 => (by exfalso; omega))
                refine kx_iload 223 F 6 dX12_aRule_221 rfl rfl ?_
                refine kx_if_ne 226 F 250 dX12_aRule_223 (by decide) rfl (by omega) (fun h_120 => (by exfalso; omega)) (fun h_120 => ?_)
                refine kx_aload_n 227 F 0 dX12_aRule_226 rfl rfl rfl ?_
                refine kx_iload 229 F 4 dX12_aRule_227 rfl rfl ?_
                refine kx_iconst 230 F dX12_aRule_229 rfl ?_
                refine kx_iadd 231 F (v := 85 * a1 + 4 * (M 164 (85 * a1 + 1192)) + 1196) dX12_aRule_230 (by omega) rfl ?_
                refine kx_iconst 232 F dX12_aRule_231 rfl ?_
                refine kx_aload_n 233 F 0 dX12_aRule_232 rfl rfl rfl ?_
                refine kx_getr 236 F fl_X12_7 kd_163 rfl rfl (j := 0) rfl dX12_aRule_233 (v := 164) (uq_164 (Inv.r hI_N_105 kd_163 rfl 0 rfl rfl)) rfl ?_
                refine kx_iload_n 237 F 2 dX12_aRule_236 rfl rfl rfl ?_
                refine kx_iconst 238 F dX12_aRule_237 rfl ?_
                refine kx_iadd 239 F (v := 85 * a1 + 1189) dX12_aRule_238 (by omega) rfl ?_
                refine kx_iald 240 F kd_164 rfl rfl (by omega) (by decide) dX12_aRule_239 (v := (M 164 (85 * a1 + 1189))) (by rw [Fr.e hG_N_105 kd_164 _ rfl, hM_N_82, mu_i (by omega), hM_N_80, mu_i (by omega), hx_N_65 _ (by omega), hx_N_45 _ (by omega), Fr.e hG_N_37 kd_164 _ rfl, Fr.e hG_N_20 kd_164 _ rfl]) rfl ?_
                have ha_121 : atlo (85 * a1 + 1189) = 0 ∧ athi (85 * a1 + 1189) = 3 := at_a (85 * a1 + 1189) 4 a1 1 (by omega) (by omega) (by decide)
                have h_122 := Inv.g hI_M kd_164 rfl (85 * a1 + 1189) (a := 0) (b := 3) ha_121.1 ha_121.2
                refine kx_iconst 241 F dX12_aRule_240 rfl ?_
                refine kx_isub 242 F (v := (M 164 (85 * a1 + 1189)) - 1) dX12_aRule_241 rfl rfl ?_
                refine kx_Vi 245 (ci := 0) F (As := [vI (85 * a1 + 4 * (M 164 (85 * a1 + 1192)) + 1196), vI 0, vI ((M 164 (85 * a1 + 1189)) - 1)]) (st := []) vd_X12_231 (e_X12_number G l N_105 (85 * a1 + 4 * (M 164 (85 * a1 + 1192)) + 1196) 0 ((M 164 (85 * a1 + 1189)) - 1) hI_N_105 (by omega) Bt (TM.fr hB hF_N_105 rfl) (j + 5) (by omega) ht_117) kd_163 rfl rfl rfl ⟨by decide, by decide⟩ rfl rfl (Nat.le_of_ble_eq_true rfl) dX12_aRule_242 rfl ?_
                intro r_123 N_124 q_125
                obtain ⟨hI_N_124, hG_N_124, q_125c, ⟨hr_N_124, hx_N_124⟩⟩ := q_125
                have hF_N_124 : Fr f_e_X12_aRule M N_124 := Fr.c hF_N_105 hG_N_124 rfl
                have h_126 := Inv.g hI_N_124 kd_163 rfl 18 (a := (-2147483648)) (b := 2147483647) rfl rfl
                have h_127 := Inv.g hI_N_124 kd_163 rfl 17 (a := (-2147483648)) (b := 2147483647) rfl rfl
                rcases q_125c with q_125c | q_125c | q_125c | q_125c | q_125c
                · refine kx_if_ne 248 F 250 dX12_aRule_245 (by decide) rfl (by omega) (fun h_136 => ?_) (fun h_136 => (by exfalso; omega))
                  have ht_137 : RT N_124 Bt (j + 6) := by have hh := hr_N_124 (by omega); first | exact hh | (rw [show (j + 6) = (j + 5) + 1 by omega]; exact hh)
                  have hO_138 : ∀ i, (i < b + 1093 + 4 * q (b + 4) ∨ b + 1096 + 4 * q (b + 4) < i) → N_124 164 i = M 164 i := fun i h2 => by rw [hx_N_124 _ (by omega), Fr.e hG_N_105 kd_164 _ rfl, hM_N_82, mu_i (by omega), hM_N_80, mu_i (by omega), hx_N_65 _ (by omega), hx_N_45 _ (by omega), Fr.e hG_N_37 kd_164 _ rfl, Fr.e hG_N_20 kd_164 _ rfl]
                  have hlo_139 : LO N_124 M := (LO.ne hlo_118 hx_N_124 (by omega))
                  refine kx_aload_n 251 F 0 dX12_aRule_250 rfl rfl rfl ?_
                  refine kx_bipush 253 F dX12_aRule_251 (by decide) rfl ?_
                  refine kx_Vi 256 (ci := 0) F (As := [vI 59]) (st := []) vd_X12_202 (e_X12_isSign G l N_124 59 hI_N_124 (by omega) Bt (TM.fr hB hF_N_124 rfl) (j + 6) (by omega) ht_137) kd_163 rfl rfl rfl ⟨by decide, by decide⟩ rfl rfl (Nat.le_of_ble_eq_true rfl) dX12_aRule_253 rfl ?_
                  intro r_140 N_141 q_142
                  obtain ⟨rfl, q_142c⟩ := q_142
                  rcases q_142c with q_142c | q_142c
                  · refine kx_if_eq 259 F 306 dX12_aRule_256 (by decide) rfl (by omega) (fun h_143 => (by exfalso; omega)) (fun h_143 => ?_)
                    refine kx_aload_n 260 F 0 dX12_aRule_259 rfl rfl rfl ?_
                    refine kx_sipush 263 F dX12_aRule_260 (by decide) rfl ?_
                    refine kx_iload_n 264 F 1 dX12_aRule_263 rfl rfl rfl ?_
                    refine kx_iload_n 265 F 3 dX12_aRule_264 rfl rfl rfl ?_
                    refine kx_iload 267 F 5 dX12_aRule_265 rfl rfl ?_
                    refine kx_aload_n 268 F 0 dX12_aRule_267 rfl rfl rfl ?_
                    refine kx_getr 271 F fl_X12_7 kd_163 rfl rfl (j := 0) rfl dX12_aRule_268 (v := 164) (uq_164 (Inv.r hI_N_124 kd_163 rfl 0 rfl rfl)) rfl ?_
                    refine kx_iload 273 F 4 dX12_aRule_271 rfl rfl ?_
                    refine kx_iconst 274 F dX12_aRule_273 rfl ?_
                    refine kx_iadd 275 F (v := 85 * a1 + 4 * (M 164 (85 * a1 + 1192)) + 1194) dX12_aRule_274 (by omega) rfl ?_
                    refine kx_iald 276 F kd_164 rfl rfl (by omega) (by decide) dX12_aRule_275 (v := (N_45 164 (85 * a1 + 4 * (M 164 (85 * a1 + 1192)) + 1194))) (by rw [hx_N_124 _ (by omega), Fr.e hG_N_105 kd_164 _ rfl, hM_N_82, mu_i (by omega), hM_N_80, mu_i (by omega), hx_N_65 _ (by omega)]) rfl ?_
                    have h_144 := Inv.g hI_N_45 kd_164 rfl (85 * a1 + 4 * (M 164 (85 * a1 + 1192)) + 1194) (a := 0) (b := 2) ha_42.1 ha_42.2
                    refine kx_aload_n 277 F 0 dX12_aRule_276 rfl rfl rfl ?_
                    refine kx_getr 280 F fl_X12_7 kd_163 rfl rfl (j := 0) rfl dX12_aRule_277 (v := 164) (uq_164 (Inv.r hI_N_124 kd_163 rfl 0 rfl rfl)) rfl ?_
                    refine kx_iload 282 F 4 dX12_aRule_280 rfl rfl ?_
                    refine kx_iconst 283 F dX12_aRule_282 rfl ?_
                    refine kx_iadd 284 F (v := 85 * a1 + 4 * (M 164 (85 * a1 + 1192)) + 1195) dX12_aRule_283 (by omega) rfl ?_
                    refine kx_iald 285 F kd_164 rfl rfl (by omega) (by decide) dX12_aRule_284 (v := (N_65 164 (85 * a1 + 4 * (M 164 (85 * a1 + 1192)) + 1195))) (by rw [hx_N_124 _ (by omega), Fr.e hG_N_105 kd_164 _ rfl, hM_N_82, mu_i (by omega), hM_N_80, mu_i (by omega)]) rfl ?_
                    have h_145 := Inv.g hI_N_65 kd_164 rfl (85 * a1 + 4 * (M 164 (85 * a1 + 1192)) + 1195) (a := 0) (b := 2) ha_63.1 ha_63.2
                    refine kx_aload_n 286 F 0 dX12_aRule_285 rfl rfl rfl ?_
                    refine kx_getr 289 F fl_X12_7 kd_163 rfl rfl (j := 0) rfl dX12_aRule_286 (v := 164) (uq_164 (Inv.r hI_N_124 kd_163 rfl 0 rfl rfl)) rfl ?_
                    refine kx_iload 291 F 4 dX12_aRule_289 rfl rfl ?_
                    refine kx_iconst 292 F dX12_aRule_291 rfl ?_
                    refine kx_iadd 293 F (v := 85 * a1 + 4 * (M 164 (85 * a1 + 1192)) + 1196) dX12_aRule_292 (by omega) rfl ?_
                    refine kx_iald 294 F kd_164 rfl rfl (by omega) (by decide) dX12_aRule_293 (v := (N_124 164 (85 * a1 + 4 * (M 164 (85 * a1 + 1192)) + 1196))) rfl rfl ?_
                    have h_146 := Inv.g hI_N_124 kd_164 rfl (85 * a1 + 4 * (M 164 (85 * a1 + 1192)) + 1196) (a := (-1)) (b := 2) ha_83.1 ha_83.2
                    refine kx_Vi 297 (ci := 0) F (As := [vI 1088, vI a1, vI (M 164 (85 * a1 + 1192)), vI (lfn Bt t (q 0) (q 1) (q 2) (j + 1)), vI (N_45 164 (85 * a1 + 4 * (M 164 (85 * a1 + 1192)) + 1194)), vI (N_65 164 (85 * a1 + 4 * (M 164 (85 * a1 + 1192)) + 1195)), vI (N_124 164 (85 * a1 + 4 * (M 164 (85 * a1 + 1192)) + 1196))]) (st := []) vd_X12_253 (e_X12_isRuleN G l N_124 1088 a1 (M 164 (85 * a1 + 1192)) (lfn Bt t (q 0) (q 1) (q 2) (j + 1)) (N_45 164 (85 * a1 + 4 * (M 164 (85 * a1 + 1192)) + 1194)) (N_65 164 (85 * a1 + 4 * (M 164 (85 * a1 + 1192)) + 1195)) (N_124 164 (85 * a1 + 4 * (M 164 (85 * a1 + 1192)) + 1196)) hI_N_124 (by omega) q b (BT.low hBT (by omega) (fun i h1 h2 => hO_138 i (Or.inl (by omega)))) (by omega) (by omega)) kd_163 rfl rfl rfl ⟨by decide, by decide⟩ rfl rfl (Nat.le_of_ble_eq_true rfl) dX12_aRule_294 rfl ?_
                    intro r_147 N_148 q_149
                    obtain ⟨rfl, q_149c⟩ := q_149
                    rcases q_149c with q_149c | q_149c
                    · have hq_150 : (rq q b (lfn Bt t (q 0) (q 1) (q 2) (j + 1)) (N_45 164 (85 * a1 + 4 * (M 164 (85 * a1 + 1192)) + 1194)) (N_65 164 (85 * a1 + 4 * (M 164 (85 * a1 + 1192)) + 1195)) (N_124 164 (85 * a1 + 4 * (M 164 (85 * a1 + 1192)) + 1196))) = (rq q b (lfn Bt t (q 0) (q 1) (q 2) (j + 1)) (tv Bt (j + 2)) (tv Bt (j + 3)) (tv Bt (j + 5))) := rq_cg (by omega) (by omega) (by omega) (by omega)
                      refine kx_if_eq 300 F 306 dX12_aRule_297 (by decide) rfl (by omega) (fun h_151 => (by exfalso; omega)) (fun h_151 => ?_)
                      refine kx_aload_n 301 F 0 dX12_aRule_300 rfl rfl rfl ?_
                      refine kx_iconst 302 F dX12_aRule_301 rfl ?_
                      refine kx_Vi 305 (ci := 0) F (As := [vI 5]) (st := []) vd_X12_205 (e_X12_fails G l N_124 5 hI_N_124 (by omega) Bt (TM.fr hB hF_N_124 rfl) (j + 6) (by omega) ht_137) kd_163 rfl rfl rfl ⟨by decide, by decide⟩ rfl rfl (Nat.le_of_ble_eq_true rfl) dX12_aRule_302 rfl ?_
                      intro r_152 N_153 q_154
                      obtain ⟨hI_N_153, hG_N_153, q_154c⟩ := q_154
                      have hF_N_153 : Fr f_e_X12_aRule M N_153 := Fr.c hF_N_124 hG_N_153 rfl
                      have h_155 := Inv.g hI_N_153 kd_163 rfl 18 (a := (-2147483648)) (b := 2147483647) rfl rfl
                      have h_156 := Inv.g hI_N_153 kd_163 rfl 17 (a := (-2147483648)) (b := 2147483647) rfl rfl
                      rcases q_154c with q_154c | q_154c
                      · exact kx_zret F hQ (by omega) ⟨hI_N_153, hF_N_153, (Or.inr (by omega)), ⟨⟨(LO.fr hlo_139 hG_N_153 rfl), (fun h => absurd h (by omega))⟩, ⟨(j + 6), (tv Bt (j + 5)), fun _ => (Or.inr ⟨(Or.inr (Or.inr (Or.inr (Or.inr (Or.inr (Or.inr (Or.inr (Or.inr (Or.inr (Or.inr (Or.inr (Or.inr (Or.inr (Or.inr (Or.inr (Or.inr (Or.inl (by omega)))))))))))))))))), (Or.inl (by omega))⟩), fun h => absurd h (by omega)⟩⟩⟩ dX12_aRule_305
                      · exact kx_zret F hQ (by omega) ⟨hI_N_153, hF_N_153, (Or.inr (by omega)), ⟨⟨(LO.fr hlo_139 hG_N_153 rfl), (fun h => absurd h (by omega))⟩, ⟨(j + 6), (tv Bt (j + 5)), fun _ => (Or.inr ⟨(Or.inr (Or.inr (Or.inr (Or.inr (Or.inr (Or.inr (Or.inr (Or.inr (Or.inr (Or.inr (Or.inr (Or.inr (Or.inr (Or.inr (Or.inr (Or.inr (Or.inl (by omega)))))))))))))))))), (Or.inr (Or.inr (Or.inl (by omega))))⟩), fun h => absurd h (by omega)⟩⟩⟩ dX12_aRule_305
                    · have hq_159 : (rq q b (lfn Bt t (q 0) (q 1) (q 2) (j + 1)) (N_45 164 (85 * a1 + 4 * (M 164 (85 * a1 + 1192)) + 1194)) (N_65 164 (85 * a1 + 4 * (M 164 (85 * a1 + 1192)) + 1195)) (N_124 164 (85 * a1 + 4 * (M 164 (85 * a1 + 1192)) + 1196))) = (rq q b (lfn Bt t (q 0) (q 1) (q 2) (j + 1)) (tv Bt (j + 2)) (tv Bt (j + 3)) (tv Bt (j + 5))) := rq_cg (by omega) (by omega) (by omega) (by omega)
                      refine kx_if_eq 300 F 306 dX12_aRule_297 (by decide) rfl (by omega) (fun h_160 => ?_) (fun h_160 => (by exfalso; omega))
                      refine kx_aload_n 307 F 0 dX12_aRule_306 rfl rfl rfl ?_
                      refine kx_getr 310 F fl_X12_7 kd_163 rfl rfl (j := 0) rfl dX12_aRule_307 (v := 164) (uq_164 (Inv.r hI_N_124 kd_163 rfl 0 rfl rfl)) rfl ?_
                      refine kx_iload_n 311 F 2 dX12_aRule_310 rfl rfl rfl ?_
                      refine kx_iconst 312 F dX12_aRule_311 rfl ?_
                      refine kx_iadd 313 F (v := 85 * a1 + 1192) dX12_aRule_312 (by omega) rfl ?_
                      refine kx_dup2 314 F dX12_aRule_313 rfl rfl rfl ?_
                      refine kx_iald 315 F kd_164 rfl rfl (by omega) (by decide) dX12_aRule_314 (v := (M 164 (85 * a1 + 1192))) (by rw [hx_N_124 _ (by omega), Fr.e hG_N_105 kd_164 _ rfl, hM_N_82, mu_i (by omega), hM_N_80, mu_i (by omega), hx_N_65 _ (by omega), hx_N_45 _ (by omega), Fr.e hG_N_37 kd_164 _ rfl, Fr.e hG_N_20 kd_164 _ rfl]) rfl ?_
                      refine kx_iconst 316 F dX12_aRule_315 rfl ?_
                      refine kx_iadd 317 F (v := (M 164 (85 * a1 + 1192)) + 1) dX12_aRule_316 rfl rfl ?_
                      refine kx_iast 318 F kd_164 rfl rfl (by omega) (by decide) dX12_aRule_317 rfl ?_
                      intro N_161 hM_N_161
                      have hI_N_161 : Inv true N_161 := Inv.u hI_N_124 hM_N_161 kd_164 (a := 0) (b := 20) ha_13.1 ha_13.2 rfl (by omega)
                      have hF_N_161 : Fr f_e_X12_aRule M N_161 := Fr.u hF_N_124 hM_N_161 kd_164 rfl
                      refine kx_iconst 319 F dX12_aRule_318 rfl ?_
                      have e_162 : (N_161 163 18) = (N_124 163 18) := by rw [hM_N_161, mu_k kd_163 kd_164 rfl]
                      have e_163 : (N_161 163 17) = (N_124 163 17) := by rw [hM_N_161, mu_k kd_163 kd_164 rfl]
                      have e_165 : M 164 (1192 + 85 * a1) = M 164 (85 * a1 + 1192) := by rw [show 1192 + 85 * a1 = 85 * a1 + 1192 by omega]
                      have e_166 : M 164 (1188 + 85 * a1) = M 164 (85 * a1 + 1188) := by rw [show 1188 + 85 * a1 = 85 * a1 + 1188 by omega]
                      have e_167 : N_161 164 (1192 + 85 * a1) = (M 164 (85 * a1 + 1192)) + 1 := by rw [show 1192 + 85 * a1 = 85 * a1 + 1192 by omega, hM_N_161, mu_s]
                      have e_168 : N_161 164 (1194 + 85 * a1 + 4 * (M 164 (85 * a1 + 1192))) = N_45 164 (85 * a1 + 4 * (M 164 (85 * a1 + 1192)) + 1194) := by rw [show 1194 + 85 * a1 + 4 * (M 164 (85 * a1 + 1192)) = 85 * a1 + 4 * (M 164 (85 * a1 + 1192)) + 1194 by omega, hM_N_161, mu_i (by omega), hx_N_124 _ (by omega), Fr.e hG_N_105 kd_164 _ rfl, hM_N_82, mu_i (by omega), hM_N_80, mu_i (by omega), hx_N_65 _ (by omega)]
                      have e_169 : N_161 164 (1195 + 85 * a1 + 4 * (M 164 (85 * a1 + 1192))) = N_65 164 (85 * a1 + 4 * (M 164 (85 * a1 + 1192)) + 1195) := by rw [show 1195 + 85 * a1 + 4 * (M 164 (85 * a1 + 1192)) = 85 * a1 + 4 * (M 164 (85 * a1 + 1192)) + 1195 by omega, hM_N_161, mu_i (by omega), hx_N_124 _ (by omega), Fr.e hG_N_105 kd_164 _ rfl, hM_N_82, mu_i (by omega), hM_N_80, mu_i (by omega)]
                      have e_170 : (N_161 164 (85 * a1 + 1192)) = (M 164 (85 * a1 + 1192)) + 1 := by rw [hM_N_161, mu_s]
                      have e_171 : (N_161 164 (85 * a1 + 4 * (M 164 (85 * a1 + 1192)) + 1193)) = (lfn Bt t (q 0) (q 1) (q 2) (j + 1)) := by rw [hM_N_161, mu_i (by omega), hx_N_124 _ (by omega), Fr.e hG_N_105 kd_164 _ rfl, hM_N_82, mu_i (by omega), hM_N_80, mu_s]
                      have e_172 : (N_161 164 (85 * a1 + 4 * (M 164 (85 * a1 + 1192)) + 1194)) = (N_45 164 (85 * a1 + 4 * (M 164 (85 * a1 + 1192)) + 1194)) := by rw [hM_N_161, mu_i (by omega), hx_N_124 _ (by omega), Fr.e hG_N_105 kd_164 _ rfl, hM_N_82, mu_i (by omega), hM_N_80, mu_i (by omega), hx_N_65 _ (by omega)]
                      have e_173 : (N_161 164 (85 * a1 + 4 * (M 164 (85 * a1 + 1192)) + 1195)) = (N_65 164 (85 * a1 + 4 * (M 164 (85 * a1 + 1192)) + 1195)) := by rw [hM_N_161, mu_i (by omega), hx_N_124 _ (by omega), Fr.e hG_N_105 kd_164 _ rfl, hM_N_82, mu_i (by omega), hM_N_80, mu_i (by omega)]
                      have e_174 : (N_161 164 (85 * a1 + 4 * (M 164 (85 * a1 + 1192)) + 1196)) = (N_124 164 (85 * a1 + 4 * (M 164 (85 * a1 + 1192)) + 1196)) := by rw [hM_N_161, mu_i (by omega)]
                      have hp_177 : RT N_161 Bt (j + 6) := RT.st ht_137 hM_N_161 kd_164 rfl
                      exact kx_zret F hQ (by omega) ⟨hI_N_161, hF_N_161, (Or.inl (by omega)), ⟨⟨(LO.sta hlo_139 hM_N_161 (by omega)), (fun _ => (R4.rule hR hI_M a1 (M 164 (85 * a1 + 1192)) (by omega) (by omega) (fun j hj h0 => by rw [hM_N_161, mu_i (by omega), hx_N_124 _ (by omega), Fr.e hG_N_105 kd_164 _ rfl, hM_N_82, mu_i (by omega), hM_N_80, mu_i (by omega), hx_N_65 _ (by omega), hx_N_45 _ (by omega), Fr.e hG_N_37 kd_164 _ rfl, Fr.e hG_N_20 kd_164 _ rfl]) (by omega) (by omega) (by omega)))⟩, ⟨(j + 6), (tv Bt (j + 5)), fun h => absurd h (by omega), fun _ => ⟨(Or.inr (Or.inr (Or.inr (Or.inr (Or.inr (Or.inr (Or.inr (Or.inr (Or.inr (Or.inr (Or.inr (Or.inr (Or.inr (Or.inr (Or.inr (Or.inr (Or.inl (by omega)))))))))))))))))), fun hk => by omega, hp_177, (BQ.cg (q' := (uprul q b (lfn Bt t (q 0) (q 1) (q 2) (j + 1)) (tv Bt (j + 2)) (tv Bt (j + 3)) (tv Bt (j + 5)))) hq (by rw [hM_N_161, mu_i (by omega)]; exact hO_138 1088 (Or.inl (by omega))) (by rw [hM_N_161, mu_i (by omega)]; exact hO_138 1089 (Or.inl (by omega))) (by rw [hM_N_161, mu_i (by omega)]; exact hO_138 1090 (Or.inl (by omega))) (by rw [hM_N_161, mu_i (by omega)]; exact hO_138 1092 (Or.inl (by omega))) (by rw [uprul_l (by omega) (by omega)]; have h : N_161 164 1091 = M 164 1091 := (by rw [hM_N_161, mu_i (by omega)]; exact hO_138 1091 (Or.inl (by omega))); omega) (uprul_l (by omega) (by omega)) (uprul_l (by omega) (by omega)) (uprul_l (by omega) (by omega)) (by rw [uprul_l (by omega) (by omega)]; omega)), (NR.cg (NR.st (NR.fr (NR.fr (NR.st (NR.st (NR.fr (NR.fr (NR.fr (NR.fr hN hG_N_20 rfl) hG_N_37 rfl) hG_N_45 rfl) hG_N_65 rfl) hM_N_80 kd_164 rfl) hM_N_82 kd_164 rfl) hG_N_105 rfl) hG_N_124 rfl) hM_N_161 kd_164 rfl) (uprul_l (by omega) (by omega)) (uprul_l (by omega) (by omega)) (uprul_l (by omega) (by omega))), (BA.set hA hb (by omega) (BT.app (y4 := 85 * a1 + 1192) (y5 := 85 * a1 + 4 * (M 164 (85 * a1 + 1192)) + 1193) (y6 := 85 * a1 + 4 * (M 164 (85 * a1 + 1192)) + 1194) (y7 := 85 * a1 + 4 * (M 164 (85 * a1 + 1192)) + 1195) (y8 := 85 * a1 + 4 * (M 164 (85 * a1 + 1192)) + 1196) hBT (by omega) (by omega) (by omega) (by omega) (by omega) (by omega) (by omega) (by omega) (by omega) (by omega) (by omega) (fun i h1 h2 => by rw [hM_N_161, mu_i (by omega)]; exact hO_138 i h2)) (fun k hk => uprul_l (by omega) (by omega)) (fun i h1 h2 => by rw [hM_N_161, mu_i (by omega)]; exact hO_138 i (Or.inl (by omega))) hr)⟩⟩⟩⟩ dX12_aRule_319
                  · refine kx_if_eq 259 F 306 dX12_aRule_256 (by decide) rfl (by omega) (fun h_178 => ?_) (fun h_178 => (by exfalso; omega))
                    refine kx_aload_n 307 F 0 dX12_aRule_306 rfl rfl rfl ?_
                    refine kx_getr 310 F fl_X12_7 kd_163 rfl rfl (j := 0) rfl dX12_aRule_307 (v := 164) (uq_164 (Inv.r hI_N_124 kd_163 rfl 0 rfl rfl)) rfl ?_
                    refine kx_iload_n 311 F 2 dX12_aRule_310 rfl rfl rfl ?_
                    refine kx_iconst 312 F dX12_aRule_311 rfl ?_
                    refine kx_iadd 313 F (v := 85 * a1 + 1192) dX12_aRule_312 (by omega) rfl ?_
                    refine kx_dup2 314 F dX12_aRule_313 rfl rfl rfl ?_
                    refine kx_iald 315 F kd_164 rfl rfl (by omega) (by decide) dX12_aRule_314 (v := (M 164 (85 * a1 + 1192))) (by rw [hx_N_124 _ (by omega), Fr.e hG_N_105 kd_164 _ rfl, hM_N_82, mu_i (by omega), hM_N_80, mu_i (by omega), hx_N_65 _ (by omega), hx_N_45 _ (by omega), Fr.e hG_N_37 kd_164 _ rfl, Fr.e hG_N_20 kd_164 _ rfl]) rfl ?_
                    refine kx_iconst 316 F dX12_aRule_315 rfl ?_
                    refine kx_iadd 317 F (v := (M 164 (85 * a1 + 1192)) + 1) dX12_aRule_316 rfl rfl ?_
                    refine kx_iast 318 F kd_164 rfl rfl (by omega) (by decide) dX12_aRule_317 rfl ?_
                    intro N_179 hM_N_179
                    have hI_N_179 : Inv true N_179 := Inv.u hI_N_124 hM_N_179 kd_164 (a := 0) (b := 20) ha_13.1 ha_13.2 rfl (by omega)
                    have hF_N_179 : Fr f_e_X12_aRule M N_179 := Fr.u hF_N_124 hM_N_179 kd_164 rfl
                    refine kx_iconst 319 F dX12_aRule_318 rfl ?_
                    have e_180 : (N_179 163 18) = (N_124 163 18) := by rw [hM_N_179, mu_k kd_163 kd_164 rfl]
                    have e_181 : (N_179 163 17) = (N_124 163 17) := by rw [hM_N_179, mu_k kd_163 kd_164 rfl]
                    have e_183 : M 164 (1192 + 85 * a1) = M 164 (85 * a1 + 1192) := by rw [show 1192 + 85 * a1 = 85 * a1 + 1192 by omega]
                    have e_184 : M 164 (1188 + 85 * a1) = M 164 (85 * a1 + 1188) := by rw [show 1188 + 85 * a1 = 85 * a1 + 1188 by omega]
                    have e_185 : N_179 164 (1192 + 85 * a1) = (M 164 (85 * a1 + 1192)) + 1 := by rw [show 1192 + 85 * a1 = 85 * a1 + 1192 by omega, hM_N_179, mu_s]
                    have e_186 : N_179 164 (1194 + 85 * a1 + 4 * (M 164 (85 * a1 + 1192))) = N_45 164 (85 * a1 + 4 * (M 164 (85 * a1 + 1192)) + 1194) := by rw [show 1194 + 85 * a1 + 4 * (M 164 (85 * a1 + 1192)) = 85 * a1 + 4 * (M 164 (85 * a1 + 1192)) + 1194 by omega, hM_N_179, mu_i (by omega), hx_N_124 _ (by omega), Fr.e hG_N_105 kd_164 _ rfl, hM_N_82, mu_i (by omega), hM_N_80, mu_i (by omega), hx_N_65 _ (by omega)]
                    have e_187 : N_179 164 (1195 + 85 * a1 + 4 * (M 164 (85 * a1 + 1192))) = N_65 164 (85 * a1 + 4 * (M 164 (85 * a1 + 1192)) + 1195) := by rw [show 1195 + 85 * a1 + 4 * (M 164 (85 * a1 + 1192)) = 85 * a1 + 4 * (M 164 (85 * a1 + 1192)) + 1195 by omega, hM_N_179, mu_i (by omega), hx_N_124 _ (by omega), Fr.e hG_N_105 kd_164 _ rfl, hM_N_82, mu_i (by omega), hM_N_80, mu_i (by omega)]
                    have e_188 : (N_179 164 (85 * a1 + 1192)) = (M 164 (85 * a1 + 1192)) + 1 := by rw [hM_N_179, mu_s]
                    have e_189 : (N_179 164 (85 * a1 + 4 * (M 164 (85 * a1 + 1192)) + 1193)) = (lfn Bt t (q 0) (q 1) (q 2) (j + 1)) := by rw [hM_N_179, mu_i (by omega), hx_N_124 _ (by omega), Fr.e hG_N_105 kd_164 _ rfl, hM_N_82, mu_i (by omega), hM_N_80, mu_s]
                    have e_190 : (N_179 164 (85 * a1 + 4 * (M 164 (85 * a1 + 1192)) + 1194)) = (N_45 164 (85 * a1 + 4 * (M 164 (85 * a1 + 1192)) + 1194)) := by rw [hM_N_179, mu_i (by omega), hx_N_124 _ (by omega), Fr.e hG_N_105 kd_164 _ rfl, hM_N_82, mu_i (by omega), hM_N_80, mu_i (by omega), hx_N_65 _ (by omega)]
                    have e_191 : (N_179 164 (85 * a1 + 4 * (M 164 (85 * a1 + 1192)) + 1195)) = (N_65 164 (85 * a1 + 4 * (M 164 (85 * a1 + 1192)) + 1195)) := by rw [hM_N_179, mu_i (by omega), hx_N_124 _ (by omega), Fr.e hG_N_105 kd_164 _ rfl, hM_N_82, mu_i (by omega), hM_N_80, mu_i (by omega)]
                    have e_192 : (N_179 164 (85 * a1 + 4 * (M 164 (85 * a1 + 1192)) + 1196)) = (N_124 164 (85 * a1 + 4 * (M 164 (85 * a1 + 1192)) + 1196)) := by rw [hM_N_179, mu_i (by omega)]
                    have hp_195 : RT N_179 Bt (j + 6) := RT.st ht_137 hM_N_179 kd_164 rfl
                    exact kx_zret F hQ (by omega) ⟨hI_N_179, hF_N_179, (Or.inl (by omega)), ⟨⟨(LO.sta hlo_139 hM_N_179 (by omega)), (fun _ => (R4.rule hR hI_M a1 (M 164 (85 * a1 + 1192)) (by omega) (by omega) (fun j hj h0 => by rw [hM_N_179, mu_i (by omega), hx_N_124 _ (by omega), Fr.e hG_N_105 kd_164 _ rfl, hM_N_82, mu_i (by omega), hM_N_80, mu_i (by omega), hx_N_65 _ (by omega), hx_N_45 _ (by omega), Fr.e hG_N_37 kd_164 _ rfl, Fr.e hG_N_20 kd_164 _ rfl]) (by omega) (by omega) (by omega)))⟩, ⟨(j + 6), (tv Bt (j + 5)), fun h => absurd h (by omega), fun _ => ⟨(Or.inr (Or.inr (Or.inr (Or.inr (Or.inr (Or.inr (Or.inr (Or.inr (Or.inr (Or.inr (Or.inr (Or.inr (Or.inr (Or.inr (Or.inr (Or.inr (Or.inl (by omega)))))))))))))))))), fun hk => by omega, hp_195, (BQ.cg (q' := (uprul q b (lfn Bt t (q 0) (q 1) (q 2) (j + 1)) (tv Bt (j + 2)) (tv Bt (j + 3)) (tv Bt (j + 5)))) hq (by rw [hM_N_179, mu_i (by omega)]; exact hO_138 1088 (Or.inl (by omega))) (by rw [hM_N_179, mu_i (by omega)]; exact hO_138 1089 (Or.inl (by omega))) (by rw [hM_N_179, mu_i (by omega)]; exact hO_138 1090 (Or.inl (by omega))) (by rw [hM_N_179, mu_i (by omega)]; exact hO_138 1092 (Or.inl (by omega))) (by rw [uprul_l (by omega) (by omega)]; have h : N_179 164 1091 = M 164 1091 := (by rw [hM_N_179, mu_i (by omega)]; exact hO_138 1091 (Or.inl (by omega))); omega) (uprul_l (by omega) (by omega)) (uprul_l (by omega) (by omega)) (uprul_l (by omega) (by omega)) (by rw [uprul_l (by omega) (by omega)]; omega)), (NR.cg (NR.st (NR.fr (NR.fr (NR.st (NR.st (NR.fr (NR.fr (NR.fr (NR.fr hN hG_N_20 rfl) hG_N_37 rfl) hG_N_45 rfl) hG_N_65 rfl) hM_N_80 kd_164 rfl) hM_N_82 kd_164 rfl) hG_N_105 rfl) hG_N_124 rfl) hM_N_179 kd_164 rfl) (uprul_l (by omega) (by omega)) (uprul_l (by omega) (by omega)) (uprul_l (by omega) (by omega))), (BA.set hA hb (by omega) (BT.app (y4 := 85 * a1 + 1192) (y5 := 85 * a1 + 4 * (M 164 (85 * a1 + 1192)) + 1193) (y6 := 85 * a1 + 4 * (M 164 (85 * a1 + 1192)) + 1194) (y7 := 85 * a1 + 4 * (M 164 (85 * a1 + 1192)) + 1195) (y8 := 85 * a1 + 4 * (M 164 (85 * a1 + 1192)) + 1196) hBT (by omega) (by omega) (by omega) (by omega) (by omega) (by omega) (by omega) (by omega) (by omega) (by omega) (by omega) (fun i h1 h2 => by rw [hM_N_179, mu_i (by omega)]; exact hO_138 i h2)) (fun k hk => uprul_l (by omega) (by omega)) (fun i h1 h2 => by rw [hM_N_179, mu_i (by omega)]; exact hO_138 i (Or.inl (by omega))) hr)⟩⟩⟩⟩ dX12_aRule_319
                · refine kx_if_ne 248 F 250 dX12_aRule_245 (by decide) rfl (by omega) (fun h_196 => (by exfalso; omega)) (fun h_196 => ?_)
                  refine kx_iconst 249 F dX12_aRule_248 rfl ?_
                  exact kx_zret F hQ (by omega) ⟨hI_N_124, hF_N_124, (Or.inr (by omega)), ⟨⟨(LO.ne hlo_118 hx_N_124 (by omega)), (fun h => absurd h (by omega))⟩, ⟨(j + 4), (-1), fun _ => (Or.inl ⟨by omega, (Or.inr (Or.inr (Or.inr (Or.inr (Or.inr (Or.inr (Or.inr (Or.inr (Or.inr (Or.inr (Or.inr (Or.inr (Or.inr (Or.inl (by omega)))))))))))))))⟩), fun h => absurd h (by omega)⟩⟩⟩ dX12_aRule_249
                · refine kx_if_ne 248 F 250 dX12_aRule_245 (by decide) rfl (by omega) (fun h_197 => (by exfalso; omega)) (fun h_197 => ?_)
                  refine kx_iconst 249 F dX12_aRule_248 rfl ?_
                  exact kx_zret F hQ (by omega) ⟨hI_N_124, hF_N_124, (Or.inr (by omega)), ⟨⟨(LO.ne hlo_118 hx_N_124 (by omega)), (fun h => absurd h (by omega))⟩, ⟨(j + 4), (-1), fun _ => (Or.inl ⟨by omega, (Or.inr (Or.inr (Or.inr (Or.inr (Or.inr (Or.inr (Or.inr (Or.inr (Or.inr (Or.inr (Or.inr (Or.inr (Or.inr (Or.inr (Or.inl (by omega))))))))))))))))⟩), fun h => absurd h (by omega)⟩⟩⟩ dX12_aRule_249
                · exfalso; omega
                · refine kx_if_ne 248 F 250 dX12_aRule_245 (by decide) rfl (by omega) (fun h_198 => (by exfalso; omega)) (fun h_198 => ?_)
                  refine kx_iconst 249 F dX12_aRule_248 rfl ?_
                  exact kx_zret F hQ (by omega) ⟨hI_N_124, hF_N_124, (Or.inr (by omega)), ⟨⟨(LO.ne hlo_118 hx_N_124 (by omega)), (fun h => absurd h (by omega))⟩, ⟨(j + 4), (-1), fun _ => (Or.inl ⟨by omega, (Or.inr (Or.inr (Or.inr (Or.inr (Or.inr (Or.inr (Or.inr (Or.inr (Or.inr (Or.inr (Or.inr (Or.inr (Or.inr (Or.inr (Or.inr (Or.inl (by omega)))))))))))))))))⟩), fun h => absurd h (by omega)⟩⟩⟩ dX12_aRule_249
              · refine kx_if_ne 169 F 171 dX12_aRule_166 (by decide) rfl (by omega) (fun h_199 => (by exfalso; omega)) (fun h_199 => ?_)
                refine kx_iconst 170 F dX12_aRule_169 rfl ?_
                exact kx_zret F hQ (by omega) ⟨hI_N_105, hF_N_105, (Or.inr (by omega)), ⟨⟨(LO.fr hlo_84 hG_N_105 rfl), (fun h => absurd h (by omega))⟩, ⟨(j + 4), (-1), fun _ => (Or.inl ⟨by omega, (Or.inr (Or.inr (Or.inr (Or.inr (Or.inr (Or.inr (Or.inr (Or.inr (Or.inr (Or.inr (Or.inr (Or.inl (by omega)))))))))))))⟩), fun h => absurd h (by omega)⟩⟩⟩ dX12_aRule_170
              · refine kx_if_ne 169 F 171 dX12_aRule_166 (by decide) rfl (by omega) (fun h_200 => (by exfalso; omega)) (fun h_200 => ?_)
                refine kx_iconst 170 F dX12_aRule_169 rfl ?_
                exact kx_zret F hQ (by omega) ⟨hI_N_105, hF_N_105, (Or.inr (by omega)), ⟨⟨(LO.fr hlo_84 hG_N_105 rfl), (fun h => absurd h (by omega))⟩, ⟨(j + 4), (-1), fun _ => (Or.inl ⟨by omega, (Or.inr (Or.inr (Or.inr (Or.inr (Or.inr (Or.inr (Or.inr (Or.inr (Or.inr (Or.inr (Or.inr (Or.inr (Or.inl (by omega))))))))))))))⟩), fun h => absurd h (by omega)⟩⟩⟩ dX12_aRule_170
            · refine kx_istore 153 F 6 (lo' := [some (vR G 163), some (vI a1), some (vI (85 * a1 + 1188)), some (vI (M 164 (85 * a1 + 1192))), some (vI (85 * a1 + 4 * (M 164 (85 * a1 + 1192)) + 1193)), some (vI (lfn Bt t (q 0) (q 1) (q 2) (j + 1))), some (vI r_85)]) dX12_aRule_151 (by decide) rfl rfl rfl ?_
              refine kx_iload 155 F 6 dX12_aRule_153 rfl rfl ?_
              refine kx_if_ne 158 F 171 dX12_aRule_155 (by decide) rfl (by omega) (fun h_201 => ?_) (fun h_201 => (by exfalso; omega))
              refine kx_iload 173 F 6 dX12_aRule_171 rfl rfl ?_
              refine kx_iconst 174 F dX12_aRule_173 rfl ?_
              refine kx_icmp_ne 177 F 221 dX12_aRule_174 (by decide) rfl (by omega) (by decide) (fun h_202 => (by exfalso; omega)) (fun h_202 => ?_)
              refine kx_aload_n 178 F 0 dX12_aRule_177 rfl rfl rfl ?_
              refine kx_bipush 180 F dX12_aRule_178 (by decide) rfl ?_
              have hp_203 : RT N_80 Bt (j + 4) := RT.st ht_78 hM_N_80 kd_164 rfl
              have hp_204 : RT N_82 Bt (j + 4) := RT.st hp_203 hM_N_82 kd_164 rfl
              refine kx_Vi 183 (ci := 0) F (As := [vI 10]) (st := []) vd_X12_250 (e_X12_isThere G l N_82 10 hI_N_82 (by omega) Bt (TM.fr hB hF_N_82 rfl) (j + 4) (by omega) hp_204) kd_163 rfl rfl rfl ⟨by decide, by decide⟩ rfl rfl (Nat.le_of_ble_eq_true rfl) dX12_aRule_180 rfl ?_
              intro r_205 N_206 q_207
              obtain ⟨hI_N_206, hG_N_206, q_207c, ⟨hr_N_206, hz_N_206⟩⟩ := q_207
              have hF_N_206 : Fr f_e_X12_aRule M N_206 := Fr.c hF_N_82 hG_N_206 rfl
              have e_208 : (N_82 163 18) = (N_65 163 18) := by rw [hM_N_82, mu_k kd_163 kd_164 rfl, hM_N_80, mu_k kd_163 kd_164 rfl]
              have e_209 : (N_206 163 18) = (N_65 163 18) := by rw [Fr.e hG_N_206 kd_163 _ rfl, hM_N_82, mu_k kd_163 kd_164 rfl, hM_N_80, mu_k kd_163 kd_164 rfl]
              have e_210 : (N_82 163 17) = (N_65 163 17) := by rw [hM_N_82, mu_k kd_163 kd_164 rfl, hM_N_80, mu_k kd_163 kd_164 rfl]
              have e_211 : (N_206 163 17) = (N_65 163 17) := by rw [Fr.e hG_N_206 kd_163 _ rfl, hM_N_82, mu_k kd_163 kd_164 rfl, hM_N_80, mu_k kd_163 kd_164 rfl]
              rcases q_207c with q_207c | q_207c
              · refine kx_if_ne 186 F 221 dX12_aRule_183 (by decide) rfl (by omega) (fun h_216 => ?_) (fun h_216 => (by exfalso; omega))
                have hd_217 : tbd Bt (j + 4) = 0 := kwd_b (by omega)
                have ht_218 : RT N_206 Bt (j + 5) := by have hh := hr_N_206 (by omega); first | exact hh | (rw [show (j + 5) = (j + 4) + 1 by omega]; exact hh)
                have hlo_219 : LO N_206 M := (LO.fr hlo_84 hG_N_206 rfl)
                refine kx_iload 223 F 6 dX12_aRule_221 rfl rfl ?_
                refine kx_if_ne 226 F 250 dX12_aRule_223 (by decide) rfl (by omega) (fun h_220 => ?_) (fun h_220 => (by exfalso; omega))
                have hO_221 : ∀ i, (i < b + 1093 + 4 * q (b + 4) ∨ b + 1096 + 4 * q (b + 4) < i) → N_206 164 i = M 164 i := fun i h2 => by rw [Fr.e hG_N_206 kd_164 _ rfl, hM_N_82, mu_i (by omega), hM_N_80, mu_i (by omega), hx_N_65 _ (by omega), hx_N_45 _ (by omega), Fr.e hG_N_37 kd_164 _ rfl, Fr.e hG_N_20 kd_164 _ rfl]
                refine kx_aload_n 251 F 0 dX12_aRule_250 rfl rfl rfl ?_
                refine kx_bipush 253 F dX12_aRule_251 (by decide) rfl ?_
                refine kx_Vi 256 (ci := 0) F (As := [vI 59]) (st := []) vd_X12_202 (e_X12_isSign G l N_206 59 hI_N_206 (by omega) Bt (TM.fr hB hF_N_206 rfl) (j + 5) (by omega) ht_218) kd_163 rfl rfl rfl ⟨by decide, by decide⟩ rfl rfl (Nat.le_of_ble_eq_true rfl) dX12_aRule_253 rfl ?_
                intro r_222 N_223 q_224
                obtain ⟨rfl, q_224c⟩ := q_224
                rcases q_224c with q_224c | q_224c
                · refine kx_if_eq 259 F 306 dX12_aRule_256 (by decide) rfl (by omega) (fun h_225 => (by exfalso; omega)) (fun h_225 => ?_)
                  refine kx_aload_n 260 F 0 dX12_aRule_259 rfl rfl rfl ?_
                  refine kx_sipush 263 F dX12_aRule_260 (by decide) rfl ?_
                  refine kx_iload_n 264 F 1 dX12_aRule_263 rfl rfl rfl ?_
                  refine kx_iload_n 265 F 3 dX12_aRule_264 rfl rfl rfl ?_
                  refine kx_iload 267 F 5 dX12_aRule_265 rfl rfl ?_
                  refine kx_aload_n 268 F 0 dX12_aRule_267 rfl rfl rfl ?_
                  refine kx_getr 271 F fl_X12_7 kd_163 rfl rfl (j := 0) rfl dX12_aRule_268 (v := 164) (uq_164 (Inv.r hI_N_206 kd_163 rfl 0 rfl rfl)) rfl ?_
                  refine kx_iload 273 F 4 dX12_aRule_271 rfl rfl ?_
                  refine kx_iconst 274 F dX12_aRule_273 rfl ?_
                  refine kx_iadd 275 F (v := 85 * a1 + 4 * (M 164 (85 * a1 + 1192)) + 1194) dX12_aRule_274 (by omega) rfl ?_
                  refine kx_iald 276 F kd_164 rfl rfl (by omega) (by decide) dX12_aRule_275 (v := (N_45 164 (85 * a1 + 4 * (M 164 (85 * a1 + 1192)) + 1194))) (by rw [Fr.e hG_N_206 kd_164 _ rfl, hM_N_82, mu_i (by omega), hM_N_80, mu_i (by omega), hx_N_65 _ (by omega)]) rfl ?_
                  have h_226 := Inv.g hI_N_45 kd_164 rfl (85 * a1 + 4 * (M 164 (85 * a1 + 1192)) + 1194) (a := 0) (b := 2) ha_42.1 ha_42.2
                  refine kx_aload_n 277 F 0 dX12_aRule_276 rfl rfl rfl ?_
                  refine kx_getr 280 F fl_X12_7 kd_163 rfl rfl (j := 0) rfl dX12_aRule_277 (v := 164) (uq_164 (Inv.r hI_N_206 kd_163 rfl 0 rfl rfl)) rfl ?_
                  refine kx_iload 282 F 4 dX12_aRule_280 rfl rfl ?_
                  refine kx_iconst 283 F dX12_aRule_282 rfl ?_
                  refine kx_iadd 284 F (v := 85 * a1 + 4 * (M 164 (85 * a1 + 1192)) + 1195) dX12_aRule_283 (by omega) rfl ?_
                  refine kx_iald 285 F kd_164 rfl rfl (by omega) (by decide) dX12_aRule_284 (v := (N_65 164 (85 * a1 + 4 * (M 164 (85 * a1 + 1192)) + 1195))) (by rw [Fr.e hG_N_206 kd_164 _ rfl, hM_N_82, mu_i (by omega), hM_N_80, mu_i (by omega)]) rfl ?_
                  have h_227 := Inv.g hI_N_65 kd_164 rfl (85 * a1 + 4 * (M 164 (85 * a1 + 1192)) + 1195) (a := 0) (b := 2) ha_63.1 ha_63.2
                  refine kx_aload_n 286 F 0 dX12_aRule_285 rfl rfl rfl ?_
                  refine kx_getr 289 F fl_X12_7 kd_163 rfl rfl (j := 0) rfl dX12_aRule_286 (v := 164) (uq_164 (Inv.r hI_N_206 kd_163 rfl 0 rfl rfl)) rfl ?_
                  refine kx_iload 291 F 4 dX12_aRule_289 rfl rfl ?_
                  refine kx_iconst 292 F dX12_aRule_291 rfl ?_
                  refine kx_iadd 293 F (v := 85 * a1 + 4 * (M 164 (85 * a1 + 1192)) + 1196) dX12_aRule_292 (by omega) rfl ?_
                  refine kx_iald 294 F kd_164 rfl rfl (by omega) (by decide) dX12_aRule_293 (v := -1) (by rw [Fr.e hG_N_206 kd_164 _ rfl, hM_N_82, mu_s]) rfl ?_
                  refine kx_Vi 297 (ci := 0) F (As := [vI 1088, vI a1, vI (M 164 (85 * a1 + 1192)), vI (lfn Bt t (q 0) (q 1) (q 2) (j + 1)), vI (N_45 164 (85 * a1 + 4 * (M 164 (85 * a1 + 1192)) + 1194)), vI (N_65 164 (85 * a1 + 4 * (M 164 (85 * a1 + 1192)) + 1195)), vI (-1)]) (st := []) vd_X12_253 (e_X12_isRuleN G l N_206 1088 a1 (M 164 (85 * a1 + 1192)) (lfn Bt t (q 0) (q 1) (q 2) (j + 1)) (N_45 164 (85 * a1 + 4 * (M 164 (85 * a1 + 1192)) + 1194)) (N_65 164 (85 * a1 + 4 * (M 164 (85 * a1 + 1192)) + 1195)) (-1) hI_N_206 (by omega) q b (BT.low hBT (by omega) (fun i h1 h2 => hO_221 i (Or.inl (by omega)))) (by omega) (by omega)) kd_163 rfl rfl rfl ⟨by decide, by decide⟩ rfl rfl (Nat.le_of_ble_eq_true rfl) dX12_aRule_294 rfl ?_
                  intro r_228 N_229 q_230
                  obtain ⟨rfl, q_230c⟩ := q_230
                  rcases q_230c with q_230c | q_230c
                  · have hq_231 : (rq q b (lfn Bt t (q 0) (q 1) (q 2) (j + 1)) (N_45 164 (85 * a1 + 4 * (M 164 (85 * a1 + 1192)) + 1194)) (N_65 164 (85 * a1 + 4 * (M 164 (85 * a1 + 1192)) + 1195)) (-1)) = (rq q b (lfn Bt t (q 0) (q 1) (q 2) (j + 1)) (tv Bt (j + 2)) (tv Bt (j + 3)) (-1)) := rq_cg (by omega) (by omega) (by omega) (by omega)
                    refine kx_if_eq 300 F 306 dX12_aRule_297 (by decide) rfl (by omega) (fun h_232 => (by exfalso; omega)) (fun h_232 => ?_)
                    refine kx_aload_n 301 F 0 dX12_aRule_300 rfl rfl rfl ?_
                    refine kx_iconst 302 F dX12_aRule_301 rfl ?_
                    refine kx_Vi 305 (ci := 0) F (As := [vI 5]) (st := []) vd_X12_205 (e_X12_fails G l N_206 5 hI_N_206 (by omega) Bt (TM.fr hB hF_N_206 rfl) (j + 5) (by omega) ht_218) kd_163 rfl rfl rfl ⟨by decide, by decide⟩ rfl rfl (Nat.le_of_ble_eq_true rfl) dX12_aRule_302 rfl ?_
                    intro r_234 N_235 q_236
                    obtain ⟨hI_N_235, hG_N_235, q_236c⟩ := q_236
                    have hF_N_235 : Fr f_e_X12_aRule M N_235 := Fr.c hF_N_206 hG_N_235 rfl
                    have h_237 := Inv.g hI_N_235 kd_163 rfl 18 (a := (-2147483648)) (b := 2147483647) rfl rfl
                    have h_238 := Inv.g hI_N_235 kd_163 rfl 17 (a := (-2147483648)) (b := 2147483647) rfl rfl
                    rcases q_236c with q_236c | q_236c
                    · exact kx_zret F hQ (by omega) ⟨hI_N_235, hF_N_235, (Or.inr (by omega)), ⟨⟨(LO.fr hlo_219 hG_N_235 rfl), (fun h => absurd h (by omega))⟩, ⟨(j + 5), (-1), fun _ => (Or.inr ⟨(Or.inr (Or.inr (Or.inr (Or.inr (Or.inr (Or.inr (Or.inr (Or.inr (Or.inr (Or.inr (Or.inr (Or.inr (Or.inr (Or.inr (Or.inr (Or.inr (Or.inr (Or.inr (Or.inr (Or.inr (Or.inr (Or.inr (Or.inr ((by omega))))))))))))))))))))))))), (Or.inl (by omega))⟩), fun h => absurd h (by omega)⟩⟩⟩ dX12_aRule_305
                    · exact kx_zret F hQ (by omega) ⟨hI_N_235, hF_N_235, (Or.inr (by omega)), ⟨⟨(LO.fr hlo_219 hG_N_235 rfl), (fun h => absurd h (by omega))⟩, ⟨(j + 5), (-1), fun _ => (Or.inr ⟨(Or.inr (Or.inr (Or.inr (Or.inr (Or.inr (Or.inr (Or.inr (Or.inr (Or.inr (Or.inr (Or.inr (Or.inr (Or.inr (Or.inr (Or.inr (Or.inr (Or.inr (Or.inr (Or.inr (Or.inr (Or.inr (Or.inr (Or.inr ((by omega))))))))))))))))))))))))), (Or.inr (Or.inr (Or.inl (by omega))))⟩), fun h => absurd h (by omega)⟩⟩⟩ dX12_aRule_305
                  · have hq_241 : (rq q b (lfn Bt t (q 0) (q 1) (q 2) (j + 1)) (N_45 164 (85 * a1 + 4 * (M 164 (85 * a1 + 1192)) + 1194)) (N_65 164 (85 * a1 + 4 * (M 164 (85 * a1 + 1192)) + 1195)) (-1)) = (rq q b (lfn Bt t (q 0) (q 1) (q 2) (j + 1)) (tv Bt (j + 2)) (tv Bt (j + 3)) (-1)) := rq_cg (by omega) (by omega) (by omega) (by omega)
                    refine kx_if_eq 300 F 306 dX12_aRule_297 (by decide) rfl (by omega) (fun h_242 => ?_) (fun h_242 => (by exfalso; omega))
                    refine kx_aload_n 307 F 0 dX12_aRule_306 rfl rfl rfl ?_
                    refine kx_getr 310 F fl_X12_7 kd_163 rfl rfl (j := 0) rfl dX12_aRule_307 (v := 164) (uq_164 (Inv.r hI_N_206 kd_163 rfl 0 rfl rfl)) rfl ?_
                    refine kx_iload_n 311 F 2 dX12_aRule_310 rfl rfl rfl ?_
                    refine kx_iconst 312 F dX12_aRule_311 rfl ?_
                    refine kx_iadd 313 F (v := 85 * a1 + 1192) dX12_aRule_312 (by omega) rfl ?_
                    refine kx_dup2 314 F dX12_aRule_313 rfl rfl rfl ?_
                    refine kx_iald 315 F kd_164 rfl rfl (by omega) (by decide) dX12_aRule_314 (v := (M 164 (85 * a1 + 1192))) (by rw [Fr.e hG_N_206 kd_164 _ rfl, hM_N_82, mu_i (by omega), hM_N_80, mu_i (by omega), hx_N_65 _ (by omega), hx_N_45 _ (by omega), Fr.e hG_N_37 kd_164 _ rfl, Fr.e hG_N_20 kd_164 _ rfl]) rfl ?_
                    refine kx_iconst 316 F dX12_aRule_315 rfl ?_
                    refine kx_iadd 317 F (v := (M 164 (85 * a1 + 1192)) + 1) dX12_aRule_316 rfl rfl ?_
                    refine kx_iast 318 F kd_164 rfl rfl (by omega) (by decide) dX12_aRule_317 rfl ?_
                    intro N_243 hM_N_243
                    have hI_N_243 : Inv true N_243 := Inv.u hI_N_206 hM_N_243 kd_164 (a := 0) (b := 20) ha_13.1 ha_13.2 rfl (by omega)
                    have hF_N_243 : Fr f_e_X12_aRule M N_243 := Fr.u hF_N_206 hM_N_243 kd_164 rfl
                    refine kx_iconst 319 F dX12_aRule_318 rfl ?_
                    have e_244 : (N_243 163 18) = (N_65 163 18) := by rw [hM_N_243, mu_k kd_163 kd_164 rfl, Fr.e hG_N_206 kd_163 _ rfl, hM_N_82, mu_k kd_163 kd_164 rfl, hM_N_80, mu_k kd_163 kd_164 rfl]
                    have e_245 : (N_243 163 17) = (N_65 163 17) := by rw [hM_N_243, mu_k kd_163 kd_164 rfl, Fr.e hG_N_206 kd_163 _ rfl, hM_N_82, mu_k kd_163 kd_164 rfl, hM_N_80, mu_k kd_163 kd_164 rfl]
                    have e_247 : M 164 (1192 + 85 * a1) = M 164 (85 * a1 + 1192) := by rw [show 1192 + 85 * a1 = 85 * a1 + 1192 by omega]
                    have e_248 : M 164 (1188 + 85 * a1) = M 164 (85 * a1 + 1188) := by rw [show 1188 + 85 * a1 = 85 * a1 + 1188 by omega]
                    have e_249 : N_243 164 (1192 + 85 * a1) = (M 164 (85 * a1 + 1192)) + 1 := by rw [show 1192 + 85 * a1 = 85 * a1 + 1192 by omega, hM_N_243, mu_s]
                    have e_250 : N_243 164 (1194 + 85 * a1 + 4 * (M 164 (85 * a1 + 1192))) = N_45 164 (85 * a1 + 4 * (M 164 (85 * a1 + 1192)) + 1194) := by rw [show 1194 + 85 * a1 + 4 * (M 164 (85 * a1 + 1192)) = 85 * a1 + 4 * (M 164 (85 * a1 + 1192)) + 1194 by omega, hM_N_243, mu_i (by omega), Fr.e hG_N_206 kd_164 _ rfl, hM_N_82, mu_i (by omega), hM_N_80, mu_i (by omega), hx_N_65 _ (by omega)]
                    have e_251 : N_243 164 (1195 + 85 * a1 + 4 * (M 164 (85 * a1 + 1192))) = N_65 164 (85 * a1 + 4 * (M 164 (85 * a1 + 1192)) + 1195) := by rw [show 1195 + 85 * a1 + 4 * (M 164 (85 * a1 + 1192)) = 85 * a1 + 4 * (M 164 (85 * a1 + 1192)) + 1195 by omega, hM_N_243, mu_i (by omega), Fr.e hG_N_206 kd_164 _ rfl, hM_N_82, mu_i (by omega), hM_N_80, mu_i (by omega)]
                    have e_252 : (N_243 164 (85 * a1 + 1192)) = (M 164 (85 * a1 + 1192)) + 1 := by rw [hM_N_243, mu_s]
                    have e_253 : (N_243 164 (85 * a1 + 4 * (M 164 (85 * a1 + 1192)) + 1193)) = (lfn Bt t (q 0) (q 1) (q 2) (j + 1)) := by rw [hM_N_243, mu_i (by omega), Fr.e hG_N_206 kd_164 _ rfl, hM_N_82, mu_i (by omega), hM_N_80, mu_s]
                    have e_254 : (N_243 164 (85 * a1 + 4 * (M 164 (85 * a1 + 1192)) + 1194)) = (N_45 164 (85 * a1 + 4 * (M 164 (85 * a1 + 1192)) + 1194)) := by rw [hM_N_243, mu_i (by omega), Fr.e hG_N_206 kd_164 _ rfl, hM_N_82, mu_i (by omega), hM_N_80, mu_i (by omega), hx_N_65 _ (by omega)]
                    have e_255 : (N_243 164 (85 * a1 + 4 * (M 164 (85 * a1 + 1192)) + 1195)) = (N_65 164 (85 * a1 + 4 * (M 164 (85 * a1 + 1192)) + 1195)) := by rw [hM_N_243, mu_i (by omega), Fr.e hG_N_206 kd_164 _ rfl, hM_N_82, mu_i (by omega), hM_N_80, mu_i (by omega)]
                    have e_256 : (N_243 164 (85 * a1 + 4 * (M 164 (85 * a1 + 1192)) + 1196)) = -1 := by rw [hM_N_243, mu_i (by omega), Fr.e hG_N_206 kd_164 _ rfl, hM_N_82, mu_s]
                    have hp_259 : RT N_243 Bt (j + 5) := RT.st ht_218 hM_N_243 kd_164 rfl
                    exact kx_zret F hQ (by omega) ⟨hI_N_243, hF_N_243, (Or.inl (by omega)), ⟨⟨(LO.sta hlo_219 hM_N_243 (by omega)), (fun _ => (R4.rule hR hI_M a1 (M 164 (85 * a1 + 1192)) (by omega) (by omega) (fun j hj h0 => by rw [hM_N_243, mu_i (by omega), Fr.e hG_N_206 kd_164 _ rfl, hM_N_82, mu_i (by omega), hM_N_80, mu_i (by omega), hx_N_65 _ (by omega), hx_N_45 _ (by omega), Fr.e hG_N_37 kd_164 _ rfl, Fr.e hG_N_20 kd_164 _ rfl]) (by omega) (by omega) (by omega)))⟩, ⟨(j + 5), (-1), fun h => absurd h (by omega), fun _ => ⟨(Or.inr (Or.inr (Or.inr (Or.inr (Or.inr (Or.inr (Or.inr (Or.inr (Or.inr (Or.inr (Or.inr (Or.inr (Or.inr (Or.inr (Or.inr (Or.inr (Or.inr (Or.inr (Or.inr (Or.inr (Or.inr (Or.inr (Or.inr ((by omega))))))))))))))))))))))))), fun hk => by omega, hp_259, (BQ.cg (q' := (uprul q b (lfn Bt t (q 0) (q 1) (q 2) (j + 1)) (tv Bt (j + 2)) (tv Bt (j + 3)) (-1))) hq (by rw [hM_N_243, mu_i (by omega)]; exact hO_221 1088 (Or.inl (by omega))) (by rw [hM_N_243, mu_i (by omega)]; exact hO_221 1089 (Or.inl (by omega))) (by rw [hM_N_243, mu_i (by omega)]; exact hO_221 1090 (Or.inl (by omega))) (by rw [hM_N_243, mu_i (by omega)]; exact hO_221 1092 (Or.inl (by omega))) (by rw [uprul_l (by omega) (by omega)]; have h : N_243 164 1091 = M 164 1091 := (by rw [hM_N_243, mu_i (by omega)]; exact hO_221 1091 (Or.inl (by omega))); omega) (uprul_l (by omega) (by omega)) (uprul_l (by omega) (by omega)) (uprul_l (by omega) (by omega)) (by rw [uprul_l (by omega) (by omega)]; omega)), (NR.cg (NR.st (NR.fr (NR.st (NR.st (NR.fr (NR.fr (NR.fr (NR.fr hN hG_N_20 rfl) hG_N_37 rfl) hG_N_45 rfl) hG_N_65 rfl) hM_N_80 kd_164 rfl) hM_N_82 kd_164 rfl) hG_N_206 rfl) hM_N_243 kd_164 rfl) (uprul_l (by omega) (by omega)) (uprul_l (by omega) (by omega)) (uprul_l (by omega) (by omega))), (BA.set hA hb (by omega) (BT.app (y4 := 85 * a1 + 1192) (y5 := 85 * a1 + 4 * (M 164 (85 * a1 + 1192)) + 1193) (y6 := 85 * a1 + 4 * (M 164 (85 * a1 + 1192)) + 1194) (y7 := 85 * a1 + 4 * (M 164 (85 * a1 + 1192)) + 1195) (y8 := 85 * a1 + 4 * (M 164 (85 * a1 + 1192)) + 1196) hBT (by omega) (by omega) (by omega) (by omega) (by omega) (by omega) (by omega) (by omega) (by omega) (by omega) (by omega) (fun i h1 h2 => by rw [hM_N_243, mu_i (by omega)]; exact hO_221 i h2)) (fun k hk => uprul_l (by omega) (by omega)) (fun i h1 h2 => by rw [hM_N_243, mu_i (by omega)]; exact hO_221 i (Or.inl (by omega))) hr)⟩⟩⟩⟩ dX12_aRule_319
                · refine kx_if_eq 259 F 306 dX12_aRule_256 (by decide) rfl (by omega) (fun h_260 => ?_) (fun h_260 => (by exfalso; omega))
                  refine kx_aload_n 307 F 0 dX12_aRule_306 rfl rfl rfl ?_
                  refine kx_getr 310 F fl_X12_7 kd_163 rfl rfl (j := 0) rfl dX12_aRule_307 (v := 164) (uq_164 (Inv.r hI_N_206 kd_163 rfl 0 rfl rfl)) rfl ?_
                  refine kx_iload_n 311 F 2 dX12_aRule_310 rfl rfl rfl ?_
                  refine kx_iconst 312 F dX12_aRule_311 rfl ?_
                  refine kx_iadd 313 F (v := 85 * a1 + 1192) dX12_aRule_312 (by omega) rfl ?_
                  refine kx_dup2 314 F dX12_aRule_313 rfl rfl rfl ?_
                  refine kx_iald 315 F kd_164 rfl rfl (by omega) (by decide) dX12_aRule_314 (v := (M 164 (85 * a1 + 1192))) (by rw [Fr.e hG_N_206 kd_164 _ rfl, hM_N_82, mu_i (by omega), hM_N_80, mu_i (by omega), hx_N_65 _ (by omega), hx_N_45 _ (by omega), Fr.e hG_N_37 kd_164 _ rfl, Fr.e hG_N_20 kd_164 _ rfl]) rfl ?_
                  refine kx_iconst 316 F dX12_aRule_315 rfl ?_
                  refine kx_iadd 317 F (v := (M 164 (85 * a1 + 1192)) + 1) dX12_aRule_316 rfl rfl ?_
                  refine kx_iast 318 F kd_164 rfl rfl (by omega) (by decide) dX12_aRule_317 rfl ?_
                  intro N_261 hM_N_261
                  have hI_N_261 : Inv true N_261 := Inv.u hI_N_206 hM_N_261 kd_164 (a := 0) (b := 20) ha_13.1 ha_13.2 rfl (by omega)
                  have hF_N_261 : Fr f_e_X12_aRule M N_261 := Fr.u hF_N_206 hM_N_261 kd_164 rfl
                  refine kx_iconst 319 F dX12_aRule_318 rfl ?_
                  have e_262 : (N_261 163 18) = (N_65 163 18) := by rw [hM_N_261, mu_k kd_163 kd_164 rfl, Fr.e hG_N_206 kd_163 _ rfl, hM_N_82, mu_k kd_163 kd_164 rfl, hM_N_80, mu_k kd_163 kd_164 rfl]
                  have e_263 : (N_261 163 17) = (N_65 163 17) := by rw [hM_N_261, mu_k kd_163 kd_164 rfl, Fr.e hG_N_206 kd_163 _ rfl, hM_N_82, mu_k kd_163 kd_164 rfl, hM_N_80, mu_k kd_163 kd_164 rfl]
                  have e_265 : M 164 (1192 + 85 * a1) = M 164 (85 * a1 + 1192) := by rw [show 1192 + 85 * a1 = 85 * a1 + 1192 by omega]
                  have e_266 : M 164 (1188 + 85 * a1) = M 164 (85 * a1 + 1188) := by rw [show 1188 + 85 * a1 = 85 * a1 + 1188 by omega]
                  have e_267 : N_261 164 (1192 + 85 * a1) = (M 164 (85 * a1 + 1192)) + 1 := by rw [show 1192 + 85 * a1 = 85 * a1 + 1192 by omega, hM_N_261, mu_s]
                  have e_268 : N_261 164 (1194 + 85 * a1 + 4 * (M 164 (85 * a1 + 1192))) = N_45 164 (85 * a1 + 4 * (M 164 (85 * a1 + 1192)) + 1194) := by rw [show 1194 + 85 * a1 + 4 * (M 164 (85 * a1 + 1192)) = 85 * a1 + 4 * (M 164 (85 * a1 + 1192)) + 1194 by omega, hM_N_261, mu_i (by omega), Fr.e hG_N_206 kd_164 _ rfl, hM_N_82, mu_i (by omega), hM_N_80, mu_i (by omega), hx_N_65 _ (by omega)]
                  have e_269 : N_261 164 (1195 + 85 * a1 + 4 * (M 164 (85 * a1 + 1192))) = N_65 164 (85 * a1 + 4 * (M 164 (85 * a1 + 1192)) + 1195) := by rw [show 1195 + 85 * a1 + 4 * (M 164 (85 * a1 + 1192)) = 85 * a1 + 4 * (M 164 (85 * a1 + 1192)) + 1195 by omega, hM_N_261, mu_i (by omega), Fr.e hG_N_206 kd_164 _ rfl, hM_N_82, mu_i (by omega), hM_N_80, mu_i (by omega)]
                  have e_270 : (N_261 164 (85 * a1 + 1192)) = (M 164 (85 * a1 + 1192)) + 1 := by rw [hM_N_261, mu_s]
                  have e_271 : (N_261 164 (85 * a1 + 4 * (M 164 (85 * a1 + 1192)) + 1193)) = (lfn Bt t (q 0) (q 1) (q 2) (j + 1)) := by rw [hM_N_261, mu_i (by omega), Fr.e hG_N_206 kd_164 _ rfl, hM_N_82, mu_i (by omega), hM_N_80, mu_s]
                  have e_272 : (N_261 164 (85 * a1 + 4 * (M 164 (85 * a1 + 1192)) + 1194)) = (N_45 164 (85 * a1 + 4 * (M 164 (85 * a1 + 1192)) + 1194)) := by rw [hM_N_261, mu_i (by omega), Fr.e hG_N_206 kd_164 _ rfl, hM_N_82, mu_i (by omega), hM_N_80, mu_i (by omega), hx_N_65 _ (by omega)]
                  have e_273 : (N_261 164 (85 * a1 + 4 * (M 164 (85 * a1 + 1192)) + 1195)) = (N_65 164 (85 * a1 + 4 * (M 164 (85 * a1 + 1192)) + 1195)) := by rw [hM_N_261, mu_i (by omega), Fr.e hG_N_206 kd_164 _ rfl, hM_N_82, mu_i (by omega), hM_N_80, mu_i (by omega)]
                  have e_274 : (N_261 164 (85 * a1 + 4 * (M 164 (85 * a1 + 1192)) + 1196)) = -1 := by rw [hM_N_261, mu_i (by omega), Fr.e hG_N_206 kd_164 _ rfl, hM_N_82, mu_s]
                  have hp_277 : RT N_261 Bt (j + 5) := RT.st ht_218 hM_N_261 kd_164 rfl
                  exact kx_zret F hQ (by omega) ⟨hI_N_261, hF_N_261, (Or.inl (by omega)), ⟨⟨(LO.sta hlo_219 hM_N_261 (by omega)), (fun _ => (R4.rule hR hI_M a1 (M 164 (85 * a1 + 1192)) (by omega) (by omega) (fun j hj h0 => by rw [hM_N_261, mu_i (by omega), Fr.e hG_N_206 kd_164 _ rfl, hM_N_82, mu_i (by omega), hM_N_80, mu_i (by omega), hx_N_65 _ (by omega), hx_N_45 _ (by omega), Fr.e hG_N_37 kd_164 _ rfl, Fr.e hG_N_20 kd_164 _ rfl]) (by omega) (by omega) (by omega)))⟩, ⟨(j + 5), (-1), fun h => absurd h (by omega), fun _ => ⟨(Or.inr (Or.inr (Or.inr (Or.inr (Or.inr (Or.inr (Or.inr (Or.inr (Or.inr (Or.inr (Or.inr (Or.inr (Or.inr (Or.inr (Or.inr (Or.inr (Or.inr (Or.inr (Or.inr (Or.inr (Or.inr (Or.inr (Or.inr ((by omega))))))))))))))))))))))))), fun hk => by omega, hp_277, (BQ.cg (q' := (uprul q b (lfn Bt t (q 0) (q 1) (q 2) (j + 1)) (tv Bt (j + 2)) (tv Bt (j + 3)) (-1))) hq (by rw [hM_N_261, mu_i (by omega)]; exact hO_221 1088 (Or.inl (by omega))) (by rw [hM_N_261, mu_i (by omega)]; exact hO_221 1089 (Or.inl (by omega))) (by rw [hM_N_261, mu_i (by omega)]; exact hO_221 1090 (Or.inl (by omega))) (by rw [hM_N_261, mu_i (by omega)]; exact hO_221 1092 (Or.inl (by omega))) (by rw [uprul_l (by omega) (by omega)]; have h : N_261 164 1091 = M 164 1091 := (by rw [hM_N_261, mu_i (by omega)]; exact hO_221 1091 (Or.inl (by omega))); omega) (uprul_l (by omega) (by omega)) (uprul_l (by omega) (by omega)) (uprul_l (by omega) (by omega)) (by rw [uprul_l (by omega) (by omega)]; omega)), (NR.cg (NR.st (NR.fr (NR.st (NR.st (NR.fr (NR.fr (NR.fr (NR.fr hN hG_N_20 rfl) hG_N_37 rfl) hG_N_45 rfl) hG_N_65 rfl) hM_N_80 kd_164 rfl) hM_N_82 kd_164 rfl) hG_N_206 rfl) hM_N_261 kd_164 rfl) (uprul_l (by omega) (by omega)) (uprul_l (by omega) (by omega)) (uprul_l (by omega) (by omega))), (BA.set hA hb (by omega) (BT.app (y4 := 85 * a1 + 1192) (y5 := 85 * a1 + 4 * (M 164 (85 * a1 + 1192)) + 1193) (y6 := 85 * a1 + 4 * (M 164 (85 * a1 + 1192)) + 1194) (y7 := 85 * a1 + 4 * (M 164 (85 * a1 + 1192)) + 1195) (y8 := 85 * a1 + 4 * (M 164 (85 * a1 + 1192)) + 1196) hBT (by omega) (by omega) (by omega) (by omega) (by omega) (by omega) (by omega) (by omega) (by omega) (by omega) (by omega) (fun i h1 h2 => by rw [hM_N_261, mu_i (by omega)]; exact hO_221 i h2)) (fun k hk => uprul_l (by omega) (by omega)) (fun i h1 h2 => by rw [hM_N_261, mu_i (by omega)]; exact hO_221 i (Or.inl (by omega))) hr)⟩⟩⟩⟩ dX12_aRule_319
              · refine kx_if_ne 186 F 221 dX12_aRule_183 (by decide) rfl (by omega) (fun h_278 => (by exfalso; omega)) (fun h_278 => ?_)
                have ht_279 : RT N_206 Bt (j + 4) := hz_N_206 (by omega)
                have hlo_280 : LO N_206 M := (LO.fr hlo_84 hG_N_206 rfl)
                refine kx_aload_n 187 F 0 dX12_aRule_186 rfl rfl rfl ?_
                refine kx_ldcS 189 F 11 (by decide) rfl rfl dX12_aRule_187 rfl ?_
                refine kx_bipush 191 F dX12_aRule_189 (by decide) rfl ?_
                refine kx_Vi 194 (ci := 0) F (As := [vT G 11, vI 9]) (st := []) vd_X12_235 (e_X12_wantWord G l N_206 9 hI_N_206 (by omega) Bt (TM.fr hB hF_N_206 rfl) (j + 4) (by omega) ht_279) kd_163 rfl rfl rfl ⟨by decide, by decide⟩ rfl rfl (Nat.le_of_ble_eq_true rfl) dX12_aRule_191 rfl ?_
                intro r_282 N_283 q_284
                obtain ⟨hI_N_283, hG_N_283, q_284c, hr_N_283⟩ := q_284
                have hF_N_283 : Fr f_e_X12_aRule M N_283 := Fr.c hF_N_206 hG_N_283 rfl
                have h_286 := Inv.g hI_N_283 kd_163 rfl 18 (a := (-2147483648)) (b := 2147483647) rfl rfl
                have h_288 := Inv.g hI_N_283 kd_163 rfl 17 (a := (-2147483648)) (b := 2147483647) rfl rfl
                rcases q_284c with q_284c | q_284c | q_284c
                · refine kx_if_eq 197 F 219 dX12_aRule_194 (by decide) rfl (by omega) (fun h_293 => (by exfalso; omega)) (fun h_293 => ?_)
                  have hd_294 : tbd Bt (j + 4) = 0 := kwd_b (by omega)
                  have ht_295 : RT N_283 Bt (j + 5) := by have hh := hr_N_283 (by omega); first | exact hh | (rw [show (j + 5) = (j + 4) + 1 by omega]; exact hh)
                  have hlo_296 : LO N_283 M := (LO.fr hlo_280 hG_N_283 rfl)
                  refine kx_aload_n 198 F 0 dX12_aRule_197 rfl rfl rfl ?_
                  refine kx_iload 200 F 4 dX12_aRule_198 rfl rfl ?_
                  refine kx_iconst 201 F dX12_aRule_200 rfl ?_
                  refine kx_iadd 202 F (v := 85 * a1 + 4 * (M 164 (85 * a1 + 1192)) + 1196) dX12_aRule_201 (by omega) rfl ?_
                  refine kx_iconst 203 F dX12_aRule_202 rfl ?_
                  refine kx_aload_n 204 F 0 dX12_aRule_203 rfl rfl rfl ?_
                  refine kx_getr 207 F fl_X12_7 kd_163 rfl rfl (j := 0) rfl dX12_aRule_204 (v := 164) (uq_164 (Inv.r hI_N_283 kd_163 rfl 0 rfl rfl)) rfl ?_
                  refine kx_iload_n 208 F 2 dX12_aRule_207 rfl rfl rfl ?_
                  refine kx_iconst 209 F dX12_aRule_208 rfl ?_
                  refine kx_iadd 210 F (v := 85 * a1 + 1189) dX12_aRule_209 (by omega) rfl ?_
                  refine kx_iald 211 F kd_164 rfl rfl (by omega) (by decide) dX12_aRule_210 (v := (M 164 (85 * a1 + 1189))) (by rw [Fr.e hG_N_283 kd_164 _ rfl, Fr.e hG_N_206 kd_164 _ rfl, hM_N_82, mu_i (by omega), hM_N_80, mu_i (by omega), hx_N_65 _ (by omega), hx_N_45 _ (by omega), Fr.e hG_N_37 kd_164 _ rfl, Fr.e hG_N_20 kd_164 _ rfl]) rfl ?_
                  have ha_297 : atlo (85 * a1 + 1189) = 0 ∧ athi (85 * a1 + 1189) = 3 := at_a (85 * a1 + 1189) 4 a1 1 (by omega) (by omega) (by decide)
                  have h_298 := Inv.g hI_M kd_164 rfl (85 * a1 + 1189) (a := 0) (b := 3) ha_297.1 ha_297.2
                  refine kx_iconst 212 F dX12_aRule_211 rfl ?_
                  refine kx_isub 213 F (v := (M 164 (85 * a1 + 1189)) - 1) dX12_aRule_212 rfl rfl ?_
                  refine kx_Vi 216 (ci := 0) F (As := [vI (85 * a1 + 4 * (M 164 (85 * a1 + 1192)) + 1196), vI 0, vI ((M 164 (85 * a1 + 1189)) - 1)]) (st := []) vd_X12_231 (e_X12_number G l N_283 (85 * a1 + 4 * (M 164 (85 * a1 + 1192)) + 1196) 0 ((M 164 (85 * a1 + 1189)) - 1) hI_N_283 (by omega) Bt (TM.fr hB hF_N_283 rfl) (j + 5) (by omega) ht_295) kd_163 rfl rfl rfl ⟨by decide, by decide⟩ rfl rfl (Nat.le_of_ble_eq_true rfl) dX12_aRule_213 rfl ?_
                  intro r_299 N_300 q_301
                  obtain ⟨hI_N_300, hG_N_300, q_301c, ⟨hr_N_300, hx_N_300⟩⟩ := q_301
                  have hF_N_300 : Fr f_e_X12_aRule M N_300 := Fr.c hF_N_283 hG_N_300 rfl
                  have h_302 := Inv.g hI_N_300 kd_163 rfl 18 (a := (-2147483648)) (b := 2147483647) rfl rfl
                  have h_303 := Inv.g hI_N_300 kd_163 rfl 17 (a := (-2147483648)) (b := 2147483647) rfl rfl
                  rcases q_301c with q_301c | q_301c | q_301c | q_301c | q_301c
                  · refine kx_if_ne 219 F 221 dX12_aRule_216 (by decide) rfl (by omega) (fun h_312 => ?_) (fun h_312 => (by exfalso; omega))
                    have ht_313 : RT N_300 Bt (j + 6) := by have hh := hr_N_300 (by omega); first | exact hh | (rw [show (j + 6) = (j + 5) + 1 by omega]; exact hh)
                    have hlo_314 : LO N_300 M := (LO.ne hlo_296 hx_N_300 (by omega))
                    refine kx_iload 223 F 6 dX12_aRule_221 rfl rfl ?_
                    refine kx_if_ne 226 F 250 dX12_aRule_223 (by decide) rfl (by omega) (fun h_315 => ?_) (fun h_315 => (by exfalso; omega))
                    have hO_316 : ∀ i, (i < b + 1093 + 4 * q (b + 4) ∨ b + 1096 + 4 * q (b + 4) < i) → N_300 164 i = M 164 i := fun i h2 => by rw [hx_N_300 _ (by omega), Fr.e hG_N_283 kd_164 _ rfl, Fr.e hG_N_206 kd_164 _ rfl, hM_N_82, mu_i (by omega), hM_N_80, mu_i (by omega), hx_N_65 _ (by omega), hx_N_45 _ (by omega), Fr.e hG_N_37 kd_164 _ rfl, Fr.e hG_N_20 kd_164 _ rfl]
                    refine kx_aload_n 251 F 0 dX12_aRule_250 rfl rfl rfl ?_
                    refine kx_bipush 253 F dX12_aRule_251 (by decide) rfl ?_
                    refine kx_Vi 256 (ci := 0) F (As := [vI 59]) (st := []) vd_X12_202 (e_X12_isSign G l N_300 59 hI_N_300 (by omega) Bt (TM.fr hB hF_N_300 rfl) (j + 6) (by omega) ht_313) kd_163 rfl rfl rfl ⟨by decide, by decide⟩ rfl rfl (Nat.le_of_ble_eq_true rfl) dX12_aRule_253 rfl ?_
                    intro r_317 N_318 q_319
                    obtain ⟨rfl, q_319c⟩ := q_319
                    rcases q_319c with q_319c | q_319c
                    · refine kx_if_eq 259 F 306 dX12_aRule_256 (by decide) rfl (by omega) (fun h_320 => (by exfalso; omega)) (fun h_320 => ?_)
                      refine kx_aload_n 260 F 0 dX12_aRule_259 rfl rfl rfl ?_
                      refine kx_sipush 263 F dX12_aRule_260 (by decide) rfl ?_
                      refine kx_iload_n 264 F 1 dX12_aRule_263 rfl rfl rfl ?_
                      refine kx_iload_n 265 F 3 dX12_aRule_264 rfl rfl rfl ?_
                      refine kx_iload 267 F 5 dX12_aRule_265 rfl rfl ?_
                      refine kx_aload_n 268 F 0 dX12_aRule_267 rfl rfl rfl ?_
                      refine kx_getr 271 F fl_X12_7 kd_163 rfl rfl (j := 0) rfl dX12_aRule_268 (v := 164) (uq_164 (Inv.r hI_N_300 kd_163 rfl 0 rfl rfl)) rfl ?_
                      refine kx_iload 273 F 4 dX12_aRule_271 rfl rfl ?_
                      refine kx_iconst 274 F dX12_aRule_273 rfl ?_
                      refine kx_iadd 275 F (v := 85 * a1 + 4 * (M 164 (85 * a1 + 1192)) + 1194) dX12_aRule_274 (by omega) rfl ?_
                      refine kx_iald 276 F kd_164 rfl rfl (by omega) (by decide) dX12_aRule_275 (v := (N_45 164 (85 * a1 + 4 * (M 164 (85 * a1 + 1192)) + 1194))) (by rw [hx_N_300 _ (by omega), Fr.e hG_N_283 kd_164 _ rfl, Fr.e hG_N_206 kd_164 _ rfl, hM_N_82, mu_i (by omega), hM_N_80, mu_i (by omega), hx_N_65 _ (by omega)]) rfl ?_
                      have h_321 := Inv.g hI_N_45 kd_164 rfl (85 * a1 + 4 * (M 164 (85 * a1 + 1192)) + 1194) (a := 0) (b := 2) ha_42.1 ha_42.2
                      refine kx_aload_n 277 F 0 dX12_aRule_276 rfl rfl rfl ?_
                      refine kx_getr 280 F fl_X12_7 kd_163 rfl rfl (j := 0) rfl dX12_aRule_277 (v := 164) (uq_164 (Inv.r hI_N_300 kd_163 rfl 0 rfl rfl)) rfl ?_
                      refine kx_iload 282 F 4 dX12_aRule_280 rfl rfl ?_
                      refine kx_iconst 283 F dX12_aRule_282 rfl ?_
                      refine kx_iadd 284 F (v := 85 * a1 + 4 * (M 164 (85 * a1 + 1192)) + 1195) dX12_aRule_283 (by omega) rfl ?_
                      refine kx_iald 285 F kd_164 rfl rfl (by omega) (by decide) dX12_aRule_284 (v := (N_65 164 (85 * a1 + 4 * (M 164 (85 * a1 + 1192)) + 1195))) (by rw [hx_N_300 _ (by omega), Fr.e hG_N_283 kd_164 _ rfl, Fr.e hG_N_206 kd_164 _ rfl, hM_N_82, mu_i (by omega), hM_N_80, mu_i (by omega)]) rfl ?_
                      have h_322 := Inv.g hI_N_65 kd_164 rfl (85 * a1 + 4 * (M 164 (85 * a1 + 1192)) + 1195) (a := 0) (b := 2) ha_63.1 ha_63.2
                      refine kx_aload_n 286 F 0 dX12_aRule_285 rfl rfl rfl ?_
                      refine kx_getr 289 F fl_X12_7 kd_163 rfl rfl (j := 0) rfl dX12_aRule_286 (v := 164) (uq_164 (Inv.r hI_N_300 kd_163 rfl 0 rfl rfl)) rfl ?_
                      refine kx_iload 291 F 4 dX12_aRule_289 rfl rfl ?_
                      refine kx_iconst 292 F dX12_aRule_291 rfl ?_
                      refine kx_iadd 293 F (v := 85 * a1 + 4 * (M 164 (85 * a1 + 1192)) + 1196) dX12_aRule_292 (by omega) rfl ?_
                      refine kx_iald 294 F kd_164 rfl rfl (by omega) (by decide) dX12_aRule_293 (v := (N_300 164 (85 * a1 + 4 * (M 164 (85 * a1 + 1192)) + 1196))) rfl rfl ?_
                      have h_323 := Inv.g hI_N_300 kd_164 rfl (85 * a1 + 4 * (M 164 (85 * a1 + 1192)) + 1196) (a := (-1)) (b := 2) ha_83.1 ha_83.2
                      refine kx_Vi 297 (ci := 0) F (As := [vI 1088, vI a1, vI (M 164 (85 * a1 + 1192)), vI (lfn Bt t (q 0) (q 1) (q 2) (j + 1)), vI (N_45 164 (85 * a1 + 4 * (M 164 (85 * a1 + 1192)) + 1194)), vI (N_65 164 (85 * a1 + 4 * (M 164 (85 * a1 + 1192)) + 1195)), vI (N_300 164 (85 * a1 + 4 * (M 164 (85 * a1 + 1192)) + 1196))]) (st := []) vd_X12_253 (e_X12_isRuleN G l N_300 1088 a1 (M 164 (85 * a1 + 1192)) (lfn Bt t (q 0) (q 1) (q 2) (j + 1)) (N_45 164 (85 * a1 + 4 * (M 164 (85 * a1 + 1192)) + 1194)) (N_65 164 (85 * a1 + 4 * (M 164 (85 * a1 + 1192)) + 1195)) (N_300 164 (85 * a1 + 4 * (M 164 (85 * a1 + 1192)) + 1196)) hI_N_300 (by omega) q b (BT.low hBT (by omega) (fun i h1 h2 => hO_316 i (Or.inl (by omega)))) (by omega) (by omega)) kd_163 rfl rfl rfl ⟨by decide, by decide⟩ rfl rfl (Nat.le_of_ble_eq_true rfl) dX12_aRule_294 rfl ?_
                      intro r_324 N_325 q_326
                      obtain ⟨rfl, q_326c⟩ := q_326
                      rcases q_326c with q_326c | q_326c
                      · have hq_327 : (rq q b (lfn Bt t (q 0) (q 1) (q 2) (j + 1)) (N_45 164 (85 * a1 + 4 * (M 164 (85 * a1 + 1192)) + 1194)) (N_65 164 (85 * a1 + 4 * (M 164 (85 * a1 + 1192)) + 1195)) (N_300 164 (85 * a1 + 4 * (M 164 (85 * a1 + 1192)) + 1196))) = (rq q b (lfn Bt t (q 0) (q 1) (q 2) (j + 1)) (tv Bt (j + 2)) (tv Bt (j + 3)) (tv Bt (j + 5))) := rq_cg (by omega) (by omega) (by omega) (by omega)
                        refine kx_if_eq 300 F 306 dX12_aRule_297 (by decide) rfl (by omega) (fun h_328 => (by exfalso; omega)) (fun h_328 => ?_)
                        refine kx_aload_n 301 F 0 dX12_aRule_300 rfl rfl rfl ?_
                        refine kx_iconst 302 F dX12_aRule_301 rfl ?_
                        refine kx_Vi 305 (ci := 0) F (As := [vI 5]) (st := []) vd_X12_205 (e_X12_fails G l N_300 5 hI_N_300 (by omega) Bt (TM.fr hB hF_N_300 rfl) (j + 6) (by omega) ht_313) kd_163 rfl rfl rfl ⟨by decide, by decide⟩ rfl rfl (Nat.le_of_ble_eq_true rfl) dX12_aRule_302 rfl ?_
                        intro r_329 N_330 q_331
                        obtain ⟨hI_N_330, hG_N_330, q_331c⟩ := q_331
                        have hF_N_330 : Fr f_e_X12_aRule M N_330 := Fr.c hF_N_300 hG_N_330 rfl
                        have h_332 := Inv.g hI_N_330 kd_163 rfl 18 (a := (-2147483648)) (b := 2147483647) rfl rfl
                        have h_333 := Inv.g hI_N_330 kd_163 rfl 17 (a := (-2147483648)) (b := 2147483647) rfl rfl
                        rcases q_331c with q_331c | q_331c
                        · exact kx_zret F hQ (by omega) ⟨hI_N_330, hF_N_330, (Or.inr (by omega)), ⟨⟨(LO.fr hlo_314 hG_N_330 rfl), (fun h => absurd h (by omega))⟩, ⟨(j + 6), (tv Bt (j + 5)), fun _ => (Or.inr ⟨(Or.inr (Or.inr (Or.inr (Or.inr (Or.inr (Or.inr (Or.inr (Or.inr (Or.inr (Or.inr (Or.inr (Or.inr (Or.inr (Or.inr (Or.inr (Or.inr (Or.inr (Or.inr (Or.inr (Or.inr (Or.inr (Or.inr (Or.inl (by omega)))))))))))))))))))))))), (Or.inl (by omega))⟩), fun h => absurd h (by omega)⟩⟩⟩ dX12_aRule_305
                        · exact kx_zret F hQ (by omega) ⟨hI_N_330, hF_N_330, (Or.inr (by omega)), ⟨⟨(LO.fr hlo_314 hG_N_330 rfl), (fun h => absurd h (by omega))⟩, ⟨(j + 6), (tv Bt (j + 5)), fun _ => (Or.inr ⟨(Or.inr (Or.inr (Or.inr (Or.inr (Or.inr (Or.inr (Or.inr (Or.inr (Or.inr (Or.inr (Or.inr (Or.inr (Or.inr (Or.inr (Or.inr (Or.inr (Or.inr (Or.inr (Or.inr (Or.inr (Or.inr (Or.inr (Or.inl (by omega)))))))))))))))))))))))), (Or.inr (Or.inr (Or.inl (by omega))))⟩), fun h => absurd h (by omega)⟩⟩⟩ dX12_aRule_305
                      · have hq_336 : (rq q b (lfn Bt t (q 0) (q 1) (q 2) (j + 1)) (N_45 164 (85 * a1 + 4 * (M 164 (85 * a1 + 1192)) + 1194)) (N_65 164 (85 * a1 + 4 * (M 164 (85 * a1 + 1192)) + 1195)) (N_300 164 (85 * a1 + 4 * (M 164 (85 * a1 + 1192)) + 1196))) = (rq q b (lfn Bt t (q 0) (q 1) (q 2) (j + 1)) (tv Bt (j + 2)) (tv Bt (j + 3)) (tv Bt (j + 5))) := rq_cg (by omega) (by omega) (by omega) (by omega)
                        refine kx_if_eq 300 F 306 dX12_aRule_297 (by decide) rfl (by omega) (fun h_337 => ?_) (fun h_337 => (by exfalso; omega))
                        refine kx_aload_n 307 F 0 dX12_aRule_306 rfl rfl rfl ?_
                        refine kx_getr 310 F fl_X12_7 kd_163 rfl rfl (j := 0) rfl dX12_aRule_307 (v := 164) (uq_164 (Inv.r hI_N_300 kd_163 rfl 0 rfl rfl)) rfl ?_
                        refine kx_iload_n 311 F 2 dX12_aRule_310 rfl rfl rfl ?_
                        refine kx_iconst 312 F dX12_aRule_311 rfl ?_
                        refine kx_iadd 313 F (v := 85 * a1 + 1192) dX12_aRule_312 (by omega) rfl ?_
                        refine kx_dup2 314 F dX12_aRule_313 rfl rfl rfl ?_
                        refine kx_iald 315 F kd_164 rfl rfl (by omega) (by decide) dX12_aRule_314 (v := (M 164 (85 * a1 + 1192))) (by rw [hx_N_300 _ (by omega), Fr.e hG_N_283 kd_164 _ rfl, Fr.e hG_N_206 kd_164 _ rfl, hM_N_82, mu_i (by omega), hM_N_80, mu_i (by omega), hx_N_65 _ (by omega), hx_N_45 _ (by omega), Fr.e hG_N_37 kd_164 _ rfl, Fr.e hG_N_20 kd_164 _ rfl]) rfl ?_
                        refine kx_iconst 316 F dX12_aRule_315 rfl ?_
                        refine kx_iadd 317 F (v := (M 164 (85 * a1 + 1192)) + 1) dX12_aRule_316 rfl rfl ?_
                        refine kx_iast 318 F kd_164 rfl rfl (by omega) (by decide) dX12_aRule_317 rfl ?_
                        intro N_338 hM_N_338
                        have hI_N_338 : Inv true N_338 := Inv.u hI_N_300 hM_N_338 kd_164 (a := 0) (b := 20) ha_13.1 ha_13.2 rfl (by omega)
                        have hF_N_338 : Fr f_e_X12_aRule M N_338 := Fr.u hF_N_300 hM_N_338 kd_164 rfl
                        refine kx_iconst 319 F dX12_aRule_318 rfl ?_
                        have e_339 : (N_338 163 18) = (N_300 163 18) := by rw [hM_N_338, mu_k kd_163 kd_164 rfl]
                        have e_340 : (N_338 163 17) = (N_300 163 17) := by rw [hM_N_338, mu_k kd_163 kd_164 rfl]
                        have e_342 : M 164 (1192 + 85 * a1) = M 164 (85 * a1 + 1192) := by rw [show 1192 + 85 * a1 = 85 * a1 + 1192 by omega]
                        have e_343 : M 164 (1188 + 85 * a1) = M 164 (85 * a1 + 1188) := by rw [show 1188 + 85 * a1 = 85 * a1 + 1188 by omega]
                        have e_344 : N_338 164 (1192 + 85 * a1) = (M 164 (85 * a1 + 1192)) + 1 := by rw [show 1192 + 85 * a1 = 85 * a1 + 1192 by omega, hM_N_338, mu_s]
                        have e_345 : N_338 164 (1194 + 85 * a1 + 4 * (M 164 (85 * a1 + 1192))) = N_45 164 (85 * a1 + 4 * (M 164 (85 * a1 + 1192)) + 1194) := by rw [show 1194 + 85 * a1 + 4 * (M 164 (85 * a1 + 1192)) = 85 * a1 + 4 * (M 164 (85 * a1 + 1192)) + 1194 by omega, hM_N_338, mu_i (by omega), hx_N_300 _ (by omega), Fr.e hG_N_283 kd_164 _ rfl, Fr.e hG_N_206 kd_164 _ rfl, hM_N_82, mu_i (by omega), hM_N_80, mu_i (by omega), hx_N_65 _ (by omega)]
                        have e_346 : N_338 164 (1195 + 85 * a1 + 4 * (M 164 (85 * a1 + 1192))) = N_65 164 (85 * a1 + 4 * (M 164 (85 * a1 + 1192)) + 1195) := by rw [show 1195 + 85 * a1 + 4 * (M 164 (85 * a1 + 1192)) = 85 * a1 + 4 * (M 164 (85 * a1 + 1192)) + 1195 by omega, hM_N_338, mu_i (by omega), hx_N_300 _ (by omega), Fr.e hG_N_283 kd_164 _ rfl, Fr.e hG_N_206 kd_164 _ rfl, hM_N_82, mu_i (by omega), hM_N_80, mu_i (by omega)]
                        have e_347 : (N_338 164 (85 * a1 + 1192)) = (M 164 (85 * a1 + 1192)) + 1 := by rw [hM_N_338, mu_s]
                        have e_348 : (N_338 164 (85 * a1 + 4 * (M 164 (85 * a1 + 1192)) + 1193)) = (lfn Bt t (q 0) (q 1) (q 2) (j + 1)) := by rw [hM_N_338, mu_i (by omega), hx_N_300 _ (by omega), Fr.e hG_N_283 kd_164 _ rfl, Fr.e hG_N_206 kd_164 _ rfl, hM_N_82, mu_i (by omega), hM_N_80, mu_s]
                        have e_349 : (N_338 164 (85 * a1 + 4 * (M 164 (85 * a1 + 1192)) + 1194)) = (N_45 164 (85 * a1 + 4 * (M 164 (85 * a1 + 1192)) + 1194)) := by rw [hM_N_338, mu_i (by omega), hx_N_300 _ (by omega), Fr.e hG_N_283 kd_164 _ rfl, Fr.e hG_N_206 kd_164 _ rfl, hM_N_82, mu_i (by omega), hM_N_80, mu_i (by omega), hx_N_65 _ (by omega)]
                        have e_350 : (N_338 164 (85 * a1 + 4 * (M 164 (85 * a1 + 1192)) + 1195)) = (N_65 164 (85 * a1 + 4 * (M 164 (85 * a1 + 1192)) + 1195)) := by rw [hM_N_338, mu_i (by omega), hx_N_300 _ (by omega), Fr.e hG_N_283 kd_164 _ rfl, Fr.e hG_N_206 kd_164 _ rfl, hM_N_82, mu_i (by omega), hM_N_80, mu_i (by omega)]
                        have e_351 : (N_338 164 (85 * a1 + 4 * (M 164 (85 * a1 + 1192)) + 1196)) = (N_300 164 (85 * a1 + 4 * (M 164 (85 * a1 + 1192)) + 1196)) := by rw [hM_N_338, mu_i (by omega)]
                        have hp_354 : RT N_338 Bt (j + 6) := RT.st ht_313 hM_N_338 kd_164 rfl
                        exact kx_zret F hQ (by omega) ⟨hI_N_338, hF_N_338, (Or.inl (by omega)), ⟨⟨(LO.sta hlo_314 hM_N_338 (by omega)), (fun _ => (R4.rule hR hI_M a1 (M 164 (85 * a1 + 1192)) (by omega) (by omega) (fun j hj h0 => by rw [hM_N_338, mu_i (by omega), hx_N_300 _ (by omega), Fr.e hG_N_283 kd_164 _ rfl, Fr.e hG_N_206 kd_164 _ rfl, hM_N_82, mu_i (by omega), hM_N_80, mu_i (by omega), hx_N_65 _ (by omega), hx_N_45 _ (by omega), Fr.e hG_N_37 kd_164 _ rfl, Fr.e hG_N_20 kd_164 _ rfl]) (by omega) (by omega) (by omega)))⟩, ⟨(j + 6), (tv Bt (j + 5)), fun h => absurd h (by omega), fun _ => ⟨(Or.inr (Or.inr (Or.inr (Or.inr (Or.inr (Or.inr (Or.inr (Or.inr (Or.inr (Or.inr (Or.inr (Or.inr (Or.inr (Or.inr (Or.inr (Or.inr (Or.inr (Or.inr (Or.inr (Or.inr (Or.inr (Or.inr (Or.inl (by omega)))))))))))))))))))))))), fun hk => by omega, hp_354, (BQ.cg (q' := (uprul q b (lfn Bt t (q 0) (q 1) (q 2) (j + 1)) (tv Bt (j + 2)) (tv Bt (j + 3)) (tv Bt (j + 5)))) hq (by rw [hM_N_338, mu_i (by omega)]; exact hO_316 1088 (Or.inl (by omega))) (by rw [hM_N_338, mu_i (by omega)]; exact hO_316 1089 (Or.inl (by omega))) (by rw [hM_N_338, mu_i (by omega)]; exact hO_316 1090 (Or.inl (by omega))) (by rw [hM_N_338, mu_i (by omega)]; exact hO_316 1092 (Or.inl (by omega))) (by rw [uprul_l (by omega) (by omega)]; have h : N_338 164 1091 = M 164 1091 := (by rw [hM_N_338, mu_i (by omega)]; exact hO_316 1091 (Or.inl (by omega))); omega) (uprul_l (by omega) (by omega)) (uprul_l (by omega) (by omega)) (uprul_l (by omega) (by omega)) (by rw [uprul_l (by omega) (by omega)]; omega)), (NR.cg (NR.st (NR.fr (NR.fr (NR.fr (NR.st (NR.st (NR.fr (NR.fr (NR.fr (NR.fr hN hG_N_20 rfl) hG_N_37 rfl) hG_N_45 rfl) hG_N_65 rfl) hM_N_80 kd_164 rfl) hM_N_82 kd_164 rfl) hG_N_206 rfl) hG_N_283 rfl) hG_N_300 rfl) hM_N_338 kd_164 rfl) (uprul_l (by omega) (by omega)) (uprul_l (by omega) (by omega)) (uprul_l (by omega) (by omega))), (BA.set hA hb (by omega) (BT.app (y4 := 85 * a1 + 1192) (y5 := 85 * a1 + 4 * (M 164 (85 * a1 + 1192)) + 1193) (y6 := 85 * a1 + 4 * (M 164 (85 * a1 + 1192)) + 1194) (y7 := 85 * a1 + 4 * (M 164 (85 * a1 + 1192)) + 1195) (y8 := 85 * a1 + 4 * (M 164 (85 * a1 + 1192)) + 1196) hBT (by omega) (by omega) (by omega) (by omega) (by omega) (by omega) (by omega) (by omega) (by omega) (by omega) (by omega) (fun i h1 h2 => by rw [hM_N_338, mu_i (by omega)]; exact hO_316 i h2)) (fun k hk => uprul_l (by omega) (by omega)) (fun i h1 h2 => by rw [hM_N_338, mu_i (by omega)]; exact hO_316 i (Or.inl (by omega))) hr)⟩⟩⟩⟩ dX12_aRule_319
                    · refine kx_if_eq 259 F 306 dX12_aRule_256 (by decide) rfl (by omega) (fun h_355 => ?_) (fun h_355 => (by exfalso; omega))
                      refine kx_aload_n 307 F 0 dX12_aRule_306 rfl rfl rfl ?_
                      refine kx_getr 310 F fl_X12_7 kd_163 rfl rfl (j := 0) rfl dX12_aRule_307 (v := 164) (uq_164 (Inv.r hI_N_300 kd_163 rfl 0 rfl rfl)) rfl ?_
                      refine kx_iload_n 311 F 2 dX12_aRule_310 rfl rfl rfl ?_
                      refine kx_iconst 312 F dX12_aRule_311 rfl ?_
                      refine kx_iadd 313 F (v := 85 * a1 + 1192) dX12_aRule_312 (by omega) rfl ?_
                      refine kx_dup2 314 F dX12_aRule_313 rfl rfl rfl ?_
                      refine kx_iald 315 F kd_164 rfl rfl (by omega) (by decide) dX12_aRule_314 (v := (M 164 (85 * a1 + 1192))) (by rw [hx_N_300 _ (by omega), Fr.e hG_N_283 kd_164 _ rfl, Fr.e hG_N_206 kd_164 _ rfl, hM_N_82, mu_i (by omega), hM_N_80, mu_i (by omega), hx_N_65 _ (by omega), hx_N_45 _ (by omega), Fr.e hG_N_37 kd_164 _ rfl, Fr.e hG_N_20 kd_164 _ rfl]) rfl ?_
                      refine kx_iconst 316 F dX12_aRule_315 rfl ?_
                      refine kx_iadd 317 F (v := (M 164 (85 * a1 + 1192)) + 1) dX12_aRule_316 rfl rfl ?_
                      refine kx_iast 318 F kd_164 rfl rfl (by omega) (by decide) dX12_aRule_317 rfl ?_
                      intro N_356 hM_N_356
                      have hI_N_356 : Inv true N_356 := Inv.u hI_N_300 hM_N_356 kd_164 (a := 0) (b := 20) ha_13.1 ha_13.2 rfl (by omega)
                      have hF_N_356 : Fr f_e_X12_aRule M N_356 := Fr.u hF_N_300 hM_N_356 kd_164 rfl
                      refine kx_iconst 319 F dX12_aRule_318 rfl ?_
                      have e_357 : (N_356 163 18) = (N_300 163 18) := by rw [hM_N_356, mu_k kd_163 kd_164 rfl]
                      have e_358 : (N_356 163 17) = (N_300 163 17) := by rw [hM_N_356, mu_k kd_163 kd_164 rfl]
                      have e_360 : M 164 (1192 + 85 * a1) = M 164 (85 * a1 + 1192) := by rw [show 1192 + 85 * a1 = 85 * a1 + 1192 by omega]
                      have e_361 : M 164 (1188 + 85 * a1) = M 164 (85 * a1 + 1188) := by rw [show 1188 + 85 * a1 = 85 * a1 + 1188 by omega]
                      have e_362 : N_356 164 (1192 + 85 * a1) = (M 164 (85 * a1 + 1192)) + 1 := by rw [show 1192 + 85 * a1 = 85 * a1 + 1192 by omega, hM_N_356, mu_s]
                      have e_363 : N_356 164 (1194 + 85 * a1 + 4 * (M 164 (85 * a1 + 1192))) = N_45 164 (85 * a1 + 4 * (M 164 (85 * a1 + 1192)) + 1194) := by rw [show 1194 + 85 * a1 + 4 * (M 164 (85 * a1 + 1192)) = 85 * a1 + 4 * (M 164 (85 * a1 + 1192)) + 1194 by omega, hM_N_356, mu_i (by omega), hx_N_300 _ (by omega), Fr.e hG_N_283 kd_164 _ rfl, Fr.e hG_N_206 kd_164 _ rfl, hM_N_82, mu_i (by omega), hM_N_80, mu_i (by omega), hx_N_65 _ (by omega)]
                      have e_364 : N_356 164 (1195 + 85 * a1 + 4 * (M 164 (85 * a1 + 1192))) = N_65 164 (85 * a1 + 4 * (M 164 (85 * a1 + 1192)) + 1195) := by rw [show 1195 + 85 * a1 + 4 * (M 164 (85 * a1 + 1192)) = 85 * a1 + 4 * (M 164 (85 * a1 + 1192)) + 1195 by omega, hM_N_356, mu_i (by omega), hx_N_300 _ (by omega), Fr.e hG_N_283 kd_164 _ rfl, Fr.e hG_N_206 kd_164 _ rfl, hM_N_82, mu_i (by omega), hM_N_80, mu_i (by omega)]
                      have e_365 : (N_356 164 (85 * a1 + 1192)) = (M 164 (85 * a1 + 1192)) + 1 := by rw [hM_N_356, mu_s]
                      have e_366 : (N_356 164 (85 * a1 + 4 * (M 164 (85 * a1 + 1192)) + 1193)) = (lfn Bt t (q 0) (q 1) (q 2) (j + 1)) := by rw [hM_N_356, mu_i (by omega), hx_N_300 _ (by omega), Fr.e hG_N_283 kd_164 _ rfl, Fr.e hG_N_206 kd_164 _ rfl, hM_N_82, mu_i (by omega), hM_N_80, mu_s]
                      have e_367 : (N_356 164 (85 * a1 + 4 * (M 164 (85 * a1 + 1192)) + 1194)) = (N_45 164 (85 * a1 + 4 * (M 164 (85 * a1 + 1192)) + 1194)) := by rw [hM_N_356, mu_i (by omega), hx_N_300 _ (by omega), Fr.e hG_N_283 kd_164 _ rfl, Fr.e hG_N_206 kd_164 _ rfl, hM_N_82, mu_i (by omega), hM_N_80, mu_i (by omega), hx_N_65 _ (by omega)]
                      have e_368 : (N_356 164 (85 * a1 + 4 * (M 164 (85 * a1 + 1192)) + 1195)) = (N_65 164 (85 * a1 + 4 * (M 164 (85 * a1 + 1192)) + 1195)) := by rw [hM_N_356, mu_i (by omega), hx_N_300 _ (by omega), Fr.e hG_N_283 kd_164 _ rfl, Fr.e hG_N_206 kd_164 _ rfl, hM_N_82, mu_i (by omega), hM_N_80, mu_i (by omega)]
                      have e_369 : (N_356 164 (85 * a1 + 4 * (M 164 (85 * a1 + 1192)) + 1196)) = (N_300 164 (85 * a1 + 4 * (M 164 (85 * a1 + 1192)) + 1196)) := by rw [hM_N_356, mu_i (by omega)]
                      have hp_372 : RT N_356 Bt (j + 6) := RT.st ht_313 hM_N_356 kd_164 rfl
                      exact kx_zret F hQ (by omega) ⟨hI_N_356, hF_N_356, (Or.inl (by omega)), ⟨⟨(LO.sta hlo_314 hM_N_356 (by omega)), (fun _ => (R4.rule hR hI_M a1 (M 164 (85 * a1 + 1192)) (by omega) (by omega) (fun j hj h0 => by rw [hM_N_356, mu_i (by omega), hx_N_300 _ (by omega), Fr.e hG_N_283 kd_164 _ rfl, Fr.e hG_N_206 kd_164 _ rfl, hM_N_82, mu_i (by omega), hM_N_80, mu_i (by omega), hx_N_65 _ (by omega), hx_N_45 _ (by omega), Fr.e hG_N_37 kd_164 _ rfl, Fr.e hG_N_20 kd_164 _ rfl]) (by omega) (by omega) (by omega)))⟩, ⟨(j + 6), (tv Bt (j + 5)), fun h => absurd h (by omega), fun _ => ⟨(Or.inr (Or.inr (Or.inr (Or.inr (Or.inr (Or.inr (Or.inr (Or.inr (Or.inr (Or.inr (Or.inr (Or.inr (Or.inr (Or.inr (Or.inr (Or.inr (Or.inr (Or.inr (Or.inr (Or.inr (Or.inr (Or.inr (Or.inl (by omega)))))))))))))))))))))))), fun hk => by omega, hp_372, (BQ.cg (q' := (uprul q b (lfn Bt t (q 0) (q 1) (q 2) (j + 1)) (tv Bt (j + 2)) (tv Bt (j + 3)) (tv Bt (j + 5)))) hq (by rw [hM_N_356, mu_i (by omega)]; exact hO_316 1088 (Or.inl (by omega))) (by rw [hM_N_356, mu_i (by omega)]; exact hO_316 1089 (Or.inl (by omega))) (by rw [hM_N_356, mu_i (by omega)]; exact hO_316 1090 (Or.inl (by omega))) (by rw [hM_N_356, mu_i (by omega)]; exact hO_316 1092 (Or.inl (by omega))) (by rw [uprul_l (by omega) (by omega)]; have h : N_356 164 1091 = M 164 1091 := (by rw [hM_N_356, mu_i (by omega)]; exact hO_316 1091 (Or.inl (by omega))); omega) (uprul_l (by omega) (by omega)) (uprul_l (by omega) (by omega)) (uprul_l (by omega) (by omega)) (by rw [uprul_l (by omega) (by omega)]; omega)), (NR.cg (NR.st (NR.fr (NR.fr (NR.fr (NR.st (NR.st (NR.fr (NR.fr (NR.fr (NR.fr hN hG_N_20 rfl) hG_N_37 rfl) hG_N_45 rfl) hG_N_65 rfl) hM_N_80 kd_164 rfl) hM_N_82 kd_164 rfl) hG_N_206 rfl) hG_N_283 rfl) hG_N_300 rfl) hM_N_356 kd_164 rfl) (uprul_l (by omega) (by omega)) (uprul_l (by omega) (by omega)) (uprul_l (by omega) (by omega))), (BA.set hA hb (by omega) (BT.app (y4 := 85 * a1 + 1192) (y5 := 85 * a1 + 4 * (M 164 (85 * a1 + 1192)) + 1193) (y6 := 85 * a1 + 4 * (M 164 (85 * a1 + 1192)) + 1194) (y7 := 85 * a1 + 4 * (M 164 (85 * a1 + 1192)) + 1195) (y8 := 85 * a1 + 4 * (M 164 (85 * a1 + 1192)) + 1196) hBT (by omega) (by omega) (by omega) (by omega) (by omega) (by omega) (by omega) (by omega) (by omega) (by omega) (by omega) (fun i h1 h2 => by rw [hM_N_356, mu_i (by omega)]; exact hO_316 i h2)) (fun k hk => uprul_l (by omega) (by omega)) (fun i h1 h2 => by rw [hM_N_356, mu_i (by omega)]; exact hO_316 i (Or.inl (by omega))) hr)⟩⟩⟩⟩ dX12_aRule_319
                  · refine kx_if_ne 219 F 221 dX12_aRule_216 (by decide) rfl (by omega) (fun h_373 => (by exfalso; omega)) (fun h_373 => ?_)
                    refine kx_iconst 220 F dX12_aRule_219 rfl ?_
                    exact kx_zret F hQ (by omega) ⟨hI_N_300, hF_N_300, (Or.inr (by omega)), ⟨⟨(LO.ne hlo_296 hx_N_300 (by omega)), (fun h => absurd h (by omega))⟩, ⟨(j + 4), (-1), fun _ => (Or.inl ⟨by omega, (Or.inr (Or.inr (Or.inr (Or.inr (Or.inr (Or.inr (Or.inr (Or.inr (Or.inr (Or.inr (Or.inr (Or.inr (Or.inr (Or.inr (Or.inr (Or.inr (Or.inr (Or.inr (Or.inr (Or.inl (by omega)))))))))))))))))))))⟩), fun h => absurd h (by omega)⟩⟩⟩ dX12_aRule_220
                  · refine kx_if_ne 219 F 221 dX12_aRule_216 (by decide) rfl (by omega) (fun h_374 => (by exfalso; omega)) (fun h_374 => ?_)
                    refine kx_iconst 220 F dX12_aRule_219 rfl ?_
                    exact kx_zret F hQ (by omega) ⟨hI_N_300, hF_N_300, (Or.inr (by omega)), ⟨⟨(LO.ne hlo_296 hx_N_300 (by omega)), (fun h => absurd h (by omega))⟩, ⟨(j + 4), (-1), fun _ => (Or.inl ⟨by omega, (Or.inr (Or.inr (Or.inr (Or.inr (Or.inr (Or.inr (Or.inr (Or.inr (Or.inr (Or.inr (Or.inr (Or.inr (Or.inr (Or.inr (Or.inr (Or.inr (Or.inr (Or.inr (Or.inr (Or.inr (Or.inl (by omega))))))))))))))))))))))⟩), fun h => absurd h (by omega)⟩⟩⟩ dX12_aRule_220
                  · exfalso; omega
                  · refine kx_if_ne 219 F 221 dX12_aRule_216 (by decide) rfl (by omega) (fun h_375 => (by exfalso; omega)) (fun h_375 => ?_)
                    refine kx_iconst 220 F dX12_aRule_219 rfl ?_
                    exact kx_zret F hQ (by omega) ⟨hI_N_300, hF_N_300, (Or.inr (by omega)), ⟨⟨(LO.ne hlo_296 hx_N_300 (by omega)), (fun h => absurd h (by omega))⟩, ⟨(j + 4), (-1), fun _ => (Or.inl ⟨by omega, (Or.inr (Or.inr (Or.inr (Or.inr (Or.inr (Or.inr (Or.inr (Or.inr (Or.inr (Or.inr (Or.inr (Or.inr (Or.inr (Or.inr (Or.inr (Or.inr (Or.inr (Or.inr (Or.inr (Or.inr (Or.inr (Or.inl (by omega)))))))))))))))))))))))⟩), fun h => absurd h (by omega)⟩⟩⟩ dX12_aRule_220
                · refine kx_if_eq 197 F 219 dX12_aRule_194 (by decide) rfl (by omega) (fun h_376 => ?_) (fun h_376 => (by exfalso; omega))
                  refine kx_iconst 220 F dX12_aRule_219 rfl ?_
                  exact kx_zret F hQ (by omega) ⟨hI_N_283, hF_N_283, (Or.inr (by omega)), ⟨⟨(LO.fr hlo_280 hG_N_283 rfl), (fun h => absurd h (by omega))⟩, ⟨(j + 4), (-1), fun _ => (Or.inl ⟨by omega, (Or.inr (Or.inr (Or.inr (Or.inr (Or.inr (Or.inr (Or.inr (Or.inr (Or.inr (Or.inr (Or.inr (Or.inr (Or.inr (Or.inr (Or.inr (Or.inr (Or.inr (Or.inl (by omega)))))))))))))))))))⟩), fun h => absurd h (by omega)⟩⟩⟩ dX12_aRule_220
                · refine kx_if_eq 197 F 219 dX12_aRule_194 (by decide) rfl (by omega) (fun h_377 => ?_) (fun h_377 => (by exfalso; omega))
                  refine kx_iconst 220 F dX12_aRule_219 rfl ?_
                  exact kx_zret F hQ (by omega) ⟨hI_N_283, hF_N_283, (Or.inr (by omega)), ⟨⟨(LO.fr hlo_280 hG_N_283 rfl), (fun h => absurd h (by omega))⟩, ⟨(j + 4), (-1), fun _ => (Or.inl ⟨by omega, (Or.inr (Or.inr (Or.inr (Or.inr (Or.inr (Or.inr (Or.inr (Or.inr (Or.inr (Or.inr (Or.inr (Or.inr (Or.inr (Or.inr (Or.inr (Or.inr (Or.inr (Or.inr (Or.inl (by omega))))))))))))))))))))⟩), fun h => absurd h (by omega)⟩⟩⟩ dX12_aRule_220
            · refine kx_istore 153 F 6 (lo' := [some (vR G 163), some (vI a1), some (vI (85 * a1 + 1188)), some (vI (M 164 (85 * a1 + 1192))), some (vI (85 * a1 + 4 * (M 164 (85 * a1 + 1192)) + 1193)), some (vI (lfn Bt t (q 0) (q 1) (q 2) (j + 1))), some (vI r_85)]) dX12_aRule_151 (by decide) rfl rfl rfl ?_
              refine kx_iload 155 F 6 dX12_aRule_153 rfl rfl ?_
              refine kx_if_ne 158 F 171 dX12_aRule_155 (by decide) rfl (by omega) (fun h_378 => ?_) (fun h_378 => (by exfalso; omega))
              refine kx_iload 173 F 6 dX12_aRule_171 rfl rfl ?_
              refine kx_iconst 174 F dX12_aRule_173 rfl ?_
              refine kx_icmp_ne 177 F 221 dX12_aRule_174 (by decide) rfl (by omega) (by decide) (fun h_379 => ?_) (fun h_379 => (by exfalso; omega))
              refine kx_iload 223 F 6 dX12_aRule_221 rfl rfl ?_
              refine kx_if_ne 226 F 250 dX12_aRule_223 (by decide) rfl (by omega) (fun h_380 => ?_) (fun h_380 => (by exfalso; omega))
              have hO_381 : ∀ i, (i < b + 1093 + 4 * q (b + 4) ∨ b + 1096 + 4 * q (b + 4) < i) → N_82 164 i = M 164 i := fun i h2 => by rw [hM_N_82, mu_i (by omega), hM_N_80, mu_i (by omega), hx_N_65 _ (by omega), hx_N_45 _ (by omega), Fr.e hG_N_37 kd_164 _ rfl, Fr.e hG_N_20 kd_164 _ rfl]
              refine kx_aload_n 251 F 0 dX12_aRule_250 rfl rfl rfl ?_
              refine kx_bipush 253 F dX12_aRule_251 (by decide) rfl ?_
              have hp_382 : RT N_80 Bt (j + 4) := RT.st ht_78 hM_N_80 kd_164 rfl
              have hp_383 : RT N_82 Bt (j + 4) := RT.st hp_382 hM_N_82 kd_164 rfl
              refine kx_Vi 256 (ci := 0) F (As := [vI 59]) (st := []) vd_X12_202 (e_X12_isSign G l N_82 59 hI_N_82 (by omega) Bt (TM.fr hB hF_N_82 rfl) (j + 4) (by omega) hp_383) kd_163 rfl rfl rfl ⟨by decide, by decide⟩ rfl rfl (Nat.le_of_ble_eq_true rfl) dX12_aRule_253 rfl ?_
              intro r_384 N_385 q_386
              obtain ⟨rfl, q_386c⟩ := q_386
              rcases q_386c with q_386c | q_386c
              · refine kx_if_eq 259 F 306 dX12_aRule_256 (by decide) rfl (by omega) (fun h_387 => (by exfalso; omega)) (fun h_387 => ?_)
                refine kx_aload_n 260 F 0 dX12_aRule_259 rfl rfl rfl ?_
                refine kx_sipush 263 F dX12_aRule_260 (by decide) rfl ?_
                refine kx_iload_n 264 F 1 dX12_aRule_263 rfl rfl rfl ?_
                refine kx_iload_n 265 F 3 dX12_aRule_264 rfl rfl rfl ?_
                refine kx_iload 267 F 5 dX12_aRule_265 rfl rfl ?_
                refine kx_aload_n 268 F 0 dX12_aRule_267 rfl rfl rfl ?_
                refine kx_getr 271 F fl_X12_7 kd_163 rfl rfl (j := 0) rfl dX12_aRule_268 (v := 164) (uq_164 (Inv.r hI_N_82 kd_163 rfl 0 rfl rfl)) rfl ?_
                refine kx_iload 273 F 4 dX12_aRule_271 rfl rfl ?_
                refine kx_iconst 274 F dX12_aRule_273 rfl ?_
                refine kx_iadd 275 F (v := 85 * a1 + 4 * (M 164 (85 * a1 + 1192)) + 1194) dX12_aRule_274 (by omega) rfl ?_
                refine kx_iald 276 F kd_164 rfl rfl (by omega) (by decide) dX12_aRule_275 (v := (N_45 164 (85 * a1 + 4 * (M 164 (85 * a1 + 1192)) + 1194))) (by rw [hM_N_82, mu_i (by omega), hM_N_80, mu_i (by omega), hx_N_65 _ (by omega)]) rfl ?_
                have h_388 := Inv.g hI_N_45 kd_164 rfl (85 * a1 + 4 * (M 164 (85 * a1 + 1192)) + 1194) (a := 0) (b := 2) ha_42.1 ha_42.2
                refine kx_aload_n 277 F 0 dX12_aRule_276 rfl rfl rfl ?_
                refine kx_getr 280 F fl_X12_7 kd_163 rfl rfl (j := 0) rfl dX12_aRule_277 (v := 164) (uq_164 (Inv.r hI_N_82 kd_163 rfl 0 rfl rfl)) rfl ?_
                refine kx_iload 282 F 4 dX12_aRule_280 rfl rfl ?_
                refine kx_iconst 283 F dX12_aRule_282 rfl ?_
                refine kx_iadd 284 F (v := 85 * a1 + 4 * (M 164 (85 * a1 + 1192)) + 1195) dX12_aRule_283 (by omega) rfl ?_
                refine kx_iald 285 F kd_164 rfl rfl (by omega) (by decide) dX12_aRule_284 (v := (N_65 164 (85 * a1 + 4 * (M 164 (85 * a1 + 1192)) + 1195))) (by rw [hM_N_82, mu_i (by omega), hM_N_80, mu_i (by omega)]) rfl ?_
                have h_389 := Inv.g hI_N_65 kd_164 rfl (85 * a1 + 4 * (M 164 (85 * a1 + 1192)) + 1195) (a := 0) (b := 2) ha_63.1 ha_63.2
                refine kx_aload_n 286 F 0 dX12_aRule_285 rfl rfl rfl ?_
                refine kx_getr 289 F fl_X12_7 kd_163 rfl rfl (j := 0) rfl dX12_aRule_286 (v := 164) (uq_164 (Inv.r hI_N_82 kd_163 rfl 0 rfl rfl)) rfl ?_
                refine kx_iload 291 F 4 dX12_aRule_289 rfl rfl ?_
                refine kx_iconst 292 F dX12_aRule_291 rfl ?_
                refine kx_iadd 293 F (v := 85 * a1 + 4 * (M 164 (85 * a1 + 1192)) + 1196) dX12_aRule_292 (by omega) rfl ?_
                refine kx_iald 294 F kd_164 rfl rfl (by omega) (by decide) dX12_aRule_293 (v := -1) (by rw [hM_N_82, mu_s]) rfl ?_
                refine kx_Vi 297 (ci := 0) F (As := [vI 1088, vI a1, vI (M 164 (85 * a1 + 1192)), vI (lfn Bt t (q 0) (q 1) (q 2) (j + 1)), vI (N_45 164 (85 * a1 + 4 * (M 164 (85 * a1 + 1192)) + 1194)), vI (N_65 164 (85 * a1 + 4 * (M 164 (85 * a1 + 1192)) + 1195)), vI (-1)]) (st := []) vd_X12_253 (e_X12_isRuleN G l N_82 1088 a1 (M 164 (85 * a1 + 1192)) (lfn Bt t (q 0) (q 1) (q 2) (j + 1)) (N_45 164 (85 * a1 + 4 * (M 164 (85 * a1 + 1192)) + 1194)) (N_65 164 (85 * a1 + 4 * (M 164 (85 * a1 + 1192)) + 1195)) (-1) hI_N_82 (by omega) q b (BT.low hBT (by omega) (fun i h1 h2 => hO_381 i (Or.inl (by omega)))) (by omega) (by omega)) kd_163 rfl rfl rfl ⟨by decide, by decide⟩ rfl rfl (Nat.le_of_ble_eq_true rfl) dX12_aRule_294 rfl ?_
                intro r_390 N_391 q_392
                obtain ⟨rfl, q_392c⟩ := q_392
                rcases q_392c with q_392c | q_392c
                · have hq_393 : (rq q b (lfn Bt t (q 0) (q 1) (q 2) (j + 1)) (N_45 164 (85 * a1 + 4 * (M 164 (85 * a1 + 1192)) + 1194)) (N_65 164 (85 * a1 + 4 * (M 164 (85 * a1 + 1192)) + 1195)) (-1)) = (rq q b (lfn Bt t (q 0) (q 1) (q 2) (j + 1)) (tv Bt (j + 2)) (tv Bt (j + 3)) (-1)) := rq_cg (by omega) (by omega) (by omega) (by omega)
                  refine kx_if_eq 300 F 306 dX12_aRule_297 (by decide) rfl (by omega) (fun h_394 => (by exfalso; omega)) (fun h_394 => ?_)
                  refine kx_aload_n 301 F 0 dX12_aRule_300 rfl rfl rfl ?_
                  refine kx_iconst 302 F dX12_aRule_301 rfl ?_
                  have e_395 : (N_82 163 18) = (N_65 163 18) := by rw [hM_N_82, mu_k kd_163 kd_164 rfl, hM_N_80, mu_k kd_163 kd_164 rfl]
                  refine kx_Vi 305 (ci := 0) F (As := [vI 5]) (st := []) vd_X12_205 (e_X12_fails G l N_82 5 hI_N_82 (by omega) Bt (TM.fr hB hF_N_82 rfl) (j + 4) (by omega) hp_383) kd_163 rfl rfl rfl ⟨by decide, by decide⟩ rfl rfl (Nat.le_of_ble_eq_true rfl) dX12_aRule_302 rfl ?_
                  intro r_396 N_397 q_398
                  obtain ⟨hI_N_397, hG_N_397, q_398c⟩ := q_398
                  have hF_N_397 : Fr f_e_X12_aRule M N_397 := Fr.c hF_N_82 hG_N_397 rfl
                  have h_399 := Inv.g hI_N_397 kd_163 rfl 18 (a := (-2147483648)) (b := 2147483647) rfl rfl
                  have h_400 := Inv.g hI_N_397 kd_163 rfl 17 (a := (-2147483648)) (b := 2147483647) rfl rfl
                  rcases q_398c with q_398c | q_398c
                  · exact kx_zret F hQ (by omega) ⟨hI_N_397, hF_N_397, (Or.inr (by omega)), ⟨⟨(LO.fr hlo_84 hG_N_397 rfl), (fun h => absurd h (by omega))⟩, ⟨(j + 4), (-1), fun _ => (Or.inr ⟨(Or.inr (Or.inr (Or.inr (Or.inr (Or.inr (Or.inr (Or.inr (Or.inr (Or.inr (Or.inr (Or.inl (by omega)))))))))))), (Or.inl (by omega))⟩), fun h => absurd h (by omega)⟩⟩⟩ dX12_aRule_305
                  · exact kx_zret F hQ (by omega) ⟨hI_N_397, hF_N_397, (Or.inr (by omega)), ⟨⟨(LO.fr hlo_84 hG_N_397 rfl), (fun h => absurd h (by omega))⟩, ⟨(j + 4), (-1), fun _ => (Or.inr ⟨(Or.inr (Or.inr (Or.inr (Or.inr (Or.inr (Or.inr (Or.inr (Or.inr (Or.inr (Or.inr (Or.inl (by omega)))))))))))), (Or.inr (Or.inr (Or.inl (by omega))))⟩), fun h => absurd h (by omega)⟩⟩⟩ dX12_aRule_305
                · have hq_403 : (rq q b (lfn Bt t (q 0) (q 1) (q 2) (j + 1)) (N_45 164 (85 * a1 + 4 * (M 164 (85 * a1 + 1192)) + 1194)) (N_65 164 (85 * a1 + 4 * (M 164 (85 * a1 + 1192)) + 1195)) (-1)) = (rq q b (lfn Bt t (q 0) (q 1) (q 2) (j + 1)) (tv Bt (j + 2)) (tv Bt (j + 3)) (-1)) := rq_cg (by omega) (by omega) (by omega) (by omega)
                  refine kx_if_eq 300 F 306 dX12_aRule_297 (by decide) rfl (by omega) (fun h_404 => ?_) (fun h_404 => (by exfalso; omega))
                  refine kx_aload_n 307 F 0 dX12_aRule_306 rfl rfl rfl ?_
                  refine kx_getr 310 F fl_X12_7 kd_163 rfl rfl (j := 0) rfl dX12_aRule_307 (v := 164) (uq_164 (Inv.r hI_N_82 kd_163 rfl 0 rfl rfl)) rfl ?_
                  refine kx_iload_n 311 F 2 dX12_aRule_310 rfl rfl rfl ?_
                  refine kx_iconst 312 F dX12_aRule_311 rfl ?_
                  refine kx_iadd 313 F (v := 85 * a1 + 1192) dX12_aRule_312 (by omega) rfl ?_
                  refine kx_dup2 314 F dX12_aRule_313 rfl rfl rfl ?_
                  refine kx_iald 315 F kd_164 rfl rfl (by omega) (by decide) dX12_aRule_314 (v := (M 164 (85 * a1 + 1192))) (by rw [hM_N_82, mu_i (by omega), hM_N_80, mu_i (by omega), hx_N_65 _ (by omega), hx_N_45 _ (by omega), Fr.e hG_N_37 kd_164 _ rfl, Fr.e hG_N_20 kd_164 _ rfl]) rfl ?_
                  refine kx_iconst 316 F dX12_aRule_315 rfl ?_
                  refine kx_iadd 317 F (v := (M 164 (85 * a1 + 1192)) + 1) dX12_aRule_316 rfl rfl ?_
                  refine kx_iast 318 F kd_164 rfl rfl (by omega) (by decide) dX12_aRule_317 rfl ?_
                  intro N_405 hM_N_405
                  have hI_N_405 : Inv true N_405 := Inv.u hI_N_82 hM_N_405 kd_164 (a := 0) (b := 20) ha_13.1 ha_13.2 rfl (by omega)
                  have hF_N_405 : Fr f_e_X12_aRule M N_405 := Fr.u hF_N_82 hM_N_405 kd_164 rfl
                  refine kx_iconst 319 F dX12_aRule_318 rfl ?_
                  have e_406 : (N_405 163 18) = (N_65 163 18) := by rw [hM_N_405, mu_k kd_163 kd_164 rfl, hM_N_82, mu_k kd_163 kd_164 rfl, hM_N_80, mu_k kd_163 kd_164 rfl]
                  have e_407 : (N_405 163 17) = (N_65 163 17) := by rw [hM_N_405, mu_k kd_163 kd_164 rfl, hM_N_82, mu_k kd_163 kd_164 rfl, hM_N_80, mu_k kd_163 kd_164 rfl]
                  have e_409 : M 164 (1192 + 85 * a1) = M 164 (85 * a1 + 1192) := by rw [show 1192 + 85 * a1 = 85 * a1 + 1192 by omega]
                  have e_410 : M 164 (1188 + 85 * a1) = M 164 (85 * a1 + 1188) := by rw [show 1188 + 85 * a1 = 85 * a1 + 1188 by omega]
                  have e_411 : N_405 164 (1192 + 85 * a1) = (M 164 (85 * a1 + 1192)) + 1 := by rw [show 1192 + 85 * a1 = 85 * a1 + 1192 by omega, hM_N_405, mu_s]
                  have e_412 : N_405 164 (1194 + 85 * a1 + 4 * (M 164 (85 * a1 + 1192))) = N_45 164 (85 * a1 + 4 * (M 164 (85 * a1 + 1192)) + 1194) := by rw [show 1194 + 85 * a1 + 4 * (M 164 (85 * a1 + 1192)) = 85 * a1 + 4 * (M 164 (85 * a1 + 1192)) + 1194 by omega, hM_N_405, mu_i (by omega), hM_N_82, mu_i (by omega), hM_N_80, mu_i (by omega), hx_N_65 _ (by omega)]
                  have e_413 : N_405 164 (1195 + 85 * a1 + 4 * (M 164 (85 * a1 + 1192))) = N_65 164 (85 * a1 + 4 * (M 164 (85 * a1 + 1192)) + 1195) := by rw [show 1195 + 85 * a1 + 4 * (M 164 (85 * a1 + 1192)) = 85 * a1 + 4 * (M 164 (85 * a1 + 1192)) + 1195 by omega, hM_N_405, mu_i (by omega), hM_N_82, mu_i (by omega), hM_N_80, mu_i (by omega)]
                  have e_414 : (N_405 164 (85 * a1 + 1192)) = (M 164 (85 * a1 + 1192)) + 1 := by rw [hM_N_405, mu_s]
                  have e_415 : (N_405 164 (85 * a1 + 4 * (M 164 (85 * a1 + 1192)) + 1193)) = (lfn Bt t (q 0) (q 1) (q 2) (j + 1)) := by rw [hM_N_405, mu_i (by omega), hM_N_82, mu_i (by omega), hM_N_80, mu_s]
                  have e_416 : (N_405 164 (85 * a1 + 4 * (M 164 (85 * a1 + 1192)) + 1194)) = (N_45 164 (85 * a1 + 4 * (M 164 (85 * a1 + 1192)) + 1194)) := by rw [hM_N_405, mu_i (by omega), hM_N_82, mu_i (by omega), hM_N_80, mu_i (by omega), hx_N_65 _ (by omega)]
                  have e_417 : (N_405 164 (85 * a1 + 4 * (M 164 (85 * a1 + 1192)) + 1195)) = (N_65 164 (85 * a1 + 4 * (M 164 (85 * a1 + 1192)) + 1195)) := by rw [hM_N_405, mu_i (by omega), hM_N_82, mu_i (by omega), hM_N_80, mu_i (by omega)]
                  have e_418 : (N_405 164 (85 * a1 + 4 * (M 164 (85 * a1 + 1192)) + 1196)) = -1 := by rw [hM_N_405, mu_i (by omega), hM_N_82, mu_s]
                  have hp_421 : RT N_405 Bt (j + 4) := RT.st hp_383 hM_N_405 kd_164 rfl
                  exact kx_zret F hQ (by omega) ⟨hI_N_405, hF_N_405, (Or.inl (by omega)), ⟨⟨(LO.sta hlo_84 hM_N_405 (by omega)), (fun _ => (R4.rule hR hI_M a1 (M 164 (85 * a1 + 1192)) (by omega) (by omega) (fun j hj h0 => by rw [hM_N_405, mu_i (by omega), hM_N_82, mu_i (by omega), hM_N_80, mu_i (by omega), hx_N_65 _ (by omega), hx_N_45 _ (by omega), Fr.e hG_N_37 kd_164 _ rfl, Fr.e hG_N_20 kd_164 _ rfl]) (by omega) (by omega) (by omega)))⟩, ⟨(j + 4), (-1), fun h => absurd h (by omega), fun _ => ⟨(Or.inr (Or.inr (Or.inr (Or.inr (Or.inr (Or.inr (Or.inr (Or.inr (Or.inr (Or.inr (Or.inl (by omega)))))))))))), fun hk => by omega, hp_421, (BQ.cg (q' := (uprul q b (lfn Bt t (q 0) (q 1) (q 2) (j + 1)) (tv Bt (j + 2)) (tv Bt (j + 3)) (-1))) hq (by rw [hM_N_405, mu_i (by omega)]; exact hO_381 1088 (Or.inl (by omega))) (by rw [hM_N_405, mu_i (by omega)]; exact hO_381 1089 (Or.inl (by omega))) (by rw [hM_N_405, mu_i (by omega)]; exact hO_381 1090 (Or.inl (by omega))) (by rw [hM_N_405, mu_i (by omega)]; exact hO_381 1092 (Or.inl (by omega))) (by rw [uprul_l (by omega) (by omega)]; have h : N_405 164 1091 = M 164 1091 := (by rw [hM_N_405, mu_i (by omega)]; exact hO_381 1091 (Or.inl (by omega))); omega) (uprul_l (by omega) (by omega)) (uprul_l (by omega) (by omega)) (uprul_l (by omega) (by omega)) (by rw [uprul_l (by omega) (by omega)]; omega)), (NR.cg (NR.st (NR.st (NR.st (NR.fr (NR.fr (NR.fr (NR.fr hN hG_N_20 rfl) hG_N_37 rfl) hG_N_45 rfl) hG_N_65 rfl) hM_N_80 kd_164 rfl) hM_N_82 kd_164 rfl) hM_N_405 kd_164 rfl) (uprul_l (by omega) (by omega)) (uprul_l (by omega) (by omega)) (uprul_l (by omega) (by omega))), (BA.set hA hb (by omega) (BT.app (y4 := 85 * a1 + 1192) (y5 := 85 * a1 + 4 * (M 164 (85 * a1 + 1192)) + 1193) (y6 := 85 * a1 + 4 * (M 164 (85 * a1 + 1192)) + 1194) (y7 := 85 * a1 + 4 * (M 164 (85 * a1 + 1192)) + 1195) (y8 := 85 * a1 + 4 * (M 164 (85 * a1 + 1192)) + 1196) hBT (by omega) (by omega) (by omega) (by omega) (by omega) (by omega) (by omega) (by omega) (by omega) (by omega) (by omega) (fun i h1 h2 => by rw [hM_N_405, mu_i (by omega)]; exact hO_381 i h2)) (fun k hk => uprul_l (by omega) (by omega)) (fun i h1 h2 => by rw [hM_N_405, mu_i (by omega)]; exact hO_381 i (Or.inl (by omega))) hr)⟩⟩⟩⟩ dX12_aRule_319
              · refine kx_if_eq 259 F 306 dX12_aRule_256 (by decide) rfl (by omega) (fun h_422 => ?_) (fun h_422 => (by exfalso; omega))
                refine kx_aload_n 307 F 0 dX12_aRule_306 rfl rfl rfl ?_
                refine kx_getr 310 F fl_X12_7 kd_163 rfl rfl (j := 0) rfl dX12_aRule_307 (v := 164) (uq_164 (Inv.r hI_N_82 kd_163 rfl 0 rfl rfl)) rfl ?_
                refine kx_iload_n 311 F 2 dX12_aRule_310 rfl rfl rfl ?_
                refine kx_iconst 312 F dX12_aRule_311 rfl ?_
                refine kx_iadd 313 F (v := 85 * a1 + 1192) dX12_aRule_312 (by omega) rfl ?_
                refine kx_dup2 314 F dX12_aRule_313 rfl rfl rfl ?_
                refine kx_iald 315 F kd_164 rfl rfl (by omega) (by decide) dX12_aRule_314 (v := (M 164 (85 * a1 + 1192))) (by rw [hM_N_82, mu_i (by omega), hM_N_80, mu_i (by omega), hx_N_65 _ (by omega), hx_N_45 _ (by omega), Fr.e hG_N_37 kd_164 _ rfl, Fr.e hG_N_20 kd_164 _ rfl]) rfl ?_
                refine kx_iconst 316 F dX12_aRule_315 rfl ?_
                refine kx_iadd 317 F (v := (M 164 (85 * a1 + 1192)) + 1) dX12_aRule_316 rfl rfl ?_
                refine kx_iast 318 F kd_164 rfl rfl (by omega) (by decide) dX12_aRule_317 rfl ?_
                intro N_423 hM_N_423
                have hI_N_423 : Inv true N_423 := Inv.u hI_N_82 hM_N_423 kd_164 (a := 0) (b := 20) ha_13.1 ha_13.2 rfl (by omega)
                have hF_N_423 : Fr f_e_X12_aRule M N_423 := Fr.u hF_N_82 hM_N_423 kd_164 rfl
                refine kx_iconst 319 F dX12_aRule_318 rfl ?_
                have e_424 : (N_423 163 18) = (N_65 163 18) := by rw [hM_N_423, mu_k kd_163 kd_164 rfl, hM_N_82, mu_k kd_163 kd_164 rfl, hM_N_80, mu_k kd_163 kd_164 rfl]
                have e_425 : (N_423 163 17) = (N_65 163 17) := by rw [hM_N_423, mu_k kd_163 kd_164 rfl, hM_N_82, mu_k kd_163 kd_164 rfl, hM_N_80, mu_k kd_163 kd_164 rfl]
                have e_427 : M 164 (1192 + 85 * a1) = M 164 (85 * a1 + 1192) := by rw [show 1192 + 85 * a1 = 85 * a1 + 1192 by omega]
                have e_428 : M 164 (1188 + 85 * a1) = M 164 (85 * a1 + 1188) := by rw [show 1188 + 85 * a1 = 85 * a1 + 1188 by omega]
                have e_429 : N_423 164 (1192 + 85 * a1) = (M 164 (85 * a1 + 1192)) + 1 := by rw [show 1192 + 85 * a1 = 85 * a1 + 1192 by omega, hM_N_423, mu_s]
                have e_430 : N_423 164 (1194 + 85 * a1 + 4 * (M 164 (85 * a1 + 1192))) = N_45 164 (85 * a1 + 4 * (M 164 (85 * a1 + 1192)) + 1194) := by rw [show 1194 + 85 * a1 + 4 * (M 164 (85 * a1 + 1192)) = 85 * a1 + 4 * (M 164 (85 * a1 + 1192)) + 1194 by omega, hM_N_423, mu_i (by omega), hM_N_82, mu_i (by omega), hM_N_80, mu_i (by omega), hx_N_65 _ (by omega)]
                have e_431 : N_423 164 (1195 + 85 * a1 + 4 * (M 164 (85 * a1 + 1192))) = N_65 164 (85 * a1 + 4 * (M 164 (85 * a1 + 1192)) + 1195) := by rw [show 1195 + 85 * a1 + 4 * (M 164 (85 * a1 + 1192)) = 85 * a1 + 4 * (M 164 (85 * a1 + 1192)) + 1195 by omega, hM_N_423, mu_i (by omega), hM_N_82, mu_i (by omega), hM_N_80, mu_i (by omega)]
                have e_432 : (N_423 164 (85 * a1 + 1192)) = (M 164 (85 * a1 + 1192)) + 1 := by rw [hM_N_423, mu_s]
                have e_433 : (N_423 164 (85 * a1 + 4 * (M 164 (85 * a1 + 1192)) + 1193)) = (lfn Bt t (q 0) (q 1) (q 2) (j + 1)) := by rw [hM_N_423, mu_i (by omega), hM_N_82, mu_i (by omega), hM_N_80, mu_s]
                have e_434 : (N_423 164 (85 * a1 + 4 * (M 164 (85 * a1 + 1192)) + 1194)) = (N_45 164 (85 * a1 + 4 * (M 164 (85 * a1 + 1192)) + 1194)) := by rw [hM_N_423, mu_i (by omega), hM_N_82, mu_i (by omega), hM_N_80, mu_i (by omega), hx_N_65 _ (by omega)]
                have e_435 : (N_423 164 (85 * a1 + 4 * (M 164 (85 * a1 + 1192)) + 1195)) = (N_65 164 (85 * a1 + 4 * (M 164 (85 * a1 + 1192)) + 1195)) := by rw [hM_N_423, mu_i (by omega), hM_N_82, mu_i (by omega), hM_N_80, mu_i (by omega)]
                have e_436 : (N_423 164 (85 * a1 + 4 * (M 164 (85 * a1 + 1192)) + 1196)) = -1 := by rw [hM_N_423, mu_i (by omega), hM_N_82, mu_s]
                have hp_439 : RT N_423 Bt (j + 4) := RT.st hp_383 hM_N_423 kd_164 rfl
                exact kx_zret F hQ (by omega) ⟨hI_N_423, hF_N_423, (Or.inl (by omega)), ⟨⟨(LO.sta hlo_84 hM_N_423 (by omega)), (fun _ => (R4.rule hR hI_M a1 (M 164 (85 * a1 + 1192)) (by omega) (by omega) (fun j hj h0 => by rw [hM_N_423, mu_i (by omega), hM_N_82, mu_i (by omega), hM_N_80, mu_i (by omega), hx_N_65 _ (by omega), hx_N_45 _ (by omega), Fr.e hG_N_37 kd_164 _ rfl, Fr.e hG_N_20 kd_164 _ rfl]) (by omega) (by omega) (by omega)))⟩, ⟨(j + 4), (-1), fun h => absurd h (by omega), fun _ => ⟨(Or.inr (Or.inr (Or.inr (Or.inr (Or.inr (Or.inr (Or.inr (Or.inr (Or.inr (Or.inr (Or.inl (by omega)))))))))))), fun hk => by omega, hp_439, (BQ.cg (q' := (uprul q b (lfn Bt t (q 0) (q 1) (q 2) (j + 1)) (tv Bt (j + 2)) (tv Bt (j + 3)) (-1))) hq (by rw [hM_N_423, mu_i (by omega)]; exact hO_381 1088 (Or.inl (by omega))) (by rw [hM_N_423, mu_i (by omega)]; exact hO_381 1089 (Or.inl (by omega))) (by rw [hM_N_423, mu_i (by omega)]; exact hO_381 1090 (Or.inl (by omega))) (by rw [hM_N_423, mu_i (by omega)]; exact hO_381 1092 (Or.inl (by omega))) (by rw [uprul_l (by omega) (by omega)]; have h : N_423 164 1091 = M 164 1091 := (by rw [hM_N_423, mu_i (by omega)]; exact hO_381 1091 (Or.inl (by omega))); omega) (uprul_l (by omega) (by omega)) (uprul_l (by omega) (by omega)) (uprul_l (by omega) (by omega)) (by rw [uprul_l (by omega) (by omega)]; omega)), (NR.cg (NR.st (NR.st (NR.st (NR.fr (NR.fr (NR.fr (NR.fr hN hG_N_20 rfl) hG_N_37 rfl) hG_N_45 rfl) hG_N_65 rfl) hM_N_80 kd_164 rfl) hM_N_82 kd_164 rfl) hM_N_423 kd_164 rfl) (uprul_l (by omega) (by omega)) (uprul_l (by omega) (by omega)) (uprul_l (by omega) (by omega))), (BA.set hA hb (by omega) (BT.app (y4 := 85 * a1 + 1192) (y5 := 85 * a1 + 4 * (M 164 (85 * a1 + 1192)) + 1193) (y6 := 85 * a1 + 4 * (M 164 (85 * a1 + 1192)) + 1194) (y7 := 85 * a1 + 4 * (M 164 (85 * a1 + 1192)) + 1195) (y8 := 85 * a1 + 4 * (M 164 (85 * a1 + 1192)) + 1196) hBT (by omega) (by omega) (by omega) (by omega) (by omega) (by omega) (by omega) (by omega) (by omega) (by omega) (by omega) (fun i h1 h2 => by rw [hM_N_423, mu_i (by omega)]; exact hO_381 i h2)) (fun k hk => uprul_l (by omega) (by omega)) (fun i h1 h2 => by rw [hM_N_423, mu_i (by omega)]; exact hO_381 i (Or.inl (by omega))) hr)⟩⟩⟩⟩ dX12_aRule_319
          · refine kx_if_ne 121 F 123 dX12_aRule_118 (by decide) rfl (by omega) (fun h_440 => (by exfalso; omega)) (fun h_440 => ?_)
            refine kx_iconst 122 F dX12_aRule_121 rfl ?_
            exact kx_zret F hQ (by omega) ⟨hI_N_65, hF_N_65, (Or.inr (by omega)), ⟨⟨(LO.ne hlo_62 hx_N_65 (by omega)), (fun h => absurd h (by omega))⟩, ⟨(j + 4), (-1), fun _ => (Or.inl ⟨by omega, (Or.inr (Or.inr (Or.inr (Or.inr (Or.inr (Or.inr (Or.inr (Or.inl (by omega)))))))))⟩), fun h => absurd h (by omega)⟩⟩⟩ dX12_aRule_122
          · refine kx_if_ne 121 F 123 dX12_aRule_118 (by decide) rfl (by omega) (fun h_441 => (by exfalso; omega)) (fun h_441 => ?_)
            refine kx_iconst 122 F dX12_aRule_121 rfl ?_
            exact kx_zret F hQ (by omega) ⟨hI_N_65, hF_N_65, (Or.inr (by omega)), ⟨⟨(LO.ne hlo_62 hx_N_65 (by omega)), (fun h => absurd h (by omega))⟩, ⟨(j + 4), (-1), fun _ => (Or.inl ⟨by omega, (Or.inr (Or.inr (Or.inr (Or.inr (Or.inr (Or.inr (Or.inr (Or.inr (Or.inl (by omega))))))))))⟩), fun h => absurd h (by omega)⟩⟩⟩ dX12_aRule_122
          · exfalso; omega
          · refine kx_if_ne 121 F 123 dX12_aRule_118 (by decide) rfl (by omega) (fun h_442 => (by exfalso; omega)) (fun h_442 => ?_)
            refine kx_iconst 122 F dX12_aRule_121 rfl ?_
            exact kx_zret F hQ (by omega) ⟨hI_N_65, hF_N_65, (Or.inr (by omega)), ⟨⟨(LO.ne hlo_62 hx_N_65 (by omega)), (fun h => absurd h (by omega))⟩, ⟨(j + 4), (-1), fun _ => (Or.inl ⟨by omega, (Or.inr (Or.inr (Or.inr (Or.inr (Or.inr (Or.inr (Or.inr (Or.inr (Or.inr (Or.inl (by omega)))))))))))⟩), fun h => absurd h (by omega)⟩⟩⟩ dX12_aRule_122
        · refine kx_if_eq 101 F 121 dX12_aRule_98 (by decide) rfl (by omega) (fun h_443 => ?_) (fun h_443 => (by exfalso; omega))
          refine kx_iconst 122 F dX12_aRule_121 rfl ?_
          exact kx_zret F hQ (by omega) ⟨hI_N_45, hF_N_45, (Or.inr (by omega)), ⟨⟨(LO.ne hlo_39 hx_N_45 (by omega)), (fun h => absurd h (by omega))⟩, ⟨(j + 4), (-1), fun _ => (Or.inl ⟨by omega, (Or.inr (Or.inr (Or.inr (Or.inr (Or.inl (by omega))))))⟩), fun h => absurd h (by omega)⟩⟩⟩ dX12_aRule_122
        · refine kx_if_eq 101 F 121 dX12_aRule_98 (by decide) rfl (by omega) (fun h_444 => ?_) (fun h_444 => (by exfalso; omega))
          refine kx_iconst 122 F dX12_aRule_121 rfl ?_
          exact kx_zret F hQ (by omega) ⟨hI_N_45, hF_N_45, (Or.inr (by omega)), ⟨⟨(LO.ne hlo_39 hx_N_45 (by omega)), (fun h => absurd h (by omega))⟩, ⟨(j + 4), (-1), fun _ => (Or.inl ⟨by omega, (Or.inr (Or.inr (Or.inr (Or.inr (Or.inr (Or.inl (by omega)))))))⟩), fun h => absurd h (by omega)⟩⟩⟩ dX12_aRule_122
        · exfalso; omega
        · refine kx_if_eq 101 F 121 dX12_aRule_98 (by decide) rfl (by omega) (fun h_445 => ?_) (fun h_445 => (by exfalso; omega))
          refine kx_iconst 122 F dX12_aRule_121 rfl ?_
          exact kx_zret F hQ (by omega) ⟨hI_N_45, hF_N_45, (Or.inr (by omega)), ⟨⟨(LO.ne hlo_39 hx_N_45 (by omega)), (fun h => absurd h (by omega))⟩, ⟨(j + 4), (-1), fun _ => (Or.inl ⟨by omega, (Or.inr (Or.inr (Or.inr (Or.inr (Or.inr (Or.inr (Or.inl (by omega))))))))⟩), fun h => absurd h (by omega)⟩⟩⟩ dX12_aRule_122
      · refine kx_aload_n 72 F 0 dX12_aRule_71 rfl rfl rfl ?_
        refine kx_iconst 73 F dX12_aRule_72 rfl ?_
        have e_446 : (N_20 163 18) = (M 163 18) := by rw [Fr.e hG_N_20 kd_163 _ rfl]
        refine kx_Vi 76 (ci := 0) F (As := [vI 3]) (st := []) vd_X12_205 (e_X12_fails G l N_20 3 hI_N_20 (by omega) Bt (TM.fr hB hF_N_20 rfl) (j + 1) (by omega) ht_N_20) kd_163 rfl rfl rfl ⟨by decide, by decide⟩ rfl rfl (Nat.le_of_ble_eq_true rfl) dX12_aRule_73 rfl ?_
        intro r_447 N_448 q_449
        obtain ⟨hI_N_448, hG_N_448, q_449c⟩ := q_449
        have hF_N_448 : Fr f_e_X12_aRule M N_448 := Fr.c hF_N_20 hG_N_448 rfl
        have h_450 := Inv.g hI_N_448 kd_163 rfl 18 (a := (-2147483648)) (b := 2147483647) rfl rfl
        have h_451 := Inv.g hI_N_448 kd_163 rfl 17 (a := (-2147483648)) (b := 2147483647) rfl rfl
        rcases q_449c with q_449c | q_449c
        · exfalso; omega
        · exact kx_zret F hQ (by omega) ⟨hI_N_448, hF_N_448, (Or.inr (by omega)), ⟨⟨(LO.fr hlo_22 hG_N_448 rfl), (fun h => absurd h (by omega))⟩, ⟨(j + 4), (-1), fun _ => (Or.inl ⟨by omega, (Or.inr (Or.inr (Or.inr (Or.inl (by omega)))))⟩), fun h => absurd h (by omega)⟩⟩⟩ dX12_aRule_76
    · refine kx_if_ne 53 F 59 dX12_aRule_50 (by decide) rfl (by omega) (fun h_454 => (by exfalso; omega)) (fun h_454 => ?_)
      refine kx_aload_n 54 F 0 dX12_aRule_53 rfl rfl rfl ?_
      refine kx_iconst 55 F dX12_aRule_54 rfl ?_
      have e_455 : (N_20 163 18) = (M 163 18) := by rw [Fr.e hG_N_20 kd_163 _ rfl]
      refine kx_Vi 58 (ci := 0) F (As := [vI 2]) (st := []) vd_X12_205 (e_X12_fails G l N_20 2 hI_N_20 (by omega) Bt (TM.fr hB hF_N_20 rfl) (j + 1) (by omega) ht_N_20) kd_163 rfl rfl rfl ⟨by decide, by decide⟩ rfl rfl (Nat.le_of_ble_eq_true rfl) dX12_aRule_55 rfl ?_
      intro r_456 N_457 q_458
      obtain ⟨hI_N_457, hG_N_457, q_458c⟩ := q_458
      have hF_N_457 : Fr f_e_X12_aRule M N_457 := Fr.c hF_N_20 hG_N_457 rfl
      have h_459 := Inv.g hI_N_457 kd_163 rfl 18 (a := (-2147483648)) (b := 2147483647) rfl rfl
      have h_460 := Inv.g hI_N_457 kd_163 rfl 17 (a := (-2147483648)) (b := 2147483647) rfl rfl
      rcases q_458c with q_458c | q_458c
      · exact kx_zret F hQ (by omega) ⟨hI_N_457, hF_N_457, (Or.inr (by omega)), ⟨⟨(LO.fr hlo_22 hG_N_457 rfl), (fun h => absurd h (by omega))⟩, ⟨(j + 4), (-1), fun _ => (Or.inl ⟨by omega, (Or.inr (Or.inl (by omega)))⟩), fun h => absurd h (by omega)⟩⟩⟩ dX12_aRule_58
      · exact kx_zret F hQ (by omega) ⟨hI_N_457, hF_N_457, (Or.inr (by omega)), ⟨⟨(LO.fr hlo_22 hG_N_457 rfl), (fun h => absurd h (by omega))⟩, ⟨(j + 4), (-1), fun _ => (Or.inl ⟨by omega, (Or.inr (Or.inr (Or.inl (by omega))))⟩), fun h => absurd h (by omega)⟩⟩⟩ dX12_aRule_58
  · refine kx_aload_n 24 F 0 dX12_aRule_23 rfl rfl rfl ?_
    refine kx_bipush 26 F dX12_aRule_24 (by decide) rfl ?_
    refine kx_Vi 29 (ci := 0) F (As := [vI 6]) (st := []) vd_X12_205 (e_X12_fails G l M 6 hI_M (by omega) Bt hB j (by omega) hs) kd_163 rfl rfl rfl ⟨by decide, by decide⟩ rfl rfl (Nat.le_of_ble_eq_true rfl) dX12_aRule_26 rfl ?_
    intro r_463 N_464 q_465
    obtain ⟨hI_N_464, hG_N_464, q_465c⟩ := q_465
    have hF_N_464 : Fr f_e_X12_aRule M N_464 := Fr.c hF_M hG_N_464 rfl
    have h_466 := Inv.g hI_N_464 kd_163 rfl 18 (a := (-2147483648)) (b := 2147483647) rfl rfl
    have h_467 := Inv.g hI_N_464 kd_163 rfl 17 (a := (-2147483648)) (b := 2147483647) rfl rfl
    rcases q_465c with q_465c | q_465c
    · exfalso; omega
    · exact kx_zret F hQ (by omega) ⟨hI_N_464, hF_N_464, (Or.inr (by omega)), ⟨⟨(LO.fr (LO.rf M) hG_N_464 rfl), (fun h => absurd h (by omega))⟩, ⟨(j + 4), (-1), fun _ => (Or.inl ⟨by omega, (Or.inl (by omega))⟩), fun h => absurd h (by omega)⟩⟩⟩ dX12_aRule_29
