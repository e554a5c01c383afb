abbrev f_e_X12_anAutomaton : List (Nat × Int) := [(64, 12), (64, 13), (64, 14), (64, 15), (64, 17), (64, 18), (65, -1)]
set_option maxHeartbeats 4000000 in
set_option maxRecDepth 100000 in
theorem e_X12_anAutomaton (G : KG) (l : Launch) (M : Mem) (hI_M : Inv true M) (hpre : (M 163 18) = 0) (hR : R4 M) (Bt : Int → Int) (hB : TM M Bt) (j : Int) (hj : 0 ≤ j) (hs : RT M Bt j) (hw : tk Bt j = 1) (t q : Int → Int) (hN : NR M Bt t q) (hq : M 164 1088 = q 0 ∧ M 164 1089 = q 1 ∧ M 164 1090 = q 2 ∧ M 164 1091 = q 3 ∧ 0 ≤ q 0 ∧ q 0 ≤ 2 ∧ 0 ≤ q 1 ∧ q 1 ≤ 2 ∧ 0 ≤ q 2 ∧ q 2 ≤ 2 ∧ 0 ≤ q 3 ∧ q 3 ≤ 2 ∧ M 164 1092 = -1) (hA : BA M q) (hr : ∀ b, (b = 100 ∨ b = 185) → q (b + 4) ≤ 20 ∨ q 3 = 0) : KC true G l yX12_anAutomaton cX12_anAutomaton 3 (some .boolean) (6, 133) [vR G 163] M (fun A => kQi true G A (fun (r : Int) (N : Mem) => Inv true N ∧ Fr f_e_X12_anAutomaton M N ∧ ((r = 1 ∧ (N 163 18) = (M 163 18) ∧ (N 163 17) = (M 163 17)) ∨ (r = 0 ∧ (N 163 18) ≥ 1)) ∧ ((LO N M ∧ (r = 1 → R4 N)) ∧ (zAM Bt q j r (N 163 18) (N 163 17) ∧ (r = 1 → N 163 18 = M 163 18 ∧ N 163 17 = M 163 17 ∧ RT N Bt (j + 4) ∧ BQ N (uaut q (tv Bt (j + 1)) (tv Bt (j + 3))) ∧ NR N Bt t (uaut q (tv Bt (j + 1)) (tv Bt (j + 3))) ∧ BA N (uaut q (tv Bt (j + 1)) (tv Bt (j + 3)))))))) := by
  refine kx_met (lo := [some (vR G 163), none, none]) (by decide) (Nat.le_of_ble_eq_true rfl) rfl ?_
  intro X F hQ
  have hF_M : Fr f_e_X12_anAutomaton M M := Fr.rf _ _
  have h_1 := Inv.g hI_M kd_163 rfl 18 (a := (-2147483648)) (b := 2147483647) rfl rfl
  have hu_2 := hs.u.1
  have hu_3 := hs.u.2.1
  have ht_4 := tp_le (n := M 163 11) (TM.tx hB hI_M) (Inv.g hI_M kd_163 rfl 11 (a := 0) (b := 900) rfl rfl).1 (j := j) (by omega)
  have h_5 := Inv.g hI_M kd_163 rfl 11 (a := 0) (b := 900) rfl rfl
  have hb_6 : tbd Bt j = 0 := by have := tbd_c Bt j; omega
  refine kx_aload_n 1 F 0 dX12_anAutomaton_0 rfl rfl rfl ?_
  refine kx_getr 4 F fl_X12_7 kd_163 rfl rfl (j := 0) rfl dX12_anAutomaton_1 (v := 164) (uq_164 (Inv.r hI_M kd_163 rfl 0 rfl rfl)) rfl ?_
  refine kx_sipush 7 F dX12_anAutomaton_4 (by decide) rfl ?_
  refine kx_iald 8 F kd_164 rfl rfl (by omega) (by decide) dX12_anAutomaton_7 (v := (M 164 1091)) rfl rfl ?_
  have ha_7 : atlo 1091 = 0 ∧ athi 1091 = 2 := at_c 1091 4 (o := 3) (lo := 0) (hi := 2) (by omega) (by decide) (by decide) (by decide)
  have h_8 := Inv.g hI_M kd_164 rfl 1091 (a := 0) (b := 2) ha_7.1 ha_7.2
  refine kx_istore_n 9 F 1 (lo' := [some (vR G 163), some (vI (M 164 1091)), none]) dX12_anAutomaton_8 rfl (by decide) rfl rfl rfl ?_
  refine kx_iload_n 10 F 1 dX12_anAutomaton_9 rfl rfl rfl ?_
  refine kx_iconst 11 F dX12_anAutomaton_10 rfl ?_
  refine kx_icmp_ne 14 F 21 dX12_anAutomaton_11 (by decide) rfl (by omega) (by decide) (fun h_9 => ?_) (fun h_9 => ?_)
  · refine kx_sipush 24 F dX12_anAutomaton_21 (by decide) rfl ?_
    refine kx_iload_n 25 F 1 dX12_anAutomaton_24 rfl rfl rfl ?_
    refine kx_Si 28 F (As := [vI 1088, vI (M 164 1091)]) (st := []) sd_X12_216 (c_X12_rowOf G l M 1088 (M 164 1091) hI_M (by omega)) ⟨by decide, by decide⟩ rfl rfl (Nat.le_of_ble_eq_true rfl) dX12_anAutomaton_25 rfl ?_
    intro r_10 N_11 q_12
    obtain ⟨rfl, q_12c⟩ := q_12
    refine kx_topi (e' := 85 * (M 164 1091) + 1188) (by omega) ?_
    refine kx_istore_n 29 F 2 (lo' := [some (vR G 163), some (vI (M 164 1091)), some (vI (85 * (M 164 1091) + 1188))]) dX12_anAutomaton_28 rfl (by decide) rfl rfl rfl ?_
    refine kx_aload_n 30 F 0 dX12_anAutomaton_29 rfl rfl rfl ?_
    have hu_13 := hs.2.1
    refine kx_Vv 33 (ci := 0) F (As := []) (st := []) vd_X12_199 (e_X12_ahead G l M  hI_M Bt hB (j + 1) j (by omega) (by omega) hu_13) kd_163 rfl rfl rfl ⟨by decide, by decide⟩ rfl rfl (Nat.le_of_ble_eq_true rfl) dX12_anAutomaton_30 rfl ?_
    intro N_14 q_15
    obtain ⟨hI_N_14, hG_N_14, ht_N_14⟩ := q_15
    have hF_N_14 : Fr f_e_X12_anAutomaton M N_14 := Fr.c hF_M hG_N_14 rfl
    refine kx_aload_n 34 F 0 dX12_anAutomaton_33 rfl rfl rfl ?_
    refine kx_iload_n 35 F 2 dX12_anAutomaton_34 rfl rfl rfl ?_
    refine kx_iconst 36 F dX12_anAutomaton_35 rfl ?_
    refine kx_iconst 37 F dX12_anAutomaton_36 rfl ?_
    have ha_16 : atlo (85 * (M 164 1091) + 1188) = 0 ∧ athi (85 * (M 164 1091) + 1188) = 3 := at_a (85 * (M 164 1091) + 1188) 4 (M 164 1091) 0 (by omega) (by omega) (by decide)
    have e_17 : (N_14 163 18) = (M 163 18) := by rw [Fr.e hG_N_14 kd_163 _ rfl]
    refine kx_Vi 40 (ci := 0) F (As := [vI (85 * (M 164 1091) + 1188), vI 1, vI 3]) (st := []) vd_X12_231 (e_X12_number G l N_14 (85 * (M 164 1091) + 1188) 1 3 hI_N_14 (by omega) Bt (TM.fr hB hF_N_14 rfl) (j + 1) (by omega) ht_N_14) kd_163 rfl rfl rfl ⟨by decide, by decide⟩ rfl rfl (Nat.le_of_ble_eq_true rfl) dX12_anAutomaton_37 rfl ?_
    intro r_18 N_19 q_20
    obtain ⟨hI_N_19, hG_N_19, q_20c, ⟨hr_N_19, hx_N_19⟩⟩ := q_20
    have hF_N_19 : Fr f_e_X12_anAutomaton M N_19 := Fr.c hF_N_14 hG_N_19 rfl
    have h_22 := Inv.g hI_N_19 kd_163 rfl 18 (a := (-2147483648)) (b := 2147483647) rfl rfl
    have e_23 : (N_14 163 17) = (M 163 17) := by rw [Fr.e hG_N_14 kd_163 _ rfl]
    have h_24 := Inv.g hI_M kd_163 rfl 17 (a := (-2147483648)) (b := 2147483647) rfl rfl
    have h_25 := Inv.g hI_N_19 kd_163 rfl 17 (a := (-2147483648)) (b := 2147483647) rfl rfl
    rcases q_20c with q_20c | q_20c | q_20c | q_20c | q_20c
    · refine kx_if_eq 43 F 66 dX12_anAutomaton_40 (by decide) rfl (by omega) (fun h_34 => (by exfalso; omega)) (fun h_34 => ?_)
      have ht_35 : RT N_19 Bt (j + 2) := by have hh := hr_N_19 (by omega); first | exact hh | (rw [show (j + 2) = (j + 1) + 1 by omega]; exact hh)
      refine kx_aload_n 44 F 0 dX12_anAutomaton_43 rfl rfl rfl ?_
      refine kx_ldcS 46 F 11 (by decide) rfl rfl dX12_anAutomaton_44 rfl ?_
      refine kx_bipush 48 F dX12_anAutomaton_46 (by decide) rfl ?_
      refine kx_Vi 51 (ci := 0) F (As := [vT G 11, vI 7]) (st := []) vd_X12_235 (e_X12_wantWord G l N_19 7 hI_N_19 (by omega) Bt (TM.fr hB hF_N_19 rfl) (j + 2) (by omega) ht_35) kd_163 rfl rfl rfl ⟨by decide, by decide⟩ rfl rfl (Nat.le_of_ble_eq_true rfl) dX12_anAutomaton_48 rfl ?_
      intro r_36 N_37 q_38
      obtain ⟨hI_N_37, hG_N_37, q_38c, hr_N_37⟩ := q_38
      have hF_N_37 : Fr f_e_X12_anAutomaton M N_37 := Fr.c hF_N_19 hG_N_37 rfl
      have h_39 := Inv.g hI_N_37 kd_163 rfl 18 (a := (-2147483648)) (b := 2147483647) rfl rfl
      have h_40 := Inv.g hI_N_37 kd_163 rfl 17 (a := (-2147483648)) (b := 2147483647) rfl rfl
      rcases q_38c with q_38c | q_38c | q_38c
      · refine kx_if_eq 54 F 66 dX12_anAutomaton_51 (by decide) rfl (by omega) (fun h_45 => (by exfalso; omega)) (fun h_45 => ?_)
        have hd_46 : tbd Bt (j + 2) = 0 := kwd_b (by omega)
        have ht_47 : RT N_37 Bt (j + 3) := by have hh := hr_N_37 (by omega); first | exact hh | (rw [show (j + 3) = (j + 2) + 1 by omega]; exact hh)
        refine kx_aload_n 55 F 0 dX12_anAutomaton_54 rfl rfl rfl ?_
        refine kx_iload_n 56 F 2 dX12_anAutomaton_55 rfl rfl rfl ?_
        refine kx_iconst 57 F dX12_anAutomaton_56 rfl ?_
        refine kx_iadd 58 F (v := 85 * (M 164 1091) + 1189) dX12_anAutomaton_57 (by omega) rfl ?_
        refine kx_iconst 59 F dX12_anAutomaton_58 rfl ?_
        refine kx_iconst 60 F dX12_anAutomaton_59 rfl ?_
        have ha_48 : atlo (85 * (M 164 1091) + 1189) = 0 ∧ athi (85 * (M 164 1091) + 1189) = 3 := at_a (85 * (M 164 1091) + 1189) 4 (M 164 1091) 1 (by omega) (by omega) (by decide)
        refine kx_Vi 63 (ci := 0) F (As := [vI (85 * (M 164 1091) + 1189), vI 1, vI 3]) (st := []) vd_X12_231 (e_X12_number G l N_37 (85 * (M 164 1091) + 1189) 1 3 hI_N_37 (by omega) Bt (TM.fr hB hF_N_37 rfl) (j + 3) (by omega) ht_47) kd_163 rfl rfl rfl ⟨by decide, by decide⟩ rfl rfl (Nat.le_of_ble_eq_true rfl) dX12_anAutomaton_60 rfl ?_
        intro r_49 N_50 q_51
        obtain ⟨hI_N_50, hG_N_50, q_51c, ⟨hr_N_50, hx_N_50⟩⟩ := q_51
        have hF_N_50 : Fr f_e_X12_anAutomaton M N_50 := Fr.c hF_N_37 hG_N_50 rfl
        have h_52 := Inv.g hI_N_50 kd_163 rfl 18 (a := (-2147483648)) (b := 2147483647) rfl rfl
        have h_53 := Inv.g hI_N_50 kd_163 rfl 17 (a := (-2147483648)) (b := 2147483647) rfl rfl
        rcases q_51c with q_51c | q_51c | q_51c | q_51c | q_51c
        · refine kx_if_ne 66 F 68 dX12_anAutomaton_63 (by decide) rfl (by omega) (fun h_62 => ?_) (fun h_62 => (by exfalso; omega))
          have ht_63 : RT N_50 Bt (j + 4) := by have hh := hr_N_50 (by omega); first | exact hh | (rw [show (j + 4) = (j + 3) + 1 by omega]; exact hh)
          refine kx_aload_n 69 F 0 dX12_anAutomaton_68 rfl rfl rfl ?_
          refine kx_getr 72 F fl_X12_7 kd_163 rfl rfl (j := 0) rfl dX12_anAutomaton_69 (v := 164) (uq_164 (Inv.r hI_N_50 kd_163 rfl 0 rfl rfl)) rfl ?_
          refine kx_iload_n 73 F 2 dX12_anAutomaton_72 rfl rfl rfl ?_
          refine kx_iconst 74 F dX12_anAutomaton_73 rfl ?_
          refine kx_iadd 75 F (v := 85 * (M 164 1091) + 1190) dX12_anAutomaton_74 (by omega) rfl ?_
          refine kx_iconst 76 F dX12_anAutomaton_75 rfl ?_
          refine kx_iast 77 F kd_164 rfl rfl (by omega) (by decide) dX12_anAutomaton_76 rfl ?_
          intro N_64 hM_N_64
          have ha_65 : atlo (85 * (M 164 1091) + 1190) = 0 ∧ athi (85 * (M 164 1091) + 1190) = 7 := at_a (85 * (M 164 1091) + 1190) 4 (M 164 1091) 2 (by omega) (by omega) (by decide)
          have hI_N_64 : Inv true N_64 := Inv.u hI_N_50 hM_N_64 kd_164 (a := 0) (b := 7) ha_65.1 ha_65.2 rfl (by omega)
          have hF_N_64 : Fr f_e_X12_anAutomaton M N_64 := Fr.u hF_N_50 hM_N_64 kd_164 rfl
          refine kx_aload_n 78 F 0 dX12_anAutomaton_77 rfl rfl rfl ?_
          refine kx_getr 81 F fl_X12_7 kd_163 rfl rfl (j := 0) rfl dX12_anAutomaton_78 (v := 164) (uq_164 (Inv.r hI_N_64 kd_163 rfl 0 rfl rfl)) rfl ?_
          refine kx_iload_n 82 F 2 dX12_anAutomaton_81 rfl rfl rfl ?_
          refine kx_iconst 83 F dX12_anAutomaton_82 rfl ?_
          refine kx_iadd 84 F (v := 85 * (M 164 1091) + 1191) dX12_anAutomaton_83 (by omega) rfl ?_
          refine kx_iconst 85 F dX12_anAutomaton_84 rfl ?_
          refine kx_iast 86 F kd_164 rfl rfl (by omega) (by decide) dX12_anAutomaton_85 rfl ?_
          intro N_66 hM_N_66
          have ha_67 : atlo (85 * (M 164 1091) + 1191) = 0 ∧ athi (85 * (M 164 1091) + 1191) = 7 := at_a (85 * (M 164 1091) + 1191) 4 (M 164 1091) 3 (by omega) (by omega) (by decide)
          have hI_N_66 : Inv true N_66 := Inv.u hI_N_64 hM_N_66 kd_164 (a := 0) (b := 7) ha_67.1 ha_67.2 rfl (by omega)
          have hF_N_66 : Fr f_e_X12_anAutomaton M N_66 := Fr.u hF_N_64 hM_N_66 kd_164 rfl
          refine kx_aload_n 87 F 0 dX12_anAutomaton_86 rfl rfl rfl ?_
          refine kx_getr 90 F fl_X12_7 kd_163 rfl rfl (j := 0) rfl dX12_anAutomaton_87 (v := 164) (uq_164 (Inv.r hI_N_66 kd_163 rfl 0 rfl rfl)) rfl ?_
          refine kx_iload_n 91 F 2 dX12_anAutomaton_90 rfl rfl rfl ?_
          refine kx_iconst 92 F dX12_anAutomaton_91 rfl ?_
          refine kx_iadd 93 F (v := 85 * (M 164 1091) + 1192) dX12_anAutomaton_92 (by omega) rfl ?_
          refine kx_iconst 94 F dX12_anAutomaton_93 rfl ?_
          refine kx_iast 95 F kd_164 rfl rfl (by omega) (by decide) dX12_anAutomaton_94 rfl ?_
          intro N_68 hM_N_68
          have ha_69 : atlo (85 * (M 164 1091) + 1192) = 0 ∧ athi (85 * (M 164 1091) + 1192) = 20 := at_a (85 * (M 164 1091) + 1192) 4 (M 164 1091) 4 (by omega) (by omega) (by decide)
          have hI_N_68 : Inv true N_68 := Inv.u hI_N_66 hM_N_68 kd_164 (a := 0) (b := 20) ha_69.1 ha_69.2 rfl (by omega)
          have hF_N_68 : Fr f_e_X12_anAutomaton M N_68 := Fr.u hF_N_66 hM_N_68 kd_164 rfl
          refine kx_aload_n 96 F 0 dX12_anAutomaton_95 rfl rfl rfl ?_
          refine kx_getr 99 F fl_X12_7 kd_163 rfl rfl (j := 0) rfl dX12_anAutomaton_96 (v := 164) (uq_164 (Inv.r hI_N_68 kd_163 rfl 0 rfl rfl)) rfl ?_
          refine kx_sipush 102 F dX12_anAutomaton_99 (by decide) rfl ?_
          refine kx_dup2 103 F dX12_anAutomaton_102 rfl rfl rfl ?_
          refine kx_iald 104 F kd_164 rfl rfl (by omega) (by decide) dX12_anAutomaton_103 (v := (M 164 1091)) (by rw [hM_N_68, mu_i (by omega), hM_N_66, mu_i (by omega), hM_N_64, mu_i (by omega), hx_N_50 _ (by omega), Fr.e hG_N_37 kd_164 _ rfl, hx_N_19 _ (by omega), Fr.e hG_N_14 kd_164 _ rfl]) rfl ?_
          refine kx_iconst 105 F dX12_anAutomaton_104 rfl ?_
          refine kx_iadd 106 F (v := (M 164 1091) + 1) dX12_anAutomaton_105 rfl rfl ?_
          refine kx_iast 107 F kd_164 rfl rfl (by omega) (by decide) dX12_anAutomaton_106 rfl ?_
          intro N_70 hM_N_70
          have hI_N_70 : Inv true N_70 := Inv.u hI_N_68 hM_N_70 kd_164 (a := 0) (b := 2) ha_7.1 ha_7.2 rfl (by omega)
          have hF_N_70 : Fr f_e_X12_anAutomaton M N_70 := Fr.u hF_N_68 hM_N_70 kd_164 rfl
          refine kx_iconst 108 F dX12_anAutomaton_107 rfl ?_
          have e_71 : (N_70 163 18) = (N_50 163 18) := by rw [hM_N_70, mu_k kd_163 kd_164 rfl, hM_N_68, mu_k kd_163 kd_164 rfl, hM_N_66, mu_k kd_163 kd_164 rfl, hM_N_64, mu_k kd_163 kd_164 rfl]
          have e_72 : (N_70 163 17) = (N_50 163 17) := by rw [hM_N_70, mu_k kd_163 kd_164 rfl, hM_N_68, mu_k kd_163 kd_164 rfl, hM_N_66, mu_k kd_163 kd_164 rfl, hM_N_64, mu_k kd_163 kd_164 rfl]
          have e_74 : N_70 164 (1192 + 85 * M 164 1091) = 0 := by rw [show 1192 + 85 * M 164 1091 = 85 * (M 164 1091) + 1192 by omega, hM_N_70, mu_i (by omega), hM_N_68, mu_s]
          have e_99 : (N_70 164 (85 * (M 164 1091) + 1188)) = (N_19 164 (85 * (M 164 1091) + 1188)) := by rw [hM_N_70, mu_i (by omega), hM_N_68, mu_i (by omega), hM_N_66, mu_i (by omega), hM_N_64, mu_i (by omega), hx_N_50 _ (by omega), Fr.e hG_N_37 kd_164 _ rfl]
          have e_100 : (N_70 164 (85 * (M 164 1091) + 1189)) = (N_50 164 (85 * (M 164 1091) + 1189)) := by rw [hM_N_70, mu_i (by omega), hM_N_68, mu_i (by omega), hM_N_66, mu_i (by omega), hM_N_64, mu_i (by omega)]
          have e_101 : (N_70 164 (85 * (M 164 1091) + 1190)) = 0 := by rw [hM_N_70, mu_i (by omega), hM_N_68, mu_i (by omega), hM_N_66, mu_i (by omega), hM_N_64, mu_s]
          have e_102 : (N_70 164 (85 * (M 164 1091) + 1191)) = 0 := by rw [hM_N_70, mu_i (by omega), hM_N_68, mu_i (by omega), hM_N_66, mu_s]
          have e_103 : (N_70 164 (85 * (M 164 1091) + 1192)) = 0 := by rw [hM_N_70, mu_i (by omega), hM_N_68, mu_s]
          have e_104 : (N_70 164 1088) = (M 164 1088) := by rw [hM_N_70, mu_i (by omega), hM_N_68, mu_i (by omega), hM_N_66, mu_i (by omega), hM_N_64, mu_i (by omega), hx_N_50 _ (by omega), Fr.e hG_N_37 kd_164 _ rfl, hx_N_19 _ (by omega), Fr.e hG_N_14 kd_164 _ rfl]
          have e_105 : (N_70 164 1089) = (M 164 1089) := by rw [hM_N_70, mu_i (by omega), hM_N_68, mu_i (by omega), hM_N_66, mu_i (by omega), hM_N_64, mu_i (by omega), hx_N_50 _ (by omega), Fr.e hG_N_37 kd_164 _ rfl, hx_N_19 _ (by omega), Fr.e hG_N_14 kd_164 _ rfl]
          have e_106 : (N_70 164 1090) = (M 164 1090) := by rw [hM_N_70, mu_i (by omega), hM_N_68, mu_i (by omega), hM_N_66, mu_i (by omega), hM_N_64, mu_i (by omega), hx_N_50 _ (by omega), Fr.e hG_N_37 kd_164 _ rfl, hx_N_19 _ (by omega), Fr.e hG_N_14 kd_164 _ rfl]
          have e_107 : (N_70 164 1091) = (M 164 1091) + 1 := by rw [hM_N_70, mu_s]
          have e_108 : (N_70 164 1092) = (M 164 1092) := by rw [hM_N_70, mu_i (by omega), hM_N_68, mu_i (by omega), hM_N_66, mu_i (by omega), hM_N_64, mu_i (by omega), hx_N_50 _ (by omega), Fr.e hG_N_37 kd_164 _ rfl, hx_N_19 _ (by omega), Fr.e hG_N_14 kd_164 _ rfl]
          have hp_109 : RT N_64 Bt (j + 4) := RT.st ht_63 hM_N_64 kd_164 rfl
          have hp_110 : RT N_66 Bt (j + 4) := RT.st hp_109 hM_N_66 kd_164 rfl
          have hp_111 : RT N_68 Bt (j + 4) := RT.st hp_110 hM_N_68 kd_164 rfl
          have hp_112 : RT N_70 Bt (j + 4) := RT.st hp_111 hM_N_70 kd_164 rfl
          exact kx_zret F hQ (by omega) ⟨hI_N_70, hF_N_70, (Or.inl (by omega)), ⟨⟨(LO.sta (LO.sta (LO.sta (LO.sta (LO.ne (LO.fr (LO.ne (LO.fr (LO.rf M) hG_N_14 rfl) hx_N_19 (by omega)) hG_N_37 rfl) hx_N_50 (by omega)) hM_N_64 (by omega)) hM_N_66 (by omega)) hM_N_68 (by omega)) hM_N_70 (by omega)), (fun _ => (R4.auto hR hI_M (M 164 1091) (by omega) (fun j h0 hj => by rw [hM_N_70, mu_i (by omega), hM_N_68, mu_i (by omega), hM_N_66, mu_i (by omega), hM_N_64, mu_i (by omega), hx_N_50 _ (by omega), Fr.e hG_N_37 kd_164 _ rfl, hx_N_19 _ (by omega), Fr.e hG_N_14 kd_164 _ rfl]) (by omega)))⟩, ⟨(Or.inr (Or.inr (Or.inr (Or.inr (Or.inr (Or.inr (Or.inr (Or.inr (Or.inr (Or.inr (Or.inr ((by omega))))))))))))), (fun _ => ⟨by omega, by omega, hp_112, (BQ.cg (q' := uaut q (tv Bt (j + 1)) (tv Bt (j + 3))) hq (by omega) (by omega) (by omega) (by omega) (by rw [uaut_3 (by omega)]; omega) (uaut_o (by decide) (by omega)) (uaut_o (by decide) (by omega)) (uaut_o (by decide) (by omega)) (by rw [uaut_3 (by omega)]; omega)), (NR.cg (NR.st (NR.st (NR.st (NR.st (NR.fr (NR.fr (NR.fr (NR.fr hN hG_N_14 rfl) hG_N_19 rfl) hG_N_37 rfl) hG_N_50 rfl) hM_N_64 kd_164 rfl) hM_N_66 kd_164 rfl) hM_N_68 kd_164 rfl) hM_N_70 kd_164 rfl) (uaut_o (by decide) (by omega)) (uaut_o (by decide) (by omega)) (uaut_o (by decide) (by omega))), (BA.new hA (by omega) (by rw [show 85 * q 3 + 1188 = 85 * (M 164 1091) + 1188 by omega]; omega) (by rw [show 85 * q 3 + 1189 = 85 * (M 164 1091) + 1189 by omega]; omega) (by rw [show 85 * q 3 + 1190 = 85 * (M 164 1091) + 1190 by omega]; omega) (by rw [show 85 * q 3 + 1191 = 85 * (M 164 1091) + 1191 by omega]; omega) (by rw [show 85 * q 3 + 1192 = 85 * (M 164 1091) + 1192 by omega]; omega) (fun i h1 h2 => by rw [hM_N_70, mu_i (by omega), hM_N_68, mu_i (by omega), hM_N_66, mu_i (by omega), hM_N_64, mu_i (by omega), hx_N_50 _ (by omega), Fr.e hG_N_37 kd_164 _ rfl, hx_N_19 _ (by omega), Fr.e hG_N_14 kd_164 _ rfl]) hr)⟩)⟩⟩⟩ dX12_anAutomaton_108
        · refine kx_if_ne 66 F 68 dX12_anAutomaton_63 (by decide) rfl (by omega) (fun h_113 => (by exfalso; omega)) (fun h_113 => ?_)
          refine kx_iconst 67 F dX12_anAutomaton_66 rfl ?_
          exact kx_zret F hQ (by omega) ⟨hI_N_50, hF_N_50, (Or.inr (by omega)), ⟨⟨(LO.ne (LO.fr (LO.ne (LO.fr (LO.rf M) hG_N_14 rfl) hx_N_19 (by omega)) hG_N_37 rfl) hx_N_50 (by omega)), (fun h => absurd h (by omega))⟩, ⟨(Or.inr (Or.inr (Or.inr (Or.inr (Or.inr (Or.inr (Or.inr (Or.inl (by omega))))))))), (fun h => absurd h (by omega))⟩⟩⟩ dX12_anAutomaton_67
        · refine kx_if_ne 66 F 68 dX12_anAutomaton_63 (by decide) rfl (by omega) (fun h_114 => (by exfalso; omega)) (fun h_114 => ?_)
          refine kx_iconst 67 F dX12_anAutomaton_66 rfl ?_
          exact kx_zret F hQ (by omega) ⟨hI_N_50, hF_N_50, (Or.inr (by omega)), ⟨⟨(LO.ne (LO.fr (LO.ne (LO.fr (LO.rf M) hG_N_14 rfl) hx_N_19 (by omega)) hG_N_37 rfl) hx_N_50 (by omega)), (fun h => absurd h (by omega))⟩, ⟨(Or.inr (Or.inr (Or.inr (Or.inr (Or.inr (Or.inr (Or.inr (Or.inr (Or.inl (by omega)))))))))), (fun h => absurd h (by omega))⟩⟩⟩ dX12_anAutomaton_67
        · refine kx_if_ne 66 F 68 dX12_anAutomaton_63 (by decide) rfl (by omega) (fun h_115 => (by exfalso; omega)) (fun h_115 => ?_)
          refine kx_iconst 67 F dX12_anAutomaton_66 rfl ?_
          exact kx_zret F hQ (by omega) ⟨hI_N_50, hF_N_50, (Or.inr (by omega)), ⟨⟨(LO.ne (LO.fr (LO.ne (LO.fr (LO.rf M) hG_N_14 rfl) hx_N_19 (by omega)) hG_N_37 rfl) hx_N_50 (by omega)), (fun h => absurd h (by omega))⟩, ⟨(Or.inr (Or.inr (Or.inr (Or.inr (Or.inr (Or.inr (Or.inr (Or.inr (Or.inr (Or.inl (by omega))))))))))), (fun h => absurd h (by omega))⟩⟩⟩ dX12_anAutomaton_67
        · refine kx_if_ne 66 F 68 dX12_anAutomaton_63 (by decide) rfl (by omega) (fun h_116 => (by exfalso; omega)) (fun h_116 => ?_)
          refine kx_iconst 67 F dX12_anAutomaton_66 rfl ?_
          exact kx_zret F hQ (by omega) ⟨hI_N_50, hF_N_50, (Or.inr (by omega)), ⟨⟨(LO.ne (LO.fr (LO.ne (LO.fr (LO.rf M) hG_N_14 rfl) hx_N_19 (by omega)) hG_N_37 rfl) hx_N_50 (by omega)), (fun h => absurd h (by omega))⟩, ⟨(Or.inr (Or.inr (Or.inr (Or.inr (Or.inr (Or.inr (Or.inr (Or.inr (Or.inr (Or.inr (Or.inl (by omega)))))))))))), (fun h => absurd h (by omega))⟩⟩⟩ dX12_anAutomaton_67
      · refine kx_if_eq 54 F 66 dX12_anAutomaton_51 (by decide) rfl (by omega) (fun h_117 => ?_) (fun h_117 => (by exfalso; omega))
        refine kx_iconst 67 F dX12_anAutomaton_66 rfl ?_
        exact kx_zret F hQ (by omega) ⟨hI_N_37, hF_N_37, (Or.inr (by omega)), ⟨⟨(LO.fr (LO.ne (LO.fr (LO.rf M) hG_N_14 rfl) hx_N_19 (by omega)) hG_N_37 rfl), (fun h => absurd h (by omega))⟩, ⟨(Or.inr (Or.inr (Or.inr (Or.inr (Or.inr (Or.inl (by omega))))))), (fun h => absurd h (by omega))⟩⟩⟩ dX12_anAutomaton_67
      · refine kx_if_eq 54 F 66 dX12_anAutomaton_51 (by decide) rfl (by omega) (fun h_118 => ?_) (fun h_118 => (by exfalso; omega))
        refine kx_iconst 67 F dX12_anAutomaton_66 rfl ?_
        exact kx_zret F hQ (by omega) ⟨hI_N_37, hF_N_37, (Or.inr (by omega)), ⟨⟨(LO.fr (LO.ne (LO.fr (LO.rf M) hG_N_14 rfl) hx_N_19 (by omega)) hG_N_37 rfl), (fun h => absurd h (by omega))⟩, ⟨(Or.inr (Or.inr (Or.inr (Or.inr (Or.inr (Or.inr (Or.inl (by omega)))))))), (fun h => absurd h (by omega))⟩⟩⟩ dX12_anAutomaton_67
    · refine kx_if_eq 43 F 66 dX12_anAutomaton_40 (by decide) rfl (by omega) (fun h_119 => ?_) (fun h_119 => (by exfalso; omega))
      refine kx_iconst 67 F dX12_anAutomaton_66 rfl ?_
      exact kx_zret F hQ (by omega) ⟨hI_N_19, hF_N_19, (Or.inr (by omega)), ⟨⟨(LO.ne (LO.fr (LO.rf M) hG_N_14 rfl) hx_N_19 (by omega)), (fun h => absurd h (by omega))⟩, ⟨(Or.inr (Or.inl (by omega))), (fun h => absurd h (by omega))⟩⟩⟩ dX12_anAutomaton_67
    · refine kx_if_eq 43 F 66 dX12_anAutomaton_40 (by decide) rfl (by omega) (fun h_120 => ?_) (fun h_120 => (by exfalso; omega))
      refine kx_iconst 67 F dX12_anAutomaton_66 rfl ?_
      exact kx_zret F hQ (by omega) ⟨hI_N_19, hF_N_19, (Or.inr (by omega)), ⟨⟨(LO.ne (LO.fr (LO.rf M) hG_N_14 rfl) hx_N_19 (by omega)), (fun h => absurd h (by omega))⟩, ⟨(Or.inr (Or.inr (Or.inl (by omega)))), (fun h => absurd h (by omega))⟩⟩⟩ dX12_anAutomaton_67
    · refine kx_if_eq 43 F 66 dX12_anAutomaton_40 (by decide) rfl (by omega) (fun h_121 => ?_) (fun h_121 => (by exfalso; omega))
      refine kx_iconst 67 F dX12_anAutomaton_66 rfl ?_
      exact kx_zret F hQ (by omega) ⟨hI_N_19, hF_N_19, (Or.inr (by omega)), ⟨⟨(LO.ne (LO.fr (LO.rf M) hG_N_14 rfl) hx_N_19 (by omega)), (fun h => absurd h (by omega))⟩, ⟨(Or.inr (Or.inr (Or.inr (Or.inl (by omega))))), (fun h => absurd h (by omega))⟩⟩⟩ dX12_anAutomaton_67
    · refine kx_if_eq 43 F 66 dX12_anAutomaton_40 (by decide) rfl (by omega) (fun h_122 => ?_) (fun h_122 => (by exfalso; omega))
      refine kx_iconst 67 F dX12_anAutomaton_66 rfl ?_
      exact kx_zret F hQ (by omega) ⟨hI_N_19, hF_N_19, (Or.inr (by omega)), ⟨⟨(LO.ne (LO.fr (LO.rf M) hG_N_14 rfl) hx_N_19 (by omega)), (fun h => absurd h (by omega))⟩, ⟨(Or.inr (Or.inr (Or.inr (Or.inr (Or.inl (by omega)))))), (fun h => absurd h (by omega))⟩⟩⟩ dX12_anAutomaton_67
  · refine kx_aload_n 15 F 0 dX12_anAutomaton_14 rfl rfl rfl ?_
    refine kx_bipush 17 F dX12_anAutomaton_15 (by decide) rfl ?_
    refine kx_Vi 20 (ci := 0) F (As := [vI 6]) (st := []) vd_X12_205 (e_X12_fails G l M 6 hI_M (by omega) Bt hB j (by omega) hs) kd_163 rfl rfl rfl ⟨by decide, by decide⟩ rfl rfl (Nat.le_of_ble_eq_true rfl) dX12_anAutomaton_17 rfl ?_
    intro r_123 N_124 q_125
    obtain ⟨hI_N_124, hG_N_124, q_125c⟩ := q_125
    have hF_N_124 : Fr f_e_X12_anAutomaton M N_124 := Fr.c hF_M hG_N_124 rfl
    have h_126 := Inv.g hI_N_124 kd_163 rfl 18 (a := (-2147483648)) (b := 2147483647) rfl rfl
    have h_127 := Inv.g hI_N_124 kd_163 rfl 17 (a := (-2147483648)) (b := 2147483647) rfl rfl
    rcases q_125c with q_125c | q_125c
    · exfalso; omega
    · exact kx_zret F hQ (by omega) ⟨hI_N_124, hF_N_124, (Or.inr (by omega)), ⟨⟨(LO.fr (LO.rf M) hG_N_124 rfl), (fun h => absurd h (by omega))⟩, ⟨(Or.inl (by omega)), (fun h => absurd h (by omega))⟩⟩⟩ dX12_anAutomaton_20
