abbrev f_e_X12_states : List (Nat × Int) := [(64, 12), (64, 13), (64, 14), (64, 15), (64, 17), (64, 18), (65, -1)]
set_option maxHeartbeats 4000000 in
set_option maxRecDepth 100000 in
theorem e_X12_states (G : KG) (l : Launch) (M : Mem) (a1 : Int) (a2 : Int) (hI_M : Inv true M) (hpre : -2147483648 ≤ a1 ∧ a1 ≤ 2147483647 ∧ -2147483648 ≤ a2 ∧ a2 ≤ 2147483647 ∧ 0 ≤ a1 ∧ a1 ≤ 1359 ∧ 0 ≤ a2 ∧ a2 ≤ 1359 ∧ (atlo a1) ≥ 0 ∧ (athi a1) ≤ 3 ∧ (atlo a2) = 0 ∧ (athi a2) = 7 ∧ (M 163 18) = 0 ∧ (a2 = 1190 ∨ a2 = 1191 ∨ a2 = 1275 ∨ a2 = 1276)) (hR : R4 M) (Bt : Int → Int) (hB : TM M Bt) (j : Int) (hj : 0 ≤ j) (hs : RT M Bt j) (hw : tk Bt j = 1) (t q : Int → Int) (hN : NR M Bt t q) (hq : M 164 1088 = q 0 ∧ M 164 1089 = q 1 ∧ M 164 1090 = q 2 ∧ M 164 1091 = q 3 ∧ 0 ≤ q 0 ∧ q 0 ≤ 2 ∧ 0 ≤ q 1 ∧ q 1 ≤ 2 ∧ 0 ≤ q 2 ∧ q 2 ≤ 2 ∧ 0 ≤ q 3 ∧ q 3 ≤ 2 ∧ M 164 1092 = -1) (hA : BA M q) (hr : ∀ b, (b = 100 ∨ b = 185) → q (b + 4) ≤ 20 ∨ q 3 = 0) (b : Int) (hb : b = 15 + 85 * q 3 ∧ 1 ≤ q 3) (i : Int) (hi : i = 2 ∨ i = 3) (ha : a1 = b + 1088) (hc : a2 = b + i + 1088) : KC true G l yX12_states cX12_states 4 (some .boolean) (3, 65) [vR G 163, vI a1, vI a2] M (fun A => kQi true G A (fun (r : Int) (N : Mem) => Inv true N ∧ Fr f_e_X12_states M N ∧ ((r = 1 ∧ (N 163 18) = (M 163 18) ∧ (N 163 17) = (M 163 17)) ∨ (r = 0 ∧ (N 163 18) ≥ 1)) ∧ ((LO N M ∧ (r = 1 → R4 N)) ∧ (∃ e s, (r = 0 → SR Bt (q b) j (q (b + i)) e s 0 (N 163 18) (N 163 17)) ∧ (r = 1 → zSRm Bt (q b) j (q (b + i)) e s ∧ RT N Bt e ∧ BQ N (upk q (b + i) s) ∧ NR N Bt t (upk q (b + i) s) ∧ BA N (upk q (b + i) s)))))) := by
  refine kx_met (lo := [some (vR G 163), some (vI a1), some (vI a2), none]) (by decide) (Nat.le_of_ble_eq_true rfl) rfl ?_
  intro X F hQ
  have hF_M : Fr f_e_X12_states M M := Fr.rf _ _
  have h_1 := Inv.g hI_M kd_163 rfl 18 (a := (-2147483648)) (b := 2147483647) rfl rfl
  have hu_2 := hs.u.1
  have hu_3 := hs.u.2.1
  have ht_4 := tp_le (n := M 163 11) (TM.tx hB hI_M) (Inv.g hI_M kd_163 rfl 11 (a := 0) (b := 900) rfl rfl).1 (j := j) (by omega)
  have h_5 := Inv.g hI_M kd_163 rfl 11 (a := 0) (b := 900) rfl rfl
  have hb_6 : tbd Bt j = 0 := by have := tbd_c Bt j; omega
  have hBT := hA.bt hb (by omega)
  have hn0 : M 164 a1 = q b := by have h := hBT.n (d := 0) (y := a1) (by decide) (by omega); rw [Int.add_zero] at h; exact h
  have hn2 : M 164 a2 = q (b + i) := hBT.n (d := i) (y := a2) (by omega) (by omega)
  refine kx_sipush 3 F dX12_states_0 (by decide) rfl ?_
  refine kx_istore_n 4 F 3 (lo' := [some (vR G 163), some (vI a1), some (vI a2), some (vI 1358)]) dX12_states_3 rfl (by decide) rfl rfl rfl ?_
  refine kx_aload_n 5 F 0 dX12_states_4 rfl rfl rfl ?_
  have hu_7 := hs.2.1
  refine kx_Vv 8 (ci := 0) F (As := []) (st := []) vd_X12_199 (e_X12_ahead G l M  hI_M Bt hB (j + 1) j (by omega) (by omega) hu_7) kd_163 rfl rfl rfl ⟨by decide, by decide⟩ rfl rfl (Nat.le_of_ble_eq_true rfl) dX12_states_5 rfl ?_
  intro N_8 q_9
  obtain ⟨hI_N_8, hG_N_8, ht_N_8⟩ := q_9
  have hF_N_8 : Fr f_e_X12_states M N_8 := Fr.c hF_M hG_N_8 rfl
  have L_77 : ∀ (n_78 : Nat) (N_76 : Mem), Inv true N_76 → Fr f_e_X12_states M N_76 → LO N_76 M → R4 N_76 → zTR N_76 M Bt (q b) j (q (b + i)) a2 → (N_76 163 13) ≥ 0 ∧ (N_76 163 13) ≤ 900 ∧ (N_76 163 18) = (M 163 18) ∧ (N_76 163 17) = (M 163 17) → (900 - N_76 163 13).toNat = n_78 → KJ true G X N_76 8 [some (vR G 163), some (vI a1), some (vI a2), some (vI 1358)] [] := by
    intro n_78
    refine Nat.strongRecOn n_78 ?_
    intro n_78 ih_79  N_76 hI_N_76 hF_N_76 hp_82 hp_83 hp_84 h_80 hm_81
    obtain ⟨x, hx0, hxS, hxR, hxO⟩ := hp_84
    have hxa := hxR.u.1
    have hxb := hxR.u.2.1
    have hxe : N_76 164 a1 = M 164 a1 := hxO a1 (by omega) (by omega)
    refine kx_aload_n 9 F 0 dX12_states_8 rfl rfl rfl ?_
    refine kx_geti 12 F fl_X12_168 kd_163 rfl rfl (j := 12) rfl dX12_states_9 (v := (N_76 163 12)) rfl rfl ?_
    have h_85 := Inv.g hI_N_76 kd_163 rfl 12 (a := 0) (b := 4) rfl rfl
    refine kx_iconst 13 F dX12_states_12 rfl ?_
    refine kx_icmp_ne 16 F 98 dX12_states_13 (by decide) rfl (by omega) (by decide) (fun h_86 => ?_) (fun h_86 => ?_)
    · refine kx_iconst 99 F dX12_states_98 rfl ?_
      have h_87 := Inv.g hI_N_76 kd_163 rfl 18 (a := (-2147483648)) (b := 2147483647) rfl rfl
      have h_88 := Inv.g hI_N_76 kd_163 rfl 17 (a := (-2147483648)) (b := 2147483647) rfl rfl
      exact kx_zret F hQ (by omega) ⟨hI_N_76, hF_N_76, (Or.inl (by omega)), ⟨⟨hp_82, (fun _ => hp_83)⟩, ⟨(j + x + 1), (N_76 164 a2), fun h => absurd h (by omega), fun _ => ⟨zTR.m hx0 hxS (by have h := hxR.u; omega), hxR, (BQ.cg (q' := (upk q (b + i) (N_76 164 a2))) hq (hxO 1088 (by omega) (by decide)) (hxO 1089 (by omega) (by decide)) (hxO 1090 (by omega) (by decide)) (hxO 1092 (by omega) (by decide)) (by have h := hxO 1091 (by omega) (by decide); rw [upk_o (by omega)]; omega) (upk_o (by omega)) (upk_o (by omega)) (upk_o (by omega)) (by rw [upk_o (by omega)]; omega)), (NR.cg (NR.fr hN hF_N_76 rfl) (upk_o (by omega)) (upk_o (by omega)) (upk_o (by omega))), (BA.set hA hb (by omega) (BT.set hBT (by omega) (by rw [show b + i + 1088 = a2 by omega]) (fun k h1 h2 h3 => hxO k (by omega) (by omega)) (by have h := hr b (by omega); omega)) (fun k hk => upk_o (by omega)) (fun k h1 h2 => hxO k (by omega) (by omega)) hr)⟩⟩⟩⟩ dX12_states_99
    · have hd_89 : tk Bt (j + x + 1) = 2 ∧ tbd Bt (j + x + 1) = 0 ∧ N_76 163 15 = tv Bt (j + x + 1) ∧ 0 ≤ tv Bt (j + x + 1) := by have h := hxR.u; omega
      refine kx_aload_n 17 F 0 dX12_states_16 rfl rfl rfl ?_
      refine kx_geti 20 F fl_X12_165 kd_163 rfl rfl (j := 15) rfl dX12_states_17 (v := (N_76 163 15)) rfl rfl ?_
      have h_90 := Inv.g hI_N_76 kd_163 rfl 15 (a := (-2147483648)) (b := 2147483647) rfl rfl
      refine kx_if_lt 23 F 59 dX12_states_20 (by decide) rfl (by omega) (fun h_91 => (by exfalso; omega)) (fun h_91 => ?_)
      refine kx_aload_n 24 F 0 dX12_states_23 rfl rfl rfl ?_
      refine kx_geti 27 F fl_X12_165 kd_163 rfl rfl (j := 15) rfl dX12_states_24 (v := (N_76 163 15)) rfl rfl ?_
      refine kx_aload_n 28 F 0 dX12_states_27 rfl rfl rfl ?_
      refine kx_getr 31 F fl_X12_7 kd_163 rfl rfl (j := 0) rfl dX12_states_28 (v := 164) (uq_164 (Inv.r hI_N_76 kd_163 rfl 0 rfl rfl)) rfl ?_
      refine kx_iload_n 32 F 1 dX12_states_31 rfl rfl rfl ?_
      refine kx_iald 33 F kd_164 rfl rfl (by omega) (by decide) dX12_states_32 (v := (N_76 164 a1)) rfl rfl ?_
      have h_92 := Inv.g hI_N_76 kd_164 rfl a1 (a := atlo a1) (b := athi a1) rfl rfl
      have h_93 := at_w a1
      refine kx_icmp_ge 36 F 59 dX12_states_33 (by decide) rfl (by omega) (by omega) (fun h_94 => ?_) (fun h_94 => ?_)
      · refine kx_aload_n 60 F 0 dX12_states_59 rfl rfl rfl ?_
        refine kx_iload_n 61 F 3 dX12_states_60 rfl rfl rfl ?_
        refine kx_iconst 62 F dX12_states_61 rfl ?_
        refine kx_aload_n 63 F 0 dX12_states_62 rfl rfl rfl ?_
        refine kx_getr 66 F fl_X12_7 kd_163 rfl rfl (j := 0) rfl dX12_states_63 (v := 164) (uq_164 (Inv.r hI_N_76 kd_163 rfl 0 rfl rfl)) rfl ?_
        refine kx_iload_n 67 F 1 dX12_states_66 rfl rfl rfl ?_
        refine kx_iald 68 F kd_164 rfl rfl (by omega) (by decide) dX12_states_67 (v := (N_76 164 a1)) rfl rfl ?_
        refine kx_iconst 69 F dX12_states_68 rfl ?_
        refine kx_isub 70 F (v := (N_76 164 a1) - 1) dX12_states_69 rfl rfl ?_
        have ha_95 : atlo 1358 = (-2147483648) ∧ athi 1358 = 2147483647 := at_c 1358 4 (o := 270) (lo := (-2147483648)) (hi := 2147483647) (by omega) (by decide) (by decide) (by decide)
        have h_96 := Inv.g hI_N_76 kd_163 rfl 18 (a := (-2147483648)) (b := 2147483647) rfl rfl
        refine kx_Vi 73 (ci := 0) F (As := [vI 1358, vI 0, vI ((N_76 164 a1) - 1)]) (st := []) vd_X12_231 (e_X12_number G l N_76 1358 0 ((N_76 164 a1) - 1) hI_N_76 (by omega) Bt (TM.fr hB hF_N_76 rfl) (j + x + 1) (by omega) hxR) kd_163 rfl rfl rfl ⟨by decide, by decide⟩ rfl rfl (Nat.le_of_ble_eq_true rfl) dX12_states_70 rfl ?_
        intro r_97 N_98 q_99
        obtain ⟨hI_N_98, hG_N_98, q_99c, ⟨hr_N_98, hx_N_98⟩⟩ := q_99
        have hF_N_98 : Fr f_e_X12_states M N_98 := Fr.c hF_N_76 hG_N_98 rfl
        have h_100 := Inv.g hI_N_98 kd_163 rfl 18 (a := (-2147483648)) (b := 2147483647) rfl rfl
        have h_101 := Inv.g hI_N_76 kd_163 rfl 17 (a := (-2147483648)) (b := 2147483647) rfl rfl
        have h_102 := Inv.g hI_N_98 kd_163 rfl 17 (a := (-2147483648)) (b := 2147483647) rfl rfl
        rcases q_99c with q_99c | q_99c | q_99c | q_99c | q_99c
        · exfalso; omega
        · exfalso; omega
        · exfalso; omega
        · exfalso; omega
        · refine kx_if_ne 76 F 78 dX12_states_73 (by decide) rfl (by omega) (fun h_111 => (by exfalso; omega)) (fun h_111 => ?_)
          refine kx_iconst 77 F dX12_states_76 rfl ?_
          exact kx_zret F hQ (by omega) ⟨hI_N_98, hF_N_98, (Or.inr (by omega)), ⟨⟨(LO.ne hp_82 hx_N_98 (by omega)), (fun h => absurd h (by omega))⟩, ⟨(j + x + 1), (N_76 164 a2), fun _ => zTR.sr hx0 hxS (Or.inr (Or.inr (Or.inl ⟨by omega, by omega, by omega, by omega, by omega, by omega⟩))), fun h => absurd h (by omega)⟩⟩⟩ dX12_states_77
      · refine kx_aload_n 37 F 0 dX12_states_36 rfl rfl rfl ?_
        refine kx_aload_n 38 F 0 dX12_states_37 rfl rfl rfl ?_
        refine kx_getr 41 F fl_X12_7 kd_163 rfl rfl (j := 0) rfl dX12_states_38 (v := 164) (uq_164 (Inv.r hI_N_76 kd_163 rfl 0 rfl rfl)) rfl ?_
        refine kx_iload_n 42 F 2 dX12_states_41 rfl rfl rfl ?_
        refine kx_iald 43 F kd_164 rfl rfl (by omega) (by decide) dX12_states_42 (v := (N_76 164 a2)) rfl rfl ?_
        have h_112 := Inv.g hI_N_76 kd_164 rfl a2 (a := atlo a2) (b := athi a2) rfl rfl
        have h_113 := at_w a2
        refine kx_aload_n 44 F 0 dX12_states_43 rfl rfl rfl ?_
        refine kx_geti 47 F fl_X12_165 kd_163 rfl rfl (j := 15) rfl dX12_states_44 (v := (N_76 163 15)) rfl rfl ?_
        refine kx_Vi 50 (ci := 0) F (As := [vI (N_76 164 a2), vI (N_76 163 15)]) (st := []) vd_X12_239 (e_X12_isIn G l N_76 (N_76 164 a2) (N_76 163 15) hI_N_76 (by omega)) kd_163 rfl rfl rfl ⟨by decide, by decide⟩ rfl rfl (Nat.le_of_ble_eq_true rfl) dX12_states_47 rfl ?_
        intro r_114 N_115 q_116
        obtain ⟨rfl, q_116c⟩ := q_116
        rcases q_116c with q_116c | q_116c
        · refine kx_if_eq 53 F 59 dX12_states_50 (by decide) rfl (by omega) (fun h_117 => (by exfalso; omega)) (fun h_117 => ?_)
          refine kx_aload_n 54 F 0 dX12_states_53 rfl rfl rfl ?_
          refine kx_iconst 55 F dX12_states_54 rfl ?_
          have h_118 := Inv.g hI_N_76 kd_163 rfl 18 (a := (-2147483648)) (b := 2147483647) rfl rfl
          refine kx_Vi 58 (ci := 0) F (As := [vI 5]) (st := []) vd_X12_205 (e_X12_fails G l N_76 5 hI_N_76 (by omega) Bt (TM.fr hB hF_N_76 rfl) (j + x + 1) (by omega) hxR) kd_163 rfl rfl rfl ⟨by decide, by decide⟩ rfl rfl (Nat.le_of_ble_eq_true rfl) dX12_states_55 rfl ?_
          intro r_119 N_120 q_121
          obtain ⟨hI_N_120, hG_N_120, q_121c⟩ := q_121
          have hF_N_120 : Fr f_e_X12_states M N_120 := Fr.c hF_N_76 hG_N_120 rfl
          have h_122 := Inv.g hI_N_120 kd_163 rfl 18 (a := (-2147483648)) (b := 2147483647) rfl rfl
          have h_123 := Inv.g hI_N_120 kd_163 rfl 17 (a := (-2147483648)) (b := 2147483647) rfl rfl
          rcases q_121c with q_121c | q_121c
          · exfalso; omega
          · exact kx_zret F hQ (by omega) ⟨hI_N_120, hF_N_120, (Or.inr (by omega)), ⟨⟨(LO.fr hp_82 hG_N_120 rfl), (fun h => absurd h (by omega))⟩, ⟨(j + x + 1), (N_76 164 a2), fun _ => zTR.sr hx0 hxS (Or.inr (Or.inr (Or.inr (Or.inl ⟨by omega, by omega, by omega, by omega, by rw [← show (N_76 163 15) = tv Bt (j + x + 1) by omega]; omega, by omega, by omega⟩)))), fun h => absurd h (by omega)⟩⟩⟩ dX12_states_58
        · refine kx_if_eq 53 F 59 dX12_states_50 (by decide) rfl (by omega) (fun h_126 => ?_) (fun h_126 => (by exfalso; omega))
          refine kx_aload_n 60 F 0 dX12_states_59 rfl rfl rfl ?_
          refine kx_iload_n 61 F 3 dX12_states_60 rfl rfl rfl ?_
          refine kx_iconst 62 F dX12_states_61 rfl ?_
          refine kx_aload_n 63 F 0 dX12_states_62 rfl rfl rfl ?_
          refine kx_getr 66 F fl_X12_7 kd_163 rfl rfl (j := 0) rfl dX12_states_63 (v := 164) (uq_164 (Inv.r hI_N_76 kd_163 rfl 0 rfl rfl)) rfl ?_
          refine kx_iload_n 67 F 1 dX12_states_66 rfl rfl rfl ?_
          refine kx_iald 68 F kd_164 rfl rfl (by omega) (by decide) dX12_states_67 (v := (N_76 164 a1)) rfl rfl ?_
          refine kx_iconst 69 F dX12_states_68 rfl ?_
          refine kx_isub 70 F (v := (N_76 164 a1) - 1) dX12_states_69 rfl rfl ?_
          have ha_127 : atlo 1358 = (-2147483648) ∧ athi 1358 = 2147483647 := at_c 1358 4 (o := 270) (lo := (-2147483648)) (hi := 2147483647) (by omega) (by decide) (by decide) (by decide)
          have h_128 := Inv.g hI_N_76 kd_163 rfl 18 (a := (-2147483648)) (b := 2147483647) rfl rfl
          refine kx_Vi 73 (ci := 0) F (As := [vI 1358, vI 0, vI ((N_76 164 a1) - 1)]) (st := []) vd_X12_231 (e_X12_number G l N_76 1358 0 ((N_76 164 a1) - 1) hI_N_76 (by omega) Bt (TM.fr hB hF_N_76 rfl) (j + x + 1) (by omega) hxR) kd_163 rfl rfl rfl ⟨by decide, by decide⟩ rfl rfl (Nat.le_of_ble_eq_true rfl) dX12_states_70 rfl ?_
          intro r_129 N_130 q_131
          obtain ⟨hI_N_130, hG_N_130, q_131c, ⟨hr_N_130, hx_N_130⟩⟩ := q_131
          have hF_N_130 : Fr f_e_X12_states M N_130 := Fr.c hF_N_76 hG_N_130 rfl
          have h_132 := Inv.g hI_N_130 kd_163 rfl 18 (a := (-2147483648)) (b := 2147483647) rfl rfl
          have h_133 := Inv.g hI_N_76 kd_163 rfl 17 (a := (-2147483648)) (b := 2147483647) rfl rfl
          have h_134 := Inv.g hI_N_130 kd_163 rfl 17 (a := (-2147483648)) (b := 2147483647) rfl rfl
          rcases q_131c with q_131c | q_131c | q_131c | q_131c | q_131c
          · refine kx_if_ne 76 F 78 dX12_states_73 (by decide) rfl (by omega) (fun h_143 => ?_) (fun h_143 => (by exfalso; omega))
            have ht_144 : RT N_130 Bt (j + x + 2) := by have hh := hr_N_130 (by omega); first | exact hh | (rw [show (j + x + 2) = (j + x + 1) + 1 by omega]; exact hh)
            refine kx_aload_n 79 F 0 dX12_states_78 rfl rfl rfl ?_
            refine kx_getr 82 F fl_X12_7 kd_163 rfl rfl (j := 0) rfl dX12_states_79 (v := 164) (uq_164 (Inv.r hI_N_130 kd_163 rfl 0 rfl rfl)) rfl ?_
            refine kx_iload_n 83 F 2 dX12_states_82 rfl rfl rfl ?_
            refine kx_dup2 84 F dX12_states_83 rfl rfl rfl ?_
            refine kx_iald 85 F kd_164 rfl rfl (by omega) (by decide) dX12_states_84 (v := (N_76 164 a2)) (by rw [hx_N_130 _ (by omega)]) rfl ?_
            refine kx_iconst 86 F dX12_states_85 rfl ?_
            refine kx_aload_n 87 F 0 dX12_states_86 rfl rfl rfl ?_
            refine kx_getr 90 F fl_X12_7 kd_163 rfl rfl (j := 0) rfl dX12_states_87 (v := 164) (uq_164 (Inv.r hI_N_130 kd_163 rfl 0 rfl rfl)) rfl ?_
            refine kx_iload_n 91 F 3 dX12_states_90 rfl rfl rfl ?_
            refine kx_iald 92 F kd_164 rfl rfl (by omega) (by decide) dX12_states_91 (v := (N_130 164 1358)) rfl rfl ?_
            have h_145 := Inv.g hI_N_130 kd_164 rfl 1358 (a := (-2147483648)) (b := 2147483647) ha_127.1 ha_127.2
            refine kx_ishl 93 F (v := (zshl 1 (N_130 164 1358))) dX12_states_92 rfl rfl ?_
            have h_146 := zshl_1 (b := (N_130 164 1358)) 2 (by decide) (by omega)
            refine kx_ior 94 F (v := (zor (N_76 164 a2) (zshl 1 (N_130 164 1358)))) dX12_states_93 rfl rfl ?_
            have h_147 : 0 ≤ (zor (N_76 164 a2) (zshl 1 (N_130 164 1358))) ∧ (zor (N_76 164 a2) (zshl 1 (N_130 164 1358))) < 8 := zor_lt (a := (N_76 164 a2)) (b := (zshl 1 (N_130 164 1358))) 3 (by decide) (by omega) (by omega)
            refine kx_iast 95 F kd_164 rfl rfl (by omega) (by decide) dX12_states_94 rfl ?_
            intro N_148 hM_N_148
            have h_149 := at_0 a2
            have h_150 := at_q a2 a2 (by omega)
            have hI_N_148 : Inv true N_148 := Inv.u hI_N_130 hM_N_148 kd_164 (a := atlo a2) (b := athi a2) rfl rfl rfl (by omega)
            have hF_N_148 : Fr f_e_X12_states M N_148 := Fr.u hF_N_130 hM_N_148 kd_164 rfl
            refine kx_goto 8 F dX12_states_95 (by decide) ?_
            have hst : N_148 164 a2 = (zor (N_76 164 a2) (zshl 1 (N_130 164 1358))) := by rw [hM_N_148, mu_s]
            have htx := tp_up (TM.tx hB hI_M) (Inv.g hI_M kd_163 rfl 11 (a := 0) (b := 900) rfl rfl).1 (j := j + x + 1) (i := j + x + 2) (by omega) (by omega) (Or.inr (by omega))
            have hp_151 : RT N_148 Bt (j + x + 2) := RT.st ht_144 hM_N_148 kd_164 rfl
            have hty := (hp_151).u.1
            have e_152 : (N_148 163 13) = (N_130 163 13) := by rw [hM_N_148, mu_k kd_163 kd_164 rfl]
            have h_153 := Inv.g hI_N_130 kd_163 rfl 13 (a := 0) (b := 900) rfl rfl
            have e_155 : (N_148 163 18) = (N_130 163 18) := by rw [hM_N_148, mu_k kd_163 kd_164 rfl]
            have e_156 : (N_148 163 17) = (N_130 163 17) := by rw [hM_N_148, mu_k kd_163 kd_164 rfl]
            exact ih_79 _ (by omega) N_148 hI_N_148 hF_N_148 (LO.sta (LO.ne hp_82 hx_N_130 (by omega)) hM_N_148 (by omega)) (R4.sta (R4.ne hp_83 hI_N_76 hx_N_130 (by omega)) hI_N_130 hM_N_148 (by omega)) (zTR.next (N := N_76) (v := (N_130 164 1358)) hx0 hxS ⟨by omega, by omega, by omega, by rw [← show (N_76 163 15) = tv Bt (j + x + 1) by omega]; omega⟩ hst (by omega) hp_151 (fun k h1 h2 => by rw [hM_N_148, mu_i (by omega), hx_N_130 _ (by omega)]; exact hxO k h1 h2)) (by omega) rfl
          · exfalso; omega
          · exfalso; omega
          · exfalso; omega
          · exfalso; omega
  have h_157 := Inv.g hI_N_8 kd_163 rfl 13 (a := 0) (b := 900) rfl rfl
  have e_158 : (N_8 163 18) = (M 163 18) := by rw [Fr.e hG_N_8 kd_163 _ rfl]
  have e_159 : (N_8 163 17) = (M 163 17) := by rw [Fr.e hG_N_8 kd_163 _ rfl]
  have h_160 := Inv.g hI_M kd_163 rfl 17 (a := (-2147483648)) (b := 2147483647) rfl rfl
  exact L_77 _ N_8 hI_N_8 hF_N_8 (LO.fr (LO.rf M) hG_N_8 rfl) (R4.fr hR hG_N_8 rfl) (zTR.ini (by rw [Fr.e hG_N_8 kd_164 _ rfl]; omega) ht_N_8 (fun i => by rw [Fr.e hG_N_8 kd_164 _ rfl])) (by omega) rfl
