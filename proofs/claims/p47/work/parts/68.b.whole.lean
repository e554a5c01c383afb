abbrev f_e_X12_checkerPart : List (Nat × Int) := [(64, 12), (64, 13), (64, 14), (64, 15), (64, 17), (64, 18), (65, -1), (66, -1)]
set_option maxHeartbeats 4000000 in
set_option maxRecDepth 100000 in
theorem e_X12_checkerPart (G : KG) (l : Launch) (M : Mem) (hI_M : Inv true M) (hpre : (M 163 18) = 0) (hR : R4 M) (Bt : Int → Int) (hB : TM M Bt) (j : Int) (hj : 0 ≤ j) (hs : RT M Bt j) (hn : ¬ tk Bt j = 0) (t q : Int → Int) (hN : NR M Bt t q) (hq : M 164 1088 = q 0 ∧ M 164 1089 = q 1 ∧ M 164 1090 = q 2 ∧ M 164 1091 = q 3 ∧ 0 ≤ q 0 ∧ q 0 ≤ 2 ∧ 0 ≤ q 1 ∧ q 1 ≤ 2 ∧ 0 ≤ q 2 ∧ q 2 ≤ 2 ∧ 0 ≤ q 3 ∧ q 3 ≤ 2 ∧ M 164 1092 = -1) (hA : BA M q) (hr : ∀ b, (b = 100 ∨ b = 185) → q (b + 4) ≤ 20 ∨ q 3 = 0) : KC true G l yX12_checkerPart cX12_checkerPart 3 (some .boolean) (7, 159) [vR G 163] M (fun A => kQi true G A (fun (r : Int) (N : Mem) => Inv true N ∧ Fr f_e_X12_checkerPart M N ∧ ((r = 1 ∧ (N 163 18) = (M 163 18) ∧ (N 163 17) = (M 163 17)) ∨ (r = 0 ∧ (N 163 18) ≥ 1)) ∧ ((LO N M ∧ (r = 1 → R4 N)) ∧ (∃ e q2 t2, (r = 0 → zTm Bt t q j (N 163 18) (N 163 17)) ∧ (r = 1 → zPS Bt t q j 1 (N 163 18) (N 163 17) e q2 t2 ∧ RT N Bt (e + 1) ∧ BQ N q2 ∧ NR N Bt t2 q2 ∧ BA N q2))))) := by
  refine kx_met (lo := [some (vR G 163), none, none]) (by decide) (Nat.le_of_ble_eq_true rfl) rfl ?_
  intro X F hQ
  have hF_M : Fr f_e_X12_checkerPart M M := Fr.rf _ _
  have h_1 := Inv.g hI_M kd_163 rfl 18 (a := (-2147483648)) (b := 2147483647) rfl rfl
  have hu_2 := hs.u.1
  have hu_3 := hs.u.2.1
  have ht_4 := tp_le (n := M 163 11) (TM.tx hB hI_M) (Inv.g hI_M kd_163 rfl 11 (a := 0) (b := 900) rfl rfl).1 (j := j) (by omega)
  have h_5 := Inv.g hI_M kd_163 rfl 11 (a := 0) (b := 900) rfl rfl
  have hd_6 := kwd_r Bt j
  have hb_7 : 0 ≤ tbd Bt j ∧ tbd Bt j ≤ 1 := by have := tbd_c Bt j; omega
  refine kx_aload_n 1 F 0 dX12_checkerPart_0 rfl rfl rfl ?_
  refine kx_ldcS 3 F 11 (by decide) rfl rfl dX12_checkerPart_1 rfl ?_
  refine kx_Vi 6 (ci := 0) F (As := [vT G 11]) (st := []) vd_X12_208 (e_X12_inWords G l M  hI_M Bt hB j (by omega) hs) kd_163 rfl rfl rfl ⟨by decide, by decide⟩ rfl rfl (Nat.le_of_ble_eq_true rfl) dX12_checkerPart_3 rfl ?_
  intro r_8 N_9 q_10
  obtain ⟨rfl, q_10c⟩ := q_10
  refine kx_topi (e' := (kwd Bt j)) (by omega) ?_
  refine kx_istore_n 7 F 1 (lo' := [some (vR G 163), some (vI (kwd Bt j)), none]) dX12_checkerPart_6 rfl (by decide) rfl rfl rfl ?_
  refine kx_aload_n 8 F 0 dX12_checkerPart_7 rfl rfl rfl ?_
  refine kx_getr 11 F fl_X12_7 kd_163 rfl rfl (j := 0) rfl dX12_checkerPart_8 (v := 164) (uq_164 (Inv.r hI_M kd_163 rfl 0 rfl rfl)) rfl ?_
  refine kx_sipush 14 F dX12_checkerPart_11 (by decide) rfl ?_
  refine kx_iald 15 F kd_164 rfl rfl (by omega) (by decide) dX12_checkerPart_14 (v := (M 164 1091)) rfl rfl ?_
  have ha_11 : atlo 1091 = 0 ∧ athi 1091 = 2 := at_c 1091 4 (o := 3) (lo := 0) (hi := 2) (by omega) (by decide) (by decide) (by decide)
  have h_12 := Inv.g hI_M kd_164 rfl 1091 (a := 0) (b := 2) ha_11.1 ha_11.2
  refine kx_iconst 16 F dX12_checkerPart_15 rfl ?_
  refine kx_isub 17 F (v := (M 164 1091) - 1) dX12_checkerPart_16 rfl rfl ?_
  refine kx_istore_n 18 F 2 (lo' := [some (vR G 163), some (vI (kwd Bt j)), some (vI ((M 164 1091) - 1))]) dX12_checkerPart_17 rfl (by decide) rfl rfl rfl ?_
  refine kx_iload_n 19 F 1 dX12_checkerPart_18 rfl rfl rfl ?_
  refine kx_if_lt 22 F 38 dX12_checkerPart_19 (by decide) rfl (by omega) (fun h_13 => ?_) (fun h_13 => ?_)
  · refine kx_aload_n 39 F 0 dX12_checkerPart_38 rfl rfl rfl ?_
    refine kx_iconst 40 F dX12_checkerPart_39 rfl ?_
    refine kx_Vi 43 (ci := 0) F (As := [vI 2]) (st := []) vd_X12_205 (e_X12_fails G l M 2 hI_M (by omega) Bt hB j (by omega) hs) kd_163 rfl rfl rfl ⟨by decide, by decide⟩ rfl rfl (Nat.le_of_ble_eq_true rfl) dX12_checkerPart_40 rfl ?_
    intro r_14 N_15 q_16
    obtain ⟨hI_N_15, hG_N_15, q_16c⟩ := q_16
    have hF_N_15 : Fr f_e_X12_checkerPart M N_15 := Fr.c hF_M hG_N_15 rfl
    have h_17 := Inv.g hI_N_15 kd_163 rfl 18 (a := (-2147483648)) (b := 2147483647) rfl rfl
    have h_18 := Inv.g hI_N_15 kd_163 rfl 17 (a := (-2147483648)) (b := 2147483647) rfl rfl
    rcases q_16c with q_16c | q_16c
    · exact kx_zret F hQ (by omega) ⟨hI_N_15, hF_N_15, (Or.inr (by omega)), ⟨⟨(LO.fr (LO.rf M) hG_N_15 rfl), (fun h => absurd h (by omega))⟩, ⟨0, q, t, fun _ => (Or.inl ⟨by omega, by omega, by omega⟩), fun h => absurd h (by omega)⟩⟩⟩ dX12_checkerPart_43
    · exact kx_zret F hQ (by omega) ⟨hI_N_15, hF_N_15, (Or.inr (by omega)), ⟨⟨(LO.fr (LO.rf M) hG_N_15 rfl), (fun h => absurd h (by omega))⟩, ⟨0, q, t, fun _ => (Or.inr (Or.inl ⟨by omega, hn, 0, q, t, zPS.n (by omega) rfl (by omega) (by omega)⟩)), fun h => absurd h (by omega)⟩⟩⟩ dX12_checkerPart_43
  · refine kx_iload_n 23 F 1 dX12_checkerPart_22 rfl rfl rfl ?_
    refine kx_bipush 25 F dX12_checkerPart_23 (by decide) rfl ?_
    refine kx_icmp_gt 28 F 38 dX12_checkerPart_25 (by decide) rfl (by omega) (by decide) (fun h_21 => ?_) (fun h_21 => ?_)
    · refine kx_aload_n 39 F 0 dX12_checkerPart_38 rfl rfl rfl ?_
      refine kx_iconst 40 F dX12_checkerPart_39 rfl ?_
      refine kx_Vi 43 (ci := 0) F (As := [vI 2]) (st := []) vd_X12_205 (e_X12_fails G l M 2 hI_M (by omega) Bt hB j (by omega) hs) kd_163 rfl rfl rfl ⟨by decide, by decide⟩ rfl rfl (Nat.le_of_ble_eq_true rfl) dX12_checkerPart_40 rfl ?_
      intro r_22 N_23 q_24
      obtain ⟨hI_N_23, hG_N_23, q_24c⟩ := q_24
      have hF_N_23 : Fr f_e_X12_checkerPart M N_23 := Fr.c hF_M hG_N_23 rfl
      have h_25 := Inv.g hI_N_23 kd_163 rfl 18 (a := (-2147483648)) (b := 2147483647) rfl rfl
      have h_26 := Inv.g hI_N_23 kd_163 rfl 17 (a := (-2147483648)) (b := 2147483647) rfl rfl
      rcases q_24c with q_24c | q_24c
      · exact kx_zret F hQ (by omega) ⟨hI_N_23, hF_N_23, (Or.inr (by omega)), ⟨⟨(LO.fr (LO.rf M) hG_N_23 rfl), (fun h => absurd h (by omega))⟩, ⟨0, q, t, fun _ => (Or.inl ⟨by omega, by omega, by omega⟩), fun h => absurd h (by omega)⟩⟩⟩ dX12_checkerPart_43
      · exact kx_zret F hQ (by omega) ⟨hI_N_23, hF_N_23, (Or.inr (by omega)), ⟨⟨(LO.fr (LO.rf M) hG_N_23 rfl), (fun h => absurd h (by omega))⟩, ⟨0, q, t, fun _ => (Or.inr (Or.inl ⟨by omega, hn, 0, q, t, zPS.n (by omega) rfl (by omega) (by omega)⟩)), fun h => absurd h (by omega)⟩⟩⟩ dX12_checkerPart_43
    · refine kx_iload_n 29 F 1 dX12_checkerPart_28 rfl rfl rfl ?_
      refine kx_iconst 30 F dX12_checkerPart_29 rfl ?_
      refine kx_icmp_le 33 F 44 dX12_checkerPart_30 (by decide) rfl (by omega) (by decide) (fun h_29 => ?_) (fun h_29 => ?_)
      · refine kx_iload_n 45 F 1 dX12_checkerPart_44 rfl rfl rfl ?_
        have h_30 : (kwd Bt j) = 3 ∨ (kwd Bt j) = 4 ∨ (kwd Bt j) = 5 ∨ (kwd Bt j) = 6 ∨ ((kwd Bt j) < 3 ∨ 6 < (kwd Bt j)) := by omega
        rcases h_30 with h_30 | h_30 | h_30 | h_30 | h_30
        · rw [show vI (kwd Bt j) = vI 3 by rw [h_30]]
          refine kx_tableIn 76 F (by decide) dX12_checkerPart_45 (by decide) rfl (by decide) ?_
          have hd_31 : tk Bt j = 1 := kwd_t (by omega)
          have hd_32 : tbd Bt j = 0 := kwd_b (by omega)
          refine kx_aload_n 77 F 0 dX12_checkerPart_76 rfl rfl rfl ?_
          refine kx_Vi 80 (ci := 0) F (As := []) (st := []) vd_X12_257 (e_X12_anAutomaton G l M  hI_M (by omega) hR Bt hB j (by omega) hs (by omega) t q hN (by omega) hA hr) kd_163 rfl rfl rfl ⟨by decide, by decide⟩ rfl rfl (Nat.le_of_ble_eq_true rfl) dX12_checkerPart_77 rfl ?_
          intro r_33 N_34 q_35
          obtain ⟨hI_N_34, hG_N_34, q_35c, ⟨hl_N_34, ⟨hp_N_34, hb_N_34⟩⟩⟩ := q_35
          have hF_N_34 : Fr f_e_X12_checkerPart M N_34 := Fr.c hF_M hG_N_34 rfl
          have h_36 := Inv.g hI_N_34 kd_163 rfl 18 (a := (-2147483648)) (b := 2147483647) rfl rfl
          have h_37 := Inv.g hI_M kd_163 rfl 17 (a := (-2147483648)) (b := 2147483647) rfl rfl
          have h_38 := Inv.g hI_N_34 kd_163 rfl 17 (a := (-2147483648)) (b := 2147483647) rfl rfl
          rcases q_35c with q_35c | q_35c
          · refine kx_if_eq 83 F 96 dX12_checkerPart_80 (by decide) rfl (by omega) (fun h_40 => (by exfalso; omega)) (fun h_40 => ?_)
            have hh := hb_N_34 (by omega)
            refine kx_aload_n 84 F 0 dX12_checkerPart_83 rfl rfl rfl ?_
            refine kx_bipush 86 F dX12_checkerPart_84 (by decide) rfl ?_
            refine kx_Vi 89 (ci := 0) F (As := [vI 59]) (st := []) vd_X12_261 (e_X12_wantSign G l N_34 59 hI_N_34 (by omega) Bt (TM.fr hB hF_N_34 rfl) (j + 4) (by omega) hh.2.2.1) kd_163 rfl rfl rfl ⟨by decide, by decide⟩ rfl rfl (Nat.le_of_ble_eq_true rfl) dX12_checkerPart_86 rfl ?_
            intro r_41 N_42 q_43
            obtain ⟨hI_N_42, hG_N_42, q_43c, hr_N_42⟩ := q_43
            have hF_N_42 : Fr f_e_X12_checkerPart M N_42 := Fr.c hF_N_34 hG_N_42 rfl
            have h_44 := Inv.g hI_N_42 kd_163 rfl 18 (a := (-2147483648)) (b := 2147483647) rfl rfl
            have h_45 := Inv.g hI_N_42 kd_163 rfl 17 (a := (-2147483648)) (b := 2147483647) rfl rfl
            rcases q_43c with q_43c | q_43c | q_43c
            · refine kx_if_eq 92 F 96 dX12_checkerPart_89 (by decide) rfl (by omega) (fun h_50 => (by exfalso; omega)) (fun h_50 => ?_)
              refine kx_iconst 93 F dX12_checkerPart_92 rfl ?_
              refine kx_goto 97 F dX12_checkerPart_93 (by decide) ?_
              exact kx_zret F hQ (by omega) ⟨hI_N_42, hF_N_42, (Or.inl (by omega)), ⟨⟨(LO.fr (LO.trans (LO.rf M) hl_N_34.1) hG_N_42 rfl), (fun _ => (R4.fr (hl_N_34.2 (by omega)) hG_N_42 rfl))⟩, ⟨(j + 4), (uaut q (tv Bt (j + 1)) (tv Bt (j + 3))), t, fun h => absurd h (by omega), fun _ => ⟨zPS.A (by omega) (zAR.e hp_N_34 (by omega) (Or.inr (Or.inr (Or.inr ((by omega)))))), hr_N_42 (by omega), BQ.fr hh.2.2.2.1 hG_N_42 rfl, NR.fr hh.2.2.2.2.1 hG_N_42 rfl, BA.fr hh.2.2.2.2.2 hG_N_42 rfl⟩⟩⟩⟩ dX12_checkerPart_97
            · refine kx_if_eq 92 F 96 dX12_checkerPart_89 (by decide) rfl (by omega) (fun h_51 => ?_) (fun h_51 => (by exfalso; omega))
              refine kx_iconst 97 F dX12_checkerPart_96 rfl ?_
              exact kx_zret F hQ (by omega) ⟨hI_N_42, hF_N_42, (Or.inr (by omega)), ⟨⟨(LO.fr (LO.trans (LO.rf M) hl_N_34.1) hG_N_42 rfl), (fun h => absurd h (by omega))⟩, ⟨0, q, t, fun _ => Or.inr (Or.inl ⟨by omega, hn, _, _, _, zPS.A (by omega) (zAR.e hp_N_34 (by omega) (Or.inl (by omega)))⟩), fun h => absurd h (by omega)⟩⟩⟩ dX12_checkerPart_97
            · refine kx_if_eq 92 F 96 dX12_checkerPart_89 (by decide) rfl (by omega) (fun h_52 => ?_) (fun h_52 => (by exfalso; omega))
              refine kx_iconst 97 F dX12_checkerPart_96 rfl ?_
              exact kx_zret F hQ (by omega) ⟨hI_N_42, hF_N_42, (Or.inr (by omega)), ⟨⟨(LO.fr (LO.trans (LO.rf M) hl_N_34.1) hG_N_42 rfl), (fun h => absurd h (by omega))⟩, ⟨0, q, t, fun _ => Or.inr (Or.inl ⟨by omega, hn, _, _, _, zPS.A (by omega) (zAR.e hp_N_34 (by omega) (Or.inr (Or.inl (by omega))))⟩), fun h => absurd h (by omega)⟩⟩⟩ dX12_checkerPart_97
          · refine kx_if_eq 83 F 96 dX12_checkerPart_80 (by decide) rfl (by omega) (fun h_53 => ?_) (fun h_53 => (by exfalso; omega))
            refine kx_iconst 97 F dX12_checkerPart_96 rfl ?_
            exact kx_zret F hQ (by omega) ⟨hI_N_34, hF_N_34, (Or.inr (by omega)), ⟨⟨(LO.trans (LO.rf M) hl_N_34.1), (fun h => absurd h (by omega))⟩, ⟨0, q, t, fun _ => Or.inr (Or.inl ⟨by omega, hn, _, _, _, zPS.A (by omega) (zAR.f hp_N_34 (by omega))⟩), fun h => absurd h (by omega)⟩⟩⟩ dX12_checkerPart_97
        · exfalso; omega
        · exfalso; omega
        · exfalso; omega
        · refine kx_tableOut 197 F (by omega) dX12_checkerPart_45 h_30 (by decide) ?_
          have hd_55 : tk Bt j = 1 := kwd_t (by omega)
          have hd_56 : tbd Bt j = 0 := kwd_b (by omega)
          refine kx_aload_n 198 F 0 dX12_checkerPart_197 rfl rfl rfl ?_
          refine kx_iload_n 199 F 1 dX12_checkerPart_198 rfl rfl rfl ?_
          refine kx_Vi 202 (ci := 0) F (As := [vI (kwd Bt j)]) (st := []) vd_X12_270 (e_X12_aLetter G l M (kwd Bt j) hI_M (by omega) hR Bt hB j (by omega) hs (by omega) t q hN (by omega)) kd_163 rfl rfl rfl ⟨by decide, by decide⟩ rfl rfl (Nat.le_of_ble_eq_true rfl) dX12_checkerPart_199 rfl ?_
          intro r_57 N_58 q_59
          obtain ⟨hI_N_58, hG_N_58, q_59c, ⟨hl_N_58, ⟨hp_N_58, hb_N_58⟩⟩⟩ := q_59
          have hF_N_58 : Fr f_e_X12_checkerPart M N_58 := Fr.c hF_M hG_N_58 rfl
          have h_60 := Inv.g hI_N_58 kd_163 rfl 18 (a := (-2147483648)) (b := 2147483647) rfl rfl
          have h_61 := Inv.g hI_M kd_163 rfl 17 (a := (-2147483648)) (b := 2147483647) rfl rfl
          have h_62 := Inv.g hI_N_58 kd_163 rfl 17 (a := (-2147483648)) (b := 2147483647) rfl rfl
          rcases q_59c with q_59c | q_59c
          · refine kx_if_eq 205 F 218 dX12_checkerPart_202 (by decide) rfl (by omega) (fun h_64 => (by exfalso; omega)) (fun h_64 => ?_)
            have hh := hb_N_58 (by omega)
            refine kx_aload_n 206 F 0 dX12_checkerPart_205 rfl rfl rfl ?_
            refine kx_bipush 208 F dX12_checkerPart_206 (by decide) rfl ?_
            refine kx_Vi 211 (ci := 0) F (As := [vI 59]) (st := []) vd_X12_261 (e_X12_wantSign G l N_58 59 hI_N_58 (by omega) Bt (TM.fr hB hF_N_58 rfl) (j + 2) (by omega) hh.2.2.1) kd_163 rfl rfl rfl ⟨by decide, by decide⟩ rfl rfl (Nat.le_of_ble_eq_true rfl) dX12_checkerPart_208 rfl ?_
            intro r_65 N_66 q_67
            obtain ⟨hI_N_66, hG_N_66, q_67c, hr_N_66⟩ := q_67
            have hF_N_66 : Fr f_e_X12_checkerPart M N_66 := Fr.c hF_N_58 hG_N_66 rfl
            have h_68 := Inv.g hI_N_66 kd_163 rfl 18 (a := (-2147483648)) (b := 2147483647) rfl rfl
            have h_69 := Inv.g hI_N_66 kd_163 rfl 17 (a := (-2147483648)) (b := 2147483647) rfl rfl
            rcases q_67c with q_67c | q_67c | q_67c
            · refine kx_if_eq 214 F 218 dX12_checkerPart_211 (by decide) rfl (by omega) (fun h_74 => (by exfalso; omega)) (fun h_74 => ?_)
              refine kx_iconst 215 F dX12_checkerPart_214 rfl ?_
              refine kx_goto 219 F dX12_checkerPart_215 (by decide) ?_
              exact kx_zret F hQ (by omega) ⟨hI_N_66, hF_N_66, (Or.inl (by omega)), ⟨⟨(LO.fr (LO.trans (LO.rf M) hl_N_58.1) hG_N_66 rfl), (fun _ => (R4.fr (hl_N_58.2 (by omega)) hG_N_66 rfl))⟩, ⟨(j + 2), (upk q (kwd Bt j) (q (kwd Bt j) + 1)), (upk t (2 * (kwd Bt j) + q (kwd Bt j)) (j + 1)), fun h => absurd h (by omega), fun _ => ⟨zPS.L rfl (zLR.e hp_N_58 (by omega) (Or.inr (Or.inr (Or.inr ((by omega)))))) (by omega), hr_N_66 (by omega), BQ.fr hh.2.2.2.1 hG_N_66 rfl, NR.fr hh.2.2.2.2.1 hG_N_66 rfl, BA.fr hh.2.2.2.2.2 hG_N_66 rfl⟩⟩⟩⟩ dX12_checkerPart_219
            · refine kx_if_eq 214 F 218 dX12_checkerPart_211 (by decide) rfl (by omega) (fun h_75 => ?_) (fun h_75 => (by exfalso; omega))
              refine kx_iconst 219 F dX12_checkerPart_218 rfl ?_
              exact kx_zret F hQ (by omega) ⟨hI_N_66, hF_N_66, (Or.inr (by omega)), ⟨⟨(LO.fr (LO.trans (LO.rf M) hl_N_58.1) hG_N_66 rfl), (fun h => absurd h (by omega))⟩, ⟨0, q, t, fun _ => Or.inr (Or.inl ⟨by omega, hn, _, _, _, zPS.L rfl (zLR.e hp_N_58 (by omega) (Or.inl (by omega))) (by omega)⟩), fun h => absurd h (by omega)⟩⟩⟩ dX12_checkerPart_219
            · refine kx_if_eq 214 F 218 dX12_checkerPart_211 (by decide) rfl (by omega) (fun h_76 => ?_) (fun h_76 => (by exfalso; omega))
              refine kx_iconst 219 F dX12_checkerPart_218 rfl ?_
              exact kx_zret F hQ (by omega) ⟨hI_N_66, hF_N_66, (Or.inr (by omega)), ⟨⟨(LO.fr (LO.trans (LO.rf M) hl_N_58.1) hG_N_66 rfl), (fun h => absurd h (by omega))⟩, ⟨0, q, t, fun _ => Or.inr (Or.inl ⟨by omega, hn, _, _, _, zPS.L rfl (zLR.e hp_N_58 (by omega) (Or.inr (Or.inl (by omega)))) (by omega)⟩), fun h => absurd h (by omega)⟩⟩⟩ dX12_checkerPart_219
          · refine kx_if_eq 205 F 218 dX12_checkerPart_202 (by decide) rfl (by omega) (fun h_77 => ?_) (fun h_77 => (by exfalso; omega))
            refine kx_iconst 219 F dX12_checkerPart_218 rfl ?_
            exact kx_zret F hQ (by omega) ⟨hI_N_58, hF_N_58, (Or.inr (by omega)), ⟨⟨(LO.trans (LO.rf M) hl_N_58.1), (fun h => absurd h (by omega))⟩, ⟨0, q, t, fun _ => Or.inr (Or.inl ⟨by omega, hn, _, _, _, zPS.L rfl (zLR.f hp_N_58 (by omega)) (by omega)⟩), fun h => absurd h (by omega)⟩⟩⟩ dX12_checkerPart_219
      · refine kx_iload_n 34 F 2 dX12_checkerPart_33 rfl rfl rfl ?_
        refine kx_iconst 35 F dX12_checkerPart_34 rfl ?_
        refine kx_icmp_ne 38 F 44 dX12_checkerPart_35 (by decide) rfl (by omega) (by decide) (fun h_79 => ?_) (fun h_79 => ?_)
        · refine kx_iload_n 45 F 1 dX12_checkerPart_44 rfl rfl rfl ?_
          have h_80 : (kwd Bt j) = 3 ∨ (kwd Bt j) = 4 ∨ (kwd Bt j) = 5 ∨ (kwd Bt j) = 6 ∨ ((kwd Bt j) < 3 ∨ 6 < (kwd Bt j)) := by omega
          rcases h_80 with h_80 | h_80 | h_80 | h_80 | h_80
          · exfalso; omega
          · rw [show vI (kwd Bt j) = vI 4 by rw [h_80]]
            refine kx_tableIn 98 F (by decide) dX12_checkerPart_45 (by decide) rfl (by decide) ?_
            have hd_81 : tk Bt j = 1 := kwd_t (by omega)
            have hd_82 : tbd Bt j = 0 := kwd_b (by omega)
            refine kx_aload_n 99 F 0 dX12_checkerPart_98 rfl rfl rfl ?_
            refine kx_sipush 102 F dX12_checkerPart_99 (by decide) rfl ?_
            refine kx_iload_n 103 F 2 dX12_checkerPart_102 rfl rfl rfl ?_
            refine kx_Si 106 F (As := [vI 1088, vI ((M 164 1091) - 1)]) (st := [vR G 163]) sd_X12_216 (c_X12_rowOf G l M 1088 ((M 164 1091) - 1) hI_M (by omega)) ⟨by decide, by decide⟩ rfl rfl (Nat.le_of_ble_eq_true rfl) dX12_checkerPart_103 rfl ?_
            intro r_83 N_84 q_85
            obtain ⟨rfl, q_85c⟩ := q_85
            refine kx_topi (e' := 85 * (M 164 1091) + 1103) (by omega) ?_
            refine kx_sipush 109 F dX12_checkerPart_106 (by decide) rfl ?_
            refine kx_iload_n 110 F 2 dX12_checkerPart_109 rfl rfl rfl ?_
            refine kx_Si 113 F (As := [vI 1088, vI ((M 164 1091) - 1)]) (st := [vI (85 * (M 164 1091) + 1103), vR G 163]) sd_X12_216 (c_X12_rowOf G l M 1088 ((M 164 1091) - 1) hI_M (by omega)) ⟨by decide, by decide⟩ rfl rfl (Nat.le_of_ble_eq_true rfl) dX12_checkerPart_110 rfl ?_
            intro r_86 N_87 q_88
            obtain ⟨rfl, q_88c⟩ := q_88
            refine kx_topi (e' := 85 * (M 164 1091) + 1103) (by omega) ?_
            refine kx_iconst 114 F dX12_checkerPart_113 rfl ?_
            refine kx_iadd 115 F (v := 85 * (M 164 1091) + 1105) dX12_checkerPart_114 (by omega) rfl ?_
            have ha_89 : atlo (85 * (M 164 1091) + 1103) = 0 ∧ athi (85 * (M 164 1091) + 1103) = 3 := at_a (85 * (M 164 1091) + 1103) 4 ((M 164 1091) - 1) 0 (by omega) (by omega) (by decide)
            have ha_90 : atlo (85 * (M 164 1091) + 1105) = 0 ∧ athi (85 * (M 164 1091) + 1105) = 7 := at_a (85 * (M 164 1091) + 1105) 4 ((M 164 1091) - 1) 2 (by omega) (by omega) (by decide)
            refine kx_Vi 118 (ci := 0) F (As := [vI (85 * (M 164 1091) + 1103), vI (85 * (M 164 1091) + 1105)]) (st := []) vd_X12_264 (e_X12_states G l M (85 * (M 164 1091) + 1103) (85 * (M 164 1091) + 1105) hI_M (by omega) hR Bt hB j (by omega) hs (by omega) t q hN (by omega) hA hr (15 + 85 * q 3) (by omega) 2 (by decide) (by omega) (by omega)) kd_163 rfl rfl rfl ⟨by decide, by decide⟩ rfl rfl (Nat.le_of_ble_eq_true rfl) dX12_checkerPart_115 rfl ?_
            intro r_91 N_92 q_93
            obtain ⟨hI_N_92, hG_N_92, q_93c, ⟨hl_N_92, ⟨e_N_92, s_N_92, h0_N_92, h1_N_92⟩⟩⟩ := q_93
            have hF_N_92 : Fr f_e_X12_checkerPart M N_92 := Fr.c hF_M hG_N_92 rfl
            have h_94 := Inv.g hI_N_92 kd_163 rfl 18 (a := (-2147483648)) (b := 2147483647) rfl rfl
            have h_95 := Inv.g hI_M kd_163 rfl 17 (a := (-2147483648)) (b := 2147483647) rfl rfl
            have h_96 := Inv.g hI_N_92 kd_163 rfl 17 (a := (-2147483648)) (b := 2147483647) rfl rfl
            rcases q_93c with q_93c | q_93c
            · refine kx_if_eq 121 F 134 dX12_checkerPart_118 (by decide) rfl (by omega) (fun h_98 => (by exfalso; omega)) (fun h_98 => ?_)
              have hh := h1_N_92 (by omega)
              have hje : j + 1 ≤ e_N_92 := hh.1.j
              refine kx_aload_n 122 F 0 dX12_checkerPart_121 rfl rfl rfl ?_
              refine kx_bipush 124 F dX12_checkerPart_122 (by decide) rfl ?_
              refine kx_Vi 127 (ci := 0) F (As := [vI 59]) (st := []) vd_X12_261 (e_X12_wantSign G l N_92 59 hI_N_92 (by omega) Bt (TM.fr hB hF_N_92 rfl) e_N_92 (by omega) hh.2.1) kd_163 rfl rfl rfl ⟨by decide, by decide⟩ rfl rfl (Nat.le_of_ble_eq_true rfl) dX12_checkerPart_124 rfl ?_
              intro r_99 N_100 q_101
              obtain ⟨hI_N_100, hG_N_100, q_101c, hr_N_100⟩ := q_101
              have hF_N_100 : Fr f_e_X12_checkerPart M N_100 := Fr.c hF_N_92 hG_N_100 rfl
              have h_102 := Inv.g hI_N_100 kd_163 rfl 18 (a := (-2147483648)) (b := 2147483647) rfl rfl
              have h_103 := Inv.g hI_N_100 kd_163 rfl 17 (a := (-2147483648)) (b := 2147483647) rfl rfl
              rcases q_101c with q_101c | q_101c | q_101c
              · refine kx_if_eq 130 F 134 dX12_checkerPart_127 (by decide) rfl (by omega) (fun h_108 => (by exfalso; omega)) (fun h_108 => ?_)
                refine kx_iconst 131 F dX12_checkerPart_130 rfl ?_
                refine kx_goto 135 F dX12_checkerPart_131 (by decide) ?_
                exact kx_zret F hQ (by omega) ⟨hI_N_100, hF_N_100, (Or.inl (by omega)), ⟨⟨(LO.fr (LO.trans (LO.rf M) hl_N_92.1) hG_N_100 rfl), (fun _ => (R4.fr (hl_N_92.2 (by omega)) hG_N_100 rfl))⟩, ⟨e_N_92, (upk q (15 + 85 * q 3 + 2) s_N_92), t, fun h => absurd h (by omega), fun _ => ⟨zPS.S (k := 4) (b := 15 + 85 * q 3) (i := 2) (by omega) (by decide) (by omega) rfl (by decide) (hh.1.sr (Or.inr (Or.inr (Or.inr ((by omega)))))), hr_N_100 (by omega), BQ.fr hh.2.2.1 hG_N_100 rfl, NR.fr hh.2.2.2.1 hG_N_100 rfl, BA.fr hh.2.2.2.2 hG_N_100 rfl⟩⟩⟩⟩ dX12_checkerPart_135
              · refine kx_if_eq 130 F 134 dX12_checkerPart_127 (by decide) rfl (by omega) (fun h_109 => ?_) (fun h_109 => (by exfalso; omega))
                refine kx_iconst 135 F dX12_checkerPart_134 rfl ?_
                exact kx_zret F hQ (by omega) ⟨hI_N_100, hF_N_100, (Or.inr (by omega)), ⟨⟨(LO.fr (LO.trans (LO.rf M) hl_N_92.1) hG_N_100 rfl), (fun h => absurd h (by omega))⟩, ⟨0, q, t, fun _ => Or.inr (Or.inl ⟨by omega, hn, _, _, _, zPS.S (k := 4) (b := 15 + 85 * q 3) (i := 2) (by omega) (by decide) (by omega) rfl (by decide) (hh.1.sr (Or.inl (by omega)))⟩), fun h => absurd h (by omega)⟩⟩⟩ dX12_checkerPart_135
              · refine kx_if_eq 130 F 134 dX12_checkerPart_127 (by decide) rfl (by omega) (fun h_110 => ?_) (fun h_110 => (by exfalso; omega))
                refine kx_iconst 135 F dX12_checkerPart_134 rfl ?_
                exact kx_zret F hQ (by omega) ⟨hI_N_100, hF_N_100, (Or.inr (by omega)), ⟨⟨(LO.fr (LO.trans (LO.rf M) hl_N_92.1) hG_N_100 rfl), (fun h => absurd h (by omega))⟩, ⟨0, q, t, fun _ => Or.inr (Or.inl ⟨by omega, hn, _, _, _, zPS.S (k := 4) (b := 15 + 85 * q 3) (i := 2) (by omega) (by decide) (by omega) rfl (by decide) (hh.1.sr (Or.inr (Or.inl (by omega))))⟩), fun h => absurd h (by omega)⟩⟩⟩ dX12_checkerPart_135
            · refine kx_if_eq 121 F 134 dX12_checkerPart_118 (by decide) rfl (by omega) (fun h_111 => ?_) (fun h_111 => (by exfalso; omega))
              refine kx_iconst 135 F dX12_checkerPart_134 rfl ?_
              exact kx_zret F hQ (by omega) ⟨hI_N_92, hF_N_92, (Or.inr (by omega)), ⟨⟨(LO.trans (LO.rf M) hl_N_92.1), (fun h => absurd h (by omega))⟩, ⟨0, q, t, fun _ => Or.inr (Or.inl ⟨by omega, hn, _, _, _, zPS.S (k := 4) (b := 15 + 85 * q 3) (i := 2) (by omega) (by decide) (by omega) rfl (by decide) (h0_N_92 (by omega))⟩), fun h => absurd h (by omega)⟩⟩⟩ dX12_checkerPart_135
          · rw [show vI (kwd Bt j) = vI 5 by rw [h_80]]
            refine kx_tableIn 136 F (by decide) dX12_checkerPart_45 (by decide) rfl (by decide) ?_
            have hd_113 : tk Bt j = 1 := kwd_t (by omega)
            have hd_114 : tbd Bt j = 0 := kwd_b (by omega)
            refine kx_aload_n 137 F 0 dX12_checkerPart_136 rfl rfl rfl ?_
            refine kx_sipush 140 F dX12_checkerPart_137 (by decide) rfl ?_
            refine kx_iload_n 141 F 2 dX12_checkerPart_140 rfl rfl rfl ?_
            refine kx_Si 144 F (As := [vI 1088, vI ((M 164 1091) - 1)]) (st := [vR G 163]) sd_X12_216 (c_X12_rowOf G l M 1088 ((M 164 1091) - 1) hI_M (by omega)) ⟨by decide, by decide⟩ rfl rfl (Nat.le_of_ble_eq_true rfl) dX12_checkerPart_141 rfl ?_
            intro r_115 N_116 q_117
            obtain ⟨rfl, q_117c⟩ := q_117
            refine kx_topi (e' := 85 * (M 164 1091) + 1103) (by omega) ?_
            refine kx_sipush 147 F dX12_checkerPart_144 (by decide) rfl ?_
            refine kx_iload_n 148 F 2 dX12_checkerPart_147 rfl rfl rfl ?_
            refine kx_Si 151 F (As := [vI 1088, vI ((M 164 1091) - 1)]) (st := [vI (85 * (M 164 1091) + 1103), vR G 163]) sd_X12_216 (c_X12_rowOf G l M 1088 ((M 164 1091) - 1) hI_M (by omega)) ⟨by decide, by decide⟩ rfl rfl (Nat.le_of_ble_eq_true rfl) dX12_checkerPart_148 rfl ?_
            intro r_118 N_119 q_120
            obtain ⟨rfl, q_120c⟩ := q_120
            refine kx_topi (e' := 85 * (M 164 1091) + 1103) (by omega) ?_
            refine kx_iconst 152 F dX12_checkerPart_151 rfl ?_
            refine kx_iadd 153 F (v := 85 * (M 164 1091) + 1106) dX12_checkerPart_152 (by omega) rfl ?_
            have ha_121 : atlo (85 * (M 164 1091) + 1103) = 0 ∧ athi (85 * (M 164 1091) + 1103) = 3 := at_a (85 * (M 164 1091) + 1103) 4 ((M 164 1091) - 1) 0 (by omega) (by omega) (by decide)
            have ha_122 : atlo (85 * (M 164 1091) + 1106) = 0 ∧ athi (85 * (M 164 1091) + 1106) = 7 := at_a (85 * (M 164 1091) + 1106) 4 ((M 164 1091) - 1) 3 (by omega) (by omega) (by decide)
            refine kx_Vi 156 (ci := 0) F (As := [vI (85 * (M 164 1091) + 1103), vI (85 * (M 164 1091) + 1106)]) (st := []) vd_X12_264 (e_X12_states G l M (85 * (M 164 1091) + 1103) (85 * (M 164 1091) + 1106) hI_M (by omega) hR Bt hB j (by omega) hs (by omega) t q hN (by omega) hA hr (15 + 85 * q 3) (by omega) 3 (by decide) (by omega) (by omega)) kd_163 rfl rfl rfl ⟨by decide, by decide⟩ rfl rfl (Nat.le_of_ble_eq_true rfl) dX12_checkerPart_153 rfl ?_
            intro r_123 N_124 q_125
            obtain ⟨hI_N_124, hG_N_124, q_125c, ⟨hl_N_124, ⟨e_N_124, s_N_124, h0_N_124, h1_N_124⟩⟩⟩ := q_125
            have hF_N_124 : Fr f_e_X12_checkerPart M N_124 := Fr.c hF_M hG_N_124 rfl
            have h_126 := Inv.g hI_N_124 kd_163 rfl 18 (a := (-2147483648)) (b := 2147483647) rfl rfl
            have h_127 := Inv.g hI_M kd_163 rfl 17 (a := (-2147483648)) (b := 2147483647) rfl rfl
            have h_128 := Inv.g hI_N_124 kd_163 rfl 17 (a := (-2147483648)) (b := 2147483647) rfl rfl
            rcases q_125c with q_125c | q_125c
            · refine kx_if_eq 159 F 172 dX12_checkerPart_156 (by decide) rfl (by omega) (fun h_130 => (by exfalso; omega)) (fun h_130 => ?_)
              have hh := h1_N_124 (by omega)
              have hje : j + 1 ≤ e_N_124 := hh.1.j
              refine kx_aload_n 160 F 0 dX12_checkerPart_159 rfl rfl rfl ?_
              refine kx_bipush 162 F dX12_checkerPart_160 (by decide) rfl ?_
              refine kx_Vi 165 (ci := 0) F (As := [vI 59]) (st := []) vd_X12_261 (e_X12_wantSign G l N_124 59 hI_N_124 (by omega) Bt (TM.fr hB hF_N_124 rfl) e_N_124 (by omega) hh.2.1) kd_163 rfl rfl rfl ⟨by decide, by decide⟩ rfl rfl (Nat.le_of_ble_eq_true rfl) dX12_checkerPart_162 rfl ?_
              intro r_131 N_132 q_133
              obtain ⟨hI_N_132, hG_N_132, q_133c, hr_N_132⟩ := q_133
              have hF_N_132 : Fr f_e_X12_checkerPart M N_132 := Fr.c hF_N_124 hG_N_132 rfl
              have h_134 := Inv.g hI_N_132 kd_163 rfl 18 (a := (-2147483648)) (b := 2147483647) rfl rfl
              have h_135 := Inv.g hI_N_132 kd_163 rfl 17 (a := (-2147483648)) (b := 2147483647) rfl rfl
              rcases q_133c with q_133c | q_133c | q_133c
              · refine kx_if_eq 168 F 172 dX12_checkerPart_165 (by decide) rfl (by omega) (fun h_140 => (by exfalso; omega)) (fun h_140 => ?_)
                refine kx_iconst 169 F dX12_checkerPart_168 rfl ?_
                refine kx_goto 173 F dX12_checkerPart_169 (by decide) ?_
                exact kx_zret F hQ (by omega) ⟨hI_N_132, hF_N_132, (Or.inl (by omega)), ⟨⟨(LO.fr (LO.trans (LO.rf M) hl_N_124.1) hG_N_132 rfl), (fun _ => (R4.fr (hl_N_124.2 (by omega)) hG_N_132 rfl))⟩, ⟨e_N_124, (upk q (15 + 85 * q 3 + 3) s_N_124), t, fun h => absurd h (by omega), fun _ => ⟨zPS.S (k := 5) (b := 15 + 85 * q 3) (i := 3) (by omega) (by decide) (by omega) rfl (by decide) (hh.1.sr (Or.inr (Or.inr (Or.inr ((by omega)))))), hr_N_132 (by omega), BQ.fr hh.2.2.1 hG_N_132 rfl, NR.fr hh.2.2.2.1 hG_N_132 rfl, BA.fr hh.2.2.2.2 hG_N_132 rfl⟩⟩⟩⟩ dX12_checkerPart_173
              · refine kx_if_eq 168 F 172 dX12_checkerPart_165 (by decide) rfl (by omega) (fun h_141 => ?_) (fun h_141 => (by exfalso; omega))
                refine kx_iconst 173 F dX12_checkerPart_172 rfl ?_
                exact kx_zret F hQ (by omega) ⟨hI_N_132, hF_N_132, (Or.inr (by omega)), ⟨⟨(LO.fr (LO.trans (LO.rf M) hl_N_124.1) hG_N_132 rfl), (fun h => absurd h (by omega))⟩, ⟨0, q, t, fun _ => Or.inr (Or.inl ⟨by omega, hn, _, _, _, zPS.S (k := 5) (b := 15 + 85 * q 3) (i := 3) (by omega) (by decide) (by omega) rfl (by decide) (hh.1.sr (Or.inl (by omega)))⟩), fun h => absurd h (by omega)⟩⟩⟩ dX12_checkerPart_173
              · refine kx_if_eq 168 F 172 dX12_checkerPart_165 (by decide) rfl (by omega) (fun h_142 => ?_) (fun h_142 => (by exfalso; omega))
                refine kx_iconst 173 F dX12_checkerPart_172 rfl ?_
                exact kx_zret F hQ (by omega) ⟨hI_N_132, hF_N_132, (Or.inr (by omega)), ⟨⟨(LO.fr (LO.trans (LO.rf M) hl_N_124.1) hG_N_132 rfl), (fun h => absurd h (by omega))⟩, ⟨0, q, t, fun _ => Or.inr (Or.inl ⟨by omega, hn, _, _, _, zPS.S (k := 5) (b := 15 + 85 * q 3) (i := 3) (by omega) (by decide) (by omega) rfl (by decide) (hh.1.sr (Or.inr (Or.inl (by omega))))⟩), fun h => absurd h (by omega)⟩⟩⟩ dX12_checkerPart_173
            · refine kx_if_eq 159 F 172 dX12_checkerPart_156 (by decide) rfl (by omega) (fun h_143 => ?_) (fun h_143 => (by exfalso; omega))
              refine kx_iconst 173 F dX12_checkerPart_172 rfl ?_
              exact kx_zret F hQ (by omega) ⟨hI_N_124, hF_N_124, (Or.inr (by omega)), ⟨⟨(LO.trans (LO.rf M) hl_N_124.1), (fun h => absurd h (by omega))⟩, ⟨0, q, t, fun _ => Or.inr (Or.inl ⟨by omega, hn, _, _, _, zPS.S (k := 5) (b := 15 + 85 * q 3) (i := 3) (by omega) (by decide) (by omega) rfl (by decide) (h0_N_124 (by omega))⟩), fun h => absurd h (by omega)⟩⟩⟩ dX12_checkerPart_173
          · rw [show vI (kwd Bt j) = vI 6 by rw [h_80]]
            refine kx_tableIn 174 F (by decide) dX12_checkerPart_45 (by decide) rfl (by decide) ?_
            have hd_145 : tk Bt j = 1 := kwd_t (by omega)
            have hd_146 : tbd Bt j = 0 := kwd_b (by omega)
            refine kx_aload_n 175 F 0 dX12_checkerPart_174 rfl rfl rfl ?_
            refine kx_iload_n 176 F 2 dX12_checkerPart_175 rfl rfl rfl ?_
            refine kx_Vi 179 (ci := 0) F (As := [vI ((M 164 1091) - 1)]) (st := []) vd_X12_267 (e_X12_aRule G l M ((M 164 1091) - 1) hI_M (by omega) hR Bt hB j (by omega) hs (by omega) t q hN (by omega) hA hr (15 + 85 * q 3) (by omega) (by omega)) kd_163 rfl rfl rfl ⟨by decide, by decide⟩ rfl rfl (Nat.le_of_ble_eq_true rfl) dX12_checkerPart_176 rfl ?_
            intro r_147 N_148 q_149
            obtain ⟨hI_N_148, hG_N_148, q_149c, ⟨hl_N_148, ⟨e_N_148, y_N_148, h0_N_148, h1_N_148⟩⟩⟩ := q_149
            have hF_N_148 : Fr f_e_X12_checkerPart M N_148 := Fr.c hF_M hG_N_148 rfl
            have h_150 := Inv.g hI_N_148 kd_163 rfl 18 (a := (-2147483648)) (b := 2147483647) rfl rfl
            have h_151 := Inv.g hI_M kd_163 rfl 17 (a := (-2147483648)) (b := 2147483647) rfl rfl
            have h_152 := Inv.g hI_N_148 kd_163 rfl 17 (a := (-2147483648)) (b := 2147483647) rfl rfl
            rcases q_149c with q_149c | q_149c
            · refine kx_if_eq 182 F 195 dX12_checkerPart_179 (by decide) rfl (by omega) (fun h_154 => (by exfalso; omega)) (fun h_154 => ?_)
              have hh := h1_N_148 (by omega)
              have hje : j + 1 ≤ e_N_148 := by have h := hh.1.q; omega
              refine kx_aload_n 183 F 0 dX12_checkerPart_182 rfl rfl rfl ?_
              refine kx_bipush 185 F dX12_checkerPart_183 (by decide) rfl ?_
              refine kx_Vi 188 (ci := 0) F (As := [vI 59]) (st := []) vd_X12_261 (e_X12_wantSign G l N_148 59 hI_N_148 (by omega) Bt (TM.fr hB hF_N_148 rfl) e_N_148 (by omega) hh.2.2.1) kd_163 rfl rfl rfl ⟨by decide, by decide⟩ rfl rfl (Nat.le_of_ble_eq_true rfl) dX12_checkerPart_185 rfl ?_
              intro r_155 N_156 q_157
              obtain ⟨hI_N_156, hG_N_156, q_157c, hr_N_156⟩ := q_157
              have hF_N_156 : Fr f_e_X12_checkerPart M N_156 := Fr.c hF_N_148 hG_N_156 rfl
              have h_158 := Inv.g hI_N_156 kd_163 rfl 18 (a := (-2147483648)) (b := 2147483647) rfl rfl
              have h_159 := Inv.g hI_N_156 kd_163 rfl 17 (a := (-2147483648)) (b := 2147483647) rfl rfl
              rcases q_157c with q_157c | q_157c | q_157c
              · refine kx_if_eq 191 F 195 dX12_checkerPart_188 (by decide) rfl (by omega) (fun h_164 => (by exfalso; omega)) (fun h_164 => ?_)
                refine kx_iconst 192 F dX12_checkerPart_191 rfl ?_
                refine kx_goto 196 F dX12_checkerPart_192 (by decide) ?_
                have hz0 := hh.2.1 (by omega)
                exact kx_zret F hQ (by omega) ⟨hI_N_156, hF_N_156, (Or.inl (by omega)), ⟨⟨(LO.fr (LO.trans (LO.rf M) hl_N_148.1) hG_N_156 rfl), (fun _ => (R4.fr (hl_N_148.2 (by omega)) hG_N_156 rfl))⟩, ⟨e_N_148, (uprul q (15 + 85 * q 3) (lfn Bt t (q 0) (q 1) (q 2) (j + 1)) (tv Bt (j + 2)) (tv Bt (j + 3)) y_N_148), t, fun h => absurd h (by omega), fun _ => ⟨zPS.R (b := 15 + 85 * q 3) (by omega) (by omega) rfl (Or.inr ⟨hh.1.cg, (Or.inr (Or.inr (Or.inr ((by omega)))))⟩), hr_N_156 (by omega), BQ.fr hh.2.2.2.1 hG_N_156 rfl, NR.fr hh.2.2.2.2.1 hG_N_156 rfl, BA.fr hh.2.2.2.2.2 hG_N_156 rfl⟩⟩⟩⟩ dX12_checkerPart_196
              · refine kx_if_eq 191 F 195 dX12_checkerPart_188 (by decide) rfl (by omega) (fun h_165 => ?_) (fun h_165 => (by exfalso; omega))
                refine kx_iconst 196 F dX12_checkerPart_195 rfl ?_
                exact kx_zret F hQ (by omega) ⟨hI_N_156, hF_N_156, (Or.inr (by omega)), ⟨⟨(LO.fr (LO.trans (LO.rf M) hl_N_148.1) hG_N_156 rfl), (fun h => absurd h (by omega))⟩, ⟨0, q, t, fun _ => Or.inr (Or.inl ⟨by omega, hn, _, _, _, zPS.R (b := 15 + 85 * q 3) (by omega) (by omega) rfl (Or.inr ⟨hh.1.cg, (Or.inl (by omega))⟩)⟩), fun h => absurd h (by omega)⟩⟩⟩ dX12_checkerPart_196
              · refine kx_if_eq 191 F 195 dX12_checkerPart_188 (by decide) rfl (by omega) (fun h_166 => ?_) (fun h_166 => (by exfalso; omega))
                refine kx_iconst 196 F dX12_checkerPart_195 rfl ?_
                exact kx_zret F hQ (by omega) ⟨hI_N_156, hF_N_156, (Or.inr (by omega)), ⟨⟨(LO.fr (LO.trans (LO.rf M) hl_N_148.1) hG_N_156 rfl), (fun h => absurd h (by omega))⟩, ⟨0, q, t, fun _ => Or.inr (Or.inl ⟨by omega, hn, _, _, _, zPS.R (b := 15 + 85 * q 3) (by omega) (by omega) rfl (Or.inr ⟨hh.1.cg, (Or.inr (Or.inl (by omega)))⟩)⟩), fun h => absurd h (by omega)⟩⟩⟩ dX12_checkerPart_196
            · refine kx_if_eq 182 F 195 dX12_checkerPart_179 (by decide) rfl (by omega) (fun h_167 => ?_) (fun h_167 => (by exfalso; omega))
              refine kx_iconst 196 F dX12_checkerPart_195 rfl ?_
              exact kx_zret F hQ (by omega) ⟨hI_N_148, hF_N_148, (Or.inr (by omega)), ⟨⟨(LO.trans (LO.rf M) hl_N_148.1), (fun h => absurd h (by omega))⟩, ⟨0, q, t, fun _ => Or.inr (Or.inl ⟨by omega, hn, _, _, _, zPS.R (b := 15 + 85 * q 3) (by omega) (by omega) rfl (h0_N_148 (by omega))⟩), fun h => absurd h (by omega)⟩⟩⟩ dX12_checkerPart_196
          · exfalso; omega
        · refine kx_aload_n 39 F 0 dX12_checkerPart_38 rfl rfl rfl ?_
          refine kx_iconst 40 F dX12_checkerPart_39 rfl ?_
          refine kx_Vi 43 (ci := 0) F (As := [vI 2]) (st := []) vd_X12_205 (e_X12_fails G l M 2 hI_M (by omega) Bt hB j (by omega) hs) kd_163 rfl rfl rfl ⟨by decide, by decide⟩ rfl rfl (Nat.le_of_ble_eq_true rfl) dX12_checkerPart_40 rfl ?_
          intro r_169 N_170 q_171
          obtain ⟨hI_N_170, hG_N_170, q_171c⟩ := q_171
          have hF_N_170 : Fr f_e_X12_checkerPart M N_170 := Fr.c hF_M hG_N_170 rfl
          have h_172 := Inv.g hI_N_170 kd_163 rfl 18 (a := (-2147483648)) (b := 2147483647) rfl rfl
          have h_173 := Inv.g hI_N_170 kd_163 rfl 17 (a := (-2147483648)) (b := 2147483647) rfl rfl
          rcases q_171c with q_171c | q_171c
          · exact kx_zret F hQ (by omega) ⟨hI_N_170, hF_N_170, (Or.inr (by omega)), ⟨⟨(LO.fr (LO.rf M) hG_N_170 rfl), (fun h => absurd h (by omega))⟩, ⟨0, q, t, fun _ => (Or.inl ⟨by omega, by omega, by omega⟩), fun h => absurd h (by omega)⟩⟩⟩ dX12_checkerPart_43
          · exact kx_zret F hQ (by omega) ⟨hI_N_170, hF_N_170, (Or.inr (by omega)), ⟨⟨(LO.fr (LO.rf M) hG_N_170 rfl), (fun h => absurd h (by omega))⟩, ⟨0, q, t, fun _ => (Or.inr (Or.inl ⟨by omega, hn, 0, q, t, zPS.n (by omega) rfl (by omega) (by omega)⟩)), fun h => absurd h (by omega)⟩⟩⟩ dX12_checkerPart_43
