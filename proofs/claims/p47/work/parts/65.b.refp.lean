abbrev f_e_X12_number : List (Nat × Int) := [(64, 12), (64, 13), (64, 14), (64, 15), (64, 17), (64, 18), (65, -1)]
set_option maxHeartbeats 4000000 in
set_option maxRecDepth 100000 in
theorem e_X12_number (G : KG) (l : Launch) (M : Mem) (a1 : Int) (a2 : Int) (a3 : Int) (hI_M : Inv true M) (hpre : -2147483648 ≤ a1 ∧ a1 ≤ 2147483647 ∧ -2147483648 ≤ a2 ∧ a2 ≤ 2147483647 ∧ -2147483648 ≤ a3 ∧ a3 ≤ 2147483647 ∧ 0 ≤ a1 ∧ a1 ≤ 1359 ∧ (atlo a1) ≤ a2 ∧ a3 ≤ (athi a1) ∧ (M 163 18) = 0) (Bt : Int → Int) (hB : TM M Bt) (j : Int) (hj : 0 ≤ j) (hs : RT M Bt j) : KC true G l yX12_number cX12_number 4 (some .boolean) (2, 42) [vR G 163, vI a1, vI a2, vI a3] M (fun A => kQi true G A (fun (r : Int) (N : Mem) => Inv true N ∧ Fr f_e_X12_number M N ∧ ((r = 1 ∧ (tk Bt j) = 2 ∧ (tbd Bt j) = 0 ∧ a2 ≤ (tv Bt j) ∧ (tv Bt j) ≤ a3 ∧ (tv Bt j) ≥ 0 ∧ (N 164 a1) = (tv Bt j) ∧ (N 163 18) = (M 163 18) ∧ (N 163 17) = (M 163 17)) ∨ (r = 0 ∧ (tbd Bt j) = 1 ∧ (N 163 18) = 1 ∧ (N 163 17) = (tp Bt j)) ∨ (r = 0 ∧ (tbd Bt j) = 0 ∧ (tk Bt j) ≠ 2 ∧ (N 163 18) = 2 ∧ (N 163 17) = (tp Bt j)) ∨ (r = 0 ∧ (tbd Bt j) = 0 ∧ (tk Bt j) = 2 ∧ (tv Bt j) < a2 ∧ (tv Bt j) ≥ 0 ∧ (N 163 18) = 4 ∧ (N 163 17) = (tp Bt j)) ∨ (r = 0 ∧ (tbd Bt j) = 0 ∧ (tk Bt j) = 2 ∧ (tv Bt j) > a3 ∧ (N 163 18) = 4 ∧ (N 163 17) = (tp Bt j))) ∧ ((r = 1 → RT N Bt (j + 1)) ∧ (∀ i, ¬ i = a1 → N 164 i = M 164 i)))) := by
  refine kx_met (lo := [some (vR G 163), some (vI a1), some (vI a2), some (vI a3)]) (by decide) (Nat.le_of_ble_eq_true rfl) rfl ?_
  intro X F hQ
  have hF_M : Fr f_e_X12_number M M := Fr.rf _ _
  have h_1 := Inv.g hI_M kd_163 rfl 18 (a := (-2147483648)) (b := 2147483647) rfl rfl
  have hu_2 := hs.u
  have ht_3 := tp_le (n := M 163 11) (TM.tx hB hI_M) (Inv.g hI_M kd_163 rfl 11 (a := 0) (b := 900) rfl rfl).1 (j := j) (by omega)
  have h_4 := Inv.g hI_M kd_163 rfl 11 (a := 0) (b := 900) rfl rfl
  refine kx_aload_n 1 F 0 dX12_number_0 rfl rfl rfl ?_
  refine kx_geti 4 F fl_X12_168 kd_163 rfl rfl (j := 12) rfl dX12_number_1 (v := (M 163 12)) rfl rfl ?_
  have h_5 := Inv.g hI_M kd_163 rfl 12 (a := 0) (b := 4) rfl rfl
  refine kx_iconst 5 F dX12_number_4 rfl ?_
  refine kx_icmp_eq 8 F 14 dX12_number_5 (by decide) rfl (by omega) (by decide) (fun h_6 => ?_) (fun h_6 => ?_)
  · have hd_7 : tk Bt j = 2 ∧ tbd Bt j = 0 ∧ M 163 15 = tv Bt j ∧ 0 ≤ tv Bt j := by omega
    refine kx_aload_n 15 F 0 dX12_number_14 rfl rfl rfl ?_
    refine kx_geti 18 F fl_X12_165 kd_163 rfl rfl (j := 15) rfl dX12_number_15 (v := (M 163 15)) rfl rfl ?_
    have h_8 := Inv.g hI_M kd_163 rfl 15 (a := (-2147483648)) (b := 2147483647) rfl rfl
    refine kx_iload_n 19 F 2 dX12_number_18 rfl rfl rfl ?_
    refine kx_icmp_lt 22 F 30 dX12_number_19 (by decide) rfl (by omega) (by omega) (fun h_9 => ?_) (fun h_9 => ?_)
    · refine kx_aload_n 31 F 0 dX12_number_30 rfl rfl rfl ?_
      refine kx_iconst 32 F dX12_number_31 rfl ?_
      refine kx_Vi 35 (ci := 0) F (As := [vI 4]) (st := []) vd_X12_205 (e_X12_fails G l M 4 hI_M (by omega) Bt hB j (by omega) hs) kd_163 rfl rfl rfl ⟨by decide, by decide⟩ rfl rfl (Nat.le_of_ble_eq_true rfl) dX12_number_32 rfl ?_
      intro r_10 N_11 q_12
      obtain ⟨hI_N_11, hG_N_11, q_12c⟩ := q_12
      have hF_N_11 : Fr f_e_X12_number M N_11 := Fr.c hF_M hG_N_11 rfl
      have h_13 := Inv.g hI_N_11 kd_163 rfl 18 (a := (-2147483648)) (b := 2147483647) rfl rfl
      have h_14 := Inv.g hI_N_11 kd_163 rfl 17 (a := (-2147483648)) (b := 2147483647) rfl rfl
      rcases q_12c with q_12c | q_12c
      · exfalso; omega
      · have e_17 : (N_11 164 a1) = (M 164 a1) := by rw [Fr.e hG_N_11 kd_164 _ rfl]
        exact kx_zret F hQ (by omega) ⟨hI_N_11, hF_N_11, (by omega), ⟨(fun h => absurd h (by omega)), (fun j hj => by rw [Fr.e hG_N_11 kd_164 _ rfl])⟩⟩ dX12_number_35
    · refine kx_aload_n 23 F 0 dX12_number_22 rfl rfl rfl ?_
      refine kx_geti 26 F fl_X12_165 kd_163 rfl rfl (j := 15) rfl dX12_number_23 (v := (M 163 15)) rfl rfl ?_
      refine kx_iload_n 27 F 3 dX12_number_26 rfl rfl rfl ?_
      refine kx_icmp_le 30 F 36 dX12_number_27 (by decide) rfl (by omega) (by omega) (fun h_18 => ?_) (fun h_18 => ?_)
      · refine kx_aload_n 37 F 0 dX12_number_36 rfl rfl rfl ?_
        refine kx_getr 40 F fl_X12_7 kd_163 rfl rfl (j := 0) rfl dX12_number_37 (v := 164) (uq_164 (Inv.r hI_M kd_163 rfl 0 rfl rfl)) rfl ?_
        refine kx_iload_n 41 F 1 dX12_number_40 rfl rfl rfl ?_
        refine kx_aload_n 42 F 0 dX12_number_41 rfl rfl rfl ?_
        refine kx_geti 45 F fl_X12_165 kd_163 rfl rfl (j := 15) rfl dX12_number_42 (v := (M 163 15)) rfl rfl ?_
        refine kx_iast 46 F kd_164 rfl rfl (by omega) (by decide) dX12_number_45 rfl ?_
        intro N_19 hM_N_19
        have h_20 := at_0 a1
        have hI_N_19 : Inv true N_19 := Inv.u hI_M hM_N_19 kd_164 (a := atlo a1) (b := athi a1) rfl rfl rfl (by omega)
        have hF_N_19 : Fr f_e_X12_number M N_19 := Fr.u hF_M hM_N_19 kd_164 rfl
        refine kx_aload_n 47 F 0 dX12_number_46 rfl rfl rfl ?_
        have hp_21 : RT N_19 Bt j := RT.st hs hM_N_19 kd_164 rfl
        have hu_22 := hp_21.2.1
        refine kx_Vv 50 (ci := 0) F (As := []) (st := []) vd_X12_199 (e_X12_ahead G l N_19  hI_N_19 Bt (TM.fr hB hF_N_19 rfl) (j + 1) j (by omega) (by omega) hu_22) kd_163 rfl rfl rfl ⟨by decide, by decide⟩ rfl rfl (Nat.le_of_ble_eq_true rfl) dX12_number_47 rfl ?_
        intro N_23 q_24
        obtain ⟨hI_N_23, hG_N_23, ht_N_23⟩ := q_24
        have hF_N_23 : Fr f_e_X12_number M N_23 := Fr.c hF_N_19 hG_N_23 rfl
        refine kx_iconst 51 F dX12_number_50 rfl ?_
        have e_25 : (N_23 164 a1) = (M 163 15) := by rw [Fr.e hG_N_23 kd_164 _ rfl, hM_N_19, mu_s]
        have e_26 : (N_23 163 18) = (M 163 18) := by rw [Fr.e hG_N_23 kd_163 _ rfl, hM_N_19, mu_k kd_163 kd_164 rfl]
        have e_27 : (N_23 163 17) = (M 163 17) := by rw [Fr.e hG_N_23 kd_163 _ rfl, hM_N_19, mu_k kd_163 kd_164 rfl]
        have h_28 := Inv.g hI_M kd_163 rfl 17 (a := (-2147483648)) (b := 2147483647) rfl rfl
        exact kx_zret F hQ (by omega) ⟨hI_N_23, hF_N_23, (Or.inl (by omega)), ⟨(fun _ => ht_N_23), (fun j hj => by rw [Fr.e hG_N_23 kd_164 _ rfl, hM_N_19, mu_i hj])⟩⟩ dX12_number_51
      · refine kx_aload_n 31 F 0 dX12_number_30 rfl rfl rfl ?_
        refine kx_iconst 32 F dX12_number_31 rfl ?_
        refine kx_Vi 35 (ci := 0) F (As := [vI 4]) (st := []) vd_X12_205 (e_X12_fails G l M 4 hI_M (by omega) Bt hB j (by omega) hs) kd_163 rfl rfl rfl ⟨by decide, by decide⟩ rfl rfl (Nat.le_of_ble_eq_true rfl) dX12_number_32 rfl ?_
        intro r_37 N_38 q_39
        obtain ⟨hI_N_38, hG_N_38, q_39c⟩ := q_39
        have hF_N_38 : Fr f_e_X12_number M N_38 := Fr.c hF_M hG_N_38 rfl
        have h_40 := Inv.g hI_N_38 kd_163 rfl 18 (a := (-2147483648)) (b := 2147483647) rfl rfl
        have h_41 := Inv.g hI_N_38 kd_163 rfl 17 (a := (-2147483648)) (b := 2147483647) rfl rfl
        rcases q_39c with q_39c | q_39c
        · exfalso; omega
        · have e_44 : (N_38 164 a1) = (M 164 a1) := by rw [Fr.e hG_N_38 kd_164 _ rfl]
          exact kx_zret F hQ (by omega) ⟨hI_N_38, hF_N_38, (by omega), ⟨(fun h => absurd h (by omega)), (fun j hj => by rw [Fr.e hG_N_38 kd_164 _ rfl])⟩⟩ dX12_number_35
  · refine kx_aload_n 9 F 0 dX12_number_8 rfl rfl rfl ?_
    refine kx_iconst 10 F dX12_number_9 rfl ?_
    refine kx_Vi 13 (ci := 0) F (As := [vI 2]) (st := []) vd_X12_205 (e_X12_fails G l M 2 hI_M (by omega) Bt hB j (by omega) hs) kd_163 rfl rfl rfl ⟨by decide, by decide⟩ rfl rfl (Nat.le_of_ble_eq_true rfl) dX12_number_10 rfl ?_
    intro r_45 N_46 q_47
    obtain ⟨hI_N_46, hG_N_46, q_47c⟩ := q_47
    have hF_N_46 : Fr f_e_X12_number M N_46 := Fr.c hF_M hG_N_46 rfl
    have h_48 := Inv.g hI_N_46 kd_163 rfl 18 (a := (-2147483648)) (b := 2147483647) rfl rfl
    have h_49 := Inv.g hI_N_46 kd_163 rfl 17 (a := (-2147483648)) (b := 2147483647) rfl rfl
    rcases q_47c with q_47c | q_47c
    · have e_52 : (N_46 164 a1) = (M 164 a1) := by rw [Fr.e hG_N_46 kd_164 _ rfl]
      exact kx_zret F hQ (by omega) ⟨hI_N_46, hF_N_46, (Or.inr (Or.inl (by omega))), ⟨(fun h => absurd h (by omega)), (fun j hj => by rw [Fr.e hG_N_46 kd_164 _ rfl])⟩⟩ dX12_number_13
    · have e_53 : (N_46 164 a1) = (M 164 a1) := by rw [Fr.e hG_N_46 kd_164 _ rfl]
      exact kx_zret F hQ (by omega) ⟨hI_N_46, hF_N_46, (Or.inr (Or.inr (Or.inl (by omega)))), ⟨(fun h => absurd h (by omega)), (fun j hj => by rw [Fr.e hG_N_46 kd_164 _ rfl])⟩⟩ dX12_number_13
abbrev f_e_X12_aLetter : List (Nat × Int) := [(64, 12), (64, 13), (64, 14), (64, 15), (64, 17), (64, 18), (65, -1), (66, -1)]
set_option maxHeartbeats 4000000 in
set_option maxRecDepth 100000 in
theorem e_X12_aLetter (G : KG) (l : Launch) (M : Mem) (a1 : Int) (hI_M : Inv true M) (hpre : -2147483648 ≤ a1 ∧ a1 ≤ 2147483647 ∧ 0 ≤ a1 ∧ a1 ≤ 2 ∧ (M 163 18) = 0) (hR : R4 M) (Bt : Int → Int) (hB : TM M Bt) (j : Int) (hj : 0 ≤ j) (hs : RT M Bt j) (hw : tk Bt j = 1) (t q : Int → Int) (hN : NR M Bt t q) (hq : M 164 1088 = q 0 ∧ M 164 1089 = q 1 ∧ M 164 1090 = q 2 ∧ M 164 1091 = q 3 ∧ 0 ≤ q 0 ∧ q 0 ≤ 2 ∧ 0 ≤ q 1 ∧ q 1 ≤ 2 ∧ 0 ≤ q 2 ∧ q 2 ≤ 2 ∧ 0 ≤ q 3 ∧ q 3 ≤ 2 ∧ M 164 1092 = -1) : KC true G l yX12_aLetter cX12_aLetter 3 (some .boolean) (6, 132) [vR G 163, vI a1] M (fun A => kQi true G A (fun (r : Int) (N : Mem) => Inv true N ∧ Fr f_e_X12_aLetter M N ∧ ((r = 1 ∧ (N 163 18) = (M 163 18) ∧ (N 163 17) = (M 163 17)) ∨ (r = 0 ∧ (N 163 18) ≥ 1)) ∧ ((LO N M ∧ (r = 1 → R4 N)) ∧ (zLM Bt t q j a1 r (N 163 18) (N 163 17) ∧ (r = 1 → N 163 18 = M 163 18 ∧ N 163 17 = M 163 17 ∧ RT N Bt (j + 2) ∧ BQ N (upk q a1 (q a1 + 1)) ∧ NR N Bt (upk t (2 * a1 + q a1) (j + 1)) (upk q a1 (q a1 + 1)) ∧ BA N (upk q a1 (q a1 + 1))))))) := by
  refine kx_met (lo := [some (vR G 163), some (vI a1), none]) (by decide) (Nat.le_of_ble_eq_true rfl) rfl ?_
  intro X F hQ
  have hF_M : Fr f_e_X12_aLetter M M := Fr.rf _ _
  have h_1 := Inv.g hI_M kd_163 rfl 18 (a := (-2147483648)) (b := 2147483647) rfl rfl
  have hu_2 := hs.u.1
  have hu_3 := hs.u.2.1
  have ht_4 := tp_le (n := M 163 11) (TM.tx hB hI_M) (Inv.g hI_M kd_163 rfl 11 (a := 0) (b := 900) rfl rfl).1 (j := j) (by omega)
  have h_5 := Inv.g hI_M kd_163 rfl 11 (a := 0) (b := 900) rfl rfl
  have hb_6 : tbd Bt j = 0 := by have := tbd_c Bt j; omega
  have hz_7 := BQ.at (M := M) (q := q) (a := a1) hq (by omega)
  refine kx_aload_n 1 F 0 dX12_aLetter_0 rfl rfl rfl ?_
  refine kx_getr 4 F fl_X12_7 kd_163 rfl rfl (j := 0) rfl dX12_aLetter_1 (v := 164) (uq_164 (Inv.r hI_M kd_163 rfl 0 rfl rfl)) rfl ?_
  refine kx_sipush 7 F dX12_aLetter_4 (by decide) rfl ?_
  refine kx_iload_n 8 F 1 dX12_aLetter_7 rfl rfl rfl ?_
  refine kx_iadd 9 F (v := a1 + 1088) dX12_aLetter_8 (by omega) rfl ?_
  refine kx_iald 10 F kd_164 rfl rfl (by omega) (by decide) dX12_aLetter_9 (v := (M 164 (a1 + 1088))) rfl rfl ?_
  have ha_8 : atlo (a1 + 1088) = 0 ∧ athi (a1 + 1088) = 2 := at_n (a1 + 1088) 4 (by omega)
  have h_9 := Inv.g hI_M kd_164 rfl (a1 + 1088) (a := 0) (b := 2) ha_8.1 ha_8.2
  refine kx_istore_n 11 F 2 (lo' := [some (vR G 163), some (vI a1), some (vI (M 164 (a1 + 1088)))]) dX12_aLetter_10 rfl (by decide) rfl rfl rfl ?_
  refine kx_aload_n 12 F 0 dX12_aLetter_11 rfl rfl rfl ?_
  refine kx_getr 15 F fl_X12_7 kd_163 rfl rfl (j := 0) rfl dX12_aLetter_12 (v := 164) (uq_164 (Inv.r hI_M kd_163 rfl 0 rfl rfl)) rfl ?_
  refine kx_sipush 18 F dX12_aLetter_15 (by decide) rfl ?_
  refine kx_iald 19 F kd_164 rfl rfl (by omega) (by decide) dX12_aLetter_18 (v := (M 164 1091)) rfl rfl ?_
  have ha_10 : atlo 1091 = 0 ∧ athi 1091 = 2 := at_c 1091 4 (o := 3) (lo := 0) (hi := 2) (by omega) (by decide) (by decide) (by decide)
  have h_11 := Inv.g hI_M kd_164 rfl 1091 (a := 0) (b := 2) ha_10.1 ha_10.2
  refine kx_if_le 22 F 28 dX12_aLetter_19 (by decide) rfl (by omega) (fun h_12 => ?_) (fun h_12 => ?_)
  · refine kx_iload_n 29 F 2 dX12_aLetter_28 rfl rfl rfl ?_
    refine kx_iconst 30 F dX12_aLetter_29 rfl ?_
    refine kx_icmp_ne 33 F 40 dX12_aLetter_30 (by decide) rfl (by omega) (by decide) (fun h_13 => ?_) (fun h_13 => ?_)
    · refine kx_aload_n 41 F 0 dX12_aLetter_40 rfl rfl rfl ?_
      have hu_14 := hs.2.1
      refine kx_Vv 44 (ci := 0) F (As := []) (st := []) vd_X12_199 (e_X12_ahead G l M  hI_M Bt hB (j + 1) j (by omega) (by omega) hu_14) kd_163 rfl rfl rfl ⟨by decide, by decide⟩ rfl rfl (Nat.le_of_ble_eq_true rfl) dX12_aLetter_41 rfl ?_
      intro N_15 q_16
      obtain ⟨hI_N_15, hG_N_15, ht_N_15⟩ := q_16
      have hF_N_15 : Fr f_e_X12_aLetter M N_15 := Fr.c hF_M hG_N_15 rfl
      refine kx_aload_n 45 F 0 dX12_aLetter_44 rfl rfl rfl ?_
      refine kx_ldcS 47 F 11 (by decide) rfl rfl dX12_aLetter_45 rfl ?_
      refine kx_Vi 50 (ci := 0) F (As := [vT G 11]) (st := []) vd_X12_224 (e_X12_isName G l N_15  hI_N_15 Bt (TM.fr hB hF_N_15 rfl) (j + 1) (by omega) ht_N_15) kd_163 rfl rfl rfl ⟨by decide, by decide⟩ rfl rfl (Nat.le_of_ble_eq_true rfl) dX12_aLetter_47 rfl ?_
      intro r_17 N_18 q_19
      obtain ⟨rfl, q_19c⟩ := q_19
      rcases q_19c with q_19c | q_19c
      · refine kx_if_ne 53 F 59 dX12_aLetter_50 (by decide) rfl (by omega) (fun h_20 => ?_) (fun h_20 => (by exfalso; omega))
        refine kx_aload_n 60 F 0 dX12_aLetter_59 rfl rfl rfl ?_
        have hl_21 := lfn_b Bt t (q 0) (q 1) (q 2) (j + 1) (by omega) (by omega) (by omega)
        have e_22 : (N_15 164 1088) = (M 164 1088) := by rw [Fr.e hG_N_15 kd_164 _ rfl]
        have e_23 : (N_15 164 1089) = (M 164 1089) := by rw [Fr.e hG_N_15 kd_164 _ rfl]
        have e_24 : (N_15 164 1090) = (M 164 1090) := by rw [Fr.e hG_N_15 kd_164 _ rfl]
        have e_25 : (N_15 164 1091) = (M 164 1091) := by rw [Fr.e hG_N_15 kd_164 _ rfl]
        refine kx_Vi 63 (ci := 0) F (As := []) (st := []) vd_X12_228 (e_X12_letterHere G l N_15  hI_N_15 Bt (TM.fr hB hF_N_15 rfl) (j + 1) (by omega) ht_N_15 (nm_t (by omega) (by omega)) t q (NR.fr hN hG_N_15 rfl) (by omega)) kd_163 rfl rfl rfl ⟨by decide, by decide⟩ rfl rfl (Nat.le_of_ble_eq_true rfl) dX12_aLetter_60 rfl ?_
        intro r_26 N_27 q_28
        obtain ⟨rfl, q_28c⟩ := q_28
        refine kx_topi (e' := (lfn Bt t (q 0) (q 1) (q 2) (j + 1))) (by omega) ?_
        refine kx_iconst 64 F dX12_aLetter_63 rfl ?_
        refine kx_icmp_eq 67 F 73 dX12_aLetter_64 (by decide) rfl (by omega) (by decide) (fun h_29 => ?_) (fun h_29 => ?_)
        · refine kx_aload_n 74 F 0 dX12_aLetter_73 rfl rfl rfl ?_
          refine kx_getr 77 F fl_X12_13 kd_163 rfl rfl (j := 1) rfl dX12_aLetter_74 (v := 165) (uq_165 (Inv.r hI_N_15 kd_163 rfl 1 rfl rfl)) rfl ?_
          refine kx_bipush 79 F dX12_aLetter_77 (by decide) rfl ?_
          refine kx_iconst 80 F dX12_aLetter_79 rfl ?_
          refine kx_iload_n 81 F 1 dX12_aLetter_80 rfl rfl rfl ?_
          refine kx_imul 82 F (v := 2 * a1) dX12_aLetter_81 (by omega) rfl ?_
          refine kx_iadd 83 F (v := 2 * a1 + 24) dX12_aLetter_82 (by omega) rfl ?_
          refine kx_iload_n 84 F 2 dX12_aLetter_83 rfl rfl rfl ?_
          refine kx_iadd 85 F (v := 2 * a1 + (M 164 (a1 + 1088)) + 24) dX12_aLetter_84 (by omega) rfl ?_
          refine kx_aload_n 86 F 0 dX12_aLetter_85 rfl rfl rfl ?_
          refine kx_Vl 89 (ci := 0) F (As := []) (st := [vI (2 * a1 + (M 164 (a1 + 1088)) + 24), vR G 165]) vd_X12_212 (e_X12_nameHere G l N_15  hI_N_15 Bt (TM.fr hB hF_N_15 rfl) (j + 1) (by omega) ht_N_15 (nm_t (by omega) (by omega))) kd_163 rfl rfl rfl ⟨by decide, by decide⟩ rfl rfl (Nat.le_of_ble_eq_true rfl) dX12_aLetter_86 rfl ?_
          intro r_30 N_31 q_32
          obtain ⟨rfl, q_32c⟩ := q_32
          refine kx_last 90 F kd_165 rfl rfl (by omega) (by decide) dX12_aLetter_89 rfl ?_
          intro N_33 hM_N_33
          have hI_N_33 : Inv true N_33 := Inv.u hI_N_15 hM_N_33 kd_165 (a := (-9223372036854775808)) (b := 9223372036854775807) rfl rfl rfl (by omega)
          have hF_N_33 : Fr f_e_X12_aLetter M N_33 := Fr.u hF_N_15 hM_N_33 kd_165 rfl
          refine kx_aload_n 91 F 0 dX12_aLetter_90 rfl rfl rfl ?_
          refine kx_getr 94 F fl_X12_7 kd_163 rfl rfl (j := 0) rfl dX12_aLetter_91 (v := 164) (uq_164 (Inv.r hI_N_33 kd_163 rfl 0 rfl rfl)) rfl ?_
          refine kx_sipush 97 F dX12_aLetter_94 (by decide) rfl ?_
          refine kx_iload_n 98 F 1 dX12_aLetter_97 rfl rfl rfl ?_
          refine kx_iadd 99 F (v := a1 + 1088) dX12_aLetter_98 (by omega) rfl ?_
          refine kx_dup2 100 F dX12_aLetter_99 rfl rfl rfl ?_
          refine kx_iald 101 F kd_164 rfl rfl (by omega) (by decide) dX12_aLetter_100 (v := (M 164 (a1 + 1088))) (by rw [hM_N_33, mu_k kd_164 kd_165 rfl, Fr.e hG_N_15 kd_164 _ rfl]) rfl ?_
          refine kx_iconst 102 F dX12_aLetter_101 rfl ?_
          refine kx_iadd 103 F (v := (M 164 (a1 + 1088)) + 1) dX12_aLetter_102 rfl rfl ?_
          refine kx_iast 104 F kd_164 rfl rfl (by omega) (by decide) dX12_aLetter_103 rfl ?_
          intro N_34 hM_N_34
          have hI_N_34 : Inv true N_34 := Inv.u hI_N_33 hM_N_34 kd_164 (a := 0) (b := 2) ha_8.1 ha_8.2 rfl (by omega)
          have hF_N_34 : Fr f_e_X12_aLetter M N_34 := Fr.u hF_N_33 hM_N_34 kd_164 rfl
          refine kx_aload_n 105 F 0 dX12_aLetter_104 rfl rfl rfl ?_
          have hp_35 : RT N_33 Bt (j + 1) := RT.st ht_N_15 hM_N_33 kd_165 rfl
          have hp_36 : RT N_34 Bt (j + 1) := RT.st hp_35 hM_N_34 kd_164 rfl
          have hu_37 := hp_36.2.1
          refine kx_Vv 108 (ci := 0) F (As := []) (st := []) vd_X12_199 (e_X12_ahead G l N_34  hI_N_34 Bt (TM.fr hB hF_N_34 rfl) (j + 2) (j + 1) (by omega) (by omega) hu_37) kd_163 rfl rfl rfl ⟨by decide, by decide⟩ rfl rfl (Nat.le_of_ble_eq_true rfl) dX12_aLetter_105 rfl ?_
          intro N_38 q_39
          obtain ⟨hI_N_38, hG_N_38, ht_N_38⟩ := q_39
          have hF_N_38 : Fr f_e_X12_aLetter M N_38 := Fr.c hF_N_34 hG_N_38 rfl
          refine kx_iconst 109 F dX12_aLetter_108 rfl ?_
          have e_40 : (N_38 163 18) = (M 163 18) := by rw [Fr.e hG_N_38 kd_163 _ rfl, hM_N_34, mu_k kd_163 kd_164 rfl, hM_N_33, mu_k kd_163 kd_165 rfl, Fr.e hG_N_15 kd_163 _ rfl]
          have e_41 : (N_38 163 17) = (M 163 17) := by rw [Fr.e hG_N_38 kd_163 _ rfl, hM_N_34, mu_k kd_163 kd_164 rfl, hM_N_33, mu_k kd_163 kd_165 rfl, Fr.e hG_N_15 kd_163 _ rfl]
          have h_42 := Inv.g hI_M kd_163 rfl 17 (a := (-2147483648)) (b := 2147483647) rfl rfl
          have e_54 : (N_38 164 (a1 + 1088)) = (M 164 (a1 + 1088)) + 1 := by rw [Fr.e hG_N_38 kd_164 _ rfl, hM_N_34, mu_s]
          exact kx_zret F hQ (by omega) ⟨hI_N_38, hF_N_38, (Or.inl (by omega)), ⟨⟨(LO.fr (LO.sta (LO.st (LO.fr (LO.rf M) hG_N_15 rfl) hM_N_33 kd_165 rfl) hM_N_34 (by omega)) hG_N_38 rfl), (fun _ => (R4.fr (R4.sta (R4.st (R4.fr hR hG_N_15 rfl) hM_N_33 kd_165 rfl) hI_N_33 hM_N_34 (by omega)) hG_N_38 rfl))⟩, ⟨(Or.inr (Or.inr (Or.inr (Or.inr (Or.inr ((by omega))))))), (fun _ => ⟨by omega, by omega, ht_N_38, BQ.up hq (by omega) (by omega) rfl (by omega) (fun i hi => by rw [Fr.e hG_N_38 kd_164 _ rfl, hM_N_34, mu_i (by omega), hM_N_33, mu_k kd_164 kd_165 rfl, Fr.e hG_N_15 kd_164 _ rfl]), NR.up hN (by omega) (by omega) (by omega) (UP.fr (UP.ot (UP.of (fun j => by rw [Fr.e hG_N_15 kd_165 _ rfl]) hM_N_33) hM_N_34 kd_165 kd_164 rfl) hG_N_38 kd_165 rfl) (by omega) (nm_t (by omega) (by omega)), BA.nil (by rw [upk_o (by omega)]; omega)⟩)⟩⟩⟩ dX12_aLetter_109
        · refine kx_aload_n 68 F 0 dX12_aLetter_67 rfl rfl rfl ?_
          refine kx_iconst 69 F dX12_aLetter_68 rfl ?_
          have e_57 : (N_15 163 18) = (M 163 18) := by rw [Fr.e hG_N_15 kd_163 _ rfl]
          refine kx_Vi 72 (ci := 0) F (As := [vI 3]) (st := []) vd_X12_205 (e_X12_fails G l N_15 3 hI_N_15 (by omega) Bt (TM.fr hB hF_N_15 rfl) (j + 1) (by omega) ht_N_15) kd_163 rfl rfl rfl ⟨by decide, by decide⟩ rfl rfl (Nat.le_of_ble_eq_true rfl) dX12_aLetter_69 rfl ?_
          intro r_58 N_59 q_60
          obtain ⟨hI_N_59, hG_N_59, q_60c⟩ := q_60
          have hF_N_59 : Fr f_e_X12_aLetter M N_59 := Fr.c hF_N_15 hG_N_59 rfl
          have h_61 := Inv.g hI_N_59 kd_163 rfl 18 (a := (-2147483648)) (b := 2147483647) rfl rfl
          have h_62 := Inv.g hI_N_59 kd_163 rfl 17 (a := (-2147483648)) (b := 2147483647) rfl rfl
          rcases q_60c with q_60c | q_60c
          · exfalso; omega
          · exact kx_zret F hQ (by omega) ⟨hI_N_59, hF_N_59, (Or.inr (by omega)), ⟨⟨(LO.fr (LO.fr (LO.rf M) hG_N_15 rfl) hG_N_59 rfl), (fun h => absurd h (by omega))⟩, ⟨(Or.inr (Or.inr (Or.inr (Or.inr (Or.inl (by omega)))))), (fun h => absurd h (by omega))⟩⟩⟩ dX12_aLetter_72
      · refine kx_if_ne 53 F 59 dX12_aLetter_50 (by decide) rfl (by omega) (fun h_65 => (by exfalso; omega)) (fun h_65 => ?_)
        refine kx_aload_n 54 F 0 dX12_aLetter_53 rfl rfl rfl ?_
        refine kx_iconst 55 F dX12_aLetter_54 rfl ?_
        have e_66 : (N_15 163 18) = (M 163 18) := by rw [Fr.e hG_N_15 kd_163 _ rfl]
        refine kx_Vi 58 (ci := 0) F (As := [vI 2]) (st := []) vd_X12_205 (e_X12_fails G l N_15 2 hI_N_15 (by omega) Bt (TM.fr hB hF_N_15 rfl) (j + 1) (by omega) ht_N_15) kd_163 rfl rfl rfl ⟨by decide, by decide⟩ rfl rfl (Nat.le_of_ble_eq_true rfl) dX12_aLetter_55 rfl ?_
        intro r_67 N_68 q_69
        obtain ⟨hI_N_68, hG_N_68, q_69c⟩ := q_69
        have hF_N_68 : Fr f_e_X12_aLetter M N_68 := Fr.c hF_N_15 hG_N_68 rfl
        have h_70 := Inv.g hI_N_68 kd_163 rfl 18 (a := (-2147483648)) (b := 2147483647) rfl rfl
        have h_71 := Inv.g hI_N_68 kd_163 rfl 17 (a := (-2147483648)) (b := 2147483647) rfl rfl
        rcases q_69c with q_69c | q_69c
        · exact kx_zret F hQ (by omega) ⟨hI_N_68, hF_N_68, (Or.inr (by omega)), ⟨⟨(LO.fr (LO.fr (LO.rf M) hG_N_15 rfl) hG_N_68 rfl), (fun h => absurd h (by omega))⟩, ⟨(Or.inr (Or.inr (Or.inl (by omega)))), (fun h => absurd h (by omega))⟩⟩⟩ dX12_aLetter_58
        · exact kx_zret F hQ (by omega) ⟨hI_N_68, hF_N_68, (Or.inr (by omega)), ⟨⟨(LO.fr (LO.fr (LO.rf M) hG_N_15 rfl) hG_N_68 rfl), (fun h => absurd h (by omega))⟩, ⟨(Or.inr (Or.inr (Or.inr (Or.inl (by omega))))), (fun h => absurd h (by omega))⟩⟩⟩ dX12_aLetter_58
    · refine kx_aload_n 34 F 0 dX12_aLetter_33 rfl rfl rfl ?_
      refine kx_bipush 36 F dX12_aLetter_34 (by decide) rfl ?_
      refine kx_Vi 39 (ci := 0) F (As := [vI 6]) (st := []) vd_X12_205 (e_X12_fails G l M 6 hI_M (by omega) Bt hB j (by omega) hs) kd_163 rfl rfl rfl ⟨by decide, by decide⟩ rfl rfl (Nat.le_of_ble_eq_true rfl) dX12_aLetter_36 rfl ?_
      intro r_74 N_75 q_76
      obtain ⟨hI_N_75, hG_N_75, q_76c⟩ := q_76
      have hF_N_75 : Fr f_e_X12_aLetter M N_75 := Fr.c hF_M hG_N_75 rfl
      have h_77 := Inv.g hI_N_75 kd_163 rfl 18 (a := (-2147483648)) (b := 2147483647) rfl rfl
      have h_78 := Inv.g hI_N_75 kd_163 rfl 17 (a := (-2147483648)) (b := 2147483647) rfl rfl
      rcases q_76c with q_76c | q_76c
      · exfalso; omega
      · exact kx_zret F hQ (by omega) ⟨hI_N_75, hF_N_75, (Or.inr (by omega)), ⟨⟨(LO.fr (LO.rf M) hG_N_75 rfl), (fun h => absurd h (by omega))⟩, ⟨(Or.inr (Or.inl (by omega))), (fun h => absurd h (by omega))⟩⟩⟩ dX12_aLetter_39
  · refine kx_aload_n 23 F 0 dX12_aLetter_22 rfl rfl rfl ?_
    refine kx_iconst 24 F dX12_aLetter_23 rfl ?_
    refine kx_Vi 27 (ci := 0) F (As := [vI 5]) (st := []) vd_X12_205 (e_X12_fails G l M 5 hI_M (by omega) Bt hB j (by omega) hs) kd_163 rfl rfl rfl ⟨by decide, by decide⟩ rfl rfl (Nat.le_of_ble_eq_true rfl) dX12_aLetter_24 rfl ?_
    intro r_81 N_82 q_83
    obtain ⟨hI_N_82, hG_N_82, q_83c⟩ := q_83
    have hF_N_82 : Fr f_e_X12_aLetter M N_82 := Fr.c hF_M hG_N_82 rfl
    have h_84 := Inv.g hI_N_82 kd_163 rfl 18 (a := (-2147483648)) (b := 2147483647) rfl rfl
    have h_85 := Inv.g hI_N_82 kd_163 rfl 17 (a := (-2147483648)) (b := 2147483647) rfl rfl
    rcases q_83c with q_83c | q_83c
    · exfalso; omega
    · exact kx_zret F hQ (by omega) ⟨hI_N_82, hF_N_82, (Or.inr (by omega)), ⟨⟨(LO.fr (LO.rf M) hG_N_82 rfl), (fun h => absurd h (by omega))⟩, ⟨(Or.inl (by omega)), (fun h => absurd h (by omega))⟩⟩⟩ dX12_aLetter_27
