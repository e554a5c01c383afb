set_option maxHeartbeats 4000000 in
set_option maxRecDepth 100000 in
theorem e_wrongWord3 (G : KG) (l : Launch) (M : Mem) (a1 : Int) (a2 : Int) (hI_M : Inv true M) (hpre : -2147483648 ≤ a1 ∧ a1 ≤ 2147483647 ∧ -2147483648 ≤ a2 ∧ a2 ≤ 2147483647 ∧ 0 ≤ a1 ∧ a1 ≤ 3 ∧ 0 ≤ a2 ∧ a2 ≤ 20) : KC true G l yX12_wrongWord cX12_wrongWord 4 (some .int) (1, 25) [vR G 163, vI a1, vI a2] M (fun A => kQi true G A (fun (r : Int) (N : Mem) => M = N ∧ ((r = 0) ∨ (r ≥ 2 ∧ r ≤ 5)) ∧ ((r = 0 → WT M a1 a2) ∧ zWR 1 (M 168) a1 a2 (M 167 a1) (M 164 0 + M 164 1 + M 164 2) r))) := by
  refine kx_met (lo := [some (vR G 163), some (vI a1), some (vI a2), none]) (by decide) (Nat.le_of_ble_eq_true rfl) rfl ?_
  intro X F hQ
  have h_1 := Inv.g hI_M kd_164 rfl 0 (a := 0) (b := 2) (at_c 0 0 (o := 0) (lo := 0) (hi := 2) (by omega) (by decide) (by decide) (by decide)).1 (at_c 0 0 (o := 0) (lo := 0) (hi := 2) (by omega) (by decide) (by decide) (by decide)).2
  have h_2 := Inv.g hI_M kd_164 rfl 1 (a := 0) (b := 2) (at_c 1 0 (o := 1) (lo := 0) (hi := 2) (by omega) (by decide) (by decide) (by decide)).1 (at_c 1 0 (o := 1) (lo := 0) (hi := 2) (by omega) (by decide) (by decide) (by decide)).2
  have h_3 := Inv.g hI_M kd_164 rfl 2 (a := 0) (b := 2) (at_c 2 0 (o := 2) (lo := 0) (hi := 2) (by omega) (by decide) (by decide) (by decide)).1 (at_c 2 0 (o := 2) (lo := 0) (hi := 2) (by omega) (by decide) (by decide) (by decide)).2
  refine kx_aload_n 1 F 0 dX12_wrongWord_0 rfl rfl rfl ?_
  refine kx_getr 4 F fl_X12_24 kd_163 rfl rfl (j := 6) rfl dX12_wrongWord_1 (v := 167) (uq_167 (Inv.r hI_M kd_163 rfl 6 rfl rfl)) rfl ?_
  refine kx_iload_n 5 F 1 dX12_wrongWord_4 rfl rfl rfl ?_
  refine kx_iald 6 F kd_167 rfl rfl (by omega) (by decide) dX12_wrongWord_5 (v := (M 167 a1)) rfl rfl ?_
  have h_4 := Inv.g hI_M kd_167 rfl a1 (a := (-1)) (b := 60) rfl rfl
  refine kx_iconst 7 F dX12_wrongWord_6 rfl ?_
  refine kx_icmp_ne 10 F 12 dX12_wrongWord_7 (by decide) rfl (by omega) (by decide) (fun h_5 => ?_) (fun h_5 => ?_)
  · refine kx_aload_n 13 F 0 dX12_wrongWord_12 rfl rfl rfl ?_
    refine kx_getr 16 F fl_X12_24 kd_163 rfl rfl (j := 6) rfl dX12_wrongWord_13 (v := 167) (uq_167 (Inv.r hI_M kd_163 rfl 6 rfl rfl)) rfl ?_
    refine kx_iload_n 17 F 1 dX12_wrongWord_16 rfl rfl rfl ?_
    refine kx_iald 18 F kd_167 rfl rfl (by omega) (by decide) dX12_wrongWord_17 (v := (M 167 a1)) rfl rfl ?_
    refine kx_iload_n 19 F 2 dX12_wrongWord_18 rfl rfl rfl ?_
    refine kx_icmp_ge 22 F 24 dX12_wrongWord_19 (by decide) rfl (by omega) (by omega) (fun h_6 => ?_) (fun h_6 => ?_)
    · refine kx_iconst 25 F dX12_wrongWord_24 rfl ?_
      refine kx_istore_n 26 F 3 (lo' := [some (vR G 163), some (vI a1), some (vI a2), some (vI 0)]) dX12_wrongWord_25 rfl (by decide) rfl rfl rfl ?_
      have L_92 : ∀ (n_93 : Nat) (x3_91 : Int), WT M a1 x3_91 → zWL (M 168) a1 x3_91 (M 164 0 + M 164 1 + M 164 2) → 0 ≤ x3_91 ∧ x3_91 ≤ 20 ∧ x3_91 ≤ a2 → (20 - (x3_91)).toNat = n_93 → KJ true G X M 26 [some (vR G 163), some (vI a1), some (vI a2), some (vI x3_91)] [] := by
        intro n_93
        refine Nat.strongRecOn n_93 ?_
        intro n_93 ih_94 x3_91 hp_97 hp_98 h_95 hm_96
        refine kx_iload_n 27 F 3 dX12_wrongWord_26 rfl rfl rfl ?_
        refine kx_iload_n 28 F 2 dX12_wrongWord_27 rfl rfl rfl ?_
        refine kx_icmp_ge 31 F 64 dX12_wrongWord_28 (by decide) rfl (by omega) (by omega) (fun h_99 => ?_) (fun h_99 => ?_)
        · refine kx_iconst 65 F dX12_wrongWord_64 rfl ?_
          exact kx_iret F hQ ⟨rfl, (by omega), ⟨(fun _ i h1 h2 => hp_97 i h1 (by omega)), (Or.inl ⟨by omega, by omega, ⟨by omega, by omega, by omega, by omega, by omega, by omega, fun k h0 h1 => hp_98 k h0 (by omega)⟩⟩)⟩⟩ dX12_wrongWord_65
        · refine kx_aload_n 32 F 0 dX12_wrongWord_31 rfl rfl rfl ?_
          refine kx_getr 35 F fl_X12_27 kd_163 rfl rfl (j := 7) rfl dX12_wrongWord_32 (v := 168) (uq_168 (Inv.r hI_M kd_163 rfl 7 rfl rfl)) rfl ?_
          refine kx_bipush 37 F dX12_wrongWord_35 (by decide) rfl ?_
          refine kx_iload_n 38 F 1 dX12_wrongWord_37 rfl rfl rfl ?_
          refine kx_imul 39 F (v := 60 * a1) dX12_wrongWord_38 (by omega) rfl ?_
          refine kx_iload_n 40 F 3 dX12_wrongWord_39 rfl rfl rfl ?_
          refine kx_iadd 41 F (v := 60 * a1 + x3_91) dX12_wrongWord_40 rfl rfl ?_
          refine kx_lald 42 F kd_168 rfl rfl (by omega) (by decide) dX12_wrongWord_41 (v := (M 168 (60 * a1 + x3_91))) rfl rfl ?_
          have h_100 := Inv.g hI_M kd_168 rfl (60 * a1 + x3_91) (a := (-9223372036854775808)) (b := 9223372036854775807) rfl rfl
          refine kx_lconst 43 (z := 0) F dX12_wrongWord_42 (by decide) rfl ?_
          refine kx_aload_n 44 F 0 dX12_wrongWord_43 rfl rfl rfl ?_
          refine kx_Vi 47 (ci := 0) F (As := []) (st := [vL 0, vL (M 168 (60 * a1 + x3_91))]) vd_X12_285 (e_lettersX G l M  hI_M) kd_163 rfl rfl rfl ⟨by decide, by decide⟩ rfl rfl (Nat.le_of_ble_eq_true rfl) dX12_wrongWord_44 rfl ?_
          intro r_101 N_102 q_103
          obtain ⟨rfl, q_103c⟩ := q_103
          refine kx_topi (e' := (M 164 0) + (M 164 1) + (M 164 2)) (by omega) ?_
          refine kx_i2l 48 F dX12_wrongWord_47 (by omega) rfl ?_
          refine kx_lconst 49 (z := 1) F dX12_wrongWord_48 (by decide) rfl ?_
          refine kx_lsub 50 F (v := (M 164 0) + (M 164 1) + (M 164 2) - 1) dX12_wrongWord_49 rfl rfl ?_
          refine kx_Si 53 F (As := [vL (M 168 (60 * a1 + x3_91)), vL 0, vL ((M 164 0) + (M 164 1) + (M 164 2) - 1)]) (st := []) sd_X12_338 (e_isFrom3 G l M (M 168 (60 * a1 + x3_91)) 0 ((M 164 0) + (M 164 1) + (M 164 2) - 1) hI_M (by omega)) ⟨by decide, by decide⟩ rfl rfl (Nat.le_of_ble_eq_true rfl) dX12_wrongWord_50 rfl ?_
          intro r_104 N_105 q_106
          obtain ⟨rfl, q_106c⟩ := q_106
          rcases q_106c with q_106c | q_106c | q_106c
          · refine kx_if_ne 56 F 58 dX12_wrongWord_53 (by decide) rfl (by omega) (fun h_107 => ?_) (fun h_107 => (by exfalso; omega))
            refine kx_iinc 61 F 3 (v := x3_91 + 1) (lo' := [some (vR G 163), some (vI a1), some (vI a2), some (vI (x3_91 + 1))]) dX12_wrongWord_58 rfl (by omega) (by decide) rfl rfl rfl ?_
            refine kx_goto 26 F dX12_wrongWord_61 (by decide) ?_
            exact ih_94 _ (by omega) (x3_91 + 1) (fun i h1 h2 => by
                rcases (by omega : i < x3_91 ∨ i = x3_91) with h | h
                · exact hp_97 i h1 h
                · subst h; exact ⟨by omega, by omega⟩) (zWL.step hp_98 (by omega) (by omega) (by omega)) (by omega) rfl
          · refine kx_if_ne 56 F 58 dX12_wrongWord_53 (by decide) rfl (by omega) (fun h_108 => (by exfalso; omega)) (fun h_108 => ?_)
            refine kx_iconst 57 F dX12_wrongWord_56 rfl ?_
            exact kx_iret F hQ ⟨rfl, (by omega), ⟨(fun h => absurd h (by decide)), (Or.inr ⟨by omega, fun h => by have w := h.2.2.2.2.2.2.2 x3_91 (by omega) (by omega); omega⟩)⟩⟩ dX12_wrongWord_57
          · refine kx_if_ne 56 F 58 dX12_wrongWord_53 (by decide) rfl (by omega) (fun h_109 => (by exfalso; omega)) (fun h_109 => ?_)
            refine kx_iconst 57 F dX12_wrongWord_56 rfl ?_
            exact kx_iret F hQ ⟨rfl, (by omega), ⟨(fun h => absurd h (by decide)), (Or.inr ⟨by omega, fun h => by have w := h.2.2.2.2.2.2.2 x3_91 (by omega) (by omega); omega⟩)⟩⟩ dX12_wrongWord_57
      exact L_92 _ 0 (fun i h1 h2 => absurd h1 (by omega)) zWL.nil (by omega) rfl
    · refine kx_iconst 23 F dX12_wrongWord_22 rfl ?_
      exact kx_iret F hQ ⟨rfl, (by omega), ⟨(fun h => absurd h (by decide)), (Or.inr ⟨by omega, fun h => by have h5 := h.2.2.2.2.2.1; have h6 := h.2.2.2.2.2.2.1; clear h; omega⟩)⟩⟩ dX12_wrongWord_23
  · refine kx_iconst 11 F dX12_wrongWord_10 rfl ?_
    exact kx_iret F hQ ⟨rfl, (by omega), ⟨(fun h => absurd h (by decide)), (Or.inr ⟨by omega, fun h => by have h5 := h.2.2.2.2.2.1; have h6 := h.2.2.2.2.2.2.1; clear h; omega⟩)⟩⟩ dX12_wrongWord_11
abbrev f_e_laysPartners3 : List (Nat × Int) := [(64, 30), (64, 31), (64, 32), (76, -1), (80, -1)]
set_option maxHeartbeats 4000000 in
set_option maxRecDepth 100000 in
theorem e_laysPartners3 (G : KG) (l : Launch) (M : Mem) (a1 : Int) (a2 : Int) (hI_M : Inv true M) (hpre : -2147483648 ≤ a1 ∧ a1 ≤ 2147483647 ∧ -2147483648 ≤ a2 ∧ a2 ≤ 2147483647 ∧ 0 ≤ a1 ∧ a1 ≤ 3 ∧ 0 ≤ a2 ∧ a2 ≤ 20) (hW : WT M a1 a2) : KC true G l yX12_laysPartners cX12_laysPartners 5 none (2, 43) [vR G 163, vI a1, vI a2] M (fun A => kQv true G A (fun (N : Mem) => Inv true N ∧ Fr f_e_laysPartners3 M N ∧ (zDJ (fun j => M 168 (60 * a1 + j)) (M 164 0) (M 164 0 + M 164 1) a2 (N 163 30) (N 163 31) (N 163 32)))) := by
  refine kx_met (lo := [some (vR G 163), some (vI a1), some (vI a2), none, none]) (by decide) (Nat.le_of_ble_eq_true rfl) rfl ?_
  intro X F hQ
  have hF_M : Fr f_e_laysPartners3 M M := Fr.rf _ _
  refine kx_aload_n 1 F 0 dX12_laysPartners_0 rfl rfl rfl ?_
  refine kx_iconst 2 F dX12_laysPartners_1 rfl ?_
  refine kx_puti 5 F fw_X12_388 rfl kd_163 rfl rfl (j := 30) rfl dX12_laysPartners_2 rfl ?_
  intro N_1 hM_N_1
  have hI_N_1 : Inv true N_1 := Inv.u hI_M hM_N_1 kd_163 (a := 0) (b := 20) rfl rfl rfl (by omega)
  have hF_N_1 : Fr f_e_laysPartners3 M N_1 := Fr.u hF_M hM_N_1 kd_163 rfl
  refine kx_aload_n 6 F 0 dX12_laysPartners_5 rfl rfl rfl ?_
  refine kx_iconst 7 F dX12_laysPartners_6 rfl ?_
  refine kx_puti 10 F fw_X12_391 rfl kd_163 rfl rfl (j := 31) rfl dX12_laysPartners_7 rfl ?_
  intro N_2 hM_N_2
  have hI_N_2 : Inv true N_2 := Inv.u hI_N_1 hM_N_2 kd_163 (a := 0) (b := 20) rfl rfl rfl (by omega)
  have hF_N_2 : Fr f_e_laysPartners3 M N_2 := Fr.u hF_N_1 hM_N_2 kd_163 rfl
  refine kx_aload_n 11 F 0 dX12_laysPartners_10 rfl rfl rfl ?_
  refine kx_iconst 12 F dX12_laysPartners_11 rfl ?_
  refine kx_puti 15 F fw_X12_394 rfl kd_163 rfl rfl (j := 32) rfl dX12_laysPartners_12 rfl ?_
  intro N_3 hM_N_3
  have hI_N_3 : Inv true N_3 := Inv.u hI_N_2 hM_N_3 kd_163 (a := 0) (b := 20) rfl rfl rfl (by omega)
  have hF_N_3 : Fr f_e_laysPartners3 M N_3 := Fr.u hF_N_2 hM_N_3 kd_163 rfl
  refine kx_iconst 16 F dX12_laysPartners_15 rfl ?_
  refine kx_istore_n 17 F 3 (lo' := [some (vR G 163), some (vI a1), some (vI a2), some (vI 0), none]) dX12_laysPartners_16 rfl (by decide) rfl rfl rfl ?_
  have L_429 : ∀ (n_430 : Nat) (x3_427 : Int) (N_428 : Mem), Inv true N_428 → Fr f_e_laysPartners3 M N_428 → zDJ (fun j => M 168 (60 * a1 + j)) (M 164 0) (M 164 0 + M 164 1) x3_427 (N_428 163 30) (N_428 163 31) (N_428 163 32) → 0 ≤ x3_427 ∧ x3_427 ≤ 20 ∧ (N_428 163 30) ≤ x3_427 ∧ (N_428 163 31) ≤ x3_427 ∧ (N_428 163 32) ≤ x3_427 ∧ (N_428 163 30) ≥ 0 ∧ (N_428 163 31) ≥ 0 ∧ (N_428 163 32) ≥ 0 ∧ x3_427 ≤ a2 → (20 - (x3_427)).toNat = n_430 → KJ true G X N_428 17 [some (vR G 163), some (vI a1), some (vI a2), some (vI x3_427), none] [] := by
    intro n_430
    refine Nat.strongRecOn n_430 ?_
    intro n_430 ih_431 x3_427 N_428 hI_N_428 hF_N_428 hp_434 h_432 hm_433
    refine kx_iload_n 18 F 3 dX12_laysPartners_17 rfl rfl rfl ?_
    refine kx_iload_n 19 F 2 dX12_laysPartners_18 rfl rfl rfl ?_
    refine kx_icmp_ge 22 F 153 dX12_laysPartners_19 (by decide) rfl (by omega) (by omega) (fun h_435 => ?_) (fun h_435 => ?_)
    · exact kx_vret F hQ ⟨hI_N_428, hF_N_428, (by have h := hp_434; rw [show x3_427 = a2 by omega] at h; exact h)⟩ dX12_laysPartners_153
    · have h_436 := hW x3_427 (by omega) (by omega)
      have h_437 := Inv.g hI_M kd_164 rfl 0 (a := 0) (b := 2) (at_c 0 0 (o := 0) (lo := 0) (hi := 2) (by omega) (by decide) (by decide) (by decide)).1 (at_c 0 0 (o := 0) (lo := 0) (hi := 2) (by omega) (by decide) (by decide) (by decide)).2
      have h_438 := Inv.g hI_M kd_164 rfl 1 (a := 0) (b := 2) (at_c 1 0 (o := 1) (lo := 0) (hi := 2) (by omega) (by decide) (by decide) (by decide)).1 (at_c 1 0 (o := 1) (lo := 0) (hi := 2) (by omega) (by decide) (by decide) (by decide)).2
      have h_439 := Inv.g hI_M kd_164 rfl 2 (a := 0) (b := 2) (at_c 2 0 (o := 2) (lo := 0) (hi := 2) (by omega) (by decide) (by decide) (by decide)).1 (at_c 2 0 (o := 2) (lo := 0) (hi := 2) (by omega) (by decide) (by decide) (by decide)).2
      refine kx_aload_n 23 F 0 dX12_laysPartners_22 rfl rfl rfl ?_
      refine kx_aload_n 24 F 0 dX12_laysPartners_23 rfl rfl rfl ?_
      refine kx_iload_n 25 F 1 dX12_laysPartners_24 rfl rfl rfl ?_
      refine kx_iload_n 26 F 3 dX12_laysPartners_25 rfl rfl rfl ?_
      have e_440 : (N_428 168 (60 * a1 + x3_427)) = (M 168 (60 * a1 + x3_427)) := by rw [Fr.e hF_N_428 kd_168 _ rfl]
      refine kx_Vi 29 (ci := 0) F (As := [vI a1, vI x3_427]) (st := [vR G 163]) vd_X12_349 (c_letterAtE G l N_428 a1 x3_427 hI_N_428 (by omega)) kd_163 rfl rfl rfl ⟨by decide, by decide⟩ rfl rfl (Nat.le_of_ble_eq_true rfl) dX12_laysPartners_26 rfl ?_
      intro r_442 N_443 q_444
      obtain ⟨rfl, q_444c⟩ := q_444
      refine kx_topi (e' := (N_428 168 (60 * a1 + x3_427))) (by omega) ?_
      refine kx_Vi 32 (ci := 0) F (As := [vI (N_428 168 (60 * a1 + x3_427))]) (st := []) vd_X12_297 (c_sortNowE G l N_428 (N_428 168 (60 * a1 + x3_427)) hI_N_428 (by omega)) kd_163 rfl rfl rfl ⟨by decide, by decide⟩ rfl rfl (Nat.le_of_ble_eq_true rfl) dX12_laysPartners_29 rfl ?_
      intro r_447 N_448 q_449
      obtain ⟨rfl, q_449c⟩ := q_449
      have e_451 : (N_428 164 0) = (M 164 0) := by rw [Fr.e hF_N_428 kd_164 _ rfl]
      have e_460 : (N_428 164 1) = (M 164 1) := by rw [Fr.e hF_N_428 kd_164 _ rfl]
      rcases q_449c with q_449c | q_449c | q_449c
      · refine kx_istore 34 F 4 (lo' := [some (vR G 163), some (vI a1), some (vI a2), some (vI x3_427), some (vI r_447)]) dX12_laysPartners_32 (by decide) rfl rfl rfl ?_
        refine kx_aload_n 35 F 0 dX12_laysPartners_34 rfl rfl rfl ?_
        refine kx_getr 38 F fl_X12_71 kd_163 rfl rfl (j := 29) rfl dX12_laysPartners_35 (v := 180) (uq_180 (Inv.r hI_N_428 kd_163 rfl 29 rfl rfl)) rfl ?_
        refine kx_iload_n 39 F 3 dX12_laysPartners_38 rfl rfl rfl ?_
        refine kx_iconst 40 F dX12_laysPartners_39 rfl ?_
        refine kx_iast 41 F kd_180 rfl rfl (by omega) (by decide) dX12_laysPartners_40 rfl ?_
        intro N_470 hM_N_470
        have hI_N_470 : Inv true N_470 := Inv.u hI_N_428 hM_N_470 kd_180 (a := (-1)) (b := 19) rfl rfl rfl (by omega)
        have hF_N_470 : Fr f_e_laysPartners3 M N_470 := Fr.u hF_N_428 hM_N_470 kd_180 rfl
        refine kx_iload 43 F 4 dX12_laysPartners_41 rfl rfl ?_
        refine kx_if_ne 46 F 81 dX12_laysPartners_43 (by decide) rfl (by omega) (fun h_471 => (by exfalso; omega)) (fun h_471 => ?_)
        refine kx_aload_n 47 F 0 dX12_laysPartners_46 rfl rfl rfl ?_
        refine kx_getr 50 F fl_X12_56 kd_163 rfl rfl (j := 24) rfl dX12_laysPartners_47 (v := 175) (uq_175 (Inv.r hI_N_470 kd_163 rfl 24 rfl rfl)) rfl ?_
        refine kx_aload_n 51 F 0 dX12_laysPartners_50 rfl rfl rfl ?_
        refine kx_geti 54 F fl_X12_388 kd_163 rfl rfl (j := 30) rfl dX12_laysPartners_51 (v := (N_428 163 30)) (by rw [hM_N_470, mu_k kd_163 kd_180 rfl]) rfl ?_
        have h_472 := Inv.g hI_N_428 kd_163 rfl 30 (a := 0) (b := 20) rfl rfl
        refine kx_iload_n 55 F 3 dX12_laysPartners_54 rfl rfl rfl ?_
        refine kx_iast 56 F kd_175 rfl rfl (by omega) (by decide) dX12_laysPartners_55 rfl ?_
        intro N_473 hM_N_473
        have hI_N_473 : Inv true N_473 := Inv.u hI_N_470 hM_N_473 kd_175 (a := 0) (b := 19) rfl rfl rfl (by omega)
        have hF_N_473 : Fr f_e_laysPartners3 M N_473 := Fr.u hF_N_470 hM_N_473 kd_175 rfl
        refine kx_aload_n 57 F 0 dX12_laysPartners_56 rfl rfl rfl ?_
        refine kx_dup 58 F dX12_laysPartners_57 rfl rfl ?_
        refine kx_geti 61 F fl_X12_388 kd_163 rfl rfl (j := 30) rfl dX12_laysPartners_58 (v := (N_428 163 30)) (by rw [hM_N_473, mu_k kd_163 kd_175 rfl, hM_N_470, mu_k kd_163 kd_180 rfl]) rfl ?_
        refine kx_iconst 62 F dX12_laysPartners_61 rfl ?_
        refine kx_iadd 63 F (v := (N_428 163 30) + 1) dX12_laysPartners_62 rfl rfl ?_
        refine kx_puti 66 F fw_X12_388 rfl kd_163 rfl rfl (j := 30) rfl dX12_laysPartners_63 rfl ?_
        intro N_474 hM_N_474
        have hI_N_474 : Inv true N_474 := Inv.u hI_N_473 hM_N_474 kd_163 (a := 0) (b := 20) rfl rfl rfl (by omega)
        have hF_N_474 : Fr f_e_laysPartners3 M N_474 := Fr.u hF_N_473 hM_N_474 kd_163 rfl
        refine kx_aload_n 67 F 0 dX12_laysPartners_66 rfl rfl rfl ?_
        refine kx_aload_n 68 F 0 dX12_laysPartners_67 rfl rfl rfl ?_
        refine kx_geti 71 F fl_X12_394 kd_163 rfl rfl (j := 32) rfl dX12_laysPartners_68 (v := (N_428 163 32)) (by rw [hM_N_474, mu_i (by omega), hM_N_473, mu_k kd_163 kd_175 rfl, hM_N_470, mu_k kd_163 kd_180 rfl]) rfl ?_
        have h_475 := Inv.g hI_N_428 kd_163 rfl 32 (a := 0) (b := 20) rfl rfl
        refine kx_aload_n 72 F 0 dX12_laysPartners_71 rfl rfl rfl ?_
        refine kx_geti 75 F fl_X12_388 kd_163 rfl rfl (j := 30) rfl dX12_laysPartners_72 (v := (N_428 163 30) + 1) (by rw [hM_N_474, mu_s]) rfl ?_
        refine kx_mmax 78 F dX12_laysPartners_75 (tt lm_2106 rfl) (tt lm_480 rfl) (tt lm_180 rfl) (tt lm_481 rfl) (by decide) (Nat.le_of_ble_eq_true rfl) (by omega) (by omega) rfl (fun w_476 h_477 => ?_)
        refine kx_puti 81 F fw_X12_394 rfl kd_163 rfl rfl (j := 32) rfl dX12_laysPartners_78 rfl ?_
        intro N_478 hM_N_478
        have hI_N_478 : Inv true N_478 := Inv.u hI_N_474 hM_N_478 kd_163 (a := 0) (b := 20) rfl rfl rfl (by omega)
        have hF_N_478 : Fr f_e_laysPartners3 M N_478 := Fr.u hF_N_474 hM_N_478 kd_163 rfl
        refine kx_iload 83 F 4 dX12_laysPartners_81 rfl rfl ?_
        refine kx_iconst 84 F dX12_laysPartners_83 rfl ?_
        refine kx_icmp_eq 87 F 90 dX12_laysPartners_84 (by decide) rfl (by omega) (by decide) (fun h_479 => (by exfalso; omega)) (fun h_479 => ?_)
        refine kx_goto 147 F dX12_laysPartners_87 (by decide) ?_
        refine kx_iinc 150 F 3 (v := x3_427 + 1) (lo' := [some (vR G 163), some (vI a1), some (vI a2), some (vI (x3_427 + 1)), some (vI r_447)]) dX12_laysPartners_147 rfl (by omega) (by decide) rfl rfl rfl ?_
        refine kx_goto 17 F dX12_laysPartners_150 (by decide) ?_
        refine kx_drop 4 (lo' := [some (vR G 163), some (vI a1), some (vI a2), some (vI (x3_427 + 1)), none]) rfl ?_
        have e_480 : (N_478 163 30) = (N_428 163 30) + 1 := by rw [hM_N_478, mu_i (by omega), hM_N_474, mu_s]
        have e_481 : (N_478 163 31) = (N_428 163 31) := by rw [hM_N_478, mu_i (by omega), hM_N_474, mu_i (by omega), hM_N_473, mu_k kd_163 kd_175 rfl, hM_N_470, mu_k kd_163 kd_180 rfl]
        have h_482 := Inv.g hI_N_428 kd_163 rfl 31 (a := 0) (b := 20) rfl rfl
        have e_483 : (N_478 163 32) = w_476 := by rw [hM_N_478, mu_s]
        exact ih_431 _ (by omega) (x3_427 + 1) N_478 hI_N_478 hF_N_478 (by rw [show N_478 163 31 = N_428 163 31 by omega]; exact zDJ.c hp_434 (by omega) (by have h : M 168 (60 * a1 + x3_427) < (M 164 0) := (by omega); exact h) (by omega) (by omega)) (by omega) rfl
      · refine kx_istore 34 F 4 (lo' := [some (vR G 163), some (vI a1), some (vI a2), some (vI x3_427), some (vI r_447)]) dX12_laysPartners_32 (by decide) rfl rfl rfl ?_
        refine kx_aload_n 35 F 0 dX12_laysPartners_34 rfl rfl rfl ?_
        refine kx_getr 38 F fl_X12_71 kd_163 rfl rfl (j := 29) rfl dX12_laysPartners_35 (v := 180) (uq_180 (Inv.r hI_N_428 kd_163 rfl 29 rfl rfl)) rfl ?_
        refine kx_iload_n 39 F 3 dX12_laysPartners_38 rfl rfl rfl ?_
        refine kx_iconst 40 F dX12_laysPartners_39 rfl ?_
        refine kx_iast 41 F kd_180 rfl rfl (by omega) (by decide) dX12_laysPartners_40 rfl ?_
        intro N_490 hM_N_490
        have hI_N_490 : Inv true N_490 := Inv.u hI_N_428 hM_N_490 kd_180 (a := (-1)) (b := 19) rfl rfl rfl (by omega)
        have hF_N_490 : Fr f_e_laysPartners3 M N_490 := Fr.u hF_N_428 hM_N_490 kd_180 rfl
        refine kx_iload 43 F 4 dX12_laysPartners_41 rfl rfl ?_
        refine kx_if_ne 46 F 81 dX12_laysPartners_43 (by decide) rfl (by omega) (fun h_491 => ?_) (fun h_491 => (by exfalso; omega))
        refine kx_iload 83 F 4 dX12_laysPartners_81 rfl rfl ?_
        refine kx_iconst 84 F dX12_laysPartners_83 rfl ?_
        refine kx_icmp_eq 87 F 90 dX12_laysPartners_84 (by decide) rfl (by omega) (by decide) (fun h_492 => ?_) (fun h_492 => (by exfalso; omega))
        refine kx_aload_n 91 F 0 dX12_laysPartners_90 rfl rfl rfl ?_
        refine kx_geti 94 F fl_X12_388 kd_163 rfl rfl (j := 30) rfl dX12_laysPartners_91 (v := (N_428 163 30)) (by rw [hM_N_490, mu_k kd_163 kd_180 rfl]) rfl ?_
        have h_493 := Inv.g hI_N_428 kd_163 rfl 30 (a := 0) (b := 20) rfl rfl
        refine kx_if_ne 97 F 110 dX12_laysPartners_94 (by decide) rfl (by omega) (fun h_494 => ?_) (fun h_494 => ?_)
        · refine kx_aload_n 111 F 0 dX12_laysPartners_110 rfl rfl rfl ?_
          refine kx_dup 112 F dX12_laysPartners_111 rfl rfl ?_
          refine kx_geti 115 F fl_X12_388 kd_163 rfl rfl (j := 30) rfl dX12_laysPartners_112 (v := (N_428 163 30)) (by rw [hM_N_490, mu_k kd_163 kd_180 rfl]) rfl ?_
          refine kx_iconst 116 F dX12_laysPartners_115 rfl ?_
          refine kx_isub 117 F (v := (N_428 163 30) - 1) dX12_laysPartners_116 rfl rfl ?_
          refine kx_puti 120 F fw_X12_388 rfl kd_163 rfl rfl (j := 30) rfl dX12_laysPartners_117 rfl ?_
          intro N_495 hM_N_495
          have hI_N_495 : Inv true N_495 := Inv.u hI_N_490 hM_N_495 kd_163 (a := 0) (b := 20) rfl rfl rfl (by omega)
          have hF_N_495 : Fr f_e_laysPartners3 M N_495 := Fr.u hF_N_490 hM_N_495 kd_163 rfl
          refine kx_aload_n 121 F 0 dX12_laysPartners_120 rfl rfl rfl ?_
          refine kx_getr 124 F fl_X12_71 kd_163 rfl rfl (j := 29) rfl dX12_laysPartners_121 (v := 180) (uq_180 (Inv.r hI_N_495 kd_163 rfl 29 rfl rfl)) rfl ?_
          refine kx_iload_n 125 F 3 dX12_laysPartners_124 rfl rfl rfl ?_
          refine kx_aload_n 126 F 0 dX12_laysPartners_125 rfl rfl rfl ?_
          refine kx_getr 129 F fl_X12_56 kd_163 rfl rfl (j := 24) rfl dX12_laysPartners_126 (v := 175) (uq_175 (Inv.r hI_N_495 kd_163 rfl 24 rfl rfl)) rfl ?_
          refine kx_aload_n 130 F 0 dX12_laysPartners_129 rfl rfl rfl ?_
          refine kx_geti 133 F fl_X12_388 kd_163 rfl rfl (j := 30) rfl dX12_laysPartners_130 (v := (N_428 163 30) - 1) (by rw [hM_N_495, mu_s]) rfl ?_
          refine kx_iald 134 F kd_175 rfl rfl (by omega) (by decide) dX12_laysPartners_133 (v := (N_428 175 ((N_428 163 30) - 1))) (by rw [hM_N_495, mu_k kd_175 kd_163 rfl, hM_N_490, mu_k kd_175 kd_180 rfl]) rfl ?_
          have h_496 := Inv.g hI_N_428 kd_175 rfl ((N_428 163 30) - 1) (a := 0) (b := 19) rfl rfl
          refine kx_iast 135 F kd_180 rfl rfl (by omega) (by decide) dX12_laysPartners_134 rfl ?_
          intro N_497 hM_N_497
          have hI_N_497 : Inv true N_497 := Inv.u hI_N_495 hM_N_497 kd_180 (a := (-1)) (b := 19) rfl rfl rfl (by omega)
          have hF_N_497 : Fr f_e_laysPartners3 M N_497 := Fr.u hF_N_495 hM_N_497 kd_180 rfl
          refine kx_aload_n 136 F 0 dX12_laysPartners_135 rfl rfl rfl ?_
          refine kx_getr 139 F fl_X12_71 kd_163 rfl rfl (j := 29) rfl dX12_laysPartners_136 (v := 180) (uq_180 (Inv.r hI_N_497 kd_163 rfl 29 rfl rfl)) rfl ?_
          refine kx_aload_n 140 F 0 dX12_laysPartners_139 rfl rfl rfl ?_
          refine kx_getr 143 F fl_X12_71 kd_163 rfl rfl (j := 29) rfl dX12_laysPartners_140 (v := 180) (uq_180 (Inv.r hI_N_497 kd_163 rfl 29 rfl rfl)) rfl ?_
          refine kx_iload_n 144 F 3 dX12_laysPartners_143 rfl rfl rfl ?_
          refine kx_iald 145 F kd_180 rfl rfl (by omega) (by decide) dX12_laysPartners_144 (v := (N_428 175 ((N_428 163 30) - 1))) (by rw [hM_N_497, mu_s]) rfl ?_
          refine kx_iload_n 146 F 3 dX12_laysPartners_145 rfl rfl rfl ?_
          refine kx_iast 147 F kd_180 rfl rfl (by omega) (by decide) dX12_laysPartners_146 rfl ?_
          intro N_498 hM_N_498
          have hI_N_498 : Inv true N_498 := Inv.u hI_N_497 hM_N_498 kd_180 (a := (-1)) (b := 19) rfl rfl rfl (by omega)
          have hF_N_498 : Fr f_e_laysPartners3 M N_498 := Fr.u hF_N_497 hM_N_498 kd_180 rfl
          refine kx_iinc 150 F 3 (v := x3_427 + 1) (lo' := [some (vR G 163), some (vI a1), some (vI a2), some (vI (x3_427 + 1)), some (vI r_447)]) dX12_laysPartners_147 rfl (by omega) (by decide) rfl rfl rfl ?_
          refine kx_goto 17 F dX12_laysPartners_150 (by decide) ?_
          refine kx_drop 4 (lo' := [some (vR G 163), some (vI a1), some (vI a2), some (vI (x3_427 + 1)), none]) rfl ?_
          have e_499 : (N_498 163 30) = (N_428 163 30) - 1 := by rw [hM_N_498, mu_k kd_163 kd_180 rfl, hM_N_497, mu_k kd_163 kd_180 rfl, hM_N_495, mu_s]
          have e_500 : (N_498 163 31) = (N_428 163 31) := by rw [hM_N_498, mu_k kd_163 kd_180 rfl, hM_N_497, mu_k kd_163 kd_180 rfl, hM_N_495, mu_i (by omega), hM_N_490, mu_k kd_163 kd_180 rfl]
          have h_501 := Inv.g hI_N_428 kd_163 rfl 31 (a := 0) (b := 20) rfl rfl
          have e_502 : (N_498 163 32) = (N_428 163 32) := by rw [hM_N_498, mu_k kd_163 kd_180 rfl, hM_N_497, mu_k kd_163 kd_180 rfl, hM_N_495, mu_i (by omega), hM_N_490, mu_k kd_163 kd_180 rfl]
          have h_503 := Inv.g hI_N_428 kd_163 rfl 32 (a := 0) (b := 20) rfl rfl
          exact ih_431 _ (by omega) (x3_427 + 1) N_498 hI_N_498 hF_N_498 (by rw [show N_498 163 31 = N_428 163 31 by omega, show N_498 163 32 = N_428 163 32 by omega]; exact zDJ.r hp_434 (by omega) (by have h : ¬ M 168 (60 * a1 + x3_427) < (M 164 0) := (by omega); exact h) (by have h : M 168 (60 * a1 + x3_427) < (M 164 0 + M 164 1) := (by omega); exact h) (by omega) (by omega)) (by omega) rfl
        · refine kx_aload_n 98 F 0 dX12_laysPartners_97 rfl rfl rfl ?_
          refine kx_dup 99 F dX12_laysPartners_98 rfl rfl ?_
          refine kx_geti 102 F fl_X12_391 kd_163 rfl rfl (j := 31) rfl dX12_laysPartners_99 (v := (N_428 163 31)) (by rw [hM_N_490, mu_k kd_163 kd_180 rfl]) rfl ?_
          have h_510 := Inv.g hI_N_428 kd_163 rfl 31 (a := 0) (b := 20) rfl rfl
          refine kx_iconst 103 F dX12_laysPartners_102 rfl ?_
          refine kx_iadd 104 F (v := (N_428 163 31) + 1) dX12_laysPartners_103 rfl rfl ?_
          refine kx_puti 107 F fw_X12_391 rfl kd_163 rfl rfl (j := 31) rfl dX12_laysPartners_104 rfl ?_
          intro N_511 hM_N_511
          have hI_N_511 : Inv true N_511 := Inv.u hI_N_490 hM_N_511 kd_163 (a := 0) (b := 20) rfl rfl rfl (by omega)
          have hF_N_511 : Fr f_e_laysPartners3 M N_511 := Fr.u hF_N_490 hM_N_511 kd_163 rfl
          refine kx_goto 147 F dX12_laysPartners_107 (by decide) ?_
          refine kx_iinc 150 F 3 (v := x3_427 + 1) (lo' := [some (vR G 163), some (vI a1), some (vI a2), some (vI (x3_427 + 1)), some (vI r_447)]) dX12_laysPartners_147 rfl (by omega) (by decide) rfl rfl rfl ?_
          refine kx_goto 17 F dX12_laysPartners_150 (by decide) ?_
          refine kx_drop 4 (lo' := [some (vR G 163), some (vI a1), some (vI a2), some (vI (x3_427 + 1)), none]) rfl ?_
          have e_512 : (N_511 163 30) = (N_428 163 30) := by rw [hM_N_511, mu_i (by omega), hM_N_490, mu_k kd_163 kd_180 rfl]
          have e_513 : (N_511 163 31) = (N_428 163 31) + 1 := by rw [hM_N_511, mu_s]
          have e_514 : (N_511 163 32) = (N_428 163 32) := by rw [hM_N_511, mu_i (by omega), hM_N_490, mu_k kd_163 kd_180 rfl]
          have h_515 := Inv.g hI_N_428 kd_163 rfl 32 (a := 0) (b := 20) rfl rfl
          exact ih_431 _ (by omega) (x3_427 + 1) N_511 hI_N_511 hF_N_511 (by rw [show N_511 163 30 = N_428 163 30 by omega, show N_511 163 32 = N_428 163 32 by omega]; exact zDJ.l hp_434 (by omega) (by have h : ¬ M 168 (60 * a1 + x3_427) < (M 164 0) := (by omega); exact h) (by have h : M 168 (60 * a1 + x3_427) < (M 164 0 + M 164 1) := (by omega); exact h) (by omega) (by omega)) (by omega) rfl
      · refine kx_istore 34 F 4 (lo' := [some (vR G 163), some (vI a1), some (vI a2), some (vI x3_427), some (vI r_447)]) dX12_laysPartners_32 (by decide) rfl rfl rfl ?_
        refine kx_aload_n 35 F 0 dX12_laysPartners_34 rfl rfl rfl ?_
        refine kx_getr 38 F fl_X12_71 kd_163 rfl rfl (j := 29) rfl dX12_laysPartners_35 (v := 180) (uq_180 (Inv.r hI_N_428 kd_163 rfl 29 rfl rfl)) rfl ?_
        refine kx_iload_n 39 F 3 dX12_laysPartners_38 rfl rfl rfl ?_
        refine kx_iconst 40 F dX12_laysPartners_39 rfl ?_
        refine kx_iast 41 F kd_180 rfl rfl (by omega) (by decide) dX12_laysPartners_40 rfl ?_
        intro N_522 hM_N_522
        have hI_N_522 : Inv true N_522 := Inv.u hI_N_428 hM_N_522 kd_180 (a := (-1)) (b := 19) rfl rfl rfl (by omega)
        have hF_N_522 : Fr f_e_laysPartners3 M N_522 := Fr.u hF_N_428 hM_N_522 kd_180 rfl
        refine kx_iload 43 F 4 dX12_laysPartners_41 rfl rfl ?_
        refine kx_if_ne 46 F 81 dX12_laysPartners_43 (by decide) rfl (by omega) (fun h_523 => ?_) (fun h_523 => (by exfalso; omega))
        refine kx_iload 83 F 4 dX12_laysPartners_81 rfl rfl ?_
        refine kx_iconst 84 F dX12_laysPartners_83 rfl ?_
        refine kx_icmp_eq 87 F 90 dX12_laysPartners_84 (by decide) rfl (by omega) (by decide) (fun h_524 => (by exfalso; omega)) (fun h_524 => ?_)
        refine kx_goto 147 F dX12_laysPartners_87 (by decide) ?_
        refine kx_iinc 150 F 3 (v := x3_427 + 1) (lo' := [some (vR G 163), some (vI a1), some (vI a2), some (vI (x3_427 + 1)), some (vI r_447)]) dX12_laysPartners_147 rfl (by omega) (by decide) rfl rfl rfl ?_
        refine kx_goto 17 F dX12_laysPartners_150 (by decide) ?_
        refine kx_drop 4 (lo' := [some (vR G 163), some (vI a1), some (vI a2), some (vI (x3_427 + 1)), none]) rfl ?_
        have e_525 : (N_522 163 30) = (N_428 163 30) := by rw [hM_N_522, mu_k kd_163 kd_180 rfl]
        have h_526 := Inv.g hI_N_428 kd_163 rfl 30 (a := 0) (b := 20) rfl rfl
        have e_527 : (N_522 163 31) = (N_428 163 31) := by rw [hM_N_522, mu_k kd_163 kd_180 rfl]
        have h_528 := Inv.g hI_N_428 kd_163 rfl 31 (a := 0) (b := 20) rfl rfl
        have e_529 : (N_522 163 32) = (N_428 163 32) := by rw [hM_N_522, mu_k kd_163 kd_180 rfl]
        have h_530 := Inv.g hI_N_428 kd_163 rfl 32 (a := 0) (b := 20) rfl rfl
        exact ih_431 _ (by omega) (x3_427 + 1) N_522 hI_N_522 hF_N_522 (by rw [show N_522 163 30 = N_428 163 30 by omega, show N_522 163 31 = N_428 163 31 by omega, show N_522 163 32 = N_428 163 32 by omega]; exact zDJ.i hp_434 (by omega) (by have h : ¬ M 168 (60 * a1 + x3_427) < (M 164 0) := (by omega); exact h) (by have h : ¬ M 168 (60 * a1 + x3_427) < (M 164 0 + M 164 1) := (by omega); exact h)) (by omega) rfl
  have e_537 : (N_3 163 30) = 0 := by rw [hM_N_3, mu_i (by omega), hM_N_2, mu_i (by omega), hM_N_1, mu_s]
  have e_538 : (N_3 163 31) = 0 := by rw [hM_N_3, mu_i (by omega), hM_N_2, mu_s]
  have e_539 : (N_3 163 32) = 0 := by rw [hM_N_3, mu_s]
  exact L_429 _ 0 N_3 hI_N_3 hF_N_3 (by rw [show N_3 163 30 = 0 by omega, show N_3 163 31 = 0 by omega, show N_3 163 32 = 0 by omega]; exact zDJ.nil) (by omega) rfl
abbrev f_e_depth3m : List (Nat × Int) := [(64, 2), (64, 30), (64, 31), (64, 32), (76, -1), (80, -1)]
set_option maxHeartbeats 4000000 in
set_option maxRecDepth 100000 in
theorem e_depth3m (G : KG) (l : Launch) (M : Mem) (a1 : Int) (a2 : Int) (a3 : Int) (hI_M : Inv true M) (hpre : -2147483648 ≤ a1 ∧ a1 ≤ 2147483647 ∧ -2147483648 ≤ a2 ∧ a2 ≤ 2147483647 ∧ -2147483648 ≤ a3 ∧ a3 ≤ 2147483647) : KC true G l yX12_depth cX12_depth 5 (some .int) (3, 67) [vR G 163, vI a1, vI a2, vI a3] M (fun A => kQi true G A (fun (r : Int) (N : Mem) => Inv true N ∧ Fr f_e_depth3m M N ∧ (r ≥ -2147483648 ∧ r ≤ 2147483647) ∧ (zDE (M 168) a1 a2 a3 (M 167 a1) (M 164 0 + M 164 1 + M 164 2) (M 164 0) (M 164 0 + M 164 1) r))) := by
  refine kx_met (lo := [some (vR G 163), some (vI a1), some (vI a2), some (vI a3), none]) (by decide) (Nat.le_of_ble_eq_true rfl) rfl ?_
  intro X F hQ
  have hF_M : Fr f_e_depth3m M M := Fr.rf _ _
  have h_1 := Inv.g hI_M kd_164 rfl 0 (a := 0) (b := 2) (at_c 0 0 (o := 0) (lo := 0) (hi := 2) (by omega) (by decide) (by decide) (by decide)).1 (at_c 0 0 (o := 0) (lo := 0) (hi := 2) (by omega) (by decide) (by decide) (by decide)).2
  have h_2 := Inv.g hI_M kd_164 rfl 1 (a := 0) (b := 2) (at_c 1 0 (o := 1) (lo := 0) (hi := 2) (by omega) (by decide) (by decide) (by decide)).1 (at_c 1 0 (o := 1) (lo := 0) (hi := 2) (by omega) (by decide) (by decide) (by decide)).2
  have h_3 := Inv.g hI_M kd_164 rfl 2 (a := 0) (b := 2) (at_c 2 0 (o := 2) (lo := 0) (hi := 2) (by omega) (by decide) (by decide) (by decide)).1 (at_c 2 0 (o := 2) (lo := 0) (hi := 2) (by omega) (by decide) (by decide) (by decide)).2
  refine kx_aload_n 1 F 0 dX12_depth_0 rfl rfl rfl ?_
  refine kx_iload_n 2 F 1 dX12_depth_1 rfl rfl rfl ?_
  refine kx_iload_n 3 F 2 dX12_depth_2 rfl rfl rfl ?_
  refine kx_Vi 6 (ci := 0) F (As := [vI a1, vI a2]) (st := []) vd_X12_358 (e_isWordCall3 G l M a1 a2 hI_M (by omega)) kd_163 rfl rfl rfl ⟨by decide, by decide⟩ rfl rfl (Nat.le_of_ble_eq_true rfl) dX12_depth_3 rfl ?_
  intro r_4 N_5 q_6
  obtain ⟨rfl, q_6c⟩ := q_6
  rcases q_6c with q_6c | q_6c | q_6c | q_6c | q_6c
  · refine kx_if_eq 9 F 18 dX12_depth_6 (by decide) rfl (by omega) (fun h_7 => (by exfalso; omega)) (fun h_7 => ?_)
    refine kx_iload_n 10 F 3 dX12_depth_9 rfl rfl rfl ?_
    refine kx_if_lt 13 F 18 dX12_depth_10 (by decide) rfl (by omega) (fun h_8 => ?_) (fun h_8 => ?_)
    · refine kx_aload_n 19 F 0 dX12_depth_18 rfl rfl rfl ?_
      refine kx_iconst 20 F dX12_depth_19 rfl ?_
      refine kx_Vi 23 (ci := 0) F (As := [vI 1]) (st := []) vd_X12_123 (c_X12_refuse G l M 1 hI_M (by omega)) kd_163 rfl rfl rfl ⟨by decide, by decide⟩ rfl rfl (Nat.le_of_ble_eq_true rfl) dX12_depth_20 rfl ?_
      intro r_9 N_10 q_11
      obtain ⟨hI_N_10, hG_N_10, q_11c⟩ := q_11
      have hF_N_10 : Fr f_e_depth3m M N_10 := Fr.c hF_M hG_N_10 rfl
      subst q_11c
      exact kx_iret F hQ ⟨hI_N_10, hF_N_10, (by omega), (Or.inr ⟨fun h => by have h1 := h.1; have h2 := h.2.1; have h3 := h.2.2.1; have h4 := h.2.2.2.1; have h5 := h.2.2.2.2.1; have h6 := h.2.2.2.2.2.1; clear h; omega, by omega⟩)⟩ dX12_depth_23
    · refine kx_iload_n 14 F 3 dX12_depth_13 rfl rfl rfl ?_
      refine kx_iconst 15 F dX12_depth_14 rfl ?_
      refine kx_icmp_le 18 F 24 dX12_depth_15 (by decide) rfl (by omega) (by decide) (fun h_12 => ?_) (fun h_12 => ?_)
      · refine kx_aload_n 25 F 0 dX12_depth_24 rfl rfl rfl ?_
        refine kx_iload_n 26 F 1 dX12_depth_25 rfl rfl rfl ?_
        refine kx_iload_n 27 F 2 dX12_depth_26 rfl rfl rfl ?_
        refine kx_Vi 30 (ci := 0) F (As := [vI a1, vI a2]) (st := []) vd_X12_361 (e_wrongWord3 G l M a1 a2 hI_M (by omega)) kd_163 rfl rfl rfl ⟨by decide, by decide⟩ rfl rfl (Nat.le_of_ble_eq_true rfl) dX12_depth_27 rfl ?_
        intro r_13 N_14 q_15
        obtain ⟨rfl, q_15c, hz_N_14⟩ := q_15
        rcases q_15c with q_15c | q_15c
        · refine kx_istore 32 F 4 (lo' := [some (vR G 163), some (vI a1), some (vI a2), some (vI a3), some (vI r_13)]) dX12_depth_30 (by decide) rfl rfl rfl ?_
          refine kx_iload 34 F 4 dX12_depth_32 rfl rfl ?_
          refine kx_if_le 37 F 44 dX12_depth_34 (by decide) rfl (by omega) (fun h_16 => ?_) (fun h_16 => (by exfalso; omega))
          refine kx_aload_n 45 F 0 dX12_depth_44 rfl rfl rfl ?_
          refine kx_iload_n 46 F 1 dX12_depth_45 rfl rfl rfl ?_
          refine kx_iload_n 47 F 2 dX12_depth_46 rfl rfl rfl ?_
          refine kx_Vv 50 (ci := 0) F (As := [vI a1, vI a2]) (st := []) vd_X12_400 (e_laysPartners3 G l M a1 a2 hI_M (by omega) (hz_N_14.1 (by omega))) kd_163 rfl rfl rfl ⟨by decide, by decide⟩ rfl rfl (Nat.le_of_ble_eq_true rfl) dX12_depth_47 rfl ?_
          intro N_17 q_18
          obtain ⟨hI_N_17, hG_N_17, hl_N_17⟩ := q_18
          have hF_N_17 : Fr f_e_depth3m M N_17 := Fr.c hF_M hG_N_17 rfl
          refine kx_aload_n 51 F 0 dX12_depth_50 rfl rfl rfl ?_
          refine kx_iload_n 52 F 3 dX12_depth_51 rfl rfl rfl ?_
          refine kx_if_ne 55 F 62 dX12_depth_52 (by decide) rfl (by omega) (fun h_19 => ?_) (fun h_19 => ?_)
          · refine kx_iload_n 63 F 3 dX12_depth_62 rfl rfl rfl ?_
            refine kx_iconst 64 F dX12_depth_63 rfl ?_
            refine kx_icmp_ne 67 F 74 dX12_depth_64 (by decide) rfl (by omega) (by decide) (fun h_20 => ?_) (fun h_20 => ?_)
            · refine kx_aload_n 75 F 0 dX12_depth_74 rfl rfl rfl ?_
              refine kx_geti 78 F fl_X12_394 kd_163 rfl rfl (j := 32) rfl dX12_depth_75 (v := (N_17 163 32)) rfl rfl ?_
              have h_21 := Inv.g hI_N_17 kd_163 rfl 32 (a := 0) (b := 20) rfl rfl
              refine kx_Vi 81 (ci := 0) F (As := [vI (N_17 163 32)]) (st := []) vd_X12_127 (c_X12_gives G l N_17 (N_17 163 32) hI_N_17 (by omega)) kd_163 rfl rfl rfl ⟨by decide, by decide⟩ rfl rfl (Nat.le_of_ble_eq_true rfl) dX12_depth_78 rfl ?_
              intro r_22 N_23 q_24
              obtain ⟨hI_N_23, hG_N_23, q_24c⟩ := q_24
              have hF_N_23 : Fr f_e_depth3m M N_23 := Fr.c hF_N_17 hG_N_23 rfl
              refine kx_topi (e' := (N_17 163 32)) (by omega) ?_
              exact kx_iret F hQ ⟨hI_N_23, hF_N_23, (by omega), (Or.inl ⟨⟨by omega, by omega, zWR.y hz_N_14.2 (by omega)⟩, zDJ.k hl_N_17 rfl (by omega)⟩)⟩ dX12_depth_81
            · refine kx_aload_n 68 F 0 dX12_depth_67 rfl rfl rfl ?_
              refine kx_geti 71 F fl_X12_391 kd_163 rfl rfl (j := 31) rfl dX12_depth_68 (v := (N_17 163 31)) rfl rfl ?_
              have h_25 := Inv.g hI_N_17 kd_163 rfl 31 (a := 0) (b := 20) rfl rfl
              refine kx_goto 78 F dX12_depth_71 (by decide) ?_
              refine kx_Vi 81 (ci := 0) F (As := [vI (N_17 163 31)]) (st := []) vd_X12_127 (c_X12_gives G l N_17 (N_17 163 31) hI_N_17 (by omega)) kd_163 rfl rfl rfl ⟨by decide, by decide⟩ rfl rfl (Nat.le_of_ble_eq_true rfl) dX12_depth_78 rfl ?_
              intro r_26 N_27 q_28
              obtain ⟨hI_N_27, hG_N_27, q_28c⟩ := q_28
              have hF_N_27 : Fr f_e_depth3m M N_27 := Fr.c hF_N_17 hG_N_27 rfl
              refine kx_topi (e' := (N_17 163 31)) (by omega) ?_
              exact kx_iret F hQ ⟨hI_N_27, hF_N_27, (by omega), (Or.inl ⟨⟨by omega, by omega, zWR.y hz_N_14.2 (by omega)⟩, zDJ.k hl_N_17 rfl (by omega)⟩)⟩ dX12_depth_81
          · refine kx_aload_n 56 F 0 dX12_depth_55 rfl rfl rfl ?_
            refine kx_geti 59 F fl_X12_388 kd_163 rfl rfl (j := 30) rfl dX12_depth_56 (v := (N_17 163 30)) rfl rfl ?_
            have h_29 := Inv.g hI_N_17 kd_163 rfl 30 (a := 0) (b := 20) rfl rfl
            refine kx_goto 78 F dX12_depth_59 (by decide) ?_
            refine kx_Vi 81 (ci := 0) F (As := [vI (N_17 163 30)]) (st := []) vd_X12_127 (c_X12_gives G l N_17 (N_17 163 30) hI_N_17 (by omega)) kd_163 rfl rfl rfl ⟨by decide, by decide⟩ rfl rfl (Nat.le_of_ble_eq_true rfl) dX12_depth_78 rfl ?_
            intro r_30 N_31 q_32
            obtain ⟨hI_N_31, hG_N_31, q_32c⟩ := q_32
            have hF_N_31 : Fr f_e_depth3m M N_31 := Fr.c hF_N_17 hG_N_31 rfl
            refine kx_topi (e' := (N_17 163 30)) (by omega) ?_
            exact kx_iret F hQ ⟨hI_N_31, hF_N_31, (by omega), (Or.inl ⟨⟨by omega, by omega, zWR.y hz_N_14.2 (by omega)⟩, zDJ.k hl_N_17 rfl (by omega)⟩)⟩ dX12_depth_81
        · refine kx_istore 32 F 4 (lo' := [some (vR G 163), some (vI a1), some (vI a2), some (vI a3), some (vI r_13)]) dX12_depth_30 (by decide) rfl rfl rfl ?_
          refine kx_iload 34 F 4 dX12_depth_32 rfl rfl ?_
          refine kx_if_le 37 F 44 dX12_depth_34 (by decide) rfl (by omega) (fun h_33 => (by exfalso; omega)) (fun h_33 => ?_)
          refine kx_aload_n 38 F 0 dX12_depth_37 rfl rfl rfl ?_
          refine kx_iload 40 F 4 dX12_depth_38 rfl rfl ?_
          refine kx_Vi 43 (ci := 0) F (As := [vI r_13]) (st := []) vd_X12_123 (c_X12_refuse G l M r_13 hI_M (by omega)) kd_163 rfl rfl rfl ⟨by decide, by decide⟩ rfl rfl (Nat.le_of_ble_eq_true rfl) dX12_depth_40 rfl ?_
          intro r_34 N_35 q_36
          obtain ⟨hI_N_35, hG_N_35, q_36c⟩ := q_36
          have hF_N_35 : Fr f_e_depth3m M N_35 := Fr.c hF_M hG_N_35 rfl
          subst q_36c
          exact kx_iret F hQ ⟨hI_N_35, hF_N_35, (by omega), (Or.inr ⟨fun h => (zWR.n hz_N_14.2 (by omega)) ⟨rfl, h.2.2⟩, by omega⟩)⟩ dX12_depth_43
      · refine kx_aload_n 19 F 0 dX12_depth_18 rfl rfl rfl ?_
        refine kx_iconst 20 F dX12_depth_19 rfl ?_
        refine kx_Vi 23 (ci := 0) F (As := [vI 1]) (st := []) vd_X12_123 (c_X12_refuse G l M 1 hI_M (by omega)) kd_163 rfl rfl rfl ⟨by decide, by decide⟩ rfl rfl (Nat.le_of_ble_eq_true rfl) dX12_depth_20 rfl ?_
        intro r_37 N_38 q_39
        obtain ⟨hI_N_38, hG_N_38, q_39c⟩ := q_39
        have hF_N_38 : Fr f_e_depth3m M N_38 := Fr.c hF_M hG_N_38 rfl
        subst q_39c
        exact kx_iret F hQ ⟨hI_N_38, hF_N_38, (by omega), (Or.inr ⟨fun h => by have h1 := h.1; have h2 := h.2.1; have h3 := h.2.2.1; have h4 := h.2.2.2.1; have h5 := h.2.2.2.2.1; have h6 := h.2.2.2.2.2.1; clear h; omega, by omega⟩)⟩ dX12_depth_23
  · refine kx_if_eq 9 F 18 dX12_depth_6 (by decide) rfl (by omega) (fun h_40 => ?_) (fun h_40 => (by exfalso; omega))
    refine kx_aload_n 19 F 0 dX12_depth_18 rfl rfl rfl ?_
    refine kx_iconst 20 F dX12_depth_19 rfl ?_
    refine kx_Vi 23 (ci := 0) F (As := [vI 1]) (st := []) vd_X12_123 (c_X12_refuse G l M 1 hI_M (by omega)) kd_163 rfl rfl rfl ⟨by decide, by decide⟩ rfl rfl (Nat.le_of_ble_eq_true rfl) dX12_depth_20 rfl ?_
    intro r_41 N_42 q_43
    obtain ⟨hI_N_42, hG_N_42, q_43c⟩ := q_43
    have hF_N_42 : Fr f_e_depth3m M N_42 := Fr.c hF_M hG_N_42 rfl
    subst q_43c
    exact kx_iret F hQ ⟨hI_N_42, hF_N_42, (by omega), (Or.inr ⟨fun h => by have h1 := h.1; have h2 := h.2.1; have h3 := h.2.2.1; have h4 := h.2.2.2.1; have h5 := h.2.2.2.2.1; have h6 := h.2.2.2.2.2.1; clear h; omega, by omega⟩)⟩ dX12_depth_23
  · refine kx_if_eq 9 F 18 dX12_depth_6 (by decide) rfl (by omega) (fun h_44 => ?_) (fun h_44 => (by exfalso; omega))
    refine kx_aload_n 19 F 0 dX12_depth_18 rfl rfl rfl ?_
    refine kx_iconst 20 F dX12_depth_19 rfl ?_
    refine kx_Vi 23 (ci := 0) F (As := [vI 1]) (st := []) vd_X12_123 (c_X12_refuse G l M 1 hI_M (by omega)) kd_163 rfl rfl rfl ⟨by decide, by decide⟩ rfl rfl (Nat.le_of_ble_eq_true rfl) dX12_depth_20 rfl ?_
    intro r_45 N_46 q_47
    obtain ⟨hI_N_46, hG_N_46, q_47c⟩ := q_47
    have hF_N_46 : Fr f_e_depth3m M N_46 := Fr.c hF_M hG_N_46 rfl
    subst q_47c
    exact kx_iret F hQ ⟨hI_N_46, hF_N_46, (by omega), (Or.inr ⟨fun h => by have h1 := h.1; have h2 := h.2.1; have h3 := h.2.2.1; have h4 := h.2.2.2.1; have h5 := h.2.2.2.2.1; have h6 := h.2.2.2.2.2.1; clear h; omega, by omega⟩)⟩ dX12_depth_23
  · refine kx_if_eq 9 F 18 dX12_depth_6 (by decide) rfl (by omega) (fun h_48 => ?_) (fun h_48 => (by exfalso; omega))
    refine kx_aload_n 19 F 0 dX12_depth_18 rfl rfl rfl ?_
    refine kx_iconst 20 F dX12_depth_19 rfl ?_
    refine kx_Vi 23 (ci := 0) F (As := [vI 1]) (st := []) vd_X12_123 (c_X12_refuse G l M 1 hI_M (by omega)) kd_163 rfl rfl rfl ⟨by decide, by decide⟩ rfl rfl (Nat.le_of_ble_eq_true rfl) dX12_depth_20 rfl ?_
    intro r_49 N_50 q_51
    obtain ⟨hI_N_50, hG_N_50, q_51c⟩ := q_51
    have hF_N_50 : Fr f_e_depth3m M N_50 := Fr.c hF_M hG_N_50 rfl
    subst q_51c
    exact kx_iret F hQ ⟨hI_N_50, hF_N_50, (by omega), (Or.inr ⟨fun h => by have h1 := h.1; have h2 := h.2.1; have h3 := h.2.2.1; have h4 := h.2.2.2.1; have h5 := h.2.2.2.2.1; have h6 := h.2.2.2.2.2.1; clear h; omega, by omega⟩)⟩ dX12_depth_23
  · refine kx_if_eq 9 F 18 dX12_depth_6 (by decide) rfl (by omega) (fun h_52 => ?_) (fun h_52 => (by exfalso; omega))
    refine kx_aload_n 19 F 0 dX12_depth_18 rfl rfl rfl ?_
    refine kx_iconst 20 F dX12_depth_19 rfl ?_
    refine kx_Vi 23 (ci := 0) F (As := [vI 1]) (st := []) vd_X12_123 (c_X12_refuse G l M 1 hI_M (by omega)) kd_163 rfl rfl rfl ⟨by decide, by decide⟩ rfl rfl (Nat.le_of_ble_eq_true rfl) dX12_depth_20 rfl ?_
    intro r_53 N_54 q_55
    obtain ⟨hI_N_54, hG_N_54, q_55c⟩ := q_55
    have hF_N_54 : Fr f_e_depth3m M N_54 := Fr.c hF_M hG_N_54 rfl
    subst q_55c
    exact kx_iret F hQ ⟨hI_N_54, hF_N_54, (by omega), (Or.inr ⟨fun h => by have h1 := h.1; have h2 := h.2.1; have h3 := h.2.2.1; have h4 := h.2.2.2.1; have h5 := h.2.2.2.2.1; have h6 := h.2.2.2.2.2.1; clear h; omega, by omega⟩)⟩ dX12_depth_23
