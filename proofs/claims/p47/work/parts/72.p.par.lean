abbrev f_e_laysPartners4 : List (Nat × Int) := [(64, 30), (64, 31), (64, 32), (76, -1), (80, -1)]
set_option maxHeartbeats 4000000 in
set_option maxRecDepth 100000 in
theorem e_laysPartners4 (G : KG) (l : Launch) (M : Mem) (a1 : Int) (a2 : Int) (hI_M : Inv true M) (hpre : -2147483648 ≤ a1 ∧ a1 ≤ 2147483647 ∧ -2147483648 ≤ a2 ∧ a2 ≤ 2147483647 ∧ 0 ≤ a1 ∧ a1 ≤ 3 ∧ 0 ≤ a2 ∧ a2 ≤ 20) (hW : WT M a1 a2) : KC true G l yX12_laysPartners cX12_laysPartners 5 none (2, 43) [vR G 163, vI a1, vI a2] M (fun A => kQv true G A (fun (N : Mem) => Inv true N ∧ Fr f_e_laysPartners4 M N ∧ (∀ j, 0 ≤ j → j < a2 → zPT (fun j => M 168 (60 * a1 + j)) (M 164 0) (M 164 0 + M 164 1) a2 j (N 180 j)))) := by
  refine kx_met (lo := [some (vR G 163), some (vI a1), some (vI a2), none, none]) (by decide) (Nat.le_of_ble_eq_true rfl) rfl ?_
  intro X F hQ
  have hF_M : Fr f_e_laysPartners4 M M := Fr.rf _ _
  refine kx_aload_n 1 F 0 dX12_laysPartners_0 rfl rfl rfl ?_
  refine kx_iconst 2 F dX12_laysPartners_1 rfl ?_
  refine kx_puti 5 F fw_X12_388 rfl kd_163 rfl rfl (j := 30) rfl dX12_laysPartners_2 rfl ?_
  intro N_1 hM_N_1
  have hI_N_1 : Inv true N_1 := Inv.u hI_M hM_N_1 kd_163 (a := 0) (b := 20) rfl rfl rfl (by omega)
  have hF_N_1 : Fr f_e_laysPartners4 M N_1 := Fr.u hF_M hM_N_1 kd_163 rfl
  refine kx_aload_n 6 F 0 dX12_laysPartners_5 rfl rfl rfl ?_
  refine kx_iconst 7 F dX12_laysPartners_6 rfl ?_
  refine kx_puti 10 F fw_X12_391 rfl kd_163 rfl rfl (j := 31) rfl dX12_laysPartners_7 rfl ?_
  intro N_2 hM_N_2
  have hI_N_2 : Inv true N_2 := Inv.u hI_N_1 hM_N_2 kd_163 (a := 0) (b := 20) rfl rfl rfl (by omega)
  have hF_N_2 : Fr f_e_laysPartners4 M N_2 := Fr.u hF_N_1 hM_N_2 kd_163 rfl
  refine kx_aload_n 11 F 0 dX12_laysPartners_10 rfl rfl rfl ?_
  refine kx_iconst 12 F dX12_laysPartners_11 rfl ?_
  refine kx_puti 15 F fw_X12_394 rfl kd_163 rfl rfl (j := 32) rfl dX12_laysPartners_12 rfl ?_
  intro N_3 hM_N_3
  have hI_N_3 : Inv true N_3 := Inv.u hI_N_2 hM_N_3 kd_163 (a := 0) (b := 20) rfl rfl rfl (by omega)
  have hF_N_3 : Fr f_e_laysPartners4 M N_3 := Fr.u hF_N_2 hM_N_3 kd_163 rfl
  refine kx_iconst 16 F dX12_laysPartners_15 rfl ?_
  refine kx_istore_n 17 F 3 (lo' := [some (vR G 163), some (vI a1), some (vI a2), some (vI 0), none]) dX12_laysPartners_16 rfl (by decide) rfl rfl rfl ?_
  have L_429 : ∀ (n_430 : Nat) (x3_427 : Int) (N_428 : Mem), Inv true N_428 → Fr f_e_laysPartners4 M N_428 → zLP (N_428 175) (N_428 180) (fun j => M 168 (60 * a1 + j)) (M 164 0) (M 164 0 + M 164 1) x3_427 (N_428 163 30) → 0 ≤ x3_427 ∧ x3_427 ≤ 20 ∧ (N_428 163 30) ≤ x3_427 ∧ (N_428 163 31) ≤ x3_427 ∧ (N_428 163 32) ≤ x3_427 ∧ (N_428 163 30) ≥ 0 ∧ (N_428 163 31) ≥ 0 ∧ (N_428 163 32) ≥ 0 ∧ x3_427 ≤ a2 → (20 - (x3_427)).toNat = n_430 → KJ true G X N_428 17 [some (vR G 163), some (vI a1), some (vI a2), some (vI x3_427), none] [] := by
    intro n_430
    refine Nat.strongRecOn n_430 ?_
    intro n_430 ih_431 x3_427 N_428 hI_N_428 hF_N_428 hp_434 h_432 hm_433
    refine kx_iload_n 18 F 3 dX12_laysPartners_17 rfl rfl rfl ?_
    refine kx_iload_n 19 F 2 dX12_laysPartners_18 rfl rfl rfl ?_
    refine kx_icmp_ge 22 F 153 dX12_laysPartners_19 (by decide) rfl (by omega) (by omega) (fun h_435 => ?_) (fun h_435 => ?_)
    · exact kx_vret F hQ ⟨hI_N_428, hF_N_428, (by have h := zLP.fin hp_434; rw [show x3_427 = a2 by omega] at h; exact h)⟩ dX12_laysPartners_153
    · have h_436 := hW x3_427 (by omega) (by omega)
      have h_437 := Inv.g hI_M kd_164 rfl 0 (a := 0) (b := 2) (at_c 0 0 (o := 0) (lo := 0) (hi := 2) (by omega) (by decide) (by decide) (by decide)).1 (at_c 0 0 (o := 0) (lo := 0) (hi := 2) (by omega) (by decide) (by decide) (by decide)).2
      have h_438 := Inv.g hI_M kd_164 rfl 1 (a := 0) (b := 2) (at_c 1 0 (o := 1) (lo := 0) (hi := 2) (by omega) (by decide) (by decide) (by decide)).1 (at_c 1 0 (o := 1) (lo := 0) (hi := 2) (by omega) (by decide) (by decide) (by decide)).2
      have h_439 := Inv.g hI_M kd_164 rfl 2 (a := 0) (b := 2) (at_c 2 0 (o := 2) (lo := 0) (hi := 2) (by omega) (by decide) (by decide) (by decide)).1 (at_c 2 0 (o := 2) (lo := 0) (hi := 2) (by omega) (by decide) (by decide) (by decide)).2
      refine kx_aload_n 23 F 0 dX12_laysPartners_22 rfl rfl rfl ?_
      refine kx_aload_n 24 F 0 dX12_laysPartners_23 rfl rfl rfl ?_
      refine kx_iload_n 25 F 1 dX12_laysPartners_24 rfl rfl rfl ?_
      refine kx_iload_n 26 F 3 dX12_laysPartners_25 rfl rfl rfl ?_
      have e_440 : (N_428 168 (60 * a1 + x3_427)) = (M 168 (60 * a1 + x3_427)) := by rw [Fr.e hF_N_428 kd_168 _ rfl]
      refine kx_Vi 29 (ci := 0) F (As := [vI a1, vI x3_427]) (st := [vR G 163]) vd_X12_349 (c_letterAtE G l N_428 a1 x3_427 hI_N_428 (by omega)) kd_163 rfl rfl rfl ⟨by decide, by decide⟩ rfl rfl (Nat.le_of_ble_eq_true rfl) dX12_laysPartners_26 rfl ?_
      intro r_442 N_443 q_444
      obtain ⟨rfl, q_444c⟩ := q_444
      refine kx_topi (e' := (N_428 168 (60 * a1 + x3_427))) (by omega) ?_
      refine kx_Vi 32 (ci := 0) F (As := [vI (N_428 168 (60 * a1 + x3_427))]) (st := []) vd_X12_297 (c_sortNowE G l N_428 (N_428 168 (60 * a1 + x3_427)) hI_N_428 (by omega)) kd_163 rfl rfl rfl ⟨by decide, by decide⟩ rfl rfl (Nat.le_of_ble_eq_true rfl) dX12_laysPartners_29 rfl ?_
      intro r_447 N_448 q_449
      obtain ⟨rfl, q_449c⟩ := q_449
      have e_451 : (N_428 164 0) = (M 164 0) := by rw [Fr.e hF_N_428 kd_164 _ rfl]
      have e_460 : (N_428 164 1) = (M 164 1) := by rw [Fr.e hF_N_428 kd_164 _ rfl]
      rcases q_449c with q_449c | q_449c | q_449c
      · refine kx_istore 34 F 4 (lo' := [some (vR G 163), some (vI a1), some (vI a2), some (vI x3_427), some (vI r_447)]) dX12_laysPartners_32 (by decide) rfl rfl rfl ?_
        refine kx_aload_n 35 F 0 dX12_laysPartners_34 rfl rfl rfl ?_
        refine kx_getr 38 F fl_X12_71 kd_163 rfl rfl (j := 29) rfl dX12_laysPartners_35 (v := 180) (uq_180 (Inv.r hI_N_428 kd_163 rfl 29 rfl rfl)) rfl ?_
        refine kx_iload_n 39 F 3 dX12_laysPartners_38 rfl rfl rfl ?_
        refine kx_iconst 40 F dX12_laysPartners_39 rfl ?_
        refine kx_iast 41 F kd_180 rfl rfl (by omega) (by decide) dX12_laysPartners_40 rfl ?_
        intro N_470 hM_N_470
        have hI_N_470 : Inv true N_470 := Inv.u hI_N_428 hM_N_470 kd_180 (a := (-1)) (b := 19) rfl rfl rfl (by omega)
        have hF_N_470 : Fr f_e_laysPartners4 M N_470 := Fr.u hF_N_428 hM_N_470 kd_180 rfl
        refine kx_iload 43 F 4 dX12_laysPartners_41 rfl rfl ?_
        refine kx_if_ne 46 F 81 dX12_laysPartners_43 (by decide) rfl (by omega) (fun h_471 => (by exfalso; omega)) (fun h_471 => ?_)
        refine kx_aload_n 47 F 0 dX12_laysPartners_46 rfl rfl rfl ?_
        refine kx_getr 50 F fl_X12_56 kd_163 rfl rfl (j := 24) rfl dX12_laysPartners_47 (v := 175) (uq_175 (Inv.r hI_N_470 kd_163 rfl 24 rfl rfl)) rfl ?_
        refine kx_aload_n 51 F 0 dX12_laysPartners_50 rfl rfl rfl ?_
        refine kx_geti 54 F fl_X12_388 kd_163 rfl rfl (j := 30) rfl dX12_laysPartners_51 (v := (N_428 163 30)) (by rw [hM_N_470, mu_k kd_163 kd_180 rfl]) rfl ?_
        have h_472 := Inv.g hI_N_428 kd_163 rfl 30 (a := 0) (b := 20) rfl rfl
        refine kx_iload_n 55 F 3 dX12_laysPartners_54 rfl rfl rfl ?_
        refine kx_iast 56 F kd_175 rfl rfl (by omega) (by decide) dX12_laysPartners_55 rfl ?_
        intro N_473 hM_N_473
        have hI_N_473 : Inv true N_473 := Inv.u hI_N_470 hM_N_473 kd_175 (a := 0) (b := 19) rfl rfl rfl (by omega)
        have hF_N_473 : Fr f_e_laysPartners4 M N_473 := Fr.u hF_N_470 hM_N_473 kd_175 rfl
        refine kx_aload_n 57 F 0 dX12_laysPartners_56 rfl rfl rfl ?_
        refine kx_dup 58 F dX12_laysPartners_57 rfl rfl ?_
        refine kx_geti 61 F fl_X12_388 kd_163 rfl rfl (j := 30) rfl dX12_laysPartners_58 (v := (N_428 163 30)) (by rw [hM_N_473, mu_k kd_163 kd_175 rfl, hM_N_470, mu_k kd_163 kd_180 rfl]) rfl ?_
        refine kx_iconst 62 F dX12_laysPartners_61 rfl ?_
        refine kx_iadd 63 F (v := (N_428 163 30) + 1) dX12_laysPartners_62 rfl rfl ?_
        refine kx_puti 66 F fw_X12_388 rfl kd_163 rfl rfl (j := 30) rfl dX12_laysPartners_63 rfl ?_
        intro N_474 hM_N_474
        have hI_N_474 : Inv true N_474 := Inv.u hI_N_473 hM_N_474 kd_163 (a := 0) (b := 20) rfl rfl rfl (by omega)
        have hF_N_474 : Fr f_e_laysPartners4 M N_474 := Fr.u hF_N_473 hM_N_474 kd_163 rfl
        refine kx_aload_n 67 F 0 dX12_laysPartners_66 rfl rfl rfl ?_
        refine kx_aload_n 68 F 0 dX12_laysPartners_67 rfl rfl rfl ?_
        refine kx_geti 71 F fl_X12_394 kd_163 rfl rfl (j := 32) rfl dX12_laysPartners_68 (v := (N_428 163 32)) (by rw [hM_N_474, mu_i (by omega), hM_N_473, mu_k kd_163 kd_175 rfl, hM_N_470, mu_k kd_163 kd_180 rfl]) rfl ?_
        have h_475 := Inv.g hI_N_428 kd_163 rfl 32 (a := 0) (b := 20) rfl rfl
        refine kx_aload_n 72 F 0 dX12_laysPartners_71 rfl rfl rfl ?_
        refine kx_geti 75 F fl_X12_388 kd_163 rfl rfl (j := 30) rfl dX12_laysPartners_72 (v := (N_428 163 30) + 1) (by rw [hM_N_474, mu_s]) rfl ?_
        refine kx_mmax 78 F dX12_laysPartners_75 (tt lm_2106 rfl) (tt lm_480 rfl) (tt lm_180 rfl) (tt lm_481 rfl) (by decide) (Nat.le_of_ble_eq_true rfl) (by omega) (by omega) rfl (fun w_476 h_477 => ?_)
        refine kx_puti 81 F fw_X12_394 rfl kd_163 rfl rfl (j := 32) rfl dX12_laysPartners_78 rfl ?_
        intro N_478 hM_N_478
        have hI_N_478 : Inv true N_478 := Inv.u hI_N_474 hM_N_478 kd_163 (a := 0) (b := 20) rfl rfl rfl (by omega)
        have hF_N_478 : Fr f_e_laysPartners4 M N_478 := Fr.u hF_N_474 hM_N_478 kd_163 rfl
        refine kx_iload 83 F 4 dX12_laysPartners_81 rfl rfl ?_
        refine kx_iconst 84 F dX12_laysPartners_83 rfl ?_
        refine kx_icmp_eq 87 F 90 dX12_laysPartners_84 (by decide) rfl (by omega) (by decide) (fun h_479 => (by exfalso; omega)) (fun h_479 => ?_)
        refine kx_goto 147 F dX12_laysPartners_87 (by decide) ?_
        refine kx_iinc 150 F 3 (v := x3_427 + 1) (lo' := [some (vR G 163), some (vI a1), some (vI a2), some (vI (x3_427 + 1)), some (vI r_447)]) dX12_laysPartners_147 rfl (by omega) (by decide) rfl rfl rfl ?_
        refine kx_goto 17 F dX12_laysPartners_150 (by decide) ?_
        refine kx_drop 4 (lo' := [some (vR G 163), some (vI a1), some (vI a2), some (vI (x3_427 + 1)), none]) rfl ?_
        have e_480 : (N_478 163 30) = (N_428 163 30) + 1 := by rw [hM_N_478, mu_i (by omega), hM_N_474, mu_s]
        have e_482 : (N_478 163 31) = (N_428 163 31) := by rw [hM_N_478, mu_i (by omega), hM_N_474, mu_i (by omega), hM_N_473, mu_k kd_163 kd_175 rfl, hM_N_470, mu_k kd_163 kd_180 rfl]
        have h_483 := Inv.g hI_N_428 kd_163 rfl 31 (a := 0) (b := 20) rfl rfl
        have e_484 : (N_478 163 32) = w_476 := by rw [hM_N_478, mu_s]
        exact ih_431 _ (by omega) (x3_427 + 1) N_478 hI_N_478 hF_N_478 (zLP.call hp_434 (by omega) (by have h : M 168 (60 * a1 + x3_427) < (M 164 0) := (by omega); exact h) (fun t => by rw [hM_N_478, mu_k kd_175 kd_163 rfl, hM_N_474, mu_k kd_175 kd_163 rfl, hM_N_473, mu_at, hM_N_470, mu_k kd_175 kd_180 rfl]) (fun j => by rw [hM_N_478, mu_k kd_180 kd_163 rfl, hM_N_474, mu_k kd_180 kd_163 rfl, hM_N_473, mu_k kd_180 kd_175 rfl, hM_N_470, mu_at]) (by omega) (by omega)) (by omega) rfl
      · refine kx_istore 34 F 4 (lo' := [some (vR G 163), some (vI a1), some (vI a2), some (vI x3_427), some (vI r_447)]) dX12_laysPartners_32 (by decide) rfl rfl rfl ?_
        refine kx_aload_n 35 F 0 dX12_laysPartners_34 rfl rfl rfl ?_
        refine kx_getr 38 F fl_X12_71 kd_163 rfl rfl (j := 29) rfl dX12_laysPartners_35 (v := 180) (uq_180 (Inv.r hI_N_428 kd_163 rfl 29 rfl rfl)) rfl ?_
        refine kx_iload_n 39 F 3 dX12_laysPartners_38 rfl rfl rfl ?_
        refine kx_iconst 40 F dX12_laysPartners_39 rfl ?_
        refine kx_iast 41 F kd_180 rfl rfl (by omega) (by decide) dX12_laysPartners_40 rfl ?_
        intro N_488 hM_N_488
        have hI_N_488 : Inv true N_488 := Inv.u hI_N_428 hM_N_488 kd_180 (a := (-1)) (b := 19) rfl rfl rfl (by omega)
        have hF_N_488 : Fr f_e_laysPartners4 M N_488 := Fr.u hF_N_428 hM_N_488 kd_180 rfl
        refine kx_iload 43 F 4 dX12_laysPartners_41 rfl rfl ?_
        refine kx_if_ne 46 F 81 dX12_laysPartners_43 (by decide) rfl (by omega) (fun h_489 => ?_) (fun h_489 => (by exfalso; omega))
        refine kx_iload 83 F 4 dX12_laysPartners_81 rfl rfl ?_
        refine kx_iconst 84 F dX12_laysPartners_83 rfl ?_
        refine kx_icmp_eq 87 F 90 dX12_laysPartners_84 (by decide) rfl (by omega) (by decide) (fun h_490 => ?_) (fun h_490 => (by exfalso; omega))
        refine kx_aload_n 91 F 0 dX12_laysPartners_90 rfl rfl rfl ?_
        refine kx_geti 94 F fl_X12_388 kd_163 rfl rfl (j := 30) rfl dX12_laysPartners_91 (v := (N_428 163 30)) (by rw [hM_N_488, mu_k kd_163 kd_180 rfl]) rfl ?_
        have h_491 := Inv.g hI_N_428 kd_163 rfl 30 (a := 0) (b := 20) rfl rfl
        refine kx_if_ne 97 F 110 dX12_laysPartners_94 (by decide) rfl (by omega) (fun h_492 => ?_) (fun h_492 => ?_)
        · refine kx_aload_n 111 F 0 dX12_laysPartners_110 rfl rfl rfl ?_
          refine kx_dup 112 F dX12_laysPartners_111 rfl rfl ?_
          refine kx_geti 115 F fl_X12_388 kd_163 rfl rfl (j := 30) rfl dX12_laysPartners_112 (v := (N_428 163 30)) (by rw [hM_N_488, mu_k kd_163 kd_180 rfl]) rfl ?_
          refine kx_iconst 116 F dX12_laysPartners_115 rfl ?_
          refine kx_isub 117 F (v := (N_428 163 30) - 1) dX12_laysPartners_116 rfl rfl ?_
          refine kx_puti 120 F fw_X12_388 rfl kd_163 rfl rfl (j := 30) rfl dX12_laysPartners_117 rfl ?_
          intro N_493 hM_N_493
          have hI_N_493 : Inv true N_493 := Inv.u hI_N_488 hM_N_493 kd_163 (a := 0) (b := 20) rfl rfl rfl (by omega)
          have hF_N_493 : Fr f_e_laysPartners4 M N_493 := Fr.u hF_N_488 hM_N_493 kd_163 rfl
          refine kx_aload_n 121 F 0 dX12_laysPartners_120 rfl rfl rfl ?_
          refine kx_getr 124 F fl_X12_71 kd_163 rfl rfl (j := 29) rfl dX12_laysPartners_121 (v := 180) (uq_180 (Inv.r hI_N_493 kd_163 rfl 29 rfl rfl)) rfl ?_
          refine kx_iload_n 125 F 3 dX12_laysPartners_124 rfl rfl rfl ?_
          refine kx_aload_n 126 F 0 dX12_laysPartners_125 rfl rfl rfl ?_
          refine kx_getr 129 F fl_X12_56 kd_163 rfl rfl (j := 24) rfl dX12_laysPartners_126 (v := 175) (uq_175 (Inv.r hI_N_493 kd_163 rfl 24 rfl rfl)) rfl ?_
          refine kx_aload_n 130 F 0 dX12_laysPartners_129 rfl rfl rfl ?_
          refine kx_geti 133 F fl_X12_388 kd_163 rfl rfl (j := 30) rfl dX12_laysPartners_130 (v := (N_428 163 30) - 1) (by rw [hM_N_493, mu_s]) rfl ?_
          refine kx_iald 134 F kd_175 rfl rfl (by omega) (by decide) dX12_laysPartners_133 (v := (N_428 175 ((N_428 163 30) - 1))) (by rw [hM_N_493, mu_k kd_175 kd_163 rfl, hM_N_488, mu_k kd_175 kd_180 rfl]) rfl ?_
          have h_494 := Inv.g hI_N_428 kd_175 rfl ((N_428 163 30) - 1) (a := 0) (b := 19) rfl rfl
          refine kx_iast 135 F kd_180 rfl rfl (by omega) (by decide) dX12_laysPartners_134 rfl ?_
          intro N_495 hM_N_495
          have hI_N_495 : Inv true N_495 := Inv.u hI_N_493 hM_N_495 kd_180 (a := (-1)) (b := 19) rfl rfl rfl (by omega)
          have hF_N_495 : Fr f_e_laysPartners4 M N_495 := Fr.u hF_N_493 hM_N_495 kd_180 rfl
          refine kx_aload_n 136 F 0 dX12_laysPartners_135 rfl rfl rfl ?_
          refine kx_getr 139 F fl_X12_71 kd_163 rfl rfl (j := 29) rfl dX12_laysPartners_136 (v := 180) (uq_180 (Inv.r hI_N_495 kd_163 rfl 29 rfl rfl)) rfl ?_
          refine kx_aload_n 140 F 0 dX12_laysPartners_139 rfl rfl rfl ?_
          refine kx_getr 143 F fl_X12_71 kd_163 rfl rfl (j := 29) rfl dX12_laysPartners_140 (v := 180) (uq_180 (Inv.r hI_N_495 kd_163 rfl 29 rfl rfl)) rfl ?_
          refine kx_iload_n 144 F 3 dX12_laysPartners_143 rfl rfl rfl ?_
          refine kx_iald 145 F kd_180 rfl rfl (by omega) (by decide) dX12_laysPartners_144 (v := (N_428 175 ((N_428 163 30) - 1))) (by rw [hM_N_495, mu_s]) rfl ?_
          refine kx_iload_n 146 F 3 dX12_laysPartners_145 rfl rfl rfl ?_
          refine kx_iast 147 F kd_180 rfl rfl (by omega) (by decide) dX12_laysPartners_146 rfl ?_
          intro N_496 hM_N_496
          have hI_N_496 : Inv true N_496 := Inv.u hI_N_495 hM_N_496 kd_180 (a := (-1)) (b := 19) rfl rfl rfl (by omega)
          have hF_N_496 : Fr f_e_laysPartners4 M N_496 := Fr.u hF_N_495 hM_N_496 kd_180 rfl
          refine kx_iinc 150 F 3 (v := x3_427 + 1) (lo' := [some (vR G 163), some (vI a1), some (vI a2), some (vI (x3_427 + 1)), some (vI r_447)]) dX12_laysPartners_147 rfl (by omega) (by decide) rfl rfl rfl ?_
          refine kx_goto 17 F dX12_laysPartners_150 (by decide) ?_
          refine kx_drop 4 (lo' := [some (vR G 163), some (vI a1), some (vI a2), some (vI (x3_427 + 1)), none]) rfl ?_
          have e_497 : (N_496 163 30) = (N_428 163 30) - 1 := by rw [hM_N_496, mu_k kd_163 kd_180 rfl, hM_N_495, mu_k kd_163 kd_180 rfl, hM_N_493, mu_s]
          have ew_498 : N_496 175 = N_428 175 := funext (fun j => by rw [hM_N_496, mu_k kd_175 kd_180 rfl, hM_N_495, mu_k kd_175 kd_180 rfl, hM_N_493, mu_k kd_175 kd_163 rfl, hM_N_488, mu_k kd_175 kd_180 rfl])
          have e_500 : (N_496 163 31) = (N_428 163 31) := by rw [hM_N_496, mu_k kd_163 kd_180 rfl, hM_N_495, mu_k kd_163 kd_180 rfl, hM_N_493, mu_i (by omega), hM_N_488, mu_k kd_163 kd_180 rfl]
          have h_501 := Inv.g hI_N_428 kd_163 rfl 31 (a := 0) (b := 20) rfl rfl
          have e_502 : (N_496 163 32) = (N_428 163 32) := by rw [hM_N_496, mu_k kd_163 kd_180 rfl, hM_N_495, mu_k kd_163 kd_180 rfl, hM_N_493, mu_i (by omega), hM_N_488, mu_k kd_163 kd_180 rfl]
          have h_503 := Inv.g hI_N_428 kd_163 rfl 32 (a := 0) (b := 20) rfl rfl
          exact ih_431 _ (by omega) (x3_427 + 1) N_496 hI_N_496 hF_N_496 (by rw [ew_498]; exact zLP.ret (x := N_428 175 ((N_428 163 30) - 1)) hp_434 (by omega) (by have h : ¬ M 168 (60 * a1 + x3_427) < (M 164 0) := (by omega); exact h) (by have h : M 168 (60 * a1 + x3_427) < (M 164 0 + M 164 1) := (by omega); exact h) (by omega) rfl (fun j => by rw [hM_N_496, mu_at, hM_N_495, mu_at, hM_N_493, mu_k kd_180 kd_163 rfl, hM_N_488, mu_at]; exact zif3) (by omega) (by omega)) (by omega) rfl
        · refine kx_aload_n 98 F 0 dX12_laysPartners_97 rfl rfl rfl ?_
          refine kx_dup 99 F dX12_laysPartners_98 rfl rfl ?_
          refine kx_geti 102 F fl_X12_391 kd_163 rfl rfl (j := 31) rfl dX12_laysPartners_99 (v := (N_428 163 31)) (by rw [hM_N_488, mu_k kd_163 kd_180 rfl]) rfl ?_
          have h_507 := Inv.g hI_N_428 kd_163 rfl 31 (a := 0) (b := 20) rfl rfl
          refine kx_iconst 103 F dX12_laysPartners_102 rfl ?_
          refine kx_iadd 104 F (v := (N_428 163 31) + 1) dX12_laysPartners_103 rfl rfl ?_
          refine kx_puti 107 F fw_X12_391 rfl kd_163 rfl rfl (j := 31) rfl dX12_laysPartners_104 rfl ?_
          intro N_508 hM_N_508
          have hI_N_508 : Inv true N_508 := Inv.u hI_N_488 hM_N_508 kd_163 (a := 0) (b := 20) rfl rfl rfl (by omega)
          have hF_N_508 : Fr f_e_laysPartners4 M N_508 := Fr.u hF_N_488 hM_N_508 kd_163 rfl
          refine kx_goto 147 F dX12_laysPartners_107 (by decide) ?_
          refine kx_iinc 150 F 3 (v := x3_427 + 1) (lo' := [some (vR G 163), some (vI a1), some (vI a2), some (vI (x3_427 + 1)), some (vI r_447)]) dX12_laysPartners_147 rfl (by omega) (by decide) rfl rfl rfl ?_
          refine kx_goto 17 F dX12_laysPartners_150 (by decide) ?_
          refine kx_drop 4 (lo' := [some (vR G 163), some (vI a1), some (vI a2), some (vI (x3_427 + 1)), none]) rfl ?_
          have e_509 : (N_508 163 30) = (N_428 163 30) := by rw [hM_N_508, mu_i (by omega), hM_N_488, mu_k kd_163 kd_180 rfl]
          have ew_510 : N_508 175 = N_428 175 := funext (fun j => by rw [hM_N_508, mu_k kd_175 kd_163 rfl, hM_N_488, mu_k kd_175 kd_180 rfl])
          have e_512 : (N_508 163 31) = (N_428 163 31) + 1 := by rw [hM_N_508, mu_s]
          have e_513 : (N_508 163 32) = (N_428 163 32) := by rw [hM_N_508, mu_i (by omega), hM_N_488, mu_k kd_163 kd_180 rfl]
          have h_514 := Inv.g hI_N_428 kd_163 rfl 32 (a := 0) (b := 20) rfl rfl
          exact ih_431 _ (by omega) (x3_427 + 1) N_508 hI_N_508 hF_N_508 (by rw [show N_508 163 30 = N_428 163 30 by omega]; rw [ew_510]; exact zLP.one hp_434 (by omega) (by have h : ¬ M 168 (60 * a1 + x3_427) < (M 164 0) := (by omega); exact h) (by have h : M 168 (60 * a1 + x3_427) < (M 164 0 + M 164 1) ∧ N_428 163 30 = 0 ∨ ¬ M 168 (60 * a1 + x3_427) < (M 164 0 + M 164 1) := (by omega); exact h) (fun j => by rw [hM_N_508, mu_k kd_180 kd_163 rfl, hM_N_488, mu_at]) (by omega)) (by omega) rfl
      · refine kx_istore 34 F 4 (lo' := [some (vR G 163), some (vI a1), some (vI a2), some (vI x3_427), some (vI r_447)]) dX12_laysPartners_32 (by decide) rfl rfl rfl ?_
        refine kx_aload_n 35 F 0 dX12_laysPartners_34 rfl rfl rfl ?_
        refine kx_getr 38 F fl_X12_71 kd_163 rfl rfl (j := 29) rfl dX12_laysPartners_35 (v := 180) (uq_180 (Inv.r hI_N_428 kd_163 rfl 29 rfl rfl)) rfl ?_
        refine kx_iload_n 39 F 3 dX12_laysPartners_38 rfl rfl rfl ?_
        refine kx_iconst 40 F dX12_laysPartners_39 rfl ?_
        refine kx_iast 41 F kd_180 rfl rfl (by omega) (by decide) dX12_laysPartners_40 rfl ?_
        intro N_518 hM_N_518
        have hI_N_518 : Inv true N_518 := Inv.u hI_N_428 hM_N_518 kd_180 (a := (-1)) (b := 19) rfl rfl rfl (by omega)
        have hF_N_518 : Fr f_e_laysPartners4 M N_518 := Fr.u hF_N_428 hM_N_518 kd_180 rfl
        refine kx_iload 43 F 4 dX12_laysPartners_41 rfl rfl ?_
        refine kx_if_ne 46 F 81 dX12_laysPartners_43 (by decide) rfl (by omega) (fun h_519 => ?_) (fun h_519 => (by exfalso; omega))
        refine kx_iload 83 F 4 dX12_laysPartners_81 rfl rfl ?_
        refine kx_iconst 84 F dX12_laysPartners_83 rfl ?_
        refine kx_icmp_eq 87 F 90 dX12_laysPartners_84 (by decide) rfl (by omega) (by decide) (fun h_520 => (by exfalso; omega)) (fun h_520 => ?_)
        refine kx_goto 147 F dX12_laysPartners_87 (by decide) ?_
        refine kx_iinc 150 F 3 (v := x3_427 + 1) (lo' := [some (vR G 163), some (vI a1), some (vI a2), some (vI (x3_427 + 1)), some (vI r_447)]) dX12_laysPartners_147 rfl (by omega) (by decide) rfl rfl rfl ?_
        refine kx_goto 17 F dX12_laysPartners_150 (by decide) ?_
        refine kx_drop 4 (lo' := [some (vR G 163), some (vI a1), some (vI a2), some (vI (x3_427 + 1)), none]) rfl ?_
        have e_521 : (N_518 163 30) = (N_428 163 30) := by rw [hM_N_518, mu_k kd_163 kd_180 rfl]
        have h_522 := Inv.g hI_N_428 kd_163 rfl 30 (a := 0) (b := 20) rfl rfl
        have ew_523 : N_518 175 = N_428 175 := funext (fun j => by rw [hM_N_518, mu_k kd_175 kd_180 rfl])
        have e_525 : (N_518 163 31) = (N_428 163 31) := by rw [hM_N_518, mu_k kd_163 kd_180 rfl]
        have h_526 := Inv.g hI_N_428 kd_163 rfl 31 (a := 0) (b := 20) rfl rfl
        have e_527 : (N_518 163 32) = (N_428 163 32) := by rw [hM_N_518, mu_k kd_163 kd_180 rfl]
        have h_528 := Inv.g hI_N_428 kd_163 rfl 32 (a := 0) (b := 20) rfl rfl
        exact ih_431 _ (by omega) (x3_427 + 1) N_518 hI_N_518 hF_N_518 (by rw [show N_518 163 30 = N_428 163 30 by omega]; rw [ew_523]; exact zLP.one hp_434 (by omega) (by have h : ¬ M 168 (60 * a1 + x3_427) < (M 164 0) := (by omega); exact h) (by have h : M 168 (60 * a1 + x3_427) < (M 164 0 + M 164 1) ∧ N_428 163 30 = 0 ∨ ¬ M 168 (60 * a1 + x3_427) < (M 164 0 + M 164 1) := (by omega); exact h) (fun j => by rw [hM_N_518, mu_at]) (by omega)) (by omega) rfl
  have e_532 : (N_3 163 30) = 0 := by rw [hM_N_3, mu_i (by omega), hM_N_2, mu_i (by omega), hM_N_1, mu_s]
  have e_534 : (N_3 163 31) = 0 := by rw [hM_N_3, mu_i (by omega), hM_N_2, mu_s]
  have e_535 : (N_3 163 32) = 0 := by rw [hM_N_3, mu_s]
  exact L_429 _ 0 N_3 hI_N_3 hF_N_3 (by rw [show N_3 163 30 = 0 by omega]; exact zLP.nil) (by omega) rfl
abbrev f_e_orNone3 : List (Nat × Int) := [(64, 2)]
set_option maxHeartbeats 4000000 in
set_option maxRecDepth 100000 in
theorem e_orNone3 (G : KG) (l : Launch) (M : Mem) (a1 : Int) (hI_M : Inv true M) (hpre : -2147483648 ≤ a1 ∧ a1 ≤ 2147483647) : KC true G l yX12_orNone cX12_orNone 2 (some .int) (1, 21) [vR G 163, vI a1] M (fun A => kQi true G A (fun (r : Int) (N : Mem) => Inv true N ∧ Fr f_e_orNone3 M N ∧ (r = a1))) := by
  refine kx_met (lo := [some (vR G 163), some (vI a1)]) (by decide) (Nat.le_of_ble_eq_true rfl) rfl ?_
  intro X F hQ
  have hF_M : Fr f_e_orNone3 M M := Fr.rf _ _
  refine kx_iload_n 1 F 1 dX12_orNone_0 rfl rfl rfl ?_
  refine kx_iconst 2 F dX12_orNone_1 rfl ?_
  refine kx_icmp_ne 5 F 12 dX12_orNone_2 (by decide) rfl (by omega) (by decide) (fun h_1 => ?_) (fun h_1 => ?_)
  · refine kx_aload_n 13 F 0 dX12_orNone_12 rfl rfl rfl ?_
    refine kx_iload_n 14 F 1 dX12_orNone_13 rfl rfl rfl ?_
    refine kx_Vi 17 (ci := 0) F (As := [vI a1]) (st := []) vd_X12_127 (c_X12_gives G l M a1 hI_M (by omega)) kd_163 rfl rfl rfl ⟨by decide, by decide⟩ rfl rfl (Nat.le_of_ble_eq_true rfl) dX12_orNone_14 rfl ?_
    intro r_2 N_3 q_4
    obtain ⟨hI_N_3, hG_N_3, q_4c⟩ := q_4
    have hF_N_3 : Fr f_e_orNone3 M N_3 := Fr.c hF_M hG_N_3 rfl
    refine kx_topi (e' := a1) (by omega) ?_
    exact kx_iret F hQ ⟨hI_N_3, hF_N_3, (by omega)⟩ dX12_orNone_17
  · refine kx_aload_n 6 F 0 dX12_orNone_5 rfl rfl rfl ?_
    refine kx_bipush 8 F dX12_orNone_6 (by decide) rfl ?_
    refine kx_Vi 11 (ci := 0) F (As := [vI 6]) (st := []) vd_X12_123 (c_X12_refuse G l M 6 hI_M (by omega)) kd_163 rfl rfl rfl ⟨by decide, by decide⟩ rfl rfl (Nat.le_of_ble_eq_true rfl) dX12_orNone_8 rfl ?_
    intro r_5 N_6 q_7
    obtain ⟨hI_N_6, hG_N_6, q_7c⟩ := q_7
    have hF_N_6 : Fr f_e_orNone3 M N_6 := Fr.c hF_M hG_N_6 rfl
    subst q_7c
    exact kx_iret F hQ ⟨hI_N_6, hF_N_6, (by omega)⟩ dX12_orNone_11
abbrev f_e_partner3m : List (Nat × Int) := [(64, 2), (64, 30), (64, 31), (64, 32), (76, -1), (80, -1)]
set_option maxHeartbeats 4000000 in
set_option maxRecDepth 100000 in
theorem e_partner3m (G : KG) (l : Launch) (M : Mem) (a1 : Int) (a2 : Int) (a3 : Int) (hI_M : Inv true M) (hpre : -2147483648 ≤ a1 ∧ a1 ≤ 2147483647 ∧ -2147483648 ≤ a2 ∧ a2 ≤ 2147483647 ∧ -2147483648 ≤ a3 ∧ a3 ≤ 2147483647) : KC true G l yX12_partner cX12_partner 5 (some .int) (3, 67) [vR G 163, vI a1, vI a2, vI a3] M (fun A => kQi true G A (fun (r : Int) (N : Mem) => Inv true N ∧ Fr f_e_partner3m M N ∧ (r ≥ -2147483648 ∧ r ≤ 2147483647) ∧ (zPE (M 168) a1 a2 a3 (M 167 a1) (M 164 0 + M 164 1 + M 164 2) (M 164 0) (M 164 0 + M 164 1) r))) := by
  refine kx_met (lo := [some (vR G 163), some (vI a1), some (vI a2), some (vI a3), none]) (by decide) (Nat.le_of_ble_eq_true rfl) rfl ?_
  intro X F hQ
  have hF_M : Fr f_e_partner3m M M := Fr.rf _ _
  have h_1 := Inv.g hI_M kd_164 rfl 0 (a := 0) (b := 2) (at_c 0 0 (o := 0) (lo := 0) (hi := 2) (by omega) (by decide) (by decide) (by decide)).1 (at_c 0 0 (o := 0) (lo := 0) (hi := 2) (by omega) (by decide) (by decide) (by decide)).2
  have h_2 := Inv.g hI_M kd_164 rfl 1 (a := 0) (b := 2) (at_c 1 0 (o := 1) (lo := 0) (hi := 2) (by omega) (by decide) (by decide) (by decide)).1 (at_c 1 0 (o := 1) (lo := 0) (hi := 2) (by omega) (by decide) (by decide) (by decide)).2
  have h_3 := Inv.g hI_M kd_164 rfl 2 (a := 0) (b := 2) (at_c 2 0 (o := 2) (lo := 0) (hi := 2) (by omega) (by decide) (by decide) (by decide)).1 (at_c 2 0 (o := 2) (lo := 0) (hi := 2) (by omega) (by decide) (by decide) (by decide)).2
  refine kx_aload_n 1 F 0 dX12_partner_0 rfl rfl rfl ?_
  refine kx_iload_n 2 F 1 dX12_partner_1 rfl rfl rfl ?_
  refine kx_iload_n 3 F 2 dX12_partner_2 rfl rfl rfl ?_
  refine kx_Vi 6 (ci := 0) F (As := [vI a1, vI a2]) (st := []) vd_X12_358 (e_isWordCall3 G l M a1 a2 hI_M (by omega)) kd_163 rfl rfl rfl ⟨by decide, by decide⟩ rfl rfl (Nat.le_of_ble_eq_true rfl) dX12_partner_3 rfl ?_
  intro r_4 N_5 q_6
  obtain ⟨rfl, q_6c⟩ := q_6
  rcases q_6c with q_6c | q_6c | q_6c | q_6c | q_6c
  · refine kx_if_eq 9 F 18 dX12_partner_6 (by decide) rfl (by omega) (fun h_7 => (by exfalso; omega)) (fun h_7 => ?_)
    refine kx_iload_n 10 F 3 dX12_partner_9 rfl rfl rfl ?_
    refine kx_if_lt 13 F 18 dX12_partner_10 (by decide) rfl (by omega) (fun h_8 => ?_) (fun h_8 => ?_)
    · refine kx_aload_n 19 F 0 dX12_partner_18 rfl rfl rfl ?_
      refine kx_iconst 20 F dX12_partner_19 rfl ?_
      refine kx_Vi 23 (ci := 0) F (As := [vI 1]) (st := []) vd_X12_123 (c_X12_refuse G l M 1 hI_M (by omega)) kd_163 rfl rfl rfl ⟨by decide, by decide⟩ rfl rfl (Nat.le_of_ble_eq_true rfl) dX12_partner_20 rfl ?_
      intro r_9 N_10 q_11
      obtain ⟨hI_N_10, hG_N_10, q_11c⟩ := q_11
      have hF_N_10 : Fr f_e_partner3m M N_10 := Fr.c hF_M hG_N_10 rfl
      subst q_11c
      exact kx_iret F hQ ⟨hI_N_10, hF_N_10, (by omega), (Or.inr ⟨fun h => by have h1 := h.1; have h2 := h.2.1; have h3 := h.2.2.1; have h4 := h.2.2.2.1; have h5 := h.2.2.2.2.1; have h6 := h.2.2.2.2.2.1; clear h; omega, by omega⟩)⟩ dX12_partner_23
    · refine kx_iload_n 14 F 3 dX12_partner_13 rfl rfl rfl ?_
      refine kx_iload_n 15 F 2 dX12_partner_14 rfl rfl rfl ?_
      refine kx_icmp_lt 18 F 24 dX12_partner_15 (by decide) rfl (by omega) (by omega) (fun h_12 => ?_) (fun h_12 => ?_)
      · refine kx_aload_n 25 F 0 dX12_partner_24 rfl rfl rfl ?_
        refine kx_iload_n 26 F 1 dX12_partner_25 rfl rfl rfl ?_
        refine kx_iload_n 27 F 2 dX12_partner_26 rfl rfl rfl ?_
        refine kx_Vi 30 (ci := 0) F (As := [vI a1, vI a2]) (st := []) vd_X12_361 (e_wrongWord3 G l M a1 a2 hI_M (by omega)) kd_163 rfl rfl rfl ⟨by decide, by decide⟩ rfl rfl (Nat.le_of_ble_eq_true rfl) dX12_partner_27 rfl ?_
        intro r_13 N_14 q_15
        obtain ⟨rfl, q_15c, hz_N_14⟩ := q_15
        rcases q_15c with q_15c | q_15c
        · refine kx_istore 32 F 4 (lo' := [some (vR G 163), some (vI a1), some (vI a2), some (vI a3), some (vI r_13)]) dX12_partner_30 (by decide) rfl rfl rfl ?_
          refine kx_iload 34 F 4 dX12_partner_32 rfl rfl ?_
          refine kx_if_le 37 F 44 dX12_partner_34 (by decide) rfl (by omega) (fun h_16 => ?_) (fun h_16 => (by exfalso; omega))
          refine kx_aload_n 45 F 0 dX12_partner_44 rfl rfl rfl ?_
          refine kx_iload_n 46 F 1 dX12_partner_45 rfl rfl rfl ?_
          refine kx_iload_n 47 F 2 dX12_partner_46 rfl rfl rfl ?_
          refine kx_Vv 50 (ci := 0) F (As := [vI a1, vI a2]) (st := []) vd_X12_400 (e_laysPartners4 G l M a1 a2 hI_M (by omega) (hz_N_14.1 (by omega))) kd_163 rfl rfl rfl ⟨by decide, by decide⟩ rfl rfl (Nat.le_of_ble_eq_true rfl) dX12_partner_47 rfl ?_
          intro N_17 q_18
          obtain ⟨hI_N_17, hG_N_17, hl_N_17⟩ := q_18
          have hF_N_17 : Fr f_e_partner3m M N_17 := Fr.c hF_M hG_N_17 rfl
          refine kx_aload_n 51 F 0 dX12_partner_50 rfl rfl rfl ?_
          refine kx_aload_n 52 F 0 dX12_partner_51 rfl rfl rfl ?_
          refine kx_getr 55 F fl_X12_71 kd_163 rfl rfl (j := 29) rfl dX12_partner_52 (v := 180) (uq_180 (Inv.r hI_N_17 kd_163 rfl 29 rfl rfl)) rfl ?_
          refine kx_iload_n 56 F 3 dX12_partner_55 rfl rfl rfl ?_
          refine kx_iald 57 F kd_180 rfl rfl (by omega) (by decide) dX12_partner_56 (v := (N_17 180 a3)) rfl rfl ?_
          have h_19 := Inv.g hI_N_17 kd_180 rfl a3 (a := (-1)) (b := 19) rfl rfl
          refine kx_Vi 60 (ci := 0) F (As := [vI (N_17 180 a3)]) (st := []) vd_X12_294 (e_orNone3 G l N_17 (N_17 180 a3) hI_N_17 (by omega)) kd_163 rfl rfl rfl ⟨by decide, by decide⟩ rfl rfl (Nat.le_of_ble_eq_true rfl) dX12_partner_57 rfl ?_
          intro r_20 N_21 q_22
          obtain ⟨hI_N_21, hG_N_21, q_22c⟩ := q_22
          have hF_N_21 : Fr f_e_partner3m M N_21 := Fr.c hF_N_17 hG_N_21 rfl
          refine kx_topi (e' := (N_17 180 a3)) (by omega) ?_
          exact kx_iret F hQ ⟨hI_N_21, hF_N_21, (by omega), (Or.inl ⟨⟨by omega, by omega, zWR.y hz_N_14.2 (by omega)⟩, zPT.cv (hl_N_17 a3 (by omega) (by omega)) (by omega)⟩)⟩ dX12_partner_60
        · refine kx_istore 32 F 4 (lo' := [some (vR G 163), some (vI a1), some (vI a2), some (vI a3), some (vI r_13)]) dX12_partner_30 (by decide) rfl rfl rfl ?_
          refine kx_iload 34 F 4 dX12_partner_32 rfl rfl ?_
          refine kx_if_le 37 F 44 dX12_partner_34 (by decide) rfl (by omega) (fun h_23 => (by exfalso; omega)) (fun h_23 => ?_)
          refine kx_aload_n 38 F 0 dX12_partner_37 rfl rfl rfl ?_
          refine kx_iload 40 F 4 dX12_partner_38 rfl rfl ?_
          refine kx_Vi 43 (ci := 0) F (As := [vI r_13]) (st := []) vd_X12_123 (c_X12_refuse G l M r_13 hI_M (by omega)) kd_163 rfl rfl rfl ⟨by decide, by decide⟩ rfl rfl (Nat.le_of_ble_eq_true rfl) dX12_partner_40 rfl ?_
          intro r_24 N_25 q_26
          obtain ⟨hI_N_25, hG_N_25, q_26c⟩ := q_26
          have hF_N_25 : Fr f_e_partner3m M N_25 := Fr.c hF_M hG_N_25 rfl
          subst q_26c
          exact kx_iret F hQ ⟨hI_N_25, hF_N_25, (by omega), (Or.inr ⟨fun h => (zWR.n hz_N_14.2 (by omega)) ⟨rfl, h.2.2⟩, by omega⟩)⟩ dX12_partner_43
      · refine kx_aload_n 19 F 0 dX12_partner_18 rfl rfl rfl ?_
        refine kx_iconst 20 F dX12_partner_19 rfl ?_
        refine kx_Vi 23 (ci := 0) F (As := [vI 1]) (st := []) vd_X12_123 (c_X12_refuse G l M 1 hI_M (by omega)) kd_163 rfl rfl rfl ⟨by decide, by decide⟩ rfl rfl (Nat.le_of_ble_eq_true rfl) dX12_partner_20 rfl ?_
        intro r_27 N_28 q_29
        obtain ⟨hI_N_28, hG_N_28, q_29c⟩ := q_29
        have hF_N_28 : Fr f_e_partner3m M N_28 := Fr.c hF_M hG_N_28 rfl
        subst q_29c
        exact kx_iret F hQ ⟨hI_N_28, hF_N_28, (by omega), (Or.inr ⟨fun h => by have h1 := h.1; have h2 := h.2.1; have h3 := h.2.2.1; have h4 := h.2.2.2.1; have h5 := h.2.2.2.2.1; have h6 := h.2.2.2.2.2.1; clear h; omega, by omega⟩)⟩ dX12_partner_23
  · refine kx_if_eq 9 F 18 dX12_partner_6 (by decide) rfl (by omega) (fun h_30 => ?_) (fun h_30 => (by exfalso; omega))
    refine kx_aload_n 19 F 0 dX12_partner_18 rfl rfl rfl ?_
    refine kx_iconst 20 F dX12_partner_19 rfl ?_
    refine kx_Vi 23 (ci := 0) F (As := [vI 1]) (st := []) vd_X12_123 (c_X12_refuse G l M 1 hI_M (by omega)) kd_163 rfl rfl rfl ⟨by decide, by decide⟩ rfl rfl (Nat.le_of_ble_eq_true rfl) dX12_partner_20 rfl ?_
    intro r_31 N_32 q_33
    obtain ⟨hI_N_32, hG_N_32, q_33c⟩ := q_33
    have hF_N_32 : Fr f_e_partner3m M N_32 := Fr.c hF_M hG_N_32 rfl
    subst q_33c
    exact kx_iret F hQ ⟨hI_N_32, hF_N_32, (by omega), (Or.inr ⟨fun h => by have h1 := h.1; have h2 := h.2.1; have h3 := h.2.2.1; have h4 := h.2.2.2.1; have h5 := h.2.2.2.2.1; have h6 := h.2.2.2.2.2.1; clear h; omega, by omega⟩)⟩ dX12_partner_23
  · refine kx_if_eq 9 F 18 dX12_partner_6 (by decide) rfl (by omega) (fun h_34 => ?_) (fun h_34 => (by exfalso; omega))
    refine kx_aload_n 19 F 0 dX12_partner_18 rfl rfl rfl ?_
    refine kx_iconst 20 F dX12_partner_19 rfl ?_
    refine kx_Vi 23 (ci := 0) F (As := [vI 1]) (st := []) vd_X12_123 (c_X12_refuse G l M 1 hI_M (by omega)) kd_163 rfl rfl rfl ⟨by decide, by decide⟩ rfl rfl (Nat.le_of_ble_eq_true rfl) dX12_partner_20 rfl ?_
    intro r_35 N_36 q_37
    obtain ⟨hI_N_36, hG_N_36, q_37c⟩ := q_37
    have hF_N_36 : Fr f_e_partner3m M N_36 := Fr.c hF_M hG_N_36 rfl
    subst q_37c
    exact kx_iret F hQ ⟨hI_N_36, hF_N_36, (by omega), (Or.inr ⟨fun h => by have h1 := h.1; have h2 := h.2.1; have h3 := h.2.2.1; have h4 := h.2.2.2.1; have h5 := h.2.2.2.2.1; have h6 := h.2.2.2.2.2.1; clear h; omega, by omega⟩)⟩ dX12_partner_23
  · refine kx_if_eq 9 F 18 dX12_partner_6 (by decide) rfl (by omega) (fun h_38 => ?_) (fun h_38 => (by exfalso; omega))
    refine kx_aload_n 19 F 0 dX12_partner_18 rfl rfl rfl ?_
    refine kx_iconst 20 F dX12_partner_19 rfl ?_
    refine kx_Vi 23 (ci := 0) F (As := [vI 1]) (st := []) vd_X12_123 (c_X12_refuse G l M 1 hI_M (by omega)) kd_163 rfl rfl rfl ⟨by decide, by decide⟩ rfl rfl (Nat.le_of_ble_eq_true rfl) dX12_partner_20 rfl ?_
    intro r_39 N_40 q_41
    obtain ⟨hI_N_40, hG_N_40, q_41c⟩ := q_41
    have hF_N_40 : Fr f_e_partner3m M N_40 := Fr.c hF_M hG_N_40 rfl
    subst q_41c
    exact kx_iret F hQ ⟨hI_N_40, hF_N_40, (by omega), (Or.inr ⟨fun h => by have h1 := h.1; have h2 := h.2.1; have h3 := h.2.2.1; have h4 := h.2.2.2.1; have h5 := h.2.2.2.2.1; have h6 := h.2.2.2.2.2.1; clear h; omega, by omega⟩)⟩ dX12_partner_23
  · refine kx_if_eq 9 F 18 dX12_partner_6 (by decide) rfl (by omega) (fun h_42 => ?_) (fun h_42 => (by exfalso; omega))
    refine kx_aload_n 19 F 0 dX12_partner_18 rfl rfl rfl ?_
    refine kx_iconst 20 F dX12_partner_19 rfl ?_
    refine kx_Vi 23 (ci := 0) F (As := [vI 1]) (st := []) vd_X12_123 (c_X12_refuse G l M 1 hI_M (by omega)) kd_163 rfl rfl rfl ⟨by decide, by decide⟩ rfl rfl (Nat.le_of_ble_eq_true rfl) dX12_partner_20 rfl ?_
    intro r_43 N_44 q_45
    obtain ⟨hI_N_44, hG_N_44, q_45c⟩ := q_45
    have hF_N_44 : Fr f_e_partner3m M N_44 := Fr.c hF_M hG_N_44 rfl
    subst q_45c
    exact kx_iret F hQ ⟨hI_N_44, hF_N_44, (by omega), (Or.inr ⟨fun h => by have h1 := h.1; have h2 := h.2.1; have h3 := h.2.2.1; have h4 := h.2.2.2.1; have h5 := h.2.2.2.2.1; have h6 := h.2.2.2.2.2.1; clear h; omega, by omega⟩)⟩ dX12_partner_23
