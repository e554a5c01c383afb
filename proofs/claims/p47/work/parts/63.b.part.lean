set_option maxHeartbeats 4000000 in
set_option maxRecDepth 100000 in
theorem e_X1_latestX (G : KG) (l : Launch) (M : Mem) (c0 : Int) (hI_M : Inv false M) (hk_c0 : kd c0 = 17) (x : Int) (hlx : (M (M c0 0) 3 = 1 ∧ x = M (M c0 0) 4) ∨ (M (M c0 0) 3 ≠ 1 ∧ x = M (M c0 0) 5)) : KC false G l yX1_latest cX1_latest 1 (some (.object "NestedChecker$Automaton")) (1, 21) [vR G c0] M (fun A => kQr false G A (fun (r : Int) (N : Mem) => M = N ∧ kd r = 1 ∧ (((True) ∧ x = r)))) := by
  refine kx_met (lo := [some (vR G c0)]) (by decide) (Nat.le_of_ble_eq_true rfl) rfl ?_
  intro X F hQ
  refine kx_aload_n 1 F 0 dX1_latest_0 rfl rfl rfl ?_
  refine kx_getr 4 F fl_X1_12 hk_c0 rfl rfl (j := 0) rfl dX1_latest_1 (v := (M c0 0)) rfl rfl ?_
  have hk_1 : kd (M c0 0) = 12 := Inv.r hI_M hk_c0 rfl 0 rfl rfl
  refine kx_aload_n 5 F 0 dX1_latest_4 rfl rfl rfl ?_
  refine kx_getr 8 F fl_X1_12 hk_c0 rfl rfl (j := 0) rfl dX1_latest_5 (v := (M c0 0)) rfl rfl ?_
  refine kx_geti 11 F fl_X1_86 hk_1 rfl rfl (j := 3) rfl dX1_latest_8 (v := (M (M c0 0) 3)) rfl rfl ?_
  have h_2 := Inv.g hI_M hk_1 rfl 3 (a := 0) (b := 2) rfl rfl
  refine kx_iconst 12 F dX1_latest_11 rfl ?_
  refine kx_isub 13 F (v := (M (M c0 0) 3) - 1) dX1_latest_12 rfl rfl ?_
  refine kx_Vr 16 (ci := 0) F (As := [vI ((M (M c0 0) 3) - 1)]) (st := []) vd_X1_181 (c_X5_pickE G l M (M c0 0) ((M (M c0 0) 3) - 1) hI_M hk_1 (by omega)) hk_1 rfl rfl rfl ⟨by decide, by decide⟩ rfl rfl (Nat.le_of_ble_eq_true rfl) dX1_latest_13 rfl ?_
  intro r_3 N_4 q_5
  obtain ⟨rfl, hk_6, q_5d⟩ := q_5
  rcases q_5d with ⟨q_5c, rfl⟩ | ⟨q_5c, rfl⟩
  · exact kx_aret F hQ ⟨rfl, hk_6, ⟨trivial, by omega⟩⟩ dX1_latest_16
  · exact kx_aret F hQ ⟨rfl, hk_6, ⟨trivial, by omega⟩⟩ dX1_latest_16
abbrev f_e_X1_takeStates : List (Nat × Int) := [(1, 2), (1, 3), (17, 2), (17, 3), (17, 6), (17, 7), (17, 8), (17, 9)]
set_option maxHeartbeats 4000000 in
set_option maxRecDepth 100000 in
theorem e_X1_takeStates (G : KG) (l : Launch) (M : Mem) (c0 : Int) (a1 : Int) (hI_M : Inv false M) (hk_c0 : kd c0 = 17) (hpre : 0 ≤ a1 ∧ a1 ≤ 1 ∧ (M c0 7) + (M c0 8) ≤ 900) (Bt : Int → Int) (hB : TB M c0 Bt) (j : Int) (hj : 0 ≤ j) (hs : M c0 6 = tk Bt j ∧ M c0 7 = tp Bt j ∧ M c0 7 + M c0 8 = tq Bt j) (t q : Int → Int) (hN : NU M c0 Bt t q) (hq : M (M c0 0) 0 = q 0 ∧ M (M c0 0) 1 = q 0 + q 1 ∧ M (M c0 0) 2 = q 0 + q 1 + q 2 ∧ M (M c0 0) 3 = q 3 ∧ 0 ≤ q 0 ∧ q 0 ≤ 2 ∧ 0 ≤ q 1 ∧ q 1 ≤ 2 ∧ 0 ≤ q 2 ∧ q 2 ≤ 2 ∧ 0 ≤ q 3 ∧ q 3 ≤ 2) (hA : CA M c0 q) (hZ : FZ M) (hr : ∀ b, (b = 100 ∨ b = 185) → q (b + 4) ≤ 20 ∨ q 3 = 0) (hw : tk Bt j = 1) (x b : Int) (hkx : kd x = 1) (hx : (b = 100 ∧ q 3 = 1 ∧ x = M (M c0 0) 4) ∨ (b = 185 ∧ q 3 = 2 ∧ x = M (M c0 0) 5)) (i : Int) (hi : a1 = 1 ∧ i = 2 ∨ a1 = 0 ∧ i = 3) : KC false G l yX1_takeStates cX1_takeStates 6 (some .boolean) (3, 63) [vR G c0, vI a1] M (fun A => kQi false G A (fun (r : Int) (N : Mem) => Inv false N ∧ Fr f_e_X1_takeStates M N ∧ (r ≥ 0 ∧ r ≤ 1) ∧ Cf (SL (M c0 0) (q 3 - 1)) M N ∧ (∃ e s, SR Bt (q b) j (q (b + i)) e s r (N c0 2) (N c0 3) ∧ (r = 1 → N c0 6 = tk Bt e ∧ N c0 7 = tp Bt e ∧ N c0 7 + N c0 8 = tq Bt e ∧ N c0 2 = M c0 2 ∧ N c0 3 = M c0 3 ∧ CQ N c0 (upk q (b + i) s) ∧ NU N c0 Bt t (upk q (b + i) s) ∧ CA N c0 (upk q (b + i) s))))) := by
  refine kx_met (lo := [some (vR G c0), some (vI a1), none, none, none, none]) (by decide) (Nat.le_of_ble_eq_true rfl) rfl ?_
  intro X F hQ
  have hF_M : Fr f_e_X1_takeStates M M := Fr.rf _ _
  have hE_M : Cf (SL (M c0 0) (q 3 - 1)) M M := Cf.rf _ _
  have h_1 := Inv.g hI_M hk_c0 rfl 7 (a := 0) (b := 900) rfl rfl
  have h_2 := Inv.g hI_M hk_c0 rfl 8 (a := 0) (b := 900) rfl rfl
  have ht_3 := tp_le (n := M c0 5) (TB.tx hB hI_M hk_c0) (Inv.g hI_M hk_c0 rfl 5 (a := 0) (b := 900) rfl rfl).1 (j := j) (by omega)
  have h_4 := Inv.g hI_M hk_c0 rfl 5 (a := 0) (b := 900) rfl rfl
  have ht_5 : 0 ≤ tk Bt j ∧ tk Bt j ≤ 4 := tk_b (n := M c0 5) (TB.tx hB hI_M hk_c0) (by omega)
  have hk_6 : kd (M c0 0) = 12 := Inv.r hI_M hk_c0 rfl 0 rfl rfl
  have hk_7 : kd (M c0 10) = 19 := Inv.r hI_M hk_c0 rfl 10 rfl rfl
  have hk_8 : kd (M c0 11) = 20 := Inv.r hI_M hk_c0 rfl 11 rfl rfl
  have htq : 1 ≤ tq Bt j := by have := tq_end (n := M c0 5) (TB.tx hB hI_M hk_c0) hj; have := tp_le (n := M c0 5) (TB.tx hB hI_M hk_c0) (Inv.g hI_M hk_c0 rfl 5 (a := 0) (b := 900) rfl rfl).1 hj; omega
  refine kx_aload_n 1 F 0 dX1_takeStates_0 rfl rfl rfl ?_
  have h_9 := Inv.g hI_M hk_6 rfl 3 (a := 0) (b := 2) rfl rfl
  refine kx_Vr 4 (ci := 0) F (As := []) (st := []) vd_X1_135 (e_X1_latestX G l M c0 hI_M hk_c0 x (by omega)) hk_c0 rfl rfl rfl ⟨by decide, by decide⟩ rfl rfl (Nat.le_of_ble_eq_true rfl) dX1_takeStates_1 rfl ?_
  intro r_10 N_11 q_12
  obtain ⟨rfl, hk_13, q_12d⟩ := q_12
  rcases q_12d with ⟨q_12c, rfl⟩
  · have hA1 : AT M x q b := by
      rcases hx with ⟨e1, e2, e3⟩ | ⟨e1, e2, e3⟩
      · rw [e1, e3]; exact hA.1 (by omega)
      · rw [e1, e3]; exact hA.2 (by omega)
    have hAn := hA1.num
    have hxz := hZ.2.1 (M c0 0) hk_6
    refine kx_astore_n 5 F 2 (lo' := [some (vR G c0), some (vI a1), some (vR G x), none, none, none]) dX1_takeStates_4 rfl (by decide) rfl rfl rfl ?_
    refine kx_iload_n 6 F 1 dX1_takeStates_5 rfl rfl rfl ?_
    refine kx_if_eq 9 F 16 dX1_takeStates_6 (by decide) rfl (by omega) (fun h_14 => ?_) (fun h_14 => ?_)
    · refine kx_aload_n 17 F 2 dX1_takeStates_16 rfl rfl rfl ?_
      refine kx_geti 20 F fl_X1_150 hk_13 rfl rfl (j := 3) rfl dX1_takeStates_17 (v := (M x 3)) rfl rfl ?_
      have h_15 := Inv.g hI_M hk_13 rfl 3 (a := 0) (b := 7) rfl rfl
      refine kx_istore_n 21 F 3 (lo' := [some (vR G c0), some (vI a1), some (vR G x), some (vI (M x 3)), none, none]) dX1_takeStates_20 rfl (by decide) rfl rfl rfl ?_
      refine kx_aload_n 22 F 0 dX1_takeStates_21 rfl rfl rfl ?_
      refine kx_Vi 25 (ci := 0) F (As := []) (st := []) vd_X1_57 (e_X1_advance G l M c0 hI_M hk_c0 (by omega) Bt hB (j + 1) j (by omega) (by omega) (by omega)) hk_c0 rfl rfl rfl ⟨by decide, by decide⟩ rfl rfl (Nat.le_of_ble_eq_true rfl) dX1_takeStates_22 rfl ?_
      intro r_16 N_17 q_18
      obtain ⟨hI_N_17, hG_N_17, q_18c⟩ := q_18
      have hF_N_17 : Fr f_e_X1_takeStates M N_17 := Fr.c hF_M hG_N_17 rfl
      have hE_N_17 : Cf (SL (M c0 0) (q 3 - 1)) M N_17 := Cf.fr hE_M hG_N_17 rfl
      have ht_19 := tp_le (n := M c0 5) (TB.tx hB hI_M hk_c0) (Inv.g hI_M hk_c0 rfl 5 (a := 0) (b := 900) rfl rfl).1 (j := (j + 1)) (by omega)
      have ht_21 : 0 ≤ tk Bt (j + 1) ∧ tk Bt (j + 1) ≤ 4 := tk_b (n := M c0 5) (TB.tx hB hI_M hk_c0) (by omega)
      have h_22 := Inv.g hI_N_17 hk_c0 rfl 7 (a := 0) (b := 900) rfl rfl
      have h_23 := Inv.g hI_N_17 hk_c0 rfl 8 (a := 0) (b := 900) rfl rfl
      have h_24 := Inv.g hI_N_17 hk_c0 rfl 6 (a := 0) (b := 5) rfl rfl
      have h_25 := Inv.g hI_M hk_c0 rfl 2 (a := (-2147483648)) (b := 2147483647) rfl rfl
      have h_26 := Inv.g hI_N_17 hk_c0 rfl 2 (a := (-2147483648)) (b := 2147483647) rfl rfl
      have h_27 := Inv.g hI_M hk_c0 rfl 3 (a := (-2147483648)) (b := 2147483647) rfl rfl
      have h_28 := Inv.g hI_N_17 hk_c0 rfl 3 (a := (-2147483648)) (b := 2147483647) rfl rfl
      have h_32 := Inv.g hI_N_17 hk_c0 rfl 9 (a := (-2147483648)) (b := 2147483647) rfl rfl
      rcases q_18c with q_18c | q_18c | q_18c
      · refine kx_istore 27 F 4 (lo' := [some (vR G c0), some (vI a1), some (vR G x), some (vI (M x 3)), some (vI r_16), none]) dX1_takeStates_25 (by decide) rfl rfl rfl ?_
        refine kx_iconst 28 F dX1_takeStates_27 rfl ?_
        refine kx_istore 30 F 5 (lo' := [some (vR G c0), some (vI a1), some (vR G x), some (vI (M x 3)), some (vI r_16), some (vI 0)]) dX1_takeStates_28 (by decide) rfl rfl rfl ?_
        have L_629 : ∀ (n_630 : Nat) (x3_625 : Int) (x4_626 : Int) (x5_627 : Int) (N_628 : Mem), Inv false N_628 → Fr f_e_X1_takeStates M N_628 → Cf (SL (M c0 0) (q 3 - 1)) M N_628 → TS N_628 M c0 Bt (q b) j (q (b + i)) x5_627 x4_626 x3_625 → 0 ≤ x3_625 ∧ x3_625 ≤ 7 ∧ 0 ≤ x4_626 ∧ x4_626 ≤ 1 ∧ 0 ≤ x5_627 ∧ x5_627 ≤ 900 ∧ x5_627 ≤ (M c0 5) - 1 ∧ (N_628 x 2) = (M x 2) ∧ (N_628 x 3) = (M x 3) → (900 - (x5_627)).toNat = n_630 → KJ false G X N_628 30 [some (vR G c0), some (vI a1), some (vR G x), some (vI x3_625), some (vI x4_626), some (vI x5_627)] [] := by
          intro n_630
          refine Nat.strongRecOn n_630 ?_
          intro n_630 ih_631 x3_625 x4_626 x5_627 N_628 hI_N_628 hF_N_628 hE_N_628 hp_634 h_632 hm_633
          refine kx_iload 32 F 5 dX1_takeStates_30 rfl rfl ?_
          refine kx_aload_n 33 F 0 dX1_takeStates_32 rfl rfl rfl ?_
          refine kx_geti 36 F fl_X1_45 hk_c0 rfl rfl (j := 5) rfl dX1_takeStates_33 (v := (M c0 5)) (by rw [Fr.e hF_N_628 hk_c0 _ rfl]) rfl ?_
          refine kx_icmp_ge 39 F 106 dX1_takeStates_36 (by decide) rfl (by omega) (by omega) (fun h_636 => (by exfalso; omega)) (fun h_636 => ?_)
          refine kx_iload 41 F 4 dX1_takeStates_39 rfl rfl ?_
          refine kx_if_eq 44 F 106 dX1_takeStates_41 (by decide) rfl (by omega) (fun h_637 => ?_) (fun h_637 => ?_)
          · have hz := TS.z hp_634 (by omega)
            refine kx_aload_n 107 F 2 dX1_takeStates_106 rfl rfl rfl ?_
            refine kx_iload_n 108 F 1 dX1_takeStates_107 rfl rfl rfl ?_
            refine kx_if_eq 111 F 115 dX1_takeStates_108 (by decide) rfl (by omega) (fun h_638 => ?_) (fun h_638 => (by exfalso; omega))
            refine kx_aload_n 116 F 2 dX1_takeStates_115 rfl rfl rfl ?_
            refine kx_geti 119 F fl_X1_147 hk_13 rfl rfl (j := 2) rfl dX1_takeStates_116 (v := (N_628 x 2)) rfl rfl ?_
            have h_639 := Inv.g hI_N_628 hk_13 rfl 2 (a := 0) (b := 7) rfl rfl
            refine kx_puti 122 F fw_X1_147 rfl hk_13 rfl rfl (j := 2) rfl dX1_takeStates_119 rfl ?_
            intro N_640 hM_N_640
            have hI_N_640 : Inv false N_640 := Inv.u hI_N_628 hM_N_640 hk_13 (a := 0) (b := 7) rfl rfl rfl (by omega)
            have hF_N_640 : Fr f_e_X1_takeStates M N_640 := Fr.u hF_N_628 hM_N_640 hk_13 rfl
            have hE_N_640 : Cf (SL (M c0 0) (q 3 - 1)) M N_640 := Cf.st hE_N_628 hM_N_640 (Or.inr (by omega))
            refine kx_aload_n 123 F 2 dX1_takeStates_122 rfl rfl rfl ?_
            refine kx_iload_n 124 F 1 dX1_takeStates_123 rfl rfl rfl ?_
            refine kx_if_eq 127 F 134 dX1_takeStates_124 (by decide) rfl (by omega) (fun h_641 => ?_) (fun h_641 => (by exfalso; omega))
            refine kx_iload_n 135 F 3 dX1_takeStates_134 rfl rfl rfl ?_
            refine kx_puti 138 F fw_X1_150 rfl hk_13 rfl rfl (j := 3) rfl dX1_takeStates_135 rfl ?_
            intro N_642 hM_N_642
            have hI_N_642 : Inv false N_642 := Inv.u hI_N_640 hM_N_642 hk_13 (a := 0) (b := 7) rfl rfl rfl (by omega)
            have hF_N_642 : Fr f_e_X1_takeStates M N_642 := Fr.u hF_N_640 hM_N_642 hk_13 rfl
            have hE_N_642 : Cf (SL (M c0 0) (q 3 - 1)) M N_642 := Cf.st hE_N_640 hM_N_642 (Or.inr (by omega))
            refine kx_iload 140 F 4 dX1_takeStates_138 rfl rfl ?_
            have e_643 : (N_642 c0 2) = (N_628 c0 2) := by rw [hM_N_642, mu_k hk_c0 hk_13 rfl, hM_N_640, mu_k hk_c0 hk_13 rfl]
            have h_644 := Inv.g hI_N_628 hk_c0 rfl 2 (a := (-2147483648)) (b := 2147483647) rfl rfl
            have e_645 : (N_642 c0 3) = (N_628 c0 3) := by rw [hM_N_642, mu_k hk_c0 hk_13 rfl, hM_N_640, mu_k hk_c0 hk_13 rfl]
            have h_646 := Inv.g hI_N_628 hk_c0 rfl 3 (a := (-2147483648)) (b := 2147483647) rfl rfl
            have e_647 : (N_642 c0 6) = (N_628 c0 6) := by rw [hM_N_642, mu_k hk_c0 hk_13 rfl, hM_N_640, mu_k hk_c0 hk_13 rfl]
            have h_648 := Inv.g hI_N_628 hk_c0 rfl 6 (a := 0) (b := 5) rfl rfl
            have e_649 : (N_642 c0 7) = (N_628 c0 7) := by rw [hM_N_642, mu_k hk_c0 hk_13 rfl, hM_N_640, mu_k hk_c0 hk_13 rfl]
            have h_650 := Inv.g hI_N_628 hk_c0 rfl 7 (a := 0) (b := 900) rfl rfl
            have e_651 : (N_642 c0 8) = (N_628 c0 8) := by rw [hM_N_642, mu_k hk_c0 hk_13 rfl, hM_N_640, mu_k hk_c0 hk_13 rfl]
            have h_652 := Inv.g hI_N_628 hk_c0 rfl 8 (a := 0) (b := 900) rfl rfl
            exact kx_zret F hQ (by omega) ⟨hI_N_642, hF_N_642, (by omega), hE_N_642, ⟨_, _, TS.sr hp_634 (Or.inl (by omega)), fun h => absurd h (by omega)⟩⟩ dX1_takeStates_140
          · have hg := TS.g hp_634 (by omega)
            have ht_653 := tp_le (n := M c0 5) (TB.tx hB hI_M hk_c0) (Inv.g hI_M hk_c0 rfl 5 (a := 0) (b := 900) rfl rfl).1 (j := (j + x5_627 + 1)) (by omega)
            have ht_655 : 0 ≤ tk Bt (j + x5_627 + 1) ∧ tk Bt (j + x5_627 + 1) ≤ 4 := tk_b (n := M c0 5) (TB.tx hB hI_M hk_c0) (by omega)
            refine kx_aload_n 45 F 0 dX1_takeStates_44 rfl rfl rfl ?_
            refine kx_geti 48 F fl_X1_61 hk_c0 rfl rfl (j := 6) rfl dX1_takeStates_45 (v := (N_628 c0 6)) rfl rfl ?_
            have h_656 := Inv.g hI_N_628 hk_c0 rfl 6 (a := 0) (b := 5) rfl rfl
            refine kx_iconst 49 F dX1_takeStates_48 rfl ?_
            refine kx_icmp_eq 52 F 106 dX1_takeStates_49 (by decide) rfl (by omega) (by decide) (fun h_657 => ?_) (fun h_657 => ?_)
            · refine kx_aload_n 107 F 2 dX1_takeStates_106 rfl rfl rfl ?_
              refine kx_iload_n 108 F 1 dX1_takeStates_107 rfl rfl rfl ?_
              refine kx_if_eq 111 F 115 dX1_takeStates_108 (by decide) rfl (by omega) (fun h_658 => ?_) (fun h_658 => (by exfalso; omega))
              refine kx_aload_n 116 F 2 dX1_takeStates_115 rfl rfl rfl ?_
              refine kx_geti 119 F fl_X1_147 hk_13 rfl rfl (j := 2) rfl dX1_takeStates_116 (v := (N_628 x 2)) rfl rfl ?_
              have h_659 := Inv.g hI_N_628 hk_13 rfl 2 (a := 0) (b := 7) rfl rfl
              refine kx_puti 122 F fw_X1_147 rfl hk_13 rfl rfl (j := 2) rfl dX1_takeStates_119 rfl ?_
              intro N_660 hM_N_660
              have hI_N_660 : Inv false N_660 := Inv.u hI_N_628 hM_N_660 hk_13 (a := 0) (b := 7) rfl rfl rfl (by omega)
              have hF_N_660 : Fr f_e_X1_takeStates M N_660 := Fr.u hF_N_628 hM_N_660 hk_13 rfl
              have hE_N_660 : Cf (SL (M c0 0) (q 3 - 1)) M N_660 := Cf.st hE_N_628 hM_N_660 (Or.inr (by omega))
              refine kx_aload_n 123 F 2 dX1_takeStates_122 rfl rfl rfl ?_
              refine kx_iload_n 124 F 1 dX1_takeStates_123 rfl rfl rfl ?_
              refine kx_if_eq 127 F 134 dX1_takeStates_124 (by decide) rfl (by omega) (fun h_661 => ?_) (fun h_661 => (by exfalso; omega))
              refine kx_iload_n 135 F 3 dX1_takeStates_134 rfl rfl rfl ?_
              refine kx_puti 138 F fw_X1_150 rfl hk_13 rfl rfl (j := 3) rfl dX1_takeStates_135 rfl ?_
              intro N_662 hM_N_662
              have hI_N_662 : Inv false N_662 := Inv.u hI_N_660 hM_N_662 hk_13 (a := 0) (b := 7) rfl rfl rfl (by omega)
              have hF_N_662 : Fr f_e_X1_takeStates M N_662 := Fr.u hF_N_660 hM_N_662 hk_13 rfl
              have hE_N_662 : Cf (SL (M c0 0) (q 3 - 1)) M N_662 := Cf.st hE_N_660 hM_N_662 (Or.inr (by omega))
              refine kx_iload 140 F 4 dX1_takeStates_138 rfl rfl ?_
              have e_663 : (N_662 c0 2) = (N_628 c0 2) := by rw [hM_N_662, mu_k hk_c0 hk_13 rfl, hM_N_660, mu_k hk_c0 hk_13 rfl]
              have h_664 := Inv.g hI_N_628 hk_c0 rfl 2 (a := (-2147483648)) (b := 2147483647) rfl rfl
              have e_665 : (N_662 c0 3) = (N_628 c0 3) := by rw [hM_N_662, mu_k hk_c0 hk_13 rfl, hM_N_660, mu_k hk_c0 hk_13 rfl]
              have h_666 := Inv.g hI_N_628 hk_c0 rfl 3 (a := (-2147483648)) (b := 2147483647) rfl rfl
              have e_667 : (N_662 c0 6) = (N_628 c0 6) := by rw [hM_N_662, mu_k hk_c0 hk_13 rfl, hM_N_660, mu_k hk_c0 hk_13 rfl]
              have e_668 : (N_662 c0 7) = (N_628 c0 7) := by rw [hM_N_662, mu_k hk_c0 hk_13 rfl, hM_N_660, mu_k hk_c0 hk_13 rfl]
              have h_669 := Inv.g hI_N_628 hk_c0 rfl 7 (a := 0) (b := 900) rfl rfl
              have e_670 : (N_662 c0 8) = (N_628 c0 8) := by rw [hM_N_662, mu_k hk_c0 hk_13 rfl, hM_N_660, mu_k hk_c0 hk_13 rfl]
              have h_671 := Inv.g hI_N_628 hk_c0 rfl 8 (a := 0) (b := 900) rfl rfl
              have e_672 : (N_662 (M c0 0) 0) = (M (M c0 0) 0) := by rw [hM_N_662, mu_k hk_6 hk_13 rfl, hM_N_660, mu_k hk_6 hk_13 rfl, Fr.e hF_N_628 hk_6 _ rfl]
              have h_673 := Inv.g hI_M hk_6 rfl 0 (a := 0) (b := 2) rfl rfl
              have e_674 : (N_662 (M c0 0) 1) = (M (M c0 0) 1) := by rw [hM_N_662, mu_k hk_6 hk_13 rfl, hM_N_660, mu_k hk_6 hk_13 rfl, Fr.e hF_N_628 hk_6 _ rfl]
              have h_675 := Inv.g hI_M hk_6 rfl 1 (a := 0) (b := 4) rfl rfl
              have e_676 : (N_662 (M c0 0) 2) = (M (M c0 0) 2) := by rw [hM_N_662, mu_k hk_6 hk_13 rfl, hM_N_660, mu_k hk_6 hk_13 rfl, Fr.e hF_N_628 hk_6 _ rfl]
              have h_677 := Inv.g hI_M hk_6 rfl 2 (a := 0) (b := 6) rfl rfl
              have e_678 : (N_662 (M c0 0) 3) = (M (M c0 0) 3) := by rw [hM_N_662, mu_k hk_6 hk_13 rfl, hM_N_660, mu_k hk_6 hk_13 rfl, Fr.e hF_N_628 hk_6 _ rfl]
              have e_679 : (N_662 x 0) = (M x 0) := by rw [hM_N_662, mu_i (by omega), hM_N_660, mu_i (by omega), Fr.e hF_N_628 hk_13 _ rfl]
              have h_680 := Inv.g hI_M hk_13 rfl 0 (a := 0) (b := 3) rfl rfl
              have e_681 : (N_662 x 1) = (M x 1) := by rw [hM_N_662, mu_i (by omega), hM_N_660, mu_i (by omega), Fr.e hF_N_628 hk_13 _ rfl]
              have h_682 := Inv.g hI_M hk_13 rfl 1 (a := 0) (b := 3) rfl rfl
              have e_683 : (N_662 x 2) = (N_628 x 2) := by rw [hM_N_662, mu_i (by omega), hM_N_660, mu_s]
              have e_684 : (N_662 x 3) = x3_625 := by rw [hM_N_662, mu_s]
              have e_685 : (N_662 x 4) = (M x 4) := by rw [hM_N_662, mu_i (by omega), hM_N_660, mu_i (by omega), Fr.e hF_N_628 hk_13 _ rfl]
              have h_686 := Inv.g hI_M hk_13 rfl 4 (a := 0) (b := 20) rfl rfl
              have e_687 : (N_662 x 5) = (M x 5) := by rw [hM_N_662, mu_i (by omega), hM_N_660, mu_i (by omega), Fr.e hF_N_628 hk_13 _ rfl]
              have h_688 := Inv.g hI_M hk_13 rfl 5 (a := 0) (b := 2) rfl rfl
              exact kx_zret F hQ (by omega) ⟨hI_N_662, hF_N_662, (by omega), hE_N_662, ⟨_, _, TS.sr hp_634 (Or.inr (Or.inr (Or.inr (Or.inr (by omega))))), fun _ => ⟨by omega, by omega, by omega, by omega, by omega, (CQ.cg (q' := (upk q (b + i) x3_625)) hq (by rw [hM_N_662, mu_k hk_c0 hk_13 rfl, hM_N_660, mu_k hk_c0 hk_13 rfl, Fr.e hF_N_628 hk_c0 _ rfl]) (by omega) (by omega) (by omega) (by rw [upk_o (by omega)]; omega) (upk_o (by omega)) (upk_o (by omega)) (upk_o (by omega)) (by rw [upk_o (by omega)]; omega)), (NU.cg (NU.st (NU.st (NU.fr hN hI_M hk_c0 hF_N_628 rfl) hI_N_628 hk_c0 hM_N_660 hk_13 rfl) hI_N_660 hk_c0 hM_N_662 hk_13 rfl) (upk_o (by omega)) (upk_o (by omega)) (upk_o (by omega))), (CA.set (x := x) (b := b) hA hx hZ hI_M hk_6 hE_N_662 (by rw [hM_N_662, mu_k hk_c0 hk_13 rfl, hM_N_660, mu_k hk_c0 hk_13 rfl, Fr.e hF_N_628 hk_c0 _ rfl]) (by rw [hM_N_662, mu_k hk_6 hk_13 rfl, hM_N_660, mu_k hk_6 hk_13 rfl, Fr.e hF_N_628 hk_6 _ rfl]) (by rw [hM_N_662, mu_k hk_6 hk_13 rfl, hM_N_660, mu_k hk_6 hk_13 rfl, Fr.e hF_N_628 hk_6 _ rfl]) (AT.set hA1 (by omega) (by omega) (fun k h0 h5 hn => by have hh : k = 0 ∨ k = 1 ∨ k = 2 ∨ k = 3 ∨ k = 4 ∨ k = 5 := (by omega); rcases hh with e | e | e | e | e | e <;> subst e <;> first | omega | (exfalso; omega)) (by rcases hi with ⟨ha, e⟩ | ⟨ha, e⟩ <;> subst e <;> omega) (by rw [hM_N_662, mu_i (by omega), hM_N_660, mu_i (by omega), Fr.e hF_N_628 hk_13 _ rfl]) (by rw [hM_N_662, mu_i (by omega), hM_N_660, mu_i (by omega), Fr.e hF_N_628 hk_13 _ rfl]) (by rw [hM_N_662, mu_i (by omega), hM_N_660, mu_i (by omega), Fr.e hF_N_628 hk_13 _ rfl]) (by rw [hM_N_662, mu_i (by omega), hM_N_660, mu_i (by omega), Fr.e hF_N_628 hk_13 _ rfl]) (Fr.fn hF_N_662 (Inv.r hI_M hk_13 rfl 6 rfl rfl) rfl) (Fr.fn hF_N_662 (Inv.r hI_M hk_13 rfl 7 rfl rfl) rfl) (Fr.fn hF_N_662 (Inv.r hI_M hk_13 rfl 8 rfl rfl) rfl) (Fr.fn hF_N_662 (Inv.r hI_M hk_13 rfl 9 rfl rfl) rfl) (by rw [hM_N_662, mu_i (by omega), hM_N_660, mu_i (by omega), Fr.e hF_N_628 hk_13 _ rfl]) (by rw [hM_N_662, mu_i (by omega), hM_N_660, mu_i (by omega), Fr.e hF_N_628 hk_13 _ rfl]) (Fr.fn hF_N_662 (Inv.r hI_M hk_13 rfl 10 rfl rfl) rfl) (Fr.fn hF_N_662 (Inv.r hI_M hk_13 rfl 11 rfl rfl) rfl)) (fun k hk => upk_o (by omega)) hr)⟩⟩⟩ dX1_takeStates_140
            · refine kx_aload_n 53 F 0 dX1_takeStates_52 rfl rfl rfl ?_
              refine kx_iconst 54 F dX1_takeStates_53 rfl ?_
              refine kx_aload_n 55 F 2 dX1_takeStates_54 rfl rfl rfl ?_
              refine kx_geti 58 F fl_X1_153 hk_13 rfl rfl (j := 0) rfl dX1_takeStates_55 (v := (M x 0)) (by rw [Fr.e hF_N_628 hk_13 _ rfl]) rfl ?_
              have h_689 := Inv.g hI_M hk_13 rfl 0 (a := 0) (b := 3) rfl rfl
              refine kx_iconst 59 F dX1_takeStates_58 rfl ?_
              refine kx_isub 60 F (v := (M x 0) - 1) dX1_takeStates_59 rfl rfl ?_
              have h_690 := Inv.g hI_N_628 hk_c0 rfl 7 (a := 0) (b := 900) rfl rfl
              have h_691 := Inv.g hI_N_628 hk_c0 rfl 8 (a := 0) (b := 900) rfl rfl
              refine kx_Vi 63 (ci := 0) F (As := [vI 0, vI ((M x 0) - 1)]) (st := []) vd_X1_123 (e_X1_standsNumber G l N_628 c0 0 ((M x 0) - 1) hI_N_628 hk_c0 (by omega) Bt (TB.fr hB hI_M hk_c0 hF_N_628 rfl) (j + x5_627 + 1) (by omega) (by omega)) hk_c0 rfl rfl rfl ⟨by decide, by decide⟩ rfl rfl (Nat.le_of_ble_eq_true rfl) dX1_takeStates_60 rfl ?_
              intro r_692 N_693 q_694
              obtain ⟨hI_N_693, hG_N_693, q_694c⟩ := q_694
              have hF_N_693 : Fr f_e_X1_takeStates M N_693 := Fr.c hF_N_628 hG_N_693 rfl
              have hE_N_693 : Cf (SL (M c0 0) (q 3 - 1)) M N_693 := Cf.fr hE_N_628 hG_N_693 rfl
              have h_695 := Inv.g hI_N_628 hk_c0 rfl 9 (a := (-2147483648)) (b := 2147483647) rfl rfl
              have h_696 := Inv.g hI_N_628 hk_c0 rfl 2 (a := (-2147483648)) (b := 2147483647) rfl rfl
              have h_697 := Inv.g hI_N_693 hk_c0 rfl 2 (a := (-2147483648)) (b := 2147483647) rfl rfl
              have h_698 := Inv.g hI_N_628 hk_c0 rfl 3 (a := (-2147483648)) (b := 2147483647) rfl rfl
              have h_699 := Inv.g hI_N_693 hk_c0 rfl 3 (a := (-2147483648)) (b := 2147483647) rfl rfl
              rcases q_694c with q_694c | q_694c | q_694c | q_694c
              · refine kx_if_ne 66 F 68 dX1_takeStates_63 (by decide) rfl (by omega) (fun h_708 => ?_) (fun h_708 => (by exfalso; omega))
                have e_709 : (N_693 c0 9) = (N_628 c0 9) := by rw [Fr.e hG_N_693 hk_c0 _ rfl]
                have hvv_710 : N_628 c0 9 = tv Bt (j + x5_627 + 1) := by omega
                refine kx_iload_n 69 F 3 dX1_takeStates_68 rfl rfl rfl ?_
                refine kx_aload_n 70 F 0 dX1_takeStates_69 rfl rfl rfl ?_
                refine kx_geti 73 F fl_X1_127 hk_c0 rfl rfl (j := 9) rfl dX1_takeStates_70 (v := (N_628 c0 9)) (by rw [Fr.e hG_N_693 hk_c0 _ rfl]) rfl ?_
                refine kx_ishr 74 F (v := (zshr x3_625 (N_628 c0 9))) dX1_takeStates_73 rfl rfl ?_
                have h_711 := zshr_r (a := x3_625) (b := (N_628 c0 9)) (by omega)
                refine kx_iconst 75 F dX1_takeStates_74 rfl ?_
                refine kx_iand 76 F (v := (zand (zshr x3_625 (N_628 c0 9)) 1)) dX1_takeStates_75 rfl rfl ?_
                have h_712 := zand_r (a := (zshr x3_625 (N_628 c0 9))) (b := 1) (by omega)
                refine kx_if_eq 79 F 85 dX1_takeStates_76 (by decide) rfl (by omega) (fun h_713 => ?_) (fun h_713 => ?_)
                · refine kx_iload_n 86 F 3 dX1_takeStates_85 rfl rfl rfl ?_
                  refine kx_iconst 87 F dX1_takeStates_86 rfl ?_
                  refine kx_aload_n 88 F 0 dX1_takeStates_87 rfl rfl rfl ?_
                  refine kx_geti 91 F fl_X1_127 hk_c0 rfl rfl (j := 9) rfl dX1_takeStates_88 (v := (N_628 c0 9)) (by rw [Fr.e hG_N_693 hk_c0 _ rfl]) rfl ?_
                  refine kx_ishl 92 F (v := (zshl 1 (N_628 c0 9))) dX1_takeStates_91 rfl rfl ?_
                  have h_714 := zshl_1 (b := (N_628 c0 9)) 2 (by decide) (by omega)
                  refine kx_ior 93 F (v := (zor x3_625 (zshl 1 (N_628 c0 9)))) dX1_takeStates_92 rfl rfl ?_
                  have h_715 : 0 ≤ (zor x3_625 (zshl 1 (N_628 c0 9))) ∧ (zor x3_625 (zshl 1 (N_628 c0 9))) < 8 := zor_lt (a := x3_625) (b := (zshl 1 (N_628 c0 9))) 3 (by decide) (by omega) (by omega)
                  refine kx_istore_n 94 F 3 (lo' := [some (vR G c0), some (vI a1), some (vR G x), some (vI (zor x3_625 (zshl 1 (N_628 c0 9)))), some (vI x4_626), some (vI x5_627)]) dX1_takeStates_93 rfl (by decide) rfl rfl rfl ?_
                  refine kx_aload_n 95 F 0 dX1_takeStates_94 rfl rfl rfl ?_
                  have e_716 : (N_693 c0 7) = (N_628 c0 7) := by rw [Fr.e hG_N_693 hk_c0 _ rfl]
                  have e_717 : (N_693 c0 8) = (N_628 c0 8) := by rw [Fr.e hG_N_693 hk_c0 _ rfl]
                  refine kx_Vi 98 (ci := 0) F (As := []) (st := []) vd_X1_57 (e_X1_advance G l N_693 c0 hI_N_693 hk_c0 (by omega) Bt (TB.fr hB hI_M hk_c0 hF_N_693 rfl) (j + x5_627 + 2) (j + x5_627 + 1) (by omega) (by omega) (by omega)) hk_c0 rfl rfl rfl ⟨by decide, by decide⟩ rfl rfl (Nat.le_of_ble_eq_true rfl) dX1_takeStates_95 rfl ?_
                  intro r_720 N_721 q_722
                  obtain ⟨hI_N_721, hG_N_721, q_722c⟩ := q_722
                  have hF_N_721 : Fr f_e_X1_takeStates M N_721 := Fr.c hF_N_693 hG_N_721 rfl
                  have hE_N_721 : Cf (SL (M c0 0) (q 3 - 1)) M N_721 := Cf.fr hE_N_693 hG_N_721 rfl
                  have ht_723 := tp_le (n := M c0 5) (TB.tx hB hI_M hk_c0) (Inv.g hI_M hk_c0 rfl 5 (a := 0) (b := 900) rfl rfl).1 (j := (j + x5_627 + 2)) (by omega)
                  have ht_725 : 0 ≤ tk Bt (j + x5_627 + 2) ∧ tk Bt (j + x5_627 + 2) ≤ 4 := tk_b (n := M c0 5) (TB.tx hB hI_M hk_c0) (by omega)
                  have h_726 := Inv.g hI_N_721 hk_c0 rfl 7 (a := 0) (b := 900) rfl rfl
                  have h_727 := Inv.g hI_N_721 hk_c0 rfl 8 (a := 0) (b := 900) rfl rfl
                  have h_728 := Inv.g hI_N_721 hk_c0 rfl 6 (a := 0) (b := 5) rfl rfl
                  have h_729 := Inv.g hI_N_721 hk_c0 rfl 2 (a := (-2147483648)) (b := 2147483647) rfl rfl
                  have h_730 := Inv.g hI_N_721 hk_c0 rfl 3 (a := (-2147483648)) (b := 2147483647) rfl rfl
                  have h_734 := Inv.g hI_N_721 hk_c0 rfl 9 (a := (-2147483648)) (b := 2147483647) rfl rfl
                  rcases q_722c with q_722c | q_722c | q_722c
                  · refine kx_istore 100 F 4 (lo' := [some (vR G c0), some (vI a1), some (vR G x), some (vI (zor x3_625 (zshl 1 (N_628 c0 9)))), some (vI r_720), some (vI x5_627)]) dX1_takeStates_98 (by decide) rfl rfl rfl ?_
                    refine kx_iinc 103 F 5 (v := x5_627 + 1) (lo' := [some (vR G c0), some (vI a1), some (vR G x), some (vI (zor x3_625 (zshl 1 (N_628 c0 9)))), some (vI r_720), some (vI (x5_627 + 1))]) dX1_takeStates_100 rfl (by omega) (by decide) rfl rfl rfl ?_
                    refine kx_goto 30 F dX1_takeStates_103 (by decide) ?_
                    have hq_743 := TS.q hp_634 (TB.tx hB hI_M hk_c0) hj (by omega)
                    have e_744 : (N_721 x 2) = (N_628 x 2) := by rw [Fr.e hG_N_721 hk_13 _ rfl, Fr.e hG_N_693 hk_13 _ rfl]
                    have h_745 := Inv.g hI_N_628 hk_13 rfl 2 (a := 0) (b := 7) rfl rfl
                    have e_746 : (N_721 x 3) = (N_628 x 3) := by rw [Fr.e hG_N_721 hk_13 _ rfl, Fr.e hG_N_693 hk_13 _ rfl]
                    have h_747 := Inv.g hI_N_628 hk_13 rfl 3 (a := 0) (b := 7) rfl rfl
                    exact ih_631 _ (by omega) (zor x3_625 (zshl 1 (N_628 c0 9))) r_720 (x5_627 + 1) N_721 hI_N_721 hF_N_721 hE_N_721 (TS.next (T2 := j + x5_627 + 2) hp_634 (TB.tx hB hI_M hk_c0) hj (by omega) (by omega) (by omega) (by omega) (by omega) rfl (Or.inl (by omega))) (by omega) rfl
                  · refine kx_istore 100 F 4 (lo' := [some (vR G c0), some (vI a1), some (vR G x), some (vI (zor x3_625 (zshl 1 (N_628 c0 9)))), some (vI r_720), some (vI x5_627)]) dX1_takeStates_98 (by decide) rfl rfl rfl ?_
                    refine kx_iinc 103 F 5 (v := x5_627 + 1) (lo' := [some (vR G c0), some (vI a1), some (vR G x), some (vI (zor x3_625 (zshl 1 (N_628 c0 9)))), some (vI r_720), some (vI (x5_627 + 1))]) dX1_takeStates_100 rfl (by omega) (by decide) rfl rfl rfl ?_
                    refine kx_goto 30 F dX1_takeStates_103 (by decide) ?_
                    have hq_748 := TS.q hp_634 (TB.tx hB hI_M hk_c0) hj (by omega)
                    have e_749 : (N_721 x 2) = (N_628 x 2) := by rw [Fr.e hG_N_721 hk_13 _ rfl, Fr.e hG_N_693 hk_13 _ rfl]
                    have h_750 := Inv.g hI_N_628 hk_13 rfl 2 (a := 0) (b := 7) rfl rfl
                    have e_751 : (N_721 x 3) = (N_628 x 3) := by rw [Fr.e hG_N_721 hk_13 _ rfl, Fr.e hG_N_693 hk_13 _ rfl]
                    have h_752 := Inv.g hI_N_628 hk_13 rfl 3 (a := 0) (b := 7) rfl rfl
                    exact ih_631 _ (by omega) (zor x3_625 (zshl 1 (N_628 c0 9))) r_720 (x5_627 + 1) N_721 hI_N_721 hF_N_721 hE_N_721 (TS.next (T2 := j + x5_627 + 2) hp_634 (TB.tx hB hI_M hk_c0) hj (by omega) (by omega) (by omega) (by omega) (by omega) rfl (Or.inl (by omega))) (by omega) rfl
                  · refine kx_istore 100 F 4 (lo' := [some (vR G c0), some (vI a1), some (vR G x), some (vI (zor x3_625 (zshl 1 (N_628 c0 9)))), some (vI r_720), some (vI x5_627)]) dX1_takeStates_98 (by decide) rfl rfl rfl ?_
                    refine kx_iinc 103 F 5 (v := x5_627 + 1) (lo' := [some (vR G c0), some (vI a1), some (vR G x), some (vI (zor x3_625 (zshl 1 (N_628 c0 9)))), some (vI r_720), some (vI (x5_627 + 1))]) dX1_takeStates_100 rfl (by omega) (by decide) rfl rfl rfl ?_
                    refine kx_goto 30 F dX1_takeStates_103 (by decide) ?_
                    have hq_754 := TS.q hp_634 (TB.tx hB hI_M hk_c0) hj (by omega)
                    have e_755 : (N_721 x 2) = (N_628 x 2) := by rw [Fr.e hG_N_721 hk_13 _ rfl, Fr.e hG_N_693 hk_13 _ rfl]
                    have h_756 := Inv.g hI_N_628 hk_13 rfl 2 (a := 0) (b := 7) rfl rfl
                    have e_757 : (N_721 x 3) = (N_628 x 3) := by rw [Fr.e hG_N_721 hk_13 _ rfl, Fr.e hG_N_693 hk_13 _ rfl]
                    have h_758 := Inv.g hI_N_628 hk_13 rfl 3 (a := 0) (b := 7) rfl rfl
                    exact ih_631 _ (by omega) (zor x3_625 (zshl 1 (N_628 c0 9))) r_720 (x5_627 + 1) N_721 hI_N_721 hF_N_721 hE_N_721 (TS.next (T2 := j + x5_627 + 2) hp_634 (TB.tx hB hI_M hk_c0) hj (by omega) (by omega) (by omega) (by omega) (by omega) rfl (Or.inr (by omega))) (by omega) rfl
                · refine kx_aload_n 80 F 0 dX1_takeStates_79 rfl rfl rfl ?_
                  refine kx_iconst 81 F dX1_takeStates_80 rfl ?_
                  refine kx_Vi 84 (ci := 0) F (As := [vI 5]) (st := []) vd_X1_89 (e_X1_fail G l N_693 c0 5 hI_N_693 hk_c0 (by omega)) hk_c0 rfl rfl rfl ⟨by decide, by decide⟩ rfl rfl (Nat.le_of_ble_eq_true rfl) dX1_takeStates_81 rfl ?_
                  intro r_759 N_760 q_761
                  obtain ⟨hI_N_760, hG_N_760, q_761c⟩ := q_761
                  have hF_N_760 : Fr f_e_X1_takeStates M N_760 := Fr.c hF_N_693 hG_N_760 rfl
                  have hE_N_760 : Cf (SL (M c0 0) (q 3 - 1)) M N_760 := Cf.fr hE_N_693 hG_N_760 rfl
                  have h_762 := Inv.g hI_N_760 hk_c0 rfl 2 (a := (-2147483648)) (b := 2147483647) rfl rfl
                  have e_763 : (N_693 c0 7) = (N_628 c0 7) := by rw [Fr.e hG_N_693 hk_c0 _ rfl]
                  have h_764 := Inv.g hI_N_760 hk_c0 rfl 3 (a := (-2147483648)) (b := 2147483647) rfl rfl
                  have e_765 : (N_760 c0 6) = (N_628 c0 6) := by rw [Fr.e hG_N_760 hk_c0 _ rfl, Fr.e hG_N_693 hk_c0 _ rfl]
                  have e_766 : (N_760 c0 7) = (N_628 c0 7) := by rw [Fr.e hG_N_760 hk_c0 _ rfl, Fr.e hG_N_693 hk_c0 _ rfl]
                  have e_767 : (N_760 c0 8) = (N_628 c0 8) := by rw [Fr.e hG_N_760 hk_c0 _ rfl, Fr.e hG_N_693 hk_c0 _ rfl]
                  exact kx_zret F hQ (by omega) ⟨hI_N_760, hF_N_760, (by omega), hE_N_760, ⟨_, _, TS.sr hp_634 (Or.inr (Or.inr (Or.inr (Or.inl ⟨by omega, by omega, by omega, by omega, by rw [← hvv_710]; omega, by omega, by omega⟩)))), fun h => absurd h (by omega)⟩⟩ dX1_takeStates_84
              · refine kx_if_ne 66 F 68 dX1_takeStates_63 (by decide) rfl (by omega) (fun h_768 => (by exfalso; omega)) (fun h_768 => ?_)
                refine kx_iconst 67 F dX1_takeStates_66 rfl ?_
                have e_769 : (N_693 c0 6) = (N_628 c0 6) := by rw [Fr.e hG_N_693 hk_c0 _ rfl]
                have e_770 : (N_693 c0 7) = (N_628 c0 7) := by rw [Fr.e hG_N_693 hk_c0 _ rfl]
                have e_771 : (N_693 c0 8) = (N_628 c0 8) := by rw [Fr.e hG_N_693 hk_c0 _ rfl]
                exact kx_zret F hQ (by omega) ⟨hI_N_693, hF_N_693, (by omega), hE_N_693, ⟨_, _, TS.sr hp_634 (Or.inr (Or.inl (by omega))), fun h => absurd h (by omega)⟩⟩ dX1_takeStates_67
              · refine kx_if_ne 66 F 68 dX1_takeStates_63 (by decide) rfl (by omega) (fun h_772 => (by exfalso; omega)) (fun h_772 => ?_)
                refine kx_iconst 67 F dX1_takeStates_66 rfl ?_
                have e_773 : (N_693 c0 6) = (N_628 c0 6) := by rw [Fr.e hG_N_693 hk_c0 _ rfl]
                have e_774 : (N_693 c0 7) = (N_628 c0 7) := by rw [Fr.e hG_N_693 hk_c0 _ rfl]
                have e_775 : (N_693 c0 8) = (N_628 c0 8) := by rw [Fr.e hG_N_693 hk_c0 _ rfl]
                exact kx_zret F hQ (by omega) ⟨hI_N_693, hF_N_693, (by omega), hE_N_693, ⟨_, _, TS.sr hp_634 (Or.inr (Or.inr (Or.inl (by omega)))), fun h => absurd h (by omega)⟩⟩ dX1_takeStates_67
              · refine kx_if_ne 66 F 68 dX1_takeStates_63 (by decide) rfl (by omega) (fun h_776 => (by exfalso; omega)) (fun h_776 => ?_)
                refine kx_iconst 67 F dX1_takeStates_66 rfl ?_
                have e_777 : (N_693 c0 6) = (N_628 c0 6) := by rw [Fr.e hG_N_693 hk_c0 _ rfl]
                have e_778 : (N_693 c0 7) = (N_628 c0 7) := by rw [Fr.e hG_N_693 hk_c0 _ rfl]
                have e_779 : (N_693 c0 8) = (N_628 c0 8) := by rw [Fr.e hG_N_693 hk_c0 _ rfl]
                exact kx_zret F hQ (by omega) ⟨hI_N_693, hF_N_693, (by omega), hE_N_693, ⟨_, _, TS.sr hp_634 (Or.inr (Or.inr (Or.inl (by omega)))), fun h => absurd h (by omega)⟩⟩ dX1_takeStates_67
        have e_781 : (N_17 x 2) = (M x 2) := by rw [Fr.e hG_N_17 hk_13 _ rfl]
        have h_782 := Inv.g hI_M hk_13 rfl 2 (a := 0) (b := 7) rfl rfl
        have e_783 : (N_17 x 3) = (M x 3) := by rw [Fr.e hG_N_17 hk_13 _ rfl]
        exact L_629 _ (M x 3) r_16 0 N_17 hI_N_17 hF_N_17 hE_N_17 (by rw [show (M x 3) = q (b + i) by rw [show i = 3 by omega]; omega]; exact TS.ini (by omega) (Or.inl (by omega))) (by omega) rfl
      · refine kx_istore 27 F 4 (lo' := [some (vR G c0), some (vI a1), some (vR G x), some (vI (M x 3)), some (vI r_16), none]) dX1_takeStates_25 (by decide) rfl rfl rfl ?_
        refine kx_iconst 28 F dX1_takeStates_27 rfl ?_
        refine kx_istore 30 F 5 (lo' := [some (vR G c0), some (vI a1), some (vR G x), some (vI (M x 3)), some (vI r_16), some (vI 0)]) dX1_takeStates_28 (by decide) rfl rfl rfl ?_
        have L_1371 : ∀ (n_1372 : Nat) (x3_1367 : Int) (x4_1368 : Int) (x5_1369 : Int) (N_1370 : Mem), Inv false N_1370 → Fr f_e_X1_takeStates M N_1370 → Cf (SL (M c0 0) (q 3 - 1)) M N_1370 → TS N_1370 M c0 Bt (q b) j (q (b + i)) x5_1369 x4_1368 x3_1367 → 0 ≤ x3_1367 ∧ x3_1367 ≤ 7 ∧ 0 ≤ x4_1368 ∧ x4_1368 ≤ 1 ∧ 0 ≤ x5_1369 ∧ x5_1369 ≤ 900 ∧ x5_1369 ≤ (M c0 5) - 1 ∧ (N_1370 x 2) = (M x 2) ∧ (N_1370 x 3) = (M x 3) → (900 - (x5_1369)).toNat = n_1372 → KJ false G X N_1370 30 [some (vR G c0), some (vI a1), some (vR G x), some (vI x3_1367), some (vI x4_1368), some (vI x5_1369)] [] := by
          intro n_1372
          refine Nat.strongRecOn n_1372 ?_
          intro n_1372 ih_1373 x3_1367 x4_1368 x5_1369 N_1370 hI_N_1370 hF_N_1370 hE_N_1370 hp_1376 h_1374 hm_1375
          refine kx_iload 32 F 5 dX1_takeStates_30 rfl rfl ?_
          refine kx_aload_n 33 F 0 dX1_takeStates_32 rfl rfl rfl ?_
          refine kx_geti 36 F fl_X1_45 hk_c0 rfl rfl (j := 5) rfl dX1_takeStates_33 (v := (M c0 5)) (by rw [Fr.e hF_N_1370 hk_c0 _ rfl]) rfl ?_
          refine kx_icmp_ge 39 F 106 dX1_takeStates_36 (by decide) rfl (by omega) (by omega) (fun h_1378 => (by exfalso; omega)) (fun h_1378 => ?_)
          refine kx_iload 41 F 4 dX1_takeStates_39 rfl rfl ?_
          refine kx_if_eq 44 F 106 dX1_takeStates_41 (by decide) rfl (by omega) (fun h_1379 => ?_) (fun h_1379 => ?_)
          · have hz := TS.z hp_1376 (by omega)
            refine kx_aload_n 107 F 2 dX1_takeStates_106 rfl rfl rfl ?_
            refine kx_iload_n 108 F 1 dX1_takeStates_107 rfl rfl rfl ?_
            refine kx_if_eq 111 F 115 dX1_takeStates_108 (by decide) rfl (by omega) (fun h_1380 => ?_) (fun h_1380 => (by exfalso; omega))
            refine kx_aload_n 116 F 2 dX1_takeStates_115 rfl rfl rfl ?_
            refine kx_geti 119 F fl_X1_147 hk_13 rfl rfl (j := 2) rfl dX1_takeStates_116 (v := (N_1370 x 2)) rfl rfl ?_
            have h_1381 := Inv.g hI_N_1370 hk_13 rfl 2 (a := 0) (b := 7) rfl rfl
            refine kx_puti 122 F fw_X1_147 rfl hk_13 rfl rfl (j := 2) rfl dX1_takeStates_119 rfl ?_
            intro N_1382 hM_N_1382
            have hI_N_1382 : Inv false N_1382 := Inv.u hI_N_1370 hM_N_1382 hk_13 (a := 0) (b := 7) rfl rfl rfl (by omega)
            have hF_N_1382 : Fr f_e_X1_takeStates M N_1382 := Fr.u hF_N_1370 hM_N_1382 hk_13 rfl
            have hE_N_1382 : Cf (SL (M c0 0) (q 3 - 1)) M N_1382 := Cf.st hE_N_1370 hM_N_1382 (Or.inr (by omega))
            refine kx_aload_n 123 F 2 dX1_takeStates_122 rfl rfl rfl ?_
            refine kx_iload_n 124 F 1 dX1_takeStates_123 rfl rfl rfl ?_
            refine kx_if_eq 127 F 134 dX1_takeStates_124 (by decide) rfl (by omega) (fun h_1383 => ?_) (fun h_1383 => (by exfalso; omega))
            refine kx_iload_n 135 F 3 dX1_takeStates_134 rfl rfl rfl ?_
            refine kx_puti 138 F fw_X1_150 rfl hk_13 rfl rfl (j := 3) rfl dX1_takeStates_135 rfl ?_
            intro N_1384 hM_N_1384
            have hI_N_1384 : Inv false N_1384 := Inv.u hI_N_1382 hM_N_1384 hk_13 (a := 0) (b := 7) rfl rfl rfl (by omega)
            have hF_N_1384 : Fr f_e_X1_takeStates M N_1384 := Fr.u hF_N_1382 hM_N_1384 hk_13 rfl
            have hE_N_1384 : Cf (SL (M c0 0) (q 3 - 1)) M N_1384 := Cf.st hE_N_1382 hM_N_1384 (Or.inr (by omega))
            refine kx_iload 140 F 4 dX1_takeStates_138 rfl rfl ?_
            have e_1385 : (N_1384 c0 2) = (N_1370 c0 2) := by rw [hM_N_1384, mu_k hk_c0 hk_13 rfl, hM_N_1382, mu_k hk_c0 hk_13 rfl]
            have h_1386 := Inv.g hI_N_1370 hk_c0 rfl 2 (a := (-2147483648)) (b := 2147483647) rfl rfl
            have e_1387 : (N_1384 c0 3) = (N_1370 c0 3) := by rw [hM_N_1384, mu_k hk_c0 hk_13 rfl, hM_N_1382, mu_k hk_c0 hk_13 rfl]
            have h_1388 := Inv.g hI_N_1370 hk_c0 rfl 3 (a := (-2147483648)) (b := 2147483647) rfl rfl
            have e_1389 : (N_1384 c0 6) = (N_1370 c0 6) := by rw [hM_N_1384, mu_k hk_c0 hk_13 rfl, hM_N_1382, mu_k hk_c0 hk_13 rfl]
            have h_1390 := Inv.g hI_N_1370 hk_c0 rfl 6 (a := 0) (b := 5) rfl rfl
            have e_1391 : (N_1384 c0 7) = (N_1370 c0 7) := by rw [hM_N_1384, mu_k hk_c0 hk_13 rfl, hM_N_1382, mu_k hk_c0 hk_13 rfl]
            have h_1392 := Inv.g hI_N_1370 hk_c0 rfl 7 (a := 0) (b := 900) rfl rfl
            have e_1393 : (N_1384 c0 8) = (N_1370 c0 8) := by rw [hM_N_1384, mu_k hk_c0 hk_13 rfl, hM_N_1382, mu_k hk_c0 hk_13 rfl]
            have h_1394 := Inv.g hI_N_1370 hk_c0 rfl 8 (a := 0) (b := 900) rfl rfl
            exact kx_zret F hQ (by omega) ⟨hI_N_1384, hF_N_1384, (by omega), hE_N_1384, ⟨_, _, TS.sr hp_1376 (Or.inl (by omega)), fun h => absurd h (by omega)⟩⟩ dX1_takeStates_140
          · have hg := TS.g hp_1376 (by omega)
            have ht_1395 := tp_le (n := M c0 5) (TB.tx hB hI_M hk_c0) (Inv.g hI_M hk_c0 rfl 5 (a := 0) (b := 900) rfl rfl).1 (j := (j + x5_1369 + 1)) (by omega)
            have ht_1397 : 0 ≤ tk Bt (j + x5_1369 + 1) ∧ tk Bt (j + x5_1369 + 1) ≤ 4 := tk_b (n := M c0 5) (TB.tx hB hI_M hk_c0) (by omega)
            refine kx_aload_n 45 F 0 dX1_takeStates_44 rfl rfl rfl ?_
            refine kx_geti 48 F fl_X1_61 hk_c0 rfl rfl (j := 6) rfl dX1_takeStates_45 (v := (N_1370 c0 6)) rfl rfl ?_
            have h_1398 := Inv.g hI_N_1370 hk_c0 rfl 6 (a := 0) (b := 5) rfl rfl
            refine kx_iconst 49 F dX1_takeStates_48 rfl ?_
            refine kx_icmp_eq 52 F 106 dX1_takeStates_49 (by decide) rfl (by omega) (by decide) (fun h_1399 => ?_) (fun h_1399 => ?_)
            · refine kx_aload_n 107 F 2 dX1_takeStates_106 rfl rfl rfl ?_
              refine kx_iload_n 108 F 1 dX1_takeStates_107 rfl rfl rfl ?_
              refine kx_if_eq 111 F 115 dX1_takeStates_108 (by decide) rfl (by omega) (fun h_1400 => ?_) (fun h_1400 => (by exfalso; omega))
              refine kx_aload_n 116 F 2 dX1_takeStates_115 rfl rfl rfl ?_
              refine kx_geti 119 F fl_X1_147 hk_13 rfl rfl (j := 2) rfl dX1_takeStates_116 (v := (N_1370 x 2)) rfl rfl ?_
              have h_1401 := Inv.g hI_N_1370 hk_13 rfl 2 (a := 0) (b := 7) rfl rfl
              refine kx_puti 122 F fw_X1_147 rfl hk_13 rfl rfl (j := 2) rfl dX1_takeStates_119 rfl ?_
              intro N_1402 hM_N_1402
              have hI_N_1402 : Inv false N_1402 := Inv.u hI_N_1370 hM_N_1402 hk_13 (a := 0) (b := 7) rfl rfl rfl (by omega)
              have hF_N_1402 : Fr f_e_X1_takeStates M N_1402 := Fr.u hF_N_1370 hM_N_1402 hk_13 rfl
              have hE_N_1402 : Cf (SL (M c0 0) (q 3 - 1)) M N_1402 := Cf.st hE_N_1370 hM_N_1402 (Or.inr (by omega))
              refine kx_aload_n 123 F 2 dX1_takeStates_122 rfl rfl rfl ?_
              refine kx_iload_n 124 F 1 dX1_takeStates_123 rfl rfl rfl ?_
              refine kx_if_eq 127 F 134 dX1_takeStates_124 (by decide) rfl (by omega) (fun h_1403 => ?_) (fun h_1403 => (by exfalso; omega))
              refine kx_iload_n 135 F 3 dX1_takeStates_134 rfl rfl rfl ?_
              refine kx_puti 138 F fw_X1_150 rfl hk_13 rfl rfl (j := 3) rfl dX1_takeStates_135 rfl ?_
              intro N_1404 hM_N_1404
              have hI_N_1404 : Inv false N_1404 := Inv.u hI_N_1402 hM_N_1404 hk_13 (a := 0) (b := 7) rfl rfl rfl (by omega)
              have hF_N_1404 : Fr f_e_X1_takeStates M N_1404 := Fr.u hF_N_1402 hM_N_1404 hk_13 rfl
              have hE_N_1404 : Cf (SL (M c0 0) (q 3 - 1)) M N_1404 := Cf.st hE_N_1402 hM_N_1404 (Or.inr (by omega))
              refine kx_iload 140 F 4 dX1_takeStates_138 rfl rfl ?_
              have e_1405 : (N_1404 c0 2) = (N_1370 c0 2) := by rw [hM_N_1404, mu_k hk_c0 hk_13 rfl, hM_N_1402, mu_k hk_c0 hk_13 rfl]
              have h_1406 := Inv.g hI_N_1370 hk_c0 rfl 2 (a := (-2147483648)) (b := 2147483647) rfl rfl
              have e_1407 : (N_1404 c0 3) = (N_1370 c0 3) := by rw [hM_N_1404, mu_k hk_c0 hk_13 rfl, hM_N_1402, mu_k hk_c0 hk_13 rfl]
              have h_1408 := Inv.g hI_N_1370 hk_c0 rfl 3 (a := (-2147483648)) (b := 2147483647) rfl rfl
              have e_1409 : (N_1404 c0 6) = (N_1370 c0 6) := by rw [hM_N_1404, mu_k hk_c0 hk_13 rfl, hM_N_1402, mu_k hk_c0 hk_13 rfl]
              have e_1410 : (N_1404 c0 7) = (N_1370 c0 7) := by rw [hM_N_1404, mu_k hk_c0 hk_13 rfl, hM_N_1402, mu_k hk_c0 hk_13 rfl]
              have h_1411 := Inv.g hI_N_1370 hk_c0 rfl 7 (a := 0) (b := 900) rfl rfl
              have e_1412 : (N_1404 c0 8) = (N_1370 c0 8) := by rw [hM_N_1404, mu_k hk_c0 hk_13 rfl, hM_N_1402, mu_k hk_c0 hk_13 rfl]
              have h_1413 := Inv.g hI_N_1370 hk_c0 rfl 8 (a := 0) (b := 900) rfl rfl
              have e_1414 : (N_1404 (M c0 0) 0) = (M (M c0 0) 0) := by rw [hM_N_1404, mu_k hk_6 hk_13 rfl, hM_N_1402, mu_k hk_6 hk_13 rfl, Fr.e hF_N_1370 hk_6 _ rfl]
              have h_1415 := Inv.g hI_M hk_6 rfl 0 (a := 0) (b := 2) rfl rfl
              have e_1416 : (N_1404 (M c0 0) 1) = (M (M c0 0) 1) := by rw [hM_N_1404, mu_k hk_6 hk_13 rfl, hM_N_1402, mu_k hk_6 hk_13 rfl, Fr.e hF_N_1370 hk_6 _ rfl]
              have h_1417 := Inv.g hI_M hk_6 rfl 1 (a := 0) (b := 4) rfl rfl
              have e_1418 : (N_1404 (M c0 0) 2) = (M (M c0 0) 2) := by rw [hM_N_1404, mu_k hk_6 hk_13 rfl, hM_N_1402, mu_k hk_6 hk_13 rfl, Fr.e hF_N_1370 hk_6 _ rfl]
              have h_1419 := Inv.g hI_M hk_6 rfl 2 (a := 0) (b := 6) rfl rfl
              have e_1420 : (N_1404 (M c0 0) 3) = (M (M c0 0) 3) := by rw [hM_N_1404, mu_k hk_6 hk_13 rfl, hM_N_1402, mu_k hk_6 hk_13 rfl, Fr.e hF_N_1370 hk_6 _ rfl]
              have e_1421 : (N_1404 x 0) = (M x 0) := by rw [hM_N_1404, mu_i (by omega), hM_N_1402, mu_i (by omega), Fr.e hF_N_1370 hk_13 _ rfl]
              have h_1422 := Inv.g hI_M hk_13 rfl 0 (a := 0) (b := 3) rfl rfl
              have e_1423 : (N_1404 x 1) = (M x 1) := by rw [hM_N_1404, mu_i (by omega), hM_N_1402, mu_i (by omega), Fr.e hF_N_1370 hk_13 _ rfl]
              have h_1424 := Inv.g hI_M hk_13 rfl 1 (a := 0) (b := 3) rfl rfl
              have e_1425 : (N_1404 x 2) = (N_1370 x 2) := by rw [hM_N_1404, mu_i (by omega), hM_N_1402, mu_s]
              have e_1426 : (N_1404 x 3) = x3_1367 := by rw [hM_N_1404, mu_s]
              have e_1427 : (N_1404 x 4) = (M x 4) := by rw [hM_N_1404, mu_i (by omega), hM_N_1402, mu_i (by omega), Fr.e hF_N_1370 hk_13 _ rfl]
              have h_1428 := Inv.g hI_M hk_13 rfl 4 (a := 0) (b := 20) rfl rfl
              have e_1429 : (N_1404 x 5) = (M x 5) := by rw [hM_N_1404, mu_i (by omega), hM_N_1402, mu_i (by omega), Fr.e hF_N_1370 hk_13 _ rfl]
              have h_1430 := Inv.g hI_M hk_13 rfl 5 (a := 0) (b := 2) rfl rfl
              exact kx_zret F hQ (by omega) ⟨hI_N_1404, hF_N_1404, (by omega), hE_N_1404, ⟨_, _, TS.sr hp_1376 (Or.inr (Or.inr (Or.inr (Or.inr (by omega))))), fun _ => ⟨by omega, by omega, by omega, by omega, by omega, (CQ.cg (q' := (upk q (b + i) x3_1367)) hq (by rw [hM_N_1404, mu_k hk_c0 hk_13 rfl, hM_N_1402, mu_k hk_c0 hk_13 rfl, Fr.e hF_N_1370 hk_c0 _ rfl]) (by omega) (by omega) (by omega) (by rw [upk_o (by omega)]; omega) (upk_o (by omega)) (upk_o (by omega)) (upk_o (by omega)) (by rw [upk_o (by omega)]; omega)), (NU.cg (NU.st (NU.st (NU.fr hN hI_M hk_c0 hF_N_1370 rfl) hI_N_1370 hk_c0 hM_N_1402 hk_13 rfl) hI_N_1402 hk_c0 hM_N_1404 hk_13 rfl) (upk_o (by omega)) (upk_o (by omega)) (upk_o (by omega))), (CA.set (x := x) (b := b) hA hx hZ hI_M hk_6 hE_N_1404 (by rw [hM_N_1404, mu_k hk_c0 hk_13 rfl, hM_N_1402, mu_k hk_c0 hk_13 rfl, Fr.e hF_N_1370 hk_c0 _ rfl]) (by rw [hM_N_1404, mu_k hk_6 hk_13 rfl, hM_N_1402, mu_k hk_6 hk_13 rfl, Fr.e hF_N_1370 hk_6 _ rfl]) (by rw [hM_N_1404, mu_k hk_6 hk_13 rfl, hM_N_1402, mu_k hk_6 hk_13 rfl, Fr.e hF_N_1370 hk_6 _ rfl]) (AT.set hA1 (by omega) (by omega) (fun k h0 h5 hn => by have hh : k = 0 ∨ k = 1 ∨ k = 2 ∨ k = 3 ∨ k = 4 ∨ k = 5 := (by omega); rcases hh with e | e | e | e | e | e <;> subst e <;> first | omega | (exfalso; omega)) (by rcases hi with ⟨ha, e⟩ | ⟨ha, e⟩ <;> subst e <;> omega) (by rw [hM_N_1404, mu_i (by omega), hM_N_1402, mu_i (by omega), Fr.e hF_N_1370 hk_13 _ rfl]) (by rw [hM_N_1404, mu_i (by omega), hM_N_1402, mu_i (by omega), Fr.e hF_N_1370 hk_13 _ rfl]) (by rw [hM_N_1404, mu_i (by omega), hM_N_1402, mu_i (by omega), Fr.e hF_N_1370 hk_13 _ rfl]) (by rw [hM_N_1404, mu_i (by omega), hM_N_1402, mu_i (by omega), Fr.e hF_N_1370 hk_13 _ rfl]) (Fr.fn hF_N_1404 (Inv.r hI_M hk_13 rfl 6 rfl rfl) rfl) (Fr.fn hF_N_1404 (Inv.r hI_M hk_13 rfl 7 rfl rfl) rfl) (Fr.fn hF_N_1404 (Inv.r hI_M hk_13 rfl 8 rfl rfl) rfl) (Fr.fn hF_N_1404 (Inv.r hI_M hk_13 rfl 9 rfl rfl) rfl) (by rw [hM_N_1404, mu_i (by omega), hM_N_1402, mu_i (by omega), Fr.e hF_N_1370 hk_13 _ rfl]) (by rw [hM_N_1404, mu_i (by omega), hM_N_1402, mu_i (by omega), Fr.e hF_N_1370 hk_13 _ rfl]) (Fr.fn hF_N_1404 (Inv.r hI_M hk_13 rfl 10 rfl rfl) rfl) (Fr.fn hF_N_1404 (Inv.r hI_M hk_13 rfl 11 rfl rfl) rfl)) (fun k hk => upk_o (by omega)) hr)⟩⟩⟩ dX1_takeStates_140
            · refine kx_aload_n 53 F 0 dX1_takeStates_52 rfl rfl rfl ?_
              refine kx_iconst 54 F dX1_takeStates_53 rfl ?_
              refine kx_aload_n 55 F 2 dX1_takeStates_54 rfl rfl rfl ?_
              refine kx_geti 58 F fl_X1_153 hk_13 rfl rfl (j := 0) rfl dX1_takeStates_55 (v := (M x 0)) (by rw [Fr.e hF_N_1370 hk_13 _ rfl]) rfl ?_
              have h_1431 := Inv.g hI_M hk_13 rfl 0 (a := 0) (b := 3) rfl rfl
              refine kx_iconst 59 F dX1_takeStates_58 rfl ?_
              refine kx_isub 60 F (v := (M x 0) - 1) dX1_takeStates_59 rfl rfl ?_
              have h_1432 := Inv.g hI_N_1370 hk_c0 rfl 7 (a := 0) (b := 900) rfl rfl
              have h_1433 := Inv.g hI_N_1370 hk_c0 rfl 8 (a := 0) (b := 900) rfl rfl
              refine kx_Vi 63 (ci := 0) F (As := [vI 0, vI ((M x 0) - 1)]) (st := []) vd_X1_123 (e_X1_standsNumber G l N_1370 c0 0 ((M x 0) - 1) hI_N_1370 hk_c0 (by omega) Bt (TB.fr hB hI_M hk_c0 hF_N_1370 rfl) (j + x5_1369 + 1) (by omega) (by omega)) hk_c0 rfl rfl rfl ⟨by decide, by decide⟩ rfl rfl (Nat.le_of_ble_eq_true rfl) dX1_takeStates_60 rfl ?_
              intro r_1434 N_1435 q_1436
              obtain ⟨hI_N_1435, hG_N_1435, q_1436c⟩ := q_1436
              have hF_N_1435 : Fr f_e_X1_takeStates M N_1435 := Fr.c hF_N_1370 hG_N_1435 rfl
              have hE_N_1435 : Cf (SL (M c0 0) (q 3 - 1)) M N_1435 := Cf.fr hE_N_1370 hG_N_1435 rfl
              have h_1437 := Inv.g hI_N_1370 hk_c0 rfl 9 (a := (-2147483648)) (b := 2147483647) rfl rfl
              have h_1438 := Inv.g hI_N_1370 hk_c0 rfl 2 (a := (-2147483648)) (b := 2147483647) rfl rfl
              have h_1439 := Inv.g hI_N_1435 hk_c0 rfl 2 (a := (-2147483648)) (b := 2147483647) rfl rfl
              have h_1440 := Inv.g hI_N_1370 hk_c0 rfl 3 (a := (-2147483648)) (b := 2147483647) rfl rfl
              have h_1441 := Inv.g hI_N_1435 hk_c0 rfl 3 (a := (-2147483648)) (b := 2147483647) rfl rfl
              rcases q_1436c with q_1436c | q_1436c | q_1436c | q_1436c
              · refine kx_if_ne 66 F 68 dX1_takeStates_63 (by decide) rfl (by omega) (fun h_1450 => ?_) (fun h_1450 => (by exfalso; omega))
                have e_1451 : (N_1435 c0 9) = (N_1370 c0 9) := by rw [Fr.e hG_N_1435 hk_c0 _ rfl]
                have hvv_1452 : N_1370 c0 9 = tv Bt (j + x5_1369 + 1) := by omega
                refine kx_iload_n 69 F 3 dX1_takeStates_68 rfl rfl rfl ?_
                refine kx_aload_n 70 F 0 dX1_takeStates_69 rfl rfl rfl ?_
                refine kx_geti 73 F fl_X1_127 hk_c0 rfl rfl (j := 9) rfl dX1_takeStates_70 (v := (N_1370 c0 9)) (by rw [Fr.e hG_N_1435 hk_c0 _ rfl]) rfl ?_
                refine kx_ishr 74 F (v := (zshr x3_1367 (N_1370 c0 9))) dX1_takeStates_73 rfl rfl ?_
                have h_1453 := zshr_r (a := x3_1367) (b := (N_1370 c0 9)) (by omega)
                refine kx_iconst 75 F dX1_takeStates_74 rfl ?_
                refine kx_iand 76 F (v := (zand (zshr x3_1367 (N_1370 c0 9)) 1)) dX1_takeStates_75 rfl rfl ?_
                have h_1454 := zand_r (a := (zshr x3_1367 (N_1370 c0 9))) (b := 1) (by omega)
                refine kx_if_eq 79 F 85 dX1_takeStates_76 (by decide) rfl (by omega) (fun h_1455 => ?_) (fun h_1455 => ?_)
                · refine kx_iload_n 86 F 3 dX1_takeStates_85 rfl rfl rfl ?_
                  refine kx_iconst 87 F dX1_takeStates_86 rfl ?_
                  refine kx_aload_n 88 F 0 dX1_takeStates_87 rfl rfl rfl ?_
                  refine kx_geti 91 F fl_X1_127 hk_c0 rfl rfl (j := 9) rfl dX1_takeStates_88 (v := (N_1370 c0 9)) (by rw [Fr.e hG_N_1435 hk_c0 _ rfl]) rfl ?_
                  refine kx_ishl 92 F (v := (zshl 1 (N_1370 c0 9))) dX1_takeStates_91 rfl rfl ?_
                  have h_1456 := zshl_1 (b := (N_1370 c0 9)) 2 (by decide) (by omega)
                  refine kx_ior 93 F (v := (zor x3_1367 (zshl 1 (N_1370 c0 9)))) dX1_takeStates_92 rfl rfl ?_
                  have h_1457 : 0 ≤ (zor x3_1367 (zshl 1 (N_1370 c0 9))) ∧ (zor x3_1367 (zshl 1 (N_1370 c0 9))) < 8 := zor_lt (a := x3_1367) (b := (zshl 1 (N_1370 c0 9))) 3 (by decide) (by omega) (by omega)
                  refine kx_istore_n 94 F 3 (lo' := [some (vR G c0), some (vI a1), some (vR G x), some (vI (zor x3_1367 (zshl 1 (N_1370 c0 9)))), some (vI x4_1368), some (vI x5_1369)]) dX1_takeStates_93 rfl (by decide) rfl rfl rfl ?_
                  refine kx_aload_n 95 F 0 dX1_takeStates_94 rfl rfl rfl ?_
                  have e_1458 : (N_1435 c0 7) = (N_1370 c0 7) := by rw [Fr.e hG_N_1435 hk_c0 _ rfl]
                  have e_1459 : (N_1435 c0 8) = (N_1370 c0 8) := by rw [Fr.e hG_N_1435 hk_c0 _ rfl]
                  refine kx_Vi 98 (ci := 0) F (As := []) (st := []) vd_X1_57 (e_X1_advance G l N_1435 c0 hI_N_1435 hk_c0 (by omega) Bt (TB.fr hB hI_M hk_c0 hF_N_1435 rfl) (j + x5_1369 + 2) (j + x5_1369 + 1) (by omega) (by omega) (by omega)) hk_c0 rfl rfl rfl ⟨by decide, by decide⟩ rfl rfl (Nat.le_of_ble_eq_true rfl) dX1_takeStates_95 rfl ?_
                  intro r_1462 N_1463 q_1464
                  obtain ⟨hI_N_1463, hG_N_1463, q_1464c⟩ := q_1464
                  have hF_N_1463 : Fr f_e_X1_takeStates M N_1463 := Fr.c hF_N_1435 hG_N_1463 rfl
                  have hE_N_1463 : Cf (SL (M c0 0) (q 3 - 1)) M N_1463 := Cf.fr hE_N_1435 hG_N_1463 rfl
                  have ht_1465 := tp_le (n := M c0 5) (TB.tx hB hI_M hk_c0) (Inv.g hI_M hk_c0 rfl 5 (a := 0) (b := 900) rfl rfl).1 (j := (j + x5_1369 + 2)) (by omega)
                  have ht_1467 : 0 ≤ tk Bt (j + x5_1369 + 2) ∧ tk Bt (j + x5_1369 + 2) ≤ 4 := tk_b (n := M c0 5) (TB.tx hB hI_M hk_c0) (by omega)
                  have h_1468 := Inv.g hI_N_1463 hk_c0 rfl 7 (a := 0) (b := 900) rfl rfl
                  have h_1469 := Inv.g hI_N_1463 hk_c0 rfl 8 (a := 0) (b := 900) rfl rfl
                  have h_1470 := Inv.g hI_N_1463 hk_c0 rfl 6 (a := 0) (b := 5) rfl rfl
                  have h_1471 := Inv.g hI_N_1463 hk_c0 rfl 2 (a := (-2147483648)) (b := 2147483647) rfl rfl
                  have h_1472 := Inv.g hI_N_1463 hk_c0 rfl 3 (a := (-2147483648)) (b := 2147483647) rfl rfl
                  have h_1476 := Inv.g hI_N_1463 hk_c0 rfl 9 (a := (-2147483648)) (b := 2147483647) rfl rfl
                  rcases q_1464c with q_1464c | q_1464c | q_1464c
                  · refine kx_istore 100 F 4 (lo' := [some (vR G c0), some (vI a1), some (vR G x), some (vI (zor x3_1367 (zshl 1 (N_1370 c0 9)))), some (vI r_1462), some (vI x5_1369)]) dX1_takeStates_98 (by decide) rfl rfl rfl ?_
                    refine kx_iinc 103 F 5 (v := x5_1369 + 1) (lo' := [some (vR G c0), some (vI a1), some (vR G x), some (vI (zor x3_1367 (zshl 1 (N_1370 c0 9)))), some (vI r_1462), some (vI (x5_1369 + 1))]) dX1_takeStates_100 rfl (by omega) (by decide) rfl rfl rfl ?_
                    refine kx_goto 30 F dX1_takeStates_103 (by decide) ?_
                    have hq_1485 := TS.q hp_1376 (TB.tx hB hI_M hk_c0) hj (by omega)
                    have e_1486 : (N_1463 x 2) = (N_1370 x 2) := by rw [Fr.e hG_N_1463 hk_13 _ rfl, Fr.e hG_N_1435 hk_13 _ rfl]
                    have h_1487 := Inv.g hI_N_1370 hk_13 rfl 2 (a := 0) (b := 7) rfl rfl
                    have e_1488 : (N_1463 x 3) = (N_1370 x 3) := by rw [Fr.e hG_N_1463 hk_13 _ rfl, Fr.e hG_N_1435 hk_13 _ rfl]
                    have h_1489 := Inv.g hI_N_1370 hk_13 rfl 3 (a := 0) (b := 7) rfl rfl
                    exact ih_1373 _ (by omega) (zor x3_1367 (zshl 1 (N_1370 c0 9))) r_1462 (x5_1369 + 1) N_1463 hI_N_1463 hF_N_1463 hE_N_1463 (TS.next (T2 := j + x5_1369 + 2) hp_1376 (TB.tx hB hI_M hk_c0) hj (by omega) (by omega) (by omega) (by omega) (by omega) rfl (Or.inl (by omega))) (by omega) rfl
                  · refine kx_istore 100 F 4 (lo' := [some (vR G c0), some (vI a1), some (vR G x), some (vI (zor x3_1367 (zshl 1 (N_1370 c0 9)))), some (vI r_1462), some (vI x5_1369)]) dX1_takeStates_98 (by decide) rfl rfl rfl ?_
                    refine kx_iinc 103 F 5 (v := x5_1369 + 1) (lo' := [some (vR G c0), some (vI a1), some (vR G x), some (vI (zor x3_1367 (zshl 1 (N_1370 c0 9)))), some (vI r_1462), some (vI (x5_1369 + 1))]) dX1_takeStates_100 rfl (by omega) (by decide) rfl rfl rfl ?_
                    refine kx_goto 30 F dX1_takeStates_103 (by decide) ?_
                    have hq_1490 := TS.q hp_1376 (TB.tx hB hI_M hk_c0) hj (by omega)
                    have e_1491 : (N_1463 x 2) = (N_1370 x 2) := by rw [Fr.e hG_N_1463 hk_13 _ rfl, Fr.e hG_N_1435 hk_13 _ rfl]
                    have h_1492 := Inv.g hI_N_1370 hk_13 rfl 2 (a := 0) (b := 7) rfl rfl
                    have e_1493 : (N_1463 x 3) = (N_1370 x 3) := by rw [Fr.e hG_N_1463 hk_13 _ rfl, Fr.e hG_N_1435 hk_13 _ rfl]
                    have h_1494 := Inv.g hI_N_1370 hk_13 rfl 3 (a := 0) (b := 7) rfl rfl
                    exact ih_1373 _ (by omega) (zor x3_1367 (zshl 1 (N_1370 c0 9))) r_1462 (x5_1369 + 1) N_1463 hI_N_1463 hF_N_1463 hE_N_1463 (TS.next (T2 := j + x5_1369 + 2) hp_1376 (TB.tx hB hI_M hk_c0) hj (by omega) (by omega) (by omega) (by omega) (by omega) rfl (Or.inl (by omega))) (by omega) rfl
                  · refine kx_istore 100 F 4 (lo' := [some (vR G c0), some (vI a1), some (vR G x), some (vI (zor x3_1367 (zshl 1 (N_1370 c0 9)))), some (vI r_1462), some (vI x5_1369)]) dX1_takeStates_98 (by decide) rfl rfl rfl ?_
                    refine kx_iinc 103 F 5 (v := x5_1369 + 1) (lo' := [some (vR G c0), some (vI a1), some (vR G x), some (vI (zor x3_1367 (zshl 1 (N_1370 c0 9)))), some (vI r_1462), some (vI (x5_1369 + 1))]) dX1_takeStates_100 rfl (by omega) (by decide) rfl rfl rfl ?_
                    refine kx_goto 30 F dX1_takeStates_103 (by decide) ?_
                    have hq_1496 := TS.q hp_1376 (TB.tx hB hI_M hk_c0) hj (by omega)
                    have e_1497 : (N_1463 x 2) = (N_1370 x 2) := by rw [Fr.e hG_N_1463 hk_13 _ rfl, Fr.e hG_N_1435 hk_13 _ rfl]
                    have h_1498 := Inv.g hI_N_1370 hk_13 rfl 2 (a := 0) (b := 7) rfl rfl
                    have e_1499 : (N_1463 x 3) = (N_1370 x 3) := by rw [Fr.e hG_N_1463 hk_13 _ rfl, Fr.e hG_N_1435 hk_13 _ rfl]
                    have h_1500 := Inv.g hI_N_1370 hk_13 rfl 3 (a := 0) (b := 7) rfl rfl
                    exact ih_1373 _ (by omega) (zor x3_1367 (zshl 1 (N_1370 c0 9))) r_1462 (x5_1369 + 1) N_1463 hI_N_1463 hF_N_1463 hE_N_1463 (TS.next (T2 := j + x5_1369 + 2) hp_1376 (TB.tx hB hI_M hk_c0) hj (by omega) (by omega) (by omega) (by omega) (by omega) rfl (Or.inr (by omega))) (by omega) rfl
                · refine kx_aload_n 80 F 0 dX1_takeStates_79 rfl rfl rfl ?_
                  refine kx_iconst 81 F dX1_takeStates_80 rfl ?_
                  refine kx_Vi 84 (ci := 0) F (As := [vI 5]) (st := []) vd_X1_89 (e_X1_fail G l N_1435 c0 5 hI_N_1435 hk_c0 (by omega)) hk_c0 rfl rfl rfl ⟨by decide, by decide⟩ rfl rfl (Nat.le_of_ble_eq_true rfl) dX1_takeStates_81 rfl ?_
                  intro r_1501 N_1502 q_1503
                  obtain ⟨hI_N_1502, hG_N_1502, q_1503c⟩ := q_1503
                  have hF_N_1502 : Fr f_e_X1_takeStates M N_1502 := Fr.c hF_N_1435 hG_N_1502 rfl
                  have hE_N_1502 : Cf (SL (M c0 0) (q 3 - 1)) M N_1502 := Cf.fr hE_N_1435 hG_N_1502 rfl
                  have h_1504 := Inv.g hI_N_1502 hk_c0 rfl 2 (a := (-2147483648)) (b := 2147483647) rfl rfl
                  have e_1505 : (N_1435 c0 7) = (N_1370 c0 7) := by rw [Fr.e hG_N_1435 hk_c0 _ rfl]
                  have h_1506 := Inv.g hI_N_1502 hk_c0 rfl 3 (a := (-2147483648)) (b := 2147483647) rfl rfl
                  have e_1507 : (N_1502 c0 6) = (N_1370 c0 6) := by rw [Fr.e hG_N_1502 hk_c0 _ rfl, Fr.e hG_N_1435 hk_c0 _ rfl]
                  have e_1508 : (N_1502 c0 7) = (N_1370 c0 7) := by rw [Fr.e hG_N_1502 hk_c0 _ rfl, Fr.e hG_N_1435 hk_c0 _ rfl]
                  have e_1509 : (N_1502 c0 8) = (N_1370 c0 8) := by rw [Fr.e hG_N_1502 hk_c0 _ rfl, Fr.e hG_N_1435 hk_c0 _ rfl]
                  exact kx_zret F hQ (by omega) ⟨hI_N_1502, hF_N_1502, (by omega), hE_N_1502, ⟨_, _, TS.sr hp_1376 (Or.inr (Or.inr (Or.inr (Or.inl ⟨by omega, by omega, by omega, by omega, by rw [← hvv_1452]; omega, by omega, by omega⟩)))), fun h => absurd h (by omega)⟩⟩ dX1_takeStates_84
              · refine kx_if_ne 66 F 68 dX1_takeStates_63 (by decide) rfl (by omega) (fun h_1510 => (by exfalso; omega)) (fun h_1510 => ?_)
                refine kx_iconst 67 F dX1_takeStates_66 rfl ?_
                have e_1511 : (N_1435 c0 6) = (N_1370 c0 6) := by rw [Fr.e hG_N_1435 hk_c0 _ rfl]
                have e_1512 : (N_1435 c0 7) = (N_1370 c0 7) := by rw [Fr.e hG_N_1435 hk_c0 _ rfl]
                have e_1513 : (N_1435 c0 8) = (N_1370 c0 8) := by rw [Fr.e hG_N_1435 hk_c0 _ rfl]
                exact kx_zret F hQ (by omega) ⟨hI_N_1435, hF_N_1435, (by omega), hE_N_1435, ⟨_, _, TS.sr hp_1376 (Or.inr (Or.inl (by omega))), fun h => absurd h (by omega)⟩⟩ dX1_takeStates_67
              · refine kx_if_ne 66 F 68 dX1_takeStates_63 (by decide) rfl (by omega) (fun h_1514 => (by exfalso; omega)) (fun h_1514 => ?_)
                refine kx_iconst 67 F dX1_takeStates_66 rfl ?_
                have e_1515 : (N_1435 c0 6) = (N_1370 c0 6) := by rw [Fr.e hG_N_1435 hk_c0 _ rfl]
                have e_1516 : (N_1435 c0 7) = (N_1370 c0 7) := by rw [Fr.e hG_N_1435 hk_c0 _ rfl]
                have e_1517 : (N_1435 c0 8) = (N_1370 c0 8) := by rw [Fr.e hG_N_1435 hk_c0 _ rfl]
                exact kx_zret F hQ (by omega) ⟨hI_N_1435, hF_N_1435, (by omega), hE_N_1435, ⟨_, _, TS.sr hp_1376 (Or.inr (Or.inr (Or.inl (by omega)))), fun h => absurd h (by omega)⟩⟩ dX1_takeStates_67
              · refine kx_if_ne 66 F 68 dX1_takeStates_63 (by decide) rfl (by omega) (fun h_1518 => (by exfalso; omega)) (fun h_1518 => ?_)
                refine kx_iconst 67 F dX1_takeStates_66 rfl ?_
                have e_1519 : (N_1435 c0 6) = (N_1370 c0 6) := by rw [Fr.e hG_N_1435 hk_c0 _ rfl]
                have e_1520 : (N_1435 c0 7) = (N_1370 c0 7) := by rw [Fr.e hG_N_1435 hk_c0 _ rfl]
                have e_1521 : (N_1435 c0 8) = (N_1370 c0 8) := by rw [Fr.e hG_N_1435 hk_c0 _ rfl]
                exact kx_zret F hQ (by omega) ⟨hI_N_1435, hF_N_1435, (by omega), hE_N_1435, ⟨_, _, TS.sr hp_1376 (Or.inr (Or.inr (Or.inl (by omega)))), fun h => absurd h (by omega)⟩⟩ dX1_takeStates_67
        have e_1522 : (N_17 x 2) = (M x 2) := by rw [Fr.e hG_N_17 hk_13 _ rfl]
        have h_1523 := Inv.g hI_M hk_13 rfl 2 (a := 0) (b := 7) rfl rfl
        have e_1524 : (N_17 x 3) = (M x 3) := by rw [Fr.e hG_N_17 hk_13 _ rfl]
        exact L_1371 _ (M x 3) r_16 0 N_17 hI_N_17 hF_N_17 hE_N_17 (by rw [show (M x 3) = q (b + i) by rw [show i = 3 by omega]; omega]; exact TS.ini (by omega) (Or.inl (by omega))) (by omega) rfl
      · refine kx_istore 27 F 4 (lo' := [some (vR G c0), some (vI a1), some (vR G x), some (vI (M x 3)), some (vI r_16), none]) dX1_takeStates_25 (by decide) rfl rfl rfl ?_
        refine kx_iconst 28 F dX1_takeStates_27 rfl ?_
        refine kx_istore 30 F 5 (lo' := [some (vR G c0), some (vI a1), some (vR G x), some (vI (M x 3)), some (vI r_16), some (vI 0)]) dX1_takeStates_28 (by decide) rfl rfl rfl ?_
        have L_1541 : ∀ (n_1542 : Nat) (x3_1537 : Int) (x4_1538 : Int) (x5_1539 : Int) (N_1540 : Mem), Inv false N_1540 → Fr f_e_X1_takeStates M N_1540 → Cf (SL (M c0 0) (q 3 - 1)) M N_1540 → TS N_1540 M c0 Bt (q b) j (q (b + i)) x5_1539 x4_1538 x3_1537 → 0 ≤ x3_1537 ∧ x3_1537 ≤ 7 ∧ 0 ≤ x4_1538 ∧ x4_1538 ≤ 0 ∧ 0 ≤ x5_1539 ∧ x5_1539 ≤ 0 ∧ x5_1539 ≤ (M c0 5) - 1 ∧ (N_1540 x 2) = (M x 2) ∧ (N_1540 x 3) = (M x 3) ∧ (M x 3) ≤ x3_1537 → (7 - (x3_1537)).toNat = n_1542 → KJ false G X N_1540 30 [some (vR G c0), some (vI a1), some (vR G x), some (vI x3_1537), some (vI x4_1538), some (vI x5_1539)] [] := by
          intro n_1542
          refine Nat.strongRecOn n_1542 ?_
          intro n_1542 ih_1543 x3_1537 x4_1538 x5_1539 N_1540 hI_N_1540 hF_N_1540 hE_N_1540 hp_1546 h_1544 hm_1545
          refine kx_iload 32 F 5 dX1_takeStates_30 rfl rfl ?_
          refine kx_aload_n 33 F 0 dX1_takeStates_32 rfl rfl rfl ?_
          refine kx_geti 36 F fl_X1_45 hk_c0 rfl rfl (j := 5) rfl dX1_takeStates_33 (v := (M c0 5)) (by rw [Fr.e hF_N_1540 hk_c0 _ rfl]) rfl ?_
          refine kx_icmp_ge 39 F 106 dX1_takeStates_36 (by decide) rfl (by omega) (by omega) (fun h_1548 => (by exfalso; omega)) (fun h_1548 => ?_)
          refine kx_iload 41 F 4 dX1_takeStates_39 rfl rfl ?_
          refine kx_if_eq 44 F 106 dX1_takeStates_41 (by decide) rfl (by omega) (fun h_1549 => ?_) (fun h_1549 => (by exfalso; omega))
          have hz := TS.z hp_1546 (by omega)
          refine kx_aload_n 107 F 2 dX1_takeStates_106 rfl rfl rfl ?_
          refine kx_iload_n 108 F 1 dX1_takeStates_107 rfl rfl rfl ?_
          refine kx_if_eq 111 F 115 dX1_takeStates_108 (by decide) rfl (by omega) (fun h_1550 => ?_) (fun h_1550 => (by exfalso; omega))
          refine kx_aload_n 116 F 2 dX1_takeStates_115 rfl rfl rfl ?_
          refine kx_geti 119 F fl_X1_147 hk_13 rfl rfl (j := 2) rfl dX1_takeStates_116 (v := (N_1540 x 2)) rfl rfl ?_
          have h_1551 := Inv.g hI_N_1540 hk_13 rfl 2 (a := 0) (b := 7) rfl rfl
          refine kx_puti 122 F fw_X1_147 rfl hk_13 rfl rfl (j := 2) rfl dX1_takeStates_119 rfl ?_
          intro N_1552 hM_N_1552
          have hI_N_1552 : Inv false N_1552 := Inv.u hI_N_1540 hM_N_1552 hk_13 (a := 0) (b := 7) rfl rfl rfl (by omega)
          have hF_N_1552 : Fr f_e_X1_takeStates M N_1552 := Fr.u hF_N_1540 hM_N_1552 hk_13 rfl
          have hE_N_1552 : Cf (SL (M c0 0) (q 3 - 1)) M N_1552 := Cf.st hE_N_1540 hM_N_1552 (Or.inr (by omega))
          refine kx_aload_n 123 F 2 dX1_takeStates_122 rfl rfl rfl ?_
          refine kx_iload_n 124 F 1 dX1_takeStates_123 rfl rfl rfl ?_
          refine kx_if_eq 127 F 134 dX1_takeStates_124 (by decide) rfl (by omega) (fun h_1553 => ?_) (fun h_1553 => (by exfalso; omega))
          refine kx_iload_n 135 F 3 dX1_takeStates_134 rfl rfl rfl ?_
          refine kx_puti 138 F fw_X1_150 rfl hk_13 rfl rfl (j := 3) rfl dX1_takeStates_135 rfl ?_
          intro N_1554 hM_N_1554
          have hI_N_1554 : Inv false N_1554 := Inv.u hI_N_1552 hM_N_1554 hk_13 (a := 0) (b := 7) rfl rfl rfl (by omega)
          have hF_N_1554 : Fr f_e_X1_takeStates M N_1554 := Fr.u hF_N_1552 hM_N_1554 hk_13 rfl
          have hE_N_1554 : Cf (SL (M c0 0) (q 3 - 1)) M N_1554 := Cf.st hE_N_1552 hM_N_1554 (Or.inr (by omega))
          refine kx_iload 140 F 4 dX1_takeStates_138 rfl rfl ?_
          have e_1555 : (N_1554 c0 2) = (N_1540 c0 2) := by rw [hM_N_1554, mu_k hk_c0 hk_13 rfl, hM_N_1552, mu_k hk_c0 hk_13 rfl]
          have h_1556 := Inv.g hI_N_1540 hk_c0 rfl 2 (a := (-2147483648)) (b := 2147483647) rfl rfl
          have e_1557 : (N_1554 c0 3) = (N_1540 c0 3) := by rw [hM_N_1554, mu_k hk_c0 hk_13 rfl, hM_N_1552, mu_k hk_c0 hk_13 rfl]
          have h_1558 := Inv.g hI_N_1540 hk_c0 rfl 3 (a := (-2147483648)) (b := 2147483647) rfl rfl
          have e_1559 : (N_1554 c0 6) = (N_1540 c0 6) := by rw [hM_N_1554, mu_k hk_c0 hk_13 rfl, hM_N_1552, mu_k hk_c0 hk_13 rfl]
          have h_1560 := Inv.g hI_N_1540 hk_c0 rfl 6 (a := 0) (b := 5) rfl rfl
          have e_1561 : (N_1554 c0 7) = (N_1540 c0 7) := by rw [hM_N_1554, mu_k hk_c0 hk_13 rfl, hM_N_1552, mu_k hk_c0 hk_13 rfl]
          have h_1562 := Inv.g hI_N_1540 hk_c0 rfl 7 (a := 0) (b := 900) rfl rfl
          have e_1563 : (N_1554 c0 8) = (N_1540 c0 8) := by rw [hM_N_1554, mu_k hk_c0 hk_13 rfl, hM_N_1552, mu_k hk_c0 hk_13 rfl]
          have h_1564 := Inv.g hI_N_1540 hk_c0 rfl 8 (a := 0) (b := 900) rfl rfl
          exact kx_zret F hQ (by omega) ⟨hI_N_1554, hF_N_1554, (by omega), hE_N_1554, ⟨_, _, TS.sr hp_1546 (Or.inl (by omega)), fun h => absurd h (by omega)⟩⟩ dX1_takeStates_140
        have e_1566 : (N_17 x 2) = (M x 2) := by rw [Fr.e hG_N_17 hk_13 _ rfl]
        have h_1567 := Inv.g hI_M hk_13 rfl 2 (a := 0) (b := 7) rfl rfl
        have e_1568 : (N_17 x 3) = (M x 3) := by rw [Fr.e hG_N_17 hk_13 _ rfl]
        exact L_1541 _ (M x 3) r_16 0 N_17 hI_N_17 hF_N_17 hE_N_17 (by rw [show (M x 3) = q (b + i) by rw [show i = 3 by omega]; omega]; exact TS.ini (by omega) (Or.inr (by omega))) (by omega) rfl
    · refine kx_aload_n 10 F 2 dX1_takeStates_9 rfl rfl rfl ?_
      refine kx_geti 13 F fl_X1_147 hk_13 rfl rfl (j := 2) rfl dX1_takeStates_10 (v := (M x 2)) rfl rfl ?_
      have h_1569 := Inv.g hI_M hk_13 rfl 2 (a := 0) (b := 7) rfl rfl
      refine kx_goto 20 F dX1_takeStates_13 (by decide) ?_
      refine kx_istore_n 21 F 3 (lo' := [some (vR G c0), some (vI a1), some (vR G x), some (vI (M x 2)), none, none]) dX1_takeStates_20 rfl (by decide) rfl rfl rfl ?_
      refine kx_aload_n 22 F 0 dX1_takeStates_21 rfl rfl rfl ?_
      refine kx_Vi 25 (ci := 0) F (As := []) (st := []) vd_X1_57 (e_X1_advance G l M c0 hI_M hk_c0 (by omega) Bt hB (j + 1) j (by omega) (by omega) (by omega)) hk_c0 rfl rfl rfl ⟨by decide, by decide⟩ rfl rfl (Nat.le_of_ble_eq_true rfl) dX1_takeStates_22 rfl ?_
      intro r_1570 N_1571 q_1572
      obtain ⟨hI_N_1571, hG_N_1571, q_1572c⟩ := q_1572
      have hF_N_1571 : Fr f_e_X1_takeStates M N_1571 := Fr.c hF_M hG_N_1571 rfl
      have hE_N_1571 : Cf (SL (M c0 0) (q 3 - 1)) M N_1571 := Cf.fr hE_M hG_N_1571 rfl
      have ht_1573 := tp_le (n := M c0 5) (TB.tx hB hI_M hk_c0) (Inv.g hI_M hk_c0 rfl 5 (a := 0) (b := 900) rfl rfl).1 (j := (j + 1)) (by omega)
      have ht_1575 : 0 ≤ tk Bt (j + 1) ∧ tk Bt (j + 1) ≤ 4 := tk_b (n := M c0 5) (TB.tx hB hI_M hk_c0) (by omega)
      have h_1576 := Inv.g hI_N_1571 hk_c0 rfl 7 (a := 0) (b := 900) rfl rfl
      have h_1577 := Inv.g hI_N_1571 hk_c0 rfl 8 (a := 0) (b := 900) rfl rfl
      have h_1578 := Inv.g hI_N_1571 hk_c0 rfl 6 (a := 0) (b := 5) rfl rfl
      have h_1579 := Inv.g hI_M hk_c0 rfl 2 (a := (-2147483648)) (b := 2147483647) rfl rfl
      have h_1580 := Inv.g hI_N_1571 hk_c0 rfl 2 (a := (-2147483648)) (b := 2147483647) rfl rfl
      have h_1581 := Inv.g hI_M hk_c0 rfl 3 (a := (-2147483648)) (b := 2147483647) rfl rfl
      have h_1582 := Inv.g hI_N_1571 hk_c0 rfl 3 (a := (-2147483648)) (b := 2147483647) rfl rfl
      have h_1586 := Inv.g hI_N_1571 hk_c0 rfl 9 (a := (-2147483648)) (b := 2147483647) rfl rfl
      rcases q_1572c with q_1572c | q_1572c | q_1572c
      · refine kx_istore 27 F 4 (lo' := [some (vR G c0), some (vI a1), some (vR G x), some (vI (M x 2)), some (vI r_1570), none]) dX1_takeStates_25 (by decide) rfl rfl rfl ?_
        refine kx_iconst 28 F dX1_takeStates_27 rfl ?_
        refine kx_istore 30 F 5 (lo' := [some (vR G c0), some (vI a1), some (vR G x), some (vI (M x 2)), some (vI r_1570), some (vI 0)]) dX1_takeStates_28 (by decide) rfl rfl rfl ?_
        have L_2183 : ∀ (n_2184 : Nat) (x3_2179 : Int) (x4_2180 : Int) (x5_2181 : Int) (N_2182 : Mem), Inv false N_2182 → Fr f_e_X1_takeStates M N_2182 → Cf (SL (M c0 0) (q 3 - 1)) M N_2182 → TS N_2182 M c0 Bt (q b) j (q (b + i)) x5_2181 x4_2180 x3_2179 → 0 ≤ x3_2179 ∧ x3_2179 ≤ 7 ∧ 0 ≤ x4_2180 ∧ x4_2180 ≤ 1 ∧ 0 ≤ x5_2181 ∧ x5_2181 ≤ 900 ∧ x5_2181 ≤ (M c0 5) - 1 ∧ (N_2182 x 2) = (M x 2) ∧ (N_2182 x 3) = (M x 3) → (900 - (x5_2181)).toNat = n_2184 → KJ false G X N_2182 30 [some (vR G c0), some (vI a1), some (vR G x), some (vI x3_2179), some (vI x4_2180), some (vI x5_2181)] [] := by
          intro n_2184
          refine Nat.strongRecOn n_2184 ?_
          intro n_2184 ih_2185 x3_2179 x4_2180 x5_2181 N_2182 hI_N_2182 hF_N_2182 hE_N_2182 hp_2188 h_2186 hm_2187
          refine kx_iload 32 F 5 dX1_takeStates_30 rfl rfl ?_
          refine kx_aload_n 33 F 0 dX1_takeStates_32 rfl rfl rfl ?_
          refine kx_geti 36 F fl_X1_45 hk_c0 rfl rfl (j := 5) rfl dX1_takeStates_33 (v := (M c0 5)) (by rw [Fr.e hF_N_2182 hk_c0 _ rfl]) rfl ?_
          refine kx_icmp_ge 39 F 106 dX1_takeStates_36 (by decide) rfl (by omega) (by omega) (fun h_2190 => (by exfalso; omega)) (fun h_2190 => ?_)
          refine kx_iload 41 F 4 dX1_takeStates_39 rfl rfl ?_
          refine kx_if_eq 44 F 106 dX1_takeStates_41 (by decide) rfl (by omega) (fun h_2191 => ?_) (fun h_2191 => ?_)
          · have hz := TS.z hp_2188 (by omega)
            refine kx_aload_n 107 F 2 dX1_takeStates_106 rfl rfl rfl ?_
            refine kx_iload_n 108 F 1 dX1_takeStates_107 rfl rfl rfl ?_
            refine kx_if_eq 111 F 115 dX1_takeStates_108 (by decide) rfl (by omega) (fun h_2192 => (by exfalso; omega)) (fun h_2192 => ?_)
            refine kx_iload_n 112 F 3 dX1_takeStates_111 rfl rfl rfl ?_
            refine kx_goto 119 F dX1_takeStates_112 (by decide) ?_
            refine kx_puti 122 F fw_X1_147 rfl hk_13 rfl rfl (j := 2) rfl dX1_takeStates_119 rfl ?_
            intro N_2193 hM_N_2193
            have hI_N_2193 : Inv false N_2193 := Inv.u hI_N_2182 hM_N_2193 hk_13 (a := 0) (b := 7) rfl rfl rfl (by omega)
            have hF_N_2193 : Fr f_e_X1_takeStates M N_2193 := Fr.u hF_N_2182 hM_N_2193 hk_13 rfl
            have hE_N_2193 : Cf (SL (M c0 0) (q 3 - 1)) M N_2193 := Cf.st hE_N_2182 hM_N_2193 (Or.inr (by omega))
            refine kx_aload_n 123 F 2 dX1_takeStates_122 rfl rfl rfl ?_
            refine kx_iload_n 124 F 1 dX1_takeStates_123 rfl rfl rfl ?_
            refine kx_if_eq 127 F 134 dX1_takeStates_124 (by decide) rfl (by omega) (fun h_2194 => (by exfalso; omega)) (fun h_2194 => ?_)
            refine kx_aload_n 128 F 2 dX1_takeStates_127 rfl rfl rfl ?_
            refine kx_geti 131 F fl_X1_150 hk_13 rfl rfl (j := 3) rfl dX1_takeStates_128 (v := (N_2182 x 3)) (by rw [hM_N_2193, mu_i (by omega)]) rfl ?_
            have h_2195 := Inv.g hI_N_2182 hk_13 rfl 3 (a := 0) (b := 7) rfl rfl
            refine kx_goto 135 F dX1_takeStates_131 (by decide) ?_
            refine kx_puti 138 F fw_X1_150 rfl hk_13 rfl rfl (j := 3) rfl dX1_takeStates_135 rfl ?_
            intro N_2196 hM_N_2196
            have hI_N_2196 : Inv false N_2196 := Inv.u hI_N_2193 hM_N_2196 hk_13 (a := 0) (b := 7) rfl rfl rfl (by omega)
            have hF_N_2196 : Fr f_e_X1_takeStates M N_2196 := Fr.u hF_N_2193 hM_N_2196 hk_13 rfl
            have hE_N_2196 : Cf (SL (M c0 0) (q 3 - 1)) M N_2196 := Cf.st hE_N_2193 hM_N_2196 (Or.inr (by omega))
            refine kx_iload 140 F 4 dX1_takeStates_138 rfl rfl ?_
            have e_2197 : (N_2196 c0 2) = (N_2182 c0 2) := by rw [hM_N_2196, mu_k hk_c0 hk_13 rfl, hM_N_2193, mu_k hk_c0 hk_13 rfl]
            have h_2198 := Inv.g hI_N_2182 hk_c0 rfl 2 (a := (-2147483648)) (b := 2147483647) rfl rfl
            have e_2199 : (N_2196 c0 3) = (N_2182 c0 3) := by rw [hM_N_2196, mu_k hk_c0 hk_13 rfl, hM_N_2193, mu_k hk_c0 hk_13 rfl]
            have h_2200 := Inv.g hI_N_2182 hk_c0 rfl 3 (a := (-2147483648)) (b := 2147483647) rfl rfl
            have e_2201 : (N_2196 c0 6) = (N_2182 c0 6) := by rw [hM_N_2196, mu_k hk_c0 hk_13 rfl, hM_N_2193, mu_k hk_c0 hk_13 rfl]
            have h_2202 := Inv.g hI_N_2182 hk_c0 rfl 6 (a := 0) (b := 5) rfl rfl
            have e_2203 : (N_2196 c0 7) = (N_2182 c0 7) := by rw [hM_N_2196, mu_k hk_c0 hk_13 rfl, hM_N_2193, mu_k hk_c0 hk_13 rfl]
            have h_2204 := Inv.g hI_N_2182 hk_c0 rfl 7 (a := 0) (b := 900) rfl rfl
            have e_2205 : (N_2196 c0 8) = (N_2182 c0 8) := by rw [hM_N_2196, mu_k hk_c0 hk_13 rfl, hM_N_2193, mu_k hk_c0 hk_13 rfl]
            have h_2206 := Inv.g hI_N_2182 hk_c0 rfl 8 (a := 0) (b := 900) rfl rfl
            exact kx_zret F hQ (by omega) ⟨hI_N_2196, hF_N_2196, (by omega), hE_N_2196, ⟨_, _, TS.sr hp_2188 (Or.inl (by omega)), fun h => absurd h (by omega)⟩⟩ dX1_takeStates_140
          · have hg := TS.g hp_2188 (by omega)
            have ht_2207 := tp_le (n := M c0 5) (TB.tx hB hI_M hk_c0) (Inv.g hI_M hk_c0 rfl 5 (a := 0) (b := 900) rfl rfl).1 (j := (j + x5_2181 + 1)) (by omega)
            have ht_2209 : 0 ≤ tk Bt (j + x5_2181 + 1) ∧ tk Bt (j + x5_2181 + 1) ≤ 4 := tk_b (n := M c0 5) (TB.tx hB hI_M hk_c0) (by omega)
            refine kx_aload_n 45 F 0 dX1_takeStates_44 rfl rfl rfl ?_
            refine kx_geti 48 F fl_X1_61 hk_c0 rfl rfl (j := 6) rfl dX1_takeStates_45 (v := (N_2182 c0 6)) rfl rfl ?_
            have h_2210 := Inv.g hI_N_2182 hk_c0 rfl 6 (a := 0) (b := 5) rfl rfl
            refine kx_iconst 49 F dX1_takeStates_48 rfl ?_
            refine kx_icmp_eq 52 F 106 dX1_takeStates_49 (by decide) rfl (by omega) (by decide) (fun h_2211 => ?_) (fun h_2211 => ?_)
            · refine kx_aload_n 107 F 2 dX1_takeStates_106 rfl rfl rfl ?_
              refine kx_iload_n 108 F 1 dX1_takeStates_107 rfl rfl rfl ?_
              refine kx_if_eq 111 F 115 dX1_takeStates_108 (by decide) rfl (by omega) (fun h_2212 => (by exfalso; omega)) (fun h_2212 => ?_)
              refine kx_iload_n 112 F 3 dX1_takeStates_111 rfl rfl rfl ?_
              refine kx_goto 119 F dX1_takeStates_112 (by decide) ?_
              refine kx_puti 122 F fw_X1_147 rfl hk_13 rfl rfl (j := 2) rfl dX1_takeStates_119 rfl ?_
              intro N_2213 hM_N_2213
              have hI_N_2213 : Inv false N_2213 := Inv.u hI_N_2182 hM_N_2213 hk_13 (a := 0) (b := 7) rfl rfl rfl (by omega)
              have hF_N_2213 : Fr f_e_X1_takeStates M N_2213 := Fr.u hF_N_2182 hM_N_2213 hk_13 rfl
              have hE_N_2213 : Cf (SL (M c0 0) (q 3 - 1)) M N_2213 := Cf.st hE_N_2182 hM_N_2213 (Or.inr (by omega))
              refine kx_aload_n 123 F 2 dX1_takeStates_122 rfl rfl rfl ?_
              refine kx_iload_n 124 F 1 dX1_takeStates_123 rfl rfl rfl ?_
              refine kx_if_eq 127 F 134 dX1_takeStates_124 (by decide) rfl (by omega) (fun h_2214 => (by exfalso; omega)) (fun h_2214 => ?_)
              refine kx_aload_n 128 F 2 dX1_takeStates_127 rfl rfl rfl ?_
              refine kx_geti 131 F fl_X1_150 hk_13 rfl rfl (j := 3) rfl dX1_takeStates_128 (v := (N_2182 x 3)) (by rw [hM_N_2213, mu_i (by omega)]) rfl ?_
              have h_2215 := Inv.g hI_N_2182 hk_13 rfl 3 (a := 0) (b := 7) rfl rfl
              refine kx_goto 135 F dX1_takeStates_131 (by decide) ?_
              refine kx_puti 138 F fw_X1_150 rfl hk_13 rfl rfl (j := 3) rfl dX1_takeStates_135 rfl ?_
              intro N_2216 hM_N_2216
              have hI_N_2216 : Inv false N_2216 := Inv.u hI_N_2213 hM_N_2216 hk_13 (a := 0) (b := 7) rfl rfl rfl (by omega)
              have hF_N_2216 : Fr f_e_X1_takeStates M N_2216 := Fr.u hF_N_2213 hM_N_2216 hk_13 rfl
              have hE_N_2216 : Cf (SL (M c0 0) (q 3 - 1)) M N_2216 := Cf.st hE_N_2213 hM_N_2216 (Or.inr (by omega))
              refine kx_iload 140 F 4 dX1_takeStates_138 rfl rfl ?_
              have e_2217 : (N_2216 c0 2) = (N_2182 c0 2) := by rw [hM_N_2216, mu_k hk_c0 hk_13 rfl, hM_N_2213, mu_k hk_c0 hk_13 rfl]
              have h_2218 := Inv.g hI_N_2182 hk_c0 rfl 2 (a := (-2147483648)) (b := 2147483647) rfl rfl
              have e_2219 : (N_2216 c0 3) = (N_2182 c0 3) := by rw [hM_N_2216, mu_k hk_c0 hk_13 rfl, hM_N_2213, mu_k hk_c0 hk_13 rfl]
              have h_2220 := Inv.g hI_N_2182 hk_c0 rfl 3 (a := (-2147483648)) (b := 2147483647) rfl rfl
              have e_2221 : (N_2216 c0 6) = (N_2182 c0 6) := by rw [hM_N_2216, mu_k hk_c0 hk_13 rfl, hM_N_2213, mu_k hk_c0 hk_13 rfl]
              have e_2222 : (N_2216 c0 7) = (N_2182 c0 7) := by rw [hM_N_2216, mu_k hk_c0 hk_13 rfl, hM_N_2213, mu_k hk_c0 hk_13 rfl]
              have h_2223 := Inv.g hI_N_2182 hk_c0 rfl 7 (a := 0) (b := 900) rfl rfl
              have e_2224 : (N_2216 c0 8) = (N_2182 c0 8) := by rw [hM_N_2216, mu_k hk_c0 hk_13 rfl, hM_N_2213, mu_k hk_c0 hk_13 rfl]
              have h_2225 := Inv.g hI_N_2182 hk_c0 rfl 8 (a := 0) (b := 900) rfl rfl
              have e_2226 : (N_2216 (M c0 0) 0) = (M (M c0 0) 0) := by rw [hM_N_2216, mu_k hk_6 hk_13 rfl, hM_N_2213, mu_k hk_6 hk_13 rfl, Fr.e hF_N_2182 hk_6 _ rfl]
              have h_2227 := Inv.g hI_M hk_6 rfl 0 (a := 0) (b := 2) rfl rfl
              have e_2228 : (N_2216 (M c0 0) 1) = (M (M c0 0) 1) := by rw [hM_N_2216, mu_k hk_6 hk_13 rfl, hM_N_2213, mu_k hk_6 hk_13 rfl, Fr.e hF_N_2182 hk_6 _ rfl]
              have h_2229 := Inv.g hI_M hk_6 rfl 1 (a := 0) (b := 4) rfl rfl
              have e_2230 : (N_2216 (M c0 0) 2) = (M (M c0 0) 2) := by rw [hM_N_2216, mu_k hk_6 hk_13 rfl, hM_N_2213, mu_k hk_6 hk_13 rfl, Fr.e hF_N_2182 hk_6 _ rfl]
              have h_2231 := Inv.g hI_M hk_6 rfl 2 (a := 0) (b := 6) rfl rfl
              have e_2232 : (N_2216 (M c0 0) 3) = (M (M c0 0) 3) := by rw [hM_N_2216, mu_k hk_6 hk_13 rfl, hM_N_2213, mu_k hk_6 hk_13 rfl, Fr.e hF_N_2182 hk_6 _ rfl]
              have e_2233 : (N_2216 x 0) = (M x 0) := by rw [hM_N_2216, mu_i (by omega), hM_N_2213, mu_i (by omega), Fr.e hF_N_2182 hk_13 _ rfl]
              have h_2234 := Inv.g hI_M hk_13 rfl 0 (a := 0) (b := 3) rfl rfl
              have e_2235 : (N_2216 x 1) = (M x 1) := by rw [hM_N_2216, mu_i (by omega), hM_N_2213, mu_i (by omega), Fr.e hF_N_2182 hk_13 _ rfl]
              have h_2236 := Inv.g hI_M hk_13 rfl 1 (a := 0) (b := 3) rfl rfl
              have e_2237 : (N_2216 x 2) = x3_2179 := by rw [hM_N_2216, mu_i (by omega), hM_N_2213, mu_s]
              have e_2238 : (N_2216 x 3) = (N_2182 x 3) := by rw [hM_N_2216, mu_s]
              have e_2239 : (N_2216 x 4) = (M x 4) := by rw [hM_N_2216, mu_i (by omega), hM_N_2213, mu_i (by omega), Fr.e hF_N_2182 hk_13 _ rfl]
              have h_2240 := Inv.g hI_M hk_13 rfl 4 (a := 0) (b := 20) rfl rfl
              have e_2241 : (N_2216 x 5) = (M x 5) := by rw [hM_N_2216, mu_i (by omega), hM_N_2213, mu_i (by omega), Fr.e hF_N_2182 hk_13 _ rfl]
              have h_2242 := Inv.g hI_M hk_13 rfl 5 (a := 0) (b := 2) rfl rfl
              exact kx_zret F hQ (by omega) ⟨hI_N_2216, hF_N_2216, (by omega), hE_N_2216, ⟨_, _, TS.sr hp_2188 (Or.inr (Or.inr (Or.inr (Or.inr (by omega))))), fun _ => ⟨by omega, by omega, by omega, by omega, by omega, (CQ.cg (q' := (upk q (b + i) x3_2179)) hq (by rw [hM_N_2216, mu_k hk_c0 hk_13 rfl, hM_N_2213, mu_k hk_c0 hk_13 rfl, Fr.e hF_N_2182 hk_c0 _ rfl]) (by omega) (by omega) (by omega) (by rw [upk_o (by omega)]; omega) (upk_o (by omega)) (upk_o (by omega)) (upk_o (by omega)) (by rw [upk_o (by omega)]; omega)), (NU.cg (NU.st (NU.st (NU.fr hN hI_M hk_c0 hF_N_2182 rfl) hI_N_2182 hk_c0 hM_N_2213 hk_13 rfl) hI_N_2213 hk_c0 hM_N_2216 hk_13 rfl) (upk_o (by omega)) (upk_o (by omega)) (upk_o (by omega))), (CA.set (x := x) (b := b) hA hx hZ hI_M hk_6 hE_N_2216 (by rw [hM_N_2216, mu_k hk_c0 hk_13 rfl, hM_N_2213, mu_k hk_c0 hk_13 rfl, Fr.e hF_N_2182 hk_c0 _ rfl]) (by rw [hM_N_2216, mu_k hk_6 hk_13 rfl, hM_N_2213, mu_k hk_6 hk_13 rfl, Fr.e hF_N_2182 hk_6 _ rfl]) (by rw [hM_N_2216, mu_k hk_6 hk_13 rfl, hM_N_2213, mu_k hk_6 hk_13 rfl, Fr.e hF_N_2182 hk_6 _ rfl]) (AT.set hA1 (by omega) (by omega) (fun k h0 h5 hn => by have hh : k = 0 ∨ k = 1 ∨ k = 2 ∨ k = 3 ∨ k = 4 ∨ k = 5 := (by omega); rcases hh with e | e | e | e | e | e <;> subst e <;> first | omega | (exfalso; omega)) (by rcases hi with ⟨ha, e⟩ | ⟨ha, e⟩ <;> subst e <;> omega) (by rw [hM_N_2216, mu_i (by omega), hM_N_2213, mu_i (by omega), Fr.e hF_N_2182 hk_13 _ rfl]) (by rw [hM_N_2216, mu_i (by omega), hM_N_2213, mu_i (by omega), Fr.e hF_N_2182 hk_13 _ rfl]) (by rw [hM_N_2216, mu_i (by omega), hM_N_2213, mu_i (by omega), Fr.e hF_N_2182 hk_13 _ rfl]) (by rw [hM_N_2216, mu_i (by omega), hM_N_2213, mu_i (by omega), Fr.e hF_N_2182 hk_13 _ rfl]) (Fr.fn hF_N_2216 (Inv.r hI_M hk_13 rfl 6 rfl rfl) rfl) (Fr.fn hF_N_2216 (Inv.r hI_M hk_13 rfl 7 rfl rfl) rfl) (Fr.fn hF_N_2216 (Inv.r hI_M hk_13 rfl 8 rfl rfl) rfl) (Fr.fn hF_N_2216 (Inv.r hI_M hk_13 rfl 9 rfl rfl) rfl) (by rw [hM_N_2216, mu_i (by omega), hM_N_2213, mu_i (by omega), Fr.e hF_N_2182 hk_13 _ rfl]) (by rw [hM_N_2216, mu_i (by omega), hM_N_2213, mu_i (by omega), Fr.e hF_N_2182 hk_13 _ rfl]) (Fr.fn hF_N_2216 (Inv.r hI_M hk_13 rfl 10 rfl rfl) rfl) (Fr.fn hF_N_2216 (Inv.r hI_M hk_13 rfl 11 rfl rfl) rfl)) (fun k hk => upk_o (by omega)) hr)⟩⟩⟩ dX1_takeStates_140
            · refine kx_aload_n 53 F 0 dX1_takeStates_52 rfl rfl rfl ?_
              refine kx_iconst 54 F dX1_takeStates_53 rfl ?_
              refine kx_aload_n 55 F 2 dX1_takeStates_54 rfl rfl rfl ?_
              refine kx_geti 58 F fl_X1_153 hk_13 rfl rfl (j := 0) rfl dX1_takeStates_55 (v := (M x 0)) (by rw [Fr.e hF_N_2182 hk_13 _ rfl]) rfl ?_
              have h_2243 := Inv.g hI_M hk_13 rfl 0 (a := 0) (b := 3) rfl rfl
              refine kx_iconst 59 F dX1_takeStates_58 rfl ?_
              refine kx_isub 60 F (v := (M x 0) - 1) dX1_takeStates_59 rfl rfl ?_
              have h_2244 := Inv.g hI_N_2182 hk_c0 rfl 7 (a := 0) (b := 900) rfl rfl
              have h_2245 := Inv.g hI_N_2182 hk_c0 rfl 8 (a := 0) (b := 900) rfl rfl
              refine kx_Vi 63 (ci := 0) F (As := [vI 0, vI ((M x 0) - 1)]) (st := []) vd_X1_123 (e_X1_standsNumber G l N_2182 c0 0 ((M x 0) - 1) hI_N_2182 hk_c0 (by omega) Bt (TB.fr hB hI_M hk_c0 hF_N_2182 rfl) (j + x5_2181 + 1) (by omega) (by omega)) hk_c0 rfl rfl rfl ⟨by decide, by decide⟩ rfl rfl (Nat.le_of_ble_eq_true rfl) dX1_takeStates_60 rfl ?_
              intro r_2246 N_2247 q_2248
              obtain ⟨hI_N_2247, hG_N_2247, q_2248c⟩ := q_2248
              have hF_N_2247 : Fr f_e_X1_takeStates M N_2247 := Fr.c hF_N_2182 hG_N_2247 rfl
              have hE_N_2247 : Cf (SL (M c0 0) (q 3 - 1)) M N_2247 := Cf.fr hE_N_2182 hG_N_2247 rfl
              have h_2249 := Inv.g hI_N_2182 hk_c0 rfl 9 (a := (-2147483648)) (b := 2147483647) rfl rfl
              have h_2250 := Inv.g hI_N_2182 hk_c0 rfl 2 (a := (-2147483648)) (b := 2147483647) rfl rfl
              have h_2251 := Inv.g hI_N_2247 hk_c0 rfl 2 (a := (-2147483648)) (b := 2147483647) rfl rfl
              have h_2252 := Inv.g hI_N_2182 hk_c0 rfl 3 (a := (-2147483648)) (b := 2147483647) rfl rfl
              have h_2253 := Inv.g hI_N_2247 hk_c0 rfl 3 (a := (-2147483648)) (b := 2147483647) rfl rfl
              rcases q_2248c with q_2248c | q_2248c | q_2248c | q_2248c
              · refine kx_if_ne 66 F 68 dX1_takeStates_63 (by decide) rfl (by omega) (fun h_2262 => ?_) (fun h_2262 => (by exfalso; omega))
                have e_2263 : (N_2247 c0 9) = (N_2182 c0 9) := by rw [Fr.e hG_N_2247 hk_c0 _ rfl]
                have hvv_2264 : N_2182 c0 9 = tv Bt (j + x5_2181 + 1) := by omega
                refine kx_iload_n 69 F 3 dX1_takeStates_68 rfl rfl rfl ?_
                refine kx_aload_n 70 F 0 dX1_takeStates_69 rfl rfl rfl ?_
                refine kx_geti 73 F fl_X1_127 hk_c0 rfl rfl (j := 9) rfl dX1_takeStates_70 (v := (N_2182 c0 9)) (by rw [Fr.e hG_N_2247 hk_c0 _ rfl]) rfl ?_
                refine kx_ishr 74 F (v := (zshr x3_2179 (N_2182 c0 9))) dX1_takeStates_73 rfl rfl ?_
                have h_2265 := zshr_r (a := x3_2179) (b := (N_2182 c0 9)) (by omega)
                refine kx_iconst 75 F dX1_takeStates_74 rfl ?_
                refine kx_iand 76 F (v := (zand (zshr x3_2179 (N_2182 c0 9)) 1)) dX1_takeStates_75 rfl rfl ?_
                have h_2266 := zand_r (a := (zshr x3_2179 (N_2182 c0 9))) (b := 1) (by omega)
                refine kx_if_eq 79 F 85 dX1_takeStates_76 (by decide) rfl (by omega) (fun h_2267 => ?_) (fun h_2267 => ?_)
                · refine kx_iload_n 86 F 3 dX1_takeStates_85 rfl rfl rfl ?_
                  refine kx_iconst 87 F dX1_takeStates_86 rfl ?_
                  refine kx_aload_n 88 F 0 dX1_takeStates_87 rfl rfl rfl ?_
                  refine kx_geti 91 F fl_X1_127 hk_c0 rfl rfl (j := 9) rfl dX1_takeStates_88 (v := (N_2182 c0 9)) (by rw [Fr.e hG_N_2247 hk_c0 _ rfl]) rfl ?_
                  refine kx_ishl 92 F (v := (zshl 1 (N_2182 c0 9))) dX1_takeStates_91 rfl rfl ?_
                  have h_2268 := zshl_1 (b := (N_2182 c0 9)) 2 (by decide) (by omega)
                  refine kx_ior 93 F (v := (zor x3_2179 (zshl 1 (N_2182 c0 9)))) dX1_takeStates_92 rfl rfl ?_
                  have h_2269 : 0 ≤ (zor x3_2179 (zshl 1 (N_2182 c0 9))) ∧ (zor x3_2179 (zshl 1 (N_2182 c0 9))) < 8 := zor_lt (a := x3_2179) (b := (zshl 1 (N_2182 c0 9))) 3 (by decide) (by omega) (by omega)
                  refine kx_istore_n 94 F 3 (lo' := [some (vR G c0), some (vI a1), some (vR G x), some (vI (zor x3_2179 (zshl 1 (N_2182 c0 9)))), some (vI x4_2180), some (vI x5_2181)]) dX1_takeStates_93 rfl (by decide) rfl rfl rfl ?_
                  refine kx_aload_n 95 F 0 dX1_takeStates_94 rfl rfl rfl ?_
                  have e_2270 : (N_2247 c0 7) = (N_2182 c0 7) := by rw [Fr.e hG_N_2247 hk_c0 _ rfl]
                  have e_2271 : (N_2247 c0 8) = (N_2182 c0 8) := by rw [Fr.e hG_N_2247 hk_c0 _ rfl]
                  refine kx_Vi 98 (ci := 0) F (As := []) (st := []) vd_X1_57 (e_X1_advance G l N_2247 c0 hI_N_2247 hk_c0 (by omega) Bt (TB.fr hB hI_M hk_c0 hF_N_2247 rfl) (j + x5_2181 + 2) (j + x5_2181 + 1) (by omega) (by omega) (by omega)) hk_c0 rfl rfl rfl ⟨by decide, by decide⟩ rfl rfl (Nat.le_of_ble_eq_true rfl) dX1_takeStates_95 rfl ?_
                  intro r_2274 N_2275 q_2276
                  obtain ⟨hI_N_2275, hG_N_2275, q_2276c⟩ := q_2276
                  have hF_N_2275 : Fr f_e_X1_takeStates M N_2275 := Fr.c hF_N_2247 hG_N_2275 rfl
                  have hE_N_2275 : Cf (SL (M c0 0) (q 3 - 1)) M N_2275 := Cf.fr hE_N_2247 hG_N_2275 rfl
                  have ht_2277 := tp_le (n := M c0 5) (TB.tx hB hI_M hk_c0) (Inv.g hI_M hk_c0 rfl 5 (a := 0) (b := 900) rfl rfl).1 (j := (j + x5_2181 + 2)) (by omega)
                  have ht_2279 : 0 ≤ tk Bt (j + x5_2181 + 2) ∧ tk Bt (j + x5_2181 + 2) ≤ 4 := tk_b (n := M c0 5) (TB.tx hB hI_M hk_c0) (by omega)
                  have h_2280 := Inv.g hI_N_2275 hk_c0 rfl 7 (a := 0) (b := 900) rfl rfl
                  have h_2281 := Inv.g hI_N_2275 hk_c0 rfl 8 (a := 0) (b := 900) rfl rfl
                  have h_2282 := Inv.g hI_N_2275 hk_c0 rfl 6 (a := 0) (b := 5) rfl rfl
                  have h_2283 := Inv.g hI_N_2275 hk_c0 rfl 2 (a := (-2147483648)) (b := 2147483647) rfl rfl
                  have h_2284 := Inv.g hI_N_2275 hk_c0 rfl 3 (a := (-2147483648)) (b := 2147483647) rfl rfl
                  have h_2288 := Inv.g hI_N_2275 hk_c0 rfl 9 (a := (-2147483648)) (b := 2147483647) rfl rfl
                  rcases q_2276c with q_2276c | q_2276c | q_2276c
                  · refine kx_istore 100 F 4 (lo' := [some (vR G c0), some (vI a1), some (vR G x), some (vI (zor x3_2179 (zshl 1 (N_2182 c0 9)))), some (vI r_2274), some (vI x5_2181)]) dX1_takeStates_98 (by decide) rfl rfl rfl ?_
                    refine kx_iinc 103 F 5 (v := x5_2181 + 1) (lo' := [some (vR G c0), some (vI a1), some (vR G x), some (vI (zor x3_2179 (zshl 1 (N_2182 c0 9)))), some (vI r_2274), some (vI (x5_2181 + 1))]) dX1_takeStates_100 rfl (by omega) (by decide) rfl rfl rfl ?_
                    refine kx_goto 30 F dX1_takeStates_103 (by decide) ?_
                    have hq_2297 := TS.q hp_2188 (TB.tx hB hI_M hk_c0) hj (by omega)
                    have e_2298 : (N_2275 x 2) = (N_2182 x 2) := by rw [Fr.e hG_N_2275 hk_13 _ rfl, Fr.e hG_N_2247 hk_13 _ rfl]
                    have h_2299 := Inv.g hI_N_2182 hk_13 rfl 2 (a := 0) (b := 7) rfl rfl
                    have e_2300 : (N_2275 x 3) = (N_2182 x 3) := by rw [Fr.e hG_N_2275 hk_13 _ rfl, Fr.e hG_N_2247 hk_13 _ rfl]
                    have h_2301 := Inv.g hI_N_2182 hk_13 rfl 3 (a := 0) (b := 7) rfl rfl
                    exact ih_2185 _ (by omega) (zor x3_2179 (zshl 1 (N_2182 c0 9))) r_2274 (x5_2181 + 1) N_2275 hI_N_2275 hF_N_2275 hE_N_2275 (TS.next (T2 := j + x5_2181 + 2) hp_2188 (TB.tx hB hI_M hk_c0) hj (by omega) (by omega) (by omega) (by omega) (by omega) rfl (Or.inl (by omega))) (by omega) rfl
                  · refine kx_istore 100 F 4 (lo' := [some (vR G c0), some (vI a1), some (vR G x), some (vI (zor x3_2179 (zshl 1 (N_2182 c0 9)))), some (vI r_2274), some (vI x5_2181)]) dX1_takeStates_98 (by decide) rfl rfl rfl ?_
                    refine kx_iinc 103 F 5 (v := x5_2181 + 1) (lo' := [some (vR G c0), some (vI a1), some (vR G x), some (vI (zor x3_2179 (zshl 1 (N_2182 c0 9)))), some (vI r_2274), some (vI (x5_2181 + 1))]) dX1_takeStates_100 rfl (by omega) (by decide) rfl rfl rfl ?_
                    refine kx_goto 30 F dX1_takeStates_103 (by decide) ?_
                    have hq_2302 := TS.q hp_2188 (TB.tx hB hI_M hk_c0) hj (by omega)
                    have e_2303 : (N_2275 x 2) = (N_2182 x 2) := by rw [Fr.e hG_N_2275 hk_13 _ rfl, Fr.e hG_N_2247 hk_13 _ rfl]
                    have h_2304 := Inv.g hI_N_2182 hk_13 rfl 2 (a := 0) (b := 7) rfl rfl
                    have e_2305 : (N_2275 x 3) = (N_2182 x 3) := by rw [Fr.e hG_N_2275 hk_13 _ rfl, Fr.e hG_N_2247 hk_13 _ rfl]
                    have h_2306 := Inv.g hI_N_2182 hk_13 rfl 3 (a := 0) (b := 7) rfl rfl
                    exact ih_2185 _ (by omega) (zor x3_2179 (zshl 1 (N_2182 c0 9))) r_2274 (x5_2181 + 1) N_2275 hI_N_2275 hF_N_2275 hE_N_2275 (TS.next (T2 := j + x5_2181 + 2) hp_2188 (TB.tx hB hI_M hk_c0) hj (by omega) (by omega) (by omega) (by omega) (by omega) rfl (Or.inl (by omega))) (by omega) rfl
                  · refine kx_istore 100 F 4 (lo' := [some (vR G c0), some (vI a1), some (vR G x), some (vI (zor x3_2179 (zshl 1 (N_2182 c0 9)))), some (vI r_2274), some (vI x5_2181)]) dX1_takeStates_98 (by decide) rfl rfl rfl ?_
                    refine kx_iinc 103 F 5 (v := x5_2181 + 1) (lo' := [some (vR G c0), some (vI a1), some (vR G x), some (vI (zor x3_2179 (zshl 1 (N_2182 c0 9)))), some (vI r_2274), some (vI (x5_2181 + 1))]) dX1_takeStates_100 rfl (by omega) (by decide) rfl rfl rfl ?_
                    refine kx_goto 30 F dX1_takeStates_103 (by decide) ?_
                    have hq_2308 := TS.q hp_2188 (TB.tx hB hI_M hk_c0) hj (by omega)
                    have e_2309 : (N_2275 x 2) = (N_2182 x 2) := by rw [Fr.e hG_N_2275 hk_13 _ rfl, Fr.e hG_N_2247 hk_13 _ rfl]
                    have h_2310 := Inv.g hI_N_2182 hk_13 rfl 2 (a := 0) (b := 7) rfl rfl
                    have e_2311 : (N_2275 x 3) = (N_2182 x 3) := by rw [Fr.e hG_N_2275 hk_13 _ rfl, Fr.e hG_N_2247 hk_13 _ rfl]
                    have h_2312 := Inv.g hI_N_2182 hk_13 rfl 3 (a := 0) (b := 7) rfl rfl
                    exact ih_2185 _ (by omega) (zor x3_2179 (zshl 1 (N_2182 c0 9))) r_2274 (x5_2181 + 1) N_2275 hI_N_2275 hF_N_2275 hE_N_2275 (TS.next (T2 := j + x5_2181 + 2) hp_2188 (TB.tx hB hI_M hk_c0) hj (by omega) (by omega) (by omega) (by omega) (by omega) rfl (Or.inr (by omega))) (by omega) rfl
                · refine kx_aload_n 80 F 0 dX1_takeStates_79 rfl rfl rfl ?_
                  refine kx_iconst 81 F dX1_takeStates_80 rfl ?_
                  refine kx_Vi 84 (ci := 0) F (As := [vI 5]) (st := []) vd_X1_89 (e_X1_fail G l N_2247 c0 5 hI_N_2247 hk_c0 (by omega)) hk_c0 rfl rfl rfl ⟨by decide, by decide⟩ rfl rfl (Nat.le_of_ble_eq_true rfl) dX1_takeStates_81 rfl ?_
                  intro r_2313 N_2314 q_2315
                  obtain ⟨hI_N_2314, hG_N_2314, q_2315c⟩ := q_2315
                  have hF_N_2314 : Fr f_e_X1_takeStates M N_2314 := Fr.c hF_N_2247 hG_N_2314 rfl
                  have hE_N_2314 : Cf (SL (M c0 0) (q 3 - 1)) M N_2314 := Cf.fr hE_N_2247 hG_N_2314 rfl
                  have h_2316 := Inv.g hI_N_2314 hk_c0 rfl 2 (a := (-2147483648)) (b := 2147483647) rfl rfl
                  have e_2317 : (N_2247 c0 7) = (N_2182 c0 7) := by rw [Fr.e hG_N_2247 hk_c0 _ rfl]
                  have h_2318 := Inv.g hI_N_2314 hk_c0 rfl 3 (a := (-2147483648)) (b := 2147483647) rfl rfl
                  have e_2319 : (N_2314 c0 6) = (N_2182 c0 6) := by rw [Fr.e hG_N_2314 hk_c0 _ rfl, Fr.e hG_N_2247 hk_c0 _ rfl]
                  have e_2320 : (N_2314 c0 7) = (N_2182 c0 7) := by rw [Fr.e hG_N_2314 hk_c0 _ rfl, Fr.e hG_N_2247 hk_c0 _ rfl]
                  have e_2321 : (N_2314 c0 8) = (N_2182 c0 8) := by rw [Fr.e hG_N_2314 hk_c0 _ rfl, Fr.e hG_N_2247 hk_c0 _ rfl]
                  exact kx_zret F hQ (by omega) ⟨hI_N_2314, hF_N_2314, (by omega), hE_N_2314, ⟨_, _, TS.sr hp_2188 (Or.inr (Or.inr (Or.inr (Or.inl ⟨by omega, by omega, by omega, by omega, by rw [← hvv_2264]; omega, by omega, by omega⟩)))), fun h => absurd h (by omega)⟩⟩ dX1_takeStates_84
              · refine kx_if_ne 66 F 68 dX1_takeStates_63 (by decide) rfl (by omega) (fun h_2322 => (by exfalso; omega)) (fun h_2322 => ?_)
                refine kx_iconst 67 F dX1_takeStates_66 rfl ?_
                have e_2323 : (N_2247 c0 6) = (N_2182 c0 6) := by rw [Fr.e hG_N_2247 hk_c0 _ rfl]
                have e_2324 : (N_2247 c0 7) = (N_2182 c0 7) := by rw [Fr.e hG_N_2247 hk_c0 _ rfl]
                have e_2325 : (N_2247 c0 8) = (N_2182 c0 8) := by rw [Fr.e hG_N_2247 hk_c0 _ rfl]
                exact kx_zret F hQ (by omega) ⟨hI_N_2247, hF_N_2247, (by omega), hE_N_2247, ⟨_, _, TS.sr hp_2188 (Or.inr (Or.inl (by omega))), fun h => absurd h (by omega)⟩⟩ dX1_takeStates_67
              · refine kx_if_ne 66 F 68 dX1_takeStates_63 (by decide) rfl (by omega) (fun h_2326 => (by exfalso; omega)) (fun h_2326 => ?_)
                refine kx_iconst 67 F dX1_takeStates_66 rfl ?_
                have e_2327 : (N_2247 c0 6) = (N_2182 c0 6) := by rw [Fr.e hG_N_2247 hk_c0 _ rfl]
                have e_2328 : (N_2247 c0 7) = (N_2182 c0 7) := by rw [Fr.e hG_N_2247 hk_c0 _ rfl]
                have e_2329 : (N_2247 c0 8) = (N_2182 c0 8) := by rw [Fr.e hG_N_2247 hk_c0 _ rfl]
                exact kx_zret F hQ (by omega) ⟨hI_N_2247, hF_N_2247, (by omega), hE_N_2247, ⟨_, _, TS.sr hp_2188 (Or.inr (Or.inr (Or.inl (by omega)))), fun h => absurd h (by omega)⟩⟩ dX1_takeStates_67
              · refine kx_if_ne 66 F 68 dX1_takeStates_63 (by decide) rfl (by omega) (fun h_2330 => (by exfalso; omega)) (fun h_2330 => ?_)
                refine kx_iconst 67 F dX1_takeStates_66 rfl ?_
                have e_2331 : (N_2247 c0 6) = (N_2182 c0 6) := by rw [Fr.e hG_N_2247 hk_c0 _ rfl]
                have e_2332 : (N_2247 c0 7) = (N_2182 c0 7) := by rw [Fr.e hG_N_2247 hk_c0 _ rfl]
                have e_2333 : (N_2247 c0 8) = (N_2182 c0 8) := by rw [Fr.e hG_N_2247 hk_c0 _ rfl]
                exact kx_zret F hQ (by omega) ⟨hI_N_2247, hF_N_2247, (by omega), hE_N_2247, ⟨_, _, TS.sr hp_2188 (Or.inr (Or.inr (Or.inl (by omega)))), fun h => absurd h (by omega)⟩⟩ dX1_takeStates_67
        have e_2335 : (N_1571 x 2) = (M x 2) := by rw [Fr.e hG_N_1571 hk_13 _ rfl]
        have e_2336 : (N_1571 x 3) = (M x 3) := by rw [Fr.e hG_N_1571 hk_13 _ rfl]
        have h_2337 := Inv.g hI_M hk_13 rfl 3 (a := 0) (b := 7) rfl rfl
        exact L_2183 _ (M x 2) r_1570 0 N_1571 hI_N_1571 hF_N_1571 hE_N_1571 (by rw [show (M x 2) = q (b + i) by rw [show i = 2 by omega]; omega]; exact TS.ini (by omega) (Or.inl (by omega))) (by omega) rfl
      · refine kx_istore 27 F 4 (lo' := [some (vR G c0), some (vI a1), some (vR G x), some (vI (M x 2)), some (vI r_1570), none]) dX1_takeStates_25 (by decide) rfl rfl rfl ?_
        refine kx_iconst 28 F dX1_takeStates_27 rfl ?_
        refine kx_istore 30 F 5 (lo' := [some (vR G c0), some (vI a1), some (vR G x), some (vI (M x 2)), some (vI r_1570), some (vI 0)]) dX1_takeStates_28 (by decide) rfl rfl rfl ?_
        have L_2925 : ∀ (n_2926 : Nat) (x3_2921 : Int) (x4_2922 : Int) (x5_2923 : Int) (N_2924 : Mem), Inv false N_2924 → Fr f_e_X1_takeStates M N_2924 → Cf (SL (M c0 0) (q 3 - 1)) M N_2924 → TS N_2924 M c0 Bt (q b) j (q (b + i)) x5_2923 x4_2922 x3_2921 → 0 ≤ x3_2921 ∧ x3_2921 ≤ 7 ∧ 0 ≤ x4_2922 ∧ x4_2922 ≤ 1 ∧ 0 ≤ x5_2923 ∧ x5_2923 ≤ 900 ∧ x5_2923 ≤ (M c0 5) - 1 ∧ (N_2924 x 2) = (M x 2) ∧ (N_2924 x 3) = (M x 3) → (900 - (x5_2923)).toNat = n_2926 → KJ false G X N_2924 30 [some (vR G c0), some (vI a1), some (vR G x), some (vI x3_2921), some (vI x4_2922), some (vI x5_2923)] [] := by
          intro n_2926
          refine Nat.strongRecOn n_2926 ?_
          intro n_2926 ih_2927 x3_2921 x4_2922 x5_2923 N_2924 hI_N_2924 hF_N_2924 hE_N_2924 hp_2930 h_2928 hm_2929
          refine kx_iload 32 F 5 dX1_takeStates_30 rfl rfl ?_
          refine kx_aload_n 33 F 0 dX1_takeStates_32 rfl rfl rfl ?_
          refine kx_geti 36 F fl_X1_45 hk_c0 rfl rfl (j := 5) rfl dX1_takeStates_33 (v := (M c0 5)) (by rw [Fr.e hF_N_2924 hk_c0 _ rfl]) rfl ?_
          refine kx_icmp_ge 39 F 106 dX1_takeStates_36 (by decide) rfl (by omega) (by omega) (fun h_2932 => (by exfalso; omega)) (fun h_2932 => ?_)
          refine kx_iload 41 F 4 dX1_takeStates_39 rfl rfl ?_
          refine kx_if_eq 44 F 106 dX1_takeStates_41 (by decide) rfl (by omega) (fun h_2933 => ?_) (fun h_2933 => ?_)
          · have hz := TS.z hp_2930 (by omega)
            refine kx_aload_n 107 F 2 dX1_takeStates_106 rfl rfl rfl ?_
            refine kx_iload_n 108 F 1 dX1_takeStates_107 rfl rfl rfl ?_
            refine kx_if_eq 111 F 115 dX1_takeStates_108 (by decide) rfl (by omega) (fun h_2934 => (by exfalso; omega)) (fun h_2934 => ?_)
            refine kx_iload_n 112 F 3 dX1_takeStates_111 rfl rfl rfl ?_
            refine kx_goto 119 F dX1_takeStates_112 (by decide) ?_
            refine kx_puti 122 F fw_X1_147 rfl hk_13 rfl rfl (j := 2) rfl dX1_takeStates_119 rfl ?_
            intro N_2935 hM_N_2935
            have hI_N_2935 : Inv false N_2935 := Inv.u hI_N_2924 hM_N_2935 hk_13 (a := 0) (b := 7) rfl rfl rfl (by omega)
            have hF_N_2935 : Fr f_e_X1_takeStates M N_2935 := Fr.u hF_N_2924 hM_N_2935 hk_13 rfl
            have hE_N_2935 : Cf (SL (M c0 0) (q 3 - 1)) M N_2935 := Cf.st hE_N_2924 hM_N_2935 (Or.inr (by omega))
            refine kx_aload_n 123 F 2 dX1_takeStates_122 rfl rfl rfl ?_
            refine kx_iload_n 124 F 1 dX1_takeStates_123 rfl rfl rfl ?_
            refine kx_if_eq 127 F 134 dX1_takeStates_124 (by decide) rfl (by omega) (fun h_2936 => (by exfalso; omega)) (fun h_2936 => ?_)
            refine kx_aload_n 128 F 2 dX1_takeStates_127 rfl rfl rfl ?_
            refine kx_geti 131 F fl_X1_150 hk_13 rfl rfl (j := 3) rfl dX1_takeStates_128 (v := (N_2924 x 3)) (by rw [hM_N_2935, mu_i (by omega)]) rfl ?_
            have h_2937 := Inv.g hI_N_2924 hk_13 rfl 3 (a := 0) (b := 7) rfl rfl
            refine kx_goto 135 F dX1_takeStates_131 (by decide) ?_
            refine kx_puti 138 F fw_X1_150 rfl hk_13 rfl rfl (j := 3) rfl dX1_takeStates_135 rfl ?_
            intro N_2938 hM_N_2938
            have hI_N_2938 : Inv false N_2938 := Inv.u hI_N_2935 hM_N_2938 hk_13 (a := 0) (b := 7) rfl rfl rfl (by omega)
            have hF_N_2938 : Fr f_e_X1_takeStates M N_2938 := Fr.u hF_N_2935 hM_N_2938 hk_13 rfl
            have hE_N_2938 : Cf (SL (M c0 0) (q 3 - 1)) M N_2938 := Cf.st hE_N_2935 hM_N_2938 (Or.inr (by omega))
            refine kx_iload 140 F 4 dX1_takeStates_138 rfl rfl ?_
            have e_2939 : (N_2938 c0 2) = (N_2924 c0 2) := by rw [hM_N_2938, mu_k hk_c0 hk_13 rfl, hM_N_2935, mu_k hk_c0 hk_13 rfl]
            have h_2940 := Inv.g hI_N_2924 hk_c0 rfl 2 (a := (-2147483648)) (b := 2147483647) rfl rfl
            have e_2941 : (N_2938 c0 3) = (N_2924 c0 3) := by rw [hM_N_2938, mu_k hk_c0 hk_13 rfl, hM_N_2935, mu_k hk_c0 hk_13 rfl]
            have h_2942 := Inv.g hI_N_2924 hk_c0 rfl 3 (a := (-2147483648)) (b := 2147483647) rfl rfl
            have e_2943 : (N_2938 c0 6) = (N_2924 c0 6) := by rw [hM_N_2938, mu_k hk_c0 hk_13 rfl, hM_N_2935, mu_k hk_c0 hk_13 rfl]
            have h_2944 := Inv.g hI_N_2924 hk_c0 rfl 6 (a := 0) (b := 5) rfl rfl
            have e_2945 : (N_2938 c0 7) = (N_2924 c0 7) := by rw [hM_N_2938, mu_k hk_c0 hk_13 rfl, hM_N_2935, mu_k hk_c0 hk_13 rfl]
            have h_2946 := Inv.g hI_N_2924 hk_c0 rfl 7 (a := 0) (b := 900) rfl rfl
            have e_2947 : (N_2938 c0 8) = (N_2924 c0 8) := by rw [hM_N_2938, mu_k hk_c0 hk_13 rfl, hM_N_2935, mu_k hk_c0 hk_13 rfl]
            have h_2948 := Inv.g hI_N_2924 hk_c0 rfl 8 (a := 0) (b := 900) rfl rfl
            exact kx_zret F hQ (by omega) ⟨hI_N_2938, hF_N_2938, (by omega), hE_N_2938, ⟨_, _, TS.sr hp_2930 (Or.inl (by omega)), fun h => absurd h (by omega)⟩⟩ dX1_takeStates_140
          · have hg := TS.g hp_2930 (by omega)
            have ht_2949 := tp_le (n := M c0 5) (TB.tx hB hI_M hk_c0) (Inv.g hI_M hk_c0 rfl 5 (a := 0) (b := 900) rfl rfl).1 (j := (j + x5_2923 + 1)) (by omega)
            have ht_2951 : 0 ≤ tk Bt (j + x5_2923 + 1) ∧ tk Bt (j + x5_2923 + 1) ≤ 4 := tk_b (n := M c0 5) (TB.tx hB hI_M hk_c0) (by omega)
            refine kx_aload_n 45 F 0 dX1_takeStates_44 rfl rfl rfl ?_
            refine kx_geti 48 F fl_X1_61 hk_c0 rfl rfl (j := 6) rfl dX1_takeStates_45 (v := (N_2924 c0 6)) rfl rfl ?_
            have h_2952 := Inv.g hI_N_2924 hk_c0 rfl 6 (a := 0) (b := 5) rfl rfl
            refine kx_iconst 49 F dX1_takeStates_48 rfl ?_
            refine kx_icmp_eq 52 F 106 dX1_takeStates_49 (by decide) rfl (by omega) (by decide) (fun h_2953 => ?_) (fun h_2953 => ?_)
            · refine kx_aload_n 107 F 2 dX1_takeStates_106 rfl rfl rfl ?_
              refine kx_iload_n 108 F 1 dX1_takeStates_107 rfl rfl rfl ?_
              refine kx_if_eq 111 F 115 dX1_takeStates_108 (by decide) rfl (by omega) (fun h_2954 => (by exfalso; omega)) (fun h_2954 => ?_)
              refine kx_iload_n 112 F 3 dX1_takeStates_111 rfl rfl rfl ?_
              refine kx_goto 119 F dX1_takeStates_112 (by decide) ?_
              refine kx_puti 122 F fw_X1_147 rfl hk_13 rfl rfl (j := 2) rfl dX1_takeStates_119 rfl ?_
              intro N_2955 hM_N_2955
              have hI_N_2955 : Inv false N_2955 := Inv.u hI_N_2924 hM_N_2955 hk_13 (a := 0) (b := 7) rfl rfl rfl (by omega)
              have hF_N_2955 : Fr f_e_X1_takeStates M N_2955 := Fr.u hF_N_2924 hM_N_2955 hk_13 rfl
              have hE_N_2955 : Cf (SL (M c0 0) (q 3 - 1)) M N_2955 := Cf.st hE_N_2924 hM_N_2955 (Or.inr (by omega))
              refine kx_aload_n 123 F 2 dX1_takeStates_122 rfl rfl rfl ?_
              refine kx_iload_n 124 F 1 dX1_takeStates_123 rfl rfl rfl ?_
              refine kx_if_eq 127 F 134 dX1_takeStates_124 (by decide) rfl (by omega) (fun h_2956 => (by exfalso; omega)) (fun h_2956 => ?_)
              refine kx_aload_n 128 F 2 dX1_takeStates_127 rfl rfl rfl ?_
              refine kx_geti 131 F fl_X1_150 hk_13 rfl rfl (j := 3) rfl dX1_takeStates_128 (v := (N_2924 x 3)) (by rw [hM_N_2955, mu_i (by omega)]) rfl ?_
              have h_2957 := Inv.g hI_N_2924 hk_13 rfl 3 (a := 0) (b := 7) rfl rfl
              refine kx_goto 135 F dX1_takeStates_131 (by decide) ?_
              refine kx_puti 138 F fw_X1_150 rfl hk_13 rfl rfl (j := 3) rfl dX1_takeStates_135 rfl ?_
              intro N_2958 hM_N_2958
              have hI_N_2958 : Inv false N_2958 := Inv.u hI_N_2955 hM_N_2958 hk_13 (a := 0) (b := 7) rfl rfl rfl (by omega)
              have hF_N_2958 : Fr f_e_X1_takeStates M N_2958 := Fr.u hF_N_2955 hM_N_2958 hk_13 rfl
              have hE_N_2958 : Cf (SL (M c0 0) (q 3 - 1)) M N_2958 := Cf.st hE_N_2955 hM_N_2958 (Or.inr (by omega))
              refine kx_iload 140 F 4 dX1_takeStates_138 rfl rfl ?_
              have e_2959 : (N_2958 c0 2) = (N_2924 c0 2) := by rw [hM_N_2958, mu_k hk_c0 hk_13 rfl, hM_N_2955, mu_k hk_c0 hk_13 rfl]
              have h_2960 := Inv.g hI_N_2924 hk_c0 rfl 2 (a := (-2147483648)) (b := 2147483647) rfl rfl
              have e_2961 : (N_2958 c0 3) = (N_2924 c0 3) := by rw [hM_N_2958, mu_k hk_c0 hk_13 rfl, hM_N_2955, mu_k hk_c0 hk_13 rfl]
              have h_2962 := Inv.g hI_N_2924 hk_c0 rfl 3 (a := (-2147483648)) (b := 2147483647) rfl rfl
              have e_2963 : (N_2958 c0 6) = (N_2924 c0 6) := by rw [hM_N_2958, mu_k hk_c0 hk_13 rfl, hM_N_2955, mu_k hk_c0 hk_13 rfl]
              have e_2964 : (N_2958 c0 7) = (N_2924 c0 7) := by rw [hM_N_2958, mu_k hk_c0 hk_13 rfl, hM_N_2955, mu_k hk_c0 hk_13 rfl]
              have h_2965 := Inv.g hI_N_2924 hk_c0 rfl 7 (a := 0) (b := 900) rfl rfl
              have e_2966 : (N_2958 c0 8) = (N_2924 c0 8) := by rw [hM_N_2958, mu_k hk_c0 hk_13 rfl, hM_N_2955, mu_k hk_c0 hk_13 rfl]
              have h_2967 := Inv.g hI_N_2924 hk_c0 rfl 8 (a := 0) (b := 900) rfl rfl
              have e_2968 : (N_2958 (M c0 0) 0) = (M (M c0 0) 0) := by rw [hM_N_2958, mu_k hk_6 hk_13 rfl, hM_N_2955, mu_k hk_6 hk_13 rfl, Fr.e hF_N_2924 hk_6 _ rfl]
              have h_2969 := Inv.g hI_M hk_6 rfl 0 (a := 0) (b := 2) rfl rfl
              have e_2970 : (N_2958 (M c0 0) 1) = (M (M c0 0) 1) := by rw [hM_N_2958, mu_k hk_6 hk_13 rfl, hM_N_2955, mu_k hk_6 hk_13 rfl, Fr.e hF_N_2924 hk_6 _ rfl]
              have h_2971 := Inv.g hI_M hk_6 rfl 1 (a := 0) (b := 4) rfl rfl
              have e_2972 : (N_2958 (M c0 0) 2) = (M (M c0 0) 2) := by rw [hM_N_2958, mu_k hk_6 hk_13 rfl, hM_N_2955, mu_k hk_6 hk_13 rfl, Fr.e hF_N_2924 hk_6 _ rfl]
              have h_2973 := Inv.g hI_M hk_6 rfl 2 (a := 0) (b := 6) rfl rfl
              have e_2974 : (N_2958 (M c0 0) 3) = (M (M c0 0) 3) := by rw [hM_N_2958, mu_k hk_6 hk_13 rfl, hM_N_2955, mu_k hk_6 hk_13 rfl, Fr.e hF_N_2924 hk_6 _ rfl]
              have e_2975 : (N_2958 x 0) = (M x 0) := by rw [hM_N_2958, mu_i (by omega), hM_N_2955, mu_i (by omega), Fr.e hF_N_2924 hk_13 _ rfl]
              have h_2976 := Inv.g hI_M hk_13 rfl 0 (a := 0) (b := 3) rfl rfl
              have e_2977 : (N_2958 x 1) = (M x 1) := by rw [hM_N_2958, mu_i (by omega), hM_N_2955, mu_i (by omega), Fr.e hF_N_2924 hk_13 _ rfl]
              have h_2978 := Inv.g hI_M hk_13 rfl 1 (a := 0) (b := 3) rfl rfl
              have e_2979 : (N_2958 x 2) = x3_2921 := by rw [hM_N_2958, mu_i (by omega), hM_N_2955, mu_s]
              have e_2980 : (N_2958 x 3) = (N_2924 x 3) := by rw [hM_N_2958, mu_s]
              have e_2981 : (N_2958 x 4) = (M x 4) := by rw [hM_N_2958, mu_i (by omega), hM_N_2955, mu_i (by omega), Fr.e hF_N_2924 hk_13 _ rfl]
              have h_2982 := Inv.g hI_M hk_13 rfl 4 (a := 0) (b := 20) rfl rfl
              have e_2983 : (N_2958 x 5) = (M x 5) := by rw [hM_N_2958, mu_i (by omega), hM_N_2955, mu_i (by omega), Fr.e hF_N_2924 hk_13 _ rfl]
              have h_2984 := Inv.g hI_M hk_13 rfl 5 (a := 0) (b := 2) rfl rfl
              exact kx_zret F hQ (by omega) ⟨hI_N_2958, hF_N_2958, (by omega), hE_N_2958, ⟨_, _, TS.sr hp_2930 (Or.inr (Or.inr (Or.inr (Or.inr (by omega))))), fun _ => ⟨by omega, by omega, by omega, by omega, by omega, (CQ.cg (q' := (upk q (b + i) x3_2921)) hq (by rw [hM_N_2958, mu_k hk_c0 hk_13 rfl, hM_N_2955, mu_k hk_c0 hk_13 rfl, Fr.e hF_N_2924 hk_c0 _ rfl]) (by omega) (by omega) (by omega) (by rw [upk_o (by omega)]; omega) (upk_o (by omega)) (upk_o (by omega)) (upk_o (by omega)) (by rw [upk_o (by omega)]; omega)), (NU.cg (NU.st (NU.st (NU.fr hN hI_M hk_c0 hF_N_2924 rfl) hI_N_2924 hk_c0 hM_N_2955 hk_13 rfl) hI_N_2955 hk_c0 hM_N_2958 hk_13 rfl) (upk_o (by omega)) (upk_o (by omega)) (upk_o (by omega))), (CA.set (x := x) (b := b) hA hx hZ hI_M hk_6 hE_N_2958 (by rw [hM_N_2958, mu_k hk_c0 hk_13 rfl, hM_N_2955, mu_k hk_c0 hk_13 rfl, Fr.e hF_N_2924 hk_c0 _ rfl]) (by rw [hM_N_2958, mu_k hk_6 hk_13 rfl, hM_N_2955, mu_k hk_6 hk_13 rfl, Fr.e hF_N_2924 hk_6 _ rfl]) (by rw [hM_N_2958, mu_k hk_6 hk_13 rfl, hM_N_2955, mu_k hk_6 hk_13 rfl, Fr.e hF_N_2924 hk_6 _ rfl]) (AT.set hA1 (by omega) (by omega) (fun k h0 h5 hn => by have hh : k = 0 ∨ k = 1 ∨ k = 2 ∨ k = 3 ∨ k = 4 ∨ k = 5 := (by omega); rcases hh with e | e | e | e | e | e <;> subst e <;> first | omega | (exfalso; omega)) (by rcases hi with ⟨ha, e⟩ | ⟨ha, e⟩ <;> subst e <;> omega) (by rw [hM_N_2958, mu_i (by omega), hM_N_2955, mu_i (by omega), Fr.e hF_N_2924 hk_13 _ rfl]) (by rw [hM_N_2958, mu_i (by omega), hM_N_2955, mu_i (by omega), Fr.e hF_N_2924 hk_13 _ rfl]) (by rw [hM_N_2958, mu_i (by omega), hM_N_2955, mu_i (by omega), Fr.e hF_N_2924 hk_13 _ rfl]) (by rw [hM_N_2958, mu_i (by omega), hM_N_2955, mu_i (by omega), Fr.e hF_N_2924 hk_13 _ rfl]) (Fr.fn hF_N_2958 (Inv.r hI_M hk_13 rfl 6 rfl rfl) rfl) (Fr.fn hF_N_2958 (Inv.r hI_M hk_13 rfl 7 rfl rfl) rfl) (Fr.fn hF_N_2958 (Inv.r hI_M hk_13 rfl 8 rfl rfl) rfl) (Fr.fn hF_N_2958 (Inv.r hI_M hk_13 rfl 9 rfl rfl) rfl) (by rw [hM_N_2958, mu_i (by omega), hM_N_2955, mu_i (by omega), Fr.e hF_N_2924 hk_13 _ rfl]) (by rw [hM_N_2958, mu_i (by omega), hM_N_2955, mu_i (by omega), Fr.e hF_N_2924 hk_13 _ rfl]) (Fr.fn hF_N_2958 (Inv.r hI_M hk_13 rfl 10 rfl rfl) rfl) (Fr.fn hF_N_2958 (Inv.r hI_M hk_13 rfl 11 rfl rfl) rfl)) (fun k hk => upk_o (by omega)) hr)⟩⟩⟩ dX1_takeStates_140
            · refine kx_aload_n 53 F 0 dX1_takeStates_52 rfl rfl rfl ?_
              refine kx_iconst 54 F dX1_takeStates_53 rfl ?_
              refine kx_aload_n 55 F 2 dX1_takeStates_54 rfl rfl rfl ?_
              refine kx_geti 58 F fl_X1_153 hk_13 rfl rfl (j := 0) rfl dX1_takeStates_55 (v := (M x 0)) (by rw [Fr.e hF_N_2924 hk_13 _ rfl]) rfl ?_
              have h_2985 := Inv.g hI_M hk_13 rfl 0 (a := 0) (b := 3) rfl rfl
              refine kx_iconst 59 F dX1_takeStates_58 rfl ?_
              refine kx_isub 60 F (v := (M x 0) - 1) dX1_takeStates_59 rfl rfl ?_
              have h_2986 := Inv.g hI_N_2924 hk_c0 rfl 7 (a := 0) (b := 900) rfl rfl
              have h_2987 := Inv.g hI_N_2924 hk_c0 rfl 8 (a := 0) (b := 900) rfl rfl
              refine kx_Vi 63 (ci := 0) F (As := [vI 0, vI ((M x 0) - 1)]) (st := []) vd_X1_123 (e_X1_standsNumber G l N_2924 c0 0 ((M x 0) - 1) hI_N_2924 hk_c0 (by omega) Bt (TB.fr hB hI_M hk_c0 hF_N_2924 rfl) (j + x5_2923 + 1) (by omega) (by omega)) hk_c0 rfl rfl rfl ⟨by decide, by decide⟩ rfl rfl (Nat.le_of_ble_eq_true rfl) dX1_takeStates_60 rfl ?_
              intro r_2988 N_2989 q_2990
              obtain ⟨hI_N_2989, hG_N_2989, q_2990c⟩ := q_2990
              have hF_N_2989 : Fr f_e_X1_takeStates M N_2989 := Fr.c hF_N_2924 hG_N_2989 rfl
              have hE_N_2989 : Cf (SL (M c0 0) (q 3 - 1)) M N_2989 := Cf.fr hE_N_2924 hG_N_2989 rfl
              have h_2991 := Inv.g hI_N_2924 hk_c0 rfl 9 (a := (-2147483648)) (b := 2147483647) rfl rfl
              have h_2992 := Inv.g hI_N_2924 hk_c0 rfl 2 (a := (-2147483648)) (b := 2147483647) rfl rfl
              have h_2993 := Inv.g hI_N_2989 hk_c0 rfl 2 (a := (-2147483648)) (b := 2147483647) rfl rfl
              have h_2994 := Inv.g hI_N_2924 hk_c0 rfl 3 (a := (-2147483648)) (b := 2147483647) rfl rfl
              have h_2995 := Inv.g hI_N_2989 hk_c0 rfl 3 (a := (-2147483648)) (b := 2147483647) rfl rfl
              rcases q_2990c with q_2990c | q_2990c | q_2990c | q_2990c
              · refine kx_if_ne 66 F 68 dX1_takeStates_63 (by decide) rfl (by omega) (fun h_3004 => ?_) (fun h_3004 => (by exfalso; omega))
                have e_3005 : (N_2989 c0 9) = (N_2924 c0 9) := by rw [Fr.e hG_N_2989 hk_c0 _ rfl]
                have hvv_3006 : N_2924 c0 9 = tv Bt (j + x5_2923 + 1) := by omega
                refine kx_iload_n 69 F 3 dX1_takeStates_68 rfl rfl rfl ?_
                refine kx_aload_n 70 F 0 dX1_takeStates_69 rfl rfl rfl ?_
                refine kx_geti 73 F fl_X1_127 hk_c0 rfl rfl (j := 9) rfl dX1_takeStates_70 (v := (N_2924 c0 9)) (by rw [Fr.e hG_N_2989 hk_c0 _ rfl]) rfl ?_
                refine kx_ishr 74 F (v := (zshr x3_2921 (N_2924 c0 9))) dX1_takeStates_73 rfl rfl ?_
                have h_3007 := zshr_r (a := x3_2921) (b := (N_2924 c0 9)) (by omega)
                refine kx_iconst 75 F dX1_takeStates_74 rfl ?_
                refine kx_iand 76 F (v := (zand (zshr x3_2921 (N_2924 c0 9)) 1)) dX1_takeStates_75 rfl rfl ?_
                have h_3008 := zand_r (a := (zshr x3_2921 (N_2924 c0 9))) (b := 1) (by omega)
                refine kx_if_eq 79 F 85 dX1_takeStates_76 (by decide) rfl (by omega) (fun h_3009 => ?_) (fun h_3009 => ?_)
                · refine kx_iload_n 86 F 3 dX1_takeStates_85 rfl rfl rfl ?_
                  refine kx_iconst 87 F dX1_takeStates_86 rfl ?_
                  refine kx_aload_n 88 F 0 dX1_takeStates_87 rfl rfl rfl ?_
                  refine kx_geti 91 F fl_X1_127 hk_c0 rfl rfl (j := 9) rfl dX1_takeStates_88 (v := (N_2924 c0 9)) (by rw [Fr.e hG_N_2989 hk_c0 _ rfl]) rfl ?_
                  refine kx_ishl 92 F (v := (zshl 1 (N_2924 c0 9))) dX1_takeStates_91 rfl rfl ?_
                  have h_3010 := zshl_1 (b := (N_2924 c0 9)) 2 (by decide) (by omega)
                  refine kx_ior 93 F (v := (zor x3_2921 (zshl 1 (N_2924 c0 9)))) dX1_takeStates_92 rfl rfl ?_
                  have h_3011 : 0 ≤ (zor x3_2921 (zshl 1 (N_2924 c0 9))) ∧ (zor x3_2921 (zshl 1 (N_2924 c0 9))) < 8 := zor_lt (a := x3_2921) (b := (zshl 1 (N_2924 c0 9))) 3 (by decide) (by omega) (by omega)
                  refine kx_istore_n 94 F 3 (lo' := [some (vR G c0), some (vI a1), some (vR G x), some (vI (zor x3_2921 (zshl 1 (N_2924 c0 9)))), some (vI x4_2922), some (vI x5_2923)]) dX1_takeStates_93 rfl (by decide) rfl rfl rfl ?_
                  refine kx_aload_n 95 F 0 dX1_takeStates_94 rfl rfl rfl ?_
                  have e_3012 : (N_2989 c0 7) = (N_2924 c0 7) := by rw [Fr.e hG_N_2989 hk_c0 _ rfl]
                  have e_3013 : (N_2989 c0 8) = (N_2924 c0 8) := by rw [Fr.e hG_N_2989 hk_c0 _ rfl]
                  refine kx_Vi 98 (ci := 0) F (As := []) (st := []) vd_X1_57 (e_X1_advance G l N_2989 c0 hI_N_2989 hk_c0 (by omega) Bt (TB.fr hB hI_M hk_c0 hF_N_2989 rfl) (j + x5_2923 + 2) (j + x5_2923 + 1) (by omega) (by omega) (by omega)) hk_c0 rfl rfl rfl ⟨by decide, by decide⟩ rfl rfl (Nat.le_of_ble_eq_true rfl) dX1_takeStates_95 rfl ?_
                  intro r_3016 N_3017 q_3018
                  obtain ⟨hI_N_3017, hG_N_3017, q_3018c⟩ := q_3018
                  have hF_N_3017 : Fr f_e_X1_takeStates M N_3017 := Fr.c hF_N_2989 hG_N_3017 rfl
                  have hE_N_3017 : Cf (SL (M c0 0) (q 3 - 1)) M N_3017 := Cf.fr hE_N_2989 hG_N_3017 rfl
                  have ht_3019 := tp_le (n := M c0 5) (TB.tx hB hI_M hk_c0) (Inv.g hI_M hk_c0 rfl 5 (a := 0) (b := 900) rfl rfl).1 (j := (j + x5_2923 + 2)) (by omega)
                  have ht_3021 : 0 ≤ tk Bt (j + x5_2923 + 2) ∧ tk Bt (j + x5_2923 + 2) ≤ 4 := tk_b (n := M c0 5) (TB.tx hB hI_M hk_c0) (by omega)
                  have h_3022 := Inv.g hI_N_3017 hk_c0 rfl 7 (a := 0) (b := 900) rfl rfl
                  have h_3023 := Inv.g hI_N_3017 hk_c0 rfl 8 (a := 0) (b := 900) rfl rfl
                  have h_3024 := Inv.g hI_N_3017 hk_c0 rfl 6 (a := 0) (b := 5) rfl rfl
                  have h_3025 := Inv.g hI_N_3017 hk_c0 rfl 2 (a := (-2147483648)) (b := 2147483647) rfl rfl
                  have h_3026 := Inv.g hI_N_3017 hk_c0 rfl 3 (a := (-2147483648)) (b := 2147483647) rfl rfl
                  have h_3030 := Inv.g hI_N_3017 hk_c0 rfl 9 (a := (-2147483648)) (b := 2147483647) rfl rfl
                  rcases q_3018c with q_3018c | q_3018c | q_3018c
                  · refine kx_istore 100 F 4 (lo' := [some (vR G c0), some (vI a1), some (vR G x), some (vI (zor x3_2921 (zshl 1 (N_2924 c0 9)))), some (vI r_3016), some (vI x5_2923)]) dX1_takeStates_98 (by decide) rfl rfl rfl ?_
                    refine kx_iinc 103 F 5 (v := x5_2923 + 1) (lo' := [some (vR G c0), some (vI a1), some (vR G x), some (vI (zor x3_2921 (zshl 1 (N_2924 c0 9)))), some (vI r_3016), some (vI (x5_2923 + 1))]) dX1_takeStates_100 rfl (by omega) (by decide) rfl rfl rfl ?_
                    refine kx_goto 30 F dX1_takeStates_103 (by decide) ?_
                    have hq_3039 := TS.q hp_2930 (TB.tx hB hI_M hk_c0) hj (by omega)
                    have e_3040 : (N_3017 x 2) = (N_2924 x 2) := by rw [Fr.e hG_N_3017 hk_13 _ rfl, Fr.e hG_N_2989 hk_13 _ rfl]
                    have h_3041 := Inv.g hI_N_2924 hk_13 rfl 2 (a := 0) (b := 7) rfl rfl
                    have e_3042 : (N_3017 x 3) = (N_2924 x 3) := by rw [Fr.e hG_N_3017 hk_13 _ rfl, Fr.e hG_N_2989 hk_13 _ rfl]
                    have h_3043 := Inv.g hI_N_2924 hk_13 rfl 3 (a := 0) (b := 7) rfl rfl
                    exact ih_2927 _ (by omega) (zor x3_2921 (zshl 1 (N_2924 c0 9))) r_3016 (x5_2923 + 1) N_3017 hI_N_3017 hF_N_3017 hE_N_3017 (TS.next (T2 := j + x5_2923 + 2) hp_2930 (TB.tx hB hI_M hk_c0) hj (by omega) (by omega) (by omega) (by omega) (by omega) rfl (Or.inl (by omega))) (by omega) rfl
                  · refine kx_istore 100 F 4 (lo' := [some (vR G c0), some (vI a1), some (vR G x), some (vI (zor x3_2921 (zshl 1 (N_2924 c0 9)))), some (vI r_3016), some (vI x5_2923)]) dX1_takeStates_98 (by decide) rfl rfl rfl ?_
                    refine kx_iinc 103 F 5 (v := x5_2923 + 1) (lo' := [some (vR G c0), some (vI a1), some (vR G x), some (vI (zor x3_2921 (zshl 1 (N_2924 c0 9)))), some (vI r_3016), some (vI (x5_2923 + 1))]) dX1_takeStates_100 rfl (by omega) (by decide) rfl rfl rfl ?_
                    refine kx_goto 30 F dX1_takeStates_103 (by decide) ?_
                    have hq_3044 := TS.q hp_2930 (TB.tx hB hI_M hk_c0) hj (by omega)
                    have e_3045 : (N_3017 x 2) = (N_2924 x 2) := by rw [Fr.e hG_N_3017 hk_13 _ rfl, Fr.e hG_N_2989 hk_13 _ rfl]
                    have h_3046 := Inv.g hI_N_2924 hk_13 rfl 2 (a := 0) (b := 7) rfl rfl
                    have e_3047 : (N_3017 x 3) = (N_2924 x 3) := by rw [Fr.e hG_N_3017 hk_13 _ rfl, Fr.e hG_N_2989 hk_13 _ rfl]
                    have h_3048 := Inv.g hI_N_2924 hk_13 rfl 3 (a := 0) (b := 7) rfl rfl
                    exact ih_2927 _ (by omega) (zor x3_2921 (zshl 1 (N_2924 c0 9))) r_3016 (x5_2923 + 1) N_3017 hI_N_3017 hF_N_3017 hE_N_3017 (TS.next (T2 := j + x5_2923 + 2) hp_2930 (TB.tx hB hI_M hk_c0) hj (by omega) (by omega) (by omega) (by omega) (by omega) rfl (Or.inl (by omega))) (by omega) rfl
                  · refine kx_istore 100 F 4 (lo' := [some (vR G c0), some (vI a1), some (vR G x), some (vI (zor x3_2921 (zshl 1 (N_2924 c0 9)))), some (vI r_3016), some (vI x5_2923)]) dX1_takeStates_98 (by decide) rfl rfl rfl ?_
                    refine kx_iinc 103 F 5 (v := x5_2923 + 1) (lo' := [some (vR G c0), some (vI a1), some (vR G x), some (vI (zor x3_2921 (zshl 1 (N_2924 c0 9)))), some (vI r_3016), some (vI (x5_2923 + 1))]) dX1_takeStates_100 rfl (by omega) (by decide) rfl rfl rfl ?_
                    refine kx_goto 30 F dX1_takeStates_103 (by decide) ?_
                    have hq_3050 := TS.q hp_2930 (TB.tx hB hI_M hk_c0) hj (by omega)
                    have e_3051 : (N_3017 x 2) = (N_2924 x 2) := by rw [Fr.e hG_N_3017 hk_13 _ rfl, Fr.e hG_N_2989 hk_13 _ rfl]
                    have h_3052 := Inv.g hI_N_2924 hk_13 rfl 2 (a := 0) (b := 7) rfl rfl
                    have e_3053 : (N_3017 x 3) = (N_2924 x 3) := by rw [Fr.e hG_N_3017 hk_13 _ rfl, Fr.e hG_N_2989 hk_13 _ rfl]
                    have h_3054 := Inv.g hI_N_2924 hk_13 rfl 3 (a := 0) (b := 7) rfl rfl
                    exact ih_2927 _ (by omega) (zor x3_2921 (zshl 1 (N_2924 c0 9))) r_3016 (x5_2923 + 1) N_3017 hI_N_3017 hF_N_3017 hE_N_3017 (TS.next (T2 := j + x5_2923 + 2) hp_2930 (TB.tx hB hI_M hk_c0) hj (by omega) (by omega) (by omega) (by omega) (by omega) rfl (Or.inr (by omega))) (by omega) rfl
                · refine kx_aload_n 80 F 0 dX1_takeStates_79 rfl rfl rfl ?_
                  refine kx_iconst 81 F dX1_takeStates_80 rfl ?_
                  refine kx_Vi 84 (ci := 0) F (As := [vI 5]) (st := []) vd_X1_89 (e_X1_fail G l N_2989 c0 5 hI_N_2989 hk_c0 (by omega)) hk_c0 rfl rfl rfl ⟨by decide, by decide⟩ rfl rfl (Nat.le_of_ble_eq_true rfl) dX1_takeStates_81 rfl ?_
                  intro r_3055 N_3056 q_3057
                  obtain ⟨hI_N_3056, hG_N_3056, q_3057c⟩ := q_3057
                  have hF_N_3056 : Fr f_e_X1_takeStates M N_3056 := Fr.c hF_N_2989 hG_N_3056 rfl
                  have hE_N_3056 : Cf (SL (M c0 0) (q 3 - 1)) M N_3056 := Cf.fr hE_N_2989 hG_N_3056 rfl
                  have h_3058 := Inv.g hI_N_3056 hk_c0 rfl 2 (a := (-2147483648)) (b := 2147483647) rfl rfl
                  have e_3059 : (N_2989 c0 7) = (N_2924 c0 7) := by rw [Fr.e hG_N_2989 hk_c0 _ rfl]
                  have h_3060 := Inv.g hI_N_3056 hk_c0 rfl 3 (a := (-2147483648)) (b := 2147483647) rfl rfl
                  have e_3061 : (N_3056 c0 6) = (N_2924 c0 6) := by rw [Fr.e hG_N_3056 hk_c0 _ rfl, Fr.e hG_N_2989 hk_c0 _ rfl]
                  have e_3062 : (N_3056 c0 7) = (N_2924 c0 7) := by rw [Fr.e hG_N_3056 hk_c0 _ rfl, Fr.e hG_N_2989 hk_c0 _ rfl]
                  have e_3063 : (N_3056 c0 8) = (N_2924 c0 8) := by rw [Fr.e hG_N_3056 hk_c0 _ rfl, Fr.e hG_N_2989 hk_c0 _ rfl]
                  exact kx_zret F hQ (by omega) ⟨hI_N_3056, hF_N_3056, (by omega), hE_N_3056, ⟨_, _, TS.sr hp_2930 (Or.inr (Or.inr (Or.inr (Or.inl ⟨by omega, by omega, by omega, by omega, by rw [← hvv_3006]; omega, by omega, by omega⟩)))), fun h => absurd h (by omega)⟩⟩ dX1_takeStates_84
              · refine kx_if_ne 66 F 68 dX1_takeStates_63 (by decide) rfl (by omega) (fun h_3064 => (by exfalso; omega)) (fun h_3064 => ?_)
                refine kx_iconst 67 F dX1_takeStates_66 rfl ?_
                have e_3065 : (N_2989 c0 6) = (N_2924 c0 6) := by rw [Fr.e hG_N_2989 hk_c0 _ rfl]
                have e_3066 : (N_2989 c0 7) = (N_2924 c0 7) := by rw [Fr.e hG_N_2989 hk_c0 _ rfl]
                have e_3067 : (N_2989 c0 8) = (N_2924 c0 8) := by rw [Fr.e hG_N_2989 hk_c0 _ rfl]
                exact kx_zret F hQ (by omega) ⟨hI_N_2989, hF_N_2989, (by omega), hE_N_2989, ⟨_, _, TS.sr hp_2930 (Or.inr (Or.inl (by omega))), fun h => absurd h (by omega)⟩⟩ dX1_takeStates_67
              · refine kx_if_ne 66 F 68 dX1_takeStates_63 (by decide) rfl (by omega) (fun h_3068 => (by exfalso; omega)) (fun h_3068 => ?_)
                refine kx_iconst 67 F dX1_takeStates_66 rfl ?_
                have e_3069 : (N_2989 c0 6) = (N_2924 c0 6) := by rw [Fr.e hG_N_2989 hk_c0 _ rfl]
                have e_3070 : (N_2989 c0 7) = (N_2924 c0 7) := by rw [Fr.e hG_N_2989 hk_c0 _ rfl]
                have e_3071 : (N_2989 c0 8) = (N_2924 c0 8) := by rw [Fr.e hG_N_2989 hk_c0 _ rfl]
                exact kx_zret F hQ (by omega) ⟨hI_N_2989, hF_N_2989, (by omega), hE_N_2989, ⟨_, _, TS.sr hp_2930 (Or.inr (Or.inr (Or.inl (by omega)))), fun h => absurd h (by omega)⟩⟩ dX1_takeStates_67
              · refine kx_if_ne 66 F 68 dX1_takeStates_63 (by decide) rfl (by omega) (fun h_3072 => (by exfalso; omega)) (fun h_3072 => ?_)
                refine kx_iconst 67 F dX1_takeStates_66 rfl ?_
                have e_3073 : (N_2989 c0 6) = (N_2924 c0 6) := by rw [Fr.e hG_N_2989 hk_c0 _ rfl]
                have e_3074 : (N_2989 c0 7) = (N_2924 c0 7) := by rw [Fr.e hG_N_2989 hk_c0 _ rfl]
                have e_3075 : (N_2989 c0 8) = (N_2924 c0 8) := by rw [Fr.e hG_N_2989 hk_c0 _ rfl]
                exact kx_zret F hQ (by omega) ⟨hI_N_2989, hF_N_2989, (by omega), hE_N_2989, ⟨_, _, TS.sr hp_2930 (Or.inr (Or.inr (Or.inl (by omega)))), fun h => absurd h (by omega)⟩⟩ dX1_takeStates_67
        have e_3076 : (N_1571 x 2) = (M x 2) := by rw [Fr.e hG_N_1571 hk_13 _ rfl]
        have e_3077 : (N_1571 x 3) = (M x 3) := by rw [Fr.e hG_N_1571 hk_13 _ rfl]
        have h_3078 := Inv.g hI_M hk_13 rfl 3 (a := 0) (b := 7) rfl rfl
        exact L_2925 _ (M x 2) r_1570 0 N_1571 hI_N_1571 hF_N_1571 hE_N_1571 (by rw [show (M x 2) = q (b + i) by rw [show i = 2 by omega]; omega]; exact TS.ini (by omega) (Or.inl (by omega))) (by omega) rfl
      · refine kx_istore 27 F 4 (lo' := [some (vR G c0), some (vI a1), some (vR G x), some (vI (M x 2)), some (vI r_1570), none]) dX1_takeStates_25 (by decide) rfl rfl rfl ?_
        refine kx_iconst 28 F dX1_takeStates_27 rfl ?_
        refine kx_istore 30 F 5 (lo' := [some (vR G c0), some (vI a1), some (vR G x), some (vI (M x 2)), some (vI r_1570), some (vI 0)]) dX1_takeStates_28 (by decide) rfl rfl rfl ?_
        have L_3095 : ∀ (n_3096 : Nat) (x3_3091 : Int) (x4_3092 : Int) (x5_3093 : Int) (N_3094 : Mem), Inv false N_3094 → Fr f_e_X1_takeStates M N_3094 → Cf (SL (M c0 0) (q 3 - 1)) M N_3094 → TS N_3094 M c0 Bt (q b) j (q (b + i)) x5_3093 x4_3092 x3_3091 → 0 ≤ x3_3091 ∧ x3_3091 ≤ 7 ∧ 0 ≤ x4_3092 ∧ x4_3092 ≤ 0 ∧ 0 ≤ x5_3093 ∧ x5_3093 ≤ 0 ∧ x5_3093 ≤ (M c0 5) - 1 ∧ (N_3094 x 2) = (M x 2) ∧ (N_3094 x 3) = (M x 3) ∧ (M x 2) ≤ x3_3091 → (7 - (x3_3091)).toNat = n_3096 → KJ false G X N_3094 30 [some (vR G c0), some (vI a1), some (vR G x), some (vI x3_3091), some (vI x4_3092), some (vI x5_3093)] [] := by
          intro n_3096
          refine Nat.strongRecOn n_3096 ?_
          intro n_3096 ih_3097 x3_3091 x4_3092 x5_3093 N_3094 hI_N_3094 hF_N_3094 hE_N_3094 hp_3100 h_3098 hm_3099
          refine kx_iload 32 F 5 dX1_takeStates_30 rfl rfl ?_
          refine kx_aload_n 33 F 0 dX1_takeStates_32 rfl rfl rfl ?_
          refine kx_geti 36 F fl_X1_45 hk_c0 rfl rfl (j := 5) rfl dX1_takeStates_33 (v := (M c0 5)) (by rw [Fr.e hF_N_3094 hk_c0 _ rfl]) rfl ?_
          refine kx_icmp_ge 39 F 106 dX1_takeStates_36 (by decide) rfl (by omega) (by omega) (fun h_3102 => (by exfalso; omega)) (fun h_3102 => ?_)
          refine kx_iload 41 F 4 dX1_takeStates_39 rfl rfl ?_
          refine kx_if_eq 44 F 106 dX1_takeStates_41 (by decide) rfl (by omega) (fun h_3103 => ?_) (fun h_3103 => (by exfalso; omega))
          have hz := TS.z hp_3100 (by omega)
          refine kx_aload_n 107 F 2 dX1_takeStates_106 rfl rfl rfl ?_
          refine kx_iload_n 108 F 1 dX1_takeStates_107 rfl rfl rfl ?_
          refine kx_if_eq 111 F 115 dX1_takeStates_108 (by decide) rfl (by omega) (fun h_3104 => (by exfalso; omega)) (fun h_3104 => ?_)
          refine kx_iload_n 112 F 3 dX1_takeStates_111 rfl rfl rfl ?_
          refine kx_goto 119 F dX1_takeStates_112 (by decide) ?_
          refine kx_puti 122 F fw_X1_147 rfl hk_13 rfl rfl (j := 2) rfl dX1_takeStates_119 rfl ?_
          intro N_3105 hM_N_3105
          have hI_N_3105 : Inv false N_3105 := Inv.u hI_N_3094 hM_N_3105 hk_13 (a := 0) (b := 7) rfl rfl rfl (by omega)
          have hF_N_3105 : Fr f_e_X1_takeStates M N_3105 := Fr.u hF_N_3094 hM_N_3105 hk_13 rfl
          have hE_N_3105 : Cf (SL (M c0 0) (q 3 - 1)) M N_3105 := Cf.st hE_N_3094 hM_N_3105 (Or.inr (by omega))
          refine kx_aload_n 123 F 2 dX1_takeStates_122 rfl rfl rfl ?_
          refine kx_iload_n 124 F 1 dX1_takeStates_123 rfl rfl rfl ?_
          refine kx_if_eq 127 F 134 dX1_takeStates_124 (by decide) rfl (by omega) (fun h_3106 => (by exfalso; omega)) (fun h_3106 => ?_)
          refine kx_aload_n 128 F 2 dX1_takeStates_127 rfl rfl rfl ?_
          refine kx_geti 131 F fl_X1_150 hk_13 rfl rfl (j := 3) rfl dX1_takeStates_128 (v := (N_3094 x 3)) (by rw [hM_N_3105, mu_i (by omega)]) rfl ?_
          have h_3107 := Inv.g hI_N_3094 hk_13 rfl 3 (a := 0) (b := 7) rfl rfl
          refine kx_goto 135 F dX1_takeStates_131 (by decide) ?_
          refine kx_puti 138 F fw_X1_150 rfl hk_13 rfl rfl (j := 3) rfl dX1_takeStates_135 rfl ?_
          intro N_3108 hM_N_3108
          have hI_N_3108 : Inv false N_3108 := Inv.u hI_N_3105 hM_N_3108 hk_13 (a := 0) (b := 7) rfl rfl rfl (by omega)
          have hF_N_3108 : Fr f_e_X1_takeStates M N_3108 := Fr.u hF_N_3105 hM_N_3108 hk_13 rfl
          have hE_N_3108 : Cf (SL (M c0 0) (q 3 - 1)) M N_3108 := Cf.st hE_N_3105 hM_N_3108 (Or.inr (by omega))
          refine kx_iload 140 F 4 dX1_takeStates_138 rfl rfl ?_
          have e_3109 : (N_3108 c0 2) = (N_3094 c0 2) := by rw [hM_N_3108, mu_k hk_c0 hk_13 rfl, hM_N_3105, mu_k hk_c0 hk_13 rfl]
          have h_3110 := Inv.g hI_N_3094 hk_c0 rfl 2 (a := (-2147483648)) (b := 2147483647) rfl rfl
          have e_3111 : (N_3108 c0 3) = (N_3094 c0 3) := by rw [hM_N_3108, mu_k hk_c0 hk_13 rfl, hM_N_3105, mu_k hk_c0 hk_13 rfl]
          have h_3112 := Inv.g hI_N_3094 hk_c0 rfl 3 (a := (-2147483648)) (b := 2147483647) rfl rfl
          have e_3113 : (N_3108 c0 6) = (N_3094 c0 6) := by rw [hM_N_3108, mu_k hk_c0 hk_13 rfl, hM_N_3105, mu_k hk_c0 hk_13 rfl]
          have h_3114 := Inv.g hI_N_3094 hk_c0 rfl 6 (a := 0) (b := 5) rfl rfl
          have e_3115 : (N_3108 c0 7) = (N_3094 c0 7) := by rw [hM_N_3108, mu_k hk_c0 hk_13 rfl, hM_N_3105, mu_k hk_c0 hk_13 rfl]
          have h_3116 := Inv.g hI_N_3094 hk_c0 rfl 7 (a := 0) (b := 900) rfl rfl
          have e_3117 : (N_3108 c0 8) = (N_3094 c0 8) := by rw [hM_N_3108, mu_k hk_c0 hk_13 rfl, hM_N_3105, mu_k hk_c0 hk_13 rfl]
          have h_3118 := Inv.g hI_N_3094 hk_c0 rfl 8 (a := 0) (b := 900) rfl rfl
          exact kx_zret F hQ (by omega) ⟨hI_N_3108, hF_N_3108, (by omega), hE_N_3108, ⟨_, _, TS.sr hp_3100 (Or.inl (by omega)), fun h => absurd h (by omega)⟩⟩ dX1_takeStates_140
        have e_3120 : (N_1571 x 2) = (M x 2) := by rw [Fr.e hG_N_1571 hk_13 _ rfl]
        have e_3121 : (N_1571 x 3) = (M x 3) := by rw [Fr.e hG_N_1571 hk_13 _ rfl]
        have h_3122 := Inv.g hI_M hk_13 rfl 3 (a := 0) (b := 7) rfl rfl
        exact L_3095 _ (M x 2) r_1570 0 N_1571 hI_N_1571 hF_N_1571 hE_N_1571 (by rw [show (M x 2) = q (b + i) by rw [show i = 2 by omega]; omega]; exact TS.ini (by omega) (Or.inr (by omega))) (by omega) rfl
