set_option maxHeartbeats 4000000 in
set_option maxRecDepth 100000 in
theorem e_foundIn3 (G : KG) (l : Launch) (M : Mem) (a1 : Int) (a2 : Int) (hI_M : Inv true M) (hpre : -2147483648 ≤ a1 ∧ a1 ≤ 2147483647 ∧ -2147483648 ≤ a2 ∧ a2 ≤ 2147483647) : KC true G l yX12_foundIn cX12_foundIn 4 (some .int) (0, 0) [vR G 163, vI a1, vI a2] M (fun A => kQi true G A (fun (r : Int) (N : Mem) => M = N ∧ (r ≥ -1 ∧ r ≤ 40) ∧ (zFI (M 181) (M 182) (M 163 35) a1 a2 r))) := by
  refine kx_met (lo := [some (vR G 163), some (vI a1), some (vI a2), none]) (by decide) (Nat.le_of_ble_eq_true rfl) rfl ?_
  intro X F hQ
  refine kx_iconst 1 F dX12_foundIn_0 rfl ?_
  refine kx_istore_n 2 F 3 (lo' := [some (vR G 163), some (vI a1), some (vI a2), some (vI 0)]) dX12_foundIn_1 rfl (by decide) rfl rfl rfl ?_
  have L_51 : ∀ (n_52 : Nat) (x3_50 : Int), zNF (M 181) (M 182) a1 a2 x3_50 → 0 ≤ x3_50 ∧ x3_50 ≤ 41 → (41 - (x3_50)).toNat = n_52 → KJ true G X M 2 [some (vR G 163), some (vI a1), some (vI a2), some (vI x3_50)] [] := by
    intro n_52
    refine Nat.strongRecOn n_52 ?_
    intro n_52 ih_53 x3_50 hp_56 h_54 hm_55
    refine kx_iload_n 3 F 3 dX12_foundIn_2 rfl rfl rfl ?_
    refine kx_aload_n 4 F 0 dX12_foundIn_3 rfl rfl rfl ?_
    refine kx_geti 7 F fl_X12_403 kd_163 rfl rfl (j := 35) rfl dX12_foundIn_4 (v := (M 163 35)) rfl rfl ?_
    have h_57 := Inv.g hI_M kd_163 rfl 35 (a := 0) (b := 41) rfl rfl
    refine kx_icmp_ge 10 F 38 dX12_foundIn_7 (by decide) rfl (by omega) (by omega) (fun h_58 => ?_) (fun h_58 => ?_)
    · refine kx_iconst 39 F dX12_foundIn_38 rfl ?_
      exact kx_iret F hQ ⟨rfl, (by omega), (zNF.end hp_56 (by omega))⟩ dX12_foundIn_39
    · refine kx_aload_n 11 F 0 dX12_foundIn_10 rfl rfl rfl ?_
      refine kx_getr 14 F fl_X12_74 kd_163 rfl rfl (j := 33) rfl dX12_foundIn_11 (v := 181) (uq_181 (Inv.r hI_M kd_163 rfl 33 rfl rfl)) rfl ?_
      refine kx_iload_n 15 F 3 dX12_foundIn_14 rfl rfl rfl ?_
      refine kx_iald 16 F kd_181 rfl rfl (by omega) (by decide) dX12_foundIn_15 (v := (M 181 x3_50)) rfl rfl ?_
      have h_59 := Inv.g hI_M kd_181 rfl x3_50 (a := 0) (b := 7) rfl rfl
      refine kx_iload_n 17 F 1 dX12_foundIn_16 rfl rfl rfl ?_
      refine kx_icmp_ne 20 F 32 dX12_foundIn_17 (by decide) rfl (by omega) (by omega) (fun h_60 => ?_) (fun h_60 => ?_)
      · refine kx_iinc 35 F 3 (v := x3_50 + 1) (lo' := [some (vR G 163), some (vI a1), some (vI a2), some (vI (x3_50 + 1))]) dX12_foundIn_32 rfl (by omega) (by decide) rfl rfl rfl ?_
        refine kx_goto 2 F dX12_foundIn_35 (by decide) ?_
        exact ih_53 _ (by omega) (x3_50 + 1) (zNF.step hp_56 (by omega) (by omega)) (by omega) rfl
      · refine kx_aload_n 21 F 0 dX12_foundIn_20 rfl rfl rfl ?_
        refine kx_getr 24 F fl_X12_77 kd_163 rfl rfl (j := 34) rfl dX12_foundIn_21 (v := 182) (uq_182 (Inv.r hI_M kd_163 rfl 34 rfl rfl)) rfl ?_
        refine kx_iload_n 25 F 3 dX12_foundIn_24 rfl rfl rfl ?_
        refine kx_iald 26 F kd_182 rfl rfl (by omega) (by decide) dX12_foundIn_25 (v := (M 182 x3_50)) rfl rfl ?_
        have h_61 := Inv.g hI_M kd_182 rfl x3_50 (a := 0) (b := 511) rfl rfl
        refine kx_iload_n 27 F 2 dX12_foundIn_26 rfl rfl rfl ?_
        refine kx_icmp_ne 30 F 32 dX12_foundIn_27 (by decide) rfl (by omega) (by omega) (fun h_62 => ?_) (fun h_62 => ?_)
        · refine kx_iinc 35 F 3 (v := x3_50 + 1) (lo' := [some (vR G 163), some (vI a1), some (vI a2), some (vI (x3_50 + 1))]) dX12_foundIn_32 rfl (by omega) (by decide) rfl rfl rfl ?_
          refine kx_goto 2 F dX12_foundIn_35 (by decide) ?_
          exact ih_53 _ (by omega) (x3_50 + 1) (zNF.step hp_56 (by omega) (by omega)) (by omega) rfl
        · refine kx_iload_n 31 F 3 dX12_foundIn_30 rfl rfl rfl ?_
          exact kx_iret F hQ ⟨rfl, (by omega), (zNF.hit hp_56 (by omega) (by omega) (by omega) (by omega))⟩ dX12_foundIn_31
  exact L_51 _ 0 zNF.nil (by omega) rfl
abbrev f_e_putsIn3 : List (Nat × Int) := [(64, 35), (81, -1), (82, -1)]
set_option maxHeartbeats 4000000 in
set_option maxRecDepth 100000 in
theorem e_putsIn3 (G : KG) (l : Launch) (M : Mem) (a1 : Int) (a2 : Int) (hI_M : Inv true M) (hpre : -2147483648 ≤ a1 ∧ a1 ≤ 2147483647 ∧ -2147483648 ≤ a2 ∧ a2 ≤ 2147483647 ∧ 0 ≤ a1 ∧ a1 ≤ 7 ∧ 0 ≤ a2 ∧ a2 ≤ 511) (T : zT3) (hT : zTRr M T) (hi : zin T) : KC true G l yX12_putsIn cX12_putsIn 3 none (1, 23) [vR G 163, vI a1, vI a2] M (fun A => kQv true G A (fun (N : Mem) => Inv true N ∧ Fr f_e_putsIn3 M N ∧ (zTRr N (zput T a1 a2)))) := by
  refine kx_met (lo := [some (vR G 163), some (vI a1), some (vI a2)]) (by decide) (Nat.le_of_ble_eq_true rfl) rfl ?_
  intro X F hQ
  have hF_M : Fr f_e_putsIn3 M M := Fr.rf _ _
  refine kx_aload_n 1 F 0 dX12_putsIn_0 rfl rfl rfl ?_
  refine kx_geti 4 F fl_X12_403 kd_163 rfl rfl (j := 35) rfl dX12_putsIn_1 (v := (M 163 35)) rfl rfl ?_
  have h_1 := Inv.g hI_M kd_163 rfl 35 (a := 0) (b := 41) rfl rfl
  refine kx_bipush 6 F dX12_putsIn_4 (by decide) rfl ?_
  refine kx_icmp_gt 9 F 19 dX12_putsIn_6 (by decide) rfl (by omega) (by decide) (fun h_2 => ?_) (fun h_2 => ?_)
  · exact kx_vret F hQ ⟨hI_M, hF_M, (zTRr.full hT (by omega))⟩ dX12_putsIn_19
  · refine kx_aload_n 10 F 0 dX12_putsIn_9 rfl rfl rfl ?_
    refine kx_iload_n 11 F 1 dX12_putsIn_10 rfl rfl rfl ?_
    refine kx_iload_n 12 F 2 dX12_putsIn_11 rfl rfl rfl ?_
    refine kx_Vi 15 (ci := 0) F (As := [vI a1, vI a2]) (st := []) vd_X12_406 (e_foundIn3 G l M a1 a2 hI_M (by omega)) kd_163 rfl rfl rfl ⟨by decide, by decide⟩ rfl rfl (Nat.le_of_ble_eq_true rfl) dX12_putsIn_12 rfl ?_
    intro r_3 N_4 q_5
    obtain ⟨rfl, q_5c, hfi_N_4⟩ := q_5
    refine kx_iconst 16 F dX12_putsIn_15 rfl ?_
    refine kx_icmp_eq 19 F 20 dX12_putsIn_16 (by decide) rfl (by omega) (by decide) (fun h_6 => ?_) (fun h_6 => ?_)
    · refine kx_aload_n 21 F 0 dX12_putsIn_20 rfl rfl rfl ?_
      refine kx_getr 24 F fl_X12_74 kd_163 rfl rfl (j := 33) rfl dX12_putsIn_21 (v := 181) (uq_181 (Inv.r hI_M kd_163 rfl 33 rfl rfl)) rfl ?_
      refine kx_aload_n 25 F 0 dX12_putsIn_24 rfl rfl rfl ?_
      refine kx_geti 28 F fl_X12_403 kd_163 rfl rfl (j := 35) rfl dX12_putsIn_25 (v := (M 163 35)) rfl rfl ?_
      refine kx_iload_n 29 F 1 dX12_putsIn_28 rfl rfl rfl ?_
      refine kx_iast 30 F kd_181 rfl rfl (by omega) (by decide) dX12_putsIn_29 rfl ?_
      intro N_7 hM_N_7
      have hI_N_7 : Inv true N_7 := Inv.u hI_M hM_N_7 kd_181 (a := 0) (b := 7) rfl rfl rfl (by omega)
      have hF_N_7 : Fr f_e_putsIn3 M N_7 := Fr.u hF_M hM_N_7 kd_181 rfl
      refine kx_aload_n 31 F 0 dX12_putsIn_30 rfl rfl rfl ?_
      refine kx_getr 34 F fl_X12_77 kd_163 rfl rfl (j := 34) rfl dX12_putsIn_31 (v := 182) (uq_182 (Inv.r hI_N_7 kd_163 rfl 34 rfl rfl)) rfl ?_
      refine kx_aload_n 35 F 0 dX12_putsIn_34 rfl rfl rfl ?_
      refine kx_geti 38 F fl_X12_403 kd_163 rfl rfl (j := 35) rfl dX12_putsIn_35 (v := (M 163 35)) (by rw [hM_N_7, mu_k kd_163 kd_181 rfl]) rfl ?_
      refine kx_iload_n 39 F 2 dX12_putsIn_38 rfl rfl rfl ?_
      refine kx_iast 40 F kd_182 rfl rfl (by omega) (by decide) dX12_putsIn_39 rfl ?_
      intro N_8 hM_N_8
      have hI_N_8 : Inv true N_8 := Inv.u hI_N_7 hM_N_8 kd_182 (a := 0) (b := 511) rfl rfl rfl (by omega)
      have hF_N_8 : Fr f_e_putsIn3 M N_8 := Fr.u hF_N_7 hM_N_8 kd_182 rfl
      refine kx_aload_n 41 F 0 dX12_putsIn_40 rfl rfl rfl ?_
      refine kx_dup 42 F dX12_putsIn_41 rfl rfl ?_
      refine kx_geti 45 F fl_X12_403 kd_163 rfl rfl (j := 35) rfl dX12_putsIn_42 (v := (M 163 35)) (by rw [hM_N_8, mu_k kd_163 kd_182 rfl, hM_N_7, mu_k kd_163 kd_181 rfl]) rfl ?_
      refine kx_iconst 46 F dX12_putsIn_45 rfl ?_
      refine kx_iadd 47 F (v := (M 163 35) + 1) dX12_putsIn_46 rfl rfl ?_
      refine kx_puti 50 F fw_X12_403 rfl kd_163 rfl rfl (j := 35) rfl dX12_putsIn_47 rfl ?_
      intro N_9 hM_N_9
      have hI_N_9 : Inv true N_9 := Inv.u hI_N_8 hM_N_9 kd_163 (a := 0) (b := 41) rfl rfl rfl (by omega)
      have hF_N_9 : Fr f_e_putsIn3 M N_9 := Fr.u hF_N_8 hM_N_9 kd_163 rfl
      have e_10 : (N_9 163 35) = (M 163 35) + 1 := by rw [hM_N_9, mu_s]
      exact kx_vret F hQ ⟨hI_N_9, hF_N_9, (zTRr.new hT hi hfi_N_4 (by omega) (by omega) (by omega) (fun j => by rw [hM_N_9, mu_k kd_181 kd_163 rfl, hM_N_8, mu_k kd_181 kd_182 rfl, hM_N_7, mu_at]) (fun j => by rw [hM_N_9, mu_k kd_182 kd_163 rfl, hM_N_8, mu_at, hM_N_7, mu_k kd_182 kd_181 rfl]))⟩ dX12_putsIn_50
    · exact kx_vret F hQ ⟨hI_M, hF_M, (zTRr.have hT hi hfi_N_4 (by omega))⟩ dX12_putsIn_19
set_option maxHeartbeats 4000000 in
set_option maxRecDepth 100000 in
theorem e_nextR3 (G : KG) (l : Launch) (M : Mem) (a1 : Int) (a2 : Int) (a3 : Int) (hI_M : Inv true M) (hpre : -2147483648 ≤ a1 ∧ a1 ≤ 2147483647 ∧ -2147483648 ≤ a2 ∧ a2 ≤ 2147483647 ∧ -2147483648 ≤ a3 ∧ a3 ≤ 2147483647 ∧ 0 ≤ a1 ∧ a1 ≤ 1 ∧ 0 ≤ a2 ∧ a2 ≤ 40 ∧ 0 ≤ a3 ∧ a3 ≤ 5) (q : Int → Int) (hS : zRN (M 164) q) (hU : zRU (M 164) q) (hC : zQC q) (hD : LD M) (ha : a1 < q 3) : KC true G l yX12_nextR cX12_nextR 4 (some .int) (2, 49) [vR G 163, vI a1, vI a2, vI a3] M (fun A => kQi true G A (fun (r : Int) (N : Mem) => M = N ∧ (0 ≤ r ∧ r ≤ 7) ∧ (r = zmZ (M 181 a2) (zst q (85 * a1 + 100) a3) 3))) := by
  refine kx_met (lo := [some (vR G 163), some (vI a1), some (vI a2), some (vI a3)]) (by decide) (Nat.le_of_ble_eq_true rfl) rfl ?_
  intro X F hQ
  have hSn := hS.u
  have h_1 := Inv.g hI_M kd_164 rfl 0 (a := 0) (b := 2) (at_c 0 0 (o := 0) (lo := 0) (hi := 2) (by omega) (by decide) (by decide) (by decide)).1 (at_c 0 0 (o := 0) (lo := 0) (hi := 2) (by omega) (by decide) (by decide) (by decide)).2
  have h_2 := Inv.g hI_M kd_164 rfl 1 (a := 0) (b := 2) (at_c 1 0 (o := 1) (lo := 0) (hi := 2) (by omega) (by decide) (by decide) (by decide)).1 (at_c 1 0 (o := 1) (lo := 0) (hi := 2) (by omega) (by decide) (by decide) (by decide)).2
  have h_3 := Inv.g hI_M kd_164 rfl 2 (a := 0) (b := 2) (at_c 2 0 (o := 2) (lo := 0) (hi := 2) (by omega) (by decide) (by decide) (by decide)).1 (at_c 2 0 (o := 2) (lo := 0) (hi := 2) (by omega) (by decide) (by decide) (by decide)).2
  refine kx_aload_n 1 F 0 dX12_nextR_0 rfl rfl rfl ?_
  refine kx_getr 4 F fl_X12_74 kd_163 rfl rfl (j := 33) rfl dX12_nextR_1 (v := 181) (uq_181 (Inv.r hI_M kd_163 rfl 33 rfl rfl)) rfl ?_
  refine kx_iload_n 5 F 2 dX12_nextR_4 rfl rfl rfl ?_
  refine kx_iald 6 F kd_181 rfl rfl (by omega) (by decide) dX12_nextR_5 (v := (M 181 a2)) rfl rfl ?_
  have h_4 := Inv.g hI_M kd_181 rfl a2 (a := 0) (b := 7) rfl rfl
  refine kx_aload_n 7 F 0 dX12_nextR_6 rfl rfl rfl ?_
  refine kx_iload_n 8 F 1 dX12_nextR_7 rfl rfl rfl ?_
  refine kx_iload_n 9 F 3 dX12_nextR_8 rfl rfl rfl ?_
  refine kx_aload_n 10 F 0 dX12_nextR_9 rfl rfl rfl ?_
  refine kx_iload_n 11 F 3 dX12_nextR_10 rfl rfl rfl ?_
  refine kx_Vi 14 (ci := 0) F (As := [vI a3]) (st := [vI a3, vI a1, vR G 163, vI (M 181 a2)]) vd_X12_297 (c_sortNowE G l M a3 hI_M (by omega)) kd_163 rfl rfl rfl ⟨by decide, by decide⟩ rfl rfl (Nat.le_of_ble_eq_true rfl) dX12_nextR_11 rfl ?_
  intro r_5 N_6 q_7
  obtain ⟨rfl, q_7c⟩ := q_7
  rcases q_7c with q_7c | q_7c | q_7c
  · refine kx_if_ne 17 F 22 dX12_nextR_14 (by decide) rfl (by omega) (fun h_8 => (by exfalso; omega)) (fun h_8 => ?_)
    refine kx_bipush 19 F dX12_nextR_17 (by decide) rfl ?_
    refine kx_goto 24 F dX12_nextR_19 (by decide) ?_
    refine kx_Vi 27 (ci := 0) F (As := [vI a1, vI a3, vI 7]) (st := [vI (M 181 a2)]) vd_X12_323 (e_leads G l M a1 a3 7 hI_M (by omega)) kd_163 rfl rfl rfl ⟨by decide, by decide⟩ rfl rfl (Nat.le_of_ble_eq_true rfl) dX12_nextR_24 rfl ?_
    intro r_9 N_10 q_11
    obtain ⟨rfl, q_11c, hz_N_10⟩ := q_11
    refine kx_Si 30 F (As := [vI (M 181 a2), vI r_9]) (st := []) sd_X12_332 (e_image3m G l M (M 181 a2) r_9 hI_M (by omega)) ⟨by decide, by decide⟩ rfl rfl (Nat.le_of_ble_eq_true rfl) dX12_nextR_27 rfl ?_
    intro r_12 N_13 q_14
    obtain ⟨rfl, q_14c, hz_N_13⟩ := q_14
    have hl_15 : r_9 = zst q (85 * a1 + 100) a3 := hz_N_10.trans (by exact zLK_s hI_M hD hS hU hC ⟨by omega, by omega⟩ ⟨by omega, by omega⟩ (by rw [if_pos (by omega)]))
    exact kx_iret F hQ ⟨rfl, (by omega), (NX.cv (hz_N_13.trans (by rw [hl_15])) (by omega))⟩ dX12_nextR_30
  · refine kx_if_ne 17 F 22 dX12_nextR_14 (by decide) rfl (by omega) (fun h_16 => ?_) (fun h_16 => (by exfalso; omega))
    refine kx_bipush 24 F dX12_nextR_22 (by decide) rfl ?_
    refine kx_Vi 27 (ci := 0) F (As := [vI a1, vI a3, vI 8]) (st := [vI (M 181 a2)]) vd_X12_323 (e_leads G l M a1 a3 8 hI_M (by omega)) kd_163 rfl rfl rfl ⟨by decide, by decide⟩ rfl rfl (Nat.le_of_ble_eq_true rfl) dX12_nextR_24 rfl ?_
    intro r_17 N_18 q_19
    obtain ⟨rfl, q_19c, hz_N_18⟩ := q_19
    refine kx_Si 30 F (As := [vI (M 181 a2), vI r_17]) (st := []) sd_X12_332 (e_image3m G l M (M 181 a2) r_17 hI_M (by omega)) ⟨by decide, by decide⟩ rfl rfl (Nat.le_of_ble_eq_true rfl) dX12_nextR_27 rfl ?_
    intro r_20 N_21 q_22
    obtain ⟨rfl, q_22c, hz_N_21⟩ := q_22
    have hl_23 : r_17 = zst q (85 * a1 + 100) a3 := hz_N_18.trans (by exact zLK_s hI_M hD hS hU hC ⟨by omega, by omega⟩ ⟨by omega, by omega⟩ (by rw [if_neg (by omega)]))
    exact kx_iret F hQ ⟨rfl, (by omega), (NX.cv (hz_N_21.trans (by rw [hl_23])) (by omega))⟩ dX12_nextR_30
  · refine kx_if_ne 17 F 22 dX12_nextR_14 (by decide) rfl (by omega) (fun h_24 => ?_) (fun h_24 => (by exfalso; omega))
    refine kx_bipush 24 F dX12_nextR_22 (by decide) rfl ?_
    refine kx_Vi 27 (ci := 0) F (As := [vI a1, vI a3, vI 8]) (st := [vI (M 181 a2)]) vd_X12_323 (e_leads G l M a1 a3 8 hI_M (by omega)) kd_163 rfl rfl rfl ⟨by decide, by decide⟩ rfl rfl (Nat.le_of_ble_eq_true rfl) dX12_nextR_24 rfl ?_
    intro r_25 N_26 q_27
    obtain ⟨rfl, q_27c, hz_N_26⟩ := q_27
    refine kx_Si 30 F (As := [vI (M 181 a2), vI r_25]) (st := []) sd_X12_332 (e_image3m G l M (M 181 a2) r_25 hI_M (by omega)) ⟨by decide, by decide⟩ rfl rfl (Nat.le_of_ble_eq_true rfl) dX12_nextR_27 rfl ?_
    intro r_28 N_29 q_30
    obtain ⟨rfl, q_30c, hz_N_29⟩ := q_30
    have hl_31 : r_25 = zst q (85 * a1 + 100) a3 := hz_N_26.trans (by exact zLK_s hI_M hD hS hU hC ⟨by omega, by omega⟩ ⟨by omega, by omega⟩ (by rw [if_neg (by omega)]))
    exact kx_iret F hQ ⟨rfl, (by omega), (NX.cv (hz_N_29.trans (by rw [hl_31])) (by omega))⟩ dX12_nextR_30
set_option maxHeartbeats 4000000 in
set_option maxRecDepth 100000 in
theorem e_nextS3 (G : KG) (l : Launch) (M : Mem) (a1 : Int) (a2 : Int) (a3 : Int) (hI_M : Inv true M) (hpre : -2147483648 ≤ a1 ∧ a1 ≤ 2147483647 ∧ -2147483648 ≤ a2 ∧ a2 ≤ 2147483647 ∧ -2147483648 ≤ a3 ∧ a3 ≤ 2147483647 ∧ 0 ≤ a1 ∧ a1 ≤ 1 ∧ 0 ≤ a2 ∧ a2 ≤ 40 ∧ 0 ≤ a3 ∧ a3 ≤ 5) (q : Int → Int) (hS : zRN (M 164) q) (hU : zRU (M 164) q) (hC : zQC q) (hD : LD M) (ha : a1 < q 3) : KC true G l yX12_nextS cX12_nextS 4 (some .int) (3, 66) [vR G 163, vI a1, vI a2, vI a3] M (fun A => kQi true G A (fun (r : Int) (N : Mem) => M = N ∧ (0 ≤ r ∧ r ≤ 511) ∧ ((a3 < q 0 → r = smeZ (q (85 * a1 + 100))) ∧ (¬ a3 < q 0 → r = thnZ (M 182 a2) (zst q (85 * a1 + 100) a3) 9)))) := by
  refine kx_met (lo := [some (vR G 163), some (vI a1), some (vI a2), some (vI a3)]) (by decide) (Nat.le_of_ble_eq_true rfl) rfl ?_
  intro X F hQ
  have hSn := hS.u
  have h_1 := Inv.g hI_M kd_164 rfl 0 (a := 0) (b := 2) (at_c 0 0 (o := 0) (lo := 0) (hi := 2) (by omega) (by decide) (by decide) (by decide)).1 (at_c 0 0 (o := 0) (lo := 0) (hi := 2) (by omega) (by decide) (by decide) (by decide)).2
  have h_2 := Inv.g hI_M kd_164 rfl 1 (a := 0) (b := 2) (at_c 1 0 (o := 1) (lo := 0) (hi := 2) (by omega) (by decide) (by decide) (by decide)).1 (at_c 1 0 (o := 1) (lo := 0) (hi := 2) (by omega) (by decide) (by decide) (by decide)).2
  have h_3 := Inv.g hI_M kd_164 rfl 2 (a := 0) (b := 2) (at_c 2 0 (o := 2) (lo := 0) (hi := 2) (by omega) (by decide) (by decide) (by decide)).1 (at_c 2 0 (o := 2) (lo := 0) (hi := 2) (by omega) (by decide) (by decide) (by decide)).2
  refine kx_aload_n 1 F 0 dX12_nextS_0 rfl rfl rfl ?_
  refine kx_iload_n 2 F 3 dX12_nextS_1 rfl rfl rfl ?_
  refine kx_Vi 5 (ci := 0) F (As := [vI a3]) (st := []) vd_X12_297 (c_sortNowE G l M a3 hI_M (by omega)) kd_163 rfl rfl rfl ⟨by decide, by decide⟩ rfl rfl (Nat.le_of_ble_eq_true rfl) dX12_nextS_2 rfl ?_
  intro r_4 N_5 q_6
  obtain ⟨rfl, q_6c⟩ := q_6
  rcases q_6c with q_6c | q_6c | q_6c
  · refine kx_if_ne 8 F 16 dX12_nextS_5 (by decide) rfl (by omega) (fun h_7 => (by exfalso; omega)) (fun h_7 => ?_)
    refine kx_aload_n 9 F 0 dX12_nextS_8 rfl rfl rfl ?_
    refine kx_iload_n 10 F 1 dX12_nextS_9 rfl rfl rfl ?_
    refine kx_Vi 13 (ci := 0) F (As := [vI a1]) (st := []) vd_X12_329 (e_same G l M a1 hI_M (by omega)) kd_163 rfl rfl rfl ⟨by decide, by decide⟩ rfl rfl (Nat.le_of_ble_eq_true rfl) dX12_nextS_10 rfl ?_
    intro r_8 N_9 q_10
    obtain ⟨rfl, q_10c, hz_N_9⟩ := q_10
    refine kx_goto 33 F dX12_nextS_13 (by decide) ?_
    have hqb := hU.b (a := a1) (b := 85 * a1 + 100) (by omega) rfl
    have hq0 : M 164 (85 * a1 + 100) = q (85 * a1 + 100) := hqb.n (d := 0) (by decide) (by omega)
    exact kx_iret F hQ ⟨rfl, (by omega), ⟨fun _ => NX.cv (hz_N_9.trans (congrArg smeZ (by rw [show (100 : Int) + 85 * a1 = 85 * a1 + 100 by omega]; exact hq0))) (by omega), fun h => absurd (show a3 < q 0 by omega) h⟩⟩ dX12_nextS_33
  · refine kx_if_ne 8 F 16 dX12_nextS_5 (by decide) rfl (by omega) (fun h_11 => ?_) (fun h_11 => (by exfalso; omega))
    refine kx_aload_n 17 F 0 dX12_nextS_16 rfl rfl rfl ?_
    refine kx_getr 20 F fl_X12_77 kd_163 rfl rfl (j := 34) rfl dX12_nextS_17 (v := 182) (uq_182 (Inv.r hI_M kd_163 rfl 34 rfl rfl)) rfl ?_
    refine kx_iload_n 21 F 2 dX12_nextS_20 rfl rfl rfl ?_
    refine kx_iald 22 F kd_182 rfl rfl (by omega) (by decide) dX12_nextS_21 (v := (M 182 a2)) rfl rfl ?_
    have h_12 := Inv.g hI_M kd_182 rfl a2 (a := 0) (b := 511) rfl rfl
    refine kx_aload_n 23 F 0 dX12_nextS_22 rfl rfl rfl ?_
    refine kx_iload_n 24 F 1 dX12_nextS_23 rfl rfl rfl ?_
    refine kx_iload_n 25 F 3 dX12_nextS_24 rfl rfl rfl ?_
    refine kx_bipush 27 F dX12_nextS_25 (by decide) rfl ?_
    refine kx_Vi 30 (ci := 0) F (As := [vI a1, vI a3, vI 8]) (st := [vI (M 182 a2)]) vd_X12_323 (e_leads G l M a1 a3 8 hI_M (by omega)) kd_163 rfl rfl rfl ⟨by decide, by decide⟩ rfl rfl (Nat.le_of_ble_eq_true rfl) dX12_nextS_27 rfl ?_
    intro r_13 N_14 q_15
    obtain ⟨rfl, q_15c, hz_N_14⟩ := q_15
    refine kx_Si 33 F (As := [vI (M 182 a2), vI r_13]) (st := []) sd_X12_326 (e_then G l M (M 182 a2) r_13 hI_M (by omega)) ⟨by decide, by decide⟩ rfl rfl (Nat.le_of_ble_eq_true rfl) dX12_nextS_30 rfl ?_
    intro r_16 N_17 q_18
    obtain ⟨rfl, q_18c, hz_N_17⟩ := q_18
    have hl_19 : r_13 = zst q (85 * a1 + 100) a3 := hz_N_14.trans (by exact zLK_s hI_M hD hS hU hC ⟨by omega, by omega⟩ ⟨by omega, by omega⟩ (by rw [if_neg (by omega)]))
    exact kx_iret F hQ ⟨rfl, (by omega), ⟨fun h => by exfalso; omega, fun _ => NX.cv (hz_N_17.trans (by rw [hl_19])) (by omega)⟩⟩ dX12_nextS_33
  · refine kx_if_ne 8 F 16 dX12_nextS_5 (by decide) rfl (by omega) (fun h_20 => ?_) (fun h_20 => (by exfalso; omega))
    refine kx_aload_n 17 F 0 dX12_nextS_16 rfl rfl rfl ?_
    refine kx_getr 20 F fl_X12_77 kd_163 rfl rfl (j := 34) rfl dX12_nextS_17 (v := 182) (uq_182 (Inv.r hI_M kd_163 rfl 34 rfl rfl)) rfl ?_
    refine kx_iload_n 21 F 2 dX12_nextS_20 rfl rfl rfl ?_
    refine kx_iald 22 F kd_182 rfl rfl (by omega) (by decide) dX12_nextS_21 (v := (M 182 a2)) rfl rfl ?_
    have h_21 := Inv.g hI_M kd_182 rfl a2 (a := 0) (b := 511) rfl rfl
    refine kx_aload_n 23 F 0 dX12_nextS_22 rfl rfl rfl ?_
    refine kx_iload_n 24 F 1 dX12_nextS_23 rfl rfl rfl ?_
    refine kx_iload_n 25 F 3 dX12_nextS_24 rfl rfl rfl ?_
    refine kx_bipush 27 F dX12_nextS_25 (by decide) rfl ?_
    refine kx_Vi 30 (ci := 0) F (As := [vI a1, vI a3, vI 8]) (st := [vI (M 182 a2)]) vd_X12_323 (e_leads G l M a1 a3 8 hI_M (by omega)) kd_163 rfl rfl rfl ⟨by decide, by decide⟩ rfl rfl (Nat.le_of_ble_eq_true rfl) dX12_nextS_27 rfl ?_
    intro r_22 N_23 q_24
    obtain ⟨rfl, q_24c, hz_N_23⟩ := q_24
    refine kx_Si 33 F (As := [vI (M 182 a2), vI r_22]) (st := []) sd_X12_326 (e_then G l M (M 182 a2) r_22 hI_M (by omega)) ⟨by decide, by decide⟩ rfl rfl (Nat.le_of_ble_eq_true rfl) dX12_nextS_30 rfl ?_
    intro r_25 N_26 q_27
    obtain ⟨rfl, q_27c, hz_N_26⟩ := q_27
    have hl_28 : r_22 = zst q (85 * a1 + 100) a3 := hz_N_23.trans (by exact zLK_s hI_M hD hS hU hC ⟨by omega, by omega⟩ ⟨by omega, by omega⟩ (by rw [if_neg (by omega)]))
    exact kx_iret F hQ ⟨rfl, (by omega), ⟨fun h => by exfalso; omega, fun _ => NX.cv (hz_N_26.trans (by rw [hl_28])) (by omega)⟩⟩ dX12_nextS_33
abbrev f_e_putsBack3 : List (Nat × Int) := [(64, 35), (81, -1), (82, -1)]
set_option maxHeartbeats 4000000 in
set_option maxRecDepth 100000 in
theorem e_putsBack3 (G : KG) (l : Launch) (M : Mem) (a1 : Int) (a2 : Int) (a3 : Int) (a4 : Int) (a5 : Int) (hI_M : Inv true M) (hpre : -2147483648 ≤ a1 ∧ a1 ≤ 2147483647 ∧ -2147483648 ≤ a2 ∧ a2 ≤ 2147483647 ∧ -2147483648 ≤ a3 ∧ a3 ≤ 2147483647 ∧ -2147483648 ≤ a4 ∧ a4 ≤ 2147483647 ∧ -2147483648 ≤ a5 ∧ a5 ≤ 2147483647 ∧ 0 ≤ a1 ∧ a1 ≤ 1 ∧ 0 ≤ a2 ∧ a2 ≤ 40 ∧ 0 ≤ a3 ∧ a3 ≤ 5 ∧ 0 ≤ a4 ∧ a4 ≤ 40 ∧ 0 ≤ a5 ∧ a5 ≤ 5) (T : zT3) (hT : zTRr M T) (hi : zin T) (q : Int → Int) (hS : zRN (M 164) q) (hU : zRU (M 164) q) (hC : zQC q) (hD : LD M) (ha : a1 < q 3) (hk2 : 0 ≤ a2 ∧ a2 < T.1) (hk4 : 0 ≤ a4 ∧ a4 < T.1) : KC true G l yX12_putsBack cX12_putsBack 7 none (3, 75) [vR G 163, vI a1, vI a2, vI a3, vI a4, vI a5] M (fun A => kQv true G A (fun (N : Mem) => Inv true N ∧ Fr f_e_putsBack3 M N ∧ (zTRr N (zBk (zks q (85 * a1 + 100)) T a2 a4 a5 a3)))) := by
  refine kx_met (lo := [some (vR G 163), some (vI a1), some (vI a2), some (vI a3), some (vI a4), some (vI a5), none]) (by decide) (Nat.le_of_ble_eq_true rfl) rfl ?_
  intro X F hQ
  have hF_M : Fr f_e_putsBack3 M M := Fr.rf _ _
  have hSn := hS.u
  have h_1 := Inv.g hI_M kd_164 rfl 0 (a := 0) (b := 2) (at_c 0 0 (o := 0) (lo := 0) (hi := 2) (by omega) (by decide) (by decide) (by decide)).1 (at_c 0 0 (o := 0) (lo := 0) (hi := 2) (by omega) (by decide) (by decide) (by decide)).2
  have h_2 := Inv.g hI_M kd_164 rfl 1 (a := 0) (b := 2) (at_c 1 0 (o := 1) (lo := 0) (hi := 2) (by omega) (by decide) (by decide) (by decide)).1 (at_c 1 0 (o := 1) (lo := 0) (hi := 2) (by omega) (by decide) (by decide) (by decide)).2
  have h_3 := Inv.g hI_M kd_164 rfl 2 (a := 0) (b := 2) (at_c 2 0 (o := 2) (lo := 0) (hi := 2) (by omega) (by decide) (by decide) (by decide)).1 (at_c 2 0 (o := 2) (lo := 0) (hi := 2) (by omega) (by decide) (by decide) (by decide)).2
  refine kx_aload_n 1 F 0 dX12_putsBack_0 rfl rfl rfl ?_
  refine kx_iload_n 2 F 1 dX12_putsBack_1 rfl rfl rfl ?_
  refine kx_aload_n 3 F 0 dX12_putsBack_2 rfl rfl rfl ?_
  refine kx_getr 6 F fl_X12_77 kd_163 rfl rfl (j := 34) rfl dX12_putsBack_3 (v := 182) (uq_182 (Inv.r hI_M kd_163 rfl 34 rfl rfl)) rfl ?_
  refine kx_iload_n 7 F 2 dX12_putsBack_6 rfl rfl rfl ?_
  refine kx_iald 8 F kd_182 rfl rfl (by omega) (by decide) dX12_putsBack_7 (v := (M 182 a2)) rfl rfl ?_
  have h_4 := Inv.g hI_M kd_182 rfl a2 (a := 0) (b := 511) rfl rfl
  refine kx_iload 10 F 5 dX12_putsBack_8 rfl rfl ?_
  refine kx_iload_n 11 F 3 dX12_putsBack_10 rfl rfl rfl ?_
  refine kx_Vi 14 (ci := 0) F (As := [vI a1, vI (M 182 a2), vI a5, vI a3]) (st := []) vd_X12_335 (e_over G l M a1 (M 182 a2) a5 a3 hI_M (by omega)) kd_163 rfl rfl rfl ⟨by decide, by decide⟩ rfl rfl (Nat.le_of_ble_eq_true rfl) dX12_putsBack_11 rfl ?_
  intro r_5 N_6 q_7
  obtain ⟨rfl, q_7c, hz_N_6⟩ := q_7
  refine kx_istore 16 F 6 (lo' := [some (vR G 163), some (vI a1), some (vI a2), some (vI a3), some (vI a4), some (vI a5), some (vI r_5)]) dX12_putsBack_14 (by decide) rfl rfl rfl ?_
  refine kx_aload_n 17 F 0 dX12_putsBack_16 rfl rfl rfl ?_
  refine kx_aload_n 18 F 0 dX12_putsBack_17 rfl rfl rfl ?_
  refine kx_getr 21 F fl_X12_74 kd_163 rfl rfl (j := 33) rfl dX12_putsBack_18 (v := 181) (uq_181 (Inv.r hI_M kd_163 rfl 33 rfl rfl)) rfl ?_
  refine kx_iload 23 F 4 dX12_putsBack_21 rfl rfl ?_
  refine kx_iald 24 F kd_181 rfl rfl (by omega) (by decide) dX12_putsBack_23 (v := (M 181 a4)) rfl rfl ?_
  have h_8 := Inv.g hI_M kd_181 rfl a4 (a := 0) (b := 7) rfl rfl
  refine kx_iload 26 F 6 dX12_putsBack_24 rfl rfl ?_
  refine kx_Si 29 F (As := [vI (M 181 a4), vI r_5]) (st := [vR G 163]) sd_X12_332 (e_image3m G l M (M 181 a4) r_5 hI_M (by omega)) ⟨by decide, by decide⟩ rfl rfl (Nat.le_of_ble_eq_true rfl) dX12_putsBack_26 rfl ?_
  intro r_9 N_10 q_11
  obtain ⟨rfl, q_11c, hz_N_10⟩ := q_11
  refine kx_aload_n 30 F 0 dX12_putsBack_29 rfl rfl rfl ?_
  refine kx_getr 33 F fl_X12_77 kd_163 rfl rfl (j := 34) rfl dX12_putsBack_30 (v := 182) (uq_182 (Inv.r hI_M kd_163 rfl 34 rfl rfl)) rfl ?_
  refine kx_iload 35 F 4 dX12_putsBack_33 rfl rfl ?_
  refine kx_iald 36 F kd_182 rfl rfl (by omega) (by decide) dX12_putsBack_35 (v := (M 182 a4)) rfl rfl ?_
  have h_12 := Inv.g hI_M kd_182 rfl a4 (a := 0) (b := 511) rfl rfl
  refine kx_iload 38 F 6 dX12_putsBack_36 rfl rfl ?_
  refine kx_Si 41 F (As := [vI (M 182 a4), vI r_5]) (st := [vI r_9, vR G 163]) sd_X12_326 (e_then G l M (M 182 a4) r_5 hI_M (by omega)) ⟨by decide, by decide⟩ rfl rfl (Nat.le_of_ble_eq_true rfl) dX12_putsBack_38 rfl ?_
  intro r_13 N_14 q_15
  obtain ⟨rfl, q_15c, hz_N_14⟩ := q_15
  refine kx_Vv 44 (ci := 0) F (As := [vI r_9, vI r_13]) (st := []) vd_X12_409 (e_putsIn3 G l M r_9 r_13 hI_M (by omega) T hT hi) kd_163 rfl rfl rfl ⟨by decide, by decide⟩ rfl rfl (Nat.le_of_ble_eq_true rfl) dX12_putsBack_41 rfl ?_
  intro N_16 q_17
  obtain ⟨hI_N_16, hG_N_16, hpi_N_16⟩ := q_17
  have hF_N_16 : Fr f_e_putsBack3 M N_16 := Fr.c hF_M hG_N_16 rfl
  have ho_18 : r_5 = zovZ (zks q (85 * a1 + 100)) a5 a3 (M 182 a2) 3 := hz_N_6.trans (by exact zLK_o hI_M hD hS hU ⟨by omega, by omega⟩ ⟨by omega, by omega⟩ ⟨by omega, by omega⟩)
  exact kx_vret F hQ ⟨hI_N_16, hF_N_16, (zTRr.bk hT hpi_N_16 hk2 hk4 ho_18 hz_N_10 hz_N_14)⟩ dX12_putsBack_44
abbrev f_e_laysTable3 : List (Nat × Int) := [(64, 35), (72, -1), (81, -1), (82, -1)]
set_option maxHeartbeats 4000000 in
set_option maxRecDepth 100000 in
theorem e_laysTable3 (G : KG) (l : Launch) (M : Mem) (a1 : Int) (hI_M : Inv true M) (hpre : -2147483648 ≤ a1 ∧ a1 ≤ 2147483647 ∧ 0 ≤ a1 ∧ a1 ≤ 1) (q : Int → Int) (hS : zRN (M 164) q) (hU : zRU (M 164) q) (hC : zQC q) (ha : a1 < q 3) : KC true G l yX12_laysTable cX12_laysTable 6 (some .boolean) (4, 101) [vR G 163, vI a1] M (fun A => kQi true G A (fun (r : Int) (N : Mem) => Inv true N ∧ Fr f_e_laysTable3 M N ∧ (r ≥ 0 ∧ r ≤ 1) ∧ (zTRr N (zTQA q (85 * a1 + 100)) ∧ LD N ∧ ((r = 1 ∧ (zTQA q (85 * a1 + 100)).1 ≤ 40) ∨ (r = 0 ∧ 40 < (zTQA q (85 * a1 + 100)).1))))) := by
  refine kx_met (lo := [some (vR G 163), some (vI a1), none, none, none, none]) (by decide) (Nat.le_of_ble_eq_true rfl) rfl ?_
  intro X F hQ
  have hF_M : Fr f_e_laysTable3 M M := Fr.rf _ _
  have hSn := hS.u
  have h_1 := Inv.g hI_M kd_164 rfl 0 (a := 0) (b := 2) (at_c 0 0 (o := 0) (lo := 0) (hi := 2) (by omega) (by decide) (by decide) (by decide)).1 (at_c 0 0 (o := 0) (lo := 0) (hi := 2) (by omega) (by decide) (by decide) (by decide)).2
  have h_2 := Inv.g hI_M kd_164 rfl 1 (a := 0) (b := 2) (at_c 1 0 (o := 1) (lo := 0) (hi := 2) (by omega) (by decide) (by decide) (by decide)).1 (at_c 1 0 (o := 1) (lo := 0) (hi := 2) (by omega) (by decide) (by decide) (by decide)).2
  have h_3 := Inv.g hI_M kd_164 rfl 2 (a := 0) (b := 2) (at_c 2 0 (o := 2) (lo := 0) (hi := 2) (by omega) (by decide) (by decide) (by decide)).1 (at_c 2 0 (o := 2) (lo := 0) (hi := 2) (by omega) (by decide) (by decide) (by decide)).2
  refine kx_aload_n 1 F 0 dX12_laysTable_0 rfl rfl rfl ?_
  refine kx_Vv 4 (ci := 0) F (As := []) (st := []) vd_X12_342 (e_laysRules G l M  hI_M) kd_163 rfl rfl rfl ⟨by decide, by decide⟩ rfl rfl (Nat.le_of_ble_eq_true rfl) dX12_laysTable_1 rfl ?_
  intro N_4 q_5
  obtain ⟨hI_N_4, hG_N_4, hd_N_4⟩ := q_5
  have hF_N_4 : Fr f_e_laysTable3 M N_4 := Fr.c hF_M hG_N_4 rfl
  refine kx_aload_n 5 F 0 dX12_laysTable_4 rfl rfl rfl ?_
  refine kx_iconst 6 F dX12_laysTable_5 rfl ?_
  refine kx_puti 9 F fw_X12_403 rfl kd_163 rfl rfl (j := 35) rfl dX12_laysTable_6 rfl ?_
  intro N_6 hM_N_6
  have hI_N_6 : Inv true N_6 := Inv.u hI_N_4 hM_N_6 kd_163 (a := 0) (b := 41) rfl rfl rfl (by omega)
  have hF_N_6 : Fr f_e_laysTable3 M N_6 := Fr.u hF_N_4 hM_N_6 kd_163 rfl
  refine kx_aload_n 10 F 0 dX12_laysTable_9 rfl rfl rfl ?_
  refine kx_aload_n 11 F 0 dX12_laysTable_10 rfl rfl rfl ?_
  refine kx_iload_n 12 F 1 dX12_laysTable_11 rfl rfl rfl ?_
  refine kx_iconst 13 F dX12_laysTable_12 rfl ?_
  refine kx_Vi 16 (ci := 0) F (As := [vI a1, vI 2]) (st := [vR G 163]) vd_X12_288 (e_of2 G l N_6 a1 2 hI_N_6 (by omega)) kd_163 rfl rfl rfl ⟨by decide, by decide⟩ rfl rfl (Nat.le_of_ble_eq_true rfl) dX12_laysTable_13 rfl ?_
  intro r_7 N_8 q_9
  obtain ⟨rfl, q_9c⟩ := q_9
  have e_10 : (N_6 164 (85 * a1 + 102)) = (M 164 (85 * a1 + 102)) := by rw [hM_N_6, mu_k kd_164 kd_163 rfl, Fr.e hG_N_4 kd_164 _ rfl]
  refine kx_topi (e' := (N_6 164 (85 * a1 + 102))) (by omega) ?_
  refine kx_aload_n 17 F 0 dX12_laysTable_16 rfl rfl rfl ?_
  refine kx_iload_n 18 F 1 dX12_laysTable_17 rfl rfl rfl ?_
  refine kx_Vi 21 (ci := 0) F (As := [vI a1]) (st := [vI (N_6 164 (85 * a1 + 102)), vR G 163]) vd_X12_329 (e_same G l N_6 a1 hI_N_6 (by omega)) kd_163 rfl rfl rfl ⟨by decide, by decide⟩ rfl rfl (Nat.le_of_ble_eq_true rfl) dX12_laysTable_18 rfl ?_
  intro r_12 N_13 q_14
  obtain ⟨rfl, q_14c, hz_N_13⟩ := q_14
  have e_17 : (N_6 163 35) = 0 := by rw [hM_N_6, mu_s]
  refine kx_Vv 24 (ci := 0) F (As := [vI (N_6 164 (85 * a1 + 102)), vI r_12]) (st := []) vd_X12_409 (e_putsIn3 G l N_6 (N_6 164 (85 * a1 + 102)) r_12 hI_N_6 (by omega) (0, (fun _ => 0), (fun _ => 0)) (zTRr.nil (by omega)) ⟨by decide, by decide⟩) kd_163 rfl rfl rfl ⟨by decide, by decide⟩ rfl rfl (Nat.le_of_ble_eq_true rfl) dX12_laysTable_21 rfl ?_
  intro N_18 q_19
  obtain ⟨hI_N_18, hG_N_18, hpi_N_18⟩ := q_19
  have hF_N_18 : Fr f_e_laysTable3 M N_18 := Fr.c hF_N_6 hG_N_18 rfl
  refine kx_iconst 25 F dX12_laysTable_24 rfl ?_
  refine kx_istore_n 26 F 2 (lo' := [some (vR G 163), some (vI a1), some (vI 0), none, none, none]) dX12_laysTable_25 rfl (by decide) rfl rfl rfl ?_
  have L_53706 : ∀ (n_53707 : Nat) (x2_53704 : Int) (N_53705 : Mem), Inv true N_53705 → Fr f_e_laysTable3 M N_53705 → zTRr N_53705 (zKk q (85 * a1 + 100) x2_53704) → LD N_53705 → 0 ≤ x2_53704 ∧ x2_53704 ≤ 40 ∧ x2_53704 ≤ 40 → (40 - (x2_53704)).toNat = n_53707 → KJ true G X N_53705 26 [some (vR G 163), some (vI a1), some (vI x2_53704), none, none, none] [] := by
    intro n_53707
    refine Nat.strongRecOn n_53707 ?_
    intro n_53707 ih_53708 x2_53704 N_53705 hI_N_53705 hF_N_53705 hp_53711 hp_53712 h_53709 hm_53710
    refine kx_iload_n 27 F 2 dX12_laysTable_26 rfl rfl rfl ?_
    refine kx_aload_n 28 F 0 dX12_laysTable_27 rfl rfl rfl ?_
    refine kx_geti 31 F fl_X12_403 kd_163 rfl rfl (j := 35) rfl dX12_laysTable_28 (v := (N_53705 163 35)) rfl rfl ?_
    have h_53713 := Inv.g hI_N_53705 kd_163 rfl 35 (a := 0) (b := 41) rfl rfl
    refine kx_icmp_ge 34 F 184 dX12_laysTable_31 (by decide) rfl (by omega) (by omega) (fun h_53714 => ?_) (fun h_53714 => ?_)
    · refine kx_aload_n 185 F 0 dX12_laysTable_184 rfl rfl rfl ?_
      refine kx_geti 188 F fl_X12_403 kd_163 rfl rfl (j := 35) rfl dX12_laysTable_185 (v := (N_53705 163 35)) rfl rfl ?_
      refine kx_bipush 190 F dX12_laysTable_188 (by decide) rfl ?_
      refine kx_icmp_gt 193 F 197 dX12_laysTable_190 (by decide) rfl (by omega) (by decide) (fun h_53715 => (by exfalso; omega)) (fun h_53715 => ?_)
      refine kx_iconst 194 F dX12_laysTable_193 rfl ?_
      refine kx_goto 198 F dX12_laysTable_194 (by decide) ?_
      have hte := zKk_end (q := q) (b := (85 * a1 + 100)) (k := x2_53704) (by omega) (by have h := hp_53711.1; omega)
      have hpt := zTRr.cv hp_53711 hte.symm
      have hpn := hpt.1
      exact kx_zret F hQ (by omega) ⟨hI_N_53705, hF_N_53705, (by omega), ⟨hpt, hp_53712, Or.inl ⟨by omega, by omega⟩⟩⟩ dX12_laysTable_198
    · have hk_53716 : x2_53704 < (zKk q (85 * a1 + 100) x2_53704).1 := by have h := hp_53711.1; omega
      refine kx_aload_n 35 F 0 dX12_laysTable_34 rfl rfl rfl ?_
      refine kx_geti 38 F fl_X12_403 kd_163 rfl rfl (j := 35) rfl dX12_laysTable_35 (v := (N_53705 163 35)) rfl rfl ?_
      refine kx_bipush 40 F dX12_laysTable_38 (by decide) rfl ?_
      refine kx_icmp_gt 43 F 184 dX12_laysTable_40 (by decide) rfl (by omega) (by decide) (fun h_53717 => ?_) (fun h_53717 => ?_)
      · refine kx_aload_n 185 F 0 dX12_laysTable_184 rfl rfl rfl ?_
        refine kx_geti 188 F fl_X12_403 kd_163 rfl rfl (j := 35) rfl dX12_laysTable_185 (v := (N_53705 163 35)) rfl rfl ?_
        refine kx_bipush 190 F dX12_laysTable_188 (by decide) rfl ?_
        refine kx_icmp_gt 193 F 197 dX12_laysTable_190 (by decide) rfl (by omega) (by decide) (fun h_53718 => ?_) (fun h_53718 => (by exfalso; omega))
        refine kx_iconst 198 F dX12_laysTable_197 rfl ?_
        have hte := zKk_end (q := q) (b := (85 * a1 + 100)) (k := x2_53704) (by omega) (by have h := hp_53711.1; omega)
        have hpt := zTRr.cv hp_53711 hte.symm
        have hpn := hpt.1
        exact kx_zret F hQ (by omega) ⟨hI_N_53705, hF_N_53705, (by omega), ⟨hpt, hp_53712, Or.inr ⟨by omega, by omega⟩⟩⟩ dX12_laysTable_198
      · refine kx_iconst 44 F dX12_laysTable_43 rfl ?_
        refine kx_istore_n 45 F 3 (lo' := [some (vR G 163), some (vI a1), some (vI x2_53704), some (vI 0), none, none]) dX12_laysTable_44 rfl (by decide) rfl rfl rfl ?_
        have L_62334 : ∀ (n_62335 : Nat) (x3_62332 : Int) (N_62333 : Mem), Inv true N_62333 → Fr f_e_laysTable3 M N_62333 → zTRr N_62333 (zKl q (85 * a1 + 100) x2_53704 x3_62332) → LD N_62333 → 0 ≤ x3_62332 ∧ x3_62332 ≤ 6 ∧ x3_62332 ≤ (M 164 0) + (M 164 1) + (M 164 2) → (6 - (x3_62332)).toNat = n_62335 → KJ true G X N_62333 45 [some (vR G 163), some (vI a1), some (vI x2_53704), some (vI x3_62332), none, none] [] := by
          intro n_62335
          refine Nat.strongRecOn n_62335 ?_
          intro n_62335 ih_62336 x3_62332 N_62333 hI_N_62333 hF_N_62333 hp_62339 hp_62340 h_62337 hm_62338
          refine kx_iload_n 46 F 3 dX12_laysTable_45 rfl rfl rfl ?_
          refine kx_aload_n 47 F 0 dX12_laysTable_46 rfl rfl rfl ?_
          refine kx_Vi 50 (ci := 0) F (As := []) (st := [vI x3_62332]) vd_X12_285 (e_lettersX G l N_62333  hI_N_62333) kd_163 rfl rfl rfl ⟨by decide, by decide⟩ rfl rfl (Nat.le_of_ble_eq_true rfl) dX12_laysTable_47 rfl ?_
          intro r_62341 N_62342 q_62343
          obtain ⟨rfl, q_62343c⟩ := q_62343
          have e_62344 : (N_62333 164 0) = (M 164 0) := by rw [Fr.e hF_N_62333 kd_164 _ rfl]
          have e_62345 : (N_62333 164 1) = (M 164 1) := by rw [Fr.e hF_N_62333 kd_164 _ rfl]
          have e_62346 : (N_62333 164 2) = (M 164 2) := by rw [Fr.e hF_N_62333 kd_164 _ rfl]
          refine kx_topi (e' := (N_62333 164 0) + (N_62333 164 1) + (N_62333 164 2)) (by omega) ?_
          refine kx_icmp_ge 53 F 77 dX12_laysTable_50 (by decide) rfl (by omega) (by omega) (fun h_62350 => ?_) (fun h_62350 => ?_)
          · refine kx_iconst 78 F dX12_laysTable_77 rfl ?_
            refine kx_istore_n 79 F 3 (lo' := [some (vR G 163), some (vI a1), some (vI x2_53704), some (vI 0), none, none]) dX12_laysTable_78 rfl (by decide) rfl rfl rfl ?_
            have L_63753 : ∀ (n_63754 : Nat) (x3_63751 : Int) (N_63752 : Mem), Inv true N_63752 → Fr f_e_laysTable3 M N_63752 → zTRr N_63752 (zKj q (85 * a1 + 100) x2_53704 x3_63751) → LD N_63752 → 0 ≤ x3_63751 ∧ x3_63751 ≤ 40 ∧ x3_63751 ≤ x2_53704 + 1 → (40 - (x3_63751)).toNat = n_63754 → KJ true G X N_63752 79 [some (vR G 163), some (vI a1), some (vI x2_53704), some (vI x3_63751), none, none] [] := by
              intro n_63754
              refine Nat.strongRecOn n_63754 ?_
              intro n_63754 ih_63755 x3_63751 N_63752 hI_N_63752 hF_N_63752 hp_63758 hp_63759 h_63756 hm_63757
              refine kx_iload_n 80 F 3 dX12_laysTable_79 rfl rfl rfl ?_
              refine kx_iload_n 81 F 2 dX12_laysTable_80 rfl rfl rfl ?_
              refine kx_icmp_gt 84 F 178 dX12_laysTable_81 (by decide) rfl (by omega) (by omega) (fun h_63760 => ?_) (fun h_63760 => ?_)
              · refine kx_iinc 181 F 2 (v := x2_53704 + 1) (lo' := [some (vR G 163), some (vI a1), some (vI (x2_53704 + 1)), some (vI x3_63751), none, none]) dX12_laysTable_178 rfl (by omega) (by decide) rfl rfl rfl ?_
                refine kx_goto 26 F dX12_laysTable_181 (by decide) ?_
                refine kx_drop 3 (lo' := [some (vR G 163), some (vI a1), some (vI (x2_53704 + 1)), none, none, none]) rfl ?_
                exact ih_53708 _ (by omega) (x2_53704 + 1) N_63752 hI_N_63752 hF_N_63752 (zTRr.cv hp_63758 (by rw [zKk_s (k := x2_53704) (by omega) (by omega) hk_53716]; exact zKjx (by omega) (by have h := hp_63758.1; omega))) hp_63759 (by omega) rfl
              · refine kx_aload_n 85 F 0 dX12_laysTable_84 rfl rfl rfl ?_
                refine kx_geti 88 F fl_X12_403 kd_163 rfl rfl (j := 35) rfl dX12_laysTable_85 (v := (N_63752 163 35)) rfl rfl ?_
                have h_63761 := Inv.g hI_N_63752 kd_163 rfl 35 (a := 0) (b := 41) rfl rfl
                refine kx_bipush 90 F dX12_laysTable_88 (by decide) rfl ?_
                refine kx_icmp_gt 93 F 178 dX12_laysTable_90 (by decide) rfl (by omega) (by decide) (fun h_63762 => ?_) (fun h_63762 => ?_)
                · refine kx_iinc 181 F 2 (v := x2_53704 + 1) (lo' := [some (vR G 163), some (vI a1), some (vI (x2_53704 + 1)), some (vI x3_63751), none, none]) dX12_laysTable_178 rfl (by omega) (by decide) rfl rfl rfl ?_
                  refine kx_goto 26 F dX12_laysTable_181 (by decide) ?_
                  refine kx_drop 3 (lo' := [some (vR G 163), some (vI a1), some (vI (x2_53704 + 1)), none, none, none]) rfl ?_
                  exact ih_53708 _ (by omega) (x2_53704 + 1) N_63752 hI_N_63752 hF_N_63752 (zTRr.cv hp_63758 (by rw [zKk_s (k := x2_53704) (by omega) (by omega) hk_53716]; exact zKjx (by omega) (by have h := hp_63758.1; omega))) hp_63759 (by omega) rfl
                · refine kx_iconst 94 F dX12_laysTable_93 rfl ?_
                  refine kx_istore 96 F 4 (lo' := [some (vR G 163), some (vI a1), some (vI x2_53704), some (vI x3_63751), some (vI 0), none]) dX12_laysTable_94 (by decide) rfl rfl rfl ?_
                  have L_63906 : ∀ (n_63907 : Nat) (x4_63904 : Int) (N_63905 : Mem), Inv true N_63905 → Fr f_e_laysTable3 M N_63905 → zTRr N_63905 (zKc q (85 * a1 + 100) x2_53704 x3_63751 x4_63904) → LD N_63905 → 0 ≤ x4_63904 ∧ x4_63904 ≤ 2 ∧ x3_63751 ≤ x2_53704 ∧ x4_63904 ≤ (M 164 0) → (2 - (x4_63904)).toNat = n_63907 → KJ true G X N_63905 96 [some (vR G 163), some (vI a1), some (vI x2_53704), some (vI x3_63751), some (vI x4_63904), none] [] := by
                    intro n_63907
                    refine Nat.strongRecOn n_63907 ?_
                    intro n_63907 ih_63908 x4_63904 N_63905 hI_N_63905 hF_N_63905 hp_63911 hp_63912 h_63909 hm_63910
                    refine kx_iload 98 F 4 dX12_laysTable_96 rfl rfl ?_
                    refine kx_aload_n 99 F 0 dX12_laysTable_98 rfl rfl rfl ?_
                    refine kx_getr 102 F fl_X12_7 kd_163 rfl rfl (j := 0) rfl dX12_laysTable_99 (v := 164) (uq_164 (Inv.r hI_N_63905 kd_163 rfl 0 rfl rfl)) rfl ?_
                    refine kx_iconst 103 F dX12_laysTable_102 rfl ?_
                    refine kx_iald 104 F kd_164 rfl rfl (by omega) (by decide) dX12_laysTable_103 (v := (M 164 0)) (by rw [Fr.e hF_N_63905 kd_164 _ rfl]) rfl ?_
                    have ha_63913 : atlo 0 = 0 ∧ athi 0 = 2 := at_c 0 0 (o := 0) (lo := 0) (hi := 2) (by omega) (by decide) (by decide) (by decide)
                    refine kx_icmp_ge 107 F 172 dX12_laysTable_104 (by decide) rfl (by omega) (by omega) (fun h_63914 => ?_) (fun h_63914 => ?_)
                    · refine kx_iinc 175 F 3 (v := x3_63751 + 1) (lo' := [some (vR G 163), some (vI a1), some (vI x2_53704), some (vI (x3_63751 + 1)), some (vI x4_63904), none]) dX12_laysTable_172 rfl (by omega) (by decide) rfl rfl rfl ?_
                      refine kx_goto 79 F dX12_laysTable_175 (by decide) ?_
                      refine kx_drop 4 (lo' := [some (vR G 163), some (vI a1), some (vI x2_53704), some (vI (x3_63751 + 1)), none, none]) rfl ?_
                      exact ih_63755 _ (by omega) (x3_63751 + 1) N_63905 hI_N_63905 hF_N_63905 (zTRr.cv hp_63911 (by rw [zKj_s (j := x3_63751) (by omega) (by omega), show q 0 = x4_63904 by omega])) hp_63912 (by omega) rfl
                    · refine kx_aload_n 108 F 0 dX12_laysTable_107 rfl rfl rfl ?_
                      refine kx_getr 111 F fl_X12_7 kd_163 rfl rfl (j := 0) rfl dX12_laysTable_108 (v := 164) (uq_164 (Inv.r hI_N_63905 kd_163 rfl 0 rfl rfl)) rfl ?_
                      refine kx_iconst 112 F dX12_laysTable_111 rfl ?_
                      refine kx_iald 113 F kd_164 rfl rfl (by omega) (by decide) dX12_laysTable_112 (v := (M 164 0)) (by rw [Fr.e hF_N_63905 kd_164 _ rfl]) rfl ?_
                      refine kx_istore 115 F 5 (lo' := [some (vR G 163), some (vI a1), some (vI x2_53704), some (vI x3_63751), some (vI x4_63904), some (vI (M 164 0))]) dX12_laysTable_113 (by decide) rfl rfl rfl ?_
                      have L_63944 : ∀ (n_63945 : Nat) (x5_63942 : Int) (N_63943 : Mem), Inv true N_63943 → Fr f_e_laysTable3 M N_63943 → zTRr N_63943 (zKm q (85 * a1 + 100) x2_53704 x3_63751 x4_63904 (x5_63942 - q 0)) → LD N_63943 → 1 ≤ x5_63942 ∧ x5_63942 ≤ 4 ∧ x3_63751 ≤ x2_53704 ∧ x4_63904 < (M 164 0) ∧ (M 164 0) ≤ x5_63942 ∧ x5_63942 ≤ (M 164 0) + (M 164 1) ∧ (M 164 0) ≤ x5_63942 → (4 - (x5_63942)).toNat = n_63945 → KJ true G X N_63943 115 [some (vR G 163), some (vI a1), some (vI x2_53704), some (vI x3_63751), some (vI x4_63904), some (vI x5_63942)] [] := by
                        intro n_63945
                        refine Nat.strongRecOn n_63945 ?_
                        intro n_63945 ih_63946 x5_63942 N_63943 hI_N_63943 hF_N_63943 hp_63949 hp_63950 h_63947 hm_63948
                        refine kx_iload 117 F 5 dX12_laysTable_115 rfl rfl ?_
                        refine kx_aload_n 118 F 0 dX12_laysTable_117 rfl rfl rfl ?_
                        refine kx_getr 121 F fl_X12_7 kd_163 rfl rfl (j := 0) rfl dX12_laysTable_118 (v := 164) (uq_164 (Inv.r hI_N_63943 kd_163 rfl 0 rfl rfl)) rfl ?_
                        refine kx_iconst 122 F dX12_laysTable_121 rfl ?_
                        refine kx_iald 123 F kd_164 rfl rfl (by omega) (by decide) dX12_laysTable_122 (v := (M 164 0)) (by rw [Fr.e hF_N_63943 kd_164 _ rfl]) rfl ?_
                        refine kx_aload_n 124 F 0 dX12_laysTable_123 rfl rfl rfl ?_
                        refine kx_getr 127 F fl_X12_7 kd_163 rfl rfl (j := 0) rfl dX12_laysTable_124 (v := 164) (uq_164 (Inv.r hI_N_63943 kd_163 rfl 0 rfl rfl)) rfl ?_
                        refine kx_iconst 128 F dX12_laysTable_127 rfl ?_
                        refine kx_iald 129 F kd_164 rfl rfl (by omega) (by decide) dX12_laysTable_128 (v := (M 164 1)) (by rw [Fr.e hF_N_63943 kd_164 _ rfl]) rfl ?_
                        have ha_63951 : atlo 1 = 0 ∧ athi 1 = 2 := at_c 1 0 (o := 1) (lo := 0) (hi := 2) (by omega) (by decide) (by decide) (by decide)
                        refine kx_iadd 130 F (v := (M 164 0) + (M 164 1)) dX12_laysTable_129 rfl rfl ?_
                        refine kx_icmp_ge 133 F 166 dX12_laysTable_130 (by decide) rfl (by omega) (by omega) (fun h_63952 => ?_) (fun h_63952 => ?_)
                        · refine kx_iinc 169 F 4 (v := x4_63904 + 1) (lo' := [some (vR G 163), some (vI a1), some (vI x2_53704), some (vI x3_63751), some (vI (x4_63904 + 1)), some (vI x5_63942)]) dX12_laysTable_166 rfl (by omega) (by decide) rfl rfl rfl ?_
                          refine kx_goto 96 F dX12_laysTable_169 (by decide) ?_
                          refine kx_drop 5 (lo' := [some (vR G 163), some (vI a1), some (vI x2_53704), some (vI x3_63751), some (vI (x4_63904 + 1)), none]) rfl ?_
                          exact ih_63908 _ (by omega) (x4_63904 + 1) N_63943 hI_N_63943 hF_N_63943 (zTRr.cv hp_63949 (by rw [zKc_s (c := x4_63904) (by omega) (by omega), show q 1 = x5_63942 - q 0 by omega])) hp_63950 (by omega) rfl
                        · refine kx_aload_n 134 F 0 dX12_laysTable_133 rfl rfl rfl ?_
                          refine kx_iload_n 135 F 1 dX12_laysTable_134 rfl rfl rfl ?_
                          refine kx_iload_n 136 F 2 dX12_laysTable_135 rfl rfl rfl ?_
                          refine kx_iload 138 F 5 dX12_laysTable_136 rfl rfl ?_
                          refine kx_iload_n 139 F 3 dX12_laysTable_138 rfl rfl rfl ?_
                          refine kx_iload 141 F 4 dX12_laysTable_139 rfl rfl ?_
                          refine kx_Vv 144 (ci := 0) F (As := [vI a1, vI x2_53704, vI x5_63942, vI x3_63751, vI x4_63904]) (st := []) vd_X12_418 (e_putsBack3 G l N_63943 a1 x2_53704 x5_63942 x3_63751 x4_63904 hI_N_63943 (by omega) (zKm q (85 * a1 + 100) x2_53704 x3_63751 x4_63904 (x5_63942 - q 0)) hp_63949 (zKm_in q (85 * a1 + 100) x2_53704 x3_63751 x4_63904 (x5_63942 - q 0)) q (by rw [show N_63943 164 = M 164 from (funext (fun j => by rw [Fr.e hF_N_63943 kd_164 _ rfl]))]; exact hS) (by rw [show N_63943 164 = M 164 from (funext (fun j => by rw [Fr.e hF_N_63943 kd_164 _ rfl]))]; exact hU) hC hp_63950 (by omega) (by have h := (zKm_le q (85 * a1 + 100) x2_53704 x3_63751 x4_63904 (x5_63942 - q 0)).1; have w := hk_53716; omega) (by have h := (zKm_le q (85 * a1 + 100) x2_53704 x3_63751 x4_63904 (x5_63942 - q 0)).1; have w := hk_53716; omega)) kd_163 rfl rfl rfl ⟨by decide, by decide⟩ rfl rfl (Nat.le_of_ble_eq_true rfl) dX12_laysTable_141 rfl ?_
                          intro N_63953 q_63954
                          obtain ⟨hI_N_63953, hG_N_63953, hpb_N_63953⟩ := q_63954
                          have hF_N_63953 : Fr f_e_laysTable3 M N_63953 := Fr.c hF_N_63943 hG_N_63953 rfl
                          refine kx_iload_n 145 F 3 dX12_laysTable_144 rfl rfl rfl ?_
                          refine kx_iload_n 146 F 2 dX12_laysTable_145 rfl rfl rfl ?_
                          refine kx_icmp_ge 149 F 160 dX12_laysTable_146 (by decide) rfl (by omega) (by omega) (fun h_63955 => ?_) (fun h_63955 => ?_)
                          · refine kx_iinc 163 F 5 (v := x5_63942 + 1) (lo' := [some (vR G 163), some (vI a1), some (vI x2_53704), some (vI x3_63751), some (vI x4_63904), some (vI (x5_63942 + 1))]) dX12_laysTable_160 rfl (by omega) (by decide) rfl rfl rfl ?_
                            refine kx_goto 115 F dX12_laysTable_163 (by decide) ?_
                            have hp_63956 : LD N_63953  := LD.fr hp_63950 hG_N_63953 rfl rfl
                            exact ih_63946 _ (by omega) (x5_63942 + 1) N_63953 hI_N_63953 hF_N_63953 (zTRr.m0 hpb_N_63953 (by omega) (by omega) (by omega) (by omega)) hp_63956 (by omega) rfl
                          · refine kx_aload_n 150 F 0 dX12_laysTable_149 rfl rfl rfl ?_
                            refine kx_iload_n 151 F 1 dX12_laysTable_150 rfl rfl rfl ?_
                            refine kx_iload_n 152 F 3 dX12_laysTable_151 rfl rfl rfl ?_
                            refine kx_iload 154 F 5 dX12_laysTable_152 rfl rfl ?_
                            refine kx_iload_n 155 F 2 dX12_laysTable_154 rfl rfl rfl ?_
                            refine kx_iload 157 F 4 dX12_laysTable_155 rfl rfl ?_
                            have hp_63957 : LD N_63953  := LD.fr hp_63950 hG_N_63953 rfl rfl
                            refine kx_Vv 160 (ci := 0) F (As := [vI a1, vI x3_63751, vI x5_63942, vI x2_53704, vI x4_63904]) (st := []) vd_X12_418 (e_putsBack3 G l N_63953 a1 x3_63751 x5_63942 x2_53704 x4_63904 hI_N_63953 (by omega) (zBk (zks q (85 * a1 + 100)) (zKm q (85 * a1 + 100) x2_53704 x3_63751 x4_63904 (x5_63942 - q 0)) x2_53704 x3_63751 x4_63904 x5_63942) hpb_N_63953 ((zBk_le (zks q (85 * a1 + 100)) x2_53704 x3_63751 x4_63904 x5_63942 (zKm q (85 * a1 + 100) x2_53704 x3_63751 x4_63904 (x5_63942 - q 0)) (zKm_in q (85 * a1 + 100) x2_53704 x3_63751 x4_63904 (x5_63942 - q 0))).in (zKm_in q (85 * a1 + 100) x2_53704 x3_63751 x4_63904 (x5_63942 - q 0))) q (by rw [show N_63953 164 = M 164 from (funext (fun j => by rw [Fr.e hG_N_63953 kd_164 _ rfl, Fr.e hF_N_63943 kd_164 _ rfl]))]; exact hS) (by rw [show N_63953 164 = M 164 from (funext (fun j => by rw [Fr.e hG_N_63953 kd_164 _ rfl, Fr.e hF_N_63943 kd_164 _ rfl]))]; exact hU) hC hp_63957 (by omega) (by have h := (zKm_le q (85 * a1 + 100) x2_53704 x3_63751 x4_63904 (x5_63942 - q 0)).1; have w := hk_53716; have u := (zBk_le (zks q (85 * a1 + 100)) x2_53704 x3_63751 x4_63904 x5_63942 (zKm q (85 * a1 + 100) x2_53704 x3_63751 x4_63904 (x5_63942 - q 0)) (zKm_in q (85 * a1 + 100) x2_53704 x3_63751 x4_63904 (x5_63942 - q 0))).1; omega) (by have h := (zKm_le q (85 * a1 + 100) x2_53704 x3_63751 x4_63904 (x5_63942 - q 0)).1; have w := hk_53716; have u := (zBk_le (zks q (85 * a1 + 100)) x2_53704 x3_63751 x4_63904 x5_63942 (zKm q (85 * a1 + 100) x2_53704 x3_63751 x4_63904 (x5_63942 - q 0)) (zKm_in q (85 * a1 + 100) x2_53704 x3_63751 x4_63904 (x5_63942 - q 0))).1; omega)) kd_163 rfl rfl rfl ⟨by decide, by decide⟩ rfl rfl (Nat.le_of_ble_eq_true rfl) dX12_laysTable_157 rfl ?_
                            intro N_63958 q_63959
                            obtain ⟨hI_N_63958, hG_N_63958, hpb_N_63958⟩ := q_63959
                            have hF_N_63958 : Fr f_e_laysTable3 M N_63958 := Fr.c hF_N_63953 hG_N_63958 rfl
                            refine kx_iinc 163 F 5 (v := x5_63942 + 1) (lo' := [some (vR G 163), some (vI a1), some (vI x2_53704), some (vI x3_63751), some (vI x4_63904), some (vI (x5_63942 + 1))]) dX12_laysTable_160 rfl (by omega) (by decide) rfl rfl rfl ?_
                            refine kx_goto 115 F dX12_laysTable_163 (by decide) ?_
                            have hp_63960 : LD N_63958  := LD.fr hp_63957 hG_N_63958 rfl rfl
                            exact ih_63946 _ (by omega) (x5_63942 + 1) N_63958 hI_N_63958 hF_N_63958 (zTRr.m1 hpb_N_63958 (by omega) (by omega) (by omega) (by omega)) hp_63960 (by omega) rfl
                      exact L_63944 _ (M 164 0) N_63905 hI_N_63905 hF_N_63905 (zTRr.cv hp_63911 (by rw [show (M 164 0) - q 0 = 0 by omega, zKm_0])) hp_63912 (by omega) rfl
                  exact L_63906 _ 0 N_63752 hI_N_63752 hF_N_63752 (zTRr.cv hp_63758 (zKc_0 q (85 * a1 + 100) x2_53704 x3_63751)) hp_63759 (by omega) rfl
            exact L_63753 _ 0 N_62333 hI_N_62333 hF_N_62333 (zTRr.cv hp_62339 (by rw [zKj_0, show q 0 + q 1 + q 2 = x3_62332 by omega])) hp_62340 (by omega) rfl
          · refine kx_aload_n 54 F 0 dX12_laysTable_53 rfl rfl rfl ?_
            refine kx_aload_n 55 F 0 dX12_laysTable_54 rfl rfl rfl ?_
            refine kx_iload_n 56 F 1 dX12_laysTable_55 rfl rfl rfl ?_
            refine kx_iload_n 57 F 2 dX12_laysTable_56 rfl rfl rfl ?_
            refine kx_iload_n 58 F 3 dX12_laysTable_57 rfl rfl rfl ?_
            refine kx_Vi 61 (ci := 0) F (As := [vI a1, vI x2_53704, vI x3_62332]) (st := [vR G 163]) vd_X12_412 (e_nextR3 G l N_62333 a1 x2_53704 x3_62332 hI_N_62333 (by omega) q (by rw [show N_62333 164 = M 164 from (funext (fun j => by rw [Fr.e hF_N_62333 kd_164 _ rfl]))]; exact hS) (by rw [show N_62333 164 = M 164 from (funext (fun j => by rw [Fr.e hF_N_62333 kd_164 _ rfl]))]; exact hU) hC hp_62340 (by omega)) kd_163 rfl rfl rfl ⟨by decide, by decide⟩ rfl rfl (Nat.le_of_ble_eq_true rfl) dX12_laysTable_58 rfl ?_
            intro r_63961 N_63962 q_63963
            obtain ⟨rfl, q_63963c, hnr_N_63962⟩ := q_63963
            refine kx_aload_n 62 F 0 dX12_laysTable_61 rfl rfl rfl ?_
            refine kx_iload_n 63 F 1 dX12_laysTable_62 rfl rfl rfl ?_
            refine kx_iload_n 64 F 2 dX12_laysTable_63 rfl rfl rfl ?_
            refine kx_iload_n 65 F 3 dX12_laysTable_64 rfl rfl rfl ?_
            refine kx_Vi 68 (ci := 0) F (As := [vI a1, vI x2_53704, vI x3_62332]) (st := [vI r_63961, vR G 163]) vd_X12_415 (e_nextS3 G l N_62333 a1 x2_53704 x3_62332 hI_N_62333 (by omega) q (by rw [show N_62333 164 = M 164 from (funext (fun j => by rw [Fr.e hF_N_62333 kd_164 _ rfl]))]; exact hS) (by rw [show N_62333 164 = M 164 from (funext (fun j => by rw [Fr.e hF_N_62333 kd_164 _ rfl]))]; exact hU) hC hp_62340 (by omega)) kd_163 rfl rfl rfl ⟨by decide, by decide⟩ rfl rfl (Nat.le_of_ble_eq_true rfl) dX12_laysTable_65 rfl ?_
            intro r_63964 N_63965 q_63966
            obtain ⟨rfl, q_63966c, hns_N_63965⟩ := q_63966
            refine kx_Vv 71 (ci := 0) F (As := [vI r_63961, vI r_63964]) (st := []) vd_X12_409 (e_putsIn3 G l N_62333 r_63961 r_63964 hI_N_62333 (by omega) (zKl q (85 * a1 + 100) x2_53704 x3_62332) hp_62339 (zKl_in q (85 * a1 + 100) x2_53704 x3_62332)) kd_163 rfl rfl rfl ⟨by decide, by decide⟩ rfl rfl (Nat.le_of_ble_eq_true rfl) dX12_laysTable_68 rfl ?_
            intro N_63967 q_63968
            obtain ⟨hI_N_63967, hG_N_63967, hpi_N_63967⟩ := q_63968
            have hF_N_63967 : Fr f_e_laysTable3 M N_63967 := Fr.c hF_N_62333 hG_N_63967 rfl
            refine kx_iinc 74 F 3 (v := x3_62332 + 1) (lo' := [some (vR G 163), some (vI a1), some (vI x2_53704), some (vI (x3_62332 + 1)), none, none]) dX12_laysTable_71 rfl (by omega) (by decide) rfl rfl rfl ?_
            refine kx_goto 45 F dX12_laysTable_74 (by decide) ?_
            have hp_63969 : LD N_63967  := LD.fr hp_62340 hG_N_63967 rfl rfl
            exact ih_62336 _ (by omega) (x3_62332 + 1) N_63967 hI_N_63967 hF_N_63967 (zTRr.stl hp_62339 hpi_N_63967 (by omega) hk_53716 (by omega) (by omega) hnr_N_63962 hns_N_63965) hp_63969 (by omega) rfl
        exact L_62334 _ 0 N_53705 hI_N_53705 hF_N_53705 (zTRr.cv hp_53711 (zKl_0 q (85 * a1 + 100) x2_53704)) hp_53712 (by omega) rfl
  have hqb := hU.b (a := a1) (b := 85 * a1 + 100) (by omega) rfl
  have hq0 : M 164 (85 * a1 + 100) = q (85 * a1 + 100) := hqb.n (d := 0) (by decide) (by omega)
  have hq2 : M 164 (85 * a1 + 102) = q (85 * a1 + 102) := hqb.n (d := 2) (by decide) (by omega)
  have hs8 : r_12 = smeZ (q (85 * a1 + 100)) := hz_N_13.trans (congrArg smeZ (by rw [show N_6 164 = M 164 from (funext (fun j => by rw [hM_N_6, mu_k kd_164 kd_163 rfl, Fr.e hG_N_4 kd_164 _ rfl])), show (100 : Int) + 85 * a1 = 85 * a1 + 100 by omega]; exact hq0))
  have he2 : (N_6 164 (85 * a1 + 102)) = M 164 (85 * a1 + 102) := by rw [show N_6 164 = M 164 from (funext (fun j => by rw [hM_N_6, mu_k kd_164 kd_163 rfl, Fr.e hG_N_4 kd_164 _ rfl]))]
  have hp_63970 : LD N_6  := LD.st hd_N_4 hM_N_6 kd_163 rfl rfl
  have hp_63971 : LD N_18  := LD.fr hp_63970 hG_N_18 rfl rfl
  exact L_53706 _ 0 N_18 hI_N_18 hF_N_18 (zTRr.cv hpi_N_18 (by rw [zKk_0]; unfold zT0; rw [← hs8, show q (85 * a1 + 100 + 2) = (N_6 164 (85 * a1 + 102)) by rw [show 85 * a1 + 100 + 2 = 85 * a1 + 102 by omega]; omega])) hp_63971 (by omega) rfl
set_option maxHeartbeats 4000000 in
set_option maxRecDepth 100000 in
theorem e_isInTable3 (G : KG) (l : Launch) (M : Mem) (a1 : Int) (hI_M : Inv true M) (hpre : -2147483648 ≤ a1 ∧ a1 ≤ 2147483647) : KC true G l yX12_isInTable cX12_isInTable 2 (some .boolean) (0, 0) [vR G 163, vI a1] M (fun A => kQi true G A (fun (r : Int) (N : Mem) => M = N ∧ ((r = 1 ∧ 0 ≤ a1 ∧ a1 < (M 163 35)) ∨ (r = 0 ∧ a1 < 0) ∨ (r = 0 ∧ a1 ≥ (M 163 35))))) := by
  refine kx_met (lo := [some (vR G 163), some (vI a1)]) (by decide) (Nat.le_of_ble_eq_true rfl) rfl ?_
  intro X F hQ
  refine kx_iload_n 1 F 1 dX12_isInTable_0 rfl rfl rfl ?_
  refine kx_if_lt 4 F 16 dX12_isInTable_1 (by decide) rfl (by omega) (fun h_1 => ?_) (fun h_1 => ?_)
  · refine kx_iconst 17 F dX12_isInTable_16 rfl ?_
    have h_2 := Inv.g hI_M kd_163 rfl 35 (a := 0) (b := 41) rfl rfl
    exact kx_zret F hQ (by omega) ⟨rfl, (Or.inr (Or.inl (by omega)))⟩ dX12_isInTable_17
  · refine kx_iload_n 5 F 1 dX12_isInTable_4 rfl rfl rfl ?_
    refine kx_aload_n 6 F 0 dX12_isInTable_5 rfl rfl rfl ?_
    refine kx_geti 9 F fl_X12_403 kd_163 rfl rfl (j := 35) rfl dX12_isInTable_6 (v := (M 163 35)) rfl rfl ?_
    have h_3 := Inv.g hI_M kd_163 rfl 35 (a := 0) (b := 41) rfl rfl
    refine kx_icmp_ge 12 F 16 dX12_isInTable_9 (by decide) rfl (by omega) (by omega) (fun h_4 => ?_) (fun h_4 => ?_)
    · refine kx_iconst 17 F dX12_isInTable_16 rfl ?_
      exact kx_zret F hQ (by omega) ⟨rfl, (Or.inr (Or.inr (by omega)))⟩ dX12_isInTable_17
    · refine kx_iconst 13 F dX12_isInTable_12 rfl ?_
      refine kx_goto 17 F dX12_isInTable_13 (by decide) ?_
      exact kx_zret F hQ (by omega) ⟨rfl, (Or.inl (by omega))⟩ dX12_isInTable_17
abbrev f_e_table3m : List (Nat × Int) := [(64, 2), (64, 35), (72, -1), (81, -1), (82, -1)]
set_option maxHeartbeats 4000000 in
set_option maxRecDepth 100000 in
theorem e_table3m (G : KG) (l : Launch) (M : Mem) (a1 : Int) (hI_M : Inv true M) (hpre : -2147483648 ≤ a1 ∧ a1 ≤ 2147483647) (q : Int → Int) (hS : zRN (M 164) q) (hU : zRU (M 164) q) (hC : zQC q) : KC true G l yX12_table cX12_table 2 (some .int) (5, 126) [vR G 163, vI a1] M (fun A => kQi true G A (fun (r : Int) (N : Mem) => Inv true N ∧ Fr f_e_table3m M N ∧ (r ≥ -2147483648 ∧ r ≤ 2147483647) ∧ (zTBL q a1 r))) := by
  refine kx_met (lo := [some (vR G 163), some (vI a1)]) (by decide) (Nat.le_of_ble_eq_true rfl) rfl ?_
  intro X F hQ
  have hF_M : Fr f_e_table3m M M := Fr.rf _ _
  have hSn := hS.u
  have h_1 := Inv.g hI_M kd_164 rfl 0 (a := 0) (b := 2) (at_c 0 0 (o := 0) (lo := 0) (hi := 2) (by omega) (by decide) (by decide) (by decide)).1 (at_c 0 0 (o := 0) (lo := 0) (hi := 2) (by omega) (by decide) (by decide) (by decide)).2
  have h_2 := Inv.g hI_M kd_164 rfl 1 (a := 0) (b := 2) (at_c 1 0 (o := 1) (lo := 0) (hi := 2) (by omega) (by decide) (by decide) (by decide)).1 (at_c 1 0 (o := 1) (lo := 0) (hi := 2) (by omega) (by decide) (by decide) (by decide)).2
  have h_3 := Inv.g hI_M kd_164 rfl 2 (a := 0) (b := 2) (at_c 2 0 (o := 2) (lo := 0) (hi := 2) (by omega) (by decide) (by decide) (by decide)).1 (at_c 2 0 (o := 2) (lo := 0) (hi := 2) (by omega) (by decide) (by decide) (by decide)).2
  have ha_4 : atlo 3 = 0 ∧ athi 3 = 2 := at_c 3 0 (o := 3) (lo := 0) (hi := 2) (by omega) (by decide) (by decide) (by decide)
  have h_5 := Inv.g hI_M kd_164 rfl 3 (a := 0) (b := 2) ha_4.1 ha_4.2
  refine kx_aload_n 1 F 0 dX12_table_0 rfl rfl rfl ?_
  refine kx_iload_n 2 F 1 dX12_table_1 rfl rfl rfl ?_
  refine kx_Vi 5 (ci := 0) F (As := [vI a1]) (st := []) vd_X12_282 (e_X12_isAutomaton G l M a1 hI_M (by omega)) kd_163 rfl rfl rfl ⟨by decide, by decide⟩ rfl rfl (Nat.le_of_ble_eq_true rfl) dX12_table_2 rfl ?_
  intro r_6 N_7 q_8
  obtain ⟨rfl, q_8c⟩ := q_8
  rcases q_8c with q_8c | q_8c | q_8c
  · refine kx_if_ne 8 F 14 dX12_table_5 (by decide) rfl (by omega) (fun h_9 => ?_) (fun h_9 => (by exfalso; omega))
    refine kx_aload_n 15 F 0 dX12_table_14 rfl rfl rfl ?_
    refine kx_iload_n 16 F 1 dX12_table_15 rfl rfl rfl ?_
    refine kx_Vi 19 (ci := 0) F (As := [vI a1]) (st := []) vd_X12_422 (e_laysTable3 G l M a1 hI_M (by omega) q hS hU hC (by omega)) kd_163 rfl rfl rfl ⟨by decide, by decide⟩ rfl rfl (Nat.le_of_ble_eq_true rfl) dX12_table_16 rfl ?_
    intro r_10 N_11 q_12
    obtain ⟨hI_N_11, hG_N_11, q_12c, ⟨hlt_N_11, hld_N_11, hlr_N_11⟩⟩ := q_12
    have hF_N_11 : Fr f_e_table3m M N_11 := Fr.c hF_M hG_N_11 rfl
    have hpn_N_11 := hlt_N_11.1
    refine kx_if_eq 22 F 33 dX12_table_19 (by decide) rfl (by omega) (fun h_13 => ?_) (fun h_13 => ?_)
    · refine kx_aload_n 34 F 0 dX12_table_33 rfl rfl rfl ?_
      refine kx_bipush 36 F dX12_table_34 (by decide) rfl ?_
      refine kx_Vi 39 (ci := 0) F (As := [vI 7]) (st := []) vd_X12_123 (c_X12_refuse G l N_11 7 hI_N_11 (by omega)) kd_163 rfl rfl rfl ⟨by decide, by decide⟩ rfl rfl (Nat.le_of_ble_eq_true rfl) dX12_table_36 rfl ?_
      intro r_14 N_15 q_16
      obtain ⟨hI_N_15, hG_N_15, q_16c⟩ := q_16
      have hF_N_15 : Fr f_e_table3m M N_15 := Fr.c hF_N_11 hG_N_15 rfl
      subst q_16c
      exact kx_iret F hQ ⟨hI_N_15, hF_N_15, (by omega), (Or.inr ⟨fun h => by have h3 := h.2.2; omega, by omega⟩)⟩ dX12_table_39
    · refine kx_aload_n 23 F 0 dX12_table_22 rfl rfl rfl ?_
      refine kx_aload_n 24 F 0 dX12_table_23 rfl rfl rfl ?_
      refine kx_geti 27 F fl_X12_403 kd_163 rfl rfl (j := 35) rfl dX12_table_24 (v := (N_11 163 35)) rfl rfl ?_
      have h_17 := Inv.g hI_N_11 kd_163 rfl 35 (a := 0) (b := 41) rfl rfl
      refine kx_Vi 30 (ci := 0) F (As := [vI (N_11 163 35)]) (st := []) vd_X12_127 (c_X12_gives G l N_11 (N_11 163 35) hI_N_11 (by omega)) kd_163 rfl rfl rfl ⟨by decide, by decide⟩ rfl rfl (Nat.le_of_ble_eq_true rfl) dX12_table_27 rfl ?_
      intro r_18 N_19 q_20
      obtain ⟨hI_N_19, hG_N_19, q_20c⟩ := q_20
      have hF_N_19 : Fr f_e_table3m M N_19 := Fr.c hF_N_11 hG_N_19 rfl
      refine kx_topi (e' := (N_11 163 35)) (by omega) ?_
      refine kx_goto 39 F dX12_table_30 (by decide) ?_
      exact kx_iret F hQ ⟨hI_N_19, hF_N_19, (by omega), (Or.inl ⟨⟨by omega, by omega, by omega⟩, by omega⟩)⟩ dX12_table_39
  · refine kx_if_ne 8 F 14 dX12_table_5 (by decide) rfl (by omega) (fun h_21 => (by exfalso; omega)) (fun h_21 => ?_)
    refine kx_aload_n 9 F 0 dX12_table_8 rfl rfl rfl ?_
    refine kx_iconst 10 F dX12_table_9 rfl ?_
    refine kx_Vi 13 (ci := 0) F (As := [vI 1]) (st := []) vd_X12_123 (c_X12_refuse G l M 1 hI_M (by omega)) kd_163 rfl rfl rfl ⟨by decide, by decide⟩ rfl rfl (Nat.le_of_ble_eq_true rfl) dX12_table_10 rfl ?_
    intro r_22 N_23 q_24
    obtain ⟨hI_N_23, hG_N_23, q_24c⟩ := q_24
    have hF_N_23 : Fr f_e_table3m M N_23 := Fr.c hF_M hG_N_23 rfl
    subst q_24c
    exact kx_iret F hQ ⟨hI_N_23, hF_N_23, (by omega), (Or.inr ⟨fun h => by have h1 := h.1; have h2 := h.2.1; omega, by omega⟩)⟩ dX12_table_13
  · refine kx_if_ne 8 F 14 dX12_table_5 (by decide) rfl (by omega) (fun h_25 => (by exfalso; omega)) (fun h_25 => ?_)
    refine kx_aload_n 9 F 0 dX12_table_8 rfl rfl rfl ?_
    refine kx_iconst 10 F dX12_table_9 rfl ?_
    refine kx_Vi 13 (ci := 0) F (As := [vI 1]) (st := []) vd_X12_123 (c_X12_refuse G l M 1 hI_M (by omega)) kd_163 rfl rfl rfl ⟨by decide, by decide⟩ rfl rfl (Nat.le_of_ble_eq_true rfl) dX12_table_10 rfl ?_
    intro r_26 N_27 q_28
    obtain ⟨hI_N_27, hG_N_27, q_28c⟩ := q_28
    have hF_N_27 : Fr f_e_table3m M N_27 := Fr.c hF_M hG_N_27 rfl
    subst q_28c
    exact kx_iret F hQ ⟨hI_N_27, hF_N_27, (by omega), (Or.inr ⟨fun h => by have h1 := h.1; have h2 := h.2.1; omega, by omega⟩)⟩ dX12_table_13
abbrev f_e_summary3m : List (Nat × Int) := [(64, 2), (64, 35), (72, -1), (81, -1), (82, -1)]
set_option maxHeartbeats 4000000 in
set_option maxRecDepth 100000 in
theorem e_summary3m (G : KG) (l : Launch) (M : Mem) (a1 : Int) (a2 : Int) (a3 : Int) (hI_M : Inv true M) (hpre : -2147483648 ≤ a1 ∧ a1 ≤ 2147483647 ∧ -2147483648 ≤ a2 ∧ a2 ≤ 2147483647 ∧ -2147483648 ≤ a3 ∧ a3 ≤ 2147483647) (q : Int → Int) (hS : zRN (M 164) q) (hU : zRU (M 164) q) (hC : zQC q) : KC true G l yX12_summary cX12_summary 4 (some .int) (5, 126) [vR G 163, vI a1, vI a2, vI a3] M (fun A => kQi true G A (fun (r : Int) (N : Mem) => Inv true N ∧ Fr f_e_summary3m M N ∧ (r ≥ -2147483648 ∧ r ≤ 2147483647) ∧ (zSUM q a1 a2 a3 r))) := by
  refine kx_met (lo := [some (vR G 163), some (vI a1), some (vI a2), some (vI a3)]) (by decide) (Nat.le_of_ble_eq_true rfl) rfl ?_
  intro X F hQ
  have hF_M : Fr f_e_summary3m M M := Fr.rf _ _
  have hSn := hS.u
  have h_1 := Inv.g hI_M kd_164 rfl 0 (a := 0) (b := 2) (at_c 0 0 (o := 0) (lo := 0) (hi := 2) (by omega) (by decide) (by decide) (by decide)).1 (at_c 0 0 (o := 0) (lo := 0) (hi := 2) (by omega) (by decide) (by decide) (by decide)).2
  have h_2 := Inv.g hI_M kd_164 rfl 1 (a := 0) (b := 2) (at_c 1 0 (o := 1) (lo := 0) (hi := 2) (by omega) (by decide) (by decide) (by decide)).1 (at_c 1 0 (o := 1) (lo := 0) (hi := 2) (by omega) (by decide) (by decide) (by decide)).2
  have h_3 := Inv.g hI_M kd_164 rfl 2 (a := 0) (b := 2) (at_c 2 0 (o := 2) (lo := 0) (hi := 2) (by omega) (by decide) (by decide) (by decide)).1 (at_c 2 0 (o := 2) (lo := 0) (hi := 2) (by omega) (by decide) (by decide) (by decide)).2
  have ha_4 : atlo 3 = 0 ∧ athi 3 = 2 := at_c 3 0 (o := 3) (lo := 0) (hi := 2) (by omega) (by decide) (by decide) (by decide)
  have h_5 := Inv.g hI_M kd_164 rfl 3 (a := 0) (b := 2) ha_4.1 ha_4.2
  refine kx_aload_n 1 F 0 dX12_summary_0 rfl rfl rfl ?_
  refine kx_iload_n 2 F 1 dX12_summary_1 rfl rfl rfl ?_
  refine kx_Vi 5 (ci := 0) F (As := [vI a1]) (st := []) vd_X12_282 (e_X12_isAutomaton G l M a1 hI_M (by omega)) kd_163 rfl rfl rfl ⟨by decide, by decide⟩ rfl rfl (Nat.le_of_ble_eq_true rfl) dX12_summary_2 rfl ?_
  intro r_6 N_7 q_8
  obtain ⟨rfl, q_8c⟩ := q_8
  rcases q_8c with q_8c | q_8c | q_8c
  · refine kx_if_eq 8 F 17 dX12_summary_5 (by decide) rfl (by omega) (fun h_9 => (by exfalso; omega)) (fun h_9 => ?_)
    refine kx_iload_n 9 F 3 dX12_summary_8 rfl rfl rfl ?_
    refine kx_if_lt 12 F 17 dX12_summary_9 (by decide) rfl (by omega) (fun h_10 => ?_) (fun h_10 => ?_)
    · refine kx_aload_n 18 F 0 dX12_summary_17 rfl rfl rfl ?_
      refine kx_iconst 19 F dX12_summary_18 rfl ?_
      refine kx_Vi 22 (ci := 0) F (As := [vI 1]) (st := []) vd_X12_123 (c_X12_refuse G l M 1 hI_M (by omega)) kd_163 rfl rfl rfl ⟨by decide, by decide⟩ rfl rfl (Nat.le_of_ble_eq_true rfl) dX12_summary_19 rfl ?_
      intro r_11 N_12 q_13
      obtain ⟨hI_N_12, hG_N_12, q_13c⟩ := q_13
      have hF_N_12 : Fr f_e_summary3m M N_12 := Fr.c hF_M hG_N_12 rfl
      subst q_13c
      exact kx_iret F hQ ⟨hI_N_12, hF_N_12, (by omega), (Or.inr ⟨fun h => by skip; have h4 := h.1; have h5 := h.2.1; have h1 := h.2.2.1.1; have h2 := h.2.2.1.2.1; have h3 := h.2.2.1.2.2; have h6 := h.2.2.2.1; have h7 := h.2.2.2.2; omega, by omega⟩)⟩ dX12_summary_22
    · refine kx_iload_n 13 F 3 dX12_summary_12 rfl rfl rfl ?_
      refine kx_iconst 14 F dX12_summary_13 rfl ?_
      refine kx_icmp_le 17 F 23 dX12_summary_14 (by decide) rfl (by omega) (by decide) (fun h_14 => ?_) (fun h_14 => ?_)
      · refine kx_aload_n 24 F 0 dX12_summary_23 rfl rfl rfl ?_
        refine kx_iload_n 25 F 1 dX12_summary_24 rfl rfl rfl ?_
        refine kx_Vi 28 (ci := 0) F (As := [vI a1]) (st := []) vd_X12_422 (e_laysTable3 G l M a1 hI_M (by omega) q hS hU hC (by omega)) kd_163 rfl rfl rfl ⟨by decide, by decide⟩ rfl rfl (Nat.le_of_ble_eq_true rfl) dX12_summary_25 rfl ?_
        intro r_15 N_16 q_17
        obtain ⟨hI_N_16, hG_N_16, q_17c, ⟨hlt_N_16, hld_N_16, hlr_N_16⟩⟩ := q_17
        have hF_N_16 : Fr f_e_summary3m M N_16 := Fr.c hF_M hG_N_16 rfl
        have hpn_N_16 := hlt_N_16.1
        refine kx_if_ne 31 F 38 dX12_summary_28 (by decide) rfl (by omega) (fun h_18 => ?_) (fun h_18 => ?_)
        · refine kx_aload_n 39 F 0 dX12_summary_38 rfl rfl rfl ?_
          refine kx_iload_n 40 F 2 dX12_summary_39 rfl rfl rfl ?_
          refine kx_Vi 43 (ci := 0) F (As := [vI a2]) (st := []) vd_X12_425 (e_isInTable3 G l N_16 a2 hI_N_16 (by omega)) kd_163 rfl rfl rfl ⟨by decide, by decide⟩ rfl rfl (Nat.le_of_ble_eq_true rfl) dX12_summary_40 rfl ?_
          intro r_19 N_20 q_21
          obtain ⟨rfl, q_21c⟩ := q_21
          have h_22 := Inv.g hI_N_16 kd_163 rfl 35 (a := 0) (b := 41) rfl rfl
          rcases q_21c with q_21c | q_21c | q_21c
          · refine kx_if_ne 46 F 53 dX12_summary_43 (by decide) rfl (by omega) (fun h_24 => ?_) (fun h_24 => (by exfalso; omega))
            refine kx_aload_n 54 F 0 dX12_summary_53 rfl rfl rfl ?_
            refine kx_iload_n 55 F 3 dX12_summary_54 rfl rfl rfl ?_
            refine kx_if_ne 58 F 67 dX12_summary_55 (by decide) rfl (by omega) (fun h_25 => ?_) (fun h_25 => ?_)
            · refine kx_iload_n 68 F 3 dX12_summary_67 rfl rfl rfl ?_
              refine kx_iconst 69 F dX12_summary_68 rfl ?_
              refine kx_icmp_ne 72 F 81 dX12_summary_69 (by decide) rfl (by omega) (by decide) (fun h_26 => ?_) (fun h_26 => ?_)
              · refine kx_aload_n 82 F 0 dX12_summary_81 rfl rfl rfl ?_
                refine kx_getr 85 F fl_X12_74 kd_163 rfl rfl (j := 33) rfl dX12_summary_82 (v := 181) (uq_181 (Inv.r hI_N_16 kd_163 rfl 33 rfl rfl)) rfl ?_
                refine kx_iload_n 86 F 2 dX12_summary_85 rfl rfl rfl ?_
                refine kx_iald 87 F kd_181 rfl rfl (by omega) (by decide) dX12_summary_86 (v := (N_16 181 a2)) rfl rfl ?_
                have h_27 := Inv.g hI_N_16 kd_181 rfl a2 (a := 0) (b := 7) rfl rfl
                refine kx_aload_n 88 F 0 dX12_summary_87 rfl rfl rfl ?_
                refine kx_iload_n 89 F 1 dX12_summary_88 rfl rfl rfl ?_
                refine kx_iconst 90 F dX12_summary_89 rfl ?_
                refine kx_Vi 93 (ci := 0) F (As := [vI a1, vI 3]) (st := [vI (N_16 181 a2), vR G 163]) vd_X12_288 (e_of3 G l N_16 a1 3 hI_N_16 (by omega)) kd_163 rfl rfl rfl ⟨by decide, by decide⟩ rfl rfl (Nat.le_of_ble_eq_true rfl) dX12_summary_90 rfl ?_
                intro r_28 N_29 q_30
                obtain ⟨rfl, q_30c⟩ := q_30
                have e_31 : (N_16 164 (85 * a1 + 103)) = (M 164 (85 * a1 + 103)) := by rw [Fr.e hG_N_16 kd_164 _ rfl]
                refine kx_topi (e' := (N_16 164 (85 * a1 + 103))) (by omega) ?_
                refine kx_iand 94 F (v := (zand (N_16 181 a2) (N_16 164 (85 * a1 + 103)))) dX12_summary_93 rfl rfl ?_
                have h_33 := zand_r (a := (N_16 181 a2)) (b := (N_16 164 (85 * a1 + 103))) (by omega)
                refine kx_if_eq 97 F 101 dX12_summary_94 (by decide) rfl (by omega) (fun h_34 => ?_) (fun h_34 => ?_)
                · refine kx_iconst 102 F dX12_summary_101 rfl ?_
                  refine kx_Vi 105 (ci := 0) F (As := [vI 0]) (st := []) vd_X12_127 (c_X12_gives G l N_16 0 hI_N_16 (by omega)) kd_163 rfl rfl rfl ⟨by decide, by decide⟩ rfl rfl (Nat.le_of_ble_eq_true rfl) dX12_summary_102 rfl ?_
                  intro r_35 N_36 q_37
                  obtain ⟨hI_N_36, hG_N_36, q_37c⟩ := q_37
                  have hF_N_36 : Fr f_e_summary3m M N_36 := Fr.c hF_N_16 hG_N_36 rfl
                  refine kx_topi (e' := 0) (by omega) ?_
                  have hat := hlt_N_16.2 a2 (by omega) (by omega)
                  have hq3 : N_16 164 (85 * a1 + 103) = q (85 * a1 + 103) := by rw [show N_16 164 = M 164 from (funext (fun j => by rw [Fr.e hG_N_16 kd_164 _ rfl]))]; exact (hU.b (a := a1) (b := (85 * a1 + 100)) ⟨by omega, by omega, by omega⟩ rfl).n (d := 3) (by decide) (by omega)
                  have hzw : (zand (N_16 181 a2) (N_16 164 (85 * a1 + 103))) = zand ((zTQA q (85 * a1 + 100)).2.1 a2) (q (85 * a1 + 103)) := by rw [hq3, hat.1]
                  exact kx_iret F hQ ⟨hI_N_36, hF_N_36, (by omega), (Or.inl ⟨⟨by omega, by omega, ⟨by omega, by omega, by omega⟩, by omega, by omega⟩, Or.inr (Or.inr ⟨by omega, Or.inr ⟨by omega, by omega⟩⟩)⟩)⟩ dX12_summary_105
                · refine kx_iconst 98 F dX12_summary_97 rfl ?_
                  refine kx_goto 102 F dX12_summary_98 (by decide) ?_
                  refine kx_Vi 105 (ci := 0) F (As := [vI 1]) (st := []) vd_X12_127 (c_X12_gives G l N_16 1 hI_N_16 (by omega)) kd_163 rfl rfl rfl ⟨by decide, by decide⟩ rfl rfl (Nat.le_of_ble_eq_true rfl) dX12_summary_102 rfl ?_
                  intro r_38 N_39 q_40
                  obtain ⟨hI_N_39, hG_N_39, q_40c⟩ := q_40
                  have hF_N_39 : Fr f_e_summary3m M N_39 := Fr.c hF_N_16 hG_N_39 rfl
                  refine kx_topi (e' := 1) (by omega) ?_
                  have hat := hlt_N_16.2 a2 (by omega) (by omega)
                  have hq3 : N_16 164 (85 * a1 + 103) = q (85 * a1 + 103) := by rw [show N_16 164 = M 164 from (funext (fun j => by rw [Fr.e hG_N_16 kd_164 _ rfl]))]; exact (hU.b (a := a1) (b := (85 * a1 + 100)) ⟨by omega, by omega, by omega⟩ rfl).n (d := 3) (by decide) (by omega)
                  have hzw : (zand (N_16 181 a2) (N_16 164 (85 * a1 + 103))) = zand ((zTQA q (85 * a1 + 100)).2.1 a2) (q (85 * a1 + 103)) := by rw [hq3, hat.1]
                  exact kx_iret F hQ ⟨hI_N_39, hF_N_39, (by omega), (Or.inl ⟨⟨by omega, by omega, ⟨by omega, by omega, by omega⟩, by omega, by omega⟩, Or.inr (Or.inr ⟨by omega, Or.inl ⟨by omega, by omega⟩⟩)⟩)⟩ dX12_summary_105
              · refine kx_aload_n 73 F 0 dX12_summary_72 rfl rfl rfl ?_
                refine kx_getr 76 F fl_X12_77 kd_163 rfl rfl (j := 34) rfl dX12_summary_73 (v := 182) (uq_182 (Inv.r hI_N_16 kd_163 rfl 34 rfl rfl)) rfl ?_
                refine kx_iload_n 77 F 2 dX12_summary_76 rfl rfl rfl ?_
                refine kx_iald 78 F kd_182 rfl rfl (by omega) (by decide) dX12_summary_77 (v := (N_16 182 a2)) rfl rfl ?_
                have h_41 := Inv.g hI_N_16 kd_182 rfl a2 (a := 0) (b := 511) rfl rfl
                refine kx_goto 102 F dX12_summary_78 (by decide) ?_
                refine kx_Vi 105 (ci := 0) F (As := [vI (N_16 182 a2)]) (st := []) vd_X12_127 (c_X12_gives G l N_16 (N_16 182 a2) hI_N_16 (by omega)) kd_163 rfl rfl rfl ⟨by decide, by decide⟩ rfl rfl (Nat.le_of_ble_eq_true rfl) dX12_summary_102 rfl ?_
                intro r_42 N_43 q_44
                obtain ⟨hI_N_43, hG_N_43, q_44c⟩ := q_44
                have hF_N_43 : Fr f_e_summary3m M N_43 := Fr.c hF_N_16 hG_N_43 rfl
                refine kx_topi (e' := (N_16 182 a2)) (by omega) ?_
                have hat := hlt_N_16.2 a2 (by omega) (by omega)
                exact kx_iret F hQ ⟨hI_N_43, hF_N_43, (by omega), (Or.inl ⟨⟨by omega, by omega, ⟨by omega, by omega, by omega⟩, by omega, by omega⟩, Or.inr (Or.inl ⟨by omega, by omega⟩)⟩)⟩ dX12_summary_105
            · refine kx_aload_n 59 F 0 dX12_summary_58 rfl rfl rfl ?_
              refine kx_getr 62 F fl_X12_74 kd_163 rfl rfl (j := 33) rfl dX12_summary_59 (v := 181) (uq_181 (Inv.r hI_N_16 kd_163 rfl 33 rfl rfl)) rfl ?_
              refine kx_iload_n 63 F 2 dX12_summary_62 rfl rfl rfl ?_
              refine kx_iald 64 F kd_181 rfl rfl (by omega) (by decide) dX12_summary_63 (v := (N_16 181 a2)) rfl rfl ?_
              have h_45 := Inv.g hI_N_16 kd_181 rfl a2 (a := 0) (b := 7) rfl rfl
              refine kx_goto 102 F dX12_summary_64 (by decide) ?_
              refine kx_Vi 105 (ci := 0) F (As := [vI (N_16 181 a2)]) (st := []) vd_X12_127 (c_X12_gives G l N_16 (N_16 181 a2) hI_N_16 (by omega)) kd_163 rfl rfl rfl ⟨by decide, by decide⟩ rfl rfl (Nat.le_of_ble_eq_true rfl) dX12_summary_102 rfl ?_
              intro r_46 N_47 q_48
              obtain ⟨hI_N_47, hG_N_47, q_48c⟩ := q_48
              have hF_N_47 : Fr f_e_summary3m M N_47 := Fr.c hF_N_16 hG_N_47 rfl
              refine kx_topi (e' := (N_16 181 a2)) (by omega) ?_
              have hat := hlt_N_16.2 a2 (by omega) (by omega)
              exact kx_iret F hQ ⟨hI_N_47, hF_N_47, (by omega), (Or.inl ⟨⟨by omega, by omega, ⟨by omega, by omega, by omega⟩, by omega, by omega⟩, Or.inl ⟨by omega, by omega⟩⟩)⟩ dX12_summary_105
          · refine kx_if_ne 46 F 53 dX12_summary_43 (by decide) rfl (by omega) (fun h_49 => (by exfalso; omega)) (fun h_49 => ?_)
            refine kx_aload_n 47 F 0 dX12_summary_46 rfl rfl rfl ?_
            refine kx_bipush 49 F dX12_summary_47 (by decide) rfl ?_
            refine kx_Vi 52 (ci := 0) F (As := [vI 6]) (st := []) vd_X12_123 (c_X12_refuse G l N_16 6 hI_N_16 (by omega)) kd_163 rfl rfl rfl ⟨by decide, by decide⟩ rfl rfl (Nat.le_of_ble_eq_true rfl) dX12_summary_49 rfl ?_
            intro r_50 N_51 q_52
            obtain ⟨hI_N_51, hG_N_51, q_52c⟩ := q_52
            have hF_N_51 : Fr f_e_summary3m M N_51 := Fr.c hF_N_16 hG_N_51 rfl
            subst q_52c
            exact kx_iret F hQ ⟨hI_N_51, hF_N_51, (by omega), (Or.inr ⟨fun h => by skip; have h4 := h.1; have h5 := h.2.1; have h1 := h.2.2.1.1; have h2 := h.2.2.1.2.1; have h3 := h.2.2.1.2.2; have h6 := h.2.2.2.1; have h7 := h.2.2.2.2; omega, by omega⟩)⟩ dX12_summary_52
          · refine kx_if_ne 46 F 53 dX12_summary_43 (by decide) rfl (by omega) (fun h_53 => (by exfalso; omega)) (fun h_53 => ?_)
            refine kx_aload_n 47 F 0 dX12_summary_46 rfl rfl rfl ?_
            refine kx_bipush 49 F dX12_summary_47 (by decide) rfl ?_
            refine kx_Vi 52 (ci := 0) F (As := [vI 6]) (st := []) vd_X12_123 (c_X12_refuse G l N_16 6 hI_N_16 (by omega)) kd_163 rfl rfl rfl ⟨by decide, by decide⟩ rfl rfl (Nat.le_of_ble_eq_true rfl) dX12_summary_49 rfl ?_
            intro r_54 N_55 q_56
            obtain ⟨hI_N_55, hG_N_55, q_56c⟩ := q_56
            have hF_N_55 : Fr f_e_summary3m M N_55 := Fr.c hF_N_16 hG_N_55 rfl
            subst q_56c
            exact kx_iret F hQ ⟨hI_N_55, hF_N_55, (by omega), (Or.inr ⟨fun h => by skip; have h4 := h.1; have h5 := h.2.1; have h1 := h.2.2.1.1; have h2 := h.2.2.1.2.1; have h3 := h.2.2.1.2.2; have h6 := h.2.2.2.1; have h7 := h.2.2.2.2; omega, by omega⟩)⟩ dX12_summary_52
        · refine kx_aload_n 32 F 0 dX12_summary_31 rfl rfl rfl ?_
          refine kx_bipush 34 F dX12_summary_32 (by decide) rfl ?_
          refine kx_Vi 37 (ci := 0) F (As := [vI 7]) (st := []) vd_X12_123 (c_X12_refuse G l N_16 7 hI_N_16 (by omega)) kd_163 rfl rfl rfl ⟨by decide, by decide⟩ rfl rfl (Nat.le_of_ble_eq_true rfl) dX12_summary_34 rfl ?_
          intro r_57 N_58 q_59
          obtain ⟨hI_N_58, hG_N_58, q_59c⟩ := q_59
          have hF_N_58 : Fr f_e_summary3m M N_58 := Fr.c hF_N_16 hG_N_58 rfl
          subst q_59c
          exact kx_iret F hQ ⟨hI_N_58, hF_N_58, (by omega), (Or.inr ⟨fun h => by skip; have h4 := h.1; have h5 := h.2.1; have h1 := h.2.2.1.1; have h2 := h.2.2.1.2.1; have h3 := h.2.2.1.2.2; have h6 := h.2.2.2.1; have h7 := h.2.2.2.2; omega, by omega⟩)⟩ dX12_summary_37
      · refine kx_aload_n 18 F 0 dX12_summary_17 rfl rfl rfl ?_
        refine kx_iconst 19 F dX12_summary_18 rfl ?_
        refine kx_Vi 22 (ci := 0) F (As := [vI 1]) (st := []) vd_X12_123 (c_X12_refuse G l M 1 hI_M (by omega)) kd_163 rfl rfl rfl ⟨by decide, by decide⟩ rfl rfl (Nat.le_of_ble_eq_true rfl) dX12_summary_19 rfl ?_
        intro r_60 N_61 q_62
        obtain ⟨hI_N_61, hG_N_61, q_62c⟩ := q_62
        have hF_N_61 : Fr f_e_summary3m M N_61 := Fr.c hF_M hG_N_61 rfl
        subst q_62c
        exact kx_iret F hQ ⟨hI_N_61, hF_N_61, (by omega), (Or.inr ⟨fun h => by skip; have h4 := h.1; have h5 := h.2.1; have h1 := h.2.2.1.1; have h2 := h.2.2.1.2.1; have h3 := h.2.2.1.2.2; have h6 := h.2.2.2.1; have h7 := h.2.2.2.2; omega, by omega⟩)⟩ dX12_summary_22
  · refine kx_if_eq 8 F 17 dX12_summary_5 (by decide) rfl (by omega) (fun h_63 => ?_) (fun h_63 => (by exfalso; omega))
    refine kx_aload_n 18 F 0 dX12_summary_17 rfl rfl rfl ?_
    refine kx_iconst 19 F dX12_summary_18 rfl ?_
    refine kx_Vi 22 (ci := 0) F (As := [vI 1]) (st := []) vd_X12_123 (c_X12_refuse G l M 1 hI_M (by omega)) kd_163 rfl rfl rfl ⟨by decide, by decide⟩ rfl rfl (Nat.le_of_ble_eq_true rfl) dX12_summary_19 rfl ?_
    intro r_64 N_65 q_66
    obtain ⟨hI_N_65, hG_N_65, q_66c⟩ := q_66
    have hF_N_65 : Fr f_e_summary3m M N_65 := Fr.c hF_M hG_N_65 rfl
    subst q_66c
    exact kx_iret F hQ ⟨hI_N_65, hF_N_65, (by omega), (Or.inr ⟨fun h => by skip; have h4 := h.1; have h5 := h.2.1; have h1 := h.2.2.1.1; have h2 := h.2.2.1.2.1; have h3 := h.2.2.1.2.2; have h6 := h.2.2.2.1; have h7 := h.2.2.2.2; omega, by omega⟩)⟩ dX12_summary_22
  · refine kx_if_eq 8 F 17 dX12_summary_5 (by decide) rfl (by omega) (fun h_67 => ?_) (fun h_67 => (by exfalso; omega))
    refine kx_aload_n 18 F 0 dX12_summary_17 rfl rfl rfl ?_
    refine kx_iconst 19 F dX12_summary_18 rfl ?_
    refine kx_Vi 22 (ci := 0) F (As := [vI 1]) (st := []) vd_X12_123 (c_X12_refuse G l M 1 hI_M (by omega)) kd_163 rfl rfl rfl ⟨by decide, by decide⟩ rfl rfl (Nat.le_of_ble_eq_true rfl) dX12_summary_19 rfl ?_
    intro r_68 N_69 q_70
    obtain ⟨hI_N_69, hG_N_69, q_70c⟩ := q_70
    have hF_N_69 : Fr f_e_summary3m M N_69 := Fr.c hF_M hG_N_69 rfl
    subst q_70c
    exact kx_iret F hQ ⟨hI_N_69, hF_N_69, (by omega), (Or.inr ⟨fun h => by skip; have h4 := h.1; have h5 := h.2.1; have h1 := h.2.2.1.1; have h2 := h.2.2.1.2.1; have h3 := h.2.2.1.2.2; have h6 := h.2.2.2.1; have h7 := h.2.2.2.2; omega, by omega⟩)⟩ dX12_summary_22
abbrev f_e_next3m : List (Nat × Int) := [(64, 2), (64, 35), (72, -1), (81, -1), (82, -1)]
set_option maxHeartbeats 4000000 in
set_option maxRecDepth 100000 in
theorem e_next3m (G : KG) (l : Launch) (M : Mem) (a1 : Int) (a2 : Int) (a3 : Int) (hI_M : Inv true M) (hpre : -2147483648 ≤ a1 ∧ a1 ≤ 2147483647 ∧ -2147483648 ≤ a2 ∧ a2 ≤ 2147483647 ∧ -2147483648 ≤ a3 ∧ a3 ≤ 2147483647) (q : Int → Int) (hS : zRN (M 164) q) (hU : zRU (M 164) q) (hC : zQC q) : KC true G l yX12_next cX12_next 4 (some .int) (5, 126) [vR G 163, vI a1, vI a2, vI a3] M (fun A => kQi true G A (fun (r : Int) (N : Mem) => Inv true N ∧ Fr f_e_next3m M N ∧ (r ≥ -2147483648 ∧ r ≤ 2147483647) ∧ (zNXT q a1 a2 a3 r))) := by
  refine kx_met (lo := [some (vR G 163), some (vI a1), some (vI a2), some (vI a3)]) (by decide) (Nat.le_of_ble_eq_true rfl) rfl ?_
  intro X F hQ
  have hF_M : Fr f_e_next3m M M := Fr.rf _ _
  have hSn := hS.u
  have h_1 := Inv.g hI_M kd_164 rfl 0 (a := 0) (b := 2) (at_c 0 0 (o := 0) (lo := 0) (hi := 2) (by omega) (by decide) (by decide) (by decide)).1 (at_c 0 0 (o := 0) (lo := 0) (hi := 2) (by omega) (by decide) (by decide) (by decide)).2
  have h_2 := Inv.g hI_M kd_164 rfl 1 (a := 0) (b := 2) (at_c 1 0 (o := 1) (lo := 0) (hi := 2) (by omega) (by decide) (by decide) (by decide)).1 (at_c 1 0 (o := 1) (lo := 0) (hi := 2) (by omega) (by decide) (by decide) (by decide)).2
  have h_3 := Inv.g hI_M kd_164 rfl 2 (a := 0) (b := 2) (at_c 2 0 (o := 2) (lo := 0) (hi := 2) (by omega) (by decide) (by decide) (by decide)).1 (at_c 2 0 (o := 2) (lo := 0) (hi := 2) (by omega) (by decide) (by decide) (by decide)).2
  have ha_4 : atlo 3 = 0 ∧ athi 3 = 2 := at_c 3 0 (o := 3) (lo := 0) (hi := 2) (by omega) (by decide) (by decide) (by decide)
  have h_5 := Inv.g hI_M kd_164 rfl 3 (a := 0) (b := 2) ha_4.1 ha_4.2
  refine kx_aload_n 1 F 0 dX12_next_0 rfl rfl rfl ?_
  refine kx_iload_n 2 F 1 dX12_next_1 rfl rfl rfl ?_
  refine kx_Vi 5 (ci := 0) F (As := [vI a1]) (st := []) vd_X12_282 (e_X12_isAutomaton G l M a1 hI_M (by omega)) kd_163 rfl rfl rfl ⟨by decide, by decide⟩ rfl rfl (Nat.le_of_ble_eq_true rfl) dX12_next_2 rfl ?_
  intro r_6 N_7 q_8
  obtain ⟨rfl, q_8c⟩ := q_8
  rcases q_8c with q_8c | q_8c | q_8c
  · refine kx_if_eq 8 F 16 dX12_next_5 (by decide) rfl (by omega) (fun h_9 => (by exfalso; omega)) (fun h_9 => ?_)
    refine kx_aload_n 9 F 0 dX12_next_8 rfl rfl rfl ?_
    refine kx_iload_n 10 F 3 dX12_next_9 rfl rfl rfl ?_
    refine kx_Vi 13 (ci := 0) F (As := [vI a3]) (st := []) vd_X12_300 (e_isLetterX G l M a3 hI_M (by omega)) kd_163 rfl rfl rfl ⟨by decide, by decide⟩ rfl rfl (Nat.le_of_ble_eq_true rfl) dX12_next_10 rfl ?_
    intro r_10 N_11 q_12
    obtain ⟨rfl, q_12c⟩ := q_12
    rcases q_12c with q_12c | q_12c | q_12c
    · refine kx_if_ne 16 F 22 dX12_next_13 (by decide) rfl (by omega) (fun h_13 => ?_) (fun h_13 => (by exfalso; omega))
      refine kx_aload_n 23 F 0 dX12_next_22 rfl rfl rfl ?_
      refine kx_iload_n 24 F 1 dX12_next_23 rfl rfl rfl ?_
      refine kx_Vi 27 (ci := 0) F (As := [vI a1]) (st := []) vd_X12_422 (e_laysTable3 G l M a1 hI_M (by omega) q hS hU hC (by omega)) kd_163 rfl rfl rfl ⟨by decide, by decide⟩ rfl rfl (Nat.le_of_ble_eq_true rfl) dX12_next_24 rfl ?_
      intro r_14 N_15 q_16
      obtain ⟨hI_N_15, hG_N_15, q_16c, ⟨hlt_N_15, hld_N_15, hlr_N_15⟩⟩ := q_16
      have hF_N_15 : Fr f_e_next3m M N_15 := Fr.c hF_M hG_N_15 rfl
      have hpn_N_15 := hlt_N_15.1
      refine kx_if_ne 30 F 37 dX12_next_27 (by decide) rfl (by omega) (fun h_17 => ?_) (fun h_17 => ?_)
      · refine kx_aload_n 38 F 0 dX12_next_37 rfl rfl rfl ?_
        refine kx_iload_n 39 F 2 dX12_next_38 rfl rfl rfl ?_
        refine kx_Vi 42 (ci := 0) F (As := [vI a2]) (st := []) vd_X12_425 (e_isInTable3 G l N_15 a2 hI_N_15 (by omega)) kd_163 rfl rfl rfl ⟨by decide, by decide⟩ rfl rfl (Nat.le_of_ble_eq_true rfl) dX12_next_39 rfl ?_
        intro r_18 N_19 q_20
        obtain ⟨rfl, q_20c⟩ := q_20
        have h_21 := Inv.g hI_N_15 kd_163 rfl 35 (a := 0) (b := 41) rfl rfl
        rcases q_20c with q_20c | q_20c | q_20c
        · refine kx_if_ne 45 F 52 dX12_next_42 (by decide) rfl (by omega) (fun h_23 => ?_) (fun h_23 => (by exfalso; omega))
          refine kx_aload_n 53 F 0 dX12_next_52 rfl rfl rfl ?_
          refine kx_aload_n 54 F 0 dX12_next_53 rfl rfl rfl ?_
          refine kx_aload_n 55 F 0 dX12_next_54 rfl rfl rfl ?_
          refine kx_iload_n 56 F 1 dX12_next_55 rfl rfl rfl ?_
          refine kx_iload_n 57 F 2 dX12_next_56 rfl rfl rfl ?_
          refine kx_iload_n 58 F 3 dX12_next_57 rfl rfl rfl ?_
          refine kx_Vi 61 (ci := 0) F (As := [vI a1, vI a2, vI a3]) (st := [vR G 163, vR G 163]) vd_X12_412 (e_nextR3 G l N_15 a1 a2 a3 hI_N_15 (by omega) q (by rw [show N_15 164 = M 164 from (funext (fun j => by rw [Fr.e hG_N_15 kd_164 _ rfl]))]; exact hS) (by rw [show N_15 164 = M 164 from (funext (fun j => by rw [Fr.e hG_N_15 kd_164 _ rfl]))]; exact hU) hC hld_N_15 (by omega)) kd_163 rfl rfl rfl ⟨by decide, by decide⟩ rfl rfl (Nat.le_of_ble_eq_true rfl) dX12_next_58 rfl ?_
          intro r_24 N_25 q_26
          obtain ⟨rfl, q_26c, hnr_N_25⟩ := q_26
          refine kx_aload_n 62 F 0 dX12_next_61 rfl rfl rfl ?_
          refine kx_iload_n 63 F 1 dX12_next_62 rfl rfl rfl ?_
          refine kx_iload_n 64 F 2 dX12_next_63 rfl rfl rfl ?_
          refine kx_iload_n 65 F 3 dX12_next_64 rfl rfl rfl ?_
          refine kx_Vi 68 (ci := 0) F (As := [vI a1, vI a2, vI a3]) (st := [vI r_24, vR G 163, vR G 163]) vd_X12_415 (e_nextS3 G l N_15 a1 a2 a3 hI_N_15 (by omega) q (by rw [show N_15 164 = M 164 from (funext (fun j => by rw [Fr.e hG_N_15 kd_164 _ rfl]))]; exact hS) (by rw [show N_15 164 = M 164 from (funext (fun j => by rw [Fr.e hG_N_15 kd_164 _ rfl]))]; exact hU) hC hld_N_15 (by omega)) kd_163 rfl rfl rfl ⟨by decide, by decide⟩ rfl rfl (Nat.le_of_ble_eq_true rfl) dX12_next_65 rfl ?_
          intro r_27 N_28 q_29
          obtain ⟨rfl, q_29c, hns_N_28⟩ := q_29
          refine kx_Vi 71 (ci := 0) F (As := [vI r_24, vI r_27]) (st := [vR G 163]) vd_X12_406 (e_foundIn3 G l N_15 r_24 r_27 hI_N_15 (by omega)) kd_163 rfl rfl rfl ⟨by decide, by decide⟩ rfl rfl (Nat.le_of_ble_eq_true rfl) dX12_next_68 rfl ?_
          intro r_30 N_31 q_32
          obtain ⟨rfl, q_32c, hfi_N_31⟩ := q_32
          refine kx_Vi 74 (ci := 0) F (As := [vI r_30]) (st := []) vd_X12_127 (c_X12_gives G l N_15 r_30 hI_N_15 (by omega)) kd_163 rfl rfl rfl ⟨by decide, by decide⟩ rfl rfl (Nat.le_of_ble_eq_true rfl) dX12_next_71 rfl ?_
          intro r_33 N_34 q_35
          obtain ⟨hI_N_34, hG_N_34, q_35c⟩ := q_35
          have hF_N_34 : Fr f_e_next3m M N_34 := Fr.c hF_N_15 hG_N_34 rfl
          refine kx_topi (e' := r_30) (by omega) ?_
          have hat := hlt_N_15.2 a2 (by omega) (by omega)
          have hns := hns_N_28
          rw [hat.2] at hns
          exact kx_iret F hQ ⟨hI_N_34, hF_N_34, (by omega), (Or.inl ⟨⟨by omega, by omega, ⟨by omega, by omega, by omega⟩, by omega, by omega⟩, zfit.of hlt_N_15 hfi_N_31 (hnr_N_25.trans (by rw [hat.1])) (by unfold zNXr; by_cases c : a3 < q 0; rw [if_pos c]; exact hns.1 c; rw [if_neg c]; exact hns.2 c) (by omega)⟩)⟩ dX12_next_74
        · refine kx_if_ne 45 F 52 dX12_next_42 (by decide) rfl (by omega) (fun h_36 => (by exfalso; omega)) (fun h_36 => ?_)
          refine kx_aload_n 46 F 0 dX12_next_45 rfl rfl rfl ?_
          refine kx_bipush 48 F dX12_next_46 (by decide) rfl ?_
          refine kx_Vi 51 (ci := 0) F (As := [vI 6]) (st := []) vd_X12_123 (c_X12_refuse G l N_15 6 hI_N_15 (by omega)) kd_163 rfl rfl rfl ⟨by decide, by decide⟩ rfl rfl (Nat.le_of_ble_eq_true rfl) dX12_next_48 rfl ?_
          intro r_37 N_38 q_39
          obtain ⟨hI_N_38, hG_N_38, q_39c⟩ := q_39
          have hF_N_38 : Fr f_e_next3m M N_38 := Fr.c hF_N_15 hG_N_38 rfl
          subst q_39c
          exact kx_iret F hQ ⟨hI_N_38, hF_N_38, (by omega), (Or.inr ⟨fun h => by skip; have h4 := h.1; have h5 := h.2.1; have h1 := h.2.2.1.1; have h2 := h.2.2.1.2.1; have h3 := h.2.2.1.2.2; have h6 := h.2.2.2.1; have h7 := h.2.2.2.2; omega, by omega⟩)⟩ dX12_next_51
        · refine kx_if_ne 45 F 52 dX12_next_42 (by decide) rfl (by omega) (fun h_40 => (by exfalso; omega)) (fun h_40 => ?_)
          refine kx_aload_n 46 F 0 dX12_next_45 rfl rfl rfl ?_
          refine kx_bipush 48 F dX12_next_46 (by decide) rfl ?_
          refine kx_Vi 51 (ci := 0) F (As := [vI 6]) (st := []) vd_X12_123 (c_X12_refuse G l N_15 6 hI_N_15 (by omega)) kd_163 rfl rfl rfl ⟨by decide, by decide⟩ rfl rfl (Nat.le_of_ble_eq_true rfl) dX12_next_48 rfl ?_
          intro r_41 N_42 q_43
          obtain ⟨hI_N_42, hG_N_42, q_43c⟩ := q_43
          have hF_N_42 : Fr f_e_next3m M N_42 := Fr.c hF_N_15 hG_N_42 rfl
          subst q_43c
          exact kx_iret F hQ ⟨hI_N_42, hF_N_42, (by omega), (Or.inr ⟨fun h => by skip; have h4 := h.1; have h5 := h.2.1; have h1 := h.2.2.1.1; have h2 := h.2.2.1.2.1; have h3 := h.2.2.1.2.2; have h6 := h.2.2.2.1; have h7 := h.2.2.2.2; omega, by omega⟩)⟩ dX12_next_51
      · refine kx_aload_n 31 F 0 dX12_next_30 rfl rfl rfl ?_
        refine kx_bipush 33 F dX12_next_31 (by decide) rfl ?_
        refine kx_Vi 36 (ci := 0) F (As := [vI 7]) (st := []) vd_X12_123 (c_X12_refuse G l N_15 7 hI_N_15 (by omega)) kd_163 rfl rfl rfl ⟨by decide, by decide⟩ rfl rfl (Nat.le_of_ble_eq_true rfl) dX12_next_33 rfl ?_
        intro r_44 N_45 q_46
        obtain ⟨hI_N_45, hG_N_45, q_46c⟩ := q_46
        have hF_N_45 : Fr f_e_next3m M N_45 := Fr.c hF_N_15 hG_N_45 rfl
        subst q_46c
        exact kx_iret F hQ ⟨hI_N_45, hF_N_45, (by omega), (Or.inr ⟨fun h => by skip; have h4 := h.1; have h5 := h.2.1; have h1 := h.2.2.1.1; have h2 := h.2.2.1.2.1; have h3 := h.2.2.1.2.2; have h6 := h.2.2.2.1; have h7 := h.2.2.2.2; omega, by omega⟩)⟩ dX12_next_36
    · refine kx_if_ne 16 F 22 dX12_next_13 (by decide) rfl (by omega) (fun h_47 => (by exfalso; omega)) (fun h_47 => ?_)
      refine kx_aload_n 17 F 0 dX12_next_16 rfl rfl rfl ?_
      refine kx_iconst 18 F dX12_next_17 rfl ?_
      refine kx_Vi 21 (ci := 0) F (As := [vI 1]) (st := []) vd_X12_123 (c_X12_refuse G l M 1 hI_M (by omega)) kd_163 rfl rfl rfl ⟨by decide, by decide⟩ rfl rfl (Nat.le_of_ble_eq_true rfl) dX12_next_18 rfl ?_
      intro r_48 N_49 q_50
      obtain ⟨hI_N_49, hG_N_49, q_50c⟩ := q_50
      have hF_N_49 : Fr f_e_next3m M N_49 := Fr.c hF_M hG_N_49 rfl
      subst q_50c
      exact kx_iret F hQ ⟨hI_N_49, hF_N_49, (by omega), (Or.inr ⟨fun h => by skip; have h4 := h.1; have h5 := h.2.1; have h1 := h.2.2.1.1; have h2 := h.2.2.1.2.1; have h3 := h.2.2.1.2.2; have h6 := h.2.2.2.1; have h7 := h.2.2.2.2; omega, by omega⟩)⟩ dX12_next_21
    · refine kx_if_ne 16 F 22 dX12_next_13 (by decide) rfl (by omega) (fun h_51 => (by exfalso; omega)) (fun h_51 => ?_)
      refine kx_aload_n 17 F 0 dX12_next_16 rfl rfl rfl ?_
      refine kx_iconst 18 F dX12_next_17 rfl ?_
      refine kx_Vi 21 (ci := 0) F (As := [vI 1]) (st := []) vd_X12_123 (c_X12_refuse G l M 1 hI_M (by omega)) kd_163 rfl rfl rfl ⟨by decide, by decide⟩ rfl rfl (Nat.le_of_ble_eq_true rfl) dX12_next_18 rfl ?_
      intro r_52 N_53 q_54
      obtain ⟨hI_N_53, hG_N_53, q_54c⟩ := q_54
      have hF_N_53 : Fr f_e_next3m M N_53 := Fr.c hF_M hG_N_53 rfl
      subst q_54c
      exact kx_iret F hQ ⟨hI_N_53, hF_N_53, (by omega), (Or.inr ⟨fun h => by skip; have h4 := h.1; have h5 := h.2.1; have h1 := h.2.2.1.1; have h2 := h.2.2.1.2.1; have h3 := h.2.2.1.2.2; have h6 := h.2.2.2.1; have h7 := h.2.2.2.2; omega, by omega⟩)⟩ dX12_next_21
  · refine kx_if_eq 8 F 16 dX12_next_5 (by decide) rfl (by omega) (fun h_55 => ?_) (fun h_55 => (by exfalso; omega))
    refine kx_aload_n 17 F 0 dX12_next_16 rfl rfl rfl ?_
    refine kx_iconst 18 F dX12_next_17 rfl ?_
    refine kx_Vi 21 (ci := 0) F (As := [vI 1]) (st := []) vd_X12_123 (c_X12_refuse G l M 1 hI_M (by omega)) kd_163 rfl rfl rfl ⟨by decide, by decide⟩ rfl rfl (Nat.le_of_ble_eq_true rfl) dX12_next_18 rfl ?_
    intro r_56 N_57 q_58
    obtain ⟨hI_N_57, hG_N_57, q_58c⟩ := q_58
    have hF_N_57 : Fr f_e_next3m M N_57 := Fr.c hF_M hG_N_57 rfl
    subst q_58c
    exact kx_iret F hQ ⟨hI_N_57, hF_N_57, (by omega), (Or.inr ⟨fun h => by skip; have h4 := h.1; have h5 := h.2.1; have h1 := h.2.2.1.1; have h2 := h.2.2.1.2.1; have h3 := h.2.2.1.2.2; have h6 := h.2.2.2.1; have h7 := h.2.2.2.2; omega, by omega⟩)⟩ dX12_next_21
  · refine kx_if_eq 8 F 16 dX12_next_5 (by decide) rfl (by omega) (fun h_59 => ?_) (fun h_59 => (by exfalso; omega))
    refine kx_aload_n 17 F 0 dX12_next_16 rfl rfl rfl ?_
    refine kx_iconst 18 F dX12_next_17 rfl ?_
    refine kx_Vi 21 (ci := 0) F (As := [vI 1]) (st := []) vd_X12_123 (c_X12_refuse G l M 1 hI_M (by omega)) kd_163 rfl rfl rfl ⟨by decide, by decide⟩ rfl rfl (Nat.le_of_ble_eq_true rfl) dX12_next_18 rfl ?_
    intro r_60 N_61 q_62
    obtain ⟨hI_N_61, hG_N_61, q_62c⟩ := q_62
    have hF_N_61 : Fr f_e_next3m M N_61 := Fr.c hF_M hG_N_61 rfl
    subst q_62c
    exact kx_iret F hQ ⟨hI_N_61, hF_N_61, (by omega), (Or.inr ⟨fun h => by skip; have h4 := h.1; have h5 := h.2.1; have h1 := h.2.2.1.1; have h2 := h.2.2.1.2.1; have h3 := h.2.2.1.2.2; have h6 := h.2.2.2.1; have h7 := h.2.2.2.2; omega, by omega⟩)⟩ dX12_next_21
abbrev f_e_nextBack3m : List (Nat × Int) := [(64, 2), (64, 35), (72, -1), (81, -1), (82, -1)]
set_option maxHeartbeats 4000000 in
set_option maxRecDepth 100000 in
theorem e_nextBack3m (G : KG) (l : Launch) (M : Mem) (a1 : Int) (a2 : Int) (a3 : Int) (a4 : Int) (a5 : Int) (hI_M : Inv true M) (hpre : -2147483648 ≤ a1 ∧ a1 ≤ 2147483647 ∧ -2147483648 ≤ a2 ∧ a2 ≤ 2147483647 ∧ -2147483648 ≤ a3 ∧ a3 ≤ 2147483647 ∧ -2147483648 ≤ a4 ∧ a4 ≤ 2147483647 ∧ -2147483648 ≤ a5 ∧ a5 ≤ 2147483647) (q : Int → Int) (hS : zRN (M 164) q) (hU : zRU (M 164) q) (hC : zQC q) : KC true G l yX12_nextBack cX12_nextBack 7 (some .int) (5, 126) [vR G 163, vI a1, vI a2, vI a3, vI a4, vI a5] M (fun A => kQi true G A (fun (r : Int) (N : Mem) => Inv true N ∧ Fr f_e_nextBack3m M N ∧ (r ≥ -2147483648 ∧ r ≤ 2147483647) ∧ (zNBK q a1 a2 a3 a4 a5 r))) := by
  refine kx_met (lo := [some (vR G 163), some (vI a1), some (vI a2), some (vI a3), some (vI a4), some (vI a5), none]) (by decide) (Nat.le_of_ble_eq_true rfl) rfl ?_
  intro X F hQ
  have hF_M : Fr f_e_nextBack3m M M := Fr.rf _ _
  have hSn := hS.u
  have h_1 := Inv.g hI_M kd_164 rfl 0 (a := 0) (b := 2) (at_c 0 0 (o := 0) (lo := 0) (hi := 2) (by omega) (by decide) (by decide) (by decide)).1 (at_c 0 0 (o := 0) (lo := 0) (hi := 2) (by omega) (by decide) (by decide) (by decide)).2
  have h_2 := Inv.g hI_M kd_164 rfl 1 (a := 0) (b := 2) (at_c 1 0 (o := 1) (lo := 0) (hi := 2) (by omega) (by decide) (by decide) (by decide)).1 (at_c 1 0 (o := 1) (lo := 0) (hi := 2) (by omega) (by decide) (by decide) (by decide)).2
  have h_3 := Inv.g hI_M kd_164 rfl 2 (a := 0) (b := 2) (at_c 2 0 (o := 2) (lo := 0) (hi := 2) (by omega) (by decide) (by decide) (by decide)).1 (at_c 2 0 (o := 2) (lo := 0) (hi := 2) (by omega) (by decide) (by decide) (by decide)).2
  have ha_4 : atlo 3 = 0 ∧ athi 3 = 2 := at_c 3 0 (o := 3) (lo := 0) (hi := 2) (by omega) (by decide) (by decide) (by decide)
  have h_5 := Inv.g hI_M kd_164 rfl 3 (a := 0) (b := 2) ha_4.1 ha_4.2
  refine kx_aload_n 1 F 0 dX12_nextBack_0 rfl rfl rfl ?_
  refine kx_iload_n 2 F 1 dX12_nextBack_1 rfl rfl rfl ?_
  refine kx_Vi 5 (ci := 0) F (As := [vI a1]) (st := []) vd_X12_282 (e_X12_isAutomaton G l M a1 hI_M (by omega)) kd_163 rfl rfl rfl ⟨by decide, by decide⟩ rfl rfl (Nat.le_of_ble_eq_true rfl) dX12_nextBack_2 rfl ?_
  intro r_6 N_7 q_8
  obtain ⟨rfl, q_8c⟩ := q_8
  rcases q_8c with q_8c | q_8c | q_8c
  · refine kx_if_eq 8 F 43 dX12_nextBack_5 (by decide) rfl (by omega) (fun h_9 => (by exfalso; omega)) (fun h_9 => ?_)
    refine kx_aload_n 9 F 0 dX12_nextBack_8 rfl rfl rfl ?_
    refine kx_iload_n 10 F 3 dX12_nextBack_9 rfl rfl rfl ?_
    refine kx_Vi 13 (ci := 0) F (As := [vI a3]) (st := []) vd_X12_300 (e_isLetterX G l M a3 hI_M (by omega)) kd_163 rfl rfl rfl ⟨by decide, by decide⟩ rfl rfl (Nat.le_of_ble_eq_true rfl) dX12_nextBack_10 rfl ?_
    intro r_10 N_11 q_12
    obtain ⟨rfl, q_12c⟩ := q_12
    rcases q_12c with q_12c | q_12c | q_12c
    · refine kx_if_eq 16 F 43 dX12_nextBack_13 (by decide) rfl (by omega) (fun h_13 => (by exfalso; omega)) (fun h_13 => ?_)
      refine kx_aload_n 17 F 0 dX12_nextBack_16 rfl rfl rfl ?_
      refine kx_iload 19 F 5 dX12_nextBack_17 rfl rfl ?_
      refine kx_Vi 22 (ci := 0) F (As := [vI a5]) (st := []) vd_X12_300 (e_isLetterX G l M a5 hI_M (by omega)) kd_163 rfl rfl rfl ⟨by decide, by decide⟩ rfl rfl (Nat.le_of_ble_eq_true rfl) dX12_nextBack_19 rfl ?_
      intro r_14 N_15 q_16
      obtain ⟨rfl, q_16c⟩ := q_16
      rcases q_16c with q_16c | q_16c | q_16c
      · refine kx_if_eq 25 F 43 dX12_nextBack_22 (by decide) rfl (by omega) (fun h_17 => (by exfalso; omega)) (fun h_17 => ?_)
        refine kx_aload_n 26 F 0 dX12_nextBack_25 rfl rfl rfl ?_
        refine kx_iload_n 27 F 3 dX12_nextBack_26 rfl rfl rfl ?_
        refine kx_Vi 30 (ci := 0) F (As := [vI a3]) (st := []) vd_X12_297 (c_sortNowE G l M a3 hI_M (by omega)) kd_163 rfl rfl rfl ⟨by decide, by decide⟩ rfl rfl (Nat.le_of_ble_eq_true rfl) dX12_nextBack_27 rfl ?_
        intro r_18 N_19 q_20
        obtain ⟨rfl, q_20c⟩ := q_20
        rcases q_20c with q_20c | q_20c | q_20c
        · refine kx_iconst 31 F dX12_nextBack_30 rfl ?_
          refine kx_icmp_ne 34 F 43 dX12_nextBack_31 (by decide) rfl (by omega) (by decide) (fun h_21 => ?_) (fun h_21 => (by exfalso; omega))
          refine kx_aload_n 44 F 0 dX12_nextBack_43 rfl rfl rfl ?_
          refine kx_iconst 45 F dX12_nextBack_44 rfl ?_
          refine kx_Vi 48 (ci := 0) F (As := [vI 1]) (st := []) vd_X12_123 (c_X12_refuse G l M 1 hI_M (by omega)) kd_163 rfl rfl rfl ⟨by decide, by decide⟩ rfl rfl (Nat.le_of_ble_eq_true rfl) dX12_nextBack_45 rfl ?_
          intro r_22 N_23 q_24
          obtain ⟨hI_N_23, hG_N_23, q_24c⟩ := q_24
          have hF_N_23 : Fr f_e_nextBack3m M N_23 := Fr.c hF_M hG_N_23 rfl
          subst q_24c
          exact kx_iret F hQ ⟨hI_N_23, hF_N_23, (by omega), (Or.inr ⟨fun h => by have h1 := h.1; have h2 := h.2.1; have h3 := h.2.2.1; have h4 := h.2.2.2.1; have h5 := h.2.2.2.2.1.1.1; have h6 := h.2.2.2.2.1.1.2.1; have h7 := h.2.2.2.2.1.1.2.2; have h8 := h.2.2.2.2.1.2.1; have h9 := h.2.2.2.2.1.2.2; have h10 := h.2.2.2.2.2.2.1; have h11 := h.2.2.2.2.2.2.2; omega, by omega⟩)⟩ dX12_nextBack_48
        · refine kx_iconst 31 F dX12_nextBack_30 rfl ?_
          refine kx_icmp_ne 34 F 43 dX12_nextBack_31 (by decide) rfl (by omega) (by decide) (fun h_25 => (by exfalso; omega)) (fun h_25 => ?_)
          refine kx_aload_n 35 F 0 dX12_nextBack_34 rfl rfl rfl ?_
          refine kx_iload 37 F 5 dX12_nextBack_35 rfl rfl ?_
          refine kx_Vi 40 (ci := 0) F (As := [vI a5]) (st := []) vd_X12_297 (c_sortNowE G l M a5 hI_M (by omega)) kd_163 rfl rfl rfl ⟨by decide, by decide⟩ rfl rfl (Nat.le_of_ble_eq_true rfl) dX12_nextBack_37 rfl ?_
          intro r_26 N_27 q_28
          obtain ⟨rfl, q_28c⟩ := q_28
          rcases q_28c with q_28c | q_28c | q_28c
          · refine kx_if_eq 43 F 49 dX12_nextBack_40 (by decide) rfl (by omega) (fun h_29 => ?_) (fun h_29 => (by exfalso; omega))
            refine kx_aload_n 50 F 0 dX12_nextBack_49 rfl rfl rfl ?_
            refine kx_iload_n 51 F 1 dX12_nextBack_50 rfl rfl rfl ?_
            refine kx_Vi 54 (ci := 0) F (As := [vI a1]) (st := []) vd_X12_422 (e_laysTable3 G l M a1 hI_M (by omega) q hS hU hC (by omega)) kd_163 rfl rfl rfl ⟨by decide, by decide⟩ rfl rfl (Nat.le_of_ble_eq_true rfl) dX12_nextBack_51 rfl ?_
            intro r_30 N_31 q_32
            obtain ⟨hI_N_31, hG_N_31, q_32c, ⟨hlt_N_31, hld_N_31, hlr_N_31⟩⟩ := q_32
            have hF_N_31 : Fr f_e_nextBack3m M N_31 := Fr.c hF_M hG_N_31 rfl
            have hpn_N_31 := hlt_N_31.1
            refine kx_if_ne 57 F 64 dX12_nextBack_54 (by decide) rfl (by omega) (fun h_33 => ?_) (fun h_33 => ?_)
            · refine kx_aload_n 65 F 0 dX12_nextBack_64 rfl rfl rfl ?_
              refine kx_iload_n 66 F 2 dX12_nextBack_65 rfl rfl rfl ?_
              refine kx_Vi 69 (ci := 0) F (As := [vI a2]) (st := []) vd_X12_425 (e_isInTable3 G l N_31 a2 hI_N_31 (by omega)) kd_163 rfl rfl rfl ⟨by decide, by decide⟩ rfl rfl (Nat.le_of_ble_eq_true rfl) dX12_nextBack_66 rfl ?_
              intro r_34 N_35 q_36
              obtain ⟨rfl, q_36c⟩ := q_36
              have h_37 := Inv.g hI_N_31 kd_163 rfl 35 (a := 0) (b := 41) rfl rfl
              rcases q_36c with q_36c | q_36c | q_36c
              · refine kx_if_eq 72 F 81 dX12_nextBack_69 (by decide) rfl (by omega) (fun h_39 => (by exfalso; omega)) (fun h_39 => ?_)
                refine kx_aload_n 73 F 0 dX12_nextBack_72 rfl rfl rfl ?_
                refine kx_iload 75 F 4 dX12_nextBack_73 rfl rfl ?_
                refine kx_Vi 78 (ci := 0) F (As := [vI a4]) (st := []) vd_X12_425 (e_isInTable3 G l N_31 a4 hI_N_31 (by omega)) kd_163 rfl rfl rfl ⟨by decide, by decide⟩ rfl rfl (Nat.le_of_ble_eq_true rfl) dX12_nextBack_75 rfl ?_
                intro r_40 N_41 q_42
                obtain ⟨rfl, q_42c⟩ := q_42
                rcases q_42c with q_42c | q_42c | q_42c
                · refine kx_if_ne 81 F 88 dX12_nextBack_78 (by decide) rfl (by omega) (fun h_43 => ?_) (fun h_43 => (by exfalso; omega))
                  refine kx_aload_n 89 F 0 dX12_nextBack_88 rfl rfl rfl ?_
                  refine kx_iload_n 90 F 1 dX12_nextBack_89 rfl rfl rfl ?_
                  refine kx_aload_n 91 F 0 dX12_nextBack_90 rfl rfl rfl ?_
                  refine kx_getr 94 F fl_X12_77 kd_163 rfl rfl (j := 34) rfl dX12_nextBack_91 (v := 182) (uq_182 (Inv.r hI_N_31 kd_163 rfl 34 rfl rfl)) rfl ?_
                  refine kx_iload_n 95 F 2 dX12_nextBack_94 rfl rfl rfl ?_
                  refine kx_iald 96 F kd_182 rfl rfl (by omega) (by decide) dX12_nextBack_95 (v := (N_31 182 a2)) rfl rfl ?_
                  have h_44 := Inv.g hI_N_31 kd_182 rfl a2 (a := 0) (b := 511) rfl rfl
                  refine kx_iload 98 F 5 dX12_nextBack_96 rfl rfl ?_
                  refine kx_iload_n 99 F 3 dX12_nextBack_98 rfl rfl rfl ?_
                  refine kx_Vi 102 (ci := 0) F (As := [vI a1, vI (N_31 182 a2), vI a5, vI a3]) (st := []) vd_X12_335 (e_over G l N_31 a1 (N_31 182 a2) a5 a3 hI_N_31 (by omega)) kd_163 rfl rfl rfl ⟨by decide, by decide⟩ rfl rfl (Nat.le_of_ble_eq_true rfl) dX12_nextBack_99 rfl ?_
                  intro r_45 N_46 q_47
                  obtain ⟨rfl, q_47c, hz_N_46⟩ := q_47
                  refine kx_istore 104 F 6 (lo' := [some (vR G 163), some (vI a1), some (vI a2), some (vI a3), some (vI a4), some (vI a5), some (vI r_45)]) dX12_nextBack_102 (by decide) rfl rfl rfl ?_
                  refine kx_aload_n 105 F 0 dX12_nextBack_104 rfl rfl rfl ?_
                  refine kx_aload_n 106 F 0 dX12_nextBack_105 rfl rfl rfl ?_
                  refine kx_aload_n 107 F 0 dX12_nextBack_106 rfl rfl rfl ?_
                  refine kx_getr 110 F fl_X12_74 kd_163 rfl rfl (j := 33) rfl dX12_nextBack_107 (v := 181) (uq_181 (Inv.r hI_N_31 kd_163 rfl 33 rfl rfl)) rfl ?_
                  refine kx_iload 112 F 4 dX12_nextBack_110 rfl rfl ?_
                  refine kx_iald 113 F kd_181 rfl rfl (by omega) (by decide) dX12_nextBack_112 (v := (N_31 181 a4)) rfl rfl ?_
                  have h_48 := Inv.g hI_N_31 kd_181 rfl a4 (a := 0) (b := 7) rfl rfl
                  refine kx_iload 115 F 6 dX12_nextBack_113 rfl rfl ?_
                  refine kx_Si 118 F (As := [vI (N_31 181 a4), vI r_45]) (st := [vR G 163, vR G 163]) sd_X12_332 (e_image3m G l N_31 (N_31 181 a4) r_45 hI_N_31 (by omega)) ⟨by decide, by decide⟩ rfl rfl (Nat.le_of_ble_eq_true rfl) dX12_nextBack_115 rfl ?_
                  intro r_49 N_50 q_51
                  obtain ⟨rfl, q_51c, hz_N_50⟩ := q_51
                  refine kx_aload_n 119 F 0 dX12_nextBack_118 rfl rfl rfl ?_
                  refine kx_getr 122 F fl_X12_77 kd_163 rfl rfl (j := 34) rfl dX12_nextBack_119 (v := 182) (uq_182 (Inv.r hI_N_31 kd_163 rfl 34 rfl rfl)) rfl ?_
                  refine kx_iload 124 F 4 dX12_nextBack_122 rfl rfl ?_
                  refine kx_iald 125 F kd_182 rfl rfl (by omega) (by decide) dX12_nextBack_124 (v := (N_31 182 a4)) rfl rfl ?_
                  have h_52 := Inv.g hI_N_31 kd_182 rfl a4 (a := 0) (b := 511) rfl rfl
                  refine kx_iload 127 F 6 dX12_nextBack_125 rfl rfl ?_
                  refine kx_Si 130 F (As := [vI (N_31 182 a4), vI r_45]) (st := [vI r_49, vR G 163, vR G 163]) sd_X12_326 (e_then G l N_31 (N_31 182 a4) r_45 hI_N_31 (by omega)) ⟨by decide, by decide⟩ rfl rfl (Nat.le_of_ble_eq_true rfl) dX12_nextBack_127 rfl ?_
                  intro r_53 N_54 q_55
                  obtain ⟨rfl, q_55c, hz_N_54⟩ := q_55
                  refine kx_Vi 133 (ci := 0) F (As := [vI r_49, vI r_53]) (st := [vR G 163]) vd_X12_406 (e_foundIn3 G l N_31 r_49 r_53 hI_N_31 (by omega)) kd_163 rfl rfl rfl ⟨by decide, by decide⟩ rfl rfl (Nat.le_of_ble_eq_true rfl) dX12_nextBack_130 rfl ?_
                  intro r_56 N_57 q_58
                  obtain ⟨rfl, q_58c, hfi_N_57⟩ := q_58
                  refine kx_Vi 136 (ci := 0) F (As := [vI r_56]) (st := []) vd_X12_127 (c_X12_gives G l N_31 r_56 hI_N_31 (by omega)) kd_163 rfl rfl rfl ⟨by decide, by decide⟩ rfl rfl (Nat.le_of_ble_eq_true rfl) dX12_nextBack_133 rfl ?_
                  intro r_59 N_60 q_61
                  obtain ⟨hI_N_60, hG_N_60, q_61c⟩ := q_61
                  have hF_N_60 : Fr f_e_nextBack3m M N_60 := Fr.c hF_N_31 hG_N_60 rfl
                  refine kx_topi (e' := r_56) (by omega) ?_
                  have hat := hlt_N_31.2 a2 (by omega) (by omega)
                  have hat4 := hlt_N_31.2 a4 (by omega) (by omega)
                  have hSn1 : zRN (N_31 164) q := by rw [show N_31 164 = M 164 from (funext (fun j => by rw [Fr.e hG_N_31 kd_164 _ rfl]))]; exact hS
                  have hUn1 : zRU (N_31 164) q := by rw [show N_31 164 = M 164 from (funext (fun j => by rw [Fr.e hG_N_31 kd_164 _ rfl]))]; exact hU
                  have ho_62 : r_45 = zovZ (zks q (85 * a1 + 100)) a5 a3 ((zTQA q (85 * a1 + 100)).2.2 a2) 3 := hz_N_46.trans (by rw [hat.2]; exact zLK_o hI_N_31 hld_N_31 hSn1 hUn1 ⟨by omega, by omega⟩ ⟨by omega, by omega⟩ ⟨by omega, by omega⟩)
                  exact kx_iret F hQ ⟨hI_N_60, hF_N_60, (by omega), (Or.inl ⟨⟨by omega, by omega, by omega, by omega, ⟨⟨by omega, by omega, by omega⟩, by omega, by omega⟩, ⟨⟨by omega, by omega, by omega⟩, by omega, by omega⟩⟩, zfit.of hlt_N_31 hfi_N_57 (hz_N_50.trans (by rw [hat4.1, ho_62])) (hz_N_54.trans (by rw [hat4.2, ho_62])) (by omega)⟩)⟩ dX12_nextBack_136
                · refine kx_if_ne 81 F 88 dX12_nextBack_78 (by decide) rfl (by omega) (fun h_63 => (by exfalso; omega)) (fun h_63 => ?_)
                  refine kx_aload_n 82 F 0 dX12_nextBack_81 rfl rfl rfl ?_
                  refine kx_bipush 84 F dX12_nextBack_82 (by decide) rfl ?_
                  refine kx_Vi 87 (ci := 0) F (As := [vI 6]) (st := []) vd_X12_123 (c_X12_refuse G l N_31 6 hI_N_31 (by omega)) kd_163 rfl rfl rfl ⟨by decide, by decide⟩ rfl rfl (Nat.le_of_ble_eq_true rfl) dX12_nextBack_84 rfl ?_
                  intro r_64 N_65 q_66
                  obtain ⟨hI_N_65, hG_N_65, q_66c⟩ := q_66
                  have hF_N_65 : Fr f_e_nextBack3m M N_65 := Fr.c hF_N_31 hG_N_65 rfl
                  subst q_66c
                  exact kx_iret F hQ ⟨hI_N_65, hF_N_65, (by omega), (Or.inr ⟨fun h => by have h1 := h.1; have h2 := h.2.1; have h3 := h.2.2.1; have h4 := h.2.2.2.1; have h5 := h.2.2.2.2.1.1.1; have h6 := h.2.2.2.2.1.1.2.1; have h7 := h.2.2.2.2.1.1.2.2; have h8 := h.2.2.2.2.1.2.1; have h9 := h.2.2.2.2.1.2.2; have h10 := h.2.2.2.2.2.2.1; have h11 := h.2.2.2.2.2.2.2; omega, by omega⟩)⟩ dX12_nextBack_87
                · refine kx_if_ne 81 F 88 dX12_nextBack_78 (by decide) rfl (by omega) (fun h_67 => (by exfalso; omega)) (fun h_67 => ?_)
                  refine kx_aload_n 82 F 0 dX12_nextBack_81 rfl rfl rfl ?_
                  refine kx_bipush 84 F dX12_nextBack_82 (by decide) rfl ?_
                  refine kx_Vi 87 (ci := 0) F (As := [vI 6]) (st := []) vd_X12_123 (c_X12_refuse G l N_31 6 hI_N_31 (by omega)) kd_163 rfl rfl rfl ⟨by decide, by decide⟩ rfl rfl (Nat.le_of_ble_eq_true rfl) dX12_nextBack_84 rfl ?_
                  intro r_68 N_69 q_70
                  obtain ⟨hI_N_69, hG_N_69, q_70c⟩ := q_70
                  have hF_N_69 : Fr f_e_nextBack3m M N_69 := Fr.c hF_N_31 hG_N_69 rfl
                  subst q_70c
                  exact kx_iret F hQ ⟨hI_N_69, hF_N_69, (by omega), (Or.inr ⟨fun h => by have h1 := h.1; have h2 := h.2.1; have h3 := h.2.2.1; have h4 := h.2.2.2.1; have h5 := h.2.2.2.2.1.1.1; have h6 := h.2.2.2.2.1.1.2.1; have h7 := h.2.2.2.2.1.1.2.2; have h8 := h.2.2.2.2.1.2.1; have h9 := h.2.2.2.2.1.2.2; have h10 := h.2.2.2.2.2.2.1; have h11 := h.2.2.2.2.2.2.2; omega, by omega⟩)⟩ dX12_nextBack_87
              · refine kx_if_eq 72 F 81 dX12_nextBack_69 (by decide) rfl (by omega) (fun h_71 => ?_) (fun h_71 => (by exfalso; omega))
                refine kx_aload_n 82 F 0 dX12_nextBack_81 rfl rfl rfl ?_
                refine kx_bipush 84 F dX12_nextBack_82 (by decide) rfl ?_
                refine kx_Vi 87 (ci := 0) F (As := [vI 6]) (st := []) vd_X12_123 (c_X12_refuse G l N_31 6 hI_N_31 (by omega)) kd_163 rfl rfl rfl ⟨by decide, by decide⟩ rfl rfl (Nat.le_of_ble_eq_true rfl) dX12_nextBack_84 rfl ?_
                intro r_72 N_73 q_74
                obtain ⟨hI_N_73, hG_N_73, q_74c⟩ := q_74
                have hF_N_73 : Fr f_e_nextBack3m M N_73 := Fr.c hF_N_31 hG_N_73 rfl
                subst q_74c
                exact kx_iret F hQ ⟨hI_N_73, hF_N_73, (by omega), (Or.inr ⟨fun h => by have h1 := h.1; have h2 := h.2.1; have h3 := h.2.2.1; have h4 := h.2.2.2.1; have h5 := h.2.2.2.2.1.1.1; have h6 := h.2.2.2.2.1.1.2.1; have h7 := h.2.2.2.2.1.1.2.2; have h8 := h.2.2.2.2.1.2.1; have h9 := h.2.2.2.2.1.2.2; have h10 := h.2.2.2.2.2.2.1; have h11 := h.2.2.2.2.2.2.2; omega, by omega⟩)⟩ dX12_nextBack_87
              · refine kx_if_eq 72 F 81 dX12_nextBack_69 (by decide) rfl (by omega) (fun h_75 => ?_) (fun h_75 => (by exfalso; omega))
                refine kx_aload_n 82 F 0 dX12_nextBack_81 rfl rfl rfl ?_
                refine kx_bipush 84 F dX12_nextBack_82 (by decide) rfl ?_
                refine kx_Vi 87 (ci := 0) F (As := [vI 6]) (st := []) vd_X12_123 (c_X12_refuse G l N_31 6 hI_N_31 (by omega)) kd_163 rfl rfl rfl ⟨by decide, by decide⟩ rfl rfl (Nat.le_of_ble_eq_true rfl) dX12_nextBack_84 rfl ?_
                intro r_76 N_77 q_78
                obtain ⟨hI_N_77, hG_N_77, q_78c⟩ := q_78
                have hF_N_77 : Fr f_e_nextBack3m M N_77 := Fr.c hF_N_31 hG_N_77 rfl
                subst q_78c
                exact kx_iret F hQ ⟨hI_N_77, hF_N_77, (by omega), (Or.inr ⟨fun h => by have h1 := h.1; have h2 := h.2.1; have h3 := h.2.2.1; have h4 := h.2.2.2.1; have h5 := h.2.2.2.2.1.1.1; have h6 := h.2.2.2.2.1.1.2.1; have h7 := h.2.2.2.2.1.1.2.2; have h8 := h.2.2.2.2.1.2.1; have h9 := h.2.2.2.2.1.2.2; have h10 := h.2.2.2.2.2.2.1; have h11 := h.2.2.2.2.2.2.2; omega, by omega⟩)⟩ dX12_nextBack_87
            · refine kx_aload_n 58 F 0 dX12_nextBack_57 rfl rfl rfl ?_
              refine kx_bipush 60 F dX12_nextBack_58 (by decide) rfl ?_
              refine kx_Vi 63 (ci := 0) F (As := [vI 7]) (st := []) vd_X12_123 (c_X12_refuse G l N_31 7 hI_N_31 (by omega)) kd_163 rfl rfl rfl ⟨by decide, by decide⟩ rfl rfl (Nat.le_of_ble_eq_true rfl) dX12_nextBack_60 rfl ?_
              intro r_79 N_80 q_81
              obtain ⟨hI_N_80, hG_N_80, q_81c⟩ := q_81
              have hF_N_80 : Fr f_e_nextBack3m M N_80 := Fr.c hF_N_31 hG_N_80 rfl
              subst q_81c
              exact kx_iret F hQ ⟨hI_N_80, hF_N_80, (by omega), (Or.inr ⟨fun h => by have h1 := h.1; have h2 := h.2.1; have h3 := h.2.2.1; have h4 := h.2.2.2.1; have h5 := h.2.2.2.2.1.1.1; have h6 := h.2.2.2.2.1.1.2.1; have h7 := h.2.2.2.2.1.1.2.2; have h8 := h.2.2.2.2.1.2.1; have h9 := h.2.2.2.2.1.2.2; have h10 := h.2.2.2.2.2.2.1; have h11 := h.2.2.2.2.2.2.2; omega, by omega⟩)⟩ dX12_nextBack_63
          · refine kx_if_eq 43 F 49 dX12_nextBack_40 (by decide) rfl (by omega) (fun h_82 => (by exfalso; omega)) (fun h_82 => ?_)
            refine kx_aload_n 44 F 0 dX12_nextBack_43 rfl rfl rfl ?_
            refine kx_iconst 45 F dX12_nextBack_44 rfl ?_
            refine kx_Vi 48 (ci := 0) F (As := [vI 1]) (st := []) vd_X12_123 (c_X12_refuse G l M 1 hI_M (by omega)) kd_163 rfl rfl rfl ⟨by decide, by decide⟩ rfl rfl (Nat.le_of_ble_eq_true rfl) dX12_nextBack_45 rfl ?_
            intro r_83 N_84 q_85
            obtain ⟨hI_N_84, hG_N_84, q_85c⟩ := q_85
            have hF_N_84 : Fr f_e_nextBack3m M N_84 := Fr.c hF_M hG_N_84 rfl
            subst q_85c
            exact kx_iret F hQ ⟨hI_N_84, hF_N_84, (by omega), (Or.inr ⟨fun h => by have h1 := h.1; have h2 := h.2.1; have h3 := h.2.2.1; have h4 := h.2.2.2.1; have h5 := h.2.2.2.2.1.1.1; have h6 := h.2.2.2.2.1.1.2.1; have h7 := h.2.2.2.2.1.1.2.2; have h8 := h.2.2.2.2.1.2.1; have h9 := h.2.2.2.2.1.2.2; have h10 := h.2.2.2.2.2.2.1; have h11 := h.2.2.2.2.2.2.2; omega, by omega⟩)⟩ dX12_nextBack_48
          · refine kx_if_eq 43 F 49 dX12_nextBack_40 (by decide) rfl (by omega) (fun h_86 => (by exfalso; omega)) (fun h_86 => ?_)
            refine kx_aload_n 44 F 0 dX12_nextBack_43 rfl rfl rfl ?_
            refine kx_iconst 45 F dX12_nextBack_44 rfl ?_
            refine kx_Vi 48 (ci := 0) F (As := [vI 1]) (st := []) vd_X12_123 (c_X12_refuse G l M 1 hI_M (by omega)) kd_163 rfl rfl rfl ⟨by decide, by decide⟩ rfl rfl (Nat.le_of_ble_eq_true rfl) dX12_nextBack_45 rfl ?_
            intro r_87 N_88 q_89
            obtain ⟨hI_N_88, hG_N_88, q_89c⟩ := q_89
            have hF_N_88 : Fr f_e_nextBack3m M N_88 := Fr.c hF_M hG_N_88 rfl
            subst q_89c
            exact kx_iret F hQ ⟨hI_N_88, hF_N_88, (by omega), (Or.inr ⟨fun h => by have h1 := h.1; have h2 := h.2.1; have h3 := h.2.2.1; have h4 := h.2.2.2.1; have h5 := h.2.2.2.2.1.1.1; have h6 := h.2.2.2.2.1.1.2.1; have h7 := h.2.2.2.2.1.1.2.2; have h8 := h.2.2.2.2.1.2.1; have h9 := h.2.2.2.2.1.2.2; have h10 := h.2.2.2.2.2.2.1; have h11 := h.2.2.2.2.2.2.2; omega, by omega⟩)⟩ dX12_nextBack_48
        · refine kx_iconst 31 F dX12_nextBack_30 rfl ?_
          refine kx_icmp_ne 34 F 43 dX12_nextBack_31 (by decide) rfl (by omega) (by decide) (fun h_90 => ?_) (fun h_90 => (by exfalso; omega))
          refine kx_aload_n 44 F 0 dX12_nextBack_43 rfl rfl rfl ?_
          refine kx_iconst 45 F dX12_nextBack_44 rfl ?_
          refine kx_Vi 48 (ci := 0) F (As := [vI 1]) (st := []) vd_X12_123 (c_X12_refuse G l M 1 hI_M (by omega)) kd_163 rfl rfl rfl ⟨by decide, by decide⟩ rfl rfl (Nat.le_of_ble_eq_true rfl) dX12_nextBack_45 rfl ?_
          intro r_91 N_92 q_93
          obtain ⟨hI_N_92, hG_N_92, q_93c⟩ := q_93
          have hF_N_92 : Fr f_e_nextBack3m M N_92 := Fr.c hF_M hG_N_92 rfl
          subst q_93c
          exact kx_iret F hQ ⟨hI_N_92, hF_N_92, (by omega), (Or.inr ⟨fun h => by have h1 := h.1; have h2 := h.2.1; have h3 := h.2.2.1; have h4 := h.2.2.2.1; have h5 := h.2.2.2.2.1.1.1; have h6 := h.2.2.2.2.1.1.2.1; have h7 := h.2.2.2.2.1.1.2.2; have h8 := h.2.2.2.2.1.2.1; have h9 := h.2.2.2.2.1.2.2; have h10 := h.2.2.2.2.2.2.1; have h11 := h.2.2.2.2.2.2.2; omega, by omega⟩)⟩ dX12_nextBack_48
      · refine kx_if_eq 25 F 43 dX12_nextBack_22 (by decide) rfl (by omega) (fun h_94 => ?_) (fun h_94 => (by exfalso; omega))
        refine kx_aload_n 44 F 0 dX12_nextBack_43 rfl rfl rfl ?_
        refine kx_iconst 45 F dX12_nextBack_44 rfl ?_
        refine kx_Vi 48 (ci := 0) F (As := [vI 1]) (st := []) vd_X12_123 (c_X12_refuse G l M 1 hI_M (by omega)) kd_163 rfl rfl rfl ⟨by decide, by decide⟩ rfl rfl (Nat.le_of_ble_eq_true rfl) dX12_nextBack_45 rfl ?_
        intro r_95 N_96 q_97
        obtain ⟨hI_N_96, hG_N_96, q_97c⟩ := q_97
        have hF_N_96 : Fr f_e_nextBack3m M N_96 := Fr.c hF_M hG_N_96 rfl
        subst q_97c
        exact kx_iret F hQ ⟨hI_N_96, hF_N_96, (by omega), (Or.inr ⟨fun h => by have h1 := h.1; have h2 := h.2.1; have h3 := h.2.2.1; have h4 := h.2.2.2.1; have h5 := h.2.2.2.2.1.1.1; have h6 := h.2.2.2.2.1.1.2.1; have h7 := h.2.2.2.2.1.1.2.2; have h8 := h.2.2.2.2.1.2.1; have h9 := h.2.2.2.2.1.2.2; have h10 := h.2.2.2.2.2.2.1; have h11 := h.2.2.2.2.2.2.2; omega, by omega⟩)⟩ dX12_nextBack_48
      · refine kx_if_eq 25 F 43 dX12_nextBack_22 (by decide) rfl (by omega) (fun h_98 => ?_) (fun h_98 => (by exfalso; omega))
        refine kx_aload_n 44 F 0 dX12_nextBack_43 rfl rfl rfl ?_
        refine kx_iconst 45 F dX12_nextBack_44 rfl ?_
        refine kx_Vi 48 (ci := 0) F (As := [vI 1]) (st := []) vd_X12_123 (c_X12_refuse G l M 1 hI_M (by omega)) kd_163 rfl rfl rfl ⟨by decide, by decide⟩ rfl rfl (Nat.le_of_ble_eq_true rfl) dX12_nextBack_45 rfl ?_
        intro r_99 N_100 q_101
        obtain ⟨hI_N_100, hG_N_100, q_101c⟩ := q_101
        have hF_N_100 : Fr f_e_nextBack3m M N_100 := Fr.c hF_M hG_N_100 rfl
        subst q_101c
        exact kx_iret F hQ ⟨hI_N_100, hF_N_100, (by omega), (Or.inr ⟨fun h => by have h1 := h.1; have h2 := h.2.1; have h3 := h.2.2.1; have h4 := h.2.2.2.1; have h5 := h.2.2.2.2.1.1.1; have h6 := h.2.2.2.2.1.1.2.1; have h7 := h.2.2.2.2.1.1.2.2; have h8 := h.2.2.2.2.1.2.1; have h9 := h.2.2.2.2.1.2.2; have h10 := h.2.2.2.2.2.2.1; have h11 := h.2.2.2.2.2.2.2; omega, by omega⟩)⟩ dX12_nextBack_48
    · refine kx_if_eq 16 F 43 dX12_nextBack_13 (by decide) rfl (by omega) (fun h_102 => ?_) (fun h_102 => (by exfalso; omega))
      refine kx_aload_n 44 F 0 dX12_nextBack_43 rfl rfl rfl ?_
      refine kx_iconst 45 F dX12_nextBack_44 rfl ?_
      refine kx_Vi 48 (ci := 0) F (As := [vI 1]) (st := []) vd_X12_123 (c_X12_refuse G l M 1 hI_M (by omega)) kd_163 rfl rfl rfl ⟨by decide, by decide⟩ rfl rfl (Nat.le_of_ble_eq_true rfl) dX12_nextBack_45 rfl ?_
      intro r_103 N_104 q_105
      obtain ⟨hI_N_104, hG_N_104, q_105c⟩ := q_105
      have hF_N_104 : Fr f_e_nextBack3m M N_104 := Fr.c hF_M hG_N_104 rfl
      subst q_105c
      exact kx_iret F hQ ⟨hI_N_104, hF_N_104, (by omega), (Or.inr ⟨fun h => by have h1 := h.1; have h2 := h.2.1; have h3 := h.2.2.1; have h4 := h.2.2.2.1; have h5 := h.2.2.2.2.1.1.1; have h6 := h.2.2.2.2.1.1.2.1; have h7 := h.2.2.2.2.1.1.2.2; have h8 := h.2.2.2.2.1.2.1; have h9 := h.2.2.2.2.1.2.2; have h10 := h.2.2.2.2.2.2.1; have h11 := h.2.2.2.2.2.2.2; omega, by omega⟩)⟩ dX12_nextBack_48
    · refine kx_if_eq 16 F 43 dX12_nextBack_13 (by decide) rfl (by omega) (fun h_106 => ?_) (fun h_106 => (by exfalso; omega))
      refine kx_aload_n 44 F 0 dX12_nextBack_43 rfl rfl rfl ?_
      refine kx_iconst 45 F dX12_nextBack_44 rfl ?_
      refine kx_Vi 48 (ci := 0) F (As := [vI 1]) (st := []) vd_X12_123 (c_X12_refuse G l M 1 hI_M (by omega)) kd_163 rfl rfl rfl ⟨by decide, by decide⟩ rfl rfl (Nat.le_of_ble_eq_true rfl) dX12_nextBack_45 rfl ?_
      intro r_107 N_108 q_109
      obtain ⟨hI_N_108, hG_N_108, q_109c⟩ := q_109
      have hF_N_108 : Fr f_e_nextBack3m M N_108 := Fr.c hF_M hG_N_108 rfl
      subst q_109c
      exact kx_iret F hQ ⟨hI_N_108, hF_N_108, (by omega), (Or.inr ⟨fun h => by have h1 := h.1; have h2 := h.2.1; have h3 := h.2.2.1; have h4 := h.2.2.2.1; have h5 := h.2.2.2.2.1.1.1; have h6 := h.2.2.2.2.1.1.2.1; have h7 := h.2.2.2.2.1.1.2.2; have h8 := h.2.2.2.2.1.2.1; have h9 := h.2.2.2.2.1.2.2; have h10 := h.2.2.2.2.2.2.1; have h11 := h.2.2.2.2.2.2.2; omega, by omega⟩)⟩ dX12_nextBack_48
  · refine kx_if_eq 8 F 43 dX12_nextBack_5 (by decide) rfl (by omega) (fun h_110 => ?_) (fun h_110 => (by exfalso; omega))
    refine kx_aload_n 44 F 0 dX12_nextBack_43 rfl rfl rfl ?_
    refine kx_iconst 45 F dX12_nextBack_44 rfl ?_
    refine kx_Vi 48 (ci := 0) F (As := [vI 1]) (st := []) vd_X12_123 (c_X12_refuse G l M 1 hI_M (by omega)) kd_163 rfl rfl rfl ⟨by decide, by decide⟩ rfl rfl (Nat.le_of_ble_eq_true rfl) dX12_nextBack_45 rfl ?_
    intro r_111 N_112 q_113
    obtain ⟨hI_N_112, hG_N_112, q_113c⟩ := q_113
    have hF_N_112 : Fr f_e_nextBack3m M N_112 := Fr.c hF_M hG_N_112 rfl
    subst q_113c
    exact kx_iret F hQ ⟨hI_N_112, hF_N_112, (by omega), (Or.inr ⟨fun h => by have h1 := h.1; have h2 := h.2.1; have h3 := h.2.2.1; have h4 := h.2.2.2.1; have h5 := h.2.2.2.2.1.1.1; have h6 := h.2.2.2.2.1.1.2.1; have h7 := h.2.2.2.2.1.1.2.2; have h8 := h.2.2.2.2.1.2.1; have h9 := h.2.2.2.2.1.2.2; have h10 := h.2.2.2.2.2.2.1; have h11 := h.2.2.2.2.2.2.2; omega, by omega⟩)⟩ dX12_nextBack_48
  · refine kx_if_eq 8 F 43 dX12_nextBack_5 (by decide) rfl (by omega) (fun h_114 => ?_) (fun h_114 => (by exfalso; omega))
    refine kx_aload_n 44 F 0 dX12_nextBack_43 rfl rfl rfl ?_
    refine kx_iconst 45 F dX12_nextBack_44 rfl ?_
    refine kx_Vi 48 (ci := 0) F (As := [vI 1]) (st := []) vd_X12_123 (c_X12_refuse G l M 1 hI_M (by omega)) kd_163 rfl rfl rfl ⟨by decide, by decide⟩ rfl rfl (Nat.le_of_ble_eq_true rfl) dX12_nextBack_45 rfl ?_
    intro r_115 N_116 q_117
    obtain ⟨hI_N_116, hG_N_116, q_117c⟩ := q_117
    have hF_N_116 : Fr f_e_nextBack3m M N_116 := Fr.c hF_M hG_N_116 rfl
    subst q_117c
    exact kx_iret F hQ ⟨hI_N_116, hF_N_116, (by omega), (Or.inr ⟨fun h => by have h1 := h.1; have h2 := h.2.1; have h3 := h.2.2.1; have h4 := h.2.2.2.1; have h5 := h.2.2.2.2.1.1.1; have h6 := h.2.2.2.2.1.1.2.1; have h7 := h.2.2.2.2.1.1.2.2; have h8 := h.2.2.2.2.1.2.1; have h9 := h.2.2.2.2.1.2.2; have h10 := h.2.2.2.2.2.2.1; have h11 := h.2.2.2.2.2.2.2; omega, by omega⟩)⟩ dX12_nextBack_48
