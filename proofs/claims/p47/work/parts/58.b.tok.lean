abbrev f_e_X1_fail : List (Nat × Int) := [(17, 2), (17, 3)]
set_option maxHeartbeats 4000000 in
set_option maxRecDepth 100000 in
theorem e_X1_fail (G : KG) (l : Launch) (M : Mem) (c0 : Int) (a1 : Int) (hI_M : Inv false M) (hk_c0 : kd c0 = 17) (hpre : -2147483648 ≤ a1 ∧ a1 ≤ 2147483647) : KC false G l yX1_fail cX1_fail 2 (some .boolean) (0, 0) [vR G c0, vI a1] M (fun A => kQi false G A (fun (r : Int) (N : Mem) => Inv false N ∧ Fr f_e_X1_fail M N ∧ (r = 0 ∧ (N c0 2) = a1 ∧ (N c0 3) = (M c0 7)))) := by
  refine kx_met (lo := [some (vR G c0), some (vI a1)]) (by decide) (Nat.le_of_ble_eq_true rfl) rfl ?_
  intro X F hQ
  have hF_M : Fr f_e_X1_fail M M := Fr.rf _ _
  refine kx_aload_n 1 F 0 dX1_fail_0 rfl rfl rfl ?_
  refine kx_iload_n 2 F 1 dX1_fail_1 rfl rfl rfl ?_
  refine kx_puti 5 F fw_X1_18 rfl hk_c0 rfl rfl (j := 2) rfl dX1_fail_2 rfl ?_
  intro N_1 hM_N_1
  have hI_N_1 : Inv false N_1 := Inv.u hI_M hM_N_1 hk_c0 (a := (-2147483648)) (b := 2147483647) rfl rfl rfl (by omega)
  have hF_N_1 : Fr f_e_X1_fail M N_1 := Fr.u hF_M hM_N_1 hk_c0 rfl
  refine kx_aload_n 6 F 0 dX1_fail_5 rfl rfl rfl ?_
  refine kx_aload_n 7 F 0 dX1_fail_6 rfl rfl rfl ?_
  refine kx_geti 10 F fl_X1_51 hk_c0 rfl rfl (j := 7) rfl dX1_fail_7 (v := (M c0 7)) (by rw [hM_N_1, mu_i (by omega)]) rfl ?_
  have h_2 := Inv.g hI_M hk_c0 rfl 7 (a := 0) (b := 900) rfl rfl
  refine kx_puti 13 F fw_X1_22 rfl hk_c0 rfl rfl (j := 3) rfl dX1_fail_10 rfl ?_
  intro N_3 hM_N_3
  have hI_N_3 : Inv false N_3 := Inv.u hI_N_1 hM_N_3 hk_c0 (a := (-2147483648)) (b := 2147483647) rfl rfl rfl (by omega)
  have hF_N_3 : Fr f_e_X1_fail M N_3 := Fr.u hF_N_1 hM_N_3 hk_c0 rfl
  refine kx_iconst 14 F dX1_fail_13 rfl ?_
  have e_4 : (N_3 c0 2) = a1 := by rw [hM_N_3, mu_i (by omega), hM_N_1, mu_s]
  have e_5 : (N_3 c0 3) = (M c0 7) := by rw [hM_N_3, mu_s]
  exact kx_zret F hQ (by omega) ⟨hI_N_3, hF_N_3, (by omega)⟩ dX1_fail_14
set_option maxHeartbeats 4000000 in
set_option maxRecDepth 100000 in
theorem e_X1_byteAt (G : KG) (l : Launch) (M : Mem) (c0 : Int) (a1 : Int) (hI_M : Inv false M) (hk_c0 : kd c0 = 17) (hpre : -2147483648 ≤ a1 ∧ a1 ≤ 2147483647) (Bt : Int → Int) (hB : TB M c0 Bt) : KC false G l yX1_byteAt cX1_byteAt 2 (some .int) (0, 0) [vR G c0, vI a1] M (fun A => kQi false G A (fun (r : Int) (N : Mem) => M = N ∧ ((r = (Bt a1) ∧ (Bt a1) ≤ 127 ∧ (Bt a1) ≥ -1) ∨ (r = (Bt a1) - 256 ∧ (Bt a1) ≥ 128 ∧ (Bt a1) ≤ 255)))) := by
  refine kx_met (lo := [some (vR G c0), some (vI a1)]) (by decide) (Nat.le_of_ble_eq_true rfl) rfl ?_
  intro X F hQ
  have hb_1 := hB a1
  have hc_2 := ck_c (Bt a1)
  refine kx_iload_n 1 F 1 dX1_byteAt_0 rfl rfl rfl ?_
  refine kx_if_lt 4 F 21 dX1_byteAt_1 (by decide) rfl (by omega) (fun h_3 => ?_) (fun h_3 => ?_)
  · refine kx_iconst 22 F dX1_byteAt_21 rfl ?_
    exact kx_iret F hQ ⟨rfl, (by omega)⟩ dX1_byteAt_22
  · refine kx_iload_n 5 F 1 dX1_byteAt_4 rfl rfl rfl ?_
    refine kx_aload_n 6 F 0 dX1_byteAt_5 rfl rfl rfl ?_
    refine kx_geti 9 F fl_X1_45 hk_c0 rfl rfl (j := 5) rfl dX1_byteAt_6 (v := (M c0 5)) rfl rfl ?_
    have h_4 := Inv.g hI_M hk_c0 rfl 5 (a := 0) (b := 900) rfl rfl
    refine kx_icmp_ge 12 F 21 dX1_byteAt_9 (by decide) rfl (by omega) (by omega) (fun h_5 => ?_) (fun h_5 => ?_)
    · refine kx_iconst 22 F dX1_byteAt_21 rfl ?_
      exact kx_iret F hQ ⟨rfl, (by omega)⟩ dX1_byteAt_22
    · refine kx_aload_n 13 F 0 dX1_byteAt_12 rfl rfl rfl ?_
      refine kx_getr 16 F fl_X1_25 hk_c0 rfl rfl (j := 4) rfl dX1_byteAt_13 (v := (M c0 4)) rfl rfl ?_
      have hk_6 : kd (M c0 4) = 18 := Inv.r hI_M hk_c0 rfl 4 rfl rfl
      refine kx_iload_n 17 F 1 dX1_byteAt_16 rfl rfl rfl ?_
      refine kx_bald 18 F hk_6 rfl rfl (by omega) (by decide) dX1_byteAt_17 (v := (M (M c0 4) a1)) rfl rfl ?_
      have h_7 := Inv.g hI_M hk_6 rfl a1 (a := (-128)) (b := 127) rfl rfl
      refine kx_goto 22 F dX1_byteAt_18 (by decide) ?_
      exact kx_iret F hQ ⟨rfl, (by omega)⟩ dX1_byteAt_22
set_option maxHeartbeats 4000000 in
set_option maxRecDepth 100000 in
theorem e_X1_kindAt (G : KG) (l : Launch) (M : Mem) (c0 : Int) (a1 : Int) (hI_M : Inv false M) (hk_c0 : kd c0 = 17) (hpre : -2147483648 ≤ a1 ∧ a1 ≤ 2147483647 ∧ 0 ≤ a1) (Bt : Int → Int) (hB : TB M c0 Bt) : KC false G l yX1_kindAt cX1_kindAt 3 (some .int) (0, 0) [vR G c0, vI a1] M (fun A => kQi false G A (fun (r : Int) (N : Mem) => M = N ∧ ((r = (ck (Bt a1)) ∧ r = 0 ∧ a1 ≥ (M c0 5)) ∨ (r = (ck (Bt a1)) ∧ r ≥ 1 ∧ r ≤ 5 ∧ a1 < (M c0 5))))) := by
  refine kx_met (lo := [some (vR G c0), some (vI a1), none]) (by decide) (Nat.le_of_ble_eq_true rfl) rfl ?_
  intro X F hQ
  have hb_1 := hB a1
  have hc_2 := ck_c (Bt a1)
  refine kx_iload_n 1 F 1 dX1_kindAt_0 rfl rfl rfl ?_
  refine kx_aload_n 2 F 0 dX1_kindAt_1 rfl rfl rfl ?_
  refine kx_geti 5 F fl_X1_45 hk_c0 rfl rfl (j := 5) rfl dX1_kindAt_2 (v := (M c0 5)) rfl rfl ?_
  have h_3 := Inv.g hI_M hk_c0 rfl 5 (a := 0) (b := 900) rfl rfl
  refine kx_icmp_lt 8 F 10 dX1_kindAt_5 (by decide) rfl (by omega) (by omega) (fun h_4 => ?_) (fun h_4 => ?_)
  · refine kx_aload_n 11 F 0 dX1_kindAt_10 rfl rfl rfl ?_
    refine kx_getr 14 F fl_X1_25 hk_c0 rfl rfl (j := 4) rfl dX1_kindAt_11 (v := (M c0 4)) rfl rfl ?_
    have hk_5 : kd (M c0 4) = 18 := Inv.r hI_M hk_c0 rfl 4 rfl rfl
    refine kx_iload_n 15 F 1 dX1_kindAt_14 rfl rfl rfl ?_
    refine kx_bald 16 F hk_5 rfl rfl (by omega) (by decide) dX1_kindAt_15 (v := (M (M c0 4) a1)) rfl rfl ?_
    have h_6 := Inv.g hI_M hk_5 rfl a1 (a := (-128)) (b := 127) rfl rfl
    refine kx_istore_n 17 F 2 (lo' := [some (vR G c0), some (vI a1), some (vI (M (M c0 4) a1))]) dX1_kindAt_16 rfl (by decide) rfl rfl rfl ?_
    refine kx_iload_n 18 F 2 dX1_kindAt_17 rfl rfl rfl ?_
    refine kx_bipush 20 F dX1_kindAt_18 (by decide) rfl ?_
    refine kx_icmp_lt 23 F 31 dX1_kindAt_20 (by decide) rfl (by omega) (by decide) (fun h_7 => ?_) (fun h_7 => ?_)
    · refine kx_iload_n 32 F 2 dX1_kindAt_31 rfl rfl rfl ?_
      refine kx_bipush 34 F dX1_kindAt_32 (by decide) rfl ?_
      refine kx_icmp_lt 37 F 45 dX1_kindAt_34 (by decide) rfl (by omega) (by decide) (fun h_8 => ?_) (fun h_8 => ?_)
      · refine kx_iload_n 46 F 2 dX1_kindAt_45 rfl rfl rfl ?_
        refine kx_bipush 48 F dX1_kindAt_46 (by decide) rfl ?_
        refine kx_icmp_ne 51 F 53 dX1_kindAt_48 (by decide) rfl (by omega) (by decide) (fun h_9 => ?_) (fun h_9 => (by exfalso; omega))
        refine kx_iload_n 54 F 2 dX1_kindAt_53 rfl rfl rfl ?_
        refine kx_bipush 56 F dX1_kindAt_54 (by decide) rfl ?_
        refine kx_icmp_eq 59 F 65 dX1_kindAt_56 (by decide) rfl (by omega) (by decide) (fun h_10 => ?_) (fun h_10 => ?_)
        · refine kx_iconst 66 F dX1_kindAt_65 rfl ?_
          refine kx_goto 70 F dX1_kindAt_66 (by decide) ?_
          exact kx_iret F hQ ⟨rfl, (by omega)⟩ dX1_kindAt_70
        · refine kx_iload_n 60 F 2 dX1_kindAt_59 rfl rfl rfl ?_
          refine kx_bipush 62 F dX1_kindAt_60 (by decide) rfl ?_
          refine kx_icmp_ne 65 F 69 dX1_kindAt_62 (by decide) rfl (by omega) (by decide) (fun h_11 => ?_) (fun h_11 => ?_)
          · refine kx_iconst 70 F dX1_kindAt_69 rfl ?_
            exact kx_iret F hQ ⟨rfl, (by omega)⟩ dX1_kindAt_70
          · refine kx_iconst 66 F dX1_kindAt_65 rfl ?_
            refine kx_goto 70 F dX1_kindAt_66 (by decide) ?_
            exact kx_iret F hQ ⟨rfl, (by omega)⟩ dX1_kindAt_70
      · refine kx_iload_n 38 F 2 dX1_kindAt_37 rfl rfl rfl ?_
        refine kx_bipush 40 F dX1_kindAt_38 (by decide) rfl ?_
        refine kx_icmp_gt 43 F 45 dX1_kindAt_40 (by decide) rfl (by omega) (by decide) (fun h_12 => ?_) (fun h_12 => ?_)
        · refine kx_iload_n 46 F 2 dX1_kindAt_45 rfl rfl rfl ?_
          refine kx_bipush 48 F dX1_kindAt_46 (by decide) rfl ?_
          refine kx_icmp_ne 51 F 53 dX1_kindAt_48 (by decide) rfl (by omega) (by decide) (fun h_13 => ?_) (fun h_13 => ?_)
          · refine kx_iload_n 54 F 2 dX1_kindAt_53 rfl rfl rfl ?_
            refine kx_bipush 56 F dX1_kindAt_54 (by decide) rfl ?_
            refine kx_icmp_eq 59 F 65 dX1_kindAt_56 (by decide) rfl (by omega) (by decide) (fun h_14 => (by exfalso; omega)) (fun h_14 => ?_)
            refine kx_iload_n 60 F 2 dX1_kindAt_59 rfl rfl rfl ?_
            refine kx_bipush 62 F dX1_kindAt_60 (by decide) rfl ?_
            refine kx_icmp_ne 65 F 69 dX1_kindAt_62 (by decide) rfl (by omega) (by decide) (fun h_15 => ?_) (fun h_15 => (by exfalso; omega))
            refine kx_iconst 70 F dX1_kindAt_69 rfl ?_
            exact kx_iret F hQ ⟨rfl, (by omega)⟩ dX1_kindAt_70
          · refine kx_iconst 52 F dX1_kindAt_51 rfl ?_
            exact kx_iret F hQ ⟨rfl, (by omega)⟩ dX1_kindAt_52
        · refine kx_iconst 44 F dX1_kindAt_43 rfl ?_
          exact kx_iret F hQ ⟨rfl, (by omega)⟩ dX1_kindAt_44
    · refine kx_iload_n 24 F 2 dX1_kindAt_23 rfl rfl rfl ?_
      refine kx_bipush 26 F dX1_kindAt_24 (by decide) rfl ?_
      refine kx_icmp_gt 29 F 31 dX1_kindAt_26 (by decide) rfl (by omega) (by decide) (fun h_16 => ?_) (fun h_16 => ?_)
      · refine kx_iload_n 32 F 2 dX1_kindAt_31 rfl rfl rfl ?_
        refine kx_bipush 34 F dX1_kindAt_32 (by decide) rfl ?_
        refine kx_icmp_lt 37 F 45 dX1_kindAt_34 (by decide) rfl (by omega) (by decide) (fun h_17 => (by exfalso; omega)) (fun h_17 => ?_)
        refine kx_iload_n 38 F 2 dX1_kindAt_37 rfl rfl rfl ?_
        refine kx_bipush 40 F dX1_kindAt_38 (by decide) rfl ?_
        refine kx_icmp_gt 43 F 45 dX1_kindAt_40 (by decide) rfl (by omega) (by decide) (fun h_18 => ?_) (fun h_18 => (by exfalso; omega))
        refine kx_iload_n 46 F 2 dX1_kindAt_45 rfl rfl rfl ?_
        refine kx_bipush 48 F dX1_kindAt_46 (by decide) rfl ?_
        refine kx_icmp_ne 51 F 53 dX1_kindAt_48 (by decide) rfl (by omega) (by decide) (fun h_19 => ?_) (fun h_19 => (by exfalso; omega))
        refine kx_iload_n 54 F 2 dX1_kindAt_53 rfl rfl rfl ?_
        refine kx_bipush 56 F dX1_kindAt_54 (by decide) rfl ?_
        refine kx_icmp_eq 59 F 65 dX1_kindAt_56 (by decide) rfl (by omega) (by decide) (fun h_20 => (by exfalso; omega)) (fun h_20 => ?_)
        refine kx_iload_n 60 F 2 dX1_kindAt_59 rfl rfl rfl ?_
        refine kx_bipush 62 F dX1_kindAt_60 (by decide) rfl ?_
        refine kx_icmp_ne 65 F 69 dX1_kindAt_62 (by decide) rfl (by omega) (by decide) (fun h_21 => ?_) (fun h_21 => (by exfalso; omega))
        refine kx_iconst 70 F dX1_kindAt_69 rfl ?_
        exact kx_iret F hQ ⟨rfl, (by omega)⟩ dX1_kindAt_70
      · refine kx_iconst 30 F dX1_kindAt_29 rfl ?_
        exact kx_iret F hQ ⟨rfl, (by omega)⟩ dX1_kindAt_30
  · refine kx_iconst 9 F dX1_kindAt_8 rfl ?_
    exact kx_iret F hQ ⟨rfl, (by omega)⟩ dX1_kindAt_9
abbrev f_e_X1_reckonValue : List (Nat × Int) := [(17, 9)]
set_option maxHeartbeats 4000000 in
set_option maxRecDepth 100000 in
theorem e_X1_reckonValue (G : KG) (l : Launch) (M : Mem) (c0 : Int) (hI_M : Inv false M) (hk_c0 : kd c0 = 17) (Bt : Int → Int) (hB : TB M c0 Bt) (j : Int) (hj : 0 ≤ j) (hv : M c0 7 = tp Bt j ∧ M c0 7 + M c0 8 = tq Bt j ∧ tk Bt j = 2 ∧ M c0 8 ≤ 4 ∧ 1 ≤ M c0 8) : KC false G l yX1_reckonValue cX1_reckonValue 2 none (1, 21) [vR G c0] M (fun A => kQv false G A (fun (N : Mem) => Inv false N ∧ Fr f_e_X1_reckonValue M N ∧ ((N c0 9) = (tv Bt j) ∧ (N c0 9) ≥ 0 ∧ (N c0 9) ≤ 9999))) := by
  refine kx_met (lo := [some (vR G c0), none]) (by decide) (Nat.le_of_ble_eq_true rfl) rfl ?_
  intro X F hQ
  have hF_M : Fr f_e_X1_reckonValue M M := Fr.rf _ _
  refine kx_aload_n 1 F 0 dX1_reckonValue_0 rfl rfl rfl ?_
  refine kx_iconst 2 F dX1_reckonValue_1 rfl ?_
  refine kx_puti 5 F fw_X1_127 rfl hk_c0 rfl rfl (j := 9) rfl dX1_reckonValue_2 rfl ?_
  intro N_1 hM_N_1
  have hI_N_1 : Inv false N_1 := Inv.u hI_M hM_N_1 hk_c0 (a := (-2147483648)) (b := 2147483647) rfl rfl rfl (by omega)
  have hF_N_1 : Fr f_e_X1_reckonValue M N_1 := Fr.u hF_M hM_N_1 hk_c0 rfl
  refine kx_iconst 6 F dX1_reckonValue_5 rfl ?_
  refine kx_istore_n 7 F 1 (lo' := [some (vR G c0), some (vI 0)]) dX1_reckonValue_6 rfl (by decide) rfl rfl rfl ?_
  have L_58 : ∀ (n_59 : Nat) (x1_56 : Int) (N_57 : Mem), Inv false N_57 → Fr f_e_X1_reckonValue M N_57 → DV N_57 c0 Bt j x1_56 → 0 ≤ x1_56 ∧ x1_56 ≤ 4 ∧ x1_56 ≤ (M c0 8) → (4 - (x1_56)).toNat = n_59 → KJ false G X N_57 7 [some (vR G c0), some (vI x1_56)] [] := by
    intro n_59
    refine Nat.strongRecOn n_59 ?_
    intro n_59 ih_60 x1_56 N_57 hI_N_57 hF_N_57 hp_63 h_61 hm_62
    refine kx_iload_n 8 F 1 dX1_reckonValue_7 rfl rfl rfl ?_
    refine kx_aload_n 9 F 0 dX1_reckonValue_8 rfl rfl rfl ?_
    refine kx_geti 12 F fl_X1_54 hk_c0 rfl rfl (j := 8) rfl dX1_reckonValue_9 (v := (M c0 8)) (by rw [Fr.e hF_N_57 hk_c0 _ rfl]) rfl ?_
    have h_64 := Inv.g hI_M hk_c0 rfl 8 (a := 0) (b := 900) rfl rfl
    refine kx_icmp_ge 15 F 46 dX1_reckonValue_12 (by decide) rfl (by omega) (by omega) (fun h_65 => ?_) (fun h_65 => ?_)
    · have hd_66 := DV.b hp_63 (TB.tx hB hI_M hk_c0) hj hv.2.2.1 (by omega) (by omega)
      have hd_67 := DV.done hp_63 (by omega)
      have h_68 := Inv.g hI_N_57 hk_c0 rfl 9 (a := (-2147483648)) (b := 2147483647) rfl rfl
      exact kx_vret F hQ ⟨hI_N_57, hF_N_57, (by omega)⟩ dX1_reckonValue_46
    · have hd_69 := DV.b hp_63 (TB.tx hB hI_M hk_c0) hj hv.2.2.1 (by omega) (by omega)
      have hd_70 := tk_in (TB.tx hB hI_M hk_c0) hj (Or.inr hv.2.2.1) ((M c0 7) + x1_56) (by omega) (by omega)
      have hd_71 := ck_c (Bt ((M c0 7) + x1_56))
      refine kx_aload_n 16 F 0 dX1_reckonValue_15 rfl rfl rfl ?_
      refine kx_aload_n 17 F 0 dX1_reckonValue_16 rfl rfl rfl ?_
      refine kx_geti 20 F fl_X1_127 hk_c0 rfl rfl (j := 9) rfl dX1_reckonValue_17 (v := (N_57 c0 9)) rfl rfl ?_
      have h_72 := Inv.g hI_N_57 hk_c0 rfl 9 (a := (-2147483648)) (b := 2147483647) rfl rfl
      refine kx_bipush 22 F dX1_reckonValue_20 (by decide) rfl ?_
      refine kx_imul 23 F (v := 10 * (N_57 c0 9)) dX1_reckonValue_22 (by omega) rfl ?_
      refine kx_aload_n 24 F 0 dX1_reckonValue_23 rfl rfl rfl ?_
      refine kx_aload_n 25 F 0 dX1_reckonValue_24 rfl rfl rfl ?_
      refine kx_geti 28 F fl_X1_51 hk_c0 rfl rfl (j := 7) rfl dX1_reckonValue_25 (v := (M c0 7)) (by rw [Fr.e hF_N_57 hk_c0 _ rfl]) rfl ?_
      have h_73 := Inv.g hI_M hk_c0 rfl 7 (a := 0) (b := 900) rfl rfl
      refine kx_iload_n 29 F 1 dX1_reckonValue_28 rfl rfl rfl ?_
      refine kx_iadd 30 F (v := (M c0 7) + x1_56) dX1_reckonValue_29 rfl rfl ?_
      refine kx_Vi 33 (ci := 0) F (As := [vI ((M c0 7) + x1_56)]) (st := [vI (10 * (N_57 c0 9)), vR G c0]) vd_X1_196 (e_X1_byteAt G l N_57 c0 ((M c0 7) + x1_56) hI_N_57 hk_c0 (by omega) Bt (TB.fr hB hI_M hk_c0 hF_N_57 rfl)) hk_c0 rfl rfl rfl ⟨by decide, by decide⟩ rfl rfl (Nat.le_of_ble_eq_true rfl) dX1_reckonValue_30 rfl ?_
      intro r_74 N_75 q_76
      obtain ⟨rfl, q_76c⟩ := q_76
      rcases q_76c with q_76c | q_76c
      · refine kx_iadd 34 F (v := 10 * (N_57 c0 9) + r_74) dX1_reckonValue_33 rfl rfl ?_
        refine kx_bipush 36 F dX1_reckonValue_34 (by decide) rfl ?_
        refine kx_isub 37 F (v := 10 * (N_57 c0 9) + r_74 - 48) dX1_reckonValue_36 rfl rfl ?_
        refine kx_puti 40 F fw_X1_127 rfl hk_c0 rfl rfl (j := 9) rfl dX1_reckonValue_37 rfl ?_
        intro N_77 hM_N_77
        have hI_N_77 : Inv false N_77 := Inv.u hI_N_57 hM_N_77 hk_c0 (a := (-2147483648)) (b := 2147483647) rfl rfl rfl (by omega)
        have hF_N_77 : Fr f_e_X1_reckonValue M N_77 := Fr.u hF_N_57 hM_N_77 hk_c0 rfl
        refine kx_iinc 43 F 1 (v := x1_56 + 1) (lo' := [some (vR G c0), some (vI (x1_56 + 1))]) dX1_reckonValue_40 rfl (by omega) (by decide) rfl rfl rfl ?_
        refine kx_goto 7 F dX1_reckonValue_43 (by decide) ?_
        have e_78 : (N_77 c0 9) = 10 * (N_57 c0 9) + r_74 - 48 := by rw [hM_N_77, mu_s]
        exact ih_60 _ (by omega) (x1_56 + 1) N_77 hI_N_77 hF_N_77 (DV.step (P := M c0 7 + x1_56) hp_63 (by omega) (by omega) (by omega)) (by omega) rfl
      · exfalso; omega
  have e_79 : (N_1 c0 9) = 0 := by rw [hM_N_1, mu_s]
  exact L_58 _ 0 N_1 hI_N_1 hF_N_1 (DV.nil (by omega)) (by omega) rfl
abbrev f_e_X1_advance : List (Nat × Int) := [(17, 2), (17, 3), (17, 6), (17, 7), (17, 8), (17, 9)]
set_option maxHeartbeats 4000000 in
set_option maxRecDepth 100000 in
theorem e_X1_advance (G : KG) (l : Launch) (M : Mem) (c0 : Int) (hI_M : Inv false M) (hk_c0 : kd c0 = 17) (hpre : (M c0 7) + (M c0 8) ≤ 900) (Bt : Int → Int) (hB : TB M c0 Bt) (j jp : Int) (hj : 0 ≤ j) (hjp : jp = j - 1) (he : M c0 7 + M c0 8 = tq Bt jp) : KC false G l yX1_advance cX1_advance 2 (some .boolean) (2, 42) [vR G c0] M (fun A => kQi false G A (fun (r : Int) (N : Mem) => Inv false N ∧ Fr f_e_X1_advance M N ∧ (((N c0 7) = (tp Bt j) ∧ (N c0 7) + (N c0 8) = (tq Bt j) ∧ (N c0 6) = (tk Bt j) ∧ r = 1 ∧ (tbd Bt j) = 0 ∧ (tk Bt j) ≠ 2 ∧ (tk Bt j) ≤ 3 ∧ (N c0 2) = (M c0 2) ∧ (N c0 3) = (M c0 3)) ∨ ((N c0 7) = (tp Bt j) ∧ (N c0 7) + (N c0 8) = (tq Bt j) ∧ (N c0 6) = (tk Bt j) ∧ r = 1 ∧ (tbd Bt j) = 0 ∧ (tk Bt j) = 2 ∧ (N c0 8) ≤ 4 ∧ (N c0 9) = (tv Bt j) ∧ (N c0 9) ≥ 0 ∧ (N c0 9) ≤ 9999 ∧ (N c0 2) = (M c0 2) ∧ (N c0 3) = (M c0 3)) ∨ ((N c0 7) = (tp Bt j) ∧ (N c0 7) + (N c0 8) = (tq Bt j) ∧ (N c0 6) = (tk Bt j) ∧ r = 0 ∧ (tbd Bt j) = 1 ∧ (N c0 2) = 1 ∧ (N c0 3) = (tp Bt j))))) := by
  refine kx_met (lo := [some (vR G c0), none]) (by decide) (Nat.le_of_ble_eq_true rfl) rfl ?_
  intro X F hQ
  have hF_M : Fr f_e_X1_advance M M := Fr.rf _ _
  have h_1 := Inv.g hI_M hk_c0 rfl 7 (a := 0) (b := 900) rfl rfl
  have h_2 := Inv.g hI_M hk_c0 rfl 8 (a := 0) (b := 900) rfl rfl
  refine kx_aload_n 1 F 0 dX1_advance_0 rfl rfl rfl ?_
  refine kx_dup 2 F dX1_advance_1 rfl rfl ?_
  refine kx_geti 5 F fl_X1_51 hk_c0 rfl rfl (j := 7) rfl dX1_advance_2 (v := (M c0 7)) rfl rfl ?_
  refine kx_aload_n 6 F 0 dX1_advance_5 rfl rfl rfl ?_
  refine kx_geti 9 F fl_X1_54 hk_c0 rfl rfl (j := 8) rfl dX1_advance_6 (v := (M c0 8)) rfl rfl ?_
  refine kx_iadd 10 F (v := (M c0 7) + (M c0 8)) dX1_advance_9 rfl rfl ?_
  refine kx_puti 13 F fw_X1_51 rfl hk_c0 rfl rfl (j := 7) rfl dX1_advance_10 rfl ?_
  intro N_3 hM_N_3
  have hI_N_3 : Inv false N_3 := Inv.u hI_M hM_N_3 hk_c0 (a := 0) (b := 900) rfl rfl rfl (by omega)
  have hF_N_3 : Fr f_e_X1_advance M N_3 := Fr.u hF_M hM_N_3 hk_c0 rfl
  refine kx_iconst 14 F dX1_advance_13 rfl ?_
  refine kx_istore_n 15 F 1 (lo' := [some (vR G c0), some (vI 0)]) dX1_advance_14 rfl (by decide) rfl rfl rfl ?_
  have L_13058 : ∀ (n_13059 : Nat) (x1_13056 : Int) (N_13057 : Mem), Inv false N_13057 → Fr f_e_X1_advance M N_13057 → BL N_13057 c0 Bt (M c0 7 + M c0 8) → 0 ≤ x1_13056 ∧ x1_13056 ≤ 900 ∧ (N_13057 c0 7) = (M c0 7) + (M c0 8) + x1_13056 ∧ (N_13057 c0 2) = (M c0 2) ∧ (N_13057 c0 3) = (M c0 3) → (900 - (x1_13056)).toNat = n_13059 → KJ false G X N_13057 15 [some (vR G c0), some (vI x1_13056)] [] := by
    intro n_13059
    refine Nat.strongRecOn n_13059 ?_
    intro n_13059 ih_13060 x1_13056 N_13057 hI_N_13057 hF_N_13057 hp_13063 h_13061 hm_13062
    refine kx_iload_n 16 F 1 dX1_advance_15 rfl rfl rfl ?_
    refine kx_aload_n 17 F 0 dX1_advance_16 rfl rfl rfl ?_
    refine kx_geti 20 F fl_X1_45 hk_c0 rfl rfl (j := 5) rfl dX1_advance_17 (v := (M c0 5)) (by rw [Fr.e hF_N_13057 hk_c0 _ rfl]) rfl ?_
    have h_13064 := Inv.g hI_M hk_c0 rfl 5 (a := 0) (b := 900) rfl rfl
    refine kx_icmp_ge 23 F 51 dX1_advance_20 (by decide) rfl (by omega) (by omega) (fun h_13065 => ?_) (fun h_13065 => ?_)
    · have h_13066 := Inv.g hI_N_13057 hk_c0 rfl 7 (a := 0) (b := 900) rfl rfl
      have hx_13067 : (N_13057 c0 7) = tp Bt j := BL.done hp_13063 (TB.tx hB hI_M hk_c0) hj hjp he (by omega) (by omega)
      have hx_13068 : ck (Bt (N_13057 c0 7)) = tk Bt j := by rw [hx_13067]; rfl
      have ht_13069 := tp_le (n := M c0 5) (TB.tx hB hI_M hk_c0) (Inv.g hI_M hk_c0 rfl 5 (a := 0) (b := 900) rfl rfl).1 (j := j) (by omega)
      have ht_13070 := tq_end (n := M c0 5) (TB.tx hB hI_M hk_c0) (j := j) (by omega)
      have ht_13071 := tbd_c Bt j
      have ht_13072 : 0 ≤ tk Bt j ∧ tk Bt j ≤ 4 := tk_b (n := M c0 5) (TB.tx hB hI_M hk_c0) (by omega)
      refine kx_aload_n 52 F 0 dX1_advance_51 rfl rfl rfl ?_
      refine kx_aload_n 53 F 0 dX1_advance_52 rfl rfl rfl ?_
      refine kx_aload_n 54 F 0 dX1_advance_53 rfl rfl rfl ?_
      refine kx_geti 57 F fl_X1_51 hk_c0 rfl rfl (j := 7) rfl dX1_advance_54 (v := (N_13057 c0 7)) rfl rfl ?_
      refine kx_Vi 60 (ci := 0) F (As := [vI (N_13057 c0 7)]) (st := [vR G c0]) vd_X1_209 (e_X1_kindAt G l N_13057 c0 (N_13057 c0 7) hI_N_13057 hk_c0 (by omega) Bt (TB.fr hB hI_M hk_c0 hF_N_13057 rfl)) hk_c0 rfl rfl rfl ⟨by decide, by decide⟩ rfl rfl (Nat.le_of_ble_eq_true rfl) dX1_advance_57 rfl ?_
      intro r_13074 N_13075 q_13076
      obtain ⟨rfl, q_13076c⟩ := q_13076
      have e_13077 : (N_13057 c0 5) = (M c0 5) := by rw [Fr.e hF_N_13057 hk_c0 _ rfl]
      rcases q_13076c with q_13076c | q_13076c
      · refine kx_puti 63 F fw_X1_61 rfl hk_c0 rfl rfl (j := 6) rfl dX1_advance_60 rfl ?_
        intro N_13081 hM_N_13081
        have hI_N_13081 : Inv false N_13081 := Inv.u hI_N_13057 hM_N_13081 hk_c0 (a := 0) (b := 5) rfl rfl rfl (by omega)
        have hF_N_13081 : Fr f_e_X1_advance M N_13081 := Fr.u hF_N_13057 hM_N_13081 hk_c0 rfl
        refine kx_aload_n 64 F 0 dX1_advance_63 rfl rfl rfl ?_
        refine kx_aload_n 65 F 0 dX1_advance_64 rfl rfl rfl ?_
        refine kx_geti 68 F fl_X1_61 hk_c0 rfl rfl (j := 6) rfl dX1_advance_65 (v := r_13074) (by rw [hM_N_13081, mu_s]) rfl ?_
        refine kx_if_ne 71 F 75 dX1_advance_68 (by decide) rfl (by omega) (fun h_13082 => (by exfalso; omega)) (fun h_13082 => ?_)
        refine kx_iconst 72 F dX1_advance_71 rfl ?_
        refine kx_goto 76 F dX1_advance_72 (by decide) ?_
        refine kx_puti 79 F fw_X1_54 rfl hk_c0 rfl rfl (j := 8) rfl dX1_advance_76 rfl ?_
        intro N_13083 hM_N_13083
        have hI_N_13083 : Inv false N_13083 := Inv.u hI_N_13081 hM_N_13083 hk_c0 (a := 0) (b := 900) rfl rfl rfl (by omega)
        have hF_N_13083 : Fr f_e_X1_advance M N_13083 := Fr.u hF_N_13081 hM_N_13083 hk_c0 rfl
        refine kx_aload_n 80 F 0 dX1_advance_79 rfl rfl rfl ?_
        refine kx_geti 83 F fl_X1_61 hk_c0 rfl rfl (j := 6) rfl dX1_advance_80 (v := r_13074) (by rw [hM_N_13083, mu_i (by omega), hM_N_13081, mu_s]) rfl ?_
        refine kx_iconst 84 F dX1_advance_83 rfl ?_
        refine kx_icmp_eq 87 F 95 dX1_advance_84 (by decide) rfl (by omega) (by decide) (fun h_13084 => (by exfalso; omega)) (fun h_13084 => ?_)
        refine kx_aload_n 88 F 0 dX1_advance_87 rfl rfl rfl ?_
        refine kx_geti 91 F fl_X1_61 hk_c0 rfl rfl (j := 6) rfl dX1_advance_88 (v := r_13074) (by rw [hM_N_13083, mu_i (by omega), hM_N_13081, mu_s]) rfl ?_
        refine kx_iconst 92 F dX1_advance_91 rfl ?_
        refine kx_icmp_ne 95 F 141 dX1_advance_92 (by decide) rfl (by omega) (by decide) (fun h_13085 => ?_) (fun h_13085 => (by exfalso; omega))
        refine kx_aload_n 142 F 0 dX1_advance_141 rfl rfl rfl ?_
        refine kx_geti 145 F fl_X1_61 hk_c0 rfl rfl (j := 6) rfl dX1_advance_142 (v := r_13074) (by rw [hM_N_13083, mu_i (by omega), hM_N_13081, mu_s]) rfl ?_
        refine kx_iconst 146 F dX1_advance_145 rfl ?_
        refine kx_icmp_eq 149 F 165 dX1_advance_146 (by decide) rfl (by omega) (by decide) (fun h_13086 => (by exfalso; omega)) (fun h_13086 => ?_)
        refine kx_aload_n 150 F 0 dX1_advance_149 rfl rfl rfl ?_
        refine kx_geti 153 F fl_X1_61 hk_c0 rfl rfl (j := 6) rfl dX1_advance_150 (v := r_13074) (by rw [hM_N_13083, mu_i (by omega), hM_N_13081, mu_s]) rfl ?_
        refine kx_iconst 154 F dX1_advance_153 rfl ?_
        refine kx_icmp_ne 157 F 171 dX1_advance_154 (by decide) rfl (by omega) (by decide) (fun h_13087 => ?_) (fun h_13087 => (by exfalso; omega))
        refine kx_aload_n 172 F 0 dX1_advance_171 rfl rfl rfl ?_
        refine kx_geti 175 F fl_X1_61 hk_c0 rfl rfl (j := 6) rfl dX1_advance_172 (v := r_13074) (by rw [hM_N_13083, mu_i (by omega), hM_N_13081, mu_s]) rfl ?_
        refine kx_iconst 176 F dX1_advance_175 rfl ?_
        refine kx_icmp_ne 179 F 183 dX1_advance_176 (by decide) rfl (by omega) (by decide) (fun h_13088 => ?_) (fun h_13088 => (by exfalso; omega))
        refine kx_iconst 184 F dX1_advance_183 rfl ?_
        have e_13089 : (N_13083 c0 7) = (N_13057 c0 7) := by rw [hM_N_13083, mu_i (by omega), hM_N_13081, mu_i (by omega)]
        have e_13091 : (N_13083 c0 8) = 0 := by rw [hM_N_13083, mu_s]
        have e_13092 : (N_13083 c0 6) = r_13074 := by rw [hM_N_13083, mu_i (by omega), hM_N_13081, mu_s]
        have e_13093 : (N_13083 c0 2) = (N_13057 c0 2) := by rw [hM_N_13083, mu_i (by omega), hM_N_13081, mu_i (by omega)]
        have h_13094 := Inv.g hI_N_13057 hk_c0 rfl 2 (a := (-2147483648)) (b := 2147483647) rfl rfl
        have e_13095 : (N_13083 c0 3) = (N_13057 c0 3) := by rw [hM_N_13083, mu_i (by omega), hM_N_13081, mu_i (by omega)]
        have h_13096 := Inv.g hI_N_13057 hk_c0 rfl 3 (a := (-2147483648)) (b := 2147483647) rfl rfl
        have e_13102 : (N_13083 c0 9) = (N_13057 c0 9) := by rw [hM_N_13083, mu_i (by omega), hM_N_13081, mu_i (by omega)]
        have h_13103 := Inv.g hI_N_13057 hk_c0 rfl 9 (a := (-2147483648)) (b := 2147483647) rfl rfl
        exact kx_zret F hQ (by omega) ⟨hI_N_13083, hF_N_13083, (Or.inl (by omega))⟩ dX1_advance_184
      · refine kx_puti 63 F fw_X1_61 rfl hk_c0 rfl rfl (j := 6) rfl dX1_advance_60 rfl ?_
        intro N_13114 hM_N_13114
        have hI_N_13114 : Inv false N_13114 := Inv.u hI_N_13057 hM_N_13114 hk_c0 (a := 0) (b := 5) rfl rfl rfl (by omega)
        have hF_N_13114 : Fr f_e_X1_advance M N_13114 := Fr.u hF_N_13057 hM_N_13114 hk_c0 rfl
        refine kx_aload_n 64 F 0 dX1_advance_63 rfl rfl rfl ?_
        refine kx_aload_n 65 F 0 dX1_advance_64 rfl rfl rfl ?_
        refine kx_geti 68 F fl_X1_61 hk_c0 rfl rfl (j := 6) rfl dX1_advance_65 (v := r_13074) (by rw [hM_N_13114, mu_s]) rfl ?_
        refine kx_if_ne 71 F 75 dX1_advance_68 (by decide) rfl (by omega) (fun h_13115 => ?_) (fun h_13115 => (by exfalso; omega))
        refine kx_iconst 76 F dX1_advance_75 rfl ?_
        refine kx_puti 79 F fw_X1_54 rfl hk_c0 rfl rfl (j := 8) rfl dX1_advance_76 rfl ?_
        intro N_13116 hM_N_13116
        have hI_N_13116 : Inv false N_13116 := Inv.u hI_N_13114 hM_N_13116 hk_c0 (a := 0) (b := 900) rfl rfl rfl (by omega)
        have hF_N_13116 : Fr f_e_X1_advance M N_13116 := Fr.u hF_N_13114 hM_N_13116 hk_c0 rfl
        refine kx_aload_n 80 F 0 dX1_advance_79 rfl rfl rfl ?_
        refine kx_geti 83 F fl_X1_61 hk_c0 rfl rfl (j := 6) rfl dX1_advance_80 (v := r_13074) (by rw [hM_N_13116, mu_i (by omega), hM_N_13114, mu_s]) rfl ?_
        refine kx_iconst 84 F dX1_advance_83 rfl ?_
        refine kx_icmp_eq 87 F 95 dX1_advance_84 (by decide) rfl (by omega) (by decide) (fun h_13117 => ?_) (fun h_13117 => ?_)
        · refine kx_iconst 96 F dX1_advance_95 rfl ?_
          refine kx_istore_n 97 F 1 (lo' := [some (vR G c0), some (vI 0)]) dX1_advance_96 rfl (by decide) rfl rfl rfl ?_
          have L_13341 : ∀ (n_13342 : Nat) (x1_13339 : Int) (N_13340 : Mem), Inv false N_13340 → Fr f_e_X1_advance M N_13340 → RU N_13340 c0 Bt j → 0 ≤ x1_13339 ∧ x1_13339 ≤ 750 ∧ (N_13340 c0 7) = (tp Bt j) ∧ (N_13340 c0 6) = (tk Bt j) ∧ (N_13340 c0 8) = x1_13339 + 1 ∧ (tk Bt j) ≥ 1 ∧ (tk Bt j) ≤ 2 ∧ (N_13340 c0 2) = (M c0 2) ∧ (N_13340 c0 3) = (M c0 3) → (750 - (x1_13339)).toNat = n_13342 → KJ false G X N_13340 97 [some (vR G c0), some (vI x1_13339)] [] := by
            intro n_13342
            refine Nat.strongRecOn n_13342 ?_
            intro n_13342 ih_13343 x1_13339 N_13340 hI_N_13340 hF_N_13340 hp_13346 h_13344 hm_13345
            refine kx_iload_n 98 F 1 dX1_advance_97 rfl rfl rfl ?_
            refine kx_aload_n 99 F 0 dX1_advance_98 rfl rfl rfl ?_
            refine kx_geti 102 F fl_X1_45 hk_c0 rfl rfl (j := 5) rfl dX1_advance_99 (v := (M c0 5)) (by rw [Fr.e hF_N_13340 hk_c0 _ rfl]) rfl ?_
            refine kx_icmp_ge 105 F 141 dX1_advance_102 (by decide) rfl (by omega) (by omega) (fun h_13347 => ?_) (fun h_13347 => ?_)
            · have h_13348 := Inv.g hI_N_13340 hk_c0 rfl 7 (a := 0) (b := 900) rfl rfl
              have h_13349 := Inv.g hI_N_13340 hk_c0 rfl 8 (a := 0) (b := 900) rfl rfl
              have hz_13350 : N_13340 c0 7 + N_13340 c0 8 = tq Bt j := RU.done hp_13346 (TB.tx hB hI_M hk_c0) hj (by omega) (by omega) (by omega) (by omega)
              refine kx_aload_n 142 F 0 dX1_advance_141 rfl rfl rfl ?_
              refine kx_geti 145 F fl_X1_61 hk_c0 rfl rfl (j := 6) rfl dX1_advance_142 (v := (N_13340 c0 6)) rfl rfl ?_
              have h_13351 := Inv.g hI_N_13340 hk_c0 rfl 6 (a := 0) (b := 5) rfl rfl
              refine kx_iconst 146 F dX1_advance_145 rfl ?_
              refine kx_icmp_eq 149 F 165 dX1_advance_146 (by decide) rfl (by omega) (by decide) (fun h_13352 => (by exfalso; omega)) (fun h_13352 => ?_)
              refine kx_aload_n 150 F 0 dX1_advance_149 rfl rfl rfl ?_
              refine kx_geti 153 F fl_X1_61 hk_c0 rfl rfl (j := 6) rfl dX1_advance_150 (v := (N_13340 c0 6)) rfl rfl ?_
              refine kx_iconst 154 F dX1_advance_153 rfl ?_
              refine kx_icmp_ne 157 F 171 dX1_advance_154 (by decide) rfl (by omega) (by decide) (fun h_13353 => (by exfalso; omega)) (fun h_13353 => (by exfalso; omega))
            · refine kx_aload_n 106 F 0 dX1_advance_105 rfl rfl rfl ?_
              refine kx_aload_n 107 F 0 dX1_advance_106 rfl rfl rfl ?_
              refine kx_geti 110 F fl_X1_51 hk_c0 rfl rfl (j := 7) rfl dX1_advance_107 (v := (N_13340 c0 7)) rfl rfl ?_
              have h_13354 := Inv.g hI_N_13340 hk_c0 rfl 7 (a := 0) (b := 900) rfl rfl
              refine kx_aload_n 111 F 0 dX1_advance_110 rfl rfl rfl ?_
              refine kx_geti 114 F fl_X1_54 hk_c0 rfl rfl (j := 8) rfl dX1_advance_111 (v := (N_13340 c0 8)) rfl rfl ?_
              have h_13355 := Inv.g hI_N_13340 hk_c0 rfl 8 (a := 0) (b := 900) rfl rfl
              refine kx_iadd 115 F (v := (N_13340 c0 7) + (N_13340 c0 8)) dX1_advance_114 rfl rfl ?_
              refine kx_Vi 118 (ci := 0) F (As := [vI ((N_13340 c0 7) + (N_13340 c0 8))]) (st := []) vd_X1_209 (e_X1_kindAt G l N_13340 c0 ((N_13340 c0 7) + (N_13340 c0 8)) hI_N_13340 hk_c0 (by omega) Bt (TB.fr hB hI_M hk_c0 hF_N_13340 rfl)) hk_c0 rfl rfl rfl ⟨by decide, by decide⟩ rfl rfl (Nat.le_of_ble_eq_true rfl) dX1_advance_115 rfl ?_
              intro r_13356 N_13357 q_13358
              obtain ⟨rfl, q_13358c⟩ := q_13358
              have e_13359 : (N_13340 c0 5) = (M c0 5) := by rw [Fr.e hF_N_13340 hk_c0 _ rfl]
              rcases q_13358c with q_13358c | q_13358c
              · refine kx_aload_n 119 F 0 dX1_advance_118 rfl rfl rfl ?_
                refine kx_geti 122 F fl_X1_61 hk_c0 rfl rfl (j := 6) rfl dX1_advance_119 (v := (N_13340 c0 6)) rfl rfl ?_
                have h_13363 := Inv.g hI_N_13340 hk_c0 rfl 6 (a := 0) (b := 5) rfl rfl
                refine kx_icmp_ne 125 F 141 dX1_advance_122 (by decide) rfl (by omega) (by omega) (fun h_13364 => ?_) (fun h_13364 => (by exfalso; omega))
                have hz_13365 : N_13340 c0 7 + N_13340 c0 8 = tq Bt j := RU.done hp_13346 (TB.tx hB hI_M hk_c0) hj (by omega) (by omega) (by omega) (by omega)
                refine kx_aload_n 142 F 0 dX1_advance_141 rfl rfl rfl ?_
                refine kx_geti 145 F fl_X1_61 hk_c0 rfl rfl (j := 6) rfl dX1_advance_142 (v := (N_13340 c0 6)) rfl rfl ?_
                refine kx_iconst 146 F dX1_advance_145 rfl ?_
                refine kx_icmp_eq 149 F 165 dX1_advance_146 (by decide) rfl (by omega) (by decide) (fun h_13366 => (by exfalso; omega)) (fun h_13366 => ?_)
                refine kx_aload_n 150 F 0 dX1_advance_149 rfl rfl rfl ?_
                refine kx_geti 153 F fl_X1_61 hk_c0 rfl rfl (j := 6) rfl dX1_advance_150 (v := (N_13340 c0 6)) rfl rfl ?_
                refine kx_iconst 154 F dX1_advance_153 rfl ?_
                refine kx_icmp_ne 157 F 171 dX1_advance_154 (by decide) rfl (by omega) (by decide) (fun h_13367 => ?_) (fun h_13367 => (by exfalso; omega))
                refine kx_aload_n 172 F 0 dX1_advance_171 rfl rfl rfl ?_
                refine kx_geti 175 F fl_X1_61 hk_c0 rfl rfl (j := 6) rfl dX1_advance_172 (v := (N_13340 c0 6)) rfl rfl ?_
                refine kx_iconst 176 F dX1_advance_175 rfl ?_
                refine kx_icmp_ne 179 F 183 dX1_advance_176 (by decide) rfl (by omega) (by decide) (fun h_13368 => ?_) (fun h_13368 => (by exfalso; omega))
                refine kx_iconst 184 F dX1_advance_183 rfl ?_
                have h_13369 := Inv.g hI_N_13340 hk_c0 rfl 2 (a := (-2147483648)) (b := 2147483647) rfl rfl
                have h_13370 := Inv.g hI_N_13340 hk_c0 rfl 3 (a := (-2147483648)) (b := 2147483647) rfl rfl
                have h_13371 := Inv.g hI_N_13340 hk_c0 rfl 9 (a := (-2147483648)) (b := 2147483647) rfl rfl
                exact kx_zret F hQ (by omega) ⟨hI_N_13340, hF_N_13340, (Or.inl (by omega))⟩ dX1_advance_184
              · refine kx_aload_n 119 F 0 dX1_advance_118 rfl rfl rfl ?_
                refine kx_geti 122 F fl_X1_61 hk_c0 rfl rfl (j := 6) rfl dX1_advance_119 (v := (N_13340 c0 6)) rfl rfl ?_
                have h_13372 := Inv.g hI_N_13340 hk_c0 rfl 6 (a := 0) (b := 5) rfl rfl
                refine kx_icmp_ne 125 F 141 dX1_advance_122 (by decide) rfl (by omega) (by omega) (fun h_13373 => ?_) (fun h_13373 => ?_)
                · have hz_13374 : N_13340 c0 7 + N_13340 c0 8 = tq Bt j := RU.done hp_13346 (TB.tx hB hI_M hk_c0) hj (by omega) (by omega) (by omega) (by omega)
                  refine kx_aload_n 142 F 0 dX1_advance_141 rfl rfl rfl ?_
                  refine kx_geti 145 F fl_X1_61 hk_c0 rfl rfl (j := 6) rfl dX1_advance_142 (v := (N_13340 c0 6)) rfl rfl ?_
                  refine kx_iconst 146 F dX1_advance_145 rfl ?_
                  refine kx_icmp_eq 149 F 165 dX1_advance_146 (by decide) rfl (by omega) (by decide) (fun h_13375 => (by exfalso; omega)) (fun h_13375 => ?_)
                  refine kx_aload_n 150 F 0 dX1_advance_149 rfl rfl rfl ?_
                  refine kx_geti 153 F fl_X1_61 hk_c0 rfl rfl (j := 6) rfl dX1_advance_150 (v := (N_13340 c0 6)) rfl rfl ?_
                  refine kx_iconst 154 F dX1_advance_153 rfl ?_
                  refine kx_icmp_ne 157 F 171 dX1_advance_154 (by decide) rfl (by omega) (by decide) (fun h_13376 => ?_) (fun h_13376 => (by exfalso; omega))
                  refine kx_aload_n 172 F 0 dX1_advance_171 rfl rfl rfl ?_
                  refine kx_geti 175 F fl_X1_61 hk_c0 rfl rfl (j := 6) rfl dX1_advance_172 (v := (N_13340 c0 6)) rfl rfl ?_
                  refine kx_iconst 176 F dX1_advance_175 rfl ?_
                  refine kx_icmp_ne 179 F 183 dX1_advance_176 (by decide) rfl (by omega) (by decide) (fun h_13377 => ?_) (fun h_13377 => (by exfalso; omega))
                  refine kx_iconst 184 F dX1_advance_183 rfl ?_
                  have h_13378 := Inv.g hI_N_13340 hk_c0 rfl 2 (a := (-2147483648)) (b := 2147483647) rfl rfl
                  have h_13379 := Inv.g hI_N_13340 hk_c0 rfl 3 (a := (-2147483648)) (b := 2147483647) rfl rfl
                  have h_13380 := Inv.g hI_N_13340 hk_c0 rfl 9 (a := (-2147483648)) (b := 2147483647) rfl rfl
                  exact kx_zret F hQ (by omega) ⟨hI_N_13340, hF_N_13340, (Or.inl (by omega))⟩ dX1_advance_184
                · refine kx_aload_n 126 F 0 dX1_advance_125 rfl rfl rfl ?_
                  refine kx_dup 127 F dX1_advance_126 rfl rfl ?_
                  refine kx_geti 130 F fl_X1_54 hk_c0 rfl rfl (j := 8) rfl dX1_advance_127 (v := (N_13340 c0 8)) rfl rfl ?_
                  refine kx_iconst 131 F dX1_advance_130 rfl ?_
                  refine kx_iadd 132 F (v := (N_13340 c0 8) + 1) dX1_advance_131 rfl rfl ?_
                  refine kx_puti 135 F fw_X1_54 rfl hk_c0 rfl rfl (j := 8) rfl dX1_advance_132 rfl ?_
                  intro N_13381 hM_N_13381
                  have hI_N_13381 : Inv false N_13381 := Inv.u hI_N_13340 hM_N_13381 hk_c0 (a := 0) (b := 900) rfl rfl rfl (by omega)
                  have hF_N_13381 : Fr f_e_X1_advance M N_13381 := Fr.u hF_N_13340 hM_N_13381 hk_c0 rfl
                  refine kx_iinc 138 F 1 (v := x1_13339 + 1) (lo' := [some (vR G c0), some (vI (x1_13339 + 1))]) dX1_advance_135 rfl (by omega) (by decide) rfl rfl rfl ?_
                  refine kx_goto 97 F dX1_advance_138 (by decide) ?_
                  have e_13382 : (N_13381 c0 7) = (N_13340 c0 7) := by rw [hM_N_13381, mu_i (by omega)]
                  have e_13383 : (N_13381 c0 8) = (N_13340 c0 8) + 1 := by rw [hM_N_13381, mu_s]
                  have e_13385 : (N_13381 c0 6) = (N_13340 c0 6) := by rw [hM_N_13381, mu_i (by omega)]
                  have e_13387 : (N_13381 c0 2) = (N_13340 c0 2) := by rw [hM_N_13381, mu_i (by omega)]
                  have h_13388 := Inv.g hI_N_13340 hk_c0 rfl 2 (a := (-2147483648)) (b := 2147483647) rfl rfl
                  have e_13389 : (N_13381 c0 3) = (N_13340 c0 3) := by rw [hM_N_13381, mu_i (by omega)]
                  have h_13390 := Inv.g hI_N_13340 hk_c0 rfl 3 (a := (-2147483648)) (b := 2147483647) rfl rfl
                  exact ih_13343 _ (by omega) (x1_13339 + 1) N_13381 hI_N_13381 hF_N_13381 (RU.step hp_13346 (by omega) (by omega) (by omega)) (by omega) rfl
          have e_13391 : (N_13116 c0 7) = (N_13057 c0 7) := by rw [hM_N_13116, mu_i (by omega), hM_N_13114, mu_i (by omega)]
          have e_13392 : (N_13116 c0 8) = 1 := by rw [hM_N_13116, mu_s]
          have e_13394 : (N_13116 c0 6) = r_13074 := by rw [hM_N_13116, mu_i (by omega), hM_N_13114, mu_s]
          have e_13396 : (N_13116 c0 2) = (N_13057 c0 2) := by rw [hM_N_13116, mu_i (by omega), hM_N_13114, mu_i (by omega)]
          have h_13397 := Inv.g hI_N_13057 hk_c0 rfl 2 (a := (-2147483648)) (b := 2147483647) rfl rfl
          have e_13398 : (N_13116 c0 3) = (N_13057 c0 3) := by rw [hM_N_13116, mu_i (by omega), hM_N_13114, mu_i (by omega)]
          have h_13399 := Inv.g hI_N_13057 hk_c0 rfl 3 (a := (-2147483648)) (b := 2147483647) rfl rfl
          exact L_13341 _ 0 N_13116 hI_N_13116 hF_N_13116 (RU.one (by omega) (by omega)) (by omega) rfl
        · refine kx_aload_n 88 F 0 dX1_advance_87 rfl rfl rfl ?_
          refine kx_geti 91 F fl_X1_61 hk_c0 rfl rfl (j := 6) rfl dX1_advance_88 (v := r_13074) (by rw [hM_N_13116, mu_i (by omega), hM_N_13114, mu_s]) rfl ?_
          refine kx_iconst 92 F dX1_advance_91 rfl ?_
          refine kx_icmp_ne 95 F 141 dX1_advance_92 (by decide) rfl (by omega) (by decide) (fun h_13400 => ?_) (fun h_13400 => ?_)
          · refine kx_aload_n 142 F 0 dX1_advance_141 rfl rfl rfl ?_
            refine kx_geti 145 F fl_X1_61 hk_c0 rfl rfl (j := 6) rfl dX1_advance_142 (v := r_13074) (by rw [hM_N_13116, mu_i (by omega), hM_N_13114, mu_s]) rfl ?_
            refine kx_iconst 146 F dX1_advance_145 rfl ?_
            refine kx_icmp_eq 149 F 165 dX1_advance_146 (by decide) rfl (by omega) (by decide) (fun h_13401 => ?_) (fun h_13401 => ?_)
            · refine kx_aload_n 166 F 0 dX1_advance_165 rfl rfl rfl ?_
              refine kx_iconst 167 F dX1_advance_166 rfl ?_
              refine kx_Vi 170 (ci := 0) F (As := [vI 1]) (st := []) vd_X1_89 (e_X1_fail G l N_13116 c0 1 hI_N_13116 hk_c0 (by omega)) hk_c0 rfl rfl rfl ⟨by decide, by decide⟩ rfl rfl (Nat.le_of_ble_eq_true rfl) dX1_advance_167 rfl ?_
              intro r_13402 N_13403 q_13404
              obtain ⟨hI_N_13403, hG_N_13403, q_13404c⟩ := q_13404
              have hF_N_13403 : Fr f_e_X1_advance M N_13403 := Fr.c hF_N_13116 hG_N_13403 rfl
              have h_13405 := Inv.g hI_N_13403 hk_c0 rfl 2 (a := (-2147483648)) (b := 2147483647) rfl rfl
              have e_13406 : (N_13116 c0 7) = (N_13057 c0 7) := by rw [hM_N_13116, mu_i (by omega), hM_N_13114, mu_i (by omega)]
              have h_13407 := Inv.g hI_N_13403 hk_c0 rfl 3 (a := (-2147483648)) (b := 2147483647) rfl rfl
              have e_13408 : (N_13403 c0 7) = (N_13057 c0 7) := by rw [Fr.e hG_N_13403 hk_c0 _ rfl, hM_N_13116, mu_i (by omega), hM_N_13114, mu_i (by omega)]
              have e_13410 : (N_13403 c0 8) = 1 := by rw [Fr.e hG_N_13403 hk_c0 _ rfl, hM_N_13116, mu_s]
              have e_13411 : (N_13403 c0 6) = r_13074 := by rw [Fr.e hG_N_13403 hk_c0 _ rfl, hM_N_13116, mu_i (by omega), hM_N_13114, mu_s]
              have e_13417 : (N_13403 c0 9) = (N_13057 c0 9) := by rw [Fr.e hG_N_13403 hk_c0 _ rfl, hM_N_13116, mu_i (by omega), hM_N_13114, mu_i (by omega)]
              have h_13418 := Inv.g hI_N_13057 hk_c0 rfl 9 (a := (-2147483648)) (b := 2147483647) rfl rfl
              exact kx_zret F hQ (by omega) ⟨hI_N_13403, hF_N_13403, (Or.inr (Or.inr (by omega)))⟩ dX1_advance_170
            · refine kx_aload_n 150 F 0 dX1_advance_149 rfl rfl rfl ?_
              refine kx_geti 153 F fl_X1_61 hk_c0 rfl rfl (j := 6) rfl dX1_advance_150 (v := r_13074) (by rw [hM_N_13116, mu_i (by omega), hM_N_13114, mu_s]) rfl ?_
              refine kx_iconst 154 F dX1_advance_153 rfl ?_
              refine kx_icmp_ne 157 F 171 dX1_advance_154 (by decide) rfl (by omega) (by decide) (fun h_13425 => ?_) (fun h_13425 => (by exfalso; omega))
              refine kx_aload_n 172 F 0 dX1_advance_171 rfl rfl rfl ?_
              refine kx_geti 175 F fl_X1_61 hk_c0 rfl rfl (j := 6) rfl dX1_advance_172 (v := r_13074) (by rw [hM_N_13116, mu_i (by omega), hM_N_13114, mu_s]) rfl ?_
              refine kx_iconst 176 F dX1_advance_175 rfl ?_
              refine kx_icmp_ne 179 F 183 dX1_advance_176 (by decide) rfl (by omega) (by decide) (fun h_13426 => ?_) (fun h_13426 => (by exfalso; omega))
              refine kx_iconst 184 F dX1_advance_183 rfl ?_
              have e_13427 : (N_13116 c0 7) = (N_13057 c0 7) := by rw [hM_N_13116, mu_i (by omega), hM_N_13114, mu_i (by omega)]
              have e_13429 : (N_13116 c0 8) = 1 := by rw [hM_N_13116, mu_s]
              have e_13430 : (N_13116 c0 6) = r_13074 := by rw [hM_N_13116, mu_i (by omega), hM_N_13114, mu_s]
              have e_13431 : (N_13116 c0 2) = (N_13057 c0 2) := by rw [hM_N_13116, mu_i (by omega), hM_N_13114, mu_i (by omega)]
              have h_13432 := Inv.g hI_N_13057 hk_c0 rfl 2 (a := (-2147483648)) (b := 2147483647) rfl rfl
              have e_13433 : (N_13116 c0 3) = (N_13057 c0 3) := by rw [hM_N_13116, mu_i (by omega), hM_N_13114, mu_i (by omega)]
              have h_13434 := Inv.g hI_N_13057 hk_c0 rfl 3 (a := (-2147483648)) (b := 2147483647) rfl rfl
              have e_13440 : (N_13116 c0 9) = (N_13057 c0 9) := by rw [hM_N_13116, mu_i (by omega), hM_N_13114, mu_i (by omega)]
              have h_13441 := Inv.g hI_N_13057 hk_c0 rfl 9 (a := (-2147483648)) (b := 2147483647) rfl rfl
              exact kx_zret F hQ (by omega) ⟨hI_N_13116, hF_N_13116, (Or.inl (by omega))⟩ dX1_advance_184
          · refine kx_iconst 96 F dX1_advance_95 rfl ?_
            refine kx_istore_n 97 F 1 (lo' := [some (vR G c0), some (vI 0)]) dX1_advance_96 rfl (by decide) rfl rfl rfl ?_
            have L_14153 : ∀ (n_14154 : Nat) (x1_14151 : Int) (N_14152 : Mem), Inv false N_14152 → Fr f_e_X1_advance M N_14152 → RU N_14152 c0 Bt j → 0 ≤ x1_14151 ∧ x1_14151 ≤ 744 ∧ (N_14152 c0 7) = (tp Bt j) ∧ (N_14152 c0 6) = (tk Bt j) ∧ (N_14152 c0 8) = x1_14151 + 1 ∧ (tk Bt j) ≥ 1 ∧ (tk Bt j) ≤ 2 ∧ (N_14152 c0 2) = (M c0 2) ∧ (N_14152 c0 3) = (M c0 3) → (744 - (x1_14151)).toNat = n_14154 → KJ false G X N_14152 97 [some (vR G c0), some (vI x1_14151)] [] := by
              intro n_14154
              refine Nat.strongRecOn n_14154 ?_
              intro n_14154 ih_14155 x1_14151 N_14152 hI_N_14152 hF_N_14152 hp_14158 h_14156 hm_14157
              refine kx_iload_n 98 F 1 dX1_advance_97 rfl rfl rfl ?_
              refine kx_aload_n 99 F 0 dX1_advance_98 rfl rfl rfl ?_
              refine kx_geti 102 F fl_X1_45 hk_c0 rfl rfl (j := 5) rfl dX1_advance_99 (v := (M c0 5)) (by rw [Fr.e hF_N_14152 hk_c0 _ rfl]) rfl ?_
              refine kx_icmp_ge 105 F 141 dX1_advance_102 (by decide) rfl (by omega) (by omega) (fun h_14159 => ?_) (fun h_14159 => ?_)
              · have h_14160 := Inv.g hI_N_14152 hk_c0 rfl 7 (a := 0) (b := 900) rfl rfl
                have h_14161 := Inv.g hI_N_14152 hk_c0 rfl 8 (a := 0) (b := 900) rfl rfl
                have hz_14162 : N_14152 c0 7 + N_14152 c0 8 = tq Bt j := RU.done hp_14158 (TB.tx hB hI_M hk_c0) hj (by omega) (by omega) (by omega) (by omega)
                refine kx_aload_n 142 F 0 dX1_advance_141 rfl rfl rfl ?_
                refine kx_geti 145 F fl_X1_61 hk_c0 rfl rfl (j := 6) rfl dX1_advance_142 (v := (N_14152 c0 6)) rfl rfl ?_
                have h_14163 := Inv.g hI_N_14152 hk_c0 rfl 6 (a := 0) (b := 5) rfl rfl
                refine kx_iconst 146 F dX1_advance_145 rfl ?_
                refine kx_icmp_eq 149 F 165 dX1_advance_146 (by decide) rfl (by omega) (by decide) (fun h_14164 => (by exfalso; omega)) (fun h_14164 => ?_)
                refine kx_aload_n 150 F 0 dX1_advance_149 rfl rfl rfl ?_
                refine kx_geti 153 F fl_X1_61 hk_c0 rfl rfl (j := 6) rfl dX1_advance_150 (v := (N_14152 c0 6)) rfl rfl ?_
                refine kx_iconst 154 F dX1_advance_153 rfl ?_
                refine kx_icmp_ne 157 F 171 dX1_advance_154 (by decide) rfl (by omega) (by decide) (fun h_14165 => (by exfalso; omega)) (fun h_14165 => (by exfalso; omega))
              · refine kx_aload_n 106 F 0 dX1_advance_105 rfl rfl rfl ?_
                refine kx_aload_n 107 F 0 dX1_advance_106 rfl rfl rfl ?_
                refine kx_geti 110 F fl_X1_51 hk_c0 rfl rfl (j := 7) rfl dX1_advance_107 (v := (N_14152 c0 7)) rfl rfl ?_
                have h_14166 := Inv.g hI_N_14152 hk_c0 rfl 7 (a := 0) (b := 900) rfl rfl
                refine kx_aload_n 111 F 0 dX1_advance_110 rfl rfl rfl ?_
                refine kx_geti 114 F fl_X1_54 hk_c0 rfl rfl (j := 8) rfl dX1_advance_111 (v := (N_14152 c0 8)) rfl rfl ?_
                have h_14167 := Inv.g hI_N_14152 hk_c0 rfl 8 (a := 0) (b := 900) rfl rfl
                refine kx_iadd 115 F (v := (N_14152 c0 7) + (N_14152 c0 8)) dX1_advance_114 rfl rfl ?_
                refine kx_Vi 118 (ci := 0) F (As := [vI ((N_14152 c0 7) + (N_14152 c0 8))]) (st := []) vd_X1_209 (e_X1_kindAt G l N_14152 c0 ((N_14152 c0 7) + (N_14152 c0 8)) hI_N_14152 hk_c0 (by omega) Bt (TB.fr hB hI_M hk_c0 hF_N_14152 rfl)) hk_c0 rfl rfl rfl ⟨by decide, by decide⟩ rfl rfl (Nat.le_of_ble_eq_true rfl) dX1_advance_115 rfl ?_
                intro r_14168 N_14169 q_14170
                obtain ⟨rfl, q_14170c⟩ := q_14170
                have e_14171 : (N_14152 c0 5) = (M c0 5) := by rw [Fr.e hF_N_14152 hk_c0 _ rfl]
                rcases q_14170c with q_14170c | q_14170c
                · refine kx_aload_n 119 F 0 dX1_advance_118 rfl rfl rfl ?_
                  refine kx_geti 122 F fl_X1_61 hk_c0 rfl rfl (j := 6) rfl dX1_advance_119 (v := (N_14152 c0 6)) rfl rfl ?_
                  have h_14175 := Inv.g hI_N_14152 hk_c0 rfl 6 (a := 0) (b := 5) rfl rfl
                  refine kx_icmp_ne 125 F 141 dX1_advance_122 (by decide) rfl (by omega) (by omega) (fun h_14176 => ?_) (fun h_14176 => (by exfalso; omega))
                  have hz_14177 : N_14152 c0 7 + N_14152 c0 8 = tq Bt j := RU.done hp_14158 (TB.tx hB hI_M hk_c0) hj (by omega) (by omega) (by omega) (by omega)
                  refine kx_aload_n 142 F 0 dX1_advance_141 rfl rfl rfl ?_
                  refine kx_geti 145 F fl_X1_61 hk_c0 rfl rfl (j := 6) rfl dX1_advance_142 (v := (N_14152 c0 6)) rfl rfl ?_
                  refine kx_iconst 146 F dX1_advance_145 rfl ?_
                  refine kx_icmp_eq 149 F 165 dX1_advance_146 (by decide) rfl (by omega) (by decide) (fun h_14178 => (by exfalso; omega)) (fun h_14178 => ?_)
                  refine kx_aload_n 150 F 0 dX1_advance_149 rfl rfl rfl ?_
                  refine kx_geti 153 F fl_X1_61 hk_c0 rfl rfl (j := 6) rfl dX1_advance_150 (v := (N_14152 c0 6)) rfl rfl ?_
                  refine kx_iconst 154 F dX1_advance_153 rfl ?_
                  refine kx_icmp_ne 157 F 171 dX1_advance_154 (by decide) rfl (by omega) (by decide) (fun h_14179 => (by exfalso; omega)) (fun h_14179 => ?_)
                  refine kx_aload_n 158 F 0 dX1_advance_157 rfl rfl rfl ?_
                  refine kx_geti 161 F fl_X1_54 hk_c0 rfl rfl (j := 8) rfl dX1_advance_158 (v := (N_14152 c0 8)) rfl rfl ?_
                  refine kx_iconst 162 F dX1_advance_161 rfl ?_
                  refine kx_icmp_le 165 F 171 dX1_advance_162 (by decide) rfl (by omega) (by decide) (fun h_14180 => ?_) (fun h_14180 => ?_)
                  · refine kx_aload_n 172 F 0 dX1_advance_171 rfl rfl rfl ?_
                    refine kx_geti 175 F fl_X1_61 hk_c0 rfl rfl (j := 6) rfl dX1_advance_172 (v := (N_14152 c0 6)) rfl rfl ?_
                    refine kx_iconst 176 F dX1_advance_175 rfl ?_
                    refine kx_icmp_ne 179 F 183 dX1_advance_176 (by decide) rfl (by omega) (by decide) (fun h_14181 => (by exfalso; omega)) (fun h_14181 => ?_)
                    refine kx_aload_n 180 F 0 dX1_advance_179 rfl rfl rfl ?_
                    refine kx_Vv 183 (ci := 0) F (As := []) (st := []) vd_X1_212 (e_X1_reckonValue G l N_14152 c0 hI_N_14152 hk_c0 Bt (TB.fr hB hI_M hk_c0 hF_N_14152 rfl) j (by omega) (by omega)) hk_c0 rfl rfl rfl ⟨by decide, by decide⟩ rfl rfl (Nat.le_of_ble_eq_true rfl) dX1_advance_180 rfl ?_
                    intro N_14182 q_14183
                    obtain ⟨hI_N_14182, hG_N_14182, q_14183c⟩ := q_14183
                    have hF_N_14182 : Fr f_e_X1_advance M N_14182 := Fr.c hF_N_14152 hG_N_14182 rfl
                    have h_14184 := Inv.g hI_N_14182 hk_c0 rfl 9 (a := (-2147483648)) (b := 2147483647) rfl rfl
                    refine kx_iconst 184 F dX1_advance_183 rfl ?_
                    have e_14185 : (N_14182 c0 7) = (N_14152 c0 7) := by rw [Fr.e hG_N_14182 hk_c0 _ rfl]
                    have e_14187 : (N_14182 c0 8) = (N_14152 c0 8) := by rw [Fr.e hG_N_14182 hk_c0 _ rfl]
                    have e_14188 : (N_14182 c0 6) = (N_14152 c0 6) := by rw [Fr.e hG_N_14182 hk_c0 _ rfl]
                    have e_14189 : (N_14182 c0 2) = (N_14152 c0 2) := by rw [Fr.e hG_N_14182 hk_c0 _ rfl]
                    have h_14190 := Inv.g hI_N_14152 hk_c0 rfl 2 (a := (-2147483648)) (b := 2147483647) rfl rfl
                    have e_14191 : (N_14182 c0 3) = (N_14152 c0 3) := by rw [Fr.e hG_N_14182 hk_c0 _ rfl]
                    have h_14192 := Inv.g hI_N_14152 hk_c0 rfl 3 (a := (-2147483648)) (b := 2147483647) rfl rfl
                    exact kx_zret F hQ (by omega) ⟨hI_N_14182, hF_N_14182, (Or.inr (Or.inl (by omega)))⟩ dX1_advance_184
                  · refine kx_aload_n 166 F 0 dX1_advance_165 rfl rfl rfl ?_
                    refine kx_iconst 167 F dX1_advance_166 rfl ?_
                    refine kx_Vi 170 (ci := 0) F (As := [vI 1]) (st := []) vd_X1_89 (e_X1_fail G l N_14152 c0 1 hI_N_14152 hk_c0 (by omega)) hk_c0 rfl rfl rfl ⟨by decide, by decide⟩ rfl rfl (Nat.le_of_ble_eq_true rfl) dX1_advance_167 rfl ?_
                    intro r_14206 N_14207 q_14208
                    obtain ⟨hI_N_14207, hG_N_14207, q_14208c⟩ := q_14208
                    have hF_N_14207 : Fr f_e_X1_advance M N_14207 := Fr.c hF_N_14152 hG_N_14207 rfl
                    have h_14209 := Inv.g hI_N_14207 hk_c0 rfl 2 (a := (-2147483648)) (b := 2147483647) rfl rfl
                    have h_14210 := Inv.g hI_N_14207 hk_c0 rfl 3 (a := (-2147483648)) (b := 2147483647) rfl rfl
                    have e_14211 : (N_14207 c0 7) = (N_14152 c0 7) := by rw [Fr.e hG_N_14207 hk_c0 _ rfl]
                    have e_14213 : (N_14207 c0 8) = (N_14152 c0 8) := by rw [Fr.e hG_N_14207 hk_c0 _ rfl]
                    have e_14214 : (N_14207 c0 6) = (N_14152 c0 6) := by rw [Fr.e hG_N_14207 hk_c0 _ rfl]
                    have e_14220 : (N_14207 c0 9) = (N_14152 c0 9) := by rw [Fr.e hG_N_14207 hk_c0 _ rfl]
                    have h_14221 := Inv.g hI_N_14152 hk_c0 rfl 9 (a := (-2147483648)) (b := 2147483647) rfl rfl
                    exact kx_zret F hQ (by omega) ⟨hI_N_14207, hF_N_14207, (by omega)⟩ dX1_advance_170
                · refine kx_aload_n 119 F 0 dX1_advance_118 rfl rfl rfl ?_
                  refine kx_geti 122 F fl_X1_61 hk_c0 rfl rfl (j := 6) rfl dX1_advance_119 (v := (N_14152 c0 6)) rfl rfl ?_
                  have h_14228 := Inv.g hI_N_14152 hk_c0 rfl 6 (a := 0) (b := 5) rfl rfl
                  refine kx_icmp_ne 125 F 141 dX1_advance_122 (by decide) rfl (by omega) (by omega) (fun h_14229 => ?_) (fun h_14229 => ?_)
                  · have hz_14230 : N_14152 c0 7 + N_14152 c0 8 = tq Bt j := RU.done hp_14158 (TB.tx hB hI_M hk_c0) hj (by omega) (by omega) (by omega) (by omega)
                    refine kx_aload_n 142 F 0 dX1_advance_141 rfl rfl rfl ?_
                    refine kx_geti 145 F fl_X1_61 hk_c0 rfl rfl (j := 6) rfl dX1_advance_142 (v := (N_14152 c0 6)) rfl rfl ?_
                    refine kx_iconst 146 F dX1_advance_145 rfl ?_
                    refine kx_icmp_eq 149 F 165 dX1_advance_146 (by decide) rfl (by omega) (by decide) (fun h_14231 => (by exfalso; omega)) (fun h_14231 => ?_)
                    refine kx_aload_n 150 F 0 dX1_advance_149 rfl rfl rfl ?_
                    refine kx_geti 153 F fl_X1_61 hk_c0 rfl rfl (j := 6) rfl dX1_advance_150 (v := (N_14152 c0 6)) rfl rfl ?_
                    refine kx_iconst 154 F dX1_advance_153 rfl ?_
                    refine kx_icmp_ne 157 F 171 dX1_advance_154 (by decide) rfl (by omega) (by decide) (fun h_14232 => (by exfalso; omega)) (fun h_14232 => ?_)
                    refine kx_aload_n 158 F 0 dX1_advance_157 rfl rfl rfl ?_
                    refine kx_geti 161 F fl_X1_54 hk_c0 rfl rfl (j := 8) rfl dX1_advance_158 (v := (N_14152 c0 8)) rfl rfl ?_
                    refine kx_iconst 162 F dX1_advance_161 rfl ?_
                    refine kx_icmp_le 165 F 171 dX1_advance_162 (by decide) rfl (by omega) (by decide) (fun h_14233 => ?_) (fun h_14233 => ?_)
                    · refine kx_aload_n 172 F 0 dX1_advance_171 rfl rfl rfl ?_
                      refine kx_geti 175 F fl_X1_61 hk_c0 rfl rfl (j := 6) rfl dX1_advance_172 (v := (N_14152 c0 6)) rfl rfl ?_
                      refine kx_iconst 176 F dX1_advance_175 rfl ?_
                      refine kx_icmp_ne 179 F 183 dX1_advance_176 (by decide) rfl (by omega) (by decide) (fun h_14234 => (by exfalso; omega)) (fun h_14234 => ?_)
                      refine kx_aload_n 180 F 0 dX1_advance_179 rfl rfl rfl ?_
                      refine kx_Vv 183 (ci := 0) F (As := []) (st := []) vd_X1_212 (e_X1_reckonValue G l N_14152 c0 hI_N_14152 hk_c0 Bt (TB.fr hB hI_M hk_c0 hF_N_14152 rfl) j (by omega) (by omega)) hk_c0 rfl rfl rfl ⟨by decide, by decide⟩ rfl rfl (Nat.le_of_ble_eq_true rfl) dX1_advance_180 rfl ?_
                      intro N_14235 q_14236
                      obtain ⟨hI_N_14235, hG_N_14235, q_14236c⟩ := q_14236
                      have hF_N_14235 : Fr f_e_X1_advance M N_14235 := Fr.c hF_N_14152 hG_N_14235 rfl
                      have h_14237 := Inv.g hI_N_14235 hk_c0 rfl 9 (a := (-2147483648)) (b := 2147483647) rfl rfl
                      refine kx_iconst 184 F dX1_advance_183 rfl ?_
                      have e_14238 : (N_14235 c0 7) = (N_14152 c0 7) := by rw [Fr.e hG_N_14235 hk_c0 _ rfl]
                      have e_14240 : (N_14235 c0 8) = (N_14152 c0 8) := by rw [Fr.e hG_N_14235 hk_c0 _ rfl]
                      have e_14241 : (N_14235 c0 6) = (N_14152 c0 6) := by rw [Fr.e hG_N_14235 hk_c0 _ rfl]
                      have e_14242 : (N_14235 c0 2) = (N_14152 c0 2) := by rw [Fr.e hG_N_14235 hk_c0 _ rfl]
                      have h_14243 := Inv.g hI_N_14152 hk_c0 rfl 2 (a := (-2147483648)) (b := 2147483647) rfl rfl
                      have e_14244 : (N_14235 c0 3) = (N_14152 c0 3) := by rw [Fr.e hG_N_14235 hk_c0 _ rfl]
                      have h_14245 := Inv.g hI_N_14152 hk_c0 rfl 3 (a := (-2147483648)) (b := 2147483647) rfl rfl
                      exact kx_zret F hQ (by omega) ⟨hI_N_14235, hF_N_14235, (Or.inr (Or.inl (by omega)))⟩ dX1_advance_184
                    · refine kx_aload_n 166 F 0 dX1_advance_165 rfl rfl rfl ?_
                      refine kx_iconst 167 F dX1_advance_166 rfl ?_
                      refine kx_Vi 170 (ci := 0) F (As := [vI 1]) (st := []) vd_X1_89 (e_X1_fail G l N_14152 c0 1 hI_N_14152 hk_c0 (by omega)) hk_c0 rfl rfl rfl ⟨by decide, by decide⟩ rfl rfl (Nat.le_of_ble_eq_true rfl) dX1_advance_167 rfl ?_
                      intro r_14259 N_14260 q_14261
                      obtain ⟨hI_N_14260, hG_N_14260, q_14261c⟩ := q_14261
                      have hF_N_14260 : Fr f_e_X1_advance M N_14260 := Fr.c hF_N_14152 hG_N_14260 rfl
                      have h_14262 := Inv.g hI_N_14260 hk_c0 rfl 2 (a := (-2147483648)) (b := 2147483647) rfl rfl
                      have h_14263 := Inv.g hI_N_14260 hk_c0 rfl 3 (a := (-2147483648)) (b := 2147483647) rfl rfl
                      have e_14264 : (N_14260 c0 7) = (N_14152 c0 7) := by rw [Fr.e hG_N_14260 hk_c0 _ rfl]
                      have e_14266 : (N_14260 c0 8) = (N_14152 c0 8) := by rw [Fr.e hG_N_14260 hk_c0 _ rfl]
                      have e_14267 : (N_14260 c0 6) = (N_14152 c0 6) := by rw [Fr.e hG_N_14260 hk_c0 _ rfl]
                      have e_14273 : (N_14260 c0 9) = (N_14152 c0 9) := by rw [Fr.e hG_N_14260 hk_c0 _ rfl]
                      have h_14274 := Inv.g hI_N_14152 hk_c0 rfl 9 (a := (-2147483648)) (b := 2147483647) rfl rfl
                      exact kx_zret F hQ (by omega) ⟨hI_N_14260, hF_N_14260, (by omega)⟩ dX1_advance_170
                  · refine kx_aload_n 126 F 0 dX1_advance_125 rfl rfl rfl ?_
                    refine kx_dup 127 F dX1_advance_126 rfl rfl ?_
                    refine kx_geti 130 F fl_X1_54 hk_c0 rfl rfl (j := 8) rfl dX1_advance_127 (v := (N_14152 c0 8)) rfl rfl ?_
                    refine kx_iconst 131 F dX1_advance_130 rfl ?_
                    refine kx_iadd 132 F (v := (N_14152 c0 8) + 1) dX1_advance_131 rfl rfl ?_
                    refine kx_puti 135 F fw_X1_54 rfl hk_c0 rfl rfl (j := 8) rfl dX1_advance_132 rfl ?_
                    intro N_14281 hM_N_14281
                    have hI_N_14281 : Inv false N_14281 := Inv.u hI_N_14152 hM_N_14281 hk_c0 (a := 0) (b := 900) rfl rfl rfl (by omega)
                    have hF_N_14281 : Fr f_e_X1_advance M N_14281 := Fr.u hF_N_14152 hM_N_14281 hk_c0 rfl
                    refine kx_iinc 138 F 1 (v := x1_14151 + 1) (lo' := [some (vR G c0), some (vI (x1_14151 + 1))]) dX1_advance_135 rfl (by omega) (by decide) rfl rfl rfl ?_
                    refine kx_goto 97 F dX1_advance_138 (by decide) ?_
                    have e_14282 : (N_14281 c0 7) = (N_14152 c0 7) := by rw [hM_N_14281, mu_i (by omega)]
                    have e_14283 : (N_14281 c0 8) = (N_14152 c0 8) + 1 := by rw [hM_N_14281, mu_s]
                    have e_14285 : (N_14281 c0 6) = (N_14152 c0 6) := by rw [hM_N_14281, mu_i (by omega)]
                    have e_14287 : (N_14281 c0 2) = (N_14152 c0 2) := by rw [hM_N_14281, mu_i (by omega)]
                    have h_14288 := Inv.g hI_N_14152 hk_c0 rfl 2 (a := (-2147483648)) (b := 2147483647) rfl rfl
                    have e_14289 : (N_14281 c0 3) = (N_14152 c0 3) := by rw [hM_N_14281, mu_i (by omega)]
                    have h_14290 := Inv.g hI_N_14152 hk_c0 rfl 3 (a := (-2147483648)) (b := 2147483647) rfl rfl
                    exact ih_14155 _ (by omega) (x1_14151 + 1) N_14281 hI_N_14281 hF_N_14281 (RU.step hp_14158 (by omega) (by omega) (by omega)) (by omega) rfl
            have e_14291 : (N_13116 c0 7) = (N_13057 c0 7) := by rw [hM_N_13116, mu_i (by omega), hM_N_13114, mu_i (by omega)]
            have e_14292 : (N_13116 c0 8) = 1 := by rw [hM_N_13116, mu_s]
            have e_14294 : (N_13116 c0 6) = r_13074 := by rw [hM_N_13116, mu_i (by omega), hM_N_13114, mu_s]
            have e_14296 : (N_13116 c0 2) = (N_13057 c0 2) := by rw [hM_N_13116, mu_i (by omega), hM_N_13114, mu_i (by omega)]
            have h_14297 := Inv.g hI_N_13057 hk_c0 rfl 2 (a := (-2147483648)) (b := 2147483647) rfl rfl
            have e_14298 : (N_13116 c0 3) = (N_13057 c0 3) := by rw [hM_N_13116, mu_i (by omega), hM_N_13114, mu_i (by omega)]
            have h_14299 := Inv.g hI_N_13057 hk_c0 rfl 3 (a := (-2147483648)) (b := 2147483647) rfl rfl
            exact L_14153 _ 0 N_13116 hI_N_13116 hF_N_13116 (RU.one (by omega) (by omega)) (by omega) rfl
    · refine kx_aload_n 24 F 0 dX1_advance_23 rfl rfl rfl ?_
      refine kx_aload_n 25 F 0 dX1_advance_24 rfl rfl rfl ?_
      refine kx_geti 28 F fl_X1_51 hk_c0 rfl rfl (j := 7) rfl dX1_advance_25 (v := (N_13057 c0 7)) rfl rfl ?_
      have h_14300 := Inv.g hI_N_13057 hk_c0 rfl 7 (a := 0) (b := 900) rfl rfl
      refine kx_Vi 31 (ci := 0) F (As := [vI (N_13057 c0 7)]) (st := []) vd_X1_209 (e_X1_kindAt G l N_13057 c0 (N_13057 c0 7) hI_N_13057 hk_c0 (by omega) Bt (TB.fr hB hI_M hk_c0 hF_N_13057 rfl)) hk_c0 rfl rfl rfl ⟨by decide, by decide⟩ rfl rfl (Nat.le_of_ble_eq_true rfl) dX1_advance_28 rfl ?_
      intro r_14301 N_14302 q_14303
      obtain ⟨rfl, q_14303c⟩ := q_14303
      have e_14304 : (N_13057 c0 5) = (M c0 5) := by rw [Fr.e hF_N_13057 hk_c0 _ rfl]
      rcases q_14303c with q_14303c | q_14303c
      · refine kx_iconst 32 F dX1_advance_31 rfl ?_
        refine kx_icmp_ne 35 F 51 dX1_advance_32 (by decide) rfl (by omega) (by decide) (fun h_14308 => ?_) (fun h_14308 => (by exfalso; omega))
        have hx_14309 : (N_13057 c0 7) = tp Bt j := BL.done hp_13063 (TB.tx hB hI_M hk_c0) hj hjp he (by omega) (by omega)
        have hx_14310 : ck (Bt (N_13057 c0 7)) = tk Bt j := by rw [hx_14309]; rfl
        have ht_14311 := tp_le (n := M c0 5) (TB.tx hB hI_M hk_c0) (Inv.g hI_M hk_c0 rfl 5 (a := 0) (b := 900) rfl rfl).1 (j := j) (by omega)
        have ht_14312 := tq_end (n := M c0 5) (TB.tx hB hI_M hk_c0) (j := j) (by omega)
        have ht_14313 := tbd_c Bt j
        have ht_14314 : 0 ≤ tk Bt j ∧ tk Bt j ≤ 4 := tk_b (n := M c0 5) (TB.tx hB hI_M hk_c0) (by omega)
        refine kx_aload_n 52 F 0 dX1_advance_51 rfl rfl rfl ?_
        refine kx_aload_n 53 F 0 dX1_advance_52 rfl rfl rfl ?_
        refine kx_aload_n 54 F 0 dX1_advance_53 rfl rfl rfl ?_
        refine kx_geti 57 F fl_X1_51 hk_c0 rfl rfl (j := 7) rfl dX1_advance_54 (v := (N_13057 c0 7)) rfl rfl ?_
        refine kx_Vi 60 (ci := 0) F (As := [vI (N_13057 c0 7)]) (st := [vR G c0]) vd_X1_209 (e_X1_kindAt G l N_13057 c0 (N_13057 c0 7) hI_N_13057 hk_c0 (by omega) Bt (TB.fr hB hI_M hk_c0 hF_N_13057 rfl)) hk_c0 rfl rfl rfl ⟨by decide, by decide⟩ rfl rfl (Nat.le_of_ble_eq_true rfl) dX1_advance_57 rfl ?_
        intro r_14316 N_14317 q_14318
        obtain ⟨rfl, q_14318c⟩ := q_14318
        rcases q_14318c with q_14318c | q_14318c
        · refine kx_puti 63 F fw_X1_61 rfl hk_c0 rfl rfl (j := 6) rfl dX1_advance_60 rfl ?_
          intro N_14323 hM_N_14323
          have hI_N_14323 : Inv false N_14323 := Inv.u hI_N_13057 hM_N_14323 hk_c0 (a := 0) (b := 5) rfl rfl rfl (by omega)
          have hF_N_14323 : Fr f_e_X1_advance M N_14323 := Fr.u hF_N_13057 hM_N_14323 hk_c0 rfl
          refine kx_aload_n 64 F 0 dX1_advance_63 rfl rfl rfl ?_
          refine kx_aload_n 65 F 0 dX1_advance_64 rfl rfl rfl ?_
          refine kx_geti 68 F fl_X1_61 hk_c0 rfl rfl (j := 6) rfl dX1_advance_65 (v := r_14316) (by rw [hM_N_14323, mu_s]) rfl ?_
          refine kx_if_ne 71 F 75 dX1_advance_68 (by decide) rfl (by omega) (fun h_14324 => (by exfalso; omega)) (fun h_14324 => ?_)
          refine kx_iconst 72 F dX1_advance_71 rfl ?_
          refine kx_goto 76 F dX1_advance_72 (by decide) ?_
          refine kx_puti 79 F fw_X1_54 rfl hk_c0 rfl rfl (j := 8) rfl dX1_advance_76 rfl ?_
          intro N_14325 hM_N_14325
          have hI_N_14325 : Inv false N_14325 := Inv.u hI_N_14323 hM_N_14325 hk_c0 (a := 0) (b := 900) rfl rfl rfl (by omega)
          have hF_N_14325 : Fr f_e_X1_advance M N_14325 := Fr.u hF_N_14323 hM_N_14325 hk_c0 rfl
          refine kx_aload_n 80 F 0 dX1_advance_79 rfl rfl rfl ?_
          refine kx_geti 83 F fl_X1_61 hk_c0 rfl rfl (j := 6) rfl dX1_advance_80 (v := r_14316) (by rw [hM_N_14325, mu_i (by omega), hM_N_14323, mu_s]) rfl ?_
          refine kx_iconst 84 F dX1_advance_83 rfl ?_
          refine kx_icmp_eq 87 F 95 dX1_advance_84 (by decide) rfl (by omega) (by decide) (fun h_14326 => (by exfalso; omega)) (fun h_14326 => ?_)
          refine kx_aload_n 88 F 0 dX1_advance_87 rfl rfl rfl ?_
          refine kx_geti 91 F fl_X1_61 hk_c0 rfl rfl (j := 6) rfl dX1_advance_88 (v := r_14316) (by rw [hM_N_14325, mu_i (by omega), hM_N_14323, mu_s]) rfl ?_
          refine kx_iconst 92 F dX1_advance_91 rfl ?_
          refine kx_icmp_ne 95 F 141 dX1_advance_92 (by decide) rfl (by omega) (by decide) (fun h_14327 => ?_) (fun h_14327 => (by exfalso; omega))
          refine kx_aload_n 142 F 0 dX1_advance_141 rfl rfl rfl ?_
          refine kx_geti 145 F fl_X1_61 hk_c0 rfl rfl (j := 6) rfl dX1_advance_142 (v := r_14316) (by rw [hM_N_14325, mu_i (by omega), hM_N_14323, mu_s]) rfl ?_
          refine kx_iconst 146 F dX1_advance_145 rfl ?_
          refine kx_icmp_eq 149 F 165 dX1_advance_146 (by decide) rfl (by omega) (by decide) (fun h_14328 => (by exfalso; omega)) (fun h_14328 => ?_)
          refine kx_aload_n 150 F 0 dX1_advance_149 rfl rfl rfl ?_
          refine kx_geti 153 F fl_X1_61 hk_c0 rfl rfl (j := 6) rfl dX1_advance_150 (v := r_14316) (by rw [hM_N_14325, mu_i (by omega), hM_N_14323, mu_s]) rfl ?_
          refine kx_iconst 154 F dX1_advance_153 rfl ?_
          refine kx_icmp_ne 157 F 171 dX1_advance_154 (by decide) rfl (by omega) (by decide) (fun h_14329 => ?_) (fun h_14329 => (by exfalso; omega))
          refine kx_aload_n 172 F 0 dX1_advance_171 rfl rfl rfl ?_
          refine kx_geti 175 F fl_X1_61 hk_c0 rfl rfl (j := 6) rfl dX1_advance_172 (v := r_14316) (by rw [hM_N_14325, mu_i (by omega), hM_N_14323, mu_s]) rfl ?_
          refine kx_iconst 176 F dX1_advance_175 rfl ?_
          refine kx_icmp_ne 179 F 183 dX1_advance_176 (by decide) rfl (by omega) (by decide) (fun h_14330 => ?_) (fun h_14330 => (by exfalso; omega))
          refine kx_iconst 184 F dX1_advance_183 rfl ?_
          have e_14331 : (N_14325 c0 7) = (N_13057 c0 7) := by rw [hM_N_14325, mu_i (by omega), hM_N_14323, mu_i (by omega)]
          have e_14333 : (N_14325 c0 8) = 0 := by rw [hM_N_14325, mu_s]
          have e_14334 : (N_14325 c0 6) = r_14316 := by rw [hM_N_14325, mu_i (by omega), hM_N_14323, mu_s]
          have e_14335 : (N_14325 c0 2) = (N_13057 c0 2) := by rw [hM_N_14325, mu_i (by omega), hM_N_14323, mu_i (by omega)]
          have h_14336 := Inv.g hI_N_13057 hk_c0 rfl 2 (a := (-2147483648)) (b := 2147483647) rfl rfl
          have e_14337 : (N_14325 c0 3) = (N_13057 c0 3) := by rw [hM_N_14325, mu_i (by omega), hM_N_14323, mu_i (by omega)]
          have h_14338 := Inv.g hI_N_13057 hk_c0 rfl 3 (a := (-2147483648)) (b := 2147483647) rfl rfl
          have e_14344 : (N_14325 c0 9) = (N_13057 c0 9) := by rw [hM_N_14325, mu_i (by omega), hM_N_14323, mu_i (by omega)]
          have h_14345 := Inv.g hI_N_13057 hk_c0 rfl 9 (a := (-2147483648)) (b := 2147483647) rfl rfl
          exact kx_zret F hQ (by omega) ⟨hI_N_14325, hF_N_14325, (Or.inl (by omega))⟩ dX1_advance_184
        · exfalso; omega
      · refine kx_iconst 32 F dX1_advance_31 rfl ?_
        refine kx_icmp_ne 35 F 51 dX1_advance_32 (by decide) rfl (by omega) (by decide) (fun h_14356 => ?_) (fun h_14356 => ?_)
        · have hx_14357 : (N_13057 c0 7) = tp Bt j := BL.done hp_13063 (TB.tx hB hI_M hk_c0) hj hjp he (by omega) (by omega)
          have hx_14358 : ck (Bt (N_13057 c0 7)) = tk Bt j := by rw [hx_14357]; rfl
          have ht_14359 := tp_le (n := M c0 5) (TB.tx hB hI_M hk_c0) (Inv.g hI_M hk_c0 rfl 5 (a := 0) (b := 900) rfl rfl).1 (j := j) (by omega)
          have ht_14360 := tq_end (n := M c0 5) (TB.tx hB hI_M hk_c0) (j := j) (by omega)
          have ht_14361 := tbd_c Bt j
          have ht_14362 : 0 ≤ tk Bt j ∧ tk Bt j ≤ 4 := tk_b (n := M c0 5) (TB.tx hB hI_M hk_c0) (by omega)
          refine kx_aload_n 52 F 0 dX1_advance_51 rfl rfl rfl ?_
          refine kx_aload_n 53 F 0 dX1_advance_52 rfl rfl rfl ?_
          refine kx_aload_n 54 F 0 dX1_advance_53 rfl rfl rfl ?_
          refine kx_geti 57 F fl_X1_51 hk_c0 rfl rfl (j := 7) rfl dX1_advance_54 (v := (N_13057 c0 7)) rfl rfl ?_
          refine kx_Vi 60 (ci := 0) F (As := [vI (N_13057 c0 7)]) (st := [vR G c0]) vd_X1_209 (e_X1_kindAt G l N_13057 c0 (N_13057 c0 7) hI_N_13057 hk_c0 (by omega) Bt (TB.fr hB hI_M hk_c0 hF_N_13057 rfl)) hk_c0 rfl rfl rfl ⟨by decide, by decide⟩ rfl rfl (Nat.le_of_ble_eq_true rfl) dX1_advance_57 rfl ?_
          intro r_14364 N_14365 q_14366
          obtain ⟨rfl, q_14366c⟩ := q_14366
          rcases q_14366c with q_14366c | q_14366c
          · exfalso; omega
          · refine kx_puti 63 F fw_X1_61 rfl hk_c0 rfl rfl (j := 6) rfl dX1_advance_60 rfl ?_
            intro N_14371 hM_N_14371
            have hI_N_14371 : Inv false N_14371 := Inv.u hI_N_13057 hM_N_14371 hk_c0 (a := 0) (b := 5) rfl rfl rfl (by omega)
            have hF_N_14371 : Fr f_e_X1_advance M N_14371 := Fr.u hF_N_13057 hM_N_14371 hk_c0 rfl
            refine kx_aload_n 64 F 0 dX1_advance_63 rfl rfl rfl ?_
            refine kx_aload_n 65 F 0 dX1_advance_64 rfl rfl rfl ?_
            refine kx_geti 68 F fl_X1_61 hk_c0 rfl rfl (j := 6) rfl dX1_advance_65 (v := r_14364) (by rw [hM_N_14371, mu_s]) rfl ?_
            refine kx_if_ne 71 F 75 dX1_advance_68 (by decide) rfl (by omega) (fun h_14372 => ?_) (fun h_14372 => (by exfalso; omega))
            refine kx_iconst 76 F dX1_advance_75 rfl ?_
            refine kx_puti 79 F fw_X1_54 rfl hk_c0 rfl rfl (j := 8) rfl dX1_advance_76 rfl ?_
            intro N_14373 hM_N_14373
            have hI_N_14373 : Inv false N_14373 := Inv.u hI_N_14371 hM_N_14373 hk_c0 (a := 0) (b := 900) rfl rfl rfl (by omega)
            have hF_N_14373 : Fr f_e_X1_advance M N_14373 := Fr.u hF_N_14371 hM_N_14373 hk_c0 rfl
            refine kx_aload_n 80 F 0 dX1_advance_79 rfl rfl rfl ?_
            refine kx_geti 83 F fl_X1_61 hk_c0 rfl rfl (j := 6) rfl dX1_advance_80 (v := r_14364) (by rw [hM_N_14373, mu_i (by omega), hM_N_14371, mu_s]) rfl ?_
            refine kx_iconst 84 F dX1_advance_83 rfl ?_
            refine kx_icmp_eq 87 F 95 dX1_advance_84 (by decide) rfl (by omega) (by decide) (fun h_14374 => ?_) (fun h_14374 => ?_)
            · refine kx_iconst 96 F dX1_advance_95 rfl ?_
              refine kx_istore_n 97 F 1 (lo' := [some (vR G c0), some (vI 0)]) dX1_advance_96 rfl (by decide) rfl rfl rfl ?_
              have L_14634 : ∀ (n_14635 : Nat) (x1_14632 : Int) (N_14633 : Mem), Inv false N_14633 → Fr f_e_X1_advance M N_14633 → RU N_14633 c0 Bt j → 0 ≤ x1_14632 ∧ x1_14632 ≤ 899 ∧ (N_14633 c0 7) = (tp Bt j) ∧ (N_14633 c0 6) = (tk Bt j) ∧ (N_14633 c0 8) = x1_14632 + 1 ∧ (tk Bt j) ≥ 1 ∧ (tk Bt j) ≤ 2 ∧ (N_14633 c0 2) = (M c0 2) ∧ (N_14633 c0 3) = (M c0 3) → (899 - (x1_14632)).toNat = n_14635 → KJ false G X N_14633 97 [some (vR G c0), some (vI x1_14632)] [] := by
                intro n_14635
                refine Nat.strongRecOn n_14635 ?_
                intro n_14635 ih_14636 x1_14632 N_14633 hI_N_14633 hF_N_14633 hp_14639 h_14637 hm_14638
                refine kx_iload_n 98 F 1 dX1_advance_97 rfl rfl rfl ?_
                refine kx_aload_n 99 F 0 dX1_advance_98 rfl rfl rfl ?_
                refine kx_geti 102 F fl_X1_45 hk_c0 rfl rfl (j := 5) rfl dX1_advance_99 (v := (M c0 5)) (by rw [Fr.e hF_N_14633 hk_c0 _ rfl]) rfl ?_
                refine kx_icmp_ge 105 F 141 dX1_advance_102 (by decide) rfl (by omega) (by omega) (fun h_14640 => ?_) (fun h_14640 => ?_)
                · have h_14641 := Inv.g hI_N_14633 hk_c0 rfl 7 (a := 0) (b := 900) rfl rfl
                  have h_14642 := Inv.g hI_N_14633 hk_c0 rfl 8 (a := 0) (b := 900) rfl rfl
                  have hz_14643 : N_14633 c0 7 + N_14633 c0 8 = tq Bt j := RU.done hp_14639 (TB.tx hB hI_M hk_c0) hj (by omega) (by omega) (by omega) (by omega)
                  refine kx_aload_n 142 F 0 dX1_advance_141 rfl rfl rfl ?_
                  refine kx_geti 145 F fl_X1_61 hk_c0 rfl rfl (j := 6) rfl dX1_advance_142 (v := (N_14633 c0 6)) rfl rfl ?_
                  have h_14644 := Inv.g hI_N_14633 hk_c0 rfl 6 (a := 0) (b := 5) rfl rfl
                  refine kx_iconst 146 F dX1_advance_145 rfl ?_
                  refine kx_icmp_eq 149 F 165 dX1_advance_146 (by decide) rfl (by omega) (by decide) (fun h_14645 => (by exfalso; omega)) (fun h_14645 => ?_)
                  refine kx_aload_n 150 F 0 dX1_advance_149 rfl rfl rfl ?_
                  refine kx_geti 153 F fl_X1_61 hk_c0 rfl rfl (j := 6) rfl dX1_advance_150 (v := (N_14633 c0 6)) rfl rfl ?_
                  refine kx_iconst 154 F dX1_advance_153 rfl ?_
                  refine kx_icmp_ne 157 F 171 dX1_advance_154 (by decide) rfl (by omega) (by decide) (fun h_14646 => ?_) (fun h_14646 => (by exfalso; omega))
                  refine kx_aload_n 172 F 0 dX1_advance_171 rfl rfl rfl ?_
                  refine kx_geti 175 F fl_X1_61 hk_c0 rfl rfl (j := 6) rfl dX1_advance_172 (v := (N_14633 c0 6)) rfl rfl ?_
                  refine kx_iconst 176 F dX1_advance_175 rfl ?_
                  refine kx_icmp_ne 179 F 183 dX1_advance_176 (by decide) rfl (by omega) (by decide) (fun h_14647 => ?_) (fun h_14647 => (by exfalso; omega))
                  refine kx_iconst 184 F dX1_advance_183 rfl ?_
                  have h_14648 := Inv.g hI_N_14633 hk_c0 rfl 2 (a := (-2147483648)) (b := 2147483647) rfl rfl
                  have h_14649 := Inv.g hI_N_14633 hk_c0 rfl 3 (a := (-2147483648)) (b := 2147483647) rfl rfl
                  have h_14650 := Inv.g hI_N_14633 hk_c0 rfl 9 (a := (-2147483648)) (b := 2147483647) rfl rfl
                  exact kx_zret F hQ (by omega) ⟨hI_N_14633, hF_N_14633, (Or.inl (by omega))⟩ dX1_advance_184
                · refine kx_aload_n 106 F 0 dX1_advance_105 rfl rfl rfl ?_
                  refine kx_aload_n 107 F 0 dX1_advance_106 rfl rfl rfl ?_
                  refine kx_geti 110 F fl_X1_51 hk_c0 rfl rfl (j := 7) rfl dX1_advance_107 (v := (N_14633 c0 7)) rfl rfl ?_
                  have h_14651 := Inv.g hI_N_14633 hk_c0 rfl 7 (a := 0) (b := 900) rfl rfl
                  refine kx_aload_n 111 F 0 dX1_advance_110 rfl rfl rfl ?_
                  refine kx_geti 114 F fl_X1_54 hk_c0 rfl rfl (j := 8) rfl dX1_advance_111 (v := (N_14633 c0 8)) rfl rfl ?_
                  have h_14652 := Inv.g hI_N_14633 hk_c0 rfl 8 (a := 0) (b := 900) rfl rfl
                  refine kx_iadd 115 F (v := (N_14633 c0 7) + (N_14633 c0 8)) dX1_advance_114 rfl rfl ?_
                  refine kx_Vi 118 (ci := 0) F (As := [vI ((N_14633 c0 7) + (N_14633 c0 8))]) (st := []) vd_X1_209 (e_X1_kindAt G l N_14633 c0 ((N_14633 c0 7) + (N_14633 c0 8)) hI_N_14633 hk_c0 (by omega) Bt (TB.fr hB hI_M hk_c0 hF_N_14633 rfl)) hk_c0 rfl rfl rfl ⟨by decide, by decide⟩ rfl rfl (Nat.le_of_ble_eq_true rfl) dX1_advance_115 rfl ?_
                  intro r_14653 N_14654 q_14655
                  obtain ⟨rfl, q_14655c⟩ := q_14655
                  have e_14656 : (N_14633 c0 5) = (M c0 5) := by rw [Fr.e hF_N_14633 hk_c0 _ rfl]
                  rcases q_14655c with q_14655c | q_14655c
                  · refine kx_aload_n 119 F 0 dX1_advance_118 rfl rfl rfl ?_
                    refine kx_geti 122 F fl_X1_61 hk_c0 rfl rfl (j := 6) rfl dX1_advance_119 (v := (N_14633 c0 6)) rfl rfl ?_
                    have h_14660 := Inv.g hI_N_14633 hk_c0 rfl 6 (a := 0) (b := 5) rfl rfl
                    refine kx_icmp_ne 125 F 141 dX1_advance_122 (by decide) rfl (by omega) (by omega) (fun h_14661 => ?_) (fun h_14661 => (by exfalso; omega))
                    have hz_14662 : N_14633 c0 7 + N_14633 c0 8 = tq Bt j := RU.done hp_14639 (TB.tx hB hI_M hk_c0) hj (by omega) (by omega) (by omega) (by omega)
                    refine kx_aload_n 142 F 0 dX1_advance_141 rfl rfl rfl ?_
                    refine kx_geti 145 F fl_X1_61 hk_c0 rfl rfl (j := 6) rfl dX1_advance_142 (v := (N_14633 c0 6)) rfl rfl ?_
                    refine kx_iconst 146 F dX1_advance_145 rfl ?_
                    refine kx_icmp_eq 149 F 165 dX1_advance_146 (by decide) rfl (by omega) (by decide) (fun h_14663 => (by exfalso; omega)) (fun h_14663 => ?_)
                    refine kx_aload_n 150 F 0 dX1_advance_149 rfl rfl rfl ?_
                    refine kx_geti 153 F fl_X1_61 hk_c0 rfl rfl (j := 6) rfl dX1_advance_150 (v := (N_14633 c0 6)) rfl rfl ?_
                    refine kx_iconst 154 F dX1_advance_153 rfl ?_
                    refine kx_icmp_ne 157 F 171 dX1_advance_154 (by decide) rfl (by omega) (by decide) (fun h_14664 => ?_) (fun h_14664 => (by exfalso; omega))
                    refine kx_aload_n 172 F 0 dX1_advance_171 rfl rfl rfl ?_
                    refine kx_geti 175 F fl_X1_61 hk_c0 rfl rfl (j := 6) rfl dX1_advance_172 (v := (N_14633 c0 6)) rfl rfl ?_
                    refine kx_iconst 176 F dX1_advance_175 rfl ?_
                    refine kx_icmp_ne 179 F 183 dX1_advance_176 (by decide) rfl (by omega) (by decide) (fun h_14665 => ?_) (fun h_14665 => (by exfalso; omega))
                    refine kx_iconst 184 F dX1_advance_183 rfl ?_
                    have h_14666 := Inv.g hI_N_14633 hk_c0 rfl 2 (a := (-2147483648)) (b := 2147483647) rfl rfl
                    have h_14667 := Inv.g hI_N_14633 hk_c0 rfl 3 (a := (-2147483648)) (b := 2147483647) rfl rfl
                    have h_14668 := Inv.g hI_N_14633 hk_c0 rfl 9 (a := (-2147483648)) (b := 2147483647) rfl rfl
                    exact kx_zret F hQ (by omega) ⟨hI_N_14633, hF_N_14633, (Or.inl (by omega))⟩ dX1_advance_184
                  · refine kx_aload_n 119 F 0 dX1_advance_118 rfl rfl rfl ?_
                    refine kx_geti 122 F fl_X1_61 hk_c0 rfl rfl (j := 6) rfl dX1_advance_119 (v := (N_14633 c0 6)) rfl rfl ?_
                    have h_14669 := Inv.g hI_N_14633 hk_c0 rfl 6 (a := 0) (b := 5) rfl rfl
                    refine kx_icmp_ne 125 F 141 dX1_advance_122 (by decide) rfl (by omega) (by omega) (fun h_14670 => ?_) (fun h_14670 => ?_)
                    · have hz_14671 : N_14633 c0 7 + N_14633 c0 8 = tq Bt j := RU.done hp_14639 (TB.tx hB hI_M hk_c0) hj (by omega) (by omega) (by omega) (by omega)
                      refine kx_aload_n 142 F 0 dX1_advance_141 rfl rfl rfl ?_
                      refine kx_geti 145 F fl_X1_61 hk_c0 rfl rfl (j := 6) rfl dX1_advance_142 (v := (N_14633 c0 6)) rfl rfl ?_
                      refine kx_iconst 146 F dX1_advance_145 rfl ?_
                      refine kx_icmp_eq 149 F 165 dX1_advance_146 (by decide) rfl (by omega) (by decide) (fun h_14672 => (by exfalso; omega)) (fun h_14672 => ?_)
                      refine kx_aload_n 150 F 0 dX1_advance_149 rfl rfl rfl ?_
                      refine kx_geti 153 F fl_X1_61 hk_c0 rfl rfl (j := 6) rfl dX1_advance_150 (v := (N_14633 c0 6)) rfl rfl ?_
                      refine kx_iconst 154 F dX1_advance_153 rfl ?_
                      refine kx_icmp_ne 157 F 171 dX1_advance_154 (by decide) rfl (by omega) (by decide) (fun h_14673 => ?_) (fun h_14673 => (by exfalso; omega))
                      refine kx_aload_n 172 F 0 dX1_advance_171 rfl rfl rfl ?_
                      refine kx_geti 175 F fl_X1_61 hk_c0 rfl rfl (j := 6) rfl dX1_advance_172 (v := (N_14633 c0 6)) rfl rfl ?_
                      refine kx_iconst 176 F dX1_advance_175 rfl ?_
                      refine kx_icmp_ne 179 F 183 dX1_advance_176 (by decide) rfl (by omega) (by decide) (fun h_14674 => ?_) (fun h_14674 => (by exfalso; omega))
                      refine kx_iconst 184 F dX1_advance_183 rfl ?_
                      have h_14675 := Inv.g hI_N_14633 hk_c0 rfl 2 (a := (-2147483648)) (b := 2147483647) rfl rfl
                      have h_14676 := Inv.g hI_N_14633 hk_c0 rfl 3 (a := (-2147483648)) (b := 2147483647) rfl rfl
                      have h_14677 := Inv.g hI_N_14633 hk_c0 rfl 9 (a := (-2147483648)) (b := 2147483647) rfl rfl
                      exact kx_zret F hQ (by omega) ⟨hI_N_14633, hF_N_14633, (Or.inl (by omega))⟩ dX1_advance_184
                    · refine kx_aload_n 126 F 0 dX1_advance_125 rfl rfl rfl ?_
                      refine kx_dup 127 F dX1_advance_126 rfl rfl ?_
                      refine kx_geti 130 F fl_X1_54 hk_c0 rfl rfl (j := 8) rfl dX1_advance_127 (v := (N_14633 c0 8)) rfl rfl ?_
                      refine kx_iconst 131 F dX1_advance_130 rfl ?_
                      refine kx_iadd 132 F (v := (N_14633 c0 8) + 1) dX1_advance_131 rfl rfl ?_
                      refine kx_puti 135 F fw_X1_54 rfl hk_c0 rfl rfl (j := 8) rfl dX1_advance_132 rfl ?_
                      intro N_14678 hM_N_14678
                      have hI_N_14678 : Inv false N_14678 := Inv.u hI_N_14633 hM_N_14678 hk_c0 (a := 0) (b := 900) rfl rfl rfl (by omega)
                      have hF_N_14678 : Fr f_e_X1_advance M N_14678 := Fr.u hF_N_14633 hM_N_14678 hk_c0 rfl
                      refine kx_iinc 138 F 1 (v := x1_14632 + 1) (lo' := [some (vR G c0), some (vI (x1_14632 + 1))]) dX1_advance_135 rfl (by omega) (by decide) rfl rfl rfl ?_
                      refine kx_goto 97 F dX1_advance_138 (by decide) ?_
                      have e_14679 : (N_14678 c0 7) = (N_14633 c0 7) := by rw [hM_N_14678, mu_i (by omega)]
                      have e_14680 : (N_14678 c0 8) = (N_14633 c0 8) + 1 := by rw [hM_N_14678, mu_s]
                      have e_14682 : (N_14678 c0 6) = (N_14633 c0 6) := by rw [hM_N_14678, mu_i (by omega)]
                      have e_14684 : (N_14678 c0 2) = (N_14633 c0 2) := by rw [hM_N_14678, mu_i (by omega)]
                      have h_14685 := Inv.g hI_N_14633 hk_c0 rfl 2 (a := (-2147483648)) (b := 2147483647) rfl rfl
                      have e_14686 : (N_14678 c0 3) = (N_14633 c0 3) := by rw [hM_N_14678, mu_i (by omega)]
                      have h_14687 := Inv.g hI_N_14633 hk_c0 rfl 3 (a := (-2147483648)) (b := 2147483647) rfl rfl
                      exact ih_14636 _ (by omega) (x1_14632 + 1) N_14678 hI_N_14678 hF_N_14678 (RU.step hp_14639 (by omega) (by omega) (by omega)) (by omega) rfl
              have e_14688 : (N_14373 c0 7) = (N_13057 c0 7) := by rw [hM_N_14373, mu_i (by omega), hM_N_14371, mu_i (by omega)]
              have e_14689 : (N_14373 c0 8) = 1 := by rw [hM_N_14373, mu_s]
              have e_14691 : (N_14373 c0 6) = r_14364 := by rw [hM_N_14373, mu_i (by omega), hM_N_14371, mu_s]
              have e_14693 : (N_14373 c0 2) = (N_13057 c0 2) := by rw [hM_N_14373, mu_i (by omega), hM_N_14371, mu_i (by omega)]
              have h_14694 := Inv.g hI_N_13057 hk_c0 rfl 2 (a := (-2147483648)) (b := 2147483647) rfl rfl
              have e_14695 : (N_14373 c0 3) = (N_13057 c0 3) := by rw [hM_N_14373, mu_i (by omega), hM_N_14371, mu_i (by omega)]
              have h_14696 := Inv.g hI_N_13057 hk_c0 rfl 3 (a := (-2147483648)) (b := 2147483647) rfl rfl
              exact L_14634 _ 0 N_14373 hI_N_14373 hF_N_14373 (RU.one (by omega) (by omega)) (by omega) rfl
            · refine kx_aload_n 88 F 0 dX1_advance_87 rfl rfl rfl ?_
              refine kx_geti 91 F fl_X1_61 hk_c0 rfl rfl (j := 6) rfl dX1_advance_88 (v := r_14364) (by rw [hM_N_14373, mu_i (by omega), hM_N_14371, mu_s]) rfl ?_
              refine kx_iconst 92 F dX1_advance_91 rfl ?_
              refine kx_icmp_ne 95 F 141 dX1_advance_92 (by decide) rfl (by omega) (by decide) (fun h_14697 => ?_) (fun h_14697 => ?_)
              · refine kx_aload_n 142 F 0 dX1_advance_141 rfl rfl rfl ?_
                refine kx_geti 145 F fl_X1_61 hk_c0 rfl rfl (j := 6) rfl dX1_advance_142 (v := r_14364) (by rw [hM_N_14373, mu_i (by omega), hM_N_14371, mu_s]) rfl ?_
                refine kx_iconst 146 F dX1_advance_145 rfl ?_
                refine kx_icmp_eq 149 F 165 dX1_advance_146 (by decide) rfl (by omega) (by decide) (fun h_14698 => ?_) (fun h_14698 => ?_)
                · refine kx_aload_n 166 F 0 dX1_advance_165 rfl rfl rfl ?_
                  refine kx_iconst 167 F dX1_advance_166 rfl ?_
                  refine kx_Vi 170 (ci := 0) F (As := [vI 1]) (st := []) vd_X1_89 (e_X1_fail G l N_14373 c0 1 hI_N_14373 hk_c0 (by omega)) hk_c0 rfl rfl rfl ⟨by decide, by decide⟩ rfl rfl (Nat.le_of_ble_eq_true rfl) dX1_advance_167 rfl ?_
                  intro r_14699 N_14700 q_14701
                  obtain ⟨hI_N_14700, hG_N_14700, q_14701c⟩ := q_14701
                  have hF_N_14700 : Fr f_e_X1_advance M N_14700 := Fr.c hF_N_14373 hG_N_14700 rfl
                  have h_14702 := Inv.g hI_N_14700 hk_c0 rfl 2 (a := (-2147483648)) (b := 2147483647) rfl rfl
                  have e_14703 : (N_14373 c0 7) = (N_13057 c0 7) := by rw [hM_N_14373, mu_i (by omega), hM_N_14371, mu_i (by omega)]
                  have h_14704 := Inv.g hI_N_14700 hk_c0 rfl 3 (a := (-2147483648)) (b := 2147483647) rfl rfl
                  have e_14705 : (N_14700 c0 7) = (N_13057 c0 7) := by rw [Fr.e hG_N_14700 hk_c0 _ rfl, hM_N_14373, mu_i (by omega), hM_N_14371, mu_i (by omega)]
                  have e_14707 : (N_14700 c0 8) = 1 := by rw [Fr.e hG_N_14700 hk_c0 _ rfl, hM_N_14373, mu_s]
                  have e_14708 : (N_14700 c0 6) = r_14364 := by rw [Fr.e hG_N_14700 hk_c0 _ rfl, hM_N_14373, mu_i (by omega), hM_N_14371, mu_s]
                  have e_14714 : (N_14700 c0 9) = (N_13057 c0 9) := by rw [Fr.e hG_N_14700 hk_c0 _ rfl, hM_N_14373, mu_i (by omega), hM_N_14371, mu_i (by omega)]
                  have h_14715 := Inv.g hI_N_13057 hk_c0 rfl 9 (a := (-2147483648)) (b := 2147483647) rfl rfl
                  exact kx_zret F hQ (by omega) ⟨hI_N_14700, hF_N_14700, (Or.inr (Or.inr (by omega)))⟩ dX1_advance_170
                · refine kx_aload_n 150 F 0 dX1_advance_149 rfl rfl rfl ?_
                  refine kx_geti 153 F fl_X1_61 hk_c0 rfl rfl (j := 6) rfl dX1_advance_150 (v := r_14364) (by rw [hM_N_14373, mu_i (by omega), hM_N_14371, mu_s]) rfl ?_
                  refine kx_iconst 154 F dX1_advance_153 rfl ?_
                  refine kx_icmp_ne 157 F 171 dX1_advance_154 (by decide) rfl (by omega) (by decide) (fun h_14722 => ?_) (fun h_14722 => (by exfalso; omega))
                  refine kx_aload_n 172 F 0 dX1_advance_171 rfl rfl rfl ?_
                  refine kx_geti 175 F fl_X1_61 hk_c0 rfl rfl (j := 6) rfl dX1_advance_172 (v := r_14364) (by rw [hM_N_14373, mu_i (by omega), hM_N_14371, mu_s]) rfl ?_
                  refine kx_iconst 176 F dX1_advance_175 rfl ?_
                  refine kx_icmp_ne 179 F 183 dX1_advance_176 (by decide) rfl (by omega) (by decide) (fun h_14723 => ?_) (fun h_14723 => (by exfalso; omega))
                  refine kx_iconst 184 F dX1_advance_183 rfl ?_
                  have e_14724 : (N_14373 c0 7) = (N_13057 c0 7) := by rw [hM_N_14373, mu_i (by omega), hM_N_14371, mu_i (by omega)]
                  have e_14726 : (N_14373 c0 8) = 1 := by rw [hM_N_14373, mu_s]
                  have e_14727 : (N_14373 c0 6) = r_14364 := by rw [hM_N_14373, mu_i (by omega), hM_N_14371, mu_s]
                  have e_14728 : (N_14373 c0 2) = (N_13057 c0 2) := by rw [hM_N_14373, mu_i (by omega), hM_N_14371, mu_i (by omega)]
                  have h_14729 := Inv.g hI_N_13057 hk_c0 rfl 2 (a := (-2147483648)) (b := 2147483647) rfl rfl
                  have e_14730 : (N_14373 c0 3) = (N_13057 c0 3) := by rw [hM_N_14373, mu_i (by omega), hM_N_14371, mu_i (by omega)]
                  have h_14731 := Inv.g hI_N_13057 hk_c0 rfl 3 (a := (-2147483648)) (b := 2147483647) rfl rfl
                  have e_14737 : (N_14373 c0 9) = (N_13057 c0 9) := by rw [hM_N_14373, mu_i (by omega), hM_N_14371, mu_i (by omega)]
                  have h_14738 := Inv.g hI_N_13057 hk_c0 rfl 9 (a := (-2147483648)) (b := 2147483647) rfl rfl
                  exact kx_zret F hQ (by omega) ⟨hI_N_14373, hF_N_14373, (Or.inl (by omega))⟩ dX1_advance_184
              · refine kx_iconst 96 F dX1_advance_95 rfl ?_
                refine kx_istore_n 97 F 1 (lo' := [some (vR G c0), some (vI 0)]) dX1_advance_96 rfl (by decide) rfl rfl rfl ?_
                have L_15649 : ∀ (n_15650 : Nat) (x1_15647 : Int) (N_15648 : Mem), Inv false N_15648 → Fr f_e_X1_advance M N_15648 → RU N_15648 c0 Bt j → 0 ≤ x1_15647 ∧ x1_15647 ≤ 899 ∧ (N_15648 c0 7) = (tp Bt j) ∧ (N_15648 c0 6) = (tk Bt j) ∧ (N_15648 c0 8) = x1_15647 + 1 ∧ (tk Bt j) ≥ 1 ∧ (tk Bt j) ≤ 2 ∧ (N_15648 c0 2) = (M c0 2) ∧ (N_15648 c0 3) = (M c0 3) → (899 - (x1_15647)).toNat = n_15650 → KJ false G X N_15648 97 [some (vR G c0), some (vI x1_15647)] [] := by
                  intro n_15650
                  refine Nat.strongRecOn n_15650 ?_
                  intro n_15650 ih_15651 x1_15647 N_15648 hI_N_15648 hF_N_15648 hp_15654 h_15652 hm_15653
                  refine kx_iload_n 98 F 1 dX1_advance_97 rfl rfl rfl ?_
                  refine kx_aload_n 99 F 0 dX1_advance_98 rfl rfl rfl ?_
                  refine kx_geti 102 F fl_X1_45 hk_c0 rfl rfl (j := 5) rfl dX1_advance_99 (v := (M c0 5)) (by rw [Fr.e hF_N_15648 hk_c0 _ rfl]) rfl ?_
                  refine kx_icmp_ge 105 F 141 dX1_advance_102 (by decide) rfl (by omega) (by omega) (fun h_15655 => ?_) (fun h_15655 => ?_)
                  · have h_15656 := Inv.g hI_N_15648 hk_c0 rfl 7 (a := 0) (b := 900) rfl rfl
                    have h_15657 := Inv.g hI_N_15648 hk_c0 rfl 8 (a := 0) (b := 900) rfl rfl
                    have hz_15658 : N_15648 c0 7 + N_15648 c0 8 = tq Bt j := RU.done hp_15654 (TB.tx hB hI_M hk_c0) hj (by omega) (by omega) (by omega) (by omega)
                    refine kx_aload_n 142 F 0 dX1_advance_141 rfl rfl rfl ?_
                    refine kx_geti 145 F fl_X1_61 hk_c0 rfl rfl (j := 6) rfl dX1_advance_142 (v := (N_15648 c0 6)) rfl rfl ?_
                    have h_15659 := Inv.g hI_N_15648 hk_c0 rfl 6 (a := 0) (b := 5) rfl rfl
                    refine kx_iconst 146 F dX1_advance_145 rfl ?_
                    refine kx_icmp_eq 149 F 165 dX1_advance_146 (by decide) rfl (by omega) (by decide) (fun h_15660 => (by exfalso; omega)) (fun h_15660 => ?_)
                    refine kx_aload_n 150 F 0 dX1_advance_149 rfl rfl rfl ?_
                    refine kx_geti 153 F fl_X1_61 hk_c0 rfl rfl (j := 6) rfl dX1_advance_150 (v := (N_15648 c0 6)) rfl rfl ?_
                    refine kx_iconst 154 F dX1_advance_153 rfl ?_
                    refine kx_icmp_ne 157 F 171 dX1_advance_154 (by decide) rfl (by omega) (by decide) (fun h_15661 => (by exfalso; omega)) (fun h_15661 => ?_)
                    refine kx_aload_n 158 F 0 dX1_advance_157 rfl rfl rfl ?_
                    refine kx_geti 161 F fl_X1_54 hk_c0 rfl rfl (j := 8) rfl dX1_advance_158 (v := (N_15648 c0 8)) rfl rfl ?_
                    refine kx_iconst 162 F dX1_advance_161 rfl ?_
                    refine kx_icmp_le 165 F 171 dX1_advance_162 (by decide) rfl (by omega) (by decide) (fun h_15662 => (by exfalso; omega)) (fun h_15662 => ?_)
                    refine kx_aload_n 166 F 0 dX1_advance_165 rfl rfl rfl ?_
                    refine kx_iconst 167 F dX1_advance_166 rfl ?_
                    refine kx_Vi 170 (ci := 0) F (As := [vI 1]) (st := []) vd_X1_89 (e_X1_fail G l N_15648 c0 1 hI_N_15648 hk_c0 (by omega)) hk_c0 rfl rfl rfl ⟨by decide, by decide⟩ rfl rfl (Nat.le_of_ble_eq_true rfl) dX1_advance_167 rfl ?_
                    intro r_15663 N_15664 q_15665
                    obtain ⟨hI_N_15664, hG_N_15664, q_15665c⟩ := q_15665
                    have hF_N_15664 : Fr f_e_X1_advance M N_15664 := Fr.c hF_N_15648 hG_N_15664 rfl
                    have h_15666 := Inv.g hI_N_15664 hk_c0 rfl 2 (a := (-2147483648)) (b := 2147483647) rfl rfl
                    have h_15667 := Inv.g hI_N_15664 hk_c0 rfl 3 (a := (-2147483648)) (b := 2147483647) rfl rfl
                    have e_15668 : (N_15664 c0 7) = (N_15648 c0 7) := by rw [Fr.e hG_N_15664 hk_c0 _ rfl]
                    have e_15670 : (N_15664 c0 8) = (N_15648 c0 8) := by rw [Fr.e hG_N_15664 hk_c0 _ rfl]
                    have e_15671 : (N_15664 c0 6) = (N_15648 c0 6) := by rw [Fr.e hG_N_15664 hk_c0 _ rfl]
                    have e_15677 : (N_15664 c0 9) = (N_15648 c0 9) := by rw [Fr.e hG_N_15664 hk_c0 _ rfl]
                    have h_15678 := Inv.g hI_N_15648 hk_c0 rfl 9 (a := (-2147483648)) (b := 2147483647) rfl rfl
                    exact kx_zret F hQ (by omega) ⟨hI_N_15664, hF_N_15664, (Or.inr (Or.inr (by omega)))⟩ dX1_advance_170
                  · refine kx_aload_n 106 F 0 dX1_advance_105 rfl rfl rfl ?_
                    refine kx_aload_n 107 F 0 dX1_advance_106 rfl rfl rfl ?_
                    refine kx_geti 110 F fl_X1_51 hk_c0 rfl rfl (j := 7) rfl dX1_advance_107 (v := (N_15648 c0 7)) rfl rfl ?_
                    have h_15685 := Inv.g hI_N_15648 hk_c0 rfl 7 (a := 0) (b := 900) rfl rfl
                    refine kx_aload_n 111 F 0 dX1_advance_110 rfl rfl rfl ?_
                    refine kx_geti 114 F fl_X1_54 hk_c0 rfl rfl (j := 8) rfl dX1_advance_111 (v := (N_15648 c0 8)) rfl rfl ?_
                    have h_15686 := Inv.g hI_N_15648 hk_c0 rfl 8 (a := 0) (b := 900) rfl rfl
                    refine kx_iadd 115 F (v := (N_15648 c0 7) + (N_15648 c0 8)) dX1_advance_114 rfl rfl ?_
                    refine kx_Vi 118 (ci := 0) F (As := [vI ((N_15648 c0 7) + (N_15648 c0 8))]) (st := []) vd_X1_209 (e_X1_kindAt G l N_15648 c0 ((N_15648 c0 7) + (N_15648 c0 8)) hI_N_15648 hk_c0 (by omega) Bt (TB.fr hB hI_M hk_c0 hF_N_15648 rfl)) hk_c0 rfl rfl rfl ⟨by decide, by decide⟩ rfl rfl (Nat.le_of_ble_eq_true rfl) dX1_advance_115 rfl ?_
                    intro r_15687 N_15688 q_15689
                    obtain ⟨rfl, q_15689c⟩ := q_15689
                    have e_15690 : (N_15648 c0 5) = (M c0 5) := by rw [Fr.e hF_N_15648 hk_c0 _ rfl]
                    rcases q_15689c with q_15689c | q_15689c
                    · refine kx_aload_n 119 F 0 dX1_advance_118 rfl rfl rfl ?_
                      refine kx_geti 122 F fl_X1_61 hk_c0 rfl rfl (j := 6) rfl dX1_advance_119 (v := (N_15648 c0 6)) rfl rfl ?_
                      have h_15694 := Inv.g hI_N_15648 hk_c0 rfl 6 (a := 0) (b := 5) rfl rfl
                      refine kx_icmp_ne 125 F 141 dX1_advance_122 (by decide) rfl (by omega) (by omega) (fun h_15695 => ?_) (fun h_15695 => (by exfalso; omega))
                      have hz_15696 : N_15648 c0 7 + N_15648 c0 8 = tq Bt j := RU.done hp_15654 (TB.tx hB hI_M hk_c0) hj (by omega) (by omega) (by omega) (by omega)
                      refine kx_aload_n 142 F 0 dX1_advance_141 rfl rfl rfl ?_
                      refine kx_geti 145 F fl_X1_61 hk_c0 rfl rfl (j := 6) rfl dX1_advance_142 (v := (N_15648 c0 6)) rfl rfl ?_
                      refine kx_iconst 146 F dX1_advance_145 rfl ?_
                      refine kx_icmp_eq 149 F 165 dX1_advance_146 (by decide) rfl (by omega) (by decide) (fun h_15697 => (by exfalso; omega)) (fun h_15697 => ?_)
                      refine kx_aload_n 150 F 0 dX1_advance_149 rfl rfl rfl ?_
                      refine kx_geti 153 F fl_X1_61 hk_c0 rfl rfl (j := 6) rfl dX1_advance_150 (v := (N_15648 c0 6)) rfl rfl ?_
                      refine kx_iconst 154 F dX1_advance_153 rfl ?_
                      refine kx_icmp_ne 157 F 171 dX1_advance_154 (by decide) rfl (by omega) (by decide) (fun h_15698 => (by exfalso; omega)) (fun h_15698 => ?_)
                      refine kx_aload_n 158 F 0 dX1_advance_157 rfl rfl rfl ?_
                      refine kx_geti 161 F fl_X1_54 hk_c0 rfl rfl (j := 8) rfl dX1_advance_158 (v := (N_15648 c0 8)) rfl rfl ?_
                      refine kx_iconst 162 F dX1_advance_161 rfl ?_
                      refine kx_icmp_le 165 F 171 dX1_advance_162 (by decide) rfl (by omega) (by decide) (fun h_15699 => ?_) (fun h_15699 => ?_)
                      · refine kx_aload_n 172 F 0 dX1_advance_171 rfl rfl rfl ?_
                        refine kx_geti 175 F fl_X1_61 hk_c0 rfl rfl (j := 6) rfl dX1_advance_172 (v := (N_15648 c0 6)) rfl rfl ?_
                        refine kx_iconst 176 F dX1_advance_175 rfl ?_
                        refine kx_icmp_ne 179 F 183 dX1_advance_176 (by decide) rfl (by omega) (by decide) (fun h_15700 => (by exfalso; omega)) (fun h_15700 => ?_)
                        refine kx_aload_n 180 F 0 dX1_advance_179 rfl rfl rfl ?_
                        refine kx_Vv 183 (ci := 0) F (As := []) (st := []) vd_X1_212 (e_X1_reckonValue G l N_15648 c0 hI_N_15648 hk_c0 Bt (TB.fr hB hI_M hk_c0 hF_N_15648 rfl) j (by omega) (by omega)) hk_c0 rfl rfl rfl ⟨by decide, by decide⟩ rfl rfl (Nat.le_of_ble_eq_true rfl) dX1_advance_180 rfl ?_
                        intro N_15701 q_15702
                        obtain ⟨hI_N_15701, hG_N_15701, q_15702c⟩ := q_15702
                        have hF_N_15701 : Fr f_e_X1_advance M N_15701 := Fr.c hF_N_15648 hG_N_15701 rfl
                        have h_15703 := Inv.g hI_N_15701 hk_c0 rfl 9 (a := (-2147483648)) (b := 2147483647) rfl rfl
                        refine kx_iconst 184 F dX1_advance_183 rfl ?_
                        have e_15704 : (N_15701 c0 7) = (N_15648 c0 7) := by rw [Fr.e hG_N_15701 hk_c0 _ rfl]
                        have e_15706 : (N_15701 c0 8) = (N_15648 c0 8) := by rw [Fr.e hG_N_15701 hk_c0 _ rfl]
                        have e_15707 : (N_15701 c0 6) = (N_15648 c0 6) := by rw [Fr.e hG_N_15701 hk_c0 _ rfl]
                        have e_15708 : (N_15701 c0 2) = (N_15648 c0 2) := by rw [Fr.e hG_N_15701 hk_c0 _ rfl]
                        have h_15709 := Inv.g hI_N_15648 hk_c0 rfl 2 (a := (-2147483648)) (b := 2147483647) rfl rfl
                        have e_15710 : (N_15701 c0 3) = (N_15648 c0 3) := by rw [Fr.e hG_N_15701 hk_c0 _ rfl]
                        have h_15711 := Inv.g hI_N_15648 hk_c0 rfl 3 (a := (-2147483648)) (b := 2147483647) rfl rfl
                        exact kx_zret F hQ (by omega) ⟨hI_N_15701, hF_N_15701, (Or.inr (Or.inl (by omega)))⟩ dX1_advance_184
                      · refine kx_aload_n 166 F 0 dX1_advance_165 rfl rfl rfl ?_
                        refine kx_iconst 167 F dX1_advance_166 rfl ?_
                        refine kx_Vi 170 (ci := 0) F (As := [vI 1]) (st := []) vd_X1_89 (e_X1_fail G l N_15648 c0 1 hI_N_15648 hk_c0 (by omega)) hk_c0 rfl rfl rfl ⟨by decide, by decide⟩ rfl rfl (Nat.le_of_ble_eq_true rfl) dX1_advance_167 rfl ?_
                        intro r_15725 N_15726 q_15727
                        obtain ⟨hI_N_15726, hG_N_15726, q_15727c⟩ := q_15727
                        have hF_N_15726 : Fr f_e_X1_advance M N_15726 := Fr.c hF_N_15648 hG_N_15726 rfl
                        have h_15728 := Inv.g hI_N_15726 hk_c0 rfl 2 (a := (-2147483648)) (b := 2147483647) rfl rfl
                        have h_15729 := Inv.g hI_N_15726 hk_c0 rfl 3 (a := (-2147483648)) (b := 2147483647) rfl rfl
                        have e_15730 : (N_15726 c0 7) = (N_15648 c0 7) := by rw [Fr.e hG_N_15726 hk_c0 _ rfl]
                        have e_15732 : (N_15726 c0 8) = (N_15648 c0 8) := by rw [Fr.e hG_N_15726 hk_c0 _ rfl]
                        have e_15733 : (N_15726 c0 6) = (N_15648 c0 6) := by rw [Fr.e hG_N_15726 hk_c0 _ rfl]
                        have e_15739 : (N_15726 c0 9) = (N_15648 c0 9) := by rw [Fr.e hG_N_15726 hk_c0 _ rfl]
                        have h_15740 := Inv.g hI_N_15648 hk_c0 rfl 9 (a := (-2147483648)) (b := 2147483647) rfl rfl
                        exact kx_zret F hQ (by omega) ⟨hI_N_15726, hF_N_15726, (Or.inr (Or.inr (by omega)))⟩ dX1_advance_170
                    · refine kx_aload_n 119 F 0 dX1_advance_118 rfl rfl rfl ?_
                      refine kx_geti 122 F fl_X1_61 hk_c0 rfl rfl (j := 6) rfl dX1_advance_119 (v := (N_15648 c0 6)) rfl rfl ?_
                      have h_15747 := Inv.g hI_N_15648 hk_c0 rfl 6 (a := 0) (b := 5) rfl rfl
                      refine kx_icmp_ne 125 F 141 dX1_advance_122 (by decide) rfl (by omega) (by omega) (fun h_15748 => ?_) (fun h_15748 => ?_)
                      · have hz_15749 : N_15648 c0 7 + N_15648 c0 8 = tq Bt j := RU.done hp_15654 (TB.tx hB hI_M hk_c0) hj (by omega) (by omega) (by omega) (by omega)
                        refine kx_aload_n 142 F 0 dX1_advance_141 rfl rfl rfl ?_
                        refine kx_geti 145 F fl_X1_61 hk_c0 rfl rfl (j := 6) rfl dX1_advance_142 (v := (N_15648 c0 6)) rfl rfl ?_
                        refine kx_iconst 146 F dX1_advance_145 rfl ?_
                        refine kx_icmp_eq 149 F 165 dX1_advance_146 (by decide) rfl (by omega) (by decide) (fun h_15750 => (by exfalso; omega)) (fun h_15750 => ?_)
                        refine kx_aload_n 150 F 0 dX1_advance_149 rfl rfl rfl ?_
                        refine kx_geti 153 F fl_X1_61 hk_c0 rfl rfl (j := 6) rfl dX1_advance_150 (v := (N_15648 c0 6)) rfl rfl ?_
                        refine kx_iconst 154 F dX1_advance_153 rfl ?_
                        refine kx_icmp_ne 157 F 171 dX1_advance_154 (by decide) rfl (by omega) (by decide) (fun h_15751 => (by exfalso; omega)) (fun h_15751 => ?_)
                        refine kx_aload_n 158 F 0 dX1_advance_157 rfl rfl rfl ?_
                        refine kx_geti 161 F fl_X1_54 hk_c0 rfl rfl (j := 8) rfl dX1_advance_158 (v := (N_15648 c0 8)) rfl rfl ?_
                        refine kx_iconst 162 F dX1_advance_161 rfl ?_
                        refine kx_icmp_le 165 F 171 dX1_advance_162 (by decide) rfl (by omega) (by decide) (fun h_15752 => ?_) (fun h_15752 => ?_)
                        · refine kx_aload_n 172 F 0 dX1_advance_171 rfl rfl rfl ?_
                          refine kx_geti 175 F fl_X1_61 hk_c0 rfl rfl (j := 6) rfl dX1_advance_172 (v := (N_15648 c0 6)) rfl rfl ?_
                          refine kx_iconst 176 F dX1_advance_175 rfl ?_
                          refine kx_icmp_ne 179 F 183 dX1_advance_176 (by decide) rfl (by omega) (by decide) (fun h_15753 => (by exfalso; omega)) (fun h_15753 => ?_)
                          refine kx_aload_n 180 F 0 dX1_advance_179 rfl rfl rfl ?_
                          refine kx_Vv 183 (ci := 0) F (As := []) (st := []) vd_X1_212 (e_X1_reckonValue G l N_15648 c0 hI_N_15648 hk_c0 Bt (TB.fr hB hI_M hk_c0 hF_N_15648 rfl) j (by omega) (by omega)) hk_c0 rfl rfl rfl ⟨by decide, by decide⟩ rfl rfl (Nat.le_of_ble_eq_true rfl) dX1_advance_180 rfl ?_
                          intro N_15754 q_15755
                          obtain ⟨hI_N_15754, hG_N_15754, q_15755c⟩ := q_15755
                          have hF_N_15754 : Fr f_e_X1_advance M N_15754 := Fr.c hF_N_15648 hG_N_15754 rfl
                          have h_15756 := Inv.g hI_N_15754 hk_c0 rfl 9 (a := (-2147483648)) (b := 2147483647) rfl rfl
                          refine kx_iconst 184 F dX1_advance_183 rfl ?_
                          have e_15757 : (N_15754 c0 7) = (N_15648 c0 7) := by rw [Fr.e hG_N_15754 hk_c0 _ rfl]
                          have e_15759 : (N_15754 c0 8) = (N_15648 c0 8) := by rw [Fr.e hG_N_15754 hk_c0 _ rfl]
                          have e_15760 : (N_15754 c0 6) = (N_15648 c0 6) := by rw [Fr.e hG_N_15754 hk_c0 _ rfl]
                          have e_15761 : (N_15754 c0 2) = (N_15648 c0 2) := by rw [Fr.e hG_N_15754 hk_c0 _ rfl]
                          have h_15762 := Inv.g hI_N_15648 hk_c0 rfl 2 (a := (-2147483648)) (b := 2147483647) rfl rfl
                          have e_15763 : (N_15754 c0 3) = (N_15648 c0 3) := by rw [Fr.e hG_N_15754 hk_c0 _ rfl]
                          have h_15764 := Inv.g hI_N_15648 hk_c0 rfl 3 (a := (-2147483648)) (b := 2147483647) rfl rfl
                          exact kx_zret F hQ (by omega) ⟨hI_N_15754, hF_N_15754, (Or.inr (Or.inl (by omega)))⟩ dX1_advance_184
                        · refine kx_aload_n 166 F 0 dX1_advance_165 rfl rfl rfl ?_
                          refine kx_iconst 167 F dX1_advance_166 rfl ?_
                          refine kx_Vi 170 (ci := 0) F (As := [vI 1]) (st := []) vd_X1_89 (e_X1_fail G l N_15648 c0 1 hI_N_15648 hk_c0 (by omega)) hk_c0 rfl rfl rfl ⟨by decide, by decide⟩ rfl rfl (Nat.le_of_ble_eq_true rfl) dX1_advance_167 rfl ?_
                          intro r_15778 N_15779 q_15780
                          obtain ⟨hI_N_15779, hG_N_15779, q_15780c⟩ := q_15780
                          have hF_N_15779 : Fr f_e_X1_advance M N_15779 := Fr.c hF_N_15648 hG_N_15779 rfl
                          have h_15781 := Inv.g hI_N_15779 hk_c0 rfl 2 (a := (-2147483648)) (b := 2147483647) rfl rfl
                          have h_15782 := Inv.g hI_N_15779 hk_c0 rfl 3 (a := (-2147483648)) (b := 2147483647) rfl rfl
                          have e_15783 : (N_15779 c0 7) = (N_15648 c0 7) := by rw [Fr.e hG_N_15779 hk_c0 _ rfl]
                          have e_15785 : (N_15779 c0 8) = (N_15648 c0 8) := by rw [Fr.e hG_N_15779 hk_c0 _ rfl]
                          have e_15786 : (N_15779 c0 6) = (N_15648 c0 6) := by rw [Fr.e hG_N_15779 hk_c0 _ rfl]
                          have e_15792 : (N_15779 c0 9) = (N_15648 c0 9) := by rw [Fr.e hG_N_15779 hk_c0 _ rfl]
                          have h_15793 := Inv.g hI_N_15648 hk_c0 rfl 9 (a := (-2147483648)) (b := 2147483647) rfl rfl
                          exact kx_zret F hQ (by omega) ⟨hI_N_15779, hF_N_15779, (Or.inr (Or.inr (by omega)))⟩ dX1_advance_170
                      · refine kx_aload_n 126 F 0 dX1_advance_125 rfl rfl rfl ?_
                        refine kx_dup 127 F dX1_advance_126 rfl rfl ?_
                        refine kx_geti 130 F fl_X1_54 hk_c0 rfl rfl (j := 8) rfl dX1_advance_127 (v := (N_15648 c0 8)) rfl rfl ?_
                        refine kx_iconst 131 F dX1_advance_130 rfl ?_
                        refine kx_iadd 132 F (v := (N_15648 c0 8) + 1) dX1_advance_131 rfl rfl ?_
                        refine kx_puti 135 F fw_X1_54 rfl hk_c0 rfl rfl (j := 8) rfl dX1_advance_132 rfl ?_
                        intro N_15800 hM_N_15800
                        have hI_N_15800 : Inv false N_15800 := Inv.u hI_N_15648 hM_N_15800 hk_c0 (a := 0) (b := 900) rfl rfl rfl (by omega)
                        have hF_N_15800 : Fr f_e_X1_advance M N_15800 := Fr.u hF_N_15648 hM_N_15800 hk_c0 rfl
                        refine kx_iinc 138 F 1 (v := x1_15647 + 1) (lo' := [some (vR G c0), some (vI (x1_15647 + 1))]) dX1_advance_135 rfl (by omega) (by decide) rfl rfl rfl ?_
                        refine kx_goto 97 F dX1_advance_138 (by decide) ?_
                        have e_15801 : (N_15800 c0 7) = (N_15648 c0 7) := by rw [hM_N_15800, mu_i (by omega)]
                        have e_15802 : (N_15800 c0 8) = (N_15648 c0 8) + 1 := by rw [hM_N_15800, mu_s]
                        have e_15804 : (N_15800 c0 6) = (N_15648 c0 6) := by rw [hM_N_15800, mu_i (by omega)]
                        have e_15806 : (N_15800 c0 2) = (N_15648 c0 2) := by rw [hM_N_15800, mu_i (by omega)]
                        have h_15807 := Inv.g hI_N_15648 hk_c0 rfl 2 (a := (-2147483648)) (b := 2147483647) rfl rfl
                        have e_15808 : (N_15800 c0 3) = (N_15648 c0 3) := by rw [hM_N_15800, mu_i (by omega)]
                        have h_15809 := Inv.g hI_N_15648 hk_c0 rfl 3 (a := (-2147483648)) (b := 2147483647) rfl rfl
                        exact ih_15651 _ (by omega) (x1_15647 + 1) N_15800 hI_N_15800 hF_N_15800 (RU.step hp_15654 (by omega) (by omega) (by omega)) (by omega) rfl
                have e_15810 : (N_14373 c0 7) = (N_13057 c0 7) := by rw [hM_N_14373, mu_i (by omega), hM_N_14371, mu_i (by omega)]
                have e_15811 : (N_14373 c0 8) = 1 := by rw [hM_N_14373, mu_s]
                have e_15813 : (N_14373 c0 6) = r_14364 := by rw [hM_N_14373, mu_i (by omega), hM_N_14371, mu_s]
                have e_15815 : (N_14373 c0 2) = (N_13057 c0 2) := by rw [hM_N_14373, mu_i (by omega), hM_N_14371, mu_i (by omega)]
                have h_15816 := Inv.g hI_N_13057 hk_c0 rfl 2 (a := (-2147483648)) (b := 2147483647) rfl rfl
                have e_15817 : (N_14373 c0 3) = (N_13057 c0 3) := by rw [hM_N_14373, mu_i (by omega), hM_N_14371, mu_i (by omega)]
                have h_15818 := Inv.g hI_N_13057 hk_c0 rfl 3 (a := (-2147483648)) (b := 2147483647) rfl rfl
                exact L_15649 _ 0 N_14373 hI_N_14373 hF_N_14373 (RU.one (by omega) (by omega)) (by omega) rfl
        · refine kx_aload_n 36 F 0 dX1_advance_35 rfl rfl rfl ?_
          refine kx_dup 37 F dX1_advance_36 rfl rfl ?_
          refine kx_geti 40 F fl_X1_51 hk_c0 rfl rfl (j := 7) rfl dX1_advance_37 (v := (N_13057 c0 7)) rfl rfl ?_
          refine kx_iconst 41 F dX1_advance_40 rfl ?_
          refine kx_iadd 42 F (v := (N_13057 c0 7) + 1) dX1_advance_41 rfl rfl ?_
          refine kx_puti 45 F fw_X1_51 rfl hk_c0 rfl rfl (j := 7) rfl dX1_advance_42 rfl ?_
          intro N_15819 hM_N_15819
          have hI_N_15819 : Inv false N_15819 := Inv.u hI_N_13057 hM_N_15819 hk_c0 (a := 0) (b := 900) rfl rfl rfl (by omega)
          have hF_N_15819 : Fr f_e_X1_advance M N_15819 := Fr.u hF_N_13057 hM_N_15819 hk_c0 rfl
          refine kx_iinc 48 F 1 (v := x1_13056 + 1) (lo' := [some (vR G c0), some (vI (x1_13056 + 1))]) dX1_advance_45 rfl (by omega) (by decide) rfl rfl rfl ?_
          refine kx_goto 15 F dX1_advance_48 (by decide) ?_
          have e_15820 : (N_15819 c0 7) = (N_13057 c0 7) + 1 := by rw [hM_N_15819, mu_s]
          have e_15822 : (N_15819 c0 2) = (N_13057 c0 2) := by rw [hM_N_15819, mu_i (by omega)]
          have h_15823 := Inv.g hI_N_13057 hk_c0 rfl 2 (a := (-2147483648)) (b := 2147483647) rfl rfl
          have e_15824 : (N_15819 c0 3) = (N_13057 c0 3) := by rw [hM_N_15819, mu_i (by omega)]
          have h_15825 := Inv.g hI_N_13057 hk_c0 rfl 3 (a := (-2147483648)) (b := 2147483647) rfl rfl
          exact ih_13060 _ (by omega) (x1_13056 + 1) N_15819 hI_N_15819 hF_N_15819 (BL.step hp_13063 (by omega) (by omega)) (by omega) rfl
  have e_15826 : (N_3 c0 7) = (M c0 7) + (M c0 8) := by rw [hM_N_3, mu_s]
  have e_15828 : (N_3 c0 2) = (M c0 2) := by rw [hM_N_3, mu_i (by omega)]
  have h_15829 := Inv.g hI_M hk_c0 rfl 2 (a := (-2147483648)) (b := 2147483647) rfl rfl
  have e_15830 : (N_3 c0 3) = (M c0 3) := by rw [hM_N_3, mu_i (by omega)]
  have h_15831 := Inv.g hI_M hk_c0 rfl 3 (a := (-2147483648)) (b := 2147483647) rfl rfl
  exact L_13058 _ 0 N_3 hI_N_3 hF_N_3 (BL.nil (by omega)) (by omega) rfl
set_option maxHeartbeats 4000000 in
set_option maxRecDepth 100000 in
theorem e_X12_byteAt (G : KG) (l : Launch) (M : Mem) (a1 : Int) (hI_M : Inv true M) (hpre : -2147483648 ≤ a1 ∧ a1 ≤ 2147483647 ∧ 0 ≤ a1) (Bt : Int → Int) (hB : TM M Bt) : KC true G l yX12_byteAt cX12_byteAt 2 (some .int) (0, 0) [vR G 163, vI a1] M (fun A => kQi true G A (fun (r : Int) (N : Mem) => M = N ∧ ((r = (Bt a1) ∧ r = -1 ∧ a1 ≥ (M 163 11)) ∨ (r = (Bt a1) ∧ r ≥ 0 ∧ r ≤ 255 ∧ a1 < (M 163 11))))) := by
  refine kx_met (lo := [some (vR G 163), some (vI a1)]) (by decide) (Nat.le_of_ble_eq_true rfl) rfl ?_
  intro X F hQ
  have hb_1 := hB a1
  have hz_2 := zand_255 (Inv.g hI_M kd_170 rfl a1 (a := -128) (b := 127) rfl rfl)
  have hz_3 : (M 170 a1 < 0 ∧ zand (M 170 a1) 255 = M 170 a1 + 256) ∨ (0 ≤ M 170 a1 ∧ zand (M 170 a1) 255 = M 170 a1) := by by_cases q : M 170 a1 < 0; (rw [if_pos q] at hz_2; left; exact ⟨q, hz_2⟩); (rw [if_neg q] at hz_2; right; exact ⟨by omega, hz_2⟩)
  refine kx_iload_n 1 F 1 dX12_byteAt_0 rfl rfl rfl ?_
  refine kx_aload_n 2 F 0 dX12_byteAt_1 rfl rfl rfl ?_
  refine kx_geti 5 F fl_X12_153 kd_163 rfl rfl (j := 11) rfl dX12_byteAt_2 (v := (M 163 11)) rfl rfl ?_
  have h_4 := Inv.g hI_M kd_163 rfl 11 (a := 0) (b := 900) rfl rfl
  refine kx_icmp_ge 8 F 21 dX12_byteAt_5 (by decide) rfl (by omega) (by omega) (fun h_5 => ?_) (fun h_5 => ?_)
  · refine kx_iconst 22 F dX12_byteAt_21 rfl ?_
    exact kx_iret F hQ ⟨rfl, (by omega)⟩ dX12_byteAt_22
  · refine kx_aload_n 9 F 0 dX12_byteAt_8 rfl rfl rfl ?_
    refine kx_getr 12 F fl_X12_34 kd_163 rfl rfl (j := 9) rfl dX12_byteAt_9 (v := 170) (uq_170 (Inv.r hI_M kd_163 rfl 9 rfl rfl)) rfl ?_
    refine kx_iload_n 13 F 1 dX12_byteAt_12 rfl rfl rfl ?_
    refine kx_bald 14 F kd_170 rfl rfl (by omega) (by decide) dX12_byteAt_13 (v := (M 170 a1)) rfl rfl ?_
    have h_6 := Inv.g hI_M kd_170 rfl a1 (a := (-128)) (b := 127) rfl rfl
    refine kx_sipush 17 F dX12_byteAt_14 (by decide) rfl ?_
    refine kx_iand 18 F (v := (zand (M 170 a1) 255)) dX12_byteAt_17 rfl rfl ?_
    have h_7 := zand_r (a := (M 170 a1)) (b := 255) (by omega)
    refine kx_goto 22 F dX12_byteAt_18 (by decide) ?_
    exact kx_iret F hQ ⟨rfl, (by omega)⟩ dX12_byteAt_22
abbrev f_e_X12_ahead : List (Nat × Int) := [(64, 12), (64, 13), (64, 14), (64, 15)]
set_option maxHeartbeats 4000000 in
set_option maxRecDepth 100000 in
theorem e_X12_ahead (G : KG) (l : Launch) (M : Mem) (hI_M : Inv true M) (Bt : Int → Int) (hB : TM M Bt) (j jp : Int) (hj : 0 ≤ j) (hjp : jp = j - 1) (he : M 163 14 = tq Bt jp) : KC true G l yX12_ahead cX12_ahead 2 none (1, 21) [vR G 163] M (fun A => kQv true G A (fun (N : Mem) => Inv true N ∧ Fr f_e_X12_ahead M N ∧ (RT N Bt j))) := by
  refine kx_met (lo := [some (vR G 163), none]) (by decide) (Nat.le_of_ble_eq_true rfl) rfl ?_
  intro X F hQ
  have hF_M : Fr f_e_X12_ahead M M := Fr.rf _ _
  have L_240 : ∀ (n_241 : Nat) (N_239 : Mem), Inv true N_239 → Fr f_e_X12_ahead M N_239 → BM N_239 Bt (M 163 14) → (N_239 163 14) ≤ 900 ∧ (N_239 163 14) ≥ (M 163 14) → (900 - N_239 163 14).toNat = n_241 → KJ true G X N_239 0 [some (vR G 163), none] [] := by
    intro n_241
    refine Nat.strongRecOn n_241 ?_
    intro n_241 ih_242  N_239 hI_N_239 hF_N_239 hp_245 h_243 hm_244
    refine kx_aload_n 1 F 0 dX12_ahead_0 rfl rfl rfl ?_
    refine kx_aload_n 2 F 0 dX12_ahead_1 rfl rfl rfl ?_
    refine kx_geti 5 F fl_X12_156 kd_163 rfl rfl (j := 14) rfl dX12_ahead_2 (v := (N_239 163 14)) rfl rfl ?_
    have h_246 := Inv.g hI_N_239 kd_163 rfl 14 (a := 0) (b := 900) rfl rfl
    refine kx_Vi 8 (ci := 0) F (As := [vI (N_239 163 14)]) (st := []) vd_X12_159 (e_X12_byteAt G l N_239 (N_239 163 14) hI_N_239 (by omega) Bt (TM.fr hB hF_N_239 rfl)) kd_163 rfl rfl rfl ⟨by decide, by decide⟩ rfl rfl (Nat.le_of_ble_eq_true rfl) dX12_ahead_5 rfl ?_
    intro r_247 N_248 q_249
    obtain ⟨rfl, q_249c⟩ := q_249
    have e_250 : (N_239 163 11) = (M 163 11) := by rw [Fr.e hF_N_239 kd_163 _ rfl]
    have h_251 := Inv.g hI_M kd_163 rfl 11 (a := 0) (b := 900) rfl rfl
    rcases q_249c with q_249c | q_249c
    · refine kx_bipush 10 F dX12_ahead_8 (by decide) rfl ?_
      refine kx_icmp_eq 13 F 26 dX12_ahead_10 (by decide) rfl (by omega) (by decide) (fun h_256 => (by exfalso; omega)) (fun h_256 => ?_)
      refine kx_aload_n 14 F 0 dX12_ahead_13 rfl rfl rfl ?_
      refine kx_aload_n 15 F 0 dX12_ahead_14 rfl rfl rfl ?_
      refine kx_geti 18 F fl_X12_156 kd_163 rfl rfl (j := 14) rfl dX12_ahead_15 (v := (N_239 163 14)) rfl rfl ?_
      refine kx_Vi 21 (ci := 0) F (As := [vI (N_239 163 14)]) (st := []) vd_X12_159 (e_X12_byteAt G l N_239 (N_239 163 14) hI_N_239 (by omega) Bt (TM.fr hB hF_N_239 rfl)) kd_163 rfl rfl rfl ⟨by decide, by decide⟩ rfl rfl (Nat.le_of_ble_eq_true rfl) dX12_ahead_18 rfl ?_
      intro r_257 N_258 q_259
      obtain ⟨rfl, q_259c⟩ := q_259
      rcases q_259c with q_259c | q_259c
      · refine kx_bipush 23 F dX12_ahead_21 (by decide) rfl ?_
        refine kx_icmp_ne 26 F 39 dX12_ahead_23 (by decide) rfl (by omega) (by decide) (fun h_264 => ?_) (fun h_264 => (by exfalso; omega))
        have hc_265 := ck_c (Bt (N_239 163 14))
        have hb_266 := hB (N_239 163 14)
        have hx_267 : (N_239 163 14) = tp Bt j := BM.done hp_245 (TM.tx hB hI_M) hj hjp he (by omega) (by omega)
        have hx_268 : ck (Bt (N_239 163 14)) = tk Bt j := by rw [hx_267]; rfl
        have ht_269 := tp_le (n := M 163 11) (TM.tx hB hI_M) (Inv.g hI_M kd_163 rfl 11 (a := 0) (b := 900) rfl rfl).1 (j := j) (by omega)
        have ht_270 := tq_end (n := M 163 11) (TM.tx hB hI_M) (j := j) (by omega)
        have ht_271 := tbd_c Bt j
        have ht_272 : 0 ≤ tk Bt j ∧ tk Bt j ≤ 4 := tk_b (n := M 163 11) (TM.tx hB hI_M) (by omega)
        refine kx_aload_n 40 F 0 dX12_ahead_39 rfl rfl rfl ?_
        refine kx_aload_n 41 F 0 dX12_ahead_40 rfl rfl rfl ?_
        refine kx_geti 44 F fl_X12_156 kd_163 rfl rfl (j := 14) rfl dX12_ahead_41 (v := (N_239 163 14)) rfl rfl ?_
        refine kx_puti 47 F fw_X12_162 rfl kd_163 rfl rfl (j := 13) rfl dX12_ahead_44 rfl ?_
        intro N_274 hM_N_274
        have hI_N_274 : Inv true N_274 := Inv.u hI_N_239 hM_N_274 kd_163 (a := 0) (b := 900) rfl rfl rfl (by omega)
        have hF_N_274 : Fr f_e_X12_ahead M N_274 := Fr.u hF_N_239 hM_N_274 kd_163 rfl
        refine kx_aload_n 48 F 0 dX12_ahead_47 rfl rfl rfl ?_
        refine kx_aload_n 49 F 0 dX12_ahead_48 rfl rfl rfl ?_
        refine kx_geti 52 F fl_X12_156 kd_163 rfl rfl (j := 14) rfl dX12_ahead_49 (v := (N_239 163 14)) (by rw [hM_N_274, mu_i (by omega)]) rfl ?_
        refine kx_Vi 55 (ci := 0) F (As := [vI (N_239 163 14)]) (st := []) vd_X12_159 (e_X12_byteAt G l N_274 (N_239 163 14) hI_N_274 (by omega) Bt (TM.fr hB hF_N_274 rfl)) kd_163 rfl rfl rfl ⟨by decide, by decide⟩ rfl rfl (Nat.le_of_ble_eq_true rfl) dX12_ahead_52 rfl ?_
        intro r_275 N_276 q_277
        obtain ⟨rfl, q_277c⟩ := q_277
        have e_278 : (N_274 163 11) = (M 163 11) := by rw [hM_N_274, mu_i (by omega), Fr.e hF_N_239 kd_163 _ rfl]
        rcases q_277c with q_277c | q_277c
        · refine kx_istore_n 56 F 1 (lo' := [some (vR G 163), some (vI r_275)]) dX12_ahead_55 rfl (by decide) rfl rfl rfl ?_
          refine kx_aload_n 57 F 0 dX12_ahead_56 rfl rfl rfl ?_
          refine kx_iload_n 58 F 1 dX12_ahead_57 rfl rfl rfl ?_
          refine kx_puti 61 F fw_X12_165 rfl kd_163 rfl rfl (j := 15) rfl dX12_ahead_58 rfl ?_
          intro N_282 hM_N_282
          have hI_N_282 : Inv true N_282 := Inv.u hI_N_274 hM_N_282 kd_163 (a := (-2147483648)) (b := 2147483647) rfl rfl rfl (by omega)
          have hF_N_282 : Fr f_e_X12_ahead M N_282 := Fr.u hF_N_274 hM_N_282 kd_163 rfl
          refine kx_iload_n 62 F 1 dX12_ahead_61 rfl rfl rfl ?_
          refine kx_iconst 63 F dX12_ahead_62 rfl ?_
          refine kx_icmp_ne 66 F 74 dX12_ahead_63 (by decide) rfl (by omega) (by decide) (fun h_283 => (by exfalso; omega)) (fun h_283 => ?_)
          refine kx_aload_n 67 F 0 dX12_ahead_66 rfl rfl rfl ?_
          refine kx_iconst 68 F dX12_ahead_67 rfl ?_
          refine kx_puti 71 F fw_X12_168 rfl kd_163 rfl rfl (j := 12) rfl dX12_ahead_68 rfl ?_
          intro N_284 hM_N_284
          have hI_N_284 : Inv true N_284 := Inv.u hI_N_282 hM_N_284 kd_163 (a := 0) (b := 4) rfl rfl rfl (by omega)
          have hF_N_284 : Fr f_e_X12_ahead M N_284 := Fr.u hF_N_282 hM_N_284 kd_163 rfl
          refine kx_goto 233 F dX12_ahead_71 (by decide) ?_
          have e_285 : (N_284 163 12) = 0 := by rw [hM_N_284, mu_s]
          have e_286 : (N_284 163 13) = (N_239 163 14) := by rw [hM_N_284, mu_i (by omega), hM_N_282, mu_i (by omega), hM_N_274, mu_s]
          have e_287 : (N_284 163 14) = (N_239 163 14) := by rw [hM_N_284, mu_i (by omega), hM_N_282, mu_i (by omega), hM_N_274, mu_i (by omega)]
          have e_288 : (N_284 163 15) = r_275 := by rw [hM_N_284, mu_i (by omega), hM_N_282, mu_s]
          exact kx_vret F hQ ⟨hI_N_284, hF_N_284, (RT.mk0 (by omega) (by omega) (by omega) (by omega))⟩ dX12_ahead_233
        · exfalso; omega
      · exfalso; omega
    · refine kx_bipush 10 F dX12_ahead_8 (by decide) rfl ?_
      refine kx_icmp_eq 13 F 26 dX12_ahead_10 (by decide) rfl (by omega) (by decide) (fun h_289 => ?_) (fun h_289 => ?_)
      · refine kx_aload_n 27 F 0 dX12_ahead_26 rfl rfl rfl ?_
        refine kx_dup 28 F dX12_ahead_27 rfl rfl ?_
        refine kx_geti 31 F fl_X12_156 kd_163 rfl rfl (j := 14) rfl dX12_ahead_28 (v := (N_239 163 14)) rfl rfl ?_
        refine kx_iconst 32 F dX12_ahead_31 rfl ?_
        refine kx_iadd 33 F (v := (N_239 163 14) + 1) dX12_ahead_32 rfl rfl ?_
        refine kx_puti 36 F fw_X12_156 rfl kd_163 rfl rfl (j := 14) rfl dX12_ahead_33 rfl ?_
        intro N_290 hM_N_290
        have hI_N_290 : Inv true N_290 := Inv.u hI_N_239 hM_N_290 kd_163 (a := 0) (b := 900) rfl rfl rfl (by omega)
        have hF_N_290 : Fr f_e_X12_ahead M N_290 := Fr.u hF_N_239 hM_N_290 kd_163 rfl
        refine kx_goto 0 F dX12_ahead_36 (by decide) ?_
        have e_291 : (N_290 163 14) = (N_239 163 14) + 1 := by rw [hM_N_290, mu_s]
        have hc_292 := ck_c (Bt (N_239 163 14))
        exact ih_242 _ (by omega) N_290 hI_N_290 hF_N_290 (BM.step hp_245 (by omega) (by omega)) (by omega) rfl
      · refine kx_aload_n 14 F 0 dX12_ahead_13 rfl rfl rfl ?_
        refine kx_aload_n 15 F 0 dX12_ahead_14 rfl rfl rfl ?_
        refine kx_geti 18 F fl_X12_156 kd_163 rfl rfl (j := 14) rfl dX12_ahead_15 (v := (N_239 163 14)) rfl rfl ?_
        refine kx_Vi 21 (ci := 0) F (As := [vI (N_239 163 14)]) (st := []) vd_X12_159 (e_X12_byteAt G l N_239 (N_239 163 14) hI_N_239 (by omega) Bt (TM.fr hB hF_N_239 rfl)) kd_163 rfl rfl rfl ⟨by decide, by decide⟩ rfl rfl (Nat.le_of_ble_eq_true rfl) dX12_ahead_18 rfl ?_
        intro r_295 N_296 q_297
        obtain ⟨rfl, q_297c⟩ := q_297
        rcases q_297c with q_297c | q_297c
        · exfalso; omega
        · refine kx_bipush 23 F dX12_ahead_21 (by decide) rfl ?_
          refine kx_icmp_ne 26 F 39 dX12_ahead_23 (by decide) rfl (by omega) (by decide) (fun h_302 => ?_) (fun h_302 => ?_)
          · have hc_303 := ck_c (Bt (N_239 163 14))
            have hb_304 := hB (N_239 163 14)
            have hx_305 : (N_239 163 14) = tp Bt j := BM.done hp_245 (TM.tx hB hI_M) hj hjp he (by omega) (by omega)
            have hx_306 : ck (Bt (N_239 163 14)) = tk Bt j := by rw [hx_305]; rfl
            have ht_307 := tp_le (n := M 163 11) (TM.tx hB hI_M) (Inv.g hI_M kd_163 rfl 11 (a := 0) (b := 900) rfl rfl).1 (j := j) (by omega)
            have ht_308 := tq_end (n := M 163 11) (TM.tx hB hI_M) (j := j) (by omega)
            have ht_309 := tbd_c Bt j
            have ht_310 : 0 ≤ tk Bt j ∧ tk Bt j ≤ 4 := tk_b (n := M 163 11) (TM.tx hB hI_M) (by omega)
            refine kx_aload_n 40 F 0 dX12_ahead_39 rfl rfl rfl ?_
            refine kx_aload_n 41 F 0 dX12_ahead_40 rfl rfl rfl ?_
            refine kx_geti 44 F fl_X12_156 kd_163 rfl rfl (j := 14) rfl dX12_ahead_41 (v := (N_239 163 14)) rfl rfl ?_
            refine kx_puti 47 F fw_X12_162 rfl kd_163 rfl rfl (j := 13) rfl dX12_ahead_44 rfl ?_
            intro N_312 hM_N_312
            have hI_N_312 : Inv true N_312 := Inv.u hI_N_239 hM_N_312 kd_163 (a := 0) (b := 900) rfl rfl rfl (by omega)
            have hF_N_312 : Fr f_e_X12_ahead M N_312 := Fr.u hF_N_239 hM_N_312 kd_163 rfl
            refine kx_aload_n 48 F 0 dX12_ahead_47 rfl rfl rfl ?_
            refine kx_aload_n 49 F 0 dX12_ahead_48 rfl rfl rfl ?_
            refine kx_geti 52 F fl_X12_156 kd_163 rfl rfl (j := 14) rfl dX12_ahead_49 (v := (N_239 163 14)) (by rw [hM_N_312, mu_i (by omega)]) rfl ?_
            refine kx_Vi 55 (ci := 0) F (As := [vI (N_239 163 14)]) (st := []) vd_X12_159 (e_X12_byteAt G l N_312 (N_239 163 14) hI_N_312 (by omega) Bt (TM.fr hB hF_N_312 rfl)) kd_163 rfl rfl rfl ⟨by decide, by decide⟩ rfl rfl (Nat.le_of_ble_eq_true rfl) dX12_ahead_52 rfl ?_
            intro r_313 N_314 q_315
            obtain ⟨rfl, q_315c⟩ := q_315
            have e_316 : (N_312 163 11) = (M 163 11) := by rw [hM_N_312, mu_i (by omega), Fr.e hF_N_239 kd_163 _ rfl]
            rcases q_315c with q_315c | q_315c
            · exfalso; omega
            · refine kx_istore_n 56 F 1 (lo' := [some (vR G 163), some (vI r_313)]) dX12_ahead_55 rfl (by decide) rfl rfl rfl ?_
              refine kx_aload_n 57 F 0 dX12_ahead_56 rfl rfl rfl ?_
              refine kx_iload_n 58 F 1 dX12_ahead_57 rfl rfl rfl ?_
              refine kx_puti 61 F fw_X12_165 rfl kd_163 rfl rfl (j := 15) rfl dX12_ahead_58 rfl ?_
              intro N_320 hM_N_320
              have hI_N_320 : Inv true N_320 := Inv.u hI_N_312 hM_N_320 kd_163 (a := (-2147483648)) (b := 2147483647) rfl rfl rfl (by omega)
              have hF_N_320 : Fr f_e_X12_ahead M N_320 := Fr.u hF_N_312 hM_N_320 kd_163 rfl
              refine kx_iload_n 62 F 1 dX12_ahead_61 rfl rfl rfl ?_
              refine kx_iconst 63 F dX12_ahead_62 rfl ?_
              refine kx_icmp_ne 66 F 74 dX12_ahead_63 (by decide) rfl (by omega) (by decide) (fun h_321 => ?_) (fun h_321 => (by exfalso; omega))
              refine kx_iload_n 75 F 1 dX12_ahead_74 rfl rfl rfl ?_
              refine kx_Si 78 F (As := [vI r_313]) (st := []) sd_X12_171 (c_X12_isSmall G l N_320 r_313 hI_N_320 (by omega)) ⟨by decide, by decide⟩ rfl rfl (Nat.le_of_ble_eq_true rfl) dX12_ahead_75 rfl ?_
              intro r_322 N_323 q_324
              obtain ⟨rfl, q_324c⟩ := q_324
              rcases q_324c with q_324c | q_324c | q_324c
              · refine kx_if_eq 81 F 116 dX12_ahead_78 (by decide) rfl (by omega) (fun h_325 => (by exfalso; omega)) (fun h_325 => ?_)
                have L_350 : ∀ (n_351 : Nat) (N_349 : Mem), Inv true N_349 → Fr f_e_X12_ahead M N_349 → RM N_349 Bt j → (N_349 163 14) ≤ 900 ∧ (N_349 163 13) = (tp Bt j) ∧ (N_349 163 14) ≥ (tp Bt j) ∧ (tk Bt j) = 1 → (900 - N_349 163 14).toNat = n_351 → KJ true G X N_349 81 [some (vR G 163), none] [] := by
                  intro n_351
                  refine Nat.strongRecOn n_351 ?_
                  intro n_351 ih_352  N_349 hI_N_349 hF_N_349 hp_355 h_353 hm_354
                  refine kx_aload_n 82 F 0 dX12_ahead_81 rfl rfl rfl ?_
                  refine kx_aload_n 83 F 0 dX12_ahead_82 rfl rfl rfl ?_
                  refine kx_geti 86 F fl_X12_156 kd_163 rfl rfl (j := 14) rfl dX12_ahead_83 (v := (N_349 163 14)) rfl rfl ?_
                  have h_356 := Inv.g hI_N_349 kd_163 rfl 14 (a := 0) (b := 900) rfl rfl
                  refine kx_Vi 89 (ci := 0) F (As := [vI (N_349 163 14)]) (st := []) vd_X12_159 (e_X12_byteAt G l N_349 (N_349 163 14) hI_N_349 (by omega) Bt (TM.fr hB hF_N_349 rfl)) kd_163 rfl rfl rfl ⟨by decide, by decide⟩ rfl rfl (Nat.le_of_ble_eq_true rfl) dX12_ahead_86 rfl ?_
                  intro r_357 N_358 q_359
                  obtain ⟨rfl, q_359c⟩ := q_359
                  have e_360 : (N_349 163 11) = (M 163 11) := by rw [Fr.e hF_N_349 kd_163 _ rfl]
                  rcases q_359c with q_359c | q_359c
                  · refine kx_Si 92 F (As := [vI r_357]) (st := []) sd_X12_171 (c_X12_isSmall G l N_349 r_357 hI_N_349 (by omega)) ⟨by decide, by decide⟩ rfl rfl (Nat.le_of_ble_eq_true rfl) dX12_ahead_89 rfl ?_
                    intro r_364 N_365 q_366
                    obtain ⟨rfl, q_366c⟩ := q_366
                    rcases q_366c with q_366c | q_366c | q_366c
                    · exfalso; omega
                    · refine kx_if_eq 95 F 108 dX12_ahead_92 (by decide) rfl (by omega) (fun h_367 => ?_) (fun h_367 => (by exfalso; omega))
                      have hc_368 := ck_c (Bt (N_349 163 14))
                      have hb_369 := hB (N_349 163 14)
                      have hz_370 : (N_349 163 14) = tq Bt j := RM.done hp_355 (TM.tx hB hI_M) hj (by omega) (by omega) (by omega)
                      refine kx_aload_n 109 F 0 dX12_ahead_108 rfl rfl rfl ?_
                      refine kx_iconst 110 F dX12_ahead_109 rfl ?_
                      refine kx_puti 113 F fw_X12_168 rfl kd_163 rfl rfl (j := 12) rfl dX12_ahead_110 rfl ?_
                      intro N_371 hM_N_371
                      have hI_N_371 : Inv true N_371 := Inv.u hI_N_349 hM_N_371 kd_163 (a := 0) (b := 4) rfl rfl rfl (by omega)
                      have hF_N_371 : Fr f_e_X12_ahead M N_371 := Fr.u hF_N_349 hM_N_371 kd_163 rfl
                      refine kx_goto 233 F dX12_ahead_113 (by decide) ?_
                      have e_372 : (N_371 163 12) = 2 := by rw [hM_N_371, mu_s]
                      have e_373 : (N_371 163 13) = (N_349 163 13) := by rw [hM_N_371, mu_i (by omega)]
                      have h_374 := Inv.g hI_N_349 kd_163 rfl 13 (a := 0) (b := 900) rfl rfl
                      have e_375 : (N_371 163 14) = (N_349 163 14) := by rw [hM_N_371, mu_i (by omega)]
                      have e_376 : (N_371 163 15) = (N_349 163 15) := by rw [hM_N_371, mu_i (by omega)]
                      have h_377 := Inv.g hI_N_349 kd_163 rfl 15 (a := (-2147483648)) (b := 2147483647) rfl rfl
                      exact kx_vret F hQ ⟨hI_N_371, hF_N_371, (RT.mk2 (by omega) (by omega) (by omega) (by omega))⟩ dX12_ahead_233
                    · exfalso; omega
                  · refine kx_Si 92 F (As := [vI r_357]) (st := []) sd_X12_171 (c_X12_isSmall G l N_349 r_357 hI_N_349 (by omega)) ⟨by decide, by decide⟩ rfl rfl (Nat.le_of_ble_eq_true rfl) dX12_ahead_89 rfl ?_
                    intro r_378 N_379 q_380
                    obtain ⟨rfl, q_380c⟩ := q_380
                    rcases q_380c with q_380c | q_380c | q_380c
                    · refine kx_if_eq 95 F 108 dX12_ahead_92 (by decide) rfl (by omega) (fun h_381 => (by exfalso; omega)) (fun h_381 => ?_)
                      refine kx_aload_n 96 F 0 dX12_ahead_95 rfl rfl rfl ?_
                      refine kx_dup 97 F dX12_ahead_96 rfl rfl ?_
                      refine kx_geti 100 F fl_X12_156 kd_163 rfl rfl (j := 14) rfl dX12_ahead_97 (v := (N_349 163 14)) rfl rfl ?_
                      refine kx_iconst 101 F dX12_ahead_100 rfl ?_
                      refine kx_iadd 102 F (v := (N_349 163 14) + 1) dX12_ahead_101 rfl rfl ?_
                      refine kx_puti 105 F fw_X12_156 rfl kd_163 rfl rfl (j := 14) rfl dX12_ahead_102 rfl ?_
                      intro N_382 hM_N_382
                      have hI_N_382 : Inv true N_382 := Inv.u hI_N_349 hM_N_382 kd_163 (a := 0) (b := 900) rfl rfl rfl (by omega)
                      have hF_N_382 : Fr f_e_X12_ahead M N_382 := Fr.u hF_N_349 hM_N_382 kd_163 rfl
                      refine kx_goto 81 F dX12_ahead_105 (by decide) ?_
                      have e_383 : (N_382 163 14) = (N_349 163 14) + 1 := by rw [hM_N_382, mu_s]
                      have e_384 : (N_382 163 15) = (N_349 163 15) := by rw [hM_N_382, mu_i (by omega)]
                      have h_385 := Inv.g hI_N_349 kd_163 rfl 15 (a := (-2147483648)) (b := 2147483647) rfl rfl
                      have hc_386 := ck_c (Bt (N_349 163 14))
                      have e_388 : (N_382 163 13) = (N_349 163 13) := by rw [hM_N_382, mu_i (by omega)]
                      have h_389 := Inv.g hI_N_349 kd_163 rfl 13 (a := 0) (b := 900) rfl rfl
                      exact ih_352 _ (by omega) N_382 hI_N_382 hF_N_382 (RM.step hp_355 (by omega) (by omega)) (by omega) rfl
                    · refine kx_if_eq 95 F 108 dX12_ahead_92 (by decide) rfl (by omega) (fun h_391 => ?_) (fun h_391 => (by exfalso; omega))
                      have hc_392 := ck_c (Bt (N_349 163 14))
                      have hb_393 := hB (N_349 163 14)
                      have hz_394 : (N_349 163 14) = tq Bt j := RM.done hp_355 (TM.tx hB hI_M) hj (by omega) (by omega) (by omega)
                      refine kx_aload_n 109 F 0 dX12_ahead_108 rfl rfl rfl ?_
                      refine kx_iconst 110 F dX12_ahead_109 rfl ?_
                      refine kx_puti 113 F fw_X12_168 rfl kd_163 rfl rfl (j := 12) rfl dX12_ahead_110 rfl ?_
                      intro N_395 hM_N_395
                      have hI_N_395 : Inv true N_395 := Inv.u hI_N_349 hM_N_395 kd_163 (a := 0) (b := 4) rfl rfl rfl (by omega)
                      have hF_N_395 : Fr f_e_X12_ahead M N_395 := Fr.u hF_N_349 hM_N_395 kd_163 rfl
                      refine kx_goto 233 F dX12_ahead_113 (by decide) ?_
                      have e_396 : (N_395 163 12) = 2 := by rw [hM_N_395, mu_s]
                      have e_397 : (N_395 163 13) = (N_349 163 13) := by rw [hM_N_395, mu_i (by omega)]
                      have h_398 := Inv.g hI_N_349 kd_163 rfl 13 (a := 0) (b := 900) rfl rfl
                      have e_399 : (N_395 163 14) = (N_349 163 14) := by rw [hM_N_395, mu_i (by omega)]
                      have e_400 : (N_395 163 15) = (N_349 163 15) := by rw [hM_N_395, mu_i (by omega)]
                      have h_401 := Inv.g hI_N_349 kd_163 rfl 15 (a := (-2147483648)) (b := 2147483647) rfl rfl
                      exact kx_vret F hQ ⟨hI_N_395, hF_N_395, (RT.mk2 (by omega) (by omega) (by omega) (by omega))⟩ dX12_ahead_233
                    · refine kx_if_eq 95 F 108 dX12_ahead_92 (by decide) rfl (by omega) (fun h_402 => ?_) (fun h_402 => (by exfalso; omega))
                      have hc_403 := ck_c (Bt (N_349 163 14))
                      have hb_404 := hB (N_349 163 14)
                      have hz_405 : (N_349 163 14) = tq Bt j := RM.done hp_355 (TM.tx hB hI_M) hj (by omega) (by omega) (by omega)
                      refine kx_aload_n 109 F 0 dX12_ahead_108 rfl rfl rfl ?_
                      refine kx_iconst 110 F dX12_ahead_109 rfl ?_
                      refine kx_puti 113 F fw_X12_168 rfl kd_163 rfl rfl (j := 12) rfl dX12_ahead_110 rfl ?_
                      intro N_406 hM_N_406
                      have hI_N_406 : Inv true N_406 := Inv.u hI_N_349 hM_N_406 kd_163 (a := 0) (b := 4) rfl rfl rfl (by omega)
                      have hF_N_406 : Fr f_e_X12_ahead M N_406 := Fr.u hF_N_349 hM_N_406 kd_163 rfl
                      refine kx_goto 233 F dX12_ahead_113 (by decide) ?_
                      have e_407 : (N_406 163 12) = 2 := by rw [hM_N_406, mu_s]
                      have e_408 : (N_406 163 13) = (N_349 163 13) := by rw [hM_N_406, mu_i (by omega)]
                      have h_409 := Inv.g hI_N_349 kd_163 rfl 13 (a := 0) (b := 900) rfl rfl
                      have e_410 : (N_406 163 14) = (N_349 163 14) := by rw [hM_N_406, mu_i (by omega)]
                      have e_411 : (N_406 163 15) = (N_349 163 15) := by rw [hM_N_406, mu_i (by omega)]
                      have h_412 := Inv.g hI_N_349 kd_163 rfl 15 (a := (-2147483648)) (b := 2147483647) rfl rfl
                      exact kx_vret F hQ ⟨hI_N_406, hF_N_406, (RT.mk2 (by omega) (by omega) (by omega) (by omega))⟩ dX12_ahead_233
                refine kx_drop 1 (lo' := [some (vR G 163), none]) rfl ?_
                have e_413 : (N_320 163 14) = (N_239 163 14) := by rw [hM_N_320, mu_i (by omega), hM_N_312, mu_i (by omega)]
                have e_414 : (N_320 163 15) = r_313 := by rw [hM_N_320, mu_s]
                have e_416 : (N_320 163 13) = (N_239 163 14) := by rw [hM_N_320, mu_i (by omega), hM_N_312, mu_s]
                exact L_350 _ N_320 hI_N_320 hF_N_320 (RM.nil (by omega)) (by omega) rfl
              · refine kx_if_eq 81 F 116 dX12_ahead_78 (by decide) rfl (by omega) (fun h_418 => ?_) (fun h_418 => (by exfalso; omega))
                refine kx_iload_n 117 F 1 dX12_ahead_116 rfl rfl rfl ?_
                refine kx_Si 120 F (As := [vI r_313]) (st := []) sd_X12_174 (c_X12_isDigit G l N_320 r_313 hI_N_320 (by omega)) ⟨by decide, by decide⟩ rfl rfl (Nat.le_of_ble_eq_true rfl) dX12_ahead_117 rfl ?_
                intro r_419 N_420 q_421
                obtain ⟨rfl, q_421c⟩ := q_421
                rcases q_421c with q_421c | q_421c | q_421c
                · refine kx_if_eq 123 F 208 dX12_ahead_120 (by decide) rfl (by omega) (fun h_422 => (by exfalso; omega)) (fun h_422 => ?_)
                  refine kx_aload_n 124 F 0 dX12_ahead_123 rfl rfl rfl ?_
                  refine kx_iconst 125 F dX12_ahead_124 rfl ?_
                  refine kx_puti 128 F fw_X12_165 rfl kd_163 rfl rfl (j := 15) rfl dX12_ahead_125 rfl ?_
                  intro N_423 hM_N_423
                  have hI_N_423 : Inv true N_423 := Inv.u hI_N_320 hM_N_423 kd_163 (a := (-2147483648)) (b := 2147483647) rfl rfl rfl (by omega)
                  have hF_N_423 : Fr f_e_X12_ahead M N_423 := Fr.u hF_N_320 hM_N_423 kd_163 rfl
                  have L_468 : ∀ (n_469 : Nat) (N_467 : Mem), Inv true N_467 → Fr f_e_X12_ahead M N_467 → RM N_467 Bt j → DM N_467 Bt j → (N_467 163 14) ≤ 900 ∧ (N_467 163 13) = (tp Bt j) ∧ (N_467 163 14) ≥ (tp Bt j) ∧ (tk Bt j) = 2 ∧ (N_467 163 15) ≥ 0 ∧ (N_467 163 15) ≤ 100000 → (900 - N_467 163 14).toNat = n_469 → KJ true G X N_467 128 [some (vR G 163), none] [] := by
                    intro n_469
                    refine Nat.strongRecOn n_469 ?_
                    intro n_469 ih_470  N_467 hI_N_467 hF_N_467 hp_473 hp_474 h_471 hm_472
                    refine kx_aload_n 129 F 0 dX12_ahead_128 rfl rfl rfl ?_
                    refine kx_aload_n 130 F 0 dX12_ahead_129 rfl rfl rfl ?_
                    refine kx_geti 133 F fl_X12_156 kd_163 rfl rfl (j := 14) rfl dX12_ahead_130 (v := (N_467 163 14)) rfl rfl ?_
                    have h_475 := Inv.g hI_N_467 kd_163 rfl 14 (a := 0) (b := 900) rfl rfl
                    refine kx_Vi 136 (ci := 0) F (As := [vI (N_467 163 14)]) (st := []) vd_X12_159 (e_X12_byteAt G l N_467 (N_467 163 14) hI_N_467 (by omega) Bt (TM.fr hB hF_N_467 rfl)) kd_163 rfl rfl rfl ⟨by decide, by decide⟩ rfl rfl (Nat.le_of_ble_eq_true rfl) dX12_ahead_133 rfl ?_
                    intro r_476 N_477 q_478
                    obtain ⟨rfl, q_478c⟩ := q_478
                    have e_479 : (N_467 163 11) = (M 163 11) := by rw [Fr.e hF_N_467 kd_163 _ rfl]
                    rcases q_478c with q_478c | q_478c
                    · refine kx_Si 139 F (As := [vI r_476]) (st := []) sd_X12_174 (c_X12_isDigit G l N_467 r_476 hI_N_467 (by omega)) ⟨by decide, by decide⟩ rfl rfl (Nat.le_of_ble_eq_true rfl) dX12_ahead_136 rfl ?_
                      intro r_483 N_484 q_485
                      obtain ⟨rfl, q_485c⟩ := q_485
                      rcases q_485c with q_485c | q_485c | q_485c
                      · exfalso; omega
                      · refine kx_if_eq 142 F 183 dX12_ahead_139 (by decide) rfl (by omega) (fun h_486 => ?_) (fun h_486 => (by exfalso; omega))
                        have hc_487 := ck_c (Bt (N_467 163 14))
                        have hb_488 := hB (N_467 163 14)
                        have hz_489 : (N_467 163 14) = tq Bt j := RM.done hp_473 (TM.tx hB hI_M) hj (by omega) (by omega) (by omega)
                        have hd_490 := DM.b (n := 0) hp_474 hp_473 (by omega) (by omega)
                        have hd_491 : tq Bt j - tp Bt j ≤ 4 → N_467 163 15 = tv Bt j := fun q => DM.done hp_474 (by omega) q
                        refine kx_aload_n 184 F 0 dX12_ahead_183 rfl rfl rfl ?_
                        refine kx_aload_n 185 F 0 dX12_ahead_184 rfl rfl rfl ?_
                        refine kx_geti 188 F fl_X12_156 kd_163 rfl rfl (j := 14) rfl dX12_ahead_185 (v := (N_467 163 14)) rfl rfl ?_
                        refine kx_aload_n 189 F 0 dX12_ahead_188 rfl rfl rfl ?_
                        refine kx_geti 192 F fl_X12_162 kd_163 rfl rfl (j := 13) rfl dX12_ahead_189 (v := (N_467 163 13)) rfl rfl ?_
                        have h_492 := Inv.g hI_N_467 kd_163 rfl 13 (a := 0) (b := 900) rfl rfl
                        refine kx_isub 193 F (v := (N_467 163 14) - (N_467 163 13)) dX12_ahead_192 rfl rfl ?_
                        refine kx_iconst 194 F dX12_ahead_193 rfl ?_
                        refine kx_icmp_le 197 F 201 dX12_ahead_194 (by decide) rfl (by omega) (by decide) (fun h_493 => ?_) (fun h_493 => ?_)
                        · refine kx_iconst 202 F dX12_ahead_201 rfl ?_
                          refine kx_puti 205 F fw_X12_168 rfl kd_163 rfl rfl (j := 12) rfl dX12_ahead_202 rfl ?_
                          intro N_494 hM_N_494
                          have hI_N_494 : Inv true N_494 := Inv.u hI_N_467 hM_N_494 kd_163 (a := 0) (b := 4) rfl rfl rfl (by omega)
                          have hF_N_494 : Fr f_e_X12_ahead M N_494 := Fr.u hF_N_467 hM_N_494 kd_163 rfl
                          refine kx_goto 233 F dX12_ahead_205 (by decide) ?_
                          have e_495 : (N_494 163 12) = 3 := by rw [hM_N_494, mu_s]
                          have e_496 : (N_494 163 13) = (N_467 163 13) := by rw [hM_N_494, mu_i (by omega)]
                          have e_497 : (N_494 163 14) = (N_467 163 14) := by rw [hM_N_494, mu_i (by omega)]
                          have e_498 : (N_494 163 15) = (N_467 163 15) := by rw [hM_N_494, mu_i (by omega)]
                          have h_499 := Inv.g hI_N_467 kd_163 rfl 15 (a := (-2147483648)) (b := 2147483647) rfl rfl
                          exact kx_vret F hQ ⟨hI_N_494, hF_N_494, (RT.mk3 (by omega) (by omega) (by omega) (by omega) (by omega) (by omega) (by omega))⟩ dX12_ahead_233
                        · refine kx_iconst 198 F dX12_ahead_197 rfl ?_
                          refine kx_goto 202 F dX12_ahead_198 (by decide) ?_
                          refine kx_puti 205 F fw_X12_168 rfl kd_163 rfl rfl (j := 12) rfl dX12_ahead_202 rfl ?_
                          intro N_500 hM_N_500
                          have hI_N_500 : Inv true N_500 := Inv.u hI_N_467 hM_N_500 kd_163 (a := 0) (b := 4) rfl rfl rfl (by omega)
                          have hF_N_500 : Fr f_e_X12_ahead M N_500 := Fr.u hF_N_467 hM_N_500 kd_163 rfl
                          refine kx_goto 233 F dX12_ahead_205 (by decide) ?_
                          have e_501 : (N_500 163 12) = 1 := by rw [hM_N_500, mu_s]
                          have e_502 : (N_500 163 13) = (N_467 163 13) := by rw [hM_N_500, mu_i (by omega)]
                          have e_503 : (N_500 163 14) = (N_467 163 14) := by rw [hM_N_500, mu_i (by omega)]
                          have e_504 : (N_500 163 15) = (N_467 163 15) := by rw [hM_N_500, mu_i (by omega)]
                          have h_505 := Inv.g hI_N_467 kd_163 rfl 15 (a := (-2147483648)) (b := 2147483647) rfl rfl
                          exact kx_vret F hQ ⟨hI_N_500, hF_N_500, (RT.mk1 (by omega) (by omega) (by omega) (by omega))⟩ dX12_ahead_233
                      · exfalso; omega
                    · refine kx_Si 139 F (As := [vI r_476]) (st := []) sd_X12_174 (c_X12_isDigit G l N_467 r_476 hI_N_467 (by omega)) ⟨by decide, by decide⟩ rfl rfl (Nat.le_of_ble_eq_true rfl) dX12_ahead_136 rfl ?_
                      intro r_506 N_507 q_508
                      obtain ⟨rfl, q_508c⟩ := q_508
                      rcases q_508c with q_508c | q_508c | q_508c
                      · refine kx_if_eq 142 F 183 dX12_ahead_139 (by decide) rfl (by omega) (fun h_509 => (by exfalso; omega)) (fun h_509 => ?_)
                        refine kx_aload_n 143 F 0 dX12_ahead_142 rfl rfl rfl ?_
                        refine kx_ldc 145 (z := 100000) F dX12_ahead_143 ct_X12_177 rfl ?_
                        refine kx_bipush 147 F dX12_ahead_145 (by decide) rfl ?_
                        refine kx_aload_n 148 F 0 dX12_ahead_147 rfl rfl rfl ?_
                        refine kx_geti 151 F fl_X12_165 kd_163 rfl rfl (j := 15) rfl dX12_ahead_148 (v := (N_467 163 15)) rfl rfl ?_
                        have h_510 := Inv.g hI_N_467 kd_163 rfl 15 (a := (-2147483648)) (b := 2147483647) rfl rfl
                        refine kx_imul 152 F (v := 10 * (N_467 163 15)) dX12_ahead_151 (by omega) rfl ?_
                        refine kx_aload_n 153 F 0 dX12_ahead_152 rfl rfl rfl ?_
                        refine kx_aload_n 154 F 0 dX12_ahead_153 rfl rfl rfl ?_
                        refine kx_geti 157 F fl_X12_156 kd_163 rfl rfl (j := 14) rfl dX12_ahead_154 (v := (N_467 163 14)) rfl rfl ?_
                        refine kx_Vi 160 (ci := 0) F (As := [vI (N_467 163 14)]) (st := [vI (10 * (N_467 163 15)), vI 100000, vR G 163]) vd_X12_159 (e_X12_byteAt G l N_467 (N_467 163 14) hI_N_467 (by omega) Bt (TM.fr hB hF_N_467 rfl)) kd_163 rfl rfl rfl ⟨by decide, by decide⟩ rfl rfl (Nat.le_of_ble_eq_true rfl) dX12_ahead_157 rfl ?_
                        intro r_511 N_512 q_513
                        obtain ⟨rfl, q_513c⟩ := q_513
                        rcases q_513c with q_513c | q_513c
                        · exfalso; omega
                        · refine kx_iadd 161 F (v := 10 * (N_467 163 15) + r_511) dX12_ahead_160 rfl rfl ?_
                          refine kx_bipush 163 F dX12_ahead_161 (by decide) rfl ?_
                          refine kx_isub 164 F (v := 10 * (N_467 163 15) + r_511 - 48) dX12_ahead_163 rfl rfl ?_
                          refine kx_mmin 167 F dX12_ahead_164 (tt lm_1833 rfl) (tt lm_800 rfl) (tt lm_180 rfl) (tt lm_801 rfl) (by decide) (Nat.le_of_ble_eq_true rfl) (by omega) (by omega) rfl (fun w_518 h_519 => ?_)
                          refine kx_puti 170 F fw_X12_165 rfl kd_163 rfl rfl (j := 15) rfl dX12_ahead_167 rfl ?_
                          intro N_520 hM_N_520
                          have hI_N_520 : Inv true N_520 := Inv.u hI_N_467 hM_N_520 kd_163 (a := (-2147483648)) (b := 2147483647) rfl rfl rfl (by omega)
                          have hF_N_520 : Fr f_e_X12_ahead M N_520 := Fr.u hF_N_467 hM_N_520 kd_163 rfl
                          refine kx_aload_n 171 F 0 dX12_ahead_170 rfl rfl rfl ?_
                          refine kx_dup 172 F dX12_ahead_171 rfl rfl ?_
                          refine kx_geti 175 F fl_X12_156 kd_163 rfl rfl (j := 14) rfl dX12_ahead_172 (v := (N_467 163 14)) (by rw [hM_N_520, mu_i (by omega)]) rfl ?_
                          refine kx_iconst 176 F dX12_ahead_175 rfl ?_
                          refine kx_iadd 177 F (v := (N_467 163 14) + 1) dX12_ahead_176 rfl rfl ?_
                          refine kx_puti 180 F fw_X12_156 rfl kd_163 rfl rfl (j := 14) rfl dX12_ahead_177 rfl ?_
                          intro N_521 hM_N_521
                          have hI_N_521 : Inv true N_521 := Inv.u hI_N_520 hM_N_521 kd_163 (a := 0) (b := 900) rfl rfl rfl (by omega)
                          have hF_N_521 : Fr f_e_X12_ahead M N_521 := Fr.u hF_N_520 hM_N_521 kd_163 rfl
                          refine kx_goto 128 F dX12_ahead_180 (by decide) ?_
                          have e_522 : (N_521 163 14) = (N_467 163 14) + 1 := by rw [hM_N_521, mu_s]
                          have e_523 : (N_521 163 15) = w_518 := by rw [hM_N_521, mu_i (by omega), hM_N_520, mu_s]
                          have hc_524 := ck_c (Bt (N_467 163 14))
                          have e_526 : (N_521 163 13) = (N_467 163 13) := by rw [hM_N_521, mu_i (by omega), hM_N_520, mu_i (by omega)]
                          have h_527 := Inv.g hI_N_467 kd_163 rfl 13 (a := 0) (b := 900) rfl rfl
                          exact ih_470 _ (by omega) N_521 hI_N_521 hF_N_521 (RM.step hp_473 (by omega) (by omega)) (DM.step hp_474 (by omega) (by omega) (DM.b (n := 0) hp_474 hp_473 (by omega) (by omega)).1 (by omega) (by omega)) (by omega) rfl
                      · refine kx_if_eq 142 F 183 dX12_ahead_139 (by decide) rfl (by omega) (fun h_531 => ?_) (fun h_531 => (by exfalso; omega))
                        have hc_532 := ck_c (Bt (N_467 163 14))
                        have hb_533 := hB (N_467 163 14)
                        have hz_534 : (N_467 163 14) = tq Bt j := RM.done hp_473 (TM.tx hB hI_M) hj (by omega) (by omega) (by omega)
                        have hd_535 := DM.b (n := 0) hp_474 hp_473 (by omega) (by omega)
                        have hd_536 : tq Bt j - tp Bt j ≤ 4 → N_467 163 15 = tv Bt j := fun q => DM.done hp_474 (by omega) q
                        refine kx_aload_n 184 F 0 dX12_ahead_183 rfl rfl rfl ?_
                        refine kx_aload_n 185 F 0 dX12_ahead_184 rfl rfl rfl ?_
                        refine kx_geti 188 F fl_X12_156 kd_163 rfl rfl (j := 14) rfl dX12_ahead_185 (v := (N_467 163 14)) rfl rfl ?_
                        refine kx_aload_n 189 F 0 dX12_ahead_188 rfl rfl rfl ?_
                        refine kx_geti 192 F fl_X12_162 kd_163 rfl rfl (j := 13) rfl dX12_ahead_189 (v := (N_467 163 13)) rfl rfl ?_
                        have h_537 := Inv.g hI_N_467 kd_163 rfl 13 (a := 0) (b := 900) rfl rfl
                        refine kx_isub 193 F (v := (N_467 163 14) - (N_467 163 13)) dX12_ahead_192 rfl rfl ?_
                        refine kx_iconst 194 F dX12_ahead_193 rfl ?_
                        refine kx_icmp_le 197 F 201 dX12_ahead_194 (by decide) rfl (by omega) (by decide) (fun h_538 => ?_) (fun h_538 => ?_)
                        · refine kx_iconst 202 F dX12_ahead_201 rfl ?_
                          refine kx_puti 205 F fw_X12_168 rfl kd_163 rfl rfl (j := 12) rfl dX12_ahead_202 rfl ?_
                          intro N_539 hM_N_539
                          have hI_N_539 : Inv true N_539 := Inv.u hI_N_467 hM_N_539 kd_163 (a := 0) (b := 4) rfl rfl rfl (by omega)
                          have hF_N_539 : Fr f_e_X12_ahead M N_539 := Fr.u hF_N_467 hM_N_539 kd_163 rfl
                          refine kx_goto 233 F dX12_ahead_205 (by decide) ?_
                          have e_540 : (N_539 163 12) = 3 := by rw [hM_N_539, mu_s]
                          have e_541 : (N_539 163 13) = (N_467 163 13) := by rw [hM_N_539, mu_i (by omega)]
                          have e_542 : (N_539 163 14) = (N_467 163 14) := by rw [hM_N_539, mu_i (by omega)]
                          have e_543 : (N_539 163 15) = (N_467 163 15) := by rw [hM_N_539, mu_i (by omega)]
                          have h_544 := Inv.g hI_N_467 kd_163 rfl 15 (a := (-2147483648)) (b := 2147483647) rfl rfl
                          exact kx_vret F hQ ⟨hI_N_539, hF_N_539, (RT.mk3 (by omega) (by omega) (by omega) (by omega) (by omega) (by omega) (by omega))⟩ dX12_ahead_233
                        · refine kx_iconst 198 F dX12_ahead_197 rfl ?_
                          refine kx_goto 202 F dX12_ahead_198 (by decide) ?_
                          refine kx_puti 205 F fw_X12_168 rfl kd_163 rfl rfl (j := 12) rfl dX12_ahead_202 rfl ?_
                          intro N_545 hM_N_545
                          have hI_N_545 : Inv true N_545 := Inv.u hI_N_467 hM_N_545 kd_163 (a := 0) (b := 4) rfl rfl rfl (by omega)
                          have hF_N_545 : Fr f_e_X12_ahead M N_545 := Fr.u hF_N_467 hM_N_545 kd_163 rfl
                          refine kx_goto 233 F dX12_ahead_205 (by decide) ?_
                          have e_546 : (N_545 163 12) = 1 := by rw [hM_N_545, mu_s]
                          have e_547 : (N_545 163 13) = (N_467 163 13) := by rw [hM_N_545, mu_i (by omega)]
                          have e_548 : (N_545 163 14) = (N_467 163 14) := by rw [hM_N_545, mu_i (by omega)]
                          have e_549 : (N_545 163 15) = (N_467 163 15) := by rw [hM_N_545, mu_i (by omega)]
                          have h_550 := Inv.g hI_N_467 kd_163 rfl 15 (a := (-2147483648)) (b := 2147483647) rfl rfl
                          exact kx_vret F hQ ⟨hI_N_545, hF_N_545, (RT.mk1 (by omega) (by omega) (by omega) (by omega))⟩ dX12_ahead_233
                      · refine kx_if_eq 142 F 183 dX12_ahead_139 (by decide) rfl (by omega) (fun h_551 => ?_) (fun h_551 => (by exfalso; omega))
                        have hc_552 := ck_c (Bt (N_467 163 14))
                        have hb_553 := hB (N_467 163 14)
                        have hz_554 : (N_467 163 14) = tq Bt j := RM.done hp_473 (TM.tx hB hI_M) hj (by omega) (by omega) (by omega)
                        have hd_555 := DM.b (n := 0) hp_474 hp_473 (by omega) (by omega)
                        have hd_556 : tq Bt j - tp Bt j ≤ 4 → N_467 163 15 = tv Bt j := fun q => DM.done hp_474 (by omega) q
                        refine kx_aload_n 184 F 0 dX12_ahead_183 rfl rfl rfl ?_
                        refine kx_aload_n 185 F 0 dX12_ahead_184 rfl rfl rfl ?_
                        refine kx_geti 188 F fl_X12_156 kd_163 rfl rfl (j := 14) rfl dX12_ahead_185 (v := (N_467 163 14)) rfl rfl ?_
                        refine kx_aload_n 189 F 0 dX12_ahead_188 rfl rfl rfl ?_
                        refine kx_geti 192 F fl_X12_162 kd_163 rfl rfl (j := 13) rfl dX12_ahead_189 (v := (N_467 163 13)) rfl rfl ?_
                        have h_557 := Inv.g hI_N_467 kd_163 rfl 13 (a := 0) (b := 900) rfl rfl
                        refine kx_isub 193 F (v := (N_467 163 14) - (N_467 163 13)) dX12_ahead_192 rfl rfl ?_
                        refine kx_iconst 194 F dX12_ahead_193 rfl ?_
                        refine kx_icmp_le 197 F 201 dX12_ahead_194 (by decide) rfl (by omega) (by decide) (fun h_558 => ?_) (fun h_558 => ?_)
                        · refine kx_iconst 202 F dX12_ahead_201 rfl ?_
                          refine kx_puti 205 F fw_X12_168 rfl kd_163 rfl rfl (j := 12) rfl dX12_ahead_202 rfl ?_
                          intro N_559 hM_N_559
                          have hI_N_559 : Inv true N_559 := Inv.u hI_N_467 hM_N_559 kd_163 (a := 0) (b := 4) rfl rfl rfl (by omega)
                          have hF_N_559 : Fr f_e_X12_ahead M N_559 := Fr.u hF_N_467 hM_N_559 kd_163 rfl
                          refine kx_goto 233 F dX12_ahead_205 (by decide) ?_
                          have e_560 : (N_559 163 12) = 3 := by rw [hM_N_559, mu_s]
                          have e_561 : (N_559 163 13) = (N_467 163 13) := by rw [hM_N_559, mu_i (by omega)]
                          have e_562 : (N_559 163 14) = (N_467 163 14) := by rw [hM_N_559, mu_i (by omega)]
                          have e_563 : (N_559 163 15) = (N_467 163 15) := by rw [hM_N_559, mu_i (by omega)]
                          have h_564 := Inv.g hI_N_467 kd_163 rfl 15 (a := (-2147483648)) (b := 2147483647) rfl rfl
                          exact kx_vret F hQ ⟨hI_N_559, hF_N_559, (RT.mk3 (by omega) (by omega) (by omega) (by omega) (by omega) (by omega) (by omega))⟩ dX12_ahead_233
                        · refine kx_iconst 198 F dX12_ahead_197 rfl ?_
                          refine kx_goto 202 F dX12_ahead_198 (by decide) ?_
                          refine kx_puti 205 F fw_X12_168 rfl kd_163 rfl rfl (j := 12) rfl dX12_ahead_202 rfl ?_
                          intro N_565 hM_N_565
                          have hI_N_565 : Inv true N_565 := Inv.u hI_N_467 hM_N_565 kd_163 (a := 0) (b := 4) rfl rfl rfl (by omega)
                          have hF_N_565 : Fr f_e_X12_ahead M N_565 := Fr.u hF_N_467 hM_N_565 kd_163 rfl
                          refine kx_goto 233 F dX12_ahead_205 (by decide) ?_
                          have e_566 : (N_565 163 12) = 1 := by rw [hM_N_565, mu_s]
                          have e_567 : (N_565 163 13) = (N_467 163 13) := by rw [hM_N_565, mu_i (by omega)]
                          have e_568 : (N_565 163 14) = (N_467 163 14) := by rw [hM_N_565, mu_i (by omega)]
                          have e_569 : (N_565 163 15) = (N_467 163 15) := by rw [hM_N_565, mu_i (by omega)]
                          have h_570 := Inv.g hI_N_467 kd_163 rfl 15 (a := (-2147483648)) (b := 2147483647) rfl rfl
                          exact kx_vret F hQ ⟨hI_N_565, hF_N_565, (RT.mk1 (by omega) (by omega) (by omega) (by omega))⟩ dX12_ahead_233
                  refine kx_drop 1 (lo' := [some (vR G 163), none]) rfl ?_
                  have e_571 : (N_423 163 14) = (N_239 163 14) := by rw [hM_N_423, mu_i (by omega), hM_N_320, mu_i (by omega), hM_N_312, mu_i (by omega)]
                  have e_572 : (N_423 163 15) = 0 := by rw [hM_N_423, mu_s]
                  have e_574 : (N_423 163 13) = (N_239 163 14) := by rw [hM_N_423, mu_i (by omega), hM_N_320, mu_i (by omega), hM_N_312, mu_s]
                  exact L_468 _ N_423 hI_N_423 hF_N_423 (RM.nil (by omega)) (DM.nil (by omega) (by omega)) (by omega) rfl
                · refine kx_if_eq 123 F 208 dX12_ahead_120 (by decide) rfl (by omega) (fun h_578 => ?_) (fun h_578 => (by exfalso; omega))
                  refine kx_aload_n 209 F 0 dX12_ahead_208 rfl rfl rfl ?_
                  refine kx_dup 210 F dX12_ahead_209 rfl rfl ?_
                  refine kx_geti 213 F fl_X12_156 kd_163 rfl rfl (j := 14) rfl dX12_ahead_210 (v := (N_239 163 14)) (by rw [hM_N_320, mu_i (by omega), hM_N_312, mu_i (by omega)]) rfl ?_
                  refine kx_iconst 214 F dX12_ahead_213 rfl ?_
                  refine kx_iadd 215 F (v := (N_239 163 14) + 1) dX12_ahead_214 rfl rfl ?_
                  refine kx_puti 218 F fw_X12_156 rfl kd_163 rfl rfl (j := 14) rfl dX12_ahead_215 rfl ?_
                  intro N_579 hM_N_579
                  have hI_N_579 : Inv true N_579 := Inv.u hI_N_320 hM_N_579 kd_163 (a := 0) (b := 900) rfl rfl rfl (by omega)
                  have hF_N_579 : Fr f_e_X12_ahead M N_579 := Fr.u hF_N_320 hM_N_579 kd_163 rfl
                  refine kx_aload_n 219 F 0 dX12_ahead_218 rfl rfl rfl ?_
                  refine kx_iload_n 220 F 1 dX12_ahead_219 rfl rfl rfl ?_
                  refine kx_bipush 222 F dX12_ahead_220 (by decide) rfl ?_
                  refine kx_icmp_ne 225 F 229 dX12_ahead_222 (by decide) rfl (by omega) (by decide) (fun h_580 => ?_) (fun h_580 => (by exfalso; omega))
                  refine kx_iconst 230 F dX12_ahead_229 rfl ?_
                  refine kx_puti 233 F fw_X12_168 rfl kd_163 rfl rfl (j := 12) rfl dX12_ahead_230 rfl ?_
                  intro N_581 hM_N_581
                  have hI_N_581 : Inv true N_581 := Inv.u hI_N_579 hM_N_581 kd_163 (a := 0) (b := 4) rfl rfl rfl (by omega)
                  have hF_N_581 : Fr f_e_X12_ahead M N_581 := Fr.u hF_N_579 hM_N_581 kd_163 rfl
                  have e_582 : (N_581 163 12) = 1 := by rw [hM_N_581, mu_s]
                  have e_583 : (N_581 163 13) = (N_239 163 14) := by rw [hM_N_581, mu_i (by omega), hM_N_579, mu_i (by omega), hM_N_320, mu_i (by omega), hM_N_312, mu_s]
                  have e_584 : (N_581 163 14) = (N_239 163 14) + 1 := by rw [hM_N_581, mu_i (by omega), hM_N_579, mu_s]
                  have e_585 : (N_581 163 15) = r_313 := by rw [hM_N_581, mu_i (by omega), hM_N_579, mu_i (by omega), hM_N_320, mu_s]
                  exact kx_vret F hQ ⟨hI_N_581, hF_N_581, (RT.mk1 (by omega) (by omega) (by omega) (by omega))⟩ dX12_ahead_233
                · refine kx_if_eq 123 F 208 dX12_ahead_120 (by decide) rfl (by omega) (fun h_586 => ?_) (fun h_586 => (by exfalso; omega))
                  refine kx_aload_n 209 F 0 dX12_ahead_208 rfl rfl rfl ?_
                  refine kx_dup 210 F dX12_ahead_209 rfl rfl ?_
                  refine kx_geti 213 F fl_X12_156 kd_163 rfl rfl (j := 14) rfl dX12_ahead_210 (v := (N_239 163 14)) (by rw [hM_N_320, mu_i (by omega), hM_N_312, mu_i (by omega)]) rfl ?_
                  refine kx_iconst 214 F dX12_ahead_213 rfl ?_
                  refine kx_iadd 215 F (v := (N_239 163 14) + 1) dX12_ahead_214 rfl rfl ?_
                  refine kx_puti 218 F fw_X12_156 rfl kd_163 rfl rfl (j := 14) rfl dX12_ahead_215 rfl ?_
                  intro N_587 hM_N_587
                  have hI_N_587 : Inv true N_587 := Inv.u hI_N_320 hM_N_587 kd_163 (a := 0) (b := 900) rfl rfl rfl (by omega)
                  have hF_N_587 : Fr f_e_X12_ahead M N_587 := Fr.u hF_N_320 hM_N_587 kd_163 rfl
                  refine kx_aload_n 219 F 0 dX12_ahead_218 rfl rfl rfl ?_
                  refine kx_iload_n 220 F 1 dX12_ahead_219 rfl rfl rfl ?_
                  refine kx_bipush 222 F dX12_ahead_220 (by decide) rfl ?_
                  refine kx_icmp_ne 225 F 229 dX12_ahead_222 (by decide) rfl (by omega) (by decide) (fun h_588 => ?_) (fun h_588 => ?_)
                  · refine kx_iconst 230 F dX12_ahead_229 rfl ?_
                    refine kx_puti 233 F fw_X12_168 rfl kd_163 rfl rfl (j := 12) rfl dX12_ahead_230 rfl ?_
                    intro N_589 hM_N_589
                    have hI_N_589 : Inv true N_589 := Inv.u hI_N_587 hM_N_589 kd_163 (a := 0) (b := 4) rfl rfl rfl (by omega)
                    have hF_N_589 : Fr f_e_X12_ahead M N_589 := Fr.u hF_N_587 hM_N_589 kd_163 rfl
                    have e_590 : (N_589 163 12) = 1 := by rw [hM_N_589, mu_s]
                    have e_591 : (N_589 163 13) = (N_239 163 14) := by rw [hM_N_589, mu_i (by omega), hM_N_587, mu_i (by omega), hM_N_320, mu_i (by omega), hM_N_312, mu_s]
                    have e_592 : (N_589 163 14) = (N_239 163 14) + 1 := by rw [hM_N_589, mu_i (by omega), hM_N_587, mu_s]
                    have e_593 : (N_589 163 15) = r_313 := by rw [hM_N_589, mu_i (by omega), hM_N_587, mu_i (by omega), hM_N_320, mu_s]
                    exact kx_vret F hQ ⟨hI_N_589, hF_N_589, (RT.mk1 (by omega) (by omega) (by omega) (by omega))⟩ dX12_ahead_233
                  · refine kx_iconst 226 F dX12_ahead_225 rfl ?_
                    refine kx_goto 230 F dX12_ahead_226 (by decide) ?_
                    refine kx_puti 233 F fw_X12_168 rfl kd_163 rfl rfl (j := 12) rfl dX12_ahead_230 rfl ?_
                    intro N_594 hM_N_594
                    have hI_N_594 : Inv true N_594 := Inv.u hI_N_587 hM_N_594 kd_163 (a := 0) (b := 4) rfl rfl rfl (by omega)
                    have hF_N_594 : Fr f_e_X12_ahead M N_594 := Fr.u hF_N_587 hM_N_594 kd_163 rfl
                    have e_595 : (N_594 163 12) = 4 := by rw [hM_N_594, mu_s]
                    have e_596 : (N_594 163 13) = (N_239 163 14) := by rw [hM_N_594, mu_i (by omega), hM_N_587, mu_i (by omega), hM_N_320, mu_i (by omega), hM_N_312, mu_s]
                    have e_597 : (N_594 163 14) = (N_239 163 14) + 1 := by rw [hM_N_594, mu_i (by omega), hM_N_587, mu_s]
                    have e_598 : (N_594 163 15) = r_313 := by rw [hM_N_594, mu_i (by omega), hM_N_587, mu_i (by omega), hM_N_320, mu_s]
                    exact kx_vret F hQ ⟨hI_N_594, hF_N_594, (RT.mk4 (by omega) (by omega) (by omega) (by omega) (by omega))⟩ dX12_ahead_233
              · refine kx_if_eq 81 F 116 dX12_ahead_78 (by decide) rfl (by omega) (fun h_599 => ?_) (fun h_599 => (by exfalso; omega))
                refine kx_iload_n 117 F 1 dX12_ahead_116 rfl rfl rfl ?_
                refine kx_Si 120 F (As := [vI r_313]) (st := []) sd_X12_174 (c_X12_isDigit G l N_320 r_313 hI_N_320 (by omega)) ⟨by decide, by decide⟩ rfl rfl (Nat.le_of_ble_eq_true rfl) dX12_ahead_117 rfl ?_
                intro r_600 N_601 q_602
                obtain ⟨rfl, q_602c⟩ := q_602
                rcases q_602c with q_602c | q_602c | q_602c
                · exfalso; omega
                · exfalso; omega
                · refine kx_if_eq 123 F 208 dX12_ahead_120 (by decide) rfl (by omega) (fun h_603 => ?_) (fun h_603 => (by exfalso; omega))
                  refine kx_aload_n 209 F 0 dX12_ahead_208 rfl rfl rfl ?_
                  refine kx_dup 210 F dX12_ahead_209 rfl rfl ?_
                  refine kx_geti 213 F fl_X12_156 kd_163 rfl rfl (j := 14) rfl dX12_ahead_210 (v := (N_239 163 14)) (by rw [hM_N_320, mu_i (by omega), hM_N_312, mu_i (by omega)]) rfl ?_
                  refine kx_iconst 214 F dX12_ahead_213 rfl ?_
                  refine kx_iadd 215 F (v := (N_239 163 14) + 1) dX12_ahead_214 rfl rfl ?_
                  refine kx_puti 218 F fw_X12_156 rfl kd_163 rfl rfl (j := 14) rfl dX12_ahead_215 rfl ?_
                  intro N_604 hM_N_604
                  have hI_N_604 : Inv true N_604 := Inv.u hI_N_320 hM_N_604 kd_163 (a := 0) (b := 900) rfl rfl rfl (by omega)
                  have hF_N_604 : Fr f_e_X12_ahead M N_604 := Fr.u hF_N_320 hM_N_604 kd_163 rfl
                  refine kx_aload_n 219 F 0 dX12_ahead_218 rfl rfl rfl ?_
                  refine kx_iload_n 220 F 1 dX12_ahead_219 rfl rfl rfl ?_
                  refine kx_bipush 222 F dX12_ahead_220 (by decide) rfl ?_
                  refine kx_icmp_ne 225 F 229 dX12_ahead_222 (by decide) rfl (by omega) (by decide) (fun h_605 => ?_) (fun h_605 => (by exfalso; omega))
                  refine kx_iconst 230 F dX12_ahead_229 rfl ?_
                  refine kx_puti 233 F fw_X12_168 rfl kd_163 rfl rfl (j := 12) rfl dX12_ahead_230 rfl ?_
                  intro N_606 hM_N_606
                  have hI_N_606 : Inv true N_606 := Inv.u hI_N_604 hM_N_606 kd_163 (a := 0) (b := 4) rfl rfl rfl (by omega)
                  have hF_N_606 : Fr f_e_X12_ahead M N_606 := Fr.u hF_N_604 hM_N_606 kd_163 rfl
                  have e_607 : (N_606 163 12) = 1 := by rw [hM_N_606, mu_s]
                  have e_608 : (N_606 163 13) = (N_239 163 14) := by rw [hM_N_606, mu_i (by omega), hM_N_604, mu_i (by omega), hM_N_320, mu_i (by omega), hM_N_312, mu_s]
                  have e_609 : (N_606 163 14) = (N_239 163 14) + 1 := by rw [hM_N_606, mu_i (by omega), hM_N_604, mu_s]
                  have e_610 : (N_606 163 15) = r_313 := by rw [hM_N_606, mu_i (by omega), hM_N_604, mu_i (by omega), hM_N_320, mu_s]
                  exact kx_vret F hQ ⟨hI_N_606, hF_N_606, (RT.mk1 (by omega) (by omega) (by omega) (by omega))⟩ dX12_ahead_233
          · refine kx_aload_n 27 F 0 dX12_ahead_26 rfl rfl rfl ?_
            refine kx_dup 28 F dX12_ahead_27 rfl rfl ?_
            refine kx_geti 31 F fl_X12_156 kd_163 rfl rfl (j := 14) rfl dX12_ahead_28 (v := (N_239 163 14)) rfl rfl ?_
            refine kx_iconst 32 F dX12_ahead_31 rfl ?_
            refine kx_iadd 33 F (v := (N_239 163 14) + 1) dX12_ahead_32 rfl rfl ?_
            refine kx_puti 36 F fw_X12_156 rfl kd_163 rfl rfl (j := 14) rfl dX12_ahead_33 rfl ?_
            intro N_611 hM_N_611
            have hI_N_611 : Inv true N_611 := Inv.u hI_N_239 hM_N_611 kd_163 (a := 0) (b := 900) rfl rfl rfl (by omega)
            have hF_N_611 : Fr f_e_X12_ahead M N_611 := Fr.u hF_N_239 hM_N_611 kd_163 rfl
            refine kx_goto 0 F dX12_ahead_36 (by decide) ?_
            have e_612 : (N_611 163 14) = (N_239 163 14) + 1 := by rw [hM_N_611, mu_s]
            have hc_613 := ck_c (Bt (N_239 163 14))
            exact ih_242 _ (by omega) N_611 hI_N_611 hF_N_611 (BM.step hp_245 (by omega) (by omega)) (by omega) rfl
  have h_616 := Inv.g hI_M kd_163 rfl 14 (a := 0) (b := 900) rfl rfl
  exact L_240 _ M hI_M hF_M (BM.nil rfl) (by omega) rfl
