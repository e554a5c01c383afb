abbrev f_e_put3 : List (Nat × Int) := [(21, 1), (22, -1), (23, -1), (24, -1)]
set_option maxHeartbeats 4000000 in
set_option maxRecDepth 100000 in
theorem e_put3 (G : KG) (l : Launch) (M : Mem) (c0 : Int) (a1 : Int) (a2 : Int) (hI_M : Inv false M) (hk_c0 : kd c0 = 21) (hpre : -2147483648 ≤ a1 ∧ a1 ≤ 2147483647 ∧ -2147483648 ≤ a2 ∧ a2 ≤ 2147483647 ∧ 0 ≤ a1 ∧ a1 ≤ 7 ∧ 0 ≤ a2 ∧ a2 ≤ 511) (T : zT3) (hT : zTT M c0 T) (hi : zin T) : KC false G l yX7_put cX7_put 3 none (0, 0) [vR G c0, vI a1, vI a2] M (fun A => kQv false G A (fun (N : Mem) => Inv false N ∧ Fr f_e_put3 M N ∧ Ct (STb M c0) M N ∧ (zTT N c0 (zput T a1 a2)))) := by
  refine kx_met (lo := [some (vR G c0), some (vI a1), some (vI a2)]) (by decide) (Nat.le_of_ble_eq_true rfl) rfl ?_
  intro X F hQ
  have hF_M : Fr f_e_put3 M M := Fr.rf _ _
  have hE_M : Ct (STb M c0) M M := Ct.rf _ _
  have hk_1 : kd (M c0 2) = 22 := Inv.r hI_M hk_c0 rfl 2 rfl rfl
  have hk_2 : kd (M c0 3) = 23 := Inv.r hI_M hk_c0 rfl 3 rfl rfl
  have hk_3 : kd (M c0 4) = 24 := Inv.r hI_M hk_c0 rfl 4 rfl rfl
  have hk_4 : kd (M c0 5) = 25 := Inv.r hI_M hk_c0 rfl 5 rfl rfl
  refine kx_aload_n 1 F 0 dX7_put_0 rfl rfl rfl ?_
  refine kx_geti 4 F fl_X7_24 hk_c0 rfl rfl (j := 1) rfl dX7_put_1 (v := (M c0 1)) rfl rfl ?_
  have h_5 := Inv.g hI_M hk_c0 rfl 1 (a := 0) (b := 41) rfl rfl
  refine kx_bipush 6 F dX7_put_4 (by decide) rfl ?_
  refine kx_icmp_gt 9 F 22 dX7_put_6 (by decide) rfl (by omega) (by decide) (fun h_6 => ?_) (fun h_6 => ?_)
  · exact kx_vret F hQ ⟨hI_M, hF_M, hE_M, (zTT.full hT (by omega))⟩ dX7_put_22
  · refine kx_aload_n 10 F 0 dX7_put_9 rfl rfl rfl ?_
    refine kx_getr 13 F fl_X7_18 hk_c0 rfl rfl (j := 4) rfl dX7_put_10 (v := (M c0 4)) rfl rfl ?_
    refine kx_iload_n 14 F 2 dX7_put_13 rfl rfl rfl ?_
    refine kx_iald 15 F hk_3 rfl rfl (by omega) (by decide) dX7_put_14 (v := (M (M c0 4) a2)) rfl rfl ?_
    have h_7 := Inv.g hI_M hk_3 rfl a2 (a := (-2147483648)) (b := 2147483647) rfl rfl
    refine kx_iload_n 16 F 1 dX7_put_15 rfl rfl rfl ?_
    refine kx_ishr 17 F (v := (zshr (M (M c0 4) a2) a1)) dX7_put_16 rfl rfl ?_
    have h_8 := zshr_rng (M (M c0 4) a2) a1
    refine kx_iconst 18 F dX7_put_17 rfl ?_
    refine kx_iand 19 F (v := (zand (zshr (M (M c0 4) a2) a1) 1)) dX7_put_18 rfl rfl ?_
    have h_9 := zand_r (a := (zshr (M (M c0 4) a2) a1)) (b := 1) (by omega)
    refine kx_if_eq 22 F 23 dX7_put_19 (by decide) rfl (by omega) (fun h_10 => ?_) (fun h_10 => ?_)
    · refine kx_aload_n 24 F 0 dX7_put_23 rfl rfl rfl ?_
      refine kx_getr 27 F fl_X7_18 hk_c0 rfl rfl (j := 4) rfl dX7_put_24 (v := (M c0 4)) rfl rfl ?_
      refine kx_iload_n 28 F 2 dX7_put_27 rfl rfl rfl ?_
      refine kx_dup2 29 F dX7_put_28 rfl rfl rfl ?_
      refine kx_iald 30 F hk_3 rfl rfl (by omega) (by decide) dX7_put_29 (v := (M (M c0 4) a2)) rfl rfl ?_
      refine kx_iconst 31 F dX7_put_30 rfl ?_
      refine kx_iload_n 32 F 1 dX7_put_31 rfl rfl rfl ?_
      refine kx_ishl 33 F (v := (zshl 1 a1)) dX7_put_32 rfl rfl ?_
      have h_11 := zshl_1 (b := a1) 7 (by decide) (by omega)
      refine kx_ior 34 F (v := (zor (M (M c0 4) a2) (zshl 1 a1))) dX7_put_33 rfl rfl ?_
      have h_12 := zor_rng (M (M c0 4) a2) (zshl 1 a1)
      refine kx_iast 35 F hk_3 rfl rfl (by omega) (by decide) dX7_put_34 rfl ?_
      intro N_13 hM_N_13
      have hI_N_13 : Inv false N_13 := Inv.u hI_M hM_N_13 hk_3 (a := (-2147483648)) (b := 2147483647) rfl rfl rfl (by omega)
      have hF_N_13 : Fr f_e_put3 M N_13 := Fr.u hF_M hM_N_13 hk_3 rfl
      have hE_N_13 : Ct (STb M c0) M N_13 := Ct.st hE_M hM_N_13 (Or.inr (Or.inr (Or.inr (Or.inl rfl))))
      refine kx_aload_n 36 F 0 dX7_put_35 rfl rfl rfl ?_
      refine kx_geti 39 F fl_X7_24 hk_c0 rfl rfl (j := 1) rfl dX7_put_36 (v := (M c0 1)) (by rw [hM_N_13, mu_k hk_c0 hk_3 rfl]) rfl ?_
      refine kx_bipush 41 F dX7_put_39 (by decide) rfl ?_
      refine kx_icmp_ge 44 F 64 dX7_put_41 (by decide) rfl (by omega) (by decide) (fun h_14 => ?_) (fun h_14 => ?_)
      · refine kx_aload_n 65 F 0 dX7_put_64 rfl rfl rfl ?_
        refine kx_dup 66 F dX7_put_65 rfl rfl ?_
        refine kx_geti 69 F fl_X7_24 hk_c0 rfl rfl (j := 1) rfl dX7_put_66 (v := (M c0 1)) (by rw [hM_N_13, mu_k hk_c0 hk_3 rfl]) rfl ?_
        refine kx_iconst 70 F dX7_put_69 rfl ?_
        refine kx_iadd 71 F (v := (M c0 1) + 1) dX7_put_70 rfl rfl ?_
        refine kx_puti 74 F fw_X7_24 rfl hk_c0 rfl rfl (j := 1) rfl dX7_put_71 rfl ?_
        intro N_15 hM_N_15
        have hI_N_15 : Inv false N_15 := Inv.u hI_N_13 hM_N_15 hk_c0 (a := 0) (b := 41) rfl rfl rfl (by omega)
        have hF_N_15 : Fr f_e_put3 M N_15 := Fr.u hF_N_13 hM_N_15 hk_c0 rfl
        have hE_N_15 : Ct (STb M c0) M N_15 := Ct.st hE_N_13 hM_N_15 (Or.inl rfl)
        have e_16 : (N_15 c0 1) = (M c0 1) + 1 := by rw [hM_N_15, mu_s]
        exact kx_vret F hQ ⟨hI_N_15, hF_N_15, hE_N_15, (zTT.new hT hi ⟨by omega, by omega⟩ ⟨by omega, by omega⟩ (by omega) (by omega) (by rw [hM_N_15, mu_i (by omega), hM_N_13, mu_k hk_c0 hk_3 rfl]) (by rw [hM_N_15, mu_i (by omega), hM_N_13, mu_k hk_c0 hk_3 rfl]) (by rw [hM_N_15, mu_i (by omega), hM_N_13, mu_k hk_c0 hk_3 rfl]) (by omega) (fun j => by rw [hM_N_15, mu_k hk_3 hk_c0 rfl, hM_N_13, mu_at]) (fun h => by exfalso; omega) (fun _ => ⟨funext (fun j => by rw [hM_N_15, mu_k hk_1 hk_c0 rfl, hM_N_13, mu_k hk_1 hk_3 rfl]), funext (fun j => by rw [hM_N_15, mu_k hk_2 hk_c0 rfl, hM_N_13, mu_k hk_2 hk_3 rfl])⟩))⟩ dX7_put_74
      · refine kx_aload_n 45 F 0 dX7_put_44 rfl rfl rfl ?_
        refine kx_getr 48 F fl_X7_9 hk_c0 rfl rfl (j := 2) rfl dX7_put_45 (v := (M c0 2)) (by rw [hM_N_13, mu_k hk_c0 hk_3 rfl]) rfl ?_
        refine kx_aload_n 49 F 0 dX7_put_48 rfl rfl rfl ?_
        refine kx_geti 52 F fl_X7_24 hk_c0 rfl rfl (j := 1) rfl dX7_put_49 (v := (M c0 1)) (by rw [hM_N_13, mu_k hk_c0 hk_3 rfl]) rfl ?_
        refine kx_iload_n 53 F 1 dX7_put_52 rfl rfl rfl ?_
        refine kx_iast 54 F hk_1 rfl rfl (by omega) (by decide) dX7_put_53 rfl ?_
        intro N_17 hM_N_17
        have hI_N_17 : Inv false N_17 := Inv.u hI_N_13 hM_N_17 hk_1 (a := 0) (b := 7) rfl rfl rfl (by omega)
        have hF_N_17 : Fr f_e_put3 M N_17 := Fr.u hF_N_13 hM_N_17 hk_1 rfl
        have hE_N_17 : Ct (STb M c0) M N_17 := Ct.st hE_N_13 hM_N_17 (Or.inr (Or.inl rfl))
        refine kx_aload_n 55 F 0 dX7_put_54 rfl rfl rfl ?_
        refine kx_getr 58 F fl_X7_15 hk_c0 rfl rfl (j := 3) rfl dX7_put_55 (v := (M c0 3)) (by rw [hM_N_17, mu_k hk_c0 hk_1 rfl, hM_N_13, mu_k hk_c0 hk_3 rfl]) rfl ?_
        refine kx_aload_n 59 F 0 dX7_put_58 rfl rfl rfl ?_
        refine kx_geti 62 F fl_X7_24 hk_c0 rfl rfl (j := 1) rfl dX7_put_59 (v := (M c0 1)) (by rw [hM_N_17, mu_k hk_c0 hk_1 rfl, hM_N_13, mu_k hk_c0 hk_3 rfl]) rfl ?_
        refine kx_iload_n 63 F 2 dX7_put_62 rfl rfl rfl ?_
        refine kx_iast 64 F hk_2 rfl rfl (by omega) (by decide) dX7_put_63 rfl ?_
        intro N_18 hM_N_18
        have hI_N_18 : Inv false N_18 := Inv.u hI_N_17 hM_N_18 hk_2 (a := 0) (b := 511) rfl rfl rfl (by omega)
        have hF_N_18 : Fr f_e_put3 M N_18 := Fr.u hF_N_17 hM_N_18 hk_2 rfl
        have hE_N_18 : Ct (STb M c0) M N_18 := Ct.st hE_N_17 hM_N_18 (Or.inr (Or.inr (Or.inl rfl)))
        refine kx_aload_n 65 F 0 dX7_put_64 rfl rfl rfl ?_
        refine kx_dup 66 F dX7_put_65 rfl rfl ?_
        refine kx_geti 69 F fl_X7_24 hk_c0 rfl rfl (j := 1) rfl dX7_put_66 (v := (M c0 1)) (by rw [hM_N_18, mu_k hk_c0 hk_2 rfl, hM_N_17, mu_k hk_c0 hk_1 rfl, hM_N_13, mu_k hk_c0 hk_3 rfl]) rfl ?_
        refine kx_iconst 70 F dX7_put_69 rfl ?_
        refine kx_iadd 71 F (v := (M c0 1) + 1) dX7_put_70 rfl rfl ?_
        refine kx_puti 74 F fw_X7_24 rfl hk_c0 rfl rfl (j := 1) rfl dX7_put_71 rfl ?_
        intro N_19 hM_N_19
        have hI_N_19 : Inv false N_19 := Inv.u hI_N_18 hM_N_19 hk_c0 (a := 0) (b := 41) rfl rfl rfl (by omega)
        have hF_N_19 : Fr f_e_put3 M N_19 := Fr.u hF_N_18 hM_N_19 hk_c0 rfl
        have hE_N_19 : Ct (STb M c0) M N_19 := Ct.st hE_N_18 hM_N_19 (Or.inl rfl)
        have e_20 : (N_19 c0 1) = (M c0 1) + 1 := by rw [hM_N_19, mu_s]
        exact kx_vret F hQ ⟨hI_N_19, hF_N_19, hE_N_19, (zTT.new hT hi ⟨by omega, by omega⟩ ⟨by omega, by omega⟩ (by omega) (by omega) (by rw [hM_N_19, mu_i (by omega), hM_N_18, mu_k hk_c0 hk_2 rfl, hM_N_17, mu_k hk_c0 hk_1 rfl, hM_N_13, mu_k hk_c0 hk_3 rfl]) (by rw [hM_N_19, mu_i (by omega), hM_N_18, mu_k hk_c0 hk_2 rfl, hM_N_17, mu_k hk_c0 hk_1 rfl, hM_N_13, mu_k hk_c0 hk_3 rfl]) (by rw [hM_N_19, mu_i (by omega), hM_N_18, mu_k hk_c0 hk_2 rfl, hM_N_17, mu_k hk_c0 hk_1 rfl, hM_N_13, mu_k hk_c0 hk_3 rfl]) (by omega) (fun j => by rw [hM_N_19, mu_k hk_3 hk_c0 rfl, hM_N_18, mu_k hk_3 hk_2 rfl, hM_N_17, mu_k hk_3 hk_1 rfl, hM_N_13, mu_at]) (fun _ => ⟨fun j => by rw [hM_N_19, mu_k hk_1 hk_c0 rfl, hM_N_18, mu_k hk_1 hk_2 rfl, hM_N_17, mu_at, hM_N_13, mu_k hk_1 hk_3 rfl], fun j => by rw [hM_N_19, mu_k hk_2 hk_c0 rfl, hM_N_18, mu_at, hM_N_17, mu_k hk_2 hk_1 rfl, hM_N_13, mu_k hk_2 hk_3 rfl]⟩) (fun h => by exfalso; omega))⟩ dX7_put_74
    · exact kx_vret F hQ ⟨hI_M, hF_M, hE_M, (zTT.have hT ⟨by omega, by omega⟩ ⟨by omega, by omega⟩ (by omega))⟩ dX7_put_22
set_option maxHeartbeats 4000000 in
set_option maxRecDepth 100000 in
theorem e_pairsAfter3 (G : KG) (l : Launch) (M : Mem) (c0 : Int) (c1 : Int) (a2 : Int) (a3 : Int) (hI_M : Inv false M) (hk_c0 : kd c0 = 12) (hk_c1 : kd c1 = 1) (hpre : -2147483648 ≤ a2 ∧ a2 ≤ 2147483647 ∧ -2147483648 ≤ a3 ∧ a3 ≤ 2147483647 ∧ 0 ≤ a3 ∧ a3 ≤ 5 ∧ 0 ≤ a2 ∧ a2 ≤ 511) (q : Int → Int) (b : Int) (hS : zSN M c0 q) (hA : AT M c1 q b) : KC false G l yX7_pairsAfter cX7_pairsAfter 4 (some .int) (1, 22) [vR G c0, vR G c1, vI a2, vI a3] M (fun A => kQi false G A (fun (r : Int) (N : Mem) => M = N ∧ (0 ≤ r ∧ r ≤ 511) ∧ ((a3 < q 0 → r = smeZ (q b)) ∧ (¬ a3 < q 0 → r = thnZ a2 (zst q b a3) 9)))) := by
  refine kx_met (lo := [some (vR G c0), some (vR G c1), some (vI a2), some (vI a3)]) (by decide) (Nat.le_of_ble_eq_true rfl) rfl ?_
  intro X F hQ
  have hSn := hS.u
  have hk_1 : kd (M c1 10) = 6 := Inv.r hI_M hk_c1 rfl 10 rfl rfl
  have hk_2 : kd (M c1 11) = 7 := Inv.r hI_M hk_c1 rfl 11 rfl rfl
  refine kx_iload_n 1 F 3 dX7_pairsAfter_0 rfl rfl rfl ?_
  refine kx_aload_n 2 F 0 dX7_pairsAfter_1 rfl rfl rfl ?_
  refine kx_geti 5 F fl_X7_86 hk_c0 rfl rfl (j := 0) rfl dX7_pairsAfter_2 (v := (M c0 0)) rfl rfl ?_
  have h_3 := Inv.g hI_M hk_c0 rfl 0 (a := 0) (b := 2) rfl rfl
  refine kx_icmp_ge 8 F 16 dX7_pairsAfter_5 (by decide) rfl (by omega) (by omega) (fun h_4 => ?_) (fun h_4 => ?_)
  · refine kx_iload_n 17 F 2 dX7_pairsAfter_16 rfl rfl rfl ?_
    refine kx_aload_n 18 F 1 dX7_pairsAfter_17 rfl rfl rfl ?_
    refine kx_getr 21 F fl_X7_75 hk_c1 rfl rfl (j := 10) rfl dX7_pairsAfter_18 (v := (M c1 10)) rfl rfl ?_
    refine kx_iload_n 22 F 3 dX7_pairsAfter_21 rfl rfl rfl ?_
    refine kx_iald 23 F hk_1 rfl rfl (by omega) (by decide) dX7_pairsAfter_22 (v := (M (M c1 10) a3)) rfl rfl ?_
    have h_5 := Inv.g hI_M hk_1 rfl a3 (a := 0) (b := 511) rfl rfl
    refine kx_Si 26 F (As := [vI a2, vI (M (M c1 10) a3)]) (st := []) sd_X7_103 (e_compose3 G l M a2 (M (M c1 10) a3) hI_M (by omega)) ⟨by decide, by decide⟩ rfl rfl (Nat.le_of_ble_eq_true rfl) dX7_pairsAfter_23 rfl ?_
    intro r_6 N_7 q_8
    obtain ⟨rfl, q_8c, hz_N_7⟩ := q_8
    exact kx_iret F hQ ⟨rfl, (by omega), ⟨fun h => by exfalso; omega, fun _ => NX.cv (hz_N_7.trans (by rw [hA.sl ⟨by omega, by omega⟩])) (by omega)⟩⟩ dX7_pairsAfter_26
  · refine kx_aload_n 9 F 1 dX7_pairsAfter_8 rfl rfl rfl ?_
    refine kx_geti 12 F fl_X7_43 hk_c1 rfl rfl (j := 0) rfl dX7_pairsAfter_9 (v := (M c1 0)) rfl rfl ?_
    have h_9 := Inv.g hI_M hk_c1 rfl 0 (a := 0) (b := 3) rfl rfl
    refine kx_Si 15 F (As := [vI (M c1 0)]) (st := []) sd_X7_45 (e_identity3 G l M (M c1 0) hI_M (by omega)) ⟨by decide, by decide⟩ rfl rfl (Nat.le_of_ble_eq_true rfl) dX7_pairsAfter_12 rfl ?_
    intro r_10 N_11 q_12
    obtain ⟨rfl, q_12c, hz_N_11⟩ := q_12
    exact kx_iret F hQ ⟨rfl, (by omega), ⟨fun _ => NX.cv (hz_N_11.trans (congrArg smeZ hA.num.1)) (by omega), fun h => absurd (show a3 < q 0 by omega) h⟩⟩ dX7_pairsAfter_15
abbrev f_e_putSteps3 : List (Nat × Int) := [(21, 1), (22, -1), (23, -1), (24, -1)]
set_option maxHeartbeats 4000000 in
set_option maxRecDepth 100000 in
theorem e_putSteps3 (G : KG) (l : Launch) (M : Mem) (c0 : Int) (c1 : Int) (c2 : Int) (a3 : Int) (hI_M : Inv false M) (hk_c0 : kd c0 = 21) (hk_c1 : kd c1 = 12) (hk_c2 : kd c2 = 1) (hpre : -2147483648 ≤ a3 ∧ a3 ≤ 2147483647 ∧ 0 ≤ a3 ∧ a3 ≤ 39) (q : Int → Int) (b : Int) (hS : zSN M c1 q) (hA : AT M c2 q b) (hT : zTT M c0 (zKk q b a3)) (hk : a3 < (zKk q b a3).1) : KC false G l yX7_putSteps cX7_putSteps 5 none (2, 45) [vR G c0, vR G c1, vR G c2, vI a3] M (fun A => kQv false G A (fun (N : Mem) => Inv false N ∧ Fr f_e_putSteps3 M N ∧ Ct (STb M c0) M N ∧ (zTT N c0 (zKl q b a3 (q 0 + q 1 + q 2))))) := by
  refine kx_met (lo := [some (vR G c0), some (vR G c1), some (vR G c2), some (vI a3), none]) (by decide) (Nat.le_of_ble_eq_true rfl) rfl ?_
  intro X F hQ
  have hF_M : Fr f_e_putSteps3 M M := Fr.rf _ _
  have hE_M : Ct (STb M c0) M M := Ct.rf _ _
  have hk_1 : kd (M c0 2) = 22 := Inv.r hI_M hk_c0 rfl 2 rfl rfl
  have hk_2 : kd (M c0 3) = 23 := Inv.r hI_M hk_c0 rfl 3 rfl rfl
  have hk_3 : kd (M c0 4) = 24 := Inv.r hI_M hk_c0 rfl 4 rfl rfl
  have hk_4 : kd (M c0 5) = 25 := Inv.r hI_M hk_c0 rfl 5 rfl rfl
  have hSn := hS.u
  have hk_5 : kd (M c2 10) = 6 := Inv.r hI_M hk_c2 rfl 10 rfl rfl
  have hk_6 : kd (M c2 11) = 7 := Inv.r hI_M hk_c2 rfl 11 rfl rfl
  refine kx_iconst 1 F dX7_putSteps_0 rfl ?_
  refine kx_istore 3 F 4 (lo' := [some (vR G c0), some (vR G c1), some (vR G c2), some (vI a3), some (vI 0)]) dX7_putSteps_1 (by decide) rfl rfl rfl ?_
  have L_114 : ∀ (n_115 : Nat) (x4_112 : Int) (N_113 : Mem), Inv false N_113 → Fr f_e_putSteps3 M N_113 → Ct (STb M c0) M N_113 → zTT N_113 c0 (zKl q b a3 x4_112) → 0 ≤ x4_112 ∧ x4_112 ≤ 6 ∧ x4_112 ≤ (M c1 2) → (6 - (x4_112)).toNat = n_115 → KJ false G X N_113 3 [some (vR G c0), some (vR G c1), some (vR G c2), some (vI a3), some (vI x4_112)] [] := by
    intro n_115
    refine Nat.strongRecOn n_115 ?_
    intro n_115 ih_116 x4_112 N_113 hI_N_113 hF_N_113 hE_N_113 hp_119 h_117 hm_118
    refine kx_iload 5 F 4 dX7_putSteps_3 rfl rfl ?_
    refine kx_aload_n 6 F 1 dX7_putSteps_5 rfl rfl rfl ?_
    refine kx_geti 9 F fl_X7_70 hk_c1 rfl rfl (j := 2) rfl dX7_putSteps_6 (v := (M c1 2)) (by rw [Fr.e hF_N_113 hk_c1 _ rfl]) rfl ?_
    have h_120 := Inv.g hI_M hk_c1 rfl 2 (a := 0) (b := 6) rfl rfl
    refine kx_icmp_ge 12 F 51 dX7_putSteps_9 (by decide) rfl (by omega) (by omega) (fun h_121 => ?_) (fun h_121 => ?_)
    · exact kx_vret F hQ ⟨hI_N_113, hF_N_113, hE_N_113, (hp_119.cv (by rw [show q 0 + q 1 + q 2 = x4_112 by omega]))⟩ dX7_putSteps_51
    · refine kx_aload_n 13 F 0 dX7_putSteps_12 rfl rfl rfl ?_
      refine kx_aload_n 14 F 0 dX7_putSteps_13 rfl rfl rfl ?_
      refine kx_getr 17 F fl_X7_9 hk_c0 rfl rfl (j := 2) rfl dX7_putSteps_14 (v := (M c0 2)) (by rw [Fr.e hF_N_113 hk_c0 _ rfl]) rfl ?_
      refine kx_iload_n 18 F 3 dX7_putSteps_17 rfl rfl rfl ?_
      refine kx_iald 19 F hk_1 rfl rfl (by omega) (by decide) dX7_putSteps_18 (v := (N_113 (M c0 2) a3)) rfl rfl ?_
      have h_122 := Inv.g hI_N_113 hk_1 rfl a3 (a := 0) (b := 7) rfl rfl
      refine kx_aload_n 20 F 2 dX7_putSteps_19 rfl rfl rfl ?_
      refine kx_getr 23 F fl_X7_75 hk_c2 rfl rfl (j := 10) rfl dX7_putSteps_20 (v := (M c2 10)) (by rw [Fr.e hF_N_113 hk_c2 _ rfl]) rfl ?_
      refine kx_iload 25 F 4 dX7_putSteps_23 rfl rfl ?_
      refine kx_iald 26 F hk_5 rfl rfl (by omega) (by decide) dX7_putSteps_25 (v := (M (M c2 10) x4_112)) (by rw [Fr.e hF_N_113 hk_5 _ rfl]) rfl ?_
      have h_123 := Inv.g hI_M hk_5 rfl x4_112 (a := 0) (b := 511) rfl rfl
      refine kx_Si 29 F (As := [vI (N_113 (M c0 2) a3), vI (M (M c2 10) x4_112)]) (st := [vR G c0]) sd_X7_78 (e_image3 G l N_113 (N_113 (M c0 2) a3) (M (M c2 10) x4_112) hI_N_113 (by omega)) ⟨by decide, by decide⟩ rfl rfl (Nat.le_of_ble_eq_true rfl) dX7_putSteps_26 rfl ?_
      intro r_124 N_125 q_126
      obtain ⟨rfl, q_126c, hz_N_125⟩ := q_126
      refine kx_aload_n 30 F 1 dX7_putSteps_29 rfl rfl rfl ?_
      refine kx_aload_n 31 F 2 dX7_putSteps_30 rfl rfl rfl ?_
      refine kx_aload_n 32 F 0 dX7_putSteps_31 rfl rfl rfl ?_
      refine kx_getr 35 F fl_X7_15 hk_c0 rfl rfl (j := 3) rfl dX7_putSteps_32 (v := (M c0 3)) (by rw [Fr.e hF_N_113 hk_c0 _ rfl]) rfl ?_
      refine kx_iload_n 36 F 3 dX7_putSteps_35 rfl rfl rfl ?_
      refine kx_iald 37 F hk_2 rfl rfl (by omega) (by decide) dX7_putSteps_36 (v := (N_113 (M c0 3) a3)) rfl rfl ?_
      have h_127 := Inv.g hI_N_113 hk_2 rfl a3 (a := 0) (b := 511) rfl rfl
      refine kx_iload 39 F 4 dX7_putSteps_37 rfl rfl ?_
      refine kx_Si 42 F (As := [vR G c1, vR G c2, vI (N_113 (M c0 3) a3), vI x4_112]) (st := [vI r_124, vR G c0]) sd_X7_82 (e_pairsAfter3 G l N_113 c1 c2 (N_113 (M c0 3) a3) x4_112 hI_N_113 hk_c1 hk_c2 (by omega) q b (zSN.fr hS hk_c1 hF_N_113 rfl) (AT.fr2 hA hI_M hk_c2 hF_N_113 rfl)) ⟨by decide, by decide⟩ rfl rfl (Nat.le_of_ble_eq_true rfl) dX7_putSteps_39 rfl ?_
      intro r_128 N_129 q_130
      obtain ⟨rfl, q_130c, hns_N_129⟩ := q_130
      refine kx_Vv 45 (ci := 0) F (As := [vI r_124, vI r_128]) (st := []) vd_X7_51 (e_put3 G l N_113 c0 r_124 r_128 hI_N_113 hk_c0 (by omega) (zKl q b a3 x4_112) hp_119 (zKl_in q b a3 x4_112)) hk_c0 rfl rfl rfl ⟨by decide, by decide⟩ rfl rfl (Nat.le_of_ble_eq_true rfl) dX7_putSteps_42 rfl ?_
      intro N_131 q_132
      obtain ⟨hI_N_131, hG_N_131, hC_N_131, hpi_N_131⟩ := q_132
      have hF_N_131 : Fr f_e_putSteps3 M N_131 := Fr.c hF_N_113 hG_N_131 rfl
      have hE_N_131 : Ct (STb M c0) M N_131 := Ct.c hE_N_113 hC_N_131 (fun y hy => STb.e hy (Fr.e hF_N_113 hk_c0 2 rfl) (Fr.e hF_N_113 hk_c0 3 rfl) (Fr.e hF_N_113 hk_c0 4 rfl) (Fr.e hF_N_113 hk_c0 5 rfl))
      refine kx_iinc 48 F 4 (v := x4_112 + 1) (lo' := [some (vR G c0), some (vR G c1), some (vR G c2), some (vI a3), some (vI (x4_112 + 1))]) dX7_putSteps_45 rfl (by omega) (by decide) rfl rfl rfl ?_
      refine kx_goto 3 F dX7_putSteps_48 (by decide) ?_
      exact ih_116 _ (by omega) (x4_112 + 1) N_131 hI_N_131 hF_N_131 hE_N_131 (zTT.stl hp_119 hpi_N_131 ⟨by omega, by omega⟩ hk (by omega) (by omega) (Fr.e hF_N_113 hk_c0 2 rfl) (Fr.e hF_N_113 hk_c0 3 rfl) (hA.sl ⟨by omega, by omega⟩) hz_N_125 hns_N_129) (by omega) rfl
  have h_133 := Inv.g hI_M hk_c1 rfl 2 (a := 0) (b := 6) rfl rfl
  exact L_114 _ 0 M hI_M hF_M hE_M (hT.cv (zKl_0 q b a3)) (by omega) rfl
set_option maxHeartbeats 4000000 in
set_option maxRecDepth 100000 in
theorem e_overPlace3 (G : KG) (l : Launch) (M : Mem) (c0 : Int) (a1 : Int) (a2 : Int) (a3 : Int) (hI_M : Inv false M) (hk_c0 : kd c0 = 12) (hpre : -2147483648 ≤ a1 ∧ a1 ≤ 2147483647 ∧ -2147483648 ≤ a2 ∧ a2 ≤ 2147483647 ∧ -2147483648 ≤ a3 ∧ a3 ≤ 2147483647 ∧ 0 ≤ a1 ∧ a1 ≤ 39 ∧ 0 ≤ a2 ∧ a2 ≤ 1 ∧ (M c0 0) ≤ a3 ∧ a3 ≤ (M c0 0) + 1) : KC false G l yX7_overPlace cX7_overPlace 4 (some .int) (0, 0) [vR G c0, vI a1, vI a2, vI a3] M (fun A => kQi false G A (fun (r : Int) (N : Mem) => M = N ∧ (r = 4 * a1 + 2 * a2 + a3 - (M c0 0) ∧ 0 ≤ r ∧ r ≤ 159))) := by
  refine kx_met (lo := [some (vR G c0), some (vI a1), some (vI a2), some (vI a3)]) (by decide) (Nat.le_of_ble_eq_true rfl) rfl ?_
  intro X F hQ
  have h_1 := Inv.g hI_M hk_c0 rfl 0 (a := 0) (b := 2) rfl rfl
  refine kx_iload_n 1 F 1 dX7_overPlace_0 rfl rfl rfl ?_
  refine kx_iconst 2 F dX7_overPlace_1 rfl ?_
  refine kx_imul 3 F (v := 4 * a1) dX7_overPlace_2 (by omega) rfl ?_
  refine kx_iload_n 4 F 2 dX7_overPlace_3 rfl rfl rfl ?_
  refine kx_iconst 5 F dX7_overPlace_4 rfl ?_
  refine kx_imul 6 F (v := 2 * a2) dX7_overPlace_5 (by omega) rfl ?_
  refine kx_iadd 7 F (v := 4 * a1 + 2 * a2) dX7_overPlace_6 (by omega) rfl ?_
  refine kx_iload_n 8 F 3 dX7_overPlace_7 rfl rfl rfl ?_
  refine kx_iadd 9 F (v := 4 * a1 + 2 * a2 + a3) dX7_overPlace_8 rfl rfl ?_
  refine kx_aload_n 10 F 0 dX7_overPlace_9 rfl rfl rfl ?_
  refine kx_geti 13 F fl_X7_86 hk_c0 rfl rfl (j := 0) rfl dX7_overPlace_10 (v := (M c0 0)) rfl rfl ?_
  refine kx_isub 14 F (v := 4 * a1 + 2 * a2 + a3 - (M c0 0)) dX7_overPlace_13 rfl rfl ?_
  exact kx_iret F hQ ⟨rfl, (by omega)⟩ dX7_overPlace_14
abbrev f_e_noteOvers3 : List (Nat × Int) := [(25, -1)]
set_option maxHeartbeats 4000000 in
set_option maxRecDepth 100000 in
theorem e_noteOvers3 (G : KG) (l : Launch) (M : Mem) (c0 : Int) (c1 : Int) (c2 : Int) (a3 : Int) (hI_M : Inv false M) (hk_c0 : kd c0 = 21) (hk_c1 : kd c1 = 12) (hk_c2 : kd c2 = 1) (hpre : -2147483648 ≤ a3 ∧ a3 ≤ 2147483647 ∧ 0 ≤ a3 ∧ a3 ≤ 39 ∧ (M c1 1) ≤ (M c1 0) + 2) (q : Int → Int) (b : Int) (T : zT3) (hS : zSN M c1 q) (hA : AT M c2 q b) (hT : zTT M c0 T) (hk : a3 < T.1) (hO : zOV M c0 q b T a3) : KC false G l yX7_noteOvers cX7_noteOvers 6 none (2, 48) [vR G c0, vR G c1, vR G c2, vI a3] M (fun A => kQv false G A (fun (N : Mem) => Inv false N ∧ Fr f_e_noteOvers3 M N ∧ Ct (STb M c0) M N ∧ (zOV N c0 q b T (a3 + 1)))) := by
  refine kx_met (lo := [some (vR G c0), some (vR G c1), some (vR G c2), some (vI a3), none, none]) (by decide) (Nat.le_of_ble_eq_true rfl) rfl ?_
  intro X F hQ
  have hF_M : Fr f_e_noteOvers3 M M := Fr.rf _ _
  have hE_M : Ct (STb M c0) M M := Ct.rf _ _
  have h_1 := Inv.g hI_M hk_c1 rfl 1 (a := 0) (b := 4) rfl rfl
  have h_2 := Inv.g hI_M hk_c1 rfl 0 (a := 0) (b := 2) rfl rfl
  have hk_3 : kd (M c0 2) = 22 := Inv.r hI_M hk_c0 rfl 2 rfl rfl
  have hk_4 : kd (M c0 3) = 23 := Inv.r hI_M hk_c0 rfl 3 rfl rfl
  have hk_5 : kd (M c0 4) = 24 := Inv.r hI_M hk_c0 rfl 4 rfl rfl
  have hk_6 : kd (M c0 5) = 25 := Inv.r hI_M hk_c0 rfl 5 rfl rfl
  have hSn := hS.u
  have hk_7 : kd (M c2 10) = 6 := Inv.r hI_M hk_c2 rfl 10 rfl rfl
  have hk_8 : kd (M c2 11) = 7 := Inv.r hI_M hk_c2 rfl 11 rfl rfl
  refine kx_iconst 1 F dX7_noteOvers_0 rfl ?_
  refine kx_istore 3 F 4 (lo' := [some (vR G c0), some (vR G c1), some (vR G c2), some (vI a3), some (vI 0), none]) dX7_noteOvers_1 (by decide) rfl rfl rfl ?_
  have L_218 : ∀ (n_219 : Nat) (x4_216 : Int) (N_217 : Mem), Inv false N_217 → Fr f_e_noteOvers3 M N_217 → Ct (STb M c0) M N_217 → zOW N_217 (M c0 5) q b T a3 x4_216 0 → 0 ≤ x4_216 ∧ x4_216 ≤ 2 ∧ x4_216 ≤ (M c1 0) → (2 - (x4_216)).toNat = n_219 → KJ false G X N_217 3 [some (vR G c0), some (vR G c1), some (vR G c2), some (vI a3), some (vI x4_216), none] [] := by
    intro n_219
    refine Nat.strongRecOn n_219 ?_
    intro n_219 ih_220 x4_216 N_217 hI_N_217 hF_N_217 hE_N_217 hp_223 h_221 hm_222
    refine kx_iload 5 F 4 dX7_noteOvers_3 rfl rfl ?_
    refine kx_aload_n 6 F 1 dX7_noteOvers_5 rfl rfl rfl ?_
    refine kx_geti 9 F fl_X7_86 hk_c1 rfl rfl (j := 0) rfl dX7_noteOvers_6 (v := (M c1 0)) (by rw [Fr.e hF_N_217 hk_c1 _ rfl]) rfl ?_
    refine kx_icmp_ge 12 F 67 dX7_noteOvers_9 (by decide) rfl (by omega) (by omega) (fun h_224 => ?_) (fun h_224 => ?_)
    · exact kx_vret F hQ ⟨hI_N_217, hF_N_217, hE_N_217, (zOW.end hp_223 (by omega) (Fr.e hF_N_217 hk_c0 5 rfl) rfl)⟩ dX7_noteOvers_67
    · refine kx_aload_n 13 F 1 dX7_noteOvers_12 rfl rfl rfl ?_
      refine kx_geti 16 F fl_X7_86 hk_c1 rfl rfl (j := 0) rfl dX7_noteOvers_13 (v := (M c1 0)) (by rw [Fr.e hF_N_217 hk_c1 _ rfl]) rfl ?_
      refine kx_istore 18 F 5 (lo' := [some (vR G c0), some (vR G c1), some (vR G c2), some (vI a3), some (vI x4_216), some (vI (M c1 0))]) dX7_noteOvers_16 (by decide) rfl rfl rfl ?_
      have L_272 : ∀ (n_273 : Nat) (x5_270 : Int) (N_271 : Mem), Inv false N_271 → Fr f_e_noteOvers3 M N_271 → Ct (STb M c0) M N_271 → zOW N_271 (M c0 5) q b T a3 x4_216 (x5_270 - q 0) → 1 ≤ x5_270 ∧ x5_270 ≤ 4 ∧ (M c1 0) ≤ x5_270 ∧ x5_270 ≤ (M c1 1) ∧ x4_216 < (M c1 0) ∧ (M c1 0) ≤ x5_270 → (4 - (x5_270)).toNat = n_273 → KJ false G X N_271 18 [some (vR G c0), some (vR G c1), some (vR G c2), some (vI a3), some (vI x4_216), some (vI x5_270)] [] := by
        intro n_273
        refine Nat.strongRecOn n_273 ?_
        intro n_273 ih_274 x5_270 N_271 hI_N_271 hF_N_271 hE_N_271 hp_277 h_275 hm_276
        refine kx_iload 20 F 5 dX7_noteOvers_18 rfl rfl ?_
        refine kx_aload_n 21 F 1 dX7_noteOvers_20 rfl rfl rfl ?_
        refine kx_geti 24 F fl_X7_89 hk_c1 rfl rfl (j := 1) rfl dX7_noteOvers_21 (v := (M c1 1)) (by rw [Fr.e hF_N_271 hk_c1 _ rfl]) rfl ?_
        refine kx_icmp_ge 27 F 61 dX7_noteOvers_24 (by decide) rfl (by omega) (by omega) (fun h_278 => ?_) (fun h_278 => ?_)
        · refine kx_iinc 64 F 4 (v := x4_216 + 1) (lo' := [some (vR G c0), some (vR G c1), some (vR G c2), some (vI a3), some (vI (x4_216 + 1)), some (vI x5_270)]) dX7_noteOvers_61 rfl (by omega) (by decide) rfl rfl rfl ?_
          refine kx_goto 3 F dX7_noteOvers_64 (by decide) ?_
          refine kx_drop 5 (lo' := [some (vR G c0), some (vR G c1), some (vR G c2), some (vI a3), some (vI (x4_216 + 1)), none]) rfl ?_
          exact ih_220 _ (by omega) (x4_216 + 1) N_271 hI_N_271 hF_N_271 hE_N_271 (zOW.row hp_277 (by omega) (by omega)) (by omega) rfl
        · refine kx_aload_n 28 F 0 dX7_noteOvers_27 rfl rfl rfl ?_
          refine kx_getr 31 F fl_X7_21 hk_c0 rfl rfl (j := 5) rfl dX7_noteOvers_28 (v := (M c0 5)) (by rw [Fr.e hF_N_271 hk_c0 _ rfl]) rfl ?_
          refine kx_aload_n 32 F 1 dX7_noteOvers_31 rfl rfl rfl ?_
          refine kx_iload_n 33 F 3 dX7_noteOvers_32 rfl rfl rfl ?_
          refine kx_iload 35 F 4 dX7_noteOvers_33 rfl rfl ?_
          refine kx_iload 37 F 5 dX7_noteOvers_35 rfl rfl ?_
          have e_279 : (N_271 c1 0) = (M c1 0) := by rw [Fr.e hF_N_271 hk_c1 _ rfl]
          refine kx_Si 40 F (As := [vR G c1, vI a3, vI x4_216, vI x5_270]) (st := [vR G (M c0 5)]) sd_X7_92 (e_overPlace3 G l N_271 c1 a3 x4_216 x5_270 hI_N_271 hk_c1 (by omega)) ⟨by decide, by decide⟩ rfl rfl (Nat.le_of_ble_eq_true rfl) dX7_noteOvers_37 rfl ?_
          intro r_281 N_282 q_283
          obtain ⟨rfl, q_283c⟩ := q_283
          refine kx_aload_n 41 F 2 dX7_noteOvers_40 rfl rfl rfl ?_
          refine kx_iload 43 F 4 dX7_noteOvers_41 rfl rfl ?_
          refine kx_iload 45 F 5 dX7_noteOvers_43 rfl rfl ?_
          refine kx_aload_n 46 F 0 dX7_noteOvers_45 rfl rfl rfl ?_
          refine kx_getr 49 F fl_X7_15 hk_c0 rfl rfl (j := 3) rfl dX7_noteOvers_46 (v := (M c0 3)) (by rw [Fr.e hF_N_271 hk_c0 _ rfl]) rfl ?_
          refine kx_iload_n 50 F 3 dX7_noteOvers_49 rfl rfl rfl ?_
          refine kx_iald 51 F hk_4 rfl rfl (by omega) (by decide) dX7_noteOvers_50 (v := (M (M c0 3) a3)) (by rw [Fr.e hF_N_271 hk_4 _ rfl]) rfl ?_
          have h_286 := Inv.g hI_M hk_4 rfl a3 (a := 0) (b := 511) rfl rfl
          refine kx_Vi 54 (ci := 0) F (As := [vI x4_216, vI x5_270, vI (M (M c0 3) a3)]) (st := [vI r_281, vR G (M c0 5)]) vd_X7_96 (e_over3 G l N_271 c2 x4_216 x5_270 (M (M c0 3) a3) hI_N_271 hk_c2 (by omega)) hk_c2 rfl rfl rfl ⟨by decide, by decide⟩ rfl rfl (Nat.le_of_ble_eq_true rfl) dX7_noteOvers_51 rfl ?_
          intro r_287 N_288 q_289
          obtain ⟨rfl, q_289c, hz_N_288⟩ := q_289
          refine kx_iast 55 F hk_6 rfl rfl (by omega) (by decide) dX7_noteOvers_54 rfl ?_
          intro N_290 hM_N_290
          have hI_N_290 : Inv false N_290 := Inv.u hI_N_271 hM_N_290 hk_6 (a := 0) (b := 511) rfl rfl rfl (by omega)
          have hF_N_290 : Fr f_e_noteOvers3 M N_290 := Fr.u hF_N_271 hM_N_290 hk_6 rfl
          have hE_N_290 : Ct (STb M c0) M N_290 := Ct.st hE_N_271 hM_N_290 (Or.inr (Or.inr (Or.inr (Or.inr rfl))))
          refine kx_iinc 58 F 5 (v := x5_270 + 1) (lo' := [some (vR G c0), some (vR G c1), some (vR G c2), some (vI a3), some (vI x4_216), some (vI (x5_270 + 1))]) dX7_noteOvers_55 rfl (by omega) (by decide) rfl rfl rfl ?_
          refine kx_goto 18 F dX7_noteOvers_58 (by decide) ?_
          have hpe := (hT.2.1 a3 (by omega) hk (by omega)).2
          exact ih_274 _ (by omega) (x5_270 + 1) N_290 hI_N_290 hF_N_290 hE_N_290 (zOW.st hp_277 (p := r_281) (fun j => by rw [hM_N_290, mu_at]) (by omega) (hz_N_288.trans (by rw [show N_271 c2 11 = M c2 11 from Fr.e hF_N_271 hk_c2 11 rfl, show N_271 (M c2 11) = M (M c2 11) from Fr.fn hF_N_271 hk_8 rfl, hpe, show q 0 + (x5_270 - q 0) = x5_270 by omega]; exact zovA hA ⟨by omega, by omega⟩ ⟨by omega, by omega⟩)) (by omega) ⟨by omega, by omega⟩ ⟨by omega, by omega⟩ (by omega) (by omega)) (by omega) rfl
      exact L_272 _ (M c1 0) N_217 hI_N_217 hF_N_217 hE_N_217 (zOW.cv hp_223 rfl (by omega)) (by omega) rfl
  exact L_218 _ 0 M hI_M hF_M hE_M (zOW.nil hO rfl) (by omega) rfl
abbrev f_e_putBack3 : List (Nat × Int) := [(21, 1), (22, -1), (23, -1), (24, -1)]
set_option maxHeartbeats 4000000 in
set_option maxRecDepth 100000 in
theorem e_putBack3 (G : KG) (l : Launch) (M : Mem) (c0 : Int) (a1 : Int) (a2 : Int) (hI_M : Inv false M) (hk_c0 : kd c0 = 21) (hpre : -2147483648 ≤ a1 ∧ a1 ≤ 2147483647 ∧ -2147483648 ≤ a2 ∧ a2 ≤ 2147483647 ∧ 0 ≤ a1 ∧ a1 ≤ 39 ∧ 0 ≤ a2 ∧ a2 ≤ 511) (T : zT3) (hT : zTT M c0 T) (hi : zin T) (hk1 : 0 ≤ a1 ∧ a1 < T.1) : KC false G l yX7_putBack cX7_putBack 3 none (1, 22) [vR G c0, vI a1, vI a2] M (fun A => kQv false G A (fun (N : Mem) => Inv false N ∧ Fr f_e_putBack3 M N ∧ Ct (STb M c0) M N ∧ (zTT N c0 (zput T (zmZ (T.2.1 a1) a2 3) (thnZ (T.2.2 a1) a2 9))))) := by
  refine kx_met (lo := [some (vR G c0), some (vI a1), some (vI a2)]) (by decide) (Nat.le_of_ble_eq_true rfl) rfl ?_
  intro X F hQ
  have hF_M : Fr f_e_putBack3 M M := Fr.rf _ _
  have hE_M : Ct (STb M c0) M M := Ct.rf _ _
  have hk_1 : kd (M c0 2) = 22 := Inv.r hI_M hk_c0 rfl 2 rfl rfl
  have hk_2 : kd (M c0 3) = 23 := Inv.r hI_M hk_c0 rfl 3 rfl rfl
  have hk_3 : kd (M c0 4) = 24 := Inv.r hI_M hk_c0 rfl 4 rfl rfl
  have hk_4 : kd (M c0 5) = 25 := Inv.r hI_M hk_c0 rfl 5 rfl rfl
  refine kx_aload_n 1 F 0 dX7_putBack_0 rfl rfl rfl ?_
  refine kx_aload_n 2 F 0 dX7_putBack_1 rfl rfl rfl ?_
  refine kx_getr 5 F fl_X7_9 hk_c0 rfl rfl (j := 2) rfl dX7_putBack_2 (v := (M c0 2)) rfl rfl ?_
  refine kx_iload_n 6 F 1 dX7_putBack_5 rfl rfl rfl ?_
  refine kx_iald 7 F hk_1 rfl rfl (by omega) (by decide) dX7_putBack_6 (v := (M (M c0 2) a1)) rfl rfl ?_
  have h_5 := Inv.g hI_M hk_1 rfl a1 (a := 0) (b := 7) rfl rfl
  refine kx_iload_n 8 F 2 dX7_putBack_7 rfl rfl rfl ?_
  refine kx_Si 11 F (As := [vI (M (M c0 2) a1), vI a2]) (st := [vR G c0]) sd_X7_78 (e_image3 G l M (M (M c0 2) a1) a2 hI_M (by omega)) ⟨by decide, by decide⟩ rfl rfl (Nat.le_of_ble_eq_true rfl) dX7_putBack_8 rfl ?_
  intro r_6 N_7 q_8
  obtain ⟨rfl, q_8c, hz_N_7⟩ := q_8
  refine kx_aload_n 12 F 0 dX7_putBack_11 rfl rfl rfl ?_
  refine kx_getr 15 F fl_X7_15 hk_c0 rfl rfl (j := 3) rfl dX7_putBack_12 (v := (M c0 3)) rfl rfl ?_
  refine kx_iload_n 16 F 1 dX7_putBack_15 rfl rfl rfl ?_
  refine kx_iald 17 F hk_2 rfl rfl (by omega) (by decide) dX7_putBack_16 (v := (M (M c0 3) a1)) rfl rfl ?_
  have h_9 := Inv.g hI_M hk_2 rfl a1 (a := 0) (b := 511) rfl rfl
  refine kx_iload_n 18 F 2 dX7_putBack_17 rfl rfl rfl ?_
  refine kx_Si 21 F (As := [vI (M (M c0 3) a1), vI a2]) (st := [vI r_6, vR G c0]) sd_X7_103 (e_compose3 G l M (M (M c0 3) a1) a2 hI_M (by omega)) ⟨by decide, by decide⟩ rfl rfl (Nat.le_of_ble_eq_true rfl) dX7_putBack_18 rfl ?_
  intro r_10 N_11 q_12
  obtain ⟨rfl, q_12c, hz_N_11⟩ := q_12
  refine kx_Vv 24 (ci := 0) F (As := [vI r_6, vI r_10]) (st := []) vd_X7_51 (e_put3 G l M c0 r_6 r_10 hI_M hk_c0 (by omega) T hT hi) hk_c0 rfl rfl rfl ⟨by decide, by decide⟩ rfl rfl (Nat.le_of_ble_eq_true rfl) dX7_putBack_21 rfl ?_
  intro N_13 q_14
  obtain ⟨hI_N_13, hG_N_13, hC_N_13, hpi_N_13⟩ := q_14
  have hF_N_13 : Fr f_e_putBack3 M N_13 := Fr.c hF_M hG_N_13 rfl
  have hE_N_13 : Ct (STb M c0) M N_13 := Ct.c hE_M hC_N_13 (fun y hy => hy)
  have hat := hT.2.1 a1 (by omega) hk1.2 (by omega)
  exact kx_vret F hQ ⟨hI_N_13, hF_N_13, hE_N_13, (by have h := hpi_N_13; rw [hz_N_7, hz_N_11, hat.1, hat.2] at h; exact h)⟩ dX7_putBack_24
abbrev f_e_putBacks3 : List (Nat × Int) := [(21, 1), (22, -1), (23, -1), (24, -1)]
set_option maxHeartbeats 4000000 in
set_option maxRecDepth 100000 in
theorem e_putBacks3 (G : KG) (l : Launch) (M : Mem) (c0 : Int) (c1 : Int) (a2 : Int) (a3 : Int) (hI_M : Inv false M) (hk_c0 : kd c0 = 21) (hk_c1 : kd c1 = 12) (hpre : -2147483648 ≤ a2 ∧ a2 ≤ 2147483647 ∧ -2147483648 ≤ a3 ∧ a3 ≤ 2147483647 ∧ 0 ≤ a2 ∧ a2 ≤ 39 ∧ 0 ≤ a3 ∧ a3 ≤ a2 ∧ (M c1 1) ≤ (M c1 0) + 2) (q : Int → Int) (b : Int) (hS : zSN M c1 q) (hT : zTT M c0 (zKj q b a2 a3)) (hk : a2 < (zKk q b a2).1) (hO : zOV M c0 q b (zKk q b a2) (a2 + 1)) : KC false G l yX7_putBacks cX7_putBacks 6 none (2, 44) [vR G c0, vR G c1, vI a2, vI a3] M (fun A => kQv false G A (fun (N : Mem) => Inv false N ∧ Fr f_e_putBacks3 M N ∧ Ct (STb M c0) M N ∧ (zTT N c0 (zKj q b a2 (a3 + 1))))) := by
  refine kx_met (lo := [some (vR G c0), some (vR G c1), some (vI a2), some (vI a3), none, none]) (by decide) (Nat.le_of_ble_eq_true rfl) rfl ?_
  intro X F hQ
  have hF_M : Fr f_e_putBacks3 M M := Fr.rf _ _
  have hE_M : Ct (STb M c0) M M := Ct.rf _ _
  have h_1 := Inv.g hI_M hk_c1 rfl 1 (a := 0) (b := 4) rfl rfl
  have h_2 := Inv.g hI_M hk_c1 rfl 0 (a := 0) (b := 2) rfl rfl
  have hk_3 : kd (M c0 2) = 22 := Inv.r hI_M hk_c0 rfl 2 rfl rfl
  have hk_4 : kd (M c0 3) = 23 := Inv.r hI_M hk_c0 rfl 3 rfl rfl
  have hk_5 : kd (M c0 4) = 24 := Inv.r hI_M hk_c0 rfl 4 rfl rfl
  have hk_6 : kd (M c0 5) = 25 := Inv.r hI_M hk_c0 rfl 5 rfl rfl
  have hSn := hS.u
  refine kx_iconst 1 F dX7_putBacks_0 rfl ?_
  refine kx_istore 3 F 4 (lo' := [some (vR G c0), some (vR G c1), some (vI a2), some (vI a3), some (vI 0), none]) dX7_putBacks_1 (by decide) rfl rfl rfl ?_
  have L_324 : ∀ (n_325 : Nat) (x4_322 : Int) (N_323 : Mem), Inv false N_323 → Fr f_e_putBacks3 M N_323 → Ct (STb M c0) M N_323 → zTT N_323 c0 (zKc q b a2 a3 x4_322) → 0 ≤ x4_322 ∧ x4_322 ≤ 2 ∧ x4_322 ≤ (M c1 0) → (2 - (x4_322)).toNat = n_325 → KJ false G X N_323 3 [some (vR G c0), some (vR G c1), some (vI a2), some (vI a3), some (vI x4_322), none] [] := by
    intro n_325
    refine Nat.strongRecOn n_325 ?_
    intro n_325 ih_326 x4_322 N_323 hI_N_323 hF_N_323 hE_N_323 hp_329 h_327 hm_328
    refine kx_iload 5 F 4 dX7_putBacks_3 rfl rfl ?_
    refine kx_aload_n 6 F 1 dX7_putBacks_5 rfl rfl rfl ?_
    refine kx_geti 9 F fl_X7_86 hk_c1 rfl rfl (j := 0) rfl dX7_putBacks_6 (v := (M c1 0)) (by rw [Fr.e hF_N_323 hk_c1 _ rfl]) rfl ?_
    refine kx_icmp_ge 12 F 82 dX7_putBacks_9 (by decide) rfl (by omega) (by omega) (fun h_330 => ?_) (fun h_330 => ?_)
    · exact kx_vret F hQ ⟨hI_N_323, hF_N_323, hE_N_323, (zTT.cv hp_329 (by rw [zKj_s (j := a3) (by omega) rfl, show q 0 = x4_322 by omega]))⟩ dX7_putBacks_82
    · refine kx_aload_n 13 F 1 dX7_putBacks_12 rfl rfl rfl ?_
      refine kx_geti 16 F fl_X7_86 hk_c1 rfl rfl (j := 0) rfl dX7_putBacks_13 (v := (M c1 0)) (by rw [Fr.e hF_N_323 hk_c1 _ rfl]) rfl ?_
      refine kx_istore 18 F 5 (lo' := [some (vR G c0), some (vR G c1), some (vI a2), some (vI a3), some (vI x4_322), some (vI (M c1 0))]) dX7_putBacks_16 (by decide) rfl rfl rfl ?_
      have L_405 : ∀ (n_406 : Nat) (x5_403 : Int) (N_404 : Mem), Inv false N_404 → Fr f_e_putBacks3 M N_404 → Ct (STb M c0) M N_404 → zTT N_404 c0 (zKm q b a2 a3 x4_322 (x5_403 - q 0)) → 1 ≤ x5_403 ∧ x5_403 ≤ 4 ∧ (M c1 0) ≤ x5_403 ∧ x5_403 ≤ (M c1 1) ∧ x4_322 < (M c1 0) ∧ (M c1 0) ≤ x5_403 → (4 - (x5_403)).toNat = n_406 → KJ false G X N_404 18 [some (vR G c0), some (vR G c1), some (vI a2), some (vI a3), some (vI x4_322), some (vI x5_403)] [] := by
        intro n_406
        refine Nat.strongRecOn n_406 ?_
        intro n_406 ih_407 x5_403 N_404 hI_N_404 hF_N_404 hE_N_404 hp_410 h_408 hm_409
        refine kx_iload 20 F 5 dX7_putBacks_18 rfl rfl ?_
        refine kx_aload_n 21 F 1 dX7_putBacks_20 rfl rfl rfl ?_
        refine kx_geti 24 F fl_X7_89 hk_c1 rfl rfl (j := 1) rfl dX7_putBacks_21 (v := (M c1 1)) (by rw [Fr.e hF_N_404 hk_c1 _ rfl]) rfl ?_
        refine kx_icmp_ge 27 F 76 dX7_putBacks_24 (by decide) rfl (by omega) (by omega) (fun h_411 => ?_) (fun h_411 => ?_)
        · refine kx_iinc 79 F 4 (v := x4_322 + 1) (lo' := [some (vR G c0), some (vR G c1), some (vI a2), some (vI a3), some (vI (x4_322 + 1)), some (vI x5_403)]) dX7_putBacks_76 rfl (by omega) (by decide) rfl rfl rfl ?_
          refine kx_goto 3 F dX7_putBacks_79 (by decide) ?_
          refine kx_drop 5 (lo' := [some (vR G c0), some (vR G c1), some (vI a2), some (vI a3), some (vI (x4_322 + 1)), none]) rfl ?_
          exact ih_326 _ (by omega) (x4_322 + 1) N_404 hI_N_404 hF_N_404 hE_N_404 (zTT.cv hp_410 (by rw [zKc_s (c := x4_322) (by omega) (by omega), show q 1 = x5_403 - q 0 by omega])) (by omega) rfl
        · refine kx_aload_n 28 F 0 dX7_putBacks_27 rfl rfl rfl ?_
          refine kx_iload_n 29 F 3 dX7_putBacks_28 rfl rfl rfl ?_
          refine kx_aload_n 30 F 0 dX7_putBacks_29 rfl rfl rfl ?_
          refine kx_getr 33 F fl_X7_21 hk_c0 rfl rfl (j := 5) rfl dX7_putBacks_30 (v := (M c0 5)) (by rw [Fr.e hF_N_404 hk_c0 _ rfl]) rfl ?_
          refine kx_aload_n 34 F 1 dX7_putBacks_33 rfl rfl rfl ?_
          refine kx_iload_n 35 F 2 dX7_putBacks_34 rfl rfl rfl ?_
          refine kx_iload 37 F 4 dX7_putBacks_35 rfl rfl ?_
          refine kx_iload 39 F 5 dX7_putBacks_37 rfl rfl ?_
          have e_412 : (N_404 c1 0) = (M c1 0) := by rw [Fr.e hF_N_404 hk_c1 _ rfl]
          refine kx_Si 42 F (As := [vR G c1, vI a2, vI x4_322, vI x5_403]) (st := [vR G (M c0 5), vI a3, vR G c0]) sd_X7_92 (e_overPlace3 G l N_404 c1 a2 x4_322 x5_403 hI_N_404 hk_c1 (by omega)) ⟨by decide, by decide⟩ rfl rfl (Nat.le_of_ble_eq_true rfl) dX7_putBacks_39 rfl ?_
          intro r_414 N_415 q_416
          obtain ⟨rfl, q_416c⟩ := q_416
          refine kx_iald 43 F hk_6 rfl rfl (by omega) (by decide) dX7_putBacks_42 (v := (M (M c0 5) r_414)) (by rw [Fr.e hF_N_404 hk_6 _ rfl]) rfl ?_
          have h_419 := Inv.g hI_M hk_6 rfl r_414 (a := 0) (b := 511) rfl rfl
          refine kx_Vv 46 (ci := 0) F (As := [vI a3, vI (M (M c0 5) r_414)]) (st := []) vd_X7_100 (e_putBack3 G l N_404 c0 a3 (M (M c0 5) r_414) hI_N_404 hk_c0 (by omega) (zKm q b a2 a3 x4_322 (x5_403 - q 0)) hp_410 (zKm_in q b a2 a3 x4_322 (x5_403 - q 0)) ⟨by omega, by have h := (zKm_le q b a2 a3 x4_322 (x5_403 - q 0)).1; omega⟩) hk_c0 rfl rfl rfl ⟨by decide, by decide⟩ rfl rfl (Nat.le_of_ble_eq_true rfl) dX7_putBacks_43 rfl ?_
          intro N_420 q_421
          obtain ⟨hI_N_420, hG_N_420, hC_N_420, hpb_N_420⟩ := q_421
          have hF_N_420 : Fr f_e_putBacks3 M N_420 := Fr.c hF_N_404 hG_N_420 rfl
          have hE_N_420 : Ct (STb M c0) M N_420 := Ct.c hE_N_404 hC_N_420 (fun y hy => STb.e hy (Fr.e hF_N_404 hk_c0 2 rfl) (Fr.e hF_N_404 hk_c0 3 rfl) (Fr.e hF_N_404 hk_c0 4 rfl) (Fr.e hF_N_404 hk_c0 5 rfl))
          have hb_422 : zTT N_420 c0 (zBk (zks q b) (zKm q b a2 a3 x4_322 (x5_403 - q 0)) a2 a3 x4_322 x5_403) := hpb_N_420.bk (by have h := hO a2 x4_322 (x5_403 - q 0) (by omega) (by omega) (by omega) (by omega) (by omega) (by omega); rw [show q 0 + (x5_403 - q 0) = x5_403 by omega, ← ((zKm_le q b a2 a3 x4_322 (x5_403 - q 0)).2.2 a2 (by omega) (by omega)).2] at h; exact (congrArg (M (M c0 5)) (by omega)).trans h)
          refine kx_iload_n 47 F 3 dX7_putBacks_46 rfl rfl rfl ?_
          refine kx_iload_n 48 F 2 dX7_putBacks_47 rfl rfl rfl ?_
          refine kx_icmp_ge 51 F 70 dX7_putBacks_48 (by decide) rfl (by omega) (by omega) (fun h_423 => ?_) (fun h_423 => ?_)
          · refine kx_iinc 73 F 5 (v := x5_403 + 1) (lo' := [some (vR G c0), some (vR G c1), some (vI a2), some (vI a3), some (vI x4_322), some (vI (x5_403 + 1))]) dX7_putBacks_70 rfl (by omega) (by decide) rfl rfl rfl ?_
            refine kx_goto 18 F dX7_putBacks_73 (by decide) ?_
            exact ih_407 _ (by omega) (x5_403 + 1) N_420 hI_N_420 hF_N_420 hE_N_420 (zTT.m0 hb_422 (by omega) (by omega) (by omega) (by omega)) (by omega) rfl
          · refine kx_aload_n 52 F 0 dX7_putBacks_51 rfl rfl rfl ?_
            refine kx_iload_n 53 F 2 dX7_putBacks_52 rfl rfl rfl ?_
            refine kx_aload_n 54 F 0 dX7_putBacks_53 rfl rfl rfl ?_
            refine kx_getr 57 F fl_X7_21 hk_c0 rfl rfl (j := 5) rfl dX7_putBacks_54 (v := (M c0 5)) (by rw [Fr.e hG_N_420 hk_c0 _ rfl, Fr.e hF_N_404 hk_c0 _ rfl]) rfl ?_
            refine kx_aload_n 58 F 1 dX7_putBacks_57 rfl rfl rfl ?_
            refine kx_iload_n 59 F 3 dX7_putBacks_58 rfl rfl rfl ?_
            refine kx_iload 61 F 4 dX7_putBacks_59 rfl rfl ?_
            refine kx_iload 63 F 5 dX7_putBacks_61 rfl rfl ?_
            have e_424 : (N_420 c1 0) = (M c1 0) := by rw [Fr.e hG_N_420 hk_c1 _ rfl, Fr.e hF_N_404 hk_c1 _ rfl]
            refine kx_Si 66 F (As := [vR G c1, vI a3, vI x4_322, vI x5_403]) (st := [vR G (M c0 5), vI a2, vR G c0]) sd_X7_92 (e_overPlace3 G l N_420 c1 a3 x4_322 x5_403 hI_N_420 hk_c1 (by omega)) ⟨by decide, by decide⟩ rfl rfl (Nat.le_of_ble_eq_true rfl) dX7_putBacks_63 rfl ?_
            intro r_426 N_427 q_428
            obtain ⟨rfl, q_428c⟩ := q_428
            refine kx_iald 67 F hk_6 rfl rfl (by omega) (by decide) dX7_putBacks_66 (v := (M (M c0 5) r_426)) (by rw [Fr.e hG_N_420 hk_6 _ rfl, Fr.e hF_N_404 hk_6 _ rfl]) rfl ?_
            have h_431 := Inv.g hI_M hk_6 rfl r_426 (a := 0) (b := 511) rfl rfl
            refine kx_Vv 70 (ci := 0) F (As := [vI a2, vI (M (M c0 5) r_426)]) (st := []) vd_X7_100 (e_putBack3 G l N_420 c0 a2 (M (M c0 5) r_426) hI_N_420 hk_c0 (by omega) (zBk (zks q b) (zKm q b a2 a3 x4_322 (x5_403 - q 0)) a2 a3 x4_322 x5_403) hb_422 ((zBk_le (zks q b) a2 a3 x4_322 x5_403 (zKm q b a2 a3 x4_322 (x5_403 - q 0)) (zKm_in q b a2 a3 x4_322 (x5_403 - q 0))).in (zKm_in q b a2 a3 x4_322 (x5_403 - q 0))) ⟨by omega, by have h := (zKm_le q b a2 a3 x4_322 (x5_403 - q 0)).1; have u := (zBk_le (zks q b) a2 a3 x4_322 x5_403 (zKm q b a2 a3 x4_322 (x5_403 - q 0)) (zKm_in q b a2 a3 x4_322 (x5_403 - q 0))).1; omega⟩) hk_c0 rfl rfl rfl ⟨by decide, by decide⟩ rfl rfl (Nat.le_of_ble_eq_true rfl) dX7_putBacks_67 rfl ?_
            intro N_432 q_433
            obtain ⟨hI_N_432, hG_N_432, hC_N_432, hpb_N_432⟩ := q_433
            have hF_N_432 : Fr f_e_putBacks3 M N_432 := Fr.c hF_N_420 hG_N_432 rfl
            have hE_N_432 : Ct (STb M c0) M N_432 := Ct.c hE_N_420 hC_N_432 (fun y hy => STb.e hy (Fr.e hF_N_420 hk_c0 2 rfl) (Fr.e hF_N_420 hk_c0 3 rfl) (Fr.e hF_N_420 hk_c0 4 rfl) (Fr.e hF_N_420 hk_c0 5 rfl))
            have hb_434 : zTT N_432 c0 (zBk (zks q b) (zBk (zks q b) (zKm q b a2 a3 x4_322 (x5_403 - q 0)) a2 a3 x4_322 x5_403) a3 a2 x4_322 x5_403) := hpb_N_432.bk (by have h := hO a3 x4_322 (x5_403 - q 0) (by omega) (by omega) (by omega) (by omega) (by omega) (by omega); rw [show q 0 + (x5_403 - q 0) = x5_403 by omega, ← (((zKm_le q b a2 a3 x4_322 (x5_403 - q 0)).tr (zBk_le (zks q b) a2 a3 x4_322 x5_403 (zKm q b a2 a3 x4_322 (x5_403 - q 0)) (zKm_in q b a2 a3 x4_322 (x5_403 - q 0)))).2.2 a3 (by omega) (by omega)).2] at h; exact (congrArg (M (M c0 5)) (by omega)).trans h)
            refine kx_iinc 73 F 5 (v := x5_403 + 1) (lo' := [some (vR G c0), some (vR G c1), some (vI a2), some (vI a3), some (vI x4_322), some (vI (x5_403 + 1))]) dX7_putBacks_70 rfl (by omega) (by decide) rfl rfl rfl ?_
            refine kx_goto 18 F dX7_putBacks_73 (by decide) ?_
            exact ih_407 _ (by omega) (x5_403 + 1) N_432 hI_N_432 hF_N_432 hE_N_432 (zTT.m1 hb_434 (by omega) (by omega) (by omega) (by omega)) (by omega) rfl
      exact L_405 _ (M c1 0) N_323 hI_N_323 hF_N_323 hE_N_323 (zTT.cv hp_329 (by rw [show (M c1 0) - q 0 = 0 by omega, zKm_0])) (by omega) rfl
  exact L_324 _ 0 M hI_M hF_M hE_M (hT.cv (zKc_0 q b a2 a3)) (by omega) rfl
abbrev f_e_fill_present : List (Nat × Int) := [(24, -1)]
set_option maxHeartbeats 4000000 in
set_option maxRecDepth 100000 in
theorem e_fill_present (G : KG) (l : Launch) (M : Mem) (c0 : Int) (a1 : Int) (hI_M : Inv false M) (hk_c0 : kd c0 = 24) (hpre : -2147483648 ≤ a1 ∧ a1 ≤ 2147483647 ∧ 0 ≤ a1 ∧ a1 ≤ 255) : KC false G l yJ7_fill_53178 cJ7_fill_53178 4 none (0, 0) [vR G c0, vI a1] M (fun A => kQv false G A (fun (N : Mem) => Inv false N ∧ Fr f_e_fill_present M N ∧ Ct (fun x => x = c0) M N ∧ (zFL N c0 512 a1))) := by
  refine kx_met (lo := [some (vR G c0), some (vI a1), none, none]) (by decide) (Nat.le_of_ble_eq_true rfl) rfl ?_
  intro X F hQ
  have hF_M : Fr f_e_fill_present M M := Fr.rf _ _
  have hE_M : Ct (fun x => x = c0) M M := Ct.rf _ _
  refine kx_iconst 1 F dJ7_fill_53178_0 rfl ?_
  refine kx_istore_n 2 F 2 (lo' := [some (vR G c0), some (vI a1), some (vI 0), none]) dJ7_fill_53178_1 rfl (by decide) rfl rfl rfl ?_
  refine kx_aload_n 3 F 0 dJ7_fill_53178_2 rfl rfl rfl ?_
  refine kx_alen 4 F hk_c0 rfl rfl (z := 512) (by decide) dJ7_fill_53178_3 rfl ?_
  refine kx_istore_n 5 F 3 (lo' := [some (vR G c0), some (vI a1), some (vI 0), some (vI 512)]) dJ7_fill_53178_4 rfl (by decide) rfl rfl rfl ?_
  have L_31 : ∀ (n_32 : Nat) (x2_29 : Int) (N_30 : Mem), Inv false N_30 → Fr f_e_fill_present M N_30 → Ct (fun x => x = c0) M N_30 → zFL N_30 c0 x2_29 a1 → 0 ≤ x2_29 ∧ x2_29 ≤ 512 → (512 - (x2_29)).toNat = n_32 → KJ false G X N_30 5 [some (vR G c0), some (vI a1), some (vI x2_29), some (vI 512)] [] := by
    intro n_32
    refine Nat.strongRecOn n_32 ?_
    intro n_32 ih_33 x2_29 N_30 hI_N_30 hF_N_30 hE_N_30 hp_36 h_34 hm_35
    refine kx_iload_n 6 F 2 dJ7_fill_53178_5 rfl rfl rfl ?_
    refine kx_iload_n 7 F 3 dJ7_fill_53178_6 rfl rfl rfl ?_
    refine kx_icmp_ge 10 F 20 dJ7_fill_53178_7 (by decide) rfl (by omega) (by decide) (fun h_37 => ?_) (fun h_37 => ?_)
    · exact kx_vret F hQ ⟨hI_N_30, hF_N_30, hE_N_30, (zFL.at hp_36 (by omega))⟩ dJ7_fill_53178_20
    · refine kx_aload_n 11 F 0 dJ7_fill_53178_10 rfl rfl rfl ?_
      refine kx_iload_n 12 F 2 dJ7_fill_53178_11 rfl rfl rfl ?_
      refine kx_iload_n 13 F 1 dJ7_fill_53178_12 rfl rfl rfl ?_
      refine kx_iast 14 F hk_c0 rfl rfl (by omega) (by decide) dJ7_fill_53178_13 rfl ?_
      intro N_38 hM_N_38
      have hI_N_38 : Inv false N_38 := Inv.u hI_N_30 hM_N_38 hk_c0 (a := (-2147483648)) (b := 2147483647) rfl rfl rfl (by omega)
      have hF_N_38 : Fr f_e_fill_present M N_38 := Fr.u hF_N_30 hM_N_38 hk_c0 rfl
      have hE_N_38 : Ct (fun x => x = c0) M N_38 := Ct.st hE_N_30 hM_N_38 rfl
      refine kx_iinc 17 F 2 (v := x2_29 + 1) (lo' := [some (vR G c0), some (vI a1), some (vI (x2_29 + 1)), some (vI 512)]) dJ7_fill_53178_14 rfl (by omega) (by decide) rfl rfl rfl ?_
      refine kx_goto 5 F dJ7_fill_53178_17 (by decide) ?_
      exact ih_33 _ (by omega) (x2_29 + 1) N_38 hI_N_38 hF_N_38 hE_N_38 (zFL.step hp_36 (by omega) hM_N_38) (by omega) rfl
  exact L_31 _ 0 M hI_M hF_M hE_M zFL.nil (by omega) rfl
set_option maxHeartbeats 4000000 in
set_option maxRecDepth 100000 in
theorem e_stands3 (G : KG) (l : Launch) (M : Mem) (c0 : Int) (hI_M : Inv false M) (hk_c0 : kd c0 = 21) : KC false G l yX7_stands cX7_stands 1 (some .boolean) (0, 0) [vR G c0] M (fun A => kQi false G A (fun (r : Int) (N : Mem) => M = N ∧ ((r = 1 ∧ (M c0 1) ≤ 40) ∨ (r = 0 ∧ (M c0 1) ≥ 41)))) := by
  refine kx_met (lo := [some (vR G c0)]) (by decide) (Nat.le_of_ble_eq_true rfl) rfl ?_
  intro X F hQ
  refine kx_aload_n 1 F 0 dX7_stands_0 rfl rfl rfl ?_
  refine kx_geti 4 F fl_X7_24 hk_c0 rfl rfl (j := 1) rfl dX7_stands_1 (v := (M c0 1)) rfl rfl ?_
  have h_1 := Inv.g hI_M hk_c0 rfl 1 (a := 0) (b := 41) rfl rfl
  refine kx_bipush 6 F dX7_stands_4 (by decide) rfl ?_
  refine kx_icmp_gt 9 F 13 dX7_stands_6 (by decide) rfl (by omega) (by decide) (fun h_2 => ?_) (fun h_2 => ?_)
  · refine kx_iconst 14 F dX7_stands_13 rfl ?_
    exact kx_zret F hQ (by omega) ⟨rfl, (by omega)⟩ dX7_stands_14
  · refine kx_iconst 10 F dX7_stands_9 rfl ?_
    refine kx_goto 14 F dX7_stands_10 (by decide) ?_
    exact kx_zret F hQ (by omega) ⟨rfl, (by omega)⟩ dX7_stands_14
abbrev f_e_build3 : List (Nat × Int) := [(21, 0), (21, 1), (22, -1), (23, -1), (24, -1), (25, -1)]
set_option maxHeartbeats 4000000 in
set_option maxRecDepth 100000 in
theorem e_build3 (G : KG) (l : Launch) (M : Mem) (c0 : Int) (c1 : Int) (c2 : Int) (hI_M : Inv false M) (hk_c0 : kd c0 = 21) (hk_c1 : kd c1 = 12) (hk_c2 : kd c2 = 1) (hpre : (M c1 1) ≤ (M c1 0) + 2) (q : Int → Int) (b : Int) (hS : zSN M c1 q) (hA : AT M c2 q b) : KC false G l yX7_build cX7_build 5 none (3, 73) [vR G c0, vR G c1, vR G c2] M (fun A => kQv false G A (fun (N : Mem) => Inv false N ∧ Fr f_e_build3 M N ∧ ((N c0 0) = 1) ∧ Ct (STb M c0) M N ∧ (zTT N c0 (zTQA q b)))) := by
  refine kx_met (lo := [some (vR G c0), some (vR G c1), some (vR G c2), none, none]) (by decide) (Nat.le_of_ble_eq_true rfl) rfl ?_
  intro X F hQ
  have hF_M : Fr f_e_build3 M M := Fr.rf _ _
  have hE_M : Ct (STb M c0) M M := Ct.rf _ _
  have h_1 := Inv.g hI_M hk_c1 rfl 1 (a := 0) (b := 4) rfl rfl
  have h_2 := Inv.g hI_M hk_c1 rfl 0 (a := 0) (b := 2) rfl rfl
  have hk_3 : kd (M c0 2) = 22 := Inv.r hI_M hk_c0 rfl 2 rfl rfl
  have hk_4 : kd (M c0 3) = 23 := Inv.r hI_M hk_c0 rfl 3 rfl rfl
  have hk_5 : kd (M c0 4) = 24 := Inv.r hI_M hk_c0 rfl 4 rfl rfl
  have hk_6 : kd (M c0 5) = 25 := Inv.r hI_M hk_c0 rfl 5 rfl rfl
  have hSn := hS.u
  have hk_7 : kd (M c2 10) = 6 := Inv.r hI_M hk_c2 rfl 10 rfl rfl
  have hk_8 : kd (M c2 11) = 7 := Inv.r hI_M hk_c2 rfl 11 rfl rfl
  refine kx_aload_n 1 F 0 dX7_build_0 rfl rfl rfl ?_
  refine kx_iconst 2 F dX7_build_1 rfl ?_
  refine kx_putz 5 F fw_X7_28 rfl (by omega) hk_c0 rfl rfl (j := 0) rfl dX7_build_2 rfl ?_
  intro N_9 hM_N_9
  have hI_N_9 : Inv false N_9 := Inv.u hI_M hM_N_9 hk_c0 (a := 0) (b := 1) rfl rfl rfl (by omega)
  have hF_N_9 : Fr f_e_build3 M N_9 := Fr.u hF_M hM_N_9 hk_c0 rfl
  have hE_N_9 : Ct (STb M c0) M N_9 := Ct.st hE_M hM_N_9 (Or.inl rfl)
  refine kx_aload_n 6 F 0 dX7_build_5 rfl rfl rfl ?_
  refine kx_iconst 7 F dX7_build_6 rfl ?_
  refine kx_puti 10 F fw_X7_24 rfl hk_c0 rfl rfl (j := 1) rfl dX7_build_7 rfl ?_
  intro N_10 hM_N_10
  have hI_N_10 : Inv false N_10 := Inv.u hI_N_9 hM_N_10 hk_c0 (a := 0) (b := 41) rfl rfl rfl (by omega)
  have hF_N_10 : Fr f_e_build3 M N_10 := Fr.u hF_N_9 hM_N_10 hk_c0 rfl
  have hE_N_10 : Ct (STb M c0) M N_10 := Ct.st hE_N_9 hM_N_10 (Or.inl rfl)
  refine kx_aload_n 11 F 0 dX7_build_10 rfl rfl rfl ?_
  refine kx_getr 14 F fl_X7_18 hk_c0 rfl rfl (j := 4) rfl dX7_build_11 (v := (M c0 4)) (by rw [hM_N_10, mu_i (by omega), hM_N_9, mu_i (by omega)]) rfl ?_
  refine kx_iconst 15 F dX7_build_14 rfl ?_
  refine kx_Sv 18 F (As := [vR G (M c0 4), vI 0]) (st := []) sd_X7_32 (e_fill_present G l N_10 (M c0 4) 0 hI_N_10 hk_5 (by omega)) ⟨by decide, by decide⟩ rfl rfl (Nat.le_of_ble_eq_true rfl) dX7_build_15 rfl ?_
  intro N_11 q_12
  obtain ⟨hI_N_11, hG_N_11, hC_N_11, hfl_N_11⟩ := q_12
  have hF_N_11 : Fr f_e_build3 M N_11 := Fr.c hF_N_10 hG_N_11 rfl
  have hE_N_11 : Ct (STb M c0) M N_11 := Ct.c hE_N_10 hC_N_11 (fun y hy => Or.inr (Or.inr (Or.inr (Or.inl hy))))
  refine kx_aload_n 19 F 0 dX7_build_18 rfl rfl rfl ?_
  refine kx_aload_n 20 F 2 dX7_build_19 rfl rfl rfl ?_
  refine kx_geti 23 F fl_X7_38 hk_c2 rfl rfl (j := 2) rfl dX7_build_20 (v := (M c2 2)) (by rw [Fr.e hG_N_11 hk_c2 _ rfl, hM_N_10, mu_k hk_c2 hk_c0 rfl, hM_N_9, mu_k hk_c2 hk_c0 rfl]) rfl ?_
  have h_13 := Inv.g hI_M hk_c2 rfl 2 (a := 0) (b := 7) rfl rfl
  refine kx_aload_n 24 F 2 dX7_build_23 rfl rfl rfl ?_
  refine kx_geti 27 F fl_X7_43 hk_c2 rfl rfl (j := 0) rfl dX7_build_24 (v := (M c2 0)) (by rw [Fr.e hG_N_11 hk_c2 _ rfl, hM_N_10, mu_k hk_c2 hk_c0 rfl, hM_N_9, mu_k hk_c2 hk_c0 rfl]) rfl ?_
  have h_14 := Inv.g hI_M hk_c2 rfl 0 (a := 0) (b := 3) rfl rfl
  refine kx_Si 30 F (As := [vI (M c2 0)]) (st := [vI (M c2 2), vR G c0]) sd_X7_45 (e_identity3 G l N_11 (M c2 0) hI_N_11 (by omega)) ⟨by decide, by decide⟩ rfl rfl (Nat.le_of_ble_eq_true rfl) dX7_build_27 rfl ?_
  intro r_15 N_16 q_17
  obtain ⟨rfl, q_17c, hz_N_16⟩ := q_17
  have e_18 : (N_11 c0 1) = 0 := by rw [Fr.e hG_N_11 hk_c0 _ rfl, hM_N_10, mu_s]
  refine kx_Vv 33 (ci := 0) F (As := [vI (M c2 2), vI r_15]) (st := []) vd_X7_51 (e_put3 G l N_11 c0 (M c2 2) r_15 hI_N_11 hk_c0 (by omega) (0, (fun _ => 0), (fun _ => 0)) (zTT.nil (by omega) (by rw [show N_11 c0 4 = M c0 4 from Fr.e hF_N_11 hk_c0 4 rfl]; exact hfl_N_11)) ⟨by decide, by decide⟩) hk_c0 rfl rfl rfl ⟨by decide, by decide⟩ rfl rfl (Nat.le_of_ble_eq_true rfl) dX7_build_30 rfl ?_
  intro N_19 q_20
  obtain ⟨hI_N_19, hG_N_19, hC_N_19, hpi_N_19⟩ := q_20
  have hF_N_19 : Fr f_e_build3 M N_19 := Fr.c hF_N_11 hG_N_19 rfl
  have hE_N_19 : Ct (STb M c0) M N_19 := Ct.c hE_N_11 hC_N_19 (fun y hy => STb.e hy (Fr.e hF_N_11 hk_c0 2 rfl) (Fr.e hF_N_11 hk_c0 3 rfl) (Fr.e hF_N_11 hk_c0 4 rfl) (Fr.e hF_N_11 hk_c0 5 rfl))
  refine kx_iconst 34 F dX7_build_33 rfl ?_
  refine kx_istore_n 35 F 3 (lo' := [some (vR G c0), some (vR G c1), some (vR G c2), some (vI 0), none]) dX7_build_34 rfl (by decide) rfl rfl rfl ?_
  have L_788 : ∀ (n_789 : Nat) (x3_786 : Int) (N_787 : Mem), Inv false N_787 → Fr f_e_build3 M N_787 → Ct (STb M c0) M N_787 → zTT N_787 c0 (zKk q b x3_786) → zOV N_787 c0 q b (zKk q b x3_786) x3_786 → 0 ≤ x3_786 ∧ x3_786 ≤ 40 ∧ x3_786 ≤ 40 ∧ (N_787 c0 0) = 1 → (40 - (x3_786)).toNat = n_789 → KJ false G X N_787 35 [some (vR G c0), some (vR G c1), some (vR G c2), some (vI x3_786), none] [] := by
    intro n_789
    refine Nat.strongRecOn n_789 ?_
    intro n_789 ih_790 x3_786 N_787 hI_N_787 hF_N_787 hE_N_787 hp_793 hp_794 h_791 hm_792
    refine kx_iload_n 36 F 3 dX7_build_35 rfl rfl rfl ?_
    refine kx_bipush 38 F dX7_build_36 (by decide) rfl ?_
    refine kx_icmp_ge 41 F 106 dX7_build_38 (by decide) rfl (by omega) (by decide) (fun h_795 => ?_) (fun h_795 => ?_)
    · have h_796 := Inv.g hI_N_787 hk_c0 rfl 0 (a := 0) (b := 1) rfl rfl
      exact kx_vret F hQ ⟨hI_N_787, hF_N_787, (by omega), hE_N_787, (zTT.cv hp_793 (zKk_end (q := q) (b := b) (k := x3_786) (by omega) (by have h := hp_793.1; omega)).symm)⟩ dX7_build_106
    · refine kx_iload_n 42 F 3 dX7_build_41 rfl rfl rfl ?_
      refine kx_aload_n 43 F 0 dX7_build_42 rfl rfl rfl ?_
      refine kx_geti 46 F fl_X7_24 hk_c0 rfl rfl (j := 1) rfl dX7_build_43 (v := (N_787 c0 1)) rfl rfl ?_
      have h_797 := Inv.g hI_N_787 hk_c0 rfl 1 (a := 0) (b := 41) rfl rfl
      refine kx_icmp_ge 49 F 106 dX7_build_46 (by decide) rfl (by omega) (by omega) (fun h_798 => ?_) (fun h_798 => ?_)
      · have h_799 := Inv.g hI_N_787 hk_c0 rfl 0 (a := 0) (b := 1) rfl rfl
        exact kx_vret F hQ ⟨hI_N_787, hF_N_787, (by omega), hE_N_787, (zTT.cv hp_793 (zKk_end (q := q) (b := b) (k := x3_786) (by omega) (by have h := hp_793.1; omega)).symm)⟩ dX7_build_106
      · refine kx_aload_n 50 F 0 dX7_build_49 rfl rfl rfl ?_
        refine kx_Vi 53 (ci := 0) F (As := []) (st := []) vd_X7_55 (e_stands3 G l N_787 c0 hI_N_787 hk_c0) hk_c0 rfl rfl rfl ⟨by decide, by decide⟩ rfl rfl (Nat.le_of_ble_eq_true rfl) dX7_build_50 rfl ?_
        intro r_800 N_801 q_802
        obtain ⟨rfl, q_802c⟩ := q_802
        rcases q_802c with q_802c | q_802c
        · refine kx_if_eq 56 F 106 dX7_build_53 (by decide) rfl (by omega) (fun h_803 => (by exfalso; omega)) (fun h_803 => ?_)
          have hk_804 : x3_786 < (zKk q b x3_786).1 := by have h := hp_793.1; omega
          refine kx_aload_n 57 F 0 dX7_build_56 rfl rfl rfl ?_
          refine kx_aload_n 58 F 1 dX7_build_57 rfl rfl rfl ?_
          refine kx_aload_n 59 F 2 dX7_build_58 rfl rfl rfl ?_
          refine kx_iload_n 60 F 3 dX7_build_59 rfl rfl rfl ?_
          refine kx_Vv 63 (ci := 0) F (As := [vR G c1, vR G c2, vI x3_786]) (st := []) vd_X7_59 (e_putSteps3 G l N_787 c0 c1 c2 x3_786 hI_N_787 hk_c0 hk_c1 hk_c2 (by omega) q b (zSN.fr hS hk_c1 hF_N_787 rfl) (AT.fr2 hA hI_M hk_c2 hF_N_787 rfl) hp_793 hk_804) hk_c0 rfl rfl rfl ⟨by decide, by decide⟩ rfl rfl (Nat.le_of_ble_eq_true rfl) dX7_build_60 rfl ?_
          intro N_805 q_806
          obtain ⟨hI_N_805, hG_N_805, hC_N_805, hps_N_805⟩ := q_806
          have hF_N_805 : Fr f_e_build3 M N_805 := Fr.c hF_N_787 hG_N_805 rfl
          have hE_N_805 : Ct (STb M c0) M N_805 := Ct.c hE_N_787 hC_N_805 (fun y hy => STb.e hy (Fr.e hF_N_787 hk_c0 2 rfl) (Fr.e hF_N_787 hk_c0 3 rfl) (Fr.e hF_N_787 hk_c0 4 rfl) (Fr.e hF_N_787 hk_c0 5 rfl))
          refine kx_aload_n 64 F 0 dX7_build_63 rfl rfl rfl ?_
          refine kx_aload_n 65 F 1 dX7_build_64 rfl rfl rfl ?_
          refine kx_aload_n 66 F 2 dX7_build_65 rfl rfl rfl ?_
          refine kx_iload_n 67 F 3 dX7_build_66 rfl rfl rfl ?_
          have e_807 : (N_805 c1 1) = (M c1 1) := by rw [Fr.e hG_N_805 hk_c1 _ rfl, Fr.e hF_N_787 hk_c1 _ rfl]
          have e_808 : (N_805 c1 0) = (M c1 0) := by rw [Fr.e hG_N_805 hk_c1 _ rfl, Fr.e hF_N_787 hk_c1 _ rfl]
          refine kx_Vv 70 (ci := 0) F (As := [vR G c1, vR G c2, vI x3_786]) (st := []) vd_X7_63 (e_noteOvers3 G l N_805 c0 c1 c2 x3_786 hI_N_805 hk_c0 hk_c1 hk_c2 (by omega) q b (zKl q b x3_786 (q 0 + q 1 + q 2)) (zSN.fr hS hk_c1 hF_N_805 rfl) (AT.fr2 hA hI_M hk_c2 hF_N_805 rfl) hps_N_805 (by have h := (zKl_le q b x3_786 (q 0 + q 1 + q 2)).1; omega) (zOV.le (zOV.fr hp_794 hI_N_787 hk_c0 hG_N_805 rfl) (zKl_le q b x3_786 _) (by omega))) hk_c0 rfl rfl rfl ⟨by decide, by decide⟩ rfl rfl (Nat.le_of_ble_eq_true rfl) dX7_build_67 rfl ?_
          intro N_809 q_810
          obtain ⟨hI_N_809, hG_N_809, hC_N_809, hno_N_809⟩ := q_810
          have hF_N_809 : Fr f_e_build3 M N_809 := Fr.c hF_N_805 hG_N_809 rfl
          have hE_N_809 : Ct (STb M c0) M N_809 := Ct.c hE_N_805 hC_N_809 (fun y hy => STb.e hy (Fr.e hF_N_805 hk_c0 2 rfl) (Fr.e hF_N_805 hk_c0 3 rfl) (Fr.e hF_N_805 hk_c0 4 rfl) (Fr.e hF_N_805 hk_c0 5 rfl))
          refine kx_iconst 71 F dX7_build_70 rfl ?_
          refine kx_istore 73 F 4 (lo' := [some (vR G c0), some (vR G c1), some (vR G c2), some (vI x3_786), some (vI 0)]) dX7_build_71 (by decide) rfl rfl rfl ?_
          have L_911 : ∀ (n_912 : Nat) (x4_909 : Int) (N_910 : Mem), Inv false N_910 → Fr f_e_build3 M N_910 → Ct (STb M c0) M N_910 → zTT N_910 c0 (zKj q b x3_786 x4_909) → zOV N_910 c0 q b (zKk q b x3_786) (x3_786 + 1) → 0 ≤ x4_909 ∧ x4_909 ≤ 40 ∧ x4_909 ≤ x3_786 + 1 ∧ (N_910 c0 0) = 1 → (40 - (x4_909)).toNat = n_912 → KJ false G X N_910 73 [some (vR G c0), some (vR G c1), some (vR G c2), some (vI x3_786), some (vI x4_909)] [] := by
            intro n_912
            refine Nat.strongRecOn n_912 ?_
            intro n_912 ih_913 x4_909 N_910 hI_N_910 hF_N_910 hE_N_910 hp_916 hp_917 h_914 hm_915
            refine kx_iload 75 F 4 dX7_build_73 rfl rfl ?_
            refine kx_iload_n 76 F 3 dX7_build_75 rfl rfl rfl ?_
            refine kx_icmp_gt 79 F 100 dX7_build_76 (by decide) rfl (by omega) (by omega) (fun h_918 => ?_) (fun h_918 => ?_)
            · refine kx_iinc 103 F 3 (v := x3_786 + 1) (lo' := [some (vR G c0), some (vR G c1), some (vR G c2), some (vI (x3_786 + 1)), some (vI x4_909)]) dX7_build_100 rfl (by omega) (by decide) rfl rfl rfl ?_
              refine kx_goto 35 F dX7_build_103 (by decide) ?_
              refine kx_drop 4 (lo' := [some (vR G c0), some (vR G c1), some (vR G c2), some (vI (x3_786 + 1)), none]) rfl ?_
              have h_919 := Inv.g hI_N_910 hk_c0 rfl 0 (a := 0) (b := 1) rfl rfl
              exact ih_790 _ (by omega) (x3_786 + 1) N_910 hI_N_910 hF_N_910 hE_N_910 (zTT.cv hp_916 (by rw [zKk_s (k := x3_786) (by omega) (by omega) hk_804]; exact zKjx (by omega) (by have h := hp_916.1; omega))) (zOV.le hp_917 (by rw [zKk_s (k := x3_786) (k' := x3_786 + 1) (by omega) (by omega) hk_804]; exact zKj_le q b x3_786 _) (by omega)) (by omega) rfl
            · refine kx_aload_n 80 F 0 dX7_build_79 rfl rfl rfl ?_
              refine kx_Vi 83 (ci := 0) F (As := []) (st := []) vd_X7_55 (e_stands3 G l N_910 c0 hI_N_910 hk_c0) hk_c0 rfl rfl rfl ⟨by decide, by decide⟩ rfl rfl (Nat.le_of_ble_eq_true rfl) dX7_build_80 rfl ?_
              intro r_920 N_921 q_922
              obtain ⟨rfl, q_922c⟩ := q_922
              have h_923 := Inv.g hI_N_910 hk_c0 rfl 1 (a := 0) (b := 41) rfl rfl
              rcases q_922c with q_922c | q_922c
              · refine kx_if_eq 86 F 100 dX7_build_83 (by decide) rfl (by omega) (fun h_925 => (by exfalso; omega)) (fun h_925 => ?_)
                refine kx_aload_n 87 F 0 dX7_build_86 rfl rfl rfl ?_
                refine kx_aload_n 88 F 1 dX7_build_87 rfl rfl rfl ?_
                refine kx_iload_n 89 F 3 dX7_build_88 rfl rfl rfl ?_
                refine kx_iload 91 F 4 dX7_build_89 rfl rfl ?_
                have e_926 : (N_910 c1 1) = (M c1 1) := by rw [Fr.e hF_N_910 hk_c1 _ rfl]
                have e_927 : (N_910 c1 0) = (M c1 0) := by rw [Fr.e hF_N_910 hk_c1 _ rfl]
                refine kx_Vv 94 (ci := 0) F (As := [vR G c1, vI x3_786, vI x4_909]) (st := []) vd_X7_66 (e_putBacks3 G l N_910 c0 c1 x3_786 x4_909 hI_N_910 hk_c0 hk_c1 (by omega) q b (zSN.fr hS hk_c1 hF_N_910 rfl) hp_916 hk_804 hp_917) hk_c0 rfl rfl rfl ⟨by decide, by decide⟩ rfl rfl (Nat.le_of_ble_eq_true rfl) dX7_build_91 rfl ?_
                intro N_928 q_929
                obtain ⟨hI_N_928, hG_N_928, hC_N_928, hpk_N_928⟩ := q_929
                have hF_N_928 : Fr f_e_build3 M N_928 := Fr.c hF_N_910 hG_N_928 rfl
                have hE_N_928 : Ct (STb M c0) M N_928 := Ct.c hE_N_910 hC_N_928 (fun y hy => STb.e hy (Fr.e hF_N_910 hk_c0 2 rfl) (Fr.e hF_N_910 hk_c0 3 rfl) (Fr.e hF_N_910 hk_c0 4 rfl) (Fr.e hF_N_910 hk_c0 5 rfl))
                refine kx_iinc 97 F 4 (v := x4_909 + 1) (lo' := [some (vR G c0), some (vR G c1), some (vR G c2), some (vI x3_786), some (vI (x4_909 + 1))]) dX7_build_94 rfl (by omega) (by decide) rfl rfl rfl ?_
                refine kx_goto 73 F dX7_build_97 (by decide) ?_
                have e_930 : (N_928 c0 0) = (N_910 c0 0) := by rw [Fr.e hG_N_928 hk_c0 _ rfl]
                have h_931 := Inv.g hI_N_910 hk_c0 rfl 0 (a := 0) (b := 1) rfl rfl
                exact ih_913 _ (by omega) (x4_909 + 1) N_928 hI_N_928 hF_N_928 hE_N_928 hpk_N_928 (zOV.fr hp_917 hI_N_910 hk_c0 hG_N_928 rfl) (by omega) rfl
              · refine kx_if_eq 86 F 100 dX7_build_83 (by decide) rfl (by omega) (fun h_932 => ?_) (fun h_932 => (by exfalso; omega))
                refine kx_iinc 103 F 3 (v := x3_786 + 1) (lo' := [some (vR G c0), some (vR G c1), some (vR G c2), some (vI (x3_786 + 1)), some (vI x4_909)]) dX7_build_100 rfl (by omega) (by decide) rfl rfl rfl ?_
                refine kx_goto 35 F dX7_build_103 (by decide) ?_
                refine kx_drop 4 (lo' := [some (vR G c0), some (vR G c1), some (vR G c2), some (vI (x3_786 + 1)), none]) rfl ?_
                have h_933 := Inv.g hI_N_910 hk_c0 rfl 0 (a := 0) (b := 1) rfl rfl
                exact ih_790 _ (by omega) (x3_786 + 1) N_910 hI_N_910 hF_N_910 hE_N_910 (zTT.cv hp_916 (by rw [zKk_s (k := x3_786) (by omega) (by omega) hk_804]; exact zKjx (by omega) (by have h := hp_916.1; omega))) (zOV.le hp_917 (by rw [zKk_s (k := x3_786) (k' := x3_786 + 1) (by omega) (by omega) hk_804]; exact zKj_le q b x3_786 _) (by omega)) (by omega) rfl
          have e_934 : (N_809 c0 0) = (N_787 c0 0) := by rw [Fr.e hG_N_809 hk_c0 _ rfl, Fr.e hG_N_805 hk_c0 _ rfl]
          have h_935 := Inv.g hI_N_787 hk_c0 rfl 0 (a := 0) (b := 1) rfl rfl
          exact L_911 _ 0 N_809 hI_N_809 hF_N_809 hE_N_809 (zTT.cv (zTT.fr hps_N_805 hI_N_805 hk_c0 hG_N_809 rfl) (zKj_0 q b x3_786)) (zOV.cg hno_N_809 (fun i a d => ((zKl_le q b x3_786 _).2.2 i a (by omega)).2.symm)) (by omega) rfl
        · refine kx_if_eq 56 F 106 dX7_build_53 (by decide) rfl (by omega) (fun h_936 => ?_) (fun h_936 => (by exfalso; omega))
          have h_937 := Inv.g hI_N_787 hk_c0 rfl 0 (a := 0) (b := 1) rfl rfl
          exact kx_vret F hQ ⟨hI_N_787, hF_N_787, (by omega), hE_N_787, (zTT.cv hp_793 (zKk_end (q := q) (b := b) (k := x3_786) (by omega) (by have h := hp_793.1; omega)).symm)⟩ dX7_build_106
  have e_938 : (N_19 c0 0) = 1 := by rw [Fr.e hG_N_19 hk_c0 _ rfl, Fr.e hG_N_11 hk_c0 _ rfl, hM_N_10, mu_i (by omega), hM_N_9, mu_s]
  exact L_788 _ 0 N_19 hI_N_19 hF_N_19 hE_N_19 (zTT.cv hpi_N_19 (by rw [zKk_0]; unfold zT0; rw [hz_N_16, show M c2 0 = q b from hA.num.1, show M c2 2 = q (b + 2) from hA.n (d := 2) (by decide) rfl])) zOV.nil (by omega) rfl
set_option maxHeartbeats 4000000 in
set_option maxRecDepth 100000 in
theorem e_find3 (G : KG) (l : Launch) (M : Mem) (c0 : Int) (a1 : Int) (a2 : Int) (hI_M : Inv false M) (hk_c0 : kd c0 = 21) (hpre : -2147483648 ≤ a1 ∧ a1 ≤ 2147483647 ∧ -2147483648 ≤ a2 ∧ a2 ≤ 2147483647) : KC false G l yX7_find cX7_find 4 (some .int) (0, 0) [vR G c0, vI a1, vI a2] M (fun A => kQi false G A (fun (r : Int) (N : Mem) => M = N ∧ (r ≥ -1 ∧ r ≤ 40) ∧ (M c0 1 ≤ 40 → zFI (M (M c0 2)) (M (M c0 3)) (M c0 1) a1 a2 r))) := by
  refine kx_met (lo := [some (vR G c0), some (vI a1), some (vI a2), none]) (by decide) (Nat.le_of_ble_eq_true rfl) rfl ?_
  intro X F hQ
  have hk_1 : kd (M c0 2) = 22 := Inv.r hI_M hk_c0 rfl 2 rfl rfl
  have hk_2 : kd (M c0 3) = 23 := Inv.r hI_M hk_c0 rfl 3 rfl rfl
  have hk_3 : kd (M c0 4) = 24 := Inv.r hI_M hk_c0 rfl 4 rfl rfl
  have hk_4 : kd (M c0 5) = 25 := Inv.r hI_M hk_c0 rfl 5 rfl rfl
  refine kx_iconst 1 F dX7_find_0 rfl ?_
  refine kx_istore_n 2 F 3 (lo' := [some (vR G c0), some (vI a1), some (vI a2), some (vI 0)]) dX7_find_1 rfl (by decide) rfl rfl rfl ?_
  have L_62 : ∀ (n_63 : Nat) (x3_61 : Int), zNF (M (M c0 2)) (M (M c0 3)) a1 a2 x3_61 → 0 ≤ x3_61 ∧ x3_61 ≤ 40 ∧ x3_61 ≤ 40 → (40 - (x3_61)).toNat = n_63 → KJ false G X M 2 [some (vR G c0), some (vI a1), some (vI a2), some (vI x3_61)] [] := by
    intro n_63
    refine Nat.strongRecOn n_63 ?_
    intro n_63 ih_64 x3_61 hp_67 h_65 hm_66
    refine kx_iload_n 3 F 3 dX7_find_2 rfl rfl rfl ?_
    refine kx_aload_n 4 F 0 dX7_find_3 rfl rfl rfl ?_
    refine kx_geti 7 F fl_X7_24 hk_c0 rfl rfl (j := 1) rfl dX7_find_4 (v := (M c0 1)) rfl rfl ?_
    have h_68 := Inv.g hI_M hk_c0 rfl 1 (a := 0) (b := 41) rfl rfl
    refine kx_icmp_ge 10 F 44 dX7_find_7 (by decide) rfl (by omega) (by omega) (fun h_69 => ?_) (fun h_69 => ?_)
    · refine kx_iconst 45 F dX7_find_44 rfl ?_
      exact kx_iret F hQ ⟨rfl, (by omega), (fun hz => zNF.end hp_67 (by omega))⟩ dX7_find_45
    · refine kx_iload_n 11 F 3 dX7_find_10 rfl rfl rfl ?_
      refine kx_bipush 13 F dX7_find_11 (by decide) rfl ?_
      refine kx_icmp_ge 16 F 44 dX7_find_13 (by decide) rfl (by omega) (by decide) (fun h_70 => ?_) (fun h_70 => ?_)
      · refine kx_iconst 45 F dX7_find_44 rfl ?_
        exact kx_iret F hQ ⟨rfl, (by omega), (fun hz => zNF.end hp_67 (by omega))⟩ dX7_find_45
      · refine kx_aload_n 17 F 0 dX7_find_16 rfl rfl rfl ?_
        refine kx_getr 20 F fl_X7_9 hk_c0 rfl rfl (j := 2) rfl dX7_find_17 (v := (M c0 2)) rfl rfl ?_
        refine kx_iload_n 21 F 3 dX7_find_20 rfl rfl rfl ?_
        refine kx_iald 22 F hk_1 rfl rfl (by omega) (by decide) dX7_find_21 (v := (M (M c0 2) x3_61)) rfl rfl ?_
        have h_71 := Inv.g hI_M hk_1 rfl x3_61 (a := 0) (b := 7) rfl rfl
        refine kx_iload_n 23 F 1 dX7_find_22 rfl rfl rfl ?_
        refine kx_icmp_ne 26 F 38 dX7_find_23 (by decide) rfl (by omega) (by omega) (fun h_72 => ?_) (fun h_72 => ?_)
        · refine kx_iinc 41 F 3 (v := x3_61 + 1) (lo' := [some (vR G c0), some (vI a1), some (vI a2), some (vI (x3_61 + 1))]) dX7_find_38 rfl (by omega) (by decide) rfl rfl rfl ?_
          refine kx_goto 2 F dX7_find_41 (by decide) ?_
          exact ih_64 _ (by omega) (x3_61 + 1) (zNF.step hp_67 (by omega) (by omega)) (by omega) rfl
        · refine kx_aload_n 27 F 0 dX7_find_26 rfl rfl rfl ?_
          refine kx_getr 30 F fl_X7_15 hk_c0 rfl rfl (j := 3) rfl dX7_find_27 (v := (M c0 3)) rfl rfl ?_
          refine kx_iload_n 31 F 3 dX7_find_30 rfl rfl rfl ?_
          refine kx_iald 32 F hk_2 rfl rfl (by omega) (by decide) dX7_find_31 (v := (M (M c0 3) x3_61)) rfl rfl ?_
          have h_73 := Inv.g hI_M hk_2 rfl x3_61 (a := 0) (b := 511) rfl rfl
          refine kx_iload_n 33 F 2 dX7_find_32 rfl rfl rfl ?_
          refine kx_icmp_ne 36 F 38 dX7_find_33 (by decide) rfl (by omega) (by omega) (fun h_74 => ?_) (fun h_74 => ?_)
          · refine kx_iinc 41 F 3 (v := x3_61 + 1) (lo' := [some (vR G c0), some (vI a1), some (vI a2), some (vI (x3_61 + 1))]) dX7_find_38 rfl (by omega) (by decide) rfl rfl rfl ?_
            refine kx_goto 2 F dX7_find_41 (by decide) ?_
            exact ih_64 _ (by omega) (x3_61 + 1) (zNF.step hp_67 (by omega) (by omega)) (by omega) rfl
          · refine kx_iload_n 37 F 3 dX7_find_36 rfl rfl rfl ?_
            exact kx_iret F hQ ⟨rfl, (by omega), (fun hz => zNF.hit hp_67 (by omega) (by omega) (by omega) (by omega))⟩ dX7_find_37
  exact L_62 _ 0 zNF.nil (by omega) rfl
set_option maxHeartbeats 4000000 in
set_option maxRecDepth 100000 in
theorem e_after3 (G : KG) (l : Launch) (M : Mem) (c0 : Int) (c1 : Int) (c2 : Int) (a3 : Int) (a4 : Int) (hI_M : Inv false M) (hk_c0 : kd c0 = 21) (hk_c1 : kd c1 = 12) (hk_c2 : kd c2 = 1) (hpre : -2147483648 ≤ a3 ∧ a3 ≤ 2147483647 ∧ -2147483648 ≤ a4 ∧ a4 ≤ 2147483647 ∧ 0 ≤ a3 ∧ a3 ≤ 39 ∧ 0 ≤ a4 ∧ a4 ≤ 5) (q : Int → Int) (b : Int) (T : zT3) (hS : zSN M c1 q) (hA : AT M c2 q b) (hV : zTV M c0 T) (hn : T.1 ≤ 40) (hk : a3 < T.1) : KC false G l yX7_after cX7_after 5 (some .int) (2, 45) [vR G c0, vR G c1, vR G c2, vI a3, vI a4] M (fun A => kQi false G A (fun (r : Int) (N : Mem) => M = N ∧ (r ≥ -1 ∧ r ≤ 40) ∧ (zfit T (zmZ (T.2.1 a3) (zst q b a4) 3) (if a4 < q 0 then smeZ (q b) else thnZ (T.2.2 a3) (zst q b a4) 9) r))) := by
  refine kx_met (lo := [some (vR G c0), some (vR G c1), some (vR G c2), some (vI a3), some (vI a4)]) (by decide) (Nat.le_of_ble_eq_true rfl) rfl ?_
  intro X F hQ
  have hk_1 : kd (M c0 2) = 22 := Inv.r hI_M hk_c0 rfl 2 rfl rfl
  have hk_2 : kd (M c0 3) = 23 := Inv.r hI_M hk_c0 rfl 3 rfl rfl
  have hk_3 : kd (M c0 4) = 24 := Inv.r hI_M hk_c0 rfl 4 rfl rfl
  have hk_4 : kd (M c0 5) = 25 := Inv.r hI_M hk_c0 rfl 5 rfl rfl
  have hSn := hS.u
  have hk_5 : kd (M c2 10) = 6 := Inv.r hI_M hk_c2 rfl 10 rfl rfl
  have hk_6 : kd (M c2 11) = 7 := Inv.r hI_M hk_c2 rfl 11 rfl rfl
  refine kx_aload_n 1 F 0 dX7_after_0 rfl rfl rfl ?_
  refine kx_aload_n 2 F 0 dX7_after_1 rfl rfl rfl ?_
  refine kx_getr 5 F fl_X7_9 hk_c0 rfl rfl (j := 2) rfl dX7_after_2 (v := (M c0 2)) rfl rfl ?_
  refine kx_iload_n 6 F 3 dX7_after_5 rfl rfl rfl ?_
  refine kx_iald 7 F hk_1 rfl rfl (by omega) (by decide) dX7_after_6 (v := (M (M c0 2) a3)) rfl rfl ?_
  have h_7 := Inv.g hI_M hk_1 rfl a3 (a := 0) (b := 7) rfl rfl
  refine kx_aload_n 8 F 2 dX7_after_7 rfl rfl rfl ?_
  refine kx_getr 11 F fl_X7_75 hk_c2 rfl rfl (j := 10) rfl dX7_after_8 (v := (M c2 10)) rfl rfl ?_
  refine kx_iload 13 F 4 dX7_after_11 rfl rfl ?_
  refine kx_iald 14 F hk_5 rfl rfl (by omega) (by decide) dX7_after_13 (v := (M (M c2 10) a4)) rfl rfl ?_
  have h_8 := Inv.g hI_M hk_5 rfl a4 (a := 0) (b := 511) rfl rfl
  refine kx_Si 17 F (As := [vI (M (M c0 2) a3), vI (M (M c2 10) a4)]) (st := [vR G c0]) sd_X7_78 (e_image3 G l M (M (M c0 2) a3) (M (M c2 10) a4) hI_M (by omega)) ⟨by decide, by decide⟩ rfl rfl (Nat.le_of_ble_eq_true rfl) dX7_after_14 rfl ?_
  intro r_9 N_10 q_11
  obtain ⟨rfl, q_11c, hz_N_10⟩ := q_11
  refine kx_aload_n 18 F 1 dX7_after_17 rfl rfl rfl ?_
  refine kx_aload_n 19 F 2 dX7_after_18 rfl rfl rfl ?_
  refine kx_aload_n 20 F 0 dX7_after_19 rfl rfl rfl ?_
  refine kx_getr 23 F fl_X7_15 hk_c0 rfl rfl (j := 3) rfl dX7_after_20 (v := (M c0 3)) rfl rfl ?_
  refine kx_iload_n 24 F 3 dX7_after_23 rfl rfl rfl ?_
  refine kx_iald 25 F hk_2 rfl rfl (by omega) (by decide) dX7_after_24 (v := (M (M c0 3) a3)) rfl rfl ?_
  have h_12 := Inv.g hI_M hk_2 rfl a3 (a := 0) (b := 511) rfl rfl
  refine kx_iload 27 F 4 dX7_after_25 rfl rfl ?_
  refine kx_Si 30 F (As := [vR G c1, vR G c2, vI (M (M c0 3) a3), vI a4]) (st := [vI r_9, vR G c0]) sd_X7_82 (e_pairsAfter3 G l M c1 c2 (M (M c0 3) a3) a4 hI_M hk_c1 hk_c2 (by omega) q b hS hA) ⟨by decide, by decide⟩ rfl rfl (Nat.le_of_ble_eq_true rfl) dX7_after_27 rfl ?_
  intro r_13 N_14 q_15
  obtain ⟨rfl, q_15c, hns_N_14⟩ := q_15
  refine kx_Vi 33 (ci := 0) F (As := [vI r_9, vI r_13]) (st := []) vd_X7_106 (e_find3 G l M c0 r_9 r_13 hI_M hk_c0 (by omega)) hk_c0 rfl rfl rfl ⟨by decide, by decide⟩ rfl rfl (Nat.le_of_ble_eq_true rfl) dX7_after_30 rfl ?_
  intro r_16 N_17 q_18
  obtain ⟨rfl, q_18c, hfi_N_17⟩ := q_18
  have hat := hV.2 a3 (by omega) hk (by omega)
  have hns := hns_N_14
  rw [hat.2] at hns
  exact kx_iret F hQ ⟨rfl, (by omega), (zTV.fit hV hn hfi_N_17 (hz_N_10.trans (by rw [hat.1, hA.sl ⟨by omega, by omega⟩])) (by by_cases c : a4 < q 0; rw [if_pos c]; exact hns.1 c; rw [if_neg c]; exact hns.2 c) (by omega))⟩ dX7_after_33
