abbrev f_e_checker2c : List (Nat × Int) := [(1, 0), (1, 1), (1, 2), (1, 3), (1, 4), (1, 5), (2, -1), (3, -1), (4, -1), (5, -1), (6, -1), (7, -1), (8, 0), (12, 0), (12, 1), (12, 2), (12, 3), (17, 0), (17, 1), (17, 2), (17, 3), (17, 5), (17, 6), (17, 7), (17, 8), (17, 9), (19, -1), (20, -1), (21, 0), (41, 2), (62, 0), (62, 5)]
set_option maxHeartbeats 4000000 in
set_option maxRecDepth 100000 in
theorem e_checker2c (G : KG) (l : Launch) (M : Mem) (c0 : Int) (a1 : Int) (hI_M : Inv false M) (hk_c0 : kd c0 = 62) (hpre : -2147483648 ≤ a1 ∧ a1 ≤ 2147483647) (hX_M : XX M) (Bt : Int → Int) (hT : zTB M (M (M c0 4) 4) a1 Bt) (hZ : FZ M) : KC false G l yX11_checker cX11_checker 3 (some .int) (10, 218) [vR G c0, vI a1] M (fun A => kQi false G A (fun (r : Int) (N : Mem) => Inv false N ∧ Fr f_e_checker2c M N ∧ ((a1 < 0 ∧ r = -1 ∧ (N (M c0 4) 2) = (M (M c0 4) 2) ∧ (N (M c0 4) 3) = (M (M c0 4) 3) ∧ (N (M c0 4) 1) = (M (M c0 4) 1)) ∨ (a1 > (M (M c0 4) 1) ∧ r = -1 ∧ (N (M c0 4) 2) = (M (M c0 4) 2) ∧ (N (M c0 4) 3) = (M (M c0 4) 3) ∧ (N (M c0 4) 1) = (M (M c0 4) 1)) ∨ (a1 ≥ 0 ∧ a1 ≤ (M (M c0 4) 1) ∧ (N (M c0 4) 1) = 0)) ∧ XX N ∧ Cf (fun x => M (M c0 4) 0 ≤ x ∧ x < M (M c0 4) 0 + 19) M N ∧ ((0 ≤ a1 → a1 ≤ M (M c0 4) 1 → ∃ q t, zOUT Bt (N (M c0 4) 2) (N (M c0 4) 3) q t ∧ ((N (M c0 4) 2 = 0 ∧ r = q 3 ∧ N c0 5 = M (M c0 4) 0 ∧ N (M c0 4) 0 = M c0 5 ∧ zSN N (M (M c0 4) 0) q ∧ zSU N (M (M c0 4) 0) q) ∨ (¬ N (M c0 4) 2 = 0 ∧ r = -1 ∧ N c0 5 = M c0 5 ∧ N (M c0 4) 0 = M (M c0 4) 0))) ∧ (¬ (0 ≤ a1 ∧ a1 ≤ M (M c0 4) 1) → N c0 5 = M c0 5 ∧ N (M c0 4) 0 = M (M c0 4) 0)))) := by
  refine kx_met (lo := [some (vR G c0), some (vI a1), none]) (by decide) (Nat.le_of_ble_eq_true rfl) rfl ?_
  intro X F hQ
  have hF_M : Fr f_e_checker2c M M := Fr.rf _ _
  have hE_M : Cf (fun x => M (M c0 4) 0 ≤ x ∧ x < M (M c0 4) 0 + 19) M M := Cf.rf _ _
  have hk_Mc04 : kd (M c0 4) = 17 := Inv.r hI_M hk_c0 rfl 4 rfl rfl
  have h_1 := Inv.g hI_M hk_Mc04 rfl 1 (a := 0) (b := 900) rfl rfl
  refine kx_iload_n 1 F 1 dX11_checker_0 rfl rfl rfl ?_
  refine kx_if_lt 4 F 15 dX11_checker_1 (by decide) rfl (by omega) (fun h_2 => ?_) (fun h_2 => ?_)
  · refine kx_aload_n 16 F 0 dX11_checker_15 rfl rfl rfl ?_
    refine kx_iconst 17 F dX11_checker_16 rfl ?_
    refine kx_Vi 20 (ci := 0) F (As := [vI 1]) (st := []) vd_X11_110 (c_X11_refuse G l M c0 1 hI_M hk_c0 (by omega)) hk_c0 rfl rfl rfl ⟨by decide, by decide⟩ rfl rfl (Nat.le_of_ble_eq_true rfl) dX11_checker_17 rfl ?_
    intro r_3 N_4 q_5
    obtain ⟨hI_N_4, hG_N_4, q_5c⟩ := q_5
    have hF_N_4 : Fr f_e_checker2c M N_4 := Fr.c hF_M hG_N_4 rfl
    have hE_N_4 : Cf (fun x => M (M c0 4) 0 ≤ x ∧ x < M (M c0 4) 0 + 19) M N_4 := Cf.fr hE_M hG_N_4 rfl
    have hX_N_4 : XX N_4 := XX.fr hX_M hI_M hG_N_4 rfl
    subst q_5c
    have e_6 : (N_4 (M c0 4) 2) = (M (M c0 4) 2) := by rw [Fr.e hG_N_4 hk_Mc04 _ rfl]
    have h_7 := Inv.g hI_M hk_Mc04 rfl 2 (a := (-2147483648)) (b := 2147483647) rfl rfl
    have e_8 : (N_4 (M c0 4) 3) = (M (M c0 4) 3) := by rw [Fr.e hG_N_4 hk_Mc04 _ rfl]
    have h_9 := Inv.g hI_M hk_Mc04 rfl 3 (a := (-2147483648)) (b := 2147483647) rfl rfl
    have e_10 : (N_4 (M c0 4) 1) = (M (M c0 4) 1) := by rw [Fr.e hG_N_4 hk_Mc04 _ rfl]
    have e_11 : (N_4 (M c0 4) 2) = (M (M c0 4) 2) := by rw [Fr.e hG_N_4 hk_Mc04 _ rfl]
    have e_12 : (N_4 (M c0 4) 3) = (M (M c0 4) 3) := by rw [Fr.e hG_N_4 hk_Mc04 _ rfl]
    have e_13 : (N_4 (M c0 4) 1) = (M (M c0 4) 1) := by rw [Fr.e hG_N_4 hk_Mc04 _ rfl]
    have e_14 : (N_4 (M c0 4) 1) = (M (M c0 4) 1) := by rw [Fr.e hG_N_4 hk_Mc04 _ rfl]
    exact kx_iret F hQ ⟨hI_N_4, hF_N_4, (Or.inl (by omega)), hX_N_4, hE_N_4, ⟨fun h1 h2 => by exfalso; omega, fun _ => ⟨(by rw [Fr.e hG_N_4 hk_c0 _ rfl]), (by rw [Fr.e hG_N_4 hk_Mc04 _ rfl])⟩⟩⟩ dX11_checker_20
  · refine kx_iload_n 5 F 1 dX11_checker_4 rfl rfl rfl ?_
    refine kx_aload_n 6 F 0 dX11_checker_5 rfl rfl rfl ?_
    refine kx_getr 9 F fl_X11_19 hk_c0 rfl rfl (j := 4) rfl dX11_checker_6 (v := (M c0 4)) rfl rfl ?_
    refine kx_geti 12 F fl_X11_126 hk_Mc04 rfl rfl (j := 1) rfl dX11_checker_9 (v := (M (M c0 4) 1)) rfl rfl ?_
    refine kx_icmp_le 15 F 21 dX11_checker_12 (by decide) rfl (by omega) (by omega) (fun h_15 => ?_) (fun h_15 => ?_)
    · refine kx_aload_n 22 F 0 dX11_checker_21 rfl rfl rfl ?_
      refine kx_getr 25 F fl_X11_19 hk_c0 rfl rfl (j := 4) rfl dX11_checker_22 (v := (M c0 4)) rfl rfl ?_
      refine kx_iload_n 26 F 1 dX11_checker_25 rfl rfl rfl ?_
      refine kx_Vi 29 (ci := 0) F (As := [vI a1]) (st := []) vd_X11_133 (e_take2 G l M (M c0 4) a1 hI_M hk_Mc04 (by omega) hX_M Bt hT hZ) hk_Mc04 rfl rfl rfl ⟨by decide, by decide⟩ rfl rfl (Nat.le_of_ble_eq_true rfl) dX11_checker_26 rfl ?_
      intro r_16 N_17 q_18
      obtain ⟨hI_N_17, hG_N_17, q_18c, hX_N_17, hC_N_17, hw_N_17⟩ := q_18
      have hF_N_17 : Fr f_e_checker2c M N_17 := Fr.c hF_M hG_N_17 rfl
      have hE_N_17 : Cf (fun x => M (M c0 4) 0 ≤ x ∧ x < M (M c0 4) 0 + 19) M N_17 := Cf.c hE_M hC_N_17 (fun _ hx => hx)
      have h_19 := Inv.g hI_N_17 hk_Mc04 rfl 1 (a := 0) (b := 900) rfl rfl
      refine kx_if_ne 32 F 39 dX11_checker_29 (by decide) rfl (by omega) (fun h_20 => ?_) (fun h_20 => ?_)
      · refine kx_aload_n 40 F 0 dX11_checker_39 rfl rfl rfl ?_
        refine kx_getr 43 F fl_X11_26 hk_c0 rfl rfl (j := 5) rfl dX11_checker_40 (v := (M c0 5)) (by rw [Fr.e hG_N_17 hk_c0 _ rfl]) rfl ?_
        have hk_21 : kd (M c0 5) = 12 := Inv.r hI_M hk_c0 rfl 5 rfl rfl
        refine kx_astore_n 44 F 2 (lo' := [some (vR G c0), some (vI a1), some (vR G (M c0 5))]) dX11_checker_43 rfl (by decide) rfl rfl rfl ?_
        refine kx_aload_n 45 F 0 dX11_checker_44 rfl rfl rfl ?_
        refine kx_aload_n 46 F 0 dX11_checker_45 rfl rfl rfl ?_
        refine kx_getr 49 F fl_X11_19 hk_c0 rfl rfl (j := 4) rfl dX11_checker_46 (v := (M c0 4)) (by rw [Fr.e hG_N_17 hk_c0 _ rfl]) rfl ?_
        refine kx_getr 52 F fl_X11_136 hk_Mc04 rfl rfl (j := 0) rfl dX11_checker_49 (v := (M (M c0 4) 0)) (by rw [Fr.e hG_N_17 hk_Mc04 _ rfl]) rfl ?_
        have hk_22 : kd (M (M c0 4) 0) = 12 := Inv.r hI_M hk_Mc04 rfl 0 rfl rfl
        refine kx_putr 55 F fw_X11_26 (Or.inl ⟨_, rfl⟩) hk_c0 rfl rfl (j := 5) rfl dX11_checker_52 rfl ?_
        intro N_23 hM_N_23
        have hI_N_23 : Inv false N_23 := Inv.ur hI_N_17 hM_N_23 hk_c0 rfl rfl rfl hk_22 rfl rfl rfl
        have hF_N_23 : Fr f_e_checker2c M N_23 := Fr.u hF_N_17 hM_N_23 hk_c0 rfl
        have hX_N_23 : XX N_23 := XX.st hX_N_17 hI_N_17 hM_N_23 hk_c0 rfl
        have hE_N_23 : Cf (fun x => M (M c0 4) 0 ≤ x ∧ x < M (M c0 4) 0 + 19) M N_23 := Cf.sk hE_N_17 hM_N_23 hk_c0 rfl
        refine kx_aload_n 56 F 0 dX11_checker_55 rfl rfl rfl ?_
        refine kx_getr 59 F fl_X11_19 hk_c0 rfl rfl (j := 4) rfl dX11_checker_56 (v := (M c0 4)) (by rw [hM_N_23, mu_i (by omega), Fr.e hG_N_17 hk_c0 _ rfl]) rfl ?_
        refine kx_aload_n 60 F 2 dX11_checker_59 rfl rfl rfl ?_
        refine kx_putr 63 F fw_X11_136 (Or.inl ⟨_, rfl⟩) hk_Mc04 rfl rfl (j := 0) rfl dX11_checker_60 rfl ?_
        intro N_24 hM_N_24
        have hI_N_24 : Inv false N_24 := Inv.ur hI_N_23 hM_N_24 hk_Mc04 rfl rfl rfl hk_21 rfl rfl rfl
        have hF_N_24 : Fr f_e_checker2c M N_24 := Fr.u hF_N_23 hM_N_24 hk_Mc04 rfl
        have hX_N_24 : XX N_24 := XX.st hX_N_23 hI_N_23 hM_N_24 hk_Mc04 rfl
        have hE_N_24 : Cf (fun x => M (M c0 4) 0 ≤ x ∧ x < M (M c0 4) 0 + 19) M N_24 := Cf.sk hE_N_23 hM_N_24 hk_Mc04 rfl
        refine kx_aload_n 64 F 0 dX11_checker_63 rfl rfl rfl ?_
        refine kx_Vv 67 (ci := 0) F (As := []) (st := []) vd_X11_139 (c_X11_forget G l N_24 c0 hI_N_24 hk_c0) hk_c0 rfl rfl rfl ⟨by decide, by decide⟩ rfl rfl (Nat.le_of_ble_eq_true rfl) dX11_checker_64 rfl ?_
        intro N_25 q_26
        obtain ⟨hI_N_25, hG_N_25⟩ := q_26
        have hF_N_25 : Fr f_e_checker2c M N_25 := Fr.c hF_N_24 hG_N_25 rfl
        have hE_N_25 : Cf (fun x => M (M c0 4) 0 ≤ x ∧ x < M (M c0 4) 0 + 19) M N_25 := Cf.fr hE_N_24 hG_N_25 rfl
        have hX_N_25 : XX N_25 := XX.fr hX_N_24 hI_N_24 hG_N_25 rfl
        refine kx_aload_n 68 F 0 dX11_checker_67 rfl rfl rfl ?_
        refine kx_aload_n 69 F 0 dX11_checker_68 rfl rfl rfl ?_
        refine kx_getr 72 F fl_X11_26 hk_c0 rfl rfl (j := 5) rfl dX11_checker_69 (v := (M (M c0 4) 0)) (by rw [Fr.e hG_N_25 hk_c0 _ rfl, hM_N_24, mu_k hk_c0 hk_Mc04 rfl, hM_N_23, mu_s]) rfl ?_
        refine kx_geti 75 F fl_X11_142 hk_22 rfl rfl (j := 3) rfl dX11_checker_72 (v := (N_17 (M (M c0 4) 0) 3)) (by rw [Fr.e hG_N_25 hk_22 _ rfl, hM_N_24, mu_k hk_22 hk_Mc04 rfl, hM_N_23, mu_k hk_22 hk_c0 rfl]) rfl ?_
        have h_27 := Inv.g hI_N_17 hk_22 rfl 3 (a := 0) (b := 2) rfl rfl
        refine kx_Vi 78 (ci := 0) F (As := [vI (N_17 (M (M c0 4) 0) 3)]) (st := []) vd_X11_145 (c_X11_answer G l N_25 c0 (N_17 (M (M c0 4) 0) 3) hI_N_25 hk_c0 (by omega)) hk_c0 rfl rfl rfl ⟨by decide, by decide⟩ rfl rfl (Nat.le_of_ble_eq_true rfl) dX11_checker_75 rfl ?_
        intro r_28 N_29 q_30
        obtain ⟨hI_N_29, hG_N_29, q_30c⟩ := q_30
        have hF_N_29 : Fr f_e_checker2c M N_29 := Fr.c hF_N_25 hG_N_29 rfl
        have hE_N_29 : Cf (fun x => M (M c0 4) 0 ≤ x ∧ x < M (M c0 4) 0 + 19) M N_29 := Cf.fr hE_N_25 hG_N_29 rfl
        have hX_N_29 : XX N_29 := XX.fr hX_N_25 hI_N_25 hG_N_29 rfl
        have e_31 : (N_29 (M c0 4) 2) = (N_17 (M c0 4) 2) := by rw [Fr.e hG_N_29 hk_Mc04 _ rfl, Fr.e hG_N_25 hk_Mc04 _ rfl, hM_N_24, mu_i (by omega), hM_N_23, mu_k hk_Mc04 hk_c0 rfl]
        have h_32 := Inv.g hI_N_17 hk_Mc04 rfl 2 (a := (-2147483648)) (b := 2147483647) rfl rfl
        have e_33 : (N_29 (M c0 4) 3) = (N_17 (M c0 4) 3) := by rw [Fr.e hG_N_29 hk_Mc04 _ rfl, Fr.e hG_N_25 hk_Mc04 _ rfl, hM_N_24, mu_i (by omega), hM_N_23, mu_k hk_Mc04 hk_c0 rfl]
        have h_34 := Inv.g hI_N_17 hk_Mc04 rfl 3 (a := (-2147483648)) (b := 2147483647) rfl rfl
        have e_35 : (N_29 (M c0 4) 1) = (N_17 (M c0 4) 1) := by rw [Fr.e hG_N_29 hk_Mc04 _ rfl, Fr.e hG_N_25 hk_Mc04 _ rfl, hM_N_24, mu_i (by omega), hM_N_23, mu_k hk_Mc04 hk_c0 rfl]
        have e_36 : (N_29 (M c0 4) 2) = (N_17 (M c0 4) 2) := by rw [Fr.e hG_N_29 hk_Mc04 _ rfl, Fr.e hG_N_25 hk_Mc04 _ rfl, hM_N_24, mu_i (by omega), hM_N_23, mu_k hk_Mc04 hk_c0 rfl]
        have e_37 : (N_29 (M c0 4) 3) = (N_17 (M c0 4) 3) := by rw [Fr.e hG_N_29 hk_Mc04 _ rfl, Fr.e hG_N_25 hk_Mc04 _ rfl, hM_N_24, mu_i (by omega), hM_N_23, mu_k hk_Mc04 hk_c0 rfl]
        have e_38 : (N_29 (M c0 4) 1) = (N_17 (M c0 4) 1) := by rw [Fr.e hG_N_29 hk_Mc04 _ rfl, Fr.e hG_N_25 hk_Mc04 _ rfl, hM_N_24, mu_i (by omega), hM_N_23, mu_k hk_Mc04 hk_c0 rfl]
        have e_39 : (N_29 (M c0 4) 1) = (N_17 (M c0 4) 1) := by rw [Fr.e hG_N_29 hk_Mc04 _ rfl, Fr.e hG_N_25 hk_Mc04 _ rfl, hM_N_24, mu_i (by omega), hM_N_23, mu_k hk_Mc04 hk_c0 rfl]
        have e_40 : (N_29 (M c0 4) 2) = (N_17 (M c0 4) 2) := by rw [Fr.e hG_N_29 hk_Mc04 _ rfl, Fr.e hG_N_25 hk_Mc04 _ rfl, hM_N_24, mu_i (by omega), hM_N_23, mu_k hk_Mc04 hk_c0 rfl]
        have e_41 : (N_29 (M c0 4) 3) = (N_17 (M c0 4) 3) := by rw [Fr.e hG_N_29 hk_Mc04 _ rfl, Fr.e hG_N_25 hk_Mc04 _ rfl, hM_N_24, mu_i (by omega), hM_N_23, mu_k hk_Mc04 hk_c0 rfl]
        exact kx_iret F hQ ⟨hI_N_29, hF_N_29, (Or.inr (Or.inr (by omega))), hX_N_29, hE_N_29, ⟨fun _ _ => by obtain ⟨q, t, ho, hc⟩ := hw_N_17; rw [show N_29 (M c0 4) 2 = N_17 (M c0 4) 2 by omega, show N_29 (M c0 4) 3 = N_17 (M c0 4) 3 by omega]; rcases hc with hc | hc; have e0 : N_17 (M c0 4) 0 = M (M c0 4) 0 := (Fr.e hG_N_17 hk_Mc04 0 rfl); have hsn : zSN N_17 (M (M c0 4) 0) q := (by have h := hc.2.2.1.sn; rw [e0] at h; exact h); have hsu : zSU N_17 (M (M c0 4) 0) q := (by have h := hc.2.2.2.su; rw [e0] at h; exact h); have h4 := hsn.u.2.2.2.1; exact ⟨q, t, ho, Or.inl ⟨by omega, by omega, (by rw [Fr.e hG_N_29 hk_c0 _ rfl, Fr.e hG_N_25 hk_c0 _ rfl, hM_N_24, mu_k hk_c0 hk_Mc04 rfl, hM_N_23, mu_s]), (by rw [Fr.e hG_N_29 hk_Mc04 _ rfl, Fr.e hG_N_25 hk_Mc04 _ rfl, hM_N_24, mu_s]), (zSN.fr (zSN.fr (zSN.fr (zSN.fr hsn hk_22 (Fr.u (Fr.rf [(62, 5)] _) hM_N_23 hk_c0 rfl) rfl) hk_22 (Fr.u (Fr.rf [(17, 0)] _) hM_N_24 hk_Mc04 rfl) rfl) hk_22 hG_N_25 rfl) hk_22 hG_N_29 rfl), (zSU.fr (zSU.fr (zSU.fr (zSU.fr hsu hI_N_17 hk_22 (Fr.u (Fr.rf [(62, 5)] _) hM_N_23 hk_c0 rfl) rfl) hI_N_23 hk_22 (Fr.u (Fr.rf [(17, 0)] _) hM_N_24 hk_Mc04 rfl) rfl) hI_N_24 hk_22 hG_N_25 rfl) hI_N_25 hk_22 hG_N_29 rfl)⟩⟩; exact absurd hc.1 (by omega), fun h => absurd (And.intro (by omega) (by omega)) h⟩⟩ dX11_checker_78
      · refine kx_aload_n 33 F 0 dX11_checker_32 rfl rfl rfl ?_
        refine kx_bipush 35 F dX11_checker_33 (by decide) rfl ?_
        refine kx_Vi 38 (ci := 0) F (As := [vI 9]) (st := []) vd_X11_110 (c_X11_refuse G l N_17 c0 9 hI_N_17 hk_c0 (by omega)) hk_c0 rfl rfl rfl ⟨by decide, by decide⟩ rfl rfl (Nat.le_of_ble_eq_true rfl) dX11_checker_35 rfl ?_
        intro r_42 N_43 q_44
        obtain ⟨hI_N_43, hG_N_43, q_44c⟩ := q_44
        have hF_N_43 : Fr f_e_checker2c M N_43 := Fr.c hF_N_17 hG_N_43 rfl
        have hE_N_43 : Cf (fun x => M (M c0 4) 0 ≤ x ∧ x < M (M c0 4) 0 + 19) M N_43 := Cf.fr hE_N_17 hG_N_43 rfl
        have hX_N_43 : XX N_43 := XX.fr hX_N_17 hI_N_17 hG_N_43 rfl
        subst q_44c
        have e_45 : (N_43 (M c0 4) 2) = (N_17 (M c0 4) 2) := by rw [Fr.e hG_N_43 hk_Mc04 _ rfl]
        have h_46 := Inv.g hI_N_17 hk_Mc04 rfl 2 (a := (-2147483648)) (b := 2147483647) rfl rfl
        have e_47 : (N_43 (M c0 4) 3) = (N_17 (M c0 4) 3) := by rw [Fr.e hG_N_43 hk_Mc04 _ rfl]
        have h_48 := Inv.g hI_N_17 hk_Mc04 rfl 3 (a := (-2147483648)) (b := 2147483647) rfl rfl
        have e_49 : (N_43 (M c0 4) 1) = (N_17 (M c0 4) 1) := by rw [Fr.e hG_N_43 hk_Mc04 _ rfl]
        have e_50 : (N_43 (M c0 4) 2) = (N_17 (M c0 4) 2) := by rw [Fr.e hG_N_43 hk_Mc04 _ rfl]
        have e_51 : (N_43 (M c0 4) 3) = (N_17 (M c0 4) 3) := by rw [Fr.e hG_N_43 hk_Mc04 _ rfl]
        have e_52 : (N_43 (M c0 4) 1) = (N_17 (M c0 4) 1) := by rw [Fr.e hG_N_43 hk_Mc04 _ rfl]
        have e_53 : (N_43 (M c0 4) 1) = (N_17 (M c0 4) 1) := by rw [Fr.e hG_N_43 hk_Mc04 _ rfl]
        have e_54 : (N_43 (M c0 4) 2) = (N_17 (M c0 4) 2) := by rw [Fr.e hG_N_43 hk_Mc04 _ rfl]
        have e_55 : (N_43 (M c0 4) 3) = (N_17 (M c0 4) 3) := by rw [Fr.e hG_N_43 hk_Mc04 _ rfl]
        exact kx_iret F hQ ⟨hI_N_43, hF_N_43, (Or.inr (Or.inr (by omega))), hX_N_43, hE_N_43, ⟨fun _ _ => by obtain ⟨q, t, ho, hc⟩ := hw_N_17; rw [show N_43 (M c0 4) 2 = N_17 (M c0 4) 2 by omega, show N_43 (M c0 4) 3 = N_17 (M c0 4) 3 by omega]; exact ⟨q, t, ho, Or.inr ⟨by omega, by omega, (by rw [Fr.e hG_N_43 hk_c0 _ rfl, Fr.e hG_N_17 hk_c0 _ rfl]), (by rw [Fr.e hG_N_43 hk_Mc04 _ rfl, Fr.e hG_N_17 hk_Mc04 _ rfl])⟩⟩, fun h => absurd (And.intro (by omega) (by omega)) h⟩⟩ dX11_checker_38
    · refine kx_aload_n 16 F 0 dX11_checker_15 rfl rfl rfl ?_
      refine kx_iconst 17 F dX11_checker_16 rfl ?_
      refine kx_Vi 20 (ci := 0) F (As := [vI 1]) (st := []) vd_X11_110 (c_X11_refuse G l M c0 1 hI_M hk_c0 (by omega)) hk_c0 rfl rfl rfl ⟨by decide, by decide⟩ rfl rfl (Nat.le_of_ble_eq_true rfl) dX11_checker_17 rfl ?_
      intro r_56 N_57 q_58
      obtain ⟨hI_N_57, hG_N_57, q_58c⟩ := q_58
      have hF_N_57 : Fr f_e_checker2c M N_57 := Fr.c hF_M hG_N_57 rfl
      have hE_N_57 : Cf (fun x => M (M c0 4) 0 ≤ x ∧ x < M (M c0 4) 0 + 19) M N_57 := Cf.fr hE_M hG_N_57 rfl
      have hX_N_57 : XX N_57 := XX.fr hX_M hI_M hG_N_57 rfl
      subst q_58c
      have e_59 : (N_57 (M c0 4) 2) = (M (M c0 4) 2) := by rw [Fr.e hG_N_57 hk_Mc04 _ rfl]
      have h_60 := Inv.g hI_M hk_Mc04 rfl 2 (a := (-2147483648)) (b := 2147483647) rfl rfl
      have e_61 : (N_57 (M c0 4) 3) = (M (M c0 4) 3) := by rw [Fr.e hG_N_57 hk_Mc04 _ rfl]
      have h_62 := Inv.g hI_M hk_Mc04 rfl 3 (a := (-2147483648)) (b := 2147483647) rfl rfl
      have e_63 : (N_57 (M c0 4) 1) = (M (M c0 4) 1) := by rw [Fr.e hG_N_57 hk_Mc04 _ rfl]
      have e_64 : (N_57 (M c0 4) 2) = (M (M c0 4) 2) := by rw [Fr.e hG_N_57 hk_Mc04 _ rfl]
      have e_65 : (N_57 (M c0 4) 3) = (M (M c0 4) 3) := by rw [Fr.e hG_N_57 hk_Mc04 _ rfl]
      have e_66 : (N_57 (M c0 4) 1) = (M (M c0 4) 1) := by rw [Fr.e hG_N_57 hk_Mc04 _ rfl]
      have e_67 : (N_57 (M c0 4) 1) = (M (M c0 4) 1) := by rw [Fr.e hG_N_57 hk_Mc04 _ rfl]
      exact kx_iret F hQ ⟨hI_N_57, hF_N_57, (Or.inr (Or.inl (by omega))), hX_N_57, hE_N_57, ⟨fun h1 h2 => by exfalso; omega, fun _ => ⟨(by rw [Fr.e hG_N_57 hk_c0 _ rfl]), (by rw [Fr.e hG_N_57 hk_Mc04 _ rfl])⟩⟩⟩ dX11_checker_20
