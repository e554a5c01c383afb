abbrev f_e_X10_become : List (Nat × Int) := [(8, 0), (8, 1), (8, 2), (8, 3), (8, 4), (9, -1), (10, -1), (11, -1)]
set_option maxHeartbeats 4000000 in
set_option maxRecDepth 100000 in
theorem e_X10_become (G : KG) (l : Launch) (M : Mem) (c0 : Int) (c1 : Int) (hI_M : Inv false M) (hk_c0 : kd c0 = 8) (hk_c1 : kd c1 = 8) : KC false G l yX10_become cX10_become 2 none (1, 18) [vR G c0, vR G c1] M (fun A => kQv false G A (fun (N : Mem) => Inv false N ∧ Fr f_e_X10_become M N ∧ Cf (SWk M c0) M N)) := by
  refine kx_met (lo := [some (vR G c0), some (vR G c1)]) (by decide) (Nat.le_of_ble_eq_true rfl) rfl ?_
  intro X F hQ
  have hF_M : Fr f_e_X10_become M M := Fr.rf _ _
  have hE_M : Cf (SWk M c0) M M := Cf.rf _ _
  have hk_1 : kd (M c0 5) = 9 := Inv.r hI_M hk_c0 rfl 5 rfl rfl
  have hk_2 : kd (M c0 6) = 10 := Inv.r hI_M hk_c0 rfl 6 rfl rfl
  have hk_3 : kd (M c0 7) = 11 := Inv.r hI_M hk_c0 rfl 7 rfl rfl
  have hk_4 : kd (M c1 5) = 9 := Inv.r hI_M hk_c1 rfl 5 rfl rfl
  have hk_5 : kd (M c1 6) = 10 := Inv.r hI_M hk_c1 rfl 6 rfl rfl
  have hk_6 : kd (M c1 7) = 11 := Inv.r hI_M hk_c1 rfl 7 rfl rfl
  refine kx_aload_n 1 F 0 dX10_become_0 rfl rfl rfl ?_
  refine kx_aload_n 2 F 1 dX10_become_1 rfl rfl rfl ?_
  refine kx_geti 5 F fl_X10_9 hk_c1 rfl rfl (j := 0) rfl dX10_become_2 (v := (M c1 0)) rfl rfl ?_
  have h_7 := Inv.g hI_M hk_c1 rfl 0 (a := (-1)) (b := 1) rfl rfl
  refine kx_puti 8 F fw_X10_9 rfl hk_c0 rfl rfl (j := 0) rfl dX10_become_5 rfl ?_
  intro N_8 hM_N_8
  have hI_N_8 : Inv false N_8 := Inv.u hI_M hM_N_8 hk_c0 (a := (-1)) (b := 1) rfl rfl rfl (by omega)
  have hF_N_8 : Fr f_e_X10_become M N_8 := Fr.u hF_M hM_N_8 hk_c0 rfl
  have hE_N_8 : Cf (SWk M c0) M N_8 := Cf.st hE_M hM_N_8 (Or.inl rfl)
  refine kx_aload_n 9 F 0 dX10_become_8 rfl rfl rfl ?_
  refine kx_aload_n 10 F 1 dX10_become_9 rfl rfl rfl ?_
  refine kx_geti 13 F fl_X10_25 hk_c1 rfl rfl (j := 1) rfl dX10_become_10 (v := (M c1 1)) (by rw [hM_N_8, mu_i (by omega)]) rfl ?_
  have h_9 := Inv.g hI_M hk_c1 rfl 1 (a := (-2147483648)) (b := 2147483647) rfl rfl
  refine kx_puti 16 F fw_X10_25 rfl hk_c0 rfl rfl (j := 1) rfl dX10_become_13 rfl ?_
  intro N_10 hM_N_10
  have hI_N_10 : Inv false N_10 := Inv.u hI_N_8 hM_N_10 hk_c0 (a := (-2147483648)) (b := 2147483647) rfl rfl rfl (by omega)
  have hF_N_10 : Fr f_e_X10_become M N_10 := Fr.u hF_N_8 hM_N_10 hk_c0 rfl
  have hE_N_10 : Cf (SWk M c0) M N_10 := Cf.st hE_N_8 hM_N_10 (Or.inl rfl)
  refine kx_aload_n 17 F 0 dX10_become_16 rfl rfl rfl ?_
  refine kx_aload_n 18 F 1 dX10_become_17 rfl rfl rfl ?_
  refine kx_geti 21 F fl_X10_28 hk_c1 rfl rfl (j := 2) rfl dX10_become_18 (v := (M c1 2)) (by rw [hM_N_10, mu_i (by omega), hM_N_8, mu_i (by omega)]) rfl ?_
  have h_11 := Inv.g hI_M hk_c1 rfl 2 (a := 0) (b := 30) rfl rfl
  refine kx_puti 24 F fw_X10_28 rfl hk_c0 rfl rfl (j := 2) rfl dX10_become_21 rfl ?_
  intro N_12 hM_N_12
  have hI_N_12 : Inv false N_12 := Inv.u hI_N_10 hM_N_12 hk_c0 (a := 0) (b := 30) rfl rfl rfl (by omega)
  have hF_N_12 : Fr f_e_X10_become M N_12 := Fr.u hF_N_10 hM_N_12 hk_c0 rfl
  have hE_N_12 : Cf (SWk M c0) M N_12 := Cf.st hE_N_10 hM_N_12 (Or.inl rfl)
  refine kx_aload_n 25 F 0 dX10_become_24 rfl rfl rfl ?_
  refine kx_aload_n 26 F 1 dX10_become_25 rfl rfl rfl ?_
  refine kx_geti 29 F fl_X10_36 hk_c1 rfl rfl (j := 3) rfl dX10_become_26 (v := (M c1 3)) (by rw [hM_N_12, mu_i (by omega), hM_N_10, mu_i (by omega), hM_N_8, mu_i (by omega)]) rfl ?_
  have h_13 := Inv.g hI_M hk_c1 rfl 3 (a := 0) (b := 7) rfl rfl
  refine kx_puti 32 F fw_X10_36 rfl hk_c0 rfl rfl (j := 3) rfl dX10_become_29 rfl ?_
  intro N_14 hM_N_14
  have hI_N_14 : Inv false N_14 := Inv.u hI_N_12 hM_N_14 hk_c0 (a := 0) (b := 7) rfl rfl rfl (by omega)
  have hF_N_14 : Fr f_e_X10_become M N_14 := Fr.u hF_N_12 hM_N_14 hk_c0 rfl
  have hE_N_14 : Cf (SWk M c0) M N_14 := Cf.st hE_N_12 hM_N_14 (Or.inl rfl)
  refine kx_aload_n 33 F 0 dX10_become_32 rfl rfl rfl ?_
  refine kx_aload_n 34 F 1 dX10_become_33 rfl rfl rfl ?_
  refine kx_geti 37 F fl_X10_46 hk_c1 rfl rfl (j := 4) rfl dX10_become_34 (v := (M c1 4)) (by rw [hM_N_14, mu_i (by omega), hM_N_12, mu_i (by omega), hM_N_10, mu_i (by omega), hM_N_8, mu_i (by omega)]) rfl ?_
  have h_15 := Inv.g hI_M hk_c1 rfl 4 (a := 0) (b := 511) rfl rfl
  refine kx_puti 40 F fw_X10_46 rfl hk_c0 rfl rfl (j := 4) rfl dX10_become_37 rfl ?_
  intro N_16 hM_N_16
  have hI_N_16 : Inv false N_16 := Inv.u hI_N_14 hM_N_16 hk_c0 (a := 0) (b := 511) rfl rfl rfl (by omega)
  have hF_N_16 : Fr f_e_X10_become M N_16 := Fr.u hF_N_14 hM_N_16 hk_c0 rfl
  have hE_N_16 : Cf (SWk M c0) M N_16 := Cf.st hE_N_14 hM_N_16 (Or.inl rfl)
  refine kx_aload_n 41 F 1 dX10_become_40 rfl rfl rfl ?_
  refine kx_getr 44 F fl_X10_15 hk_c1 rfl rfl (j := 5) rfl dX10_become_41 (v := (M c1 5)) (by rw [hM_N_16, mu_i (by omega), hM_N_14, mu_i (by omega), hM_N_12, mu_i (by omega), hM_N_10, mu_i (by omega), hM_N_8, mu_i (by omega)]) rfl ?_
  refine kx_iconst 45 F dX10_become_44 rfl ?_
  refine kx_aload_n 46 F 0 dX10_become_45 rfl rfl rfl ?_
  refine kx_getr 49 F fl_X10_15 hk_c0 rfl rfl (j := 5) rfl dX10_become_46 (v := (M c0 5)) (by rw [hM_N_16, mu_i (by omega), hM_N_14, mu_i (by omega), hM_N_12, mu_i (by omega), hM_N_10, mu_i (by omega), hM_N_8, mu_i (by omega)]) rfl ?_
  refine kx_iconst 50 F dX10_become_49 rfl ?_
  refine kx_bipush 52 F dX10_become_50 (by decide) rfl ?_
  refine kx_copyi 55 F hk_4 rfl rfl hk_1 rfl rfl dX10_become_52 (tt lm_1586 rfl) (tt lm_782 rfl) (tt lm_781 rfl) (tt lm_186 rfl) (by omega) (by decide) (by decide) (Nat.le_of_ble_eq_true rfl) rfl ?_
  intro N_17 hM_N_17
  have hI_N_17 : Inv false N_17 := Inv.cp hI_N_16 hM_N_17 hk_4 hk_1 rfl (x := 0) (y := 7) (fun _ => rfl) (fun _ => rfl) (fun _ => rfl) (fun _ => rfl) (fun _ => rfl)
  have hF_N_17 : Fr f_e_X10_become M N_17 := Fr.cp hF_N_16 hM_N_17 hk_1 (fun _ => rfl)
  have hE_N_17 : Cf (SWk M c0) M N_17 := Cf.cp hE_N_16 hM_N_17 (Or.inr (Or.inl rfl))
  refine kx_aload_n 56 F 1 dX10_become_55 rfl rfl rfl ?_
  refine kx_getr 59 F fl_X10_19 hk_c1 rfl rfl (j := 6) rfl dX10_become_56 (v := (M c1 6)) (by rw [hM_N_17, mcp_k hk_c1 hk_1 rfl, hM_N_16, mu_i (by omega), hM_N_14, mu_i (by omega), hM_N_12, mu_i (by omega), hM_N_10, mu_i (by omega), hM_N_8, mu_i (by omega)]) rfl ?_
  refine kx_iconst 60 F dX10_become_59 rfl ?_
  refine kx_aload_n 61 F 0 dX10_become_60 rfl rfl rfl ?_
  refine kx_getr 64 F fl_X10_19 hk_c0 rfl rfl (j := 6) rfl dX10_become_61 (v := (M c0 6)) (by rw [hM_N_17, mcp_k hk_c0 hk_1 rfl, hM_N_16, mu_i (by omega), hM_N_14, mu_i (by omega), hM_N_12, mu_i (by omega), hM_N_10, mu_i (by omega), hM_N_8, mu_i (by omega)]) rfl ?_
  refine kx_iconst 65 F dX10_become_64 rfl ?_
  refine kx_bipush 67 F dX10_become_65 (by decide) rfl ?_
  refine kx_copyi 70 F hk_5 rfl rfl hk_2 rfl rfl dX10_become_67 (tt lm_1586 rfl) (tt lm_782 rfl) (tt lm_781 rfl) (tt lm_186 rfl) (by omega) (by decide) (by decide) (Nat.le_of_ble_eq_true rfl) rfl ?_
  intro N_18 hM_N_18
  have hI_N_18 : Inv false N_18 := Inv.cp hI_N_17 hM_N_18 hk_5 hk_2 rfl (x := 0) (y := 511) (fun _ => rfl) (fun _ => rfl) (fun _ => rfl) (fun _ => rfl) (fun _ => rfl)
  have hF_N_18 : Fr f_e_X10_become M N_18 := Fr.cp hF_N_17 hM_N_18 hk_2 (fun _ => rfl)
  have hE_N_18 : Cf (SWk M c0) M N_18 := Cf.cp hE_N_17 hM_N_18 (Or.inr (Or.inr (Or.inl rfl)))
  refine kx_aload_n 71 F 1 dX10_become_70 rfl rfl rfl ?_
  refine kx_getr 74 F fl_X10_22 hk_c1 rfl rfl (j := 7) rfl dX10_become_71 (v := (M c1 7)) (by rw [hM_N_18, mcp_k hk_c1 hk_2 rfl, hM_N_17, mcp_k hk_c1 hk_1 rfl, hM_N_16, mu_i (by omega), hM_N_14, mu_i (by omega), hM_N_12, mu_i (by omega), hM_N_10, mu_i (by omega), hM_N_8, mu_i (by omega)]) rfl ?_
  refine kx_iconst 75 F dX10_become_74 rfl ?_
  refine kx_aload_n 76 F 0 dX10_become_75 rfl rfl rfl ?_
  refine kx_getr 79 F fl_X10_22 hk_c0 rfl rfl (j := 7) rfl dX10_become_76 (v := (M c0 7)) (by rw [hM_N_18, mcp_k hk_c0 hk_2 rfl, hM_N_17, mcp_k hk_c0 hk_1 rfl, hM_N_16, mu_i (by omega), hM_N_14, mu_i (by omega), hM_N_12, mu_i (by omega), hM_N_10, mu_i (by omega), hM_N_8, mu_i (by omega)]) rfl ?_
  refine kx_iconst 80 F dX10_become_79 rfl ?_
  refine kx_bipush 82 F dX10_become_80 (by decide) rfl ?_
  refine kx_copyi 85 F hk_6 rfl rfl hk_3 rfl rfl dX10_become_82 (tt lm_1586 rfl) (tt lm_782 rfl) (tt lm_781 rfl) (tt lm_186 rfl) (by omega) (by decide) (by decide) (Nat.le_of_ble_eq_true rfl) rfl ?_
  intro N_19 hM_N_19
  have hI_N_19 : Inv false N_19 := Inv.cp hI_N_18 hM_N_19 hk_6 hk_3 rfl (x := 0) (y := 5) (fun _ => rfl) (fun _ => rfl) (fun _ => rfl) (fun _ => rfl) (fun _ => rfl)
  have hF_N_19 : Fr f_e_X10_become M N_19 := Fr.cp hF_N_18 hM_N_19 hk_3 (fun _ => rfl)
  have hE_N_19 : Cf (SWk M c0) M N_19 := Cf.cp hE_N_18 hM_N_19 (Or.inr (Or.inr (Or.inr rfl)))
  exact kx_vret F hQ ⟨hI_N_19, hF_N_19, hE_N_19⟩ dX10_become_85
abbrev f_e_X5_become : List (Nat × Int) := [(1, 0), (1, 1), (1, 2), (1, 3), (1, 4), (1, 5), (2, -1), (3, -1), (4, -1), (5, -1), (6, -1), (7, -1), (8, 0), (8, 1), (8, 2), (8, 3), (8, 4), (9, -1), (10, -1), (11, -1), (12, 0), (12, 1), (12, 2), (12, 3)]
set_option maxHeartbeats 4000000 in
set_option maxRecDepth 100000 in
theorem e_X5_become (G : KG) (l : Launch) (M : Mem) (c0 : Int) (c1 : Int) (hI_M : Inv false M) (hk_c0 : kd c0 = 12) (hk_c1 : kd c1 = 12) (hX_M : XX M) (q : Int → Int) (hS : zSN M c1 q) (hU : zSU M c1 q) (hZ : FZ M) (hV : zQV q) (hn : ¬ c0 = c1) : KC false G l yX5_become cX5_become 2 none (2, 39) [vR G c0, vR G c1] M (fun A => kQv false G A (fun (N : Mem) => Inv false N ∧ Fr f_e_X5_become M N ∧ XX N ∧ Cf (fun x => c0 ≤ x ∧ x < c0 + 19) M N ∧ (zSN N c0 q ∧ zSU N c0 q))) := by
  refine kx_met (lo := [some (vR G c0), some (vR G c1)]) (by decide) (Nat.le_of_ble_eq_true rfl) rfl ?_
  intro X F hQ
  have hF_M : Fr f_e_X5_become M M := Fr.rf _ _
  have hE_M : Cf (fun x => c0 ≤ x ∧ x < c0 + 19) M M := Cf.rf _ _
  have h_1 := hX_M.1 c1 hk_c1
  have h_2 := Inv.g hI_M hk_c1 rfl 0 (a := 0) (b := 2) rfl rfl
  have h_3 := Inv.g hI_M hk_c1 rfl 1 (a := 0) (b := 4) rfl rfl
  have h_4 := Inv.g hI_M hk_c1 rfl 2 (a := 0) (b := 6) rfl rfl
  have hk_5 : kd (M c0 4) = 1 := Inv.r hI_M hk_c0 rfl 4 rfl rfl
  have hk_6 : kd (M c0 5) = 1 := Inv.r hI_M hk_c0 rfl 5 rfl rfl
  have hk_7 : kd (M c0 6) = 8 := Inv.r hI_M hk_c0 rfl 6 rfl rfl
  have hk_8 : kd (M c1 4) = 1 := Inv.r hI_M hk_c1 rfl 4 rfl rfl
  have hk_9 : kd (M c1 5) = 1 := Inv.r hI_M hk_c1 rfl 5 rfl rfl
  have hk_10 : kd (M c1 6) = 8 := Inv.r hI_M hk_c1 rfl 6 rfl rfl
  have hap := set_ap hk_c0 hk_c1 hn
  have hz0 := hZ.2.1 c0 hk_c0
  have hz1 := hZ.2.1 c1 hk_c1
  have hSn := hS.u
  have hVu := hV.u
  refine kx_aload_n 1 F 0 dX5_become_0 rfl rfl rfl ?_
  refine kx_aload_n 2 F 1 dX5_become_1 rfl rfl rfl ?_
  refine kx_geti 5 F fl_X5_28 hk_c1 rfl rfl (j := 0) rfl dX5_become_2 (v := (M c1 0)) rfl rfl ?_
  refine kx_puti 8 F fw_X5_28 rfl hk_c0 rfl rfl (j := 0) rfl dX5_become_5 rfl ?_
  intro N_11 hM_N_11
  have hI_N_11 : Inv false N_11 := Inv.u hI_M hM_N_11 hk_c0 (a := 0) (b := 2) rfl rfl rfl (by omega)
  have hF_N_11 : Fr f_e_X5_become M N_11 := Fr.u hF_M hM_N_11 hk_c0 rfl
  have hE_N_11 : Cf (fun x => c0 ≤ x ∧ x < c0 + 19) M N_11 := Cf.st hE_M hM_N_11 ⟨by omega, by omega⟩
  refine kx_aload_n 9 F 0 dX5_become_8 rfl rfl rfl ?_
  refine kx_aload_n 10 F 1 dX5_become_9 rfl rfl rfl ?_
  refine kx_geti 13 F fl_X5_32 hk_c1 rfl rfl (j := 1) rfl dX5_become_10 (v := (M c1 1)) (by rw [hM_N_11, mu_i (by omega)]) rfl ?_
  refine kx_puti 16 F fw_X5_32 rfl hk_c0 rfl rfl (j := 1) rfl dX5_become_13 rfl ?_
  intro N_12 hM_N_12
  have hI_N_12 : Inv false N_12 := Inv.u hI_N_11 hM_N_12 hk_c0 (a := 0) (b := 4) rfl rfl rfl (by omega)
  have hF_N_12 : Fr f_e_X5_become M N_12 := Fr.u hF_N_11 hM_N_12 hk_c0 rfl
  have hE_N_12 : Cf (fun x => c0 ≤ x ∧ x < c0 + 19) M N_12 := Cf.st hE_N_11 hM_N_12 ⟨by omega, by omega⟩
  refine kx_aload_n 17 F 0 dX5_become_16 rfl rfl rfl ?_
  refine kx_aload_n 18 F 1 dX5_become_17 rfl rfl rfl ?_
  refine kx_geti 21 F fl_X5_35 hk_c1 rfl rfl (j := 2) rfl dX5_become_18 (v := (M c1 2)) (by rw [hM_N_12, mu_i (by omega), hM_N_11, mu_i (by omega)]) rfl ?_
  refine kx_puti 24 F fw_X5_35 rfl hk_c0 rfl rfl (j := 2) rfl dX5_become_21 rfl ?_
  intro N_13 hM_N_13
  have hI_N_13 : Inv false N_13 := Inv.u hI_N_12 hM_N_13 hk_c0 (a := 0) (b := 6) rfl rfl rfl (by omega)
  have hF_N_13 : Fr f_e_X5_become M N_13 := Fr.u hF_N_12 hM_N_13 hk_c0 rfl
  have hE_N_13 : Cf (fun x => c0 ≤ x ∧ x < c0 + 19) M N_13 := Cf.st hE_N_12 hM_N_13 ⟨by omega, by omega⟩
  refine kx_aload_n 25 F 0 dX5_become_24 rfl rfl rfl ?_
  refine kx_aload_n 26 F 1 dX5_become_25 rfl rfl rfl ?_
  refine kx_geti 29 F fl_X5_38 hk_c1 rfl rfl (j := 3) rfl dX5_become_26 (v := (M c1 3)) (by rw [hM_N_13, mu_i (by omega), hM_N_12, mu_i (by omega), hM_N_11, mu_i (by omega)]) rfl ?_
  have h_14 := Inv.g hI_M hk_c1 rfl 3 (a := 0) (b := 2) rfl rfl
  refine kx_puti 32 F fw_X5_38 rfl hk_c0 rfl rfl (j := 3) rfl dX5_become_29 rfl ?_
  intro N_15 hM_N_15
  have hI_N_15 : Inv false N_15 := Inv.u hI_N_13 hM_N_15 hk_c0 (a := 0) (b := 2) rfl rfl rfl (by omega)
  have hF_N_15 : Fr f_e_X5_become M N_15 := Fr.u hF_N_13 hM_N_15 hk_c0 rfl
  have hE_N_15 : Cf (fun x => c0 ≤ x ∧ x < c0 + 19) M N_15 := Cf.st hE_N_13 hM_N_15 ⟨by omega, by omega⟩
  refine kx_aload_n 33 F 0 dX5_become_32 rfl rfl rfl ?_
  refine kx_getr 36 F fl_X5_12 hk_c0 rfl rfl (j := 4) rfl dX5_become_33 (v := (M c0 4)) (by rw [hM_N_15, mu_i (by omega), hM_N_13, mu_i (by omega), hM_N_12, mu_i (by omega), hM_N_11, mu_i (by omega)]) rfl ?_
  refine kx_aload_n 37 F 1 dX5_become_36 rfl rfl rfl ?_
  refine kx_getr 40 F fl_X5_12 hk_c1 rfl rfl (j := 4) rfl dX5_become_37 (v := (M c1 4)) (by rw [hM_N_15, mu_i (by omega), hM_N_13, mu_i (by omega), hM_N_12, mu_i (by omega), hM_N_11, mu_i (by omega)]) rfl ?_
  refine kx_Vv 43 (ci := 0) F (As := [vR G (M c1 4)]) (st := []) vd_X5_44 (e_X0_become G l N_15 (M c0 4) (M c1 4) hI_N_15 hk_5 hk_8) hk_5 rfl rfl rfl ⟨by decide, by decide⟩ rfl rfl (Nat.le_of_ble_eq_true rfl) dX5_become_40 rfl ?_
  intro N_16 q_17
  obtain ⟨hI_N_16, hG_N_16, q_17c, hC_N_16, hbe_N_16⟩ := q_17
  have hF_N_16 : Fr f_e_X5_become M N_16 := Fr.c hF_N_15 hG_N_16 rfl
  have hE_N_16 : Cf (fun x => c0 ≤ x ∧ x < c0 + 19) M N_16 := Cf.c hE_N_15 hC_N_16 (fun y hy => by have a := SA.in hy (FZ.fr hZ hF_N_15 rfl) hk_5; exact ⟨by omega, by omega⟩)
  have e_18 : (N_15 (M c1 4) 0) = (M (M c1 4) 0) := by rw [hM_N_15, mu_k hk_8 hk_c0 rfl, hM_N_13, mu_k hk_8 hk_c0 rfl, hM_N_12, mu_k hk_8 hk_c0 rfl, hM_N_11, mu_k hk_8 hk_c0 rfl]
  have h_19 := Inv.g hI_M hk_8 rfl 0 (a := 0) (b := 3) rfl rfl
  have h_20 := Inv.g hI_N_16 hk_5 rfl 0 (a := 0) (b := 3) rfl rfl
  have e_21 : (N_15 (M c1 4) 1) = (M (M c1 4) 1) := by rw [hM_N_15, mu_k hk_8 hk_c0 rfl, hM_N_13, mu_k hk_8 hk_c0 rfl, hM_N_12, mu_k hk_8 hk_c0 rfl, hM_N_11, mu_k hk_8 hk_c0 rfl]
  have h_22 := Inv.g hI_M hk_8 rfl 1 (a := 0) (b := 3) rfl rfl
  have h_23 := Inv.g hI_N_16 hk_5 rfl 1 (a := 0) (b := 3) rfl rfl
  have e_24 : (N_15 (M c1 4) 2) = (M (M c1 4) 2) := by rw [hM_N_15, mu_k hk_8 hk_c0 rfl, hM_N_13, mu_k hk_8 hk_c0 rfl, hM_N_12, mu_k hk_8 hk_c0 rfl, hM_N_11, mu_k hk_8 hk_c0 rfl]
  have h_25 := Inv.g hI_M hk_8 rfl 2 (a := 0) (b := 7) rfl rfl
  have h_26 := Inv.g hI_N_16 hk_5 rfl 2 (a := 0) (b := 7) rfl rfl
  have e_27 : (N_15 (M c1 4) 3) = (M (M c1 4) 3) := by rw [hM_N_15, mu_k hk_8 hk_c0 rfl, hM_N_13, mu_k hk_8 hk_c0 rfl, hM_N_12, mu_k hk_8 hk_c0 rfl, hM_N_11, mu_k hk_8 hk_c0 rfl]
  have h_28 := Inv.g hI_M hk_8 rfl 3 (a := 0) (b := 7) rfl rfl
  have h_29 := Inv.g hI_N_16 hk_5 rfl 3 (a := 0) (b := 7) rfl rfl
  have e_30 : (N_15 (M c1 4) 4) = (M (M c1 4) 4) := by rw [hM_N_15, mu_k hk_8 hk_c0 rfl, hM_N_13, mu_k hk_8 hk_c0 rfl, hM_N_12, mu_k hk_8 hk_c0 rfl, hM_N_11, mu_k hk_8 hk_c0 rfl]
  have h_31 := Inv.g hI_M hk_8 rfl 4 (a := 0) (b := 20) rfl rfl
  have h_32 := Inv.g hI_N_16 hk_5 rfl 4 (a := 0) (b := 20) rfl rfl
  have e_33 : (N_15 (M c1 4) 5) = (M (M c1 4) 5) := by rw [hM_N_15, mu_k hk_8 hk_c0 rfl, hM_N_13, mu_k hk_8 hk_c0 rfl, hM_N_12, mu_k hk_8 hk_c0 rfl, hM_N_11, mu_k hk_8 hk_c0 rfl]
  have h_34 := Inv.g hI_M hk_8 rfl 5 (a := 0) (b := 2) rfl rfl
  have h_35 := Inv.g hI_N_16 hk_5 rfl 5 (a := 0) (b := 2) rfl rfl
  refine kx_aload_n 44 F 0 dX5_become_43 rfl rfl rfl ?_
  refine kx_getr 47 F fl_X5_18 hk_c0 rfl rfl (j := 5) rfl dX5_become_44 (v := (M c0 5)) (by rw [Fr.e hG_N_16 hk_c0 _ rfl, hM_N_15, mu_i (by omega), hM_N_13, mu_i (by omega), hM_N_12, mu_i (by omega), hM_N_11, mu_i (by omega)]) rfl ?_
  refine kx_aload_n 48 F 1 dX5_become_47 rfl rfl rfl ?_
  refine kx_getr 51 F fl_X5_18 hk_c1 rfl rfl (j := 5) rfl dX5_become_48 (v := (M c1 5)) (by rw [Fr.e hG_N_16 hk_c1 _ rfl, hM_N_15, mu_i (by omega), hM_N_13, mu_i (by omega), hM_N_12, mu_i (by omega), hM_N_11, mu_i (by omega)]) rfl ?_
  refine kx_Vv 54 (ci := 0) F (As := [vR G (M c1 5)]) (st := []) vd_X5_44 (e_X0_become G l N_16 (M c0 5) (M c1 5) hI_N_16 hk_6 hk_9) hk_6 rfl rfl rfl ⟨by decide, by decide⟩ rfl rfl (Nat.le_of_ble_eq_true rfl) dX5_become_51 rfl ?_
  intro N_36 q_37
  obtain ⟨hI_N_36, hG_N_36, q_37c, hC_N_36, hbe_N_36⟩ := q_37
  have hF_N_36 : Fr f_e_X5_become M N_36 := Fr.c hF_N_16 hG_N_36 rfl
  have hE_N_36 : Cf (fun x => c0 ≤ x ∧ x < c0 + 19) M N_36 := Cf.c hE_N_16 hC_N_36 (fun y hy => by have a := SA.in hy (FZ.fr hZ hF_N_16 rfl) hk_6; exact ⟨by omega, by omega⟩)
  have h_38 := Inv.g hI_N_16 hk_9 rfl 0 (a := 0) (b := 3) rfl rfl
  have h_39 := Inv.g hI_N_36 hk_6 rfl 0 (a := 0) (b := 3) rfl rfl
  have h_40 := Inv.g hI_N_16 hk_9 rfl 1 (a := 0) (b := 3) rfl rfl
  have h_41 := Inv.g hI_N_36 hk_6 rfl 1 (a := 0) (b := 3) rfl rfl
  have h_42 := Inv.g hI_N_16 hk_9 rfl 2 (a := 0) (b := 7) rfl rfl
  have h_43 := Inv.g hI_N_36 hk_6 rfl 2 (a := 0) (b := 7) rfl rfl
  have h_44 := Inv.g hI_N_16 hk_9 rfl 3 (a := 0) (b := 7) rfl rfl
  have h_45 := Inv.g hI_N_36 hk_6 rfl 3 (a := 0) (b := 7) rfl rfl
  have h_46 := Inv.g hI_N_16 hk_9 rfl 4 (a := 0) (b := 20) rfl rfl
  have h_47 := Inv.g hI_N_36 hk_6 rfl 4 (a := 0) (b := 20) rfl rfl
  have h_48 := Inv.g hI_N_16 hk_9 rfl 5 (a := 0) (b := 2) rfl rfl
  have h_49 := Inv.g hI_N_36 hk_6 rfl 5 (a := 0) (b := 2) rfl rfl
  refine kx_aload_n 55 F 0 dX5_become_54 rfl rfl rfl ?_
  refine kx_getr 58 F fl_X5_24 hk_c0 rfl rfl (j := 6) rfl dX5_become_55 (v := (M c0 6)) (by rw [Fr.e hG_N_36 hk_c0 _ rfl, Fr.e hG_N_16 hk_c0 _ rfl, hM_N_15, mu_i (by omega), hM_N_13, mu_i (by omega), hM_N_12, mu_i (by omega), hM_N_11, mu_i (by omega)]) rfl ?_
  refine kx_aload_n 59 F 1 dX5_become_58 rfl rfl rfl ?_
  refine kx_getr 62 F fl_X5_24 hk_c1 rfl rfl (j := 6) rfl dX5_become_59 (v := (M c1 6)) (by rw [Fr.e hG_N_36 hk_c1 _ rfl, Fr.e hG_N_16 hk_c1 _ rfl, hM_N_15, mu_i (by omega), hM_N_13, mu_i (by omega), hM_N_12, mu_i (by omega), hM_N_11, mu_i (by omega)]) rfl ?_
  refine kx_Vv 65 (ci := 0) F (As := [vR G (M c1 6)]) (st := []) vd_X5_48 (e_X10_become G l N_36 (M c0 6) (M c1 6) hI_N_36 hk_7 hk_10) hk_7 rfl rfl rfl ⟨by decide, by decide⟩ rfl rfl (Nat.le_of_ble_eq_true rfl) dX5_become_62 rfl ?_
  intro N_50 q_51
  obtain ⟨hI_N_50, hG_N_50, hC_N_50⟩ := q_51
  have hF_N_50 : Fr f_e_X5_become M N_50 := Fr.c hF_N_36 hG_N_50 rfl
  have hE_N_50 : Cf (fun x => c0 ≤ x ∧ x < c0 + 19) M N_50 := Cf.c hE_N_36 hC_N_50 (fun y hy => by have a := SWk.in hy (FZ.fr hZ hF_N_36 rfl) hk_7; exact ⟨by omega, by omega⟩)
  have e_52 : (N_50 c0 0) = (M c1 0) := by rw [Fr.e hG_N_50 hk_c0 _ rfl, Fr.e hG_N_36 hk_c0 _ rfl, Fr.e hG_N_16 hk_c0 _ rfl, hM_N_15, mu_i (by omega), hM_N_13, mu_i (by omega), hM_N_12, mu_i (by omega), hM_N_11, mu_s]
  have e_53 : (N_50 c0 1) = (M c1 1) := by rw [Fr.e hG_N_50 hk_c0 _ rfl, Fr.e hG_N_36 hk_c0 _ rfl, Fr.e hG_N_16 hk_c0 _ rfl, hM_N_15, mu_i (by omega), hM_N_13, mu_i (by omega), hM_N_12, mu_s]
  have e_54 : (N_50 c0 2) = (M c1 2) := by rw [Fr.e hG_N_50 hk_c0 _ rfl, Fr.e hG_N_36 hk_c0 _ rfl, Fr.e hG_N_16 hk_c0 _ rfl, hM_N_15, mu_i (by omega), hM_N_13, mu_s]
  have hs_N_50 : SX N_50 := SX.one hX_M.1 (c0 := c0) (fun c hkc hc => ⟨by rw [Fr.e hG_N_50 hkc _ rfl, Fr.e hG_N_36 hkc _ rfl, Fr.e hG_N_16 hkc _ rfl, hM_N_15, mu_c hc, hM_N_13, mu_c hc, hM_N_12, mu_c hc, hM_N_11, mu_c hc], by rw [Fr.e hG_N_50 hkc _ rfl, Fr.e hG_N_36 hkc _ rfl, Fr.e hG_N_16 hkc _ rfl, hM_N_15, mu_c hc, hM_N_13, mu_c hc, hM_N_12, mu_c hc, hM_N_11, mu_c hc], by rw [Fr.e hG_N_50 hkc _ rfl, Fr.e hG_N_36 hkc _ rfl, Fr.e hG_N_16 hkc _ rfl, hM_N_15, mu_c hc, hM_N_13, mu_c hc, hM_N_12, mu_c hc, hM_N_11, mu_c hc]⟩) (by omega)
  have hX_N_50 : XX N_50 := XX.set hX_M hI_M hF_N_50 rfl hs_N_50
  have e_55 : (N_50 c0 0) = (M c1 0) := by rw [Fr.e hG_N_50 hk_c0 _ rfl, Fr.e hG_N_36 hk_c0 _ rfl, Fr.e hG_N_16 hk_c0 _ rfl, hM_N_15, mu_i (by omega), hM_N_13, mu_i (by omega), hM_N_12, mu_i (by omega), hM_N_11, mu_s]
  have e_56 : (N_50 c0 1) = (M c1 1) := by rw [Fr.e hG_N_50 hk_c0 _ rfl, Fr.e hG_N_36 hk_c0 _ rfl, Fr.e hG_N_16 hk_c0 _ rfl, hM_N_15, mu_i (by omega), hM_N_13, mu_i (by omega), hM_N_12, mu_s]
  have e_57 : (N_50 c0 2) = (M c1 2) := by rw [Fr.e hG_N_50 hk_c0 _ rfl, Fr.e hG_N_36 hk_c0 _ rfl, Fr.e hG_N_16 hk_c0 _ rfl, hM_N_15, mu_i (by omega), hM_N_13, mu_s]
  have e_58 : (N_50 c0 3) = (M c1 3) := by rw [Fr.e hG_N_50 hk_c0 _ rfl, Fr.e hG_N_36 hk_c0 _ rfl, Fr.e hG_N_16 hk_c0 _ rfl, hM_N_15, mu_s]
  have hf1 : 0 < q 3 → AT N_50 (M c0 4) q 100 := fun a => AT.keep (AT.keep (AT.bec (b := 100) (AT.st2 (AT.st2 (AT.st2 (AT.st2 (hU.1 a) hI_M hk_8 hM_N_11 hk_c0 rfl) hI_N_11 hk_8 hM_N_12 hk_c0 rfl) hI_N_12 hk_8 hM_N_13 hk_c0 rfl) hI_N_13 hk_8 hM_N_15 hk_c0 rfl) (by omega) (by omega) (by omega) (by omega) (by omega) (by omega) (Fr.e hG_N_16 hk_5 _ rfl) (Fr.e hG_N_16 hk_5 _ rfl) (Fr.e hG_N_16 hk_5 _ rfl) (Fr.e hG_N_16 hk_5 _ rfl) (Fr.e hG_N_16 hk_5 _ rfl) (Fr.e hG_N_16 hk_5 _ rfl) hbe_N_16.1 hbe_N_16.2 rfl (fun i _ _ => rfl) (by exact hVu.2.2.2.1)) (FZ.fr hZ hF_N_16 rfl) hI_N_16 hk_5 hC_N_36 (fun y a1 a2 a3 => by have a := SA.in a3 (FZ.fr hZ hF_N_16 rfl) hk_6; omega)) (FZ.fr hZ hF_N_36 rfl) hI_N_36 hk_5 hC_N_50 (fun y a1 a2 a3 => by have a := SWk.in a3 (FZ.fr hZ hF_N_36 rfl) hk_7; omega)
  have hf2 : 1 < q 3 → AT N_50 (M c0 5) q 185 := fun a => AT.keep (AT.bec (b := 185) (AT.keep (AT.st2 (AT.st2 (AT.st2 (AT.st2 (hU.2 a) hI_M hk_9 hM_N_11 hk_c0 rfl) hI_N_11 hk_9 hM_N_12 hk_c0 rfl) hI_N_12 hk_9 hM_N_13 hk_c0 rfl) hI_N_13 hk_9 hM_N_15 hk_c0 rfl) (FZ.fr hZ hF_N_15 rfl) hI_N_15 hk_9 hC_N_16 (fun y a1 a2 a3 => by have a := SA.in a3 (FZ.fr hZ hF_N_15 rfl) hk_5; omega)) (by omega) (by omega) (by omega) (by omega) (by omega) (by omega) (Fr.e hG_N_36 hk_6 _ rfl) (Fr.e hG_N_36 hk_6 _ rfl) (Fr.e hG_N_36 hk_6 _ rfl) (Fr.e hG_N_36 hk_6 _ rfl) (Fr.e hG_N_36 hk_6 _ rfl) (Fr.e hG_N_36 hk_6 _ rfl) hbe_N_36.1 hbe_N_36.2 rfl (fun i _ _ => rfl) (by exact hVu.2.2.2.2.2)) (FZ.fr hZ hF_N_36 rfl) hI_N_36 hk_6 hC_N_50 (fun y a1 a2 a3 => by have a := SWk.in a3 (FZ.fr hZ hF_N_36 rfl) hk_7; omega)
  exact kx_vret F hQ ⟨hI_N_50, hF_N_50, hX_N_50, hE_N_50, ⟨⟨by omega, by omega, by omega, by omega, by omega, by omega, by omega, by omega, by omega, by omega, by omega, by omega⟩, by unfold zSU; rw [show N_50 c0 4 = M c0 4 from (by rw [Fr.e hG_N_50 hk_c0 _ rfl, Fr.e hG_N_36 hk_c0 _ rfl, Fr.e hG_N_16 hk_c0 _ rfl, hM_N_15, mu_i (by omega), hM_N_13, mu_i (by omega), hM_N_12, mu_i (by omega), hM_N_11, mu_i (by omega)]), show N_50 c0 5 = M c0 5 from (by rw [Fr.e hG_N_50 hk_c0 _ rfl, Fr.e hG_N_36 hk_c0 _ rfl, Fr.e hG_N_16 hk_c0 _ rfl, hM_N_15, mu_i (by omega), hM_N_13, mu_i (by omega), hM_N_12, mu_i (by omega), hM_N_11, mu_i (by omega)])]; exact ⟨hf1, hf2⟩⟩⟩ dX5_become_65
abbrev f_e_mark2 : List (Nat × Int) := [(1, 0), (1, 1), (1, 2), (1, 3), (1, 4), (1, 5), (2, -1), (3, -1), (4, -1), (5, -1), (6, -1), (7, -1), (8, 0), (8, 1), (8, 2), (8, 3), (8, 4), (9, -1), (10, -1), (11, -1), (12, 0), (12, 1), (12, 2), (12, 3), (62, 0), (62, 7)]
set_option maxHeartbeats 4000000 in
set_option maxRecDepth 100000 in
theorem e_mark2 (G : KG) (l : Launch) (M : Mem) (c0 : Int) (hI_M : Inv false M) (hk_c0 : kd c0 = 62) (hX_M : XX M) (q : Int → Int) (hS : zSN M (M c0 5) q) (hU : zSU M (M c0 5) q) (hZ : FZ M) (hV : zQV q) (hn : ∀ m, 0 ≤ m → m ≤ 2 → ¬ M (M c0 6) m = M c0 5) : KC false G l yX11_mark cX11_mark 1 (some .int) (3, 60) [vR G c0] M (fun A => kQi false G A (fun (r : Int) (N : Mem) => Inv false N ∧ Fr f_e_mark2 M N ∧ (((M c0 7) = 3 ∧ r = -1 ∧ (N c0 7) = 3) ∨ ((M c0 7) ≤ 2 ∧ (N c0 7) = (M c0 7) + 1 ∧ r = (M c0 7) + 1)) ∧ XX N ∧ Cf (fun x => (M (M c0 6) (M c0 7)) ≤ x ∧ x < (M (M c0 6) (M c0 7)) + 19) M N ∧ ((M c0 7 ≤ 2 → zSN N (M (M c0 6) (M c0 7)) q ∧ zSU N (M (M c0 6) (M c0 7)) q) ∧ (3 ≤ M c0 7 → Cf (fun _ => False) M N)))) := by
  refine kx_met (lo := [some (vR G c0)]) (by decide) (Nat.le_of_ble_eq_true rfl) rfl ?_
  intro X F hQ
  have hF_M : Fr f_e_mark2 M M := Fr.rf _ _
  have hE_M : Cf (fun x => (M (M c0 6) (M c0 7)) ≤ x ∧ x < (M (M c0 6) (M c0 7)) + 19) M M := Cf.rf _ _
  have hk_1 : kd (M c0 5) = 12 := Inv.r hI_M hk_c0 rfl 5 rfl rfl
  have hSn := hS.u
  have hk_2 : kd (M c0 6) = 63 := Inv.r hI_M hk_c0 rfl 6 rfl rfl
  refine kx_aload_n 1 F 0 dX11_mark_0 rfl rfl rfl ?_
  refine kx_geti 4 F fl_X11_385 hk_c0 rfl rfl (j := 7) rfl dX11_mark_1 (v := (M c0 7)) rfl rfl ?_
  have h_3 := Inv.g hI_M hk_c0 rfl 7 (a := 0) (b := 3) rfl rfl
  refine kx_iconst 5 F dX11_mark_4 rfl ?_
  refine kx_icmp_lt 8 F 14 dX11_mark_5 (by decide) rfl (by omega) (by decide) (fun h_4 => ?_) (fun h_4 => ?_)
  · refine kx_aload_n 15 F 0 dX11_mark_14 rfl rfl rfl ?_
    refine kx_getr 18 F fl_X11_30 hk_c0 rfl rfl (j := 6) rfl dX11_mark_15 (v := (M c0 6)) rfl rfl ?_
    refine kx_aload_n 19 F 0 dX11_mark_18 rfl rfl rfl ?_
    refine kx_geti 22 F fl_X11_385 hk_c0 rfl rfl (j := 7) rfl dX11_mark_19 (v := (M c0 7)) rfl rfl ?_
    refine kx_aald 23 F hk_2 rfl rfl (by omega) (by decide) dX11_mark_22 (v := (M (M c0 6) (M c0 7))) rfl rfl ?_
    have hk_5 : kd (M (M c0 6) (M c0 7)) = 12 := Inv.r hI_M hk_2 rfl (M c0 7) rfl rfl
    refine kx_aload_n 24 F 0 dX11_mark_23 rfl rfl rfl ?_
    refine kx_getr 27 F fl_X11_26 hk_c0 rfl rfl (j := 5) rfl dX11_mark_24 (v := (M c0 5)) rfl rfl ?_
    refine kx_Vv 30 (ci := 0) F (As := [vR G (M c0 5)]) (st := []) vd_X11_388 (e_X5_become G l M (M (M c0 6) (M c0 7)) (M c0 5) hI_M hk_5 hk_1 hX_M q hS hU hZ hV (hn _ (by omega) (by omega))) hk_5 rfl rfl rfl ⟨by decide, by decide⟩ rfl rfl (Nat.le_of_ble_eq_true rfl) dX11_mark_27 rfl ?_
    intro N_6 q_7
    obtain ⟨hI_N_6, hG_N_6, hX_N_6, hC_N_6, hb_N_6⟩ := q_7
    have hF_N_6 : Fr f_e_mark2 M N_6 := Fr.c hF_M hG_N_6 rfl
    have hE_N_6 : Cf (fun x => (M (M c0 6) (M c0 7)) ≤ x ∧ x < (M (M c0 6) (M c0 7)) + 19) M N_6 := Cf.c hE_M hC_N_6 (fun y hy => hy)
    refine kx_aload_n 31 F 0 dX11_mark_30 rfl rfl rfl ?_
    refine kx_dup 32 F dX11_mark_31 rfl rfl ?_
    refine kx_geti 35 F fl_X11_385 hk_c0 rfl rfl (j := 7) rfl dX11_mark_32 (v := (M c0 7)) (by rw [Fr.e hG_N_6 hk_c0 _ rfl]) rfl ?_
    refine kx_iconst 36 F dX11_mark_35 rfl ?_
    refine kx_iadd 37 F (v := (M c0 7) + 1) dX11_mark_36 rfl rfl ?_
    refine kx_puti 40 F fw_X11_385 rfl hk_c0 rfl rfl (j := 7) rfl dX11_mark_37 rfl ?_
    intro N_8 hM_N_8
    have hI_N_8 : Inv false N_8 := Inv.u hI_N_6 hM_N_8 hk_c0 (a := 0) (b := 3) rfl rfl rfl (by omega)
    have hF_N_8 : Fr f_e_mark2 M N_8 := Fr.u hF_N_6 hM_N_8 hk_c0 rfl
    have hX_N_8 : XX N_8 := XX.st hX_N_6 hI_N_6 hM_N_8 hk_c0 rfl
    have hE_N_8 : Cf (fun x => (M (M c0 6) (M c0 7)) ≤ x ∧ x < (M (M c0 6) (M c0 7)) + 19) M N_8 := Cf.sk hE_N_6 hM_N_8 hk_c0 rfl
    refine kx_aload_n 41 F 0 dX11_mark_40 rfl rfl rfl ?_
    refine kx_aload_n 42 F 0 dX11_mark_41 rfl rfl rfl ?_
    refine kx_geti 45 F fl_X11_385 hk_c0 rfl rfl (j := 7) rfl dX11_mark_42 (v := (M c0 7) + 1) (by rw [hM_N_8, mu_s]) rfl ?_
    refine kx_Vi 48 (ci := 0) F (As := [vI ((M c0 7) + 1)]) (st := []) vd_X11_145 (c_X11_answer G l N_8 c0 ((M c0 7) + 1) hI_N_8 hk_c0 (by omega)) hk_c0 rfl rfl rfl ⟨by decide, by decide⟩ rfl rfl (Nat.le_of_ble_eq_true rfl) dX11_mark_45 rfl ?_
    intro r_9 N_10 q_11
    obtain ⟨hI_N_10, hG_N_10, q_11c⟩ := q_11
    have hF_N_10 : Fr f_e_mark2 M N_10 := Fr.c hF_N_8 hG_N_10 rfl
    have hE_N_10 : Cf (fun x => (M (M c0 6) (M c0 7)) ≤ x ∧ x < (M (M c0 6) (M c0 7)) + 19) M N_10 := Cf.fr hE_N_8 hG_N_10 rfl
    have hX_N_10 : XX N_10 := XX.fr hX_N_8 hI_N_8 hG_N_10 rfl
    have e_12 : (N_10 c0 7) = (M c0 7) + 1 := by rw [Fr.e hG_N_10 hk_c0 _ rfl, hM_N_8, mu_s]
    have e_13 : (N_10 c0 7) = (M c0 7) + 1 := by rw [Fr.e hG_N_10 hk_c0 _ rfl, hM_N_8, mu_s]
    exact kx_iret F hQ ⟨hI_N_10, hF_N_10, (by omega), hX_N_10, hE_N_10, ⟨fun _ => ⟨(zSN.fr (zSN.fr hb_N_6.1 hk_5 (Fr.u (Fr.rf [(62, 7)] _) hM_N_8 hk_c0 rfl) rfl) hk_5 hG_N_10 rfl), (zSU.fr (zSU.fr hb_N_6.2 hI_N_6 hk_5 (Fr.u (Fr.rf [(62, 7)] _) hM_N_8 hk_c0 rfl) rfl) hI_N_8 hk_5 hG_N_10 rfl)⟩, fun h => by exfalso; omega⟩⟩ dX11_mark_48
  · refine kx_aload_n 9 F 0 dX11_mark_8 rfl rfl rfl ?_
    refine kx_iconst 10 F dX11_mark_9 rfl ?_
    refine kx_Vi 13 (ci := 0) F (As := [vI 4]) (st := []) vd_X11_110 (c_X11_refuse G l M c0 4 hI_M hk_c0 (by omega)) hk_c0 rfl rfl rfl ⟨by decide, by decide⟩ rfl rfl (Nat.le_of_ble_eq_true rfl) dX11_mark_10 rfl ?_
    intro r_14 N_15 q_16
    obtain ⟨hI_N_15, hG_N_15, q_16c⟩ := q_16
    have hF_N_15 : Fr f_e_mark2 M N_15 := Fr.c hF_M hG_N_15 rfl
    have hE_N_15 : Cf (fun x => (M (M c0 6) (M c0 7)) ≤ x ∧ x < (M (M c0 6) (M c0 7)) + 19) M N_15 := Cf.fr hE_M hG_N_15 rfl
    have hX_N_15 : XX N_15 := XX.fr hX_M hI_M hG_N_15 rfl
    subst q_16c
    have e_17 : (N_15 c0 7) = (M c0 7) := by rw [Fr.e hG_N_15 hk_c0 _ rfl]
    have e_18 : (N_15 c0 7) = (M c0 7) := by rw [Fr.e hG_N_15 hk_c0 _ rfl]
    exact kx_iret F hQ ⟨hI_N_15, hF_N_15, (by omega), hX_N_15, hE_N_15, ⟨fun h => by exfalso; omega, fun _ => Cf.fr (Cf.rf _ M) hG_N_15 rfl⟩⟩ dX11_mark_13
abbrev f_e_undo2 : List (Nat × Int) := [(21, 0), (41, 2), (62, 0), (62, 5), (62, 7), (63, -1)]
set_option maxHeartbeats 4000000 in
set_option maxRecDepth 100000 in
theorem e_undo2 (G : KG) (l : Launch) (M : Mem) (c0 : Int) (hI_M : Inv false M) (hk_c0 : kd c0 = 62) : KC false G l yX11_undo cX11_undo 2 (some .int) (2, 40) [vR G c0] M (fun A => kQi false G A (fun (r : Int) (N : Mem) => Inv false N ∧ Fr f_e_undo2 M N ∧ (((M c0 7) = 0 ∧ r = -1 ∧ (N c0 7) = 0) ∨ ((M c0 7) ≥ 1 ∧ (N c0 7) = (M c0 7) - 1 ∧ r = (M c0 7) - 1)) ∧ ((1 ≤ M c0 7 → N c0 5 = M (M c0 6) (M c0 7 - 1) ∧ ∀ i, N (M c0 6) i = if i = M c0 7 - 1 then M c0 5 else M (M c0 6) i) ∧ (M c0 7 ≤ 0 → N c0 5 = M c0 5 ∧ N (M c0 6) = M (M c0 6))))) := by
  refine kx_met (lo := [some (vR G c0), none]) (by decide) (Nat.le_of_ble_eq_true rfl) rfl ?_
  intro X F hQ
  have hF_M : Fr f_e_undo2 M M := Fr.rf _ _
  have hk_1 : kd (M c0 5) = 12 := Inv.r hI_M hk_c0 rfl 5 rfl rfl
  have hk_2 : kd (M c0 6) = 63 := Inv.r hI_M hk_c0 rfl 6 rfl rfl
  refine kx_aload_n 1 F 0 dX11_undo_0 rfl rfl rfl ?_
  refine kx_geti 4 F fl_X11_385 hk_c0 rfl rfl (j := 7) rfl dX11_undo_1 (v := (M c0 7)) rfl rfl ?_
  have h_3 := Inv.g hI_M hk_c0 rfl 7 (a := 0) (b := 3) rfl rfl
  refine kx_if_gt 7 F 14 dX11_undo_4 (by decide) rfl (by omega) (fun h_4 => ?_) (fun h_4 => ?_)
  · refine kx_aload_n 15 F 0 dX11_undo_14 rfl rfl rfl ?_
    refine kx_dup 16 F dX11_undo_15 rfl rfl ?_
    refine kx_geti 19 F fl_X11_385 hk_c0 rfl rfl (j := 7) rfl dX11_undo_16 (v := (M c0 7)) rfl rfl ?_
    refine kx_iconst 20 F dX11_undo_19 rfl ?_
    refine kx_isub 21 F (v := (M c0 7) - 1) dX11_undo_20 rfl rfl ?_
    refine kx_puti 24 F fw_X11_385 rfl hk_c0 rfl rfl (j := 7) rfl dX11_undo_21 rfl ?_
    intro N_5 hM_N_5
    have hI_N_5 : Inv false N_5 := Inv.u hI_M hM_N_5 hk_c0 (a := 0) (b := 3) rfl rfl rfl (by omega)
    have hF_N_5 : Fr f_e_undo2 M N_5 := Fr.u hF_M hM_N_5 hk_c0 rfl
    refine kx_aload_n 25 F 0 dX11_undo_24 rfl rfl rfl ?_
    refine kx_getr 28 F fl_X11_26 hk_c0 rfl rfl (j := 5) rfl dX11_undo_25 (v := (M c0 5)) (by rw [hM_N_5, mu_i (by omega)]) rfl ?_
    refine kx_astore_n 29 F 1 (lo' := [some (vR G c0), some (vR G (M c0 5))]) dX11_undo_28 rfl (by decide) rfl rfl rfl ?_
    refine kx_aload_n 30 F 0 dX11_undo_29 rfl rfl rfl ?_
    refine kx_aload_n 31 F 0 dX11_undo_30 rfl rfl rfl ?_
    refine kx_getr 34 F fl_X11_30 hk_c0 rfl rfl (j := 6) rfl dX11_undo_31 (v := (M c0 6)) (by rw [hM_N_5, mu_i (by omega)]) rfl ?_
    refine kx_aload_n 35 F 0 dX11_undo_34 rfl rfl rfl ?_
    refine kx_geti 38 F fl_X11_385 hk_c0 rfl rfl (j := 7) rfl dX11_undo_35 (v := (M c0 7) - 1) (by rw [hM_N_5, mu_s]) rfl ?_
    refine kx_aald 39 F hk_2 rfl rfl (by omega) (by decide) dX11_undo_38 (v := (M (M c0 6) ((M c0 7) - 1))) (by rw [hM_N_5, mu_k hk_2 hk_c0 rfl]) rfl ?_
    have hk_6 : kd (M (M c0 6) ((M c0 7) - 1)) = 12 := Inv.r hI_M hk_2 rfl ((M c0 7) - 1) rfl rfl
    refine kx_putr 42 F fw_X11_26 (Or.inl ⟨_, rfl⟩) hk_c0 rfl rfl (j := 5) rfl dX11_undo_39 rfl ?_
    intro N_7 hM_N_7
    have hI_N_7 : Inv false N_7 := Inv.ur hI_N_5 hM_N_7 hk_c0 rfl rfl rfl hk_6 rfl rfl rfl
    have hF_N_7 : Fr f_e_undo2 M N_7 := Fr.u hF_N_5 hM_N_7 hk_c0 rfl
    refine kx_aload_n 43 F 0 dX11_undo_42 rfl rfl rfl ?_
    refine kx_getr 46 F fl_X11_30 hk_c0 rfl rfl (j := 6) rfl dX11_undo_43 (v := (M c0 6)) (by rw [hM_N_7, mu_i (by omega), hM_N_5, mu_i (by omega)]) rfl ?_
    refine kx_aload_n 47 F 0 dX11_undo_46 rfl rfl rfl ?_
    refine kx_geti 50 F fl_X11_385 hk_c0 rfl rfl (j := 7) rfl dX11_undo_47 (v := (M c0 7) - 1) (by rw [hM_N_7, mu_i (by omega), hM_N_5, mu_s]) rfl ?_
    refine kx_aload_n 51 F 1 dX11_undo_50 rfl rfl rfl ?_
    refine kx_aast 52 F hk_1 rfl rfl rfl hk_2 rfl rfl (by omega) (by decide) dX11_undo_51 rfl ?_
    intro N_8 hM_N_8
    have hI_N_8 : Inv false N_8 := Inv.ur hI_N_7 hM_N_8 hk_2 rfl rfl rfl hk_1 rfl rfl rfl
    have hF_N_8 : Fr f_e_undo2 M N_8 := Fr.u hF_N_7 hM_N_8 hk_2 rfl
    refine kx_aload_n 53 F 0 dX11_undo_52 rfl rfl rfl ?_
    refine kx_Vv 56 (ci := 0) F (As := []) (st := []) vd_X11_139 (c_X11_forget G l N_8 c0 hI_N_8 hk_c0) hk_c0 rfl rfl rfl ⟨by decide, by decide⟩ rfl rfl (Nat.le_of_ble_eq_true rfl) dX11_undo_53 rfl ?_
    intro N_9 q_10
    obtain ⟨hI_N_9, hG_N_9⟩ := q_10
    have hF_N_9 : Fr f_e_undo2 M N_9 := Fr.c hF_N_8 hG_N_9 rfl
    refine kx_aload_n 57 F 0 dX11_undo_56 rfl rfl rfl ?_
    refine kx_aload_n 58 F 0 dX11_undo_57 rfl rfl rfl ?_
    refine kx_geti 61 F fl_X11_385 hk_c0 rfl rfl (j := 7) rfl dX11_undo_58 (v := (M c0 7) - 1) (by rw [Fr.e hG_N_9 hk_c0 _ rfl, hM_N_8, mu_k hk_c0 hk_2 rfl, hM_N_7, mu_i (by omega), hM_N_5, mu_s]) rfl ?_
    refine kx_Vi 64 (ci := 0) F (As := [vI ((M c0 7) - 1)]) (st := []) vd_X11_145 (c_X11_answer G l N_9 c0 ((M c0 7) - 1) hI_N_9 hk_c0 (by omega)) hk_c0 rfl rfl rfl ⟨by decide, by decide⟩ rfl rfl (Nat.le_of_ble_eq_true rfl) dX11_undo_61 rfl ?_
    intro r_11 N_12 q_13
    obtain ⟨hI_N_12, hG_N_12, q_13c⟩ := q_13
    have hF_N_12 : Fr f_e_undo2 M N_12 := Fr.c hF_N_9 hG_N_12 rfl
    have e_14 : (N_12 c0 7) = (M c0 7) - 1 := by rw [Fr.e hG_N_12 hk_c0 _ rfl, Fr.e hG_N_9 hk_c0 _ rfl, hM_N_8, mu_k hk_c0 hk_2 rfl, hM_N_7, mu_i (by omega), hM_N_5, mu_s]
    have e_15 : (N_12 c0 7) = (M c0 7) - 1 := by rw [Fr.e hG_N_12 hk_c0 _ rfl, Fr.e hG_N_9 hk_c0 _ rfl, hM_N_8, mu_k hk_c0 hk_2 rfl, hM_N_7, mu_i (by omega), hM_N_5, mu_s]
    exact kx_iret F hQ ⟨hI_N_12, hF_N_12, (by omega), ⟨fun _ => ⟨(by rw [Fr.e hG_N_12 hk_c0 _ rfl, Fr.e hG_N_9 hk_c0 _ rfl, hM_N_8, mu_k hk_c0 hk_2 rfl, hM_N_7, mu_s]), fun i => by rw [Fr.e hG_N_12 hk_2 _ rfl, Fr.e hG_N_9 hk_2 _ rfl, hM_N_8, mu_at]; by_cases e : i = M c0 7 - 1; rw [if_pos e, if_pos e]; rw [if_neg e, if_neg e, hM_N_7, mu_k hk_2 hk_c0 rfl, hM_N_5, mu_k hk_2 hk_c0 rfl]⟩, fun h => by exfalso; omega⟩⟩ dX11_undo_64
  · refine kx_aload_n 8 F 0 dX11_undo_7 rfl rfl rfl ?_
    refine kx_bipush 10 F dX11_undo_8 (by decide) rfl ?_
    refine kx_Vi 13 (ci := 0) F (As := [vI 6]) (st := []) vd_X11_110 (c_X11_refuse G l M c0 6 hI_M hk_c0 (by omega)) hk_c0 rfl rfl rfl ⟨by decide, by decide⟩ rfl rfl (Nat.le_of_ble_eq_true rfl) dX11_undo_10 rfl ?_
    intro r_16 N_17 q_18
    obtain ⟨hI_N_17, hG_N_17, q_18c⟩ := q_18
    have hF_N_17 : Fr f_e_undo2 M N_17 := Fr.c hF_M hG_N_17 rfl
    subst q_18c
    have e_19 : (N_17 c0 7) = (M c0 7) := by rw [Fr.e hG_N_17 hk_c0 _ rfl]
    have e_20 : (N_17 c0 7) = (M c0 7) := by rw [Fr.e hG_N_17 hk_c0 _ rfl]
    exact kx_iret F hQ ⟨hI_N_17, hF_N_17, (by omega), ⟨fun h => by exfalso; omega, fun _ => ⟨(by rw [Fr.e hG_N_17 hk_c0 _ rfl]), (funext (fun i => by rw [Fr.e hG_N_17 hk_2 _ rfl]))⟩⟩⟩ dX11_undo_13
