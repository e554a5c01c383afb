abbrev f_e_X0_become : List (Nat × Int) := [(1, 0), (1, 1), (1, 2), (1, 3), (1, 4), (1, 5), (2, -1), (3, -1), (4, -1), (5, -1), (6, -1), (7, -1)]
set_option maxHeartbeats 4000000 in
set_option maxRecDepth 100000 in
theorem e_X0_become (G : KG) (l : Launch) (M : Mem) (c0 : Int) (c1 : Int) (hI_M : Inv false M) (hk_c0 : kd c0 = 1) (hk_c1 : kd c1 = 1) : KC false G l yX0_become cX0_become 2 none (1, 18) [vR G c0, vR G c1] M (fun A => kQv false G A (fun (N : Mem) => Inv false N ∧ Fr f_e_X0_become M N ∧ ((N c0 0) = (M c1 0) ∧ (N c0 1) = (M c1 1) ∧ (N c0 2) = (M c1 2) ∧ (N c0 3) = (M c1 3) ∧ (N c0 4) = (M c1 4) ∧ (N c0 5) = (M c1 5)) ∧ Cf (SA M c0) M N ∧ (zBE N M c0 c1 ∧ zBX N M c0 c1))) := by
  refine kx_met (lo := [some (vR G c0), some (vR G c1)]) (by decide) (Nat.le_of_ble_eq_true rfl) rfl ?_
  intro X F hQ
  have hF_M : Fr f_e_X0_become M M := Fr.rf _ _
  have hE_M : Cf (SA M c0) M M := Cf.rf _ _
  have hk_1 : kd (M c0 6) = 2 := Inv.r hI_M hk_c0 rfl 6 rfl rfl
  have hk_2 : kd (M c0 7) = 3 := Inv.r hI_M hk_c0 rfl 7 rfl rfl
  have hk_3 : kd (M c0 8) = 4 := Inv.r hI_M hk_c0 rfl 8 rfl rfl
  have hk_4 : kd (M c0 9) = 5 := Inv.r hI_M hk_c0 rfl 9 rfl rfl
  have hk_5 : kd (M c0 10) = 6 := Inv.r hI_M hk_c0 rfl 10 rfl rfl
  have hk_6 : kd (M c0 11) = 7 := Inv.r hI_M hk_c0 rfl 11 rfl rfl
  have hk_7 : kd (M c1 6) = 2 := Inv.r hI_M hk_c1 rfl 6 rfl rfl
  have hk_8 : kd (M c1 7) = 3 := Inv.r hI_M hk_c1 rfl 7 rfl rfl
  have hk_9 : kd (M c1 8) = 4 := Inv.r hI_M hk_c1 rfl 8 rfl rfl
  have hk_10 : kd (M c1 9) = 5 := Inv.r hI_M hk_c1 rfl 9 rfl rfl
  have hk_11 : kd (M c1 10) = 6 := Inv.r hI_M hk_c1 rfl 10 rfl rfl
  have hk_12 : kd (M c1 11) = 7 := Inv.r hI_M hk_c1 rfl 11 rfl rfl
  refine kx_aload_n 1 F 0 dX0_become_0 rfl rfl rfl ?_
  refine kx_aload_n 2 F 1 dX0_become_1 rfl rfl rfl ?_
  refine kx_geti 5 F fl_X0_30 hk_c1 rfl rfl (j := 5) rfl dX0_become_2 (v := (M c1 5)) rfl rfl ?_
  have h_13 := Inv.g hI_M hk_c1 rfl 5 (a := 0) (b := 2) rfl rfl
  refine kx_puti 8 F fw_X0_30 rfl hk_c0 rfl rfl (j := 5) rfl dX0_become_5 rfl ?_
  intro N_14 hM_N_14
  have hI_N_14 : Inv false N_14 := Inv.u hI_M hM_N_14 hk_c0 (a := 0) (b := 2) rfl rfl rfl (by omega)
  have hF_N_14 : Fr f_e_X0_become M N_14 := Fr.u hF_M hM_N_14 hk_c0 rfl
  have hE_N_14 : Cf (SA M c0) M N_14 := Cf.st hE_M hM_N_14 (sa_0 M c0)
  refine kx_aload_n 9 F 0 dX0_become_8 rfl rfl rfl ?_
  refine kx_aload_n 10 F 1 dX0_become_9 rfl rfl rfl ?_
  refine kx_geti 13 F fl_X0_34 hk_c1 rfl rfl (j := 0) rfl dX0_become_10 (v := (M c1 0)) (by rw [hM_N_14, mu_i (by omega)]) rfl ?_
  have h_15 := Inv.g hI_M hk_c1 rfl 0 (a := 0) (b := 3) rfl rfl
  refine kx_puti 16 F fw_X0_34 rfl hk_c0 rfl rfl (j := 0) rfl dX0_become_13 rfl ?_
  intro N_16 hM_N_16
  have hI_N_16 : Inv false N_16 := Inv.u hI_N_14 hM_N_16 hk_c0 (a := 0) (b := 3) rfl rfl rfl (by omega)
  have hF_N_16 : Fr f_e_X0_become M N_16 := Fr.u hF_N_14 hM_N_16 hk_c0 rfl
  have hE_N_16 : Cf (SA M c0) M N_16 := Cf.st hE_N_14 hM_N_16 (sa_0 M c0)
  refine kx_aload_n 17 F 0 dX0_become_16 rfl rfl rfl ?_
  refine kx_aload_n 18 F 1 dX0_become_17 rfl rfl rfl ?_
  refine kx_geti 21 F fl_X0_37 hk_c1 rfl rfl (j := 1) rfl dX0_become_18 (v := (M c1 1)) (by rw [hM_N_16, mu_i (by omega), hM_N_14, mu_i (by omega)]) rfl ?_
  have h_17 := Inv.g hI_M hk_c1 rfl 1 (a := 0) (b := 3) rfl rfl
  refine kx_puti 24 F fw_X0_37 rfl hk_c0 rfl rfl (j := 1) rfl dX0_become_21 rfl ?_
  intro N_18 hM_N_18
  have hI_N_18 : Inv false N_18 := Inv.u hI_N_16 hM_N_18 hk_c0 (a := 0) (b := 3) rfl rfl rfl (by omega)
  have hF_N_18 : Fr f_e_X0_become M N_18 := Fr.u hF_N_16 hM_N_18 hk_c0 rfl
  have hE_N_18 : Cf (SA M c0) M N_18 := Cf.st hE_N_16 hM_N_18 (sa_0 M c0)
  refine kx_aload_n 25 F 0 dX0_become_24 rfl rfl rfl ?_
  refine kx_aload_n 26 F 1 dX0_become_25 rfl rfl rfl ?_
  refine kx_geti 29 F fl_X0_40 hk_c1 rfl rfl (j := 2) rfl dX0_become_26 (v := (M c1 2)) (by rw [hM_N_18, mu_i (by omega), hM_N_16, mu_i (by omega), hM_N_14, mu_i (by omega)]) rfl ?_
  have h_19 := Inv.g hI_M hk_c1 rfl 2 (a := 0) (b := 7) rfl rfl
  refine kx_puti 32 F fw_X0_40 rfl hk_c0 rfl rfl (j := 2) rfl dX0_become_29 rfl ?_
  intro N_20 hM_N_20
  have hI_N_20 : Inv false N_20 := Inv.u hI_N_18 hM_N_20 hk_c0 (a := 0) (b := 7) rfl rfl rfl (by omega)
  have hF_N_20 : Fr f_e_X0_become M N_20 := Fr.u hF_N_18 hM_N_20 hk_c0 rfl
  have hE_N_20 : Cf (SA M c0) M N_20 := Cf.st hE_N_18 hM_N_20 (sa_0 M c0)
  refine kx_aload_n 33 F 0 dX0_become_32 rfl rfl rfl ?_
  refine kx_aload_n 34 F 1 dX0_become_33 rfl rfl rfl ?_
  refine kx_geti 37 F fl_X0_43 hk_c1 rfl rfl (j := 3) rfl dX0_become_34 (v := (M c1 3)) (by rw [hM_N_20, mu_i (by omega), hM_N_18, mu_i (by omega), hM_N_16, mu_i (by omega), hM_N_14, mu_i (by omega)]) rfl ?_
  have h_21 := Inv.g hI_M hk_c1 rfl 3 (a := 0) (b := 7) rfl rfl
  refine kx_puti 40 F fw_X0_43 rfl hk_c0 rfl rfl (j := 3) rfl dX0_become_37 rfl ?_
  intro N_22 hM_N_22
  have hI_N_22 : Inv false N_22 := Inv.u hI_N_20 hM_N_22 hk_c0 (a := 0) (b := 7) rfl rfl rfl (by omega)
  have hF_N_22 : Fr f_e_X0_become M N_22 := Fr.u hF_N_20 hM_N_22 hk_c0 rfl
  have hE_N_22 : Cf (SA M c0) M N_22 := Cf.st hE_N_20 hM_N_22 (sa_0 M c0)
  refine kx_aload_n 41 F 0 dX0_become_40 rfl rfl rfl ?_
  refine kx_aload_n 42 F 1 dX0_become_41 rfl rfl rfl ?_
  refine kx_geti 45 F fl_X0_46 hk_c1 rfl rfl (j := 4) rfl dX0_become_42 (v := (M c1 4)) (by rw [hM_N_22, mu_i (by omega), hM_N_20, mu_i (by omega), hM_N_18, mu_i (by omega), hM_N_16, mu_i (by omega), hM_N_14, mu_i (by omega)]) rfl ?_
  have h_23 := Inv.g hI_M hk_c1 rfl 4 (a := 0) (b := 20) rfl rfl
  refine kx_puti 48 F fw_X0_46 rfl hk_c0 rfl rfl (j := 4) rfl dX0_become_45 rfl ?_
  intro N_24 hM_N_24
  have hI_N_24 : Inv false N_24 := Inv.u hI_N_22 hM_N_24 hk_c0 (a := 0) (b := 20) rfl rfl rfl (by omega)
  have hF_N_24 : Fr f_e_X0_become M N_24 := Fr.u hF_N_22 hM_N_24 hk_c0 rfl
  have hE_N_24 : Cf (SA M c0) M N_24 := Cf.st hE_N_22 hM_N_24 (sa_0 M c0)
  refine kx_aload_n 49 F 1 dX0_become_48 rfl rfl rfl ?_
  refine kx_getr 52 F fl_X0_9 hk_c1 rfl rfl (j := 6) rfl dX0_become_49 (v := (M c1 6)) (by rw [hM_N_24, mu_i (by omega), hM_N_22, mu_i (by omega), hM_N_20, mu_i (by omega), hM_N_18, mu_i (by omega), hM_N_16, mu_i (by omega), hM_N_14, mu_i (by omega)]) rfl ?_
  refine kx_iconst 53 F dX0_become_52 rfl ?_
  refine kx_aload_n 54 F 0 dX0_become_53 rfl rfl rfl ?_
  refine kx_getr 57 F fl_X0_9 hk_c0 rfl rfl (j := 6) rfl dX0_become_54 (v := (M c0 6)) (by rw [hM_N_24, mu_i (by omega), hM_N_22, mu_i (by omega), hM_N_20, mu_i (by omega), hM_N_18, mu_i (by omega), hM_N_16, mu_i (by omega), hM_N_14, mu_i (by omega)]) rfl ?_
  refine kx_iconst 58 F dX0_become_57 rfl ?_
  refine kx_bipush 60 F dX0_become_58 (by decide) rfl ?_
  refine kx_copyi 63 F hk_7 rfl rfl hk_1 rfl rfl dX0_become_60 (tt lm_1068 rfl) (tt lm_782 rfl) (tt lm_781 rfl) (tt lm_186 rfl) (by omega) (by decide) (by decide) (Nat.le_of_ble_eq_true rfl) rfl ?_
  intro N_25 hM_N_25
  have hI_N_25 : Inv false N_25 := Inv.cp hI_N_24 hM_N_25 hk_7 hk_1 rfl (x := 0) (y := 5) (fun _ => rfl) (fun _ => rfl) (fun _ => rfl) (fun _ => rfl) (fun _ => rfl)
  have hF_N_25 : Fr f_e_X0_become M N_25 := Fr.cp hF_N_24 hM_N_25 hk_1 (fun _ => rfl)
  have hE_N_25 : Cf (SA M c0) M N_25 := Cf.cp hE_N_24 hM_N_25 (sa_6 M c0)
  refine kx_aload_n 64 F 1 dX0_become_63 rfl rfl rfl ?_
  refine kx_getr 67 F fl_X0_15 hk_c1 rfl rfl (j := 7) rfl dX0_become_64 (v := (M c1 7)) (by rw [hM_N_25, mcp_k hk_c1 hk_1 rfl, hM_N_24, mu_i (by omega), hM_N_22, mu_i (by omega), hM_N_20, mu_i (by omega), hM_N_18, mu_i (by omega), hM_N_16, mu_i (by omega), hM_N_14, mu_i (by omega)]) rfl ?_
  refine kx_iconst 68 F dX0_become_67 rfl ?_
  refine kx_aload_n 69 F 0 dX0_become_68 rfl rfl rfl ?_
  refine kx_getr 72 F fl_X0_15 hk_c0 rfl rfl (j := 7) rfl dX0_become_69 (v := (M c0 7)) (by rw [hM_N_25, mcp_k hk_c0 hk_1 rfl, hM_N_24, mu_i (by omega), hM_N_22, mu_i (by omega), hM_N_20, mu_i (by omega), hM_N_18, mu_i (by omega), hM_N_16, mu_i (by omega), hM_N_14, mu_i (by omega)]) rfl ?_
  refine kx_iconst 73 F dX0_become_72 rfl ?_
  refine kx_bipush 75 F dX0_become_73 (by decide) rfl ?_
  refine kx_copyi 78 F hk_8 rfl rfl hk_2 rfl rfl dX0_become_75 (tt lm_1068 rfl) (tt lm_782 rfl) (tt lm_781 rfl) (tt lm_186 rfl) (by omega) (by decide) (by decide) (Nat.le_of_ble_eq_true rfl) rfl ?_
  intro N_26 hM_N_26
  have hI_N_26 : Inv false N_26 := Inv.cp hI_N_25 hM_N_26 hk_8 hk_2 rfl (x := 0) (y := 2) (fun _ => rfl) (fun _ => rfl) (fun _ => rfl) (fun _ => rfl) (fun _ => rfl)
  have hF_N_26 : Fr f_e_X0_become M N_26 := Fr.cp hF_N_25 hM_N_26 hk_2 (fun _ => rfl)
  have hE_N_26 : Cf (SA M c0) M N_26 := Cf.cp hE_N_25 hM_N_26 (sa_7 M c0)
  refine kx_aload_n 79 F 1 dX0_become_78 rfl rfl rfl ?_
  refine kx_getr 82 F fl_X0_18 hk_c1 rfl rfl (j := 8) rfl dX0_become_79 (v := (M c1 8)) (by rw [hM_N_26, mcp_k hk_c1 hk_2 rfl, hM_N_25, mcp_k hk_c1 hk_1 rfl, hM_N_24, mu_i (by omega), hM_N_22, mu_i (by omega), hM_N_20, mu_i (by omega), hM_N_18, mu_i (by omega), hM_N_16, mu_i (by omega), hM_N_14, mu_i (by omega)]) rfl ?_
  refine kx_iconst 83 F dX0_become_82 rfl ?_
  refine kx_aload_n 84 F 0 dX0_become_83 rfl rfl rfl ?_
  refine kx_getr 87 F fl_X0_18 hk_c0 rfl rfl (j := 8) rfl dX0_become_84 (v := (M c0 8)) (by rw [hM_N_26, mcp_k hk_c0 hk_2 rfl, hM_N_25, mcp_k hk_c0 hk_1 rfl, hM_N_24, mu_i (by omega), hM_N_22, mu_i (by omega), hM_N_20, mu_i (by omega), hM_N_18, mu_i (by omega), hM_N_16, mu_i (by omega), hM_N_14, mu_i (by omega)]) rfl ?_
  refine kx_iconst 88 F dX0_become_87 rfl ?_
  refine kx_bipush 90 F dX0_become_88 (by decide) rfl ?_
  refine kx_copyi 93 F hk_9 rfl rfl hk_3 rfl rfl dX0_become_90 (tt lm_1068 rfl) (tt lm_782 rfl) (tt lm_781 rfl) (tt lm_186 rfl) (by omega) (by decide) (by decide) (Nat.le_of_ble_eq_true rfl) rfl ?_
  intro N_27 hM_N_27
  have hI_N_27 : Inv false N_27 := Inv.cp hI_N_26 hM_N_27 hk_9 hk_3 rfl (x := 0) (y := 2) (fun _ => rfl) (fun _ => rfl) (fun _ => rfl) (fun _ => rfl) (fun _ => rfl)
  have hF_N_27 : Fr f_e_X0_become M N_27 := Fr.cp hF_N_26 hM_N_27 hk_3 (fun _ => rfl)
  have hE_N_27 : Cf (SA M c0) M N_27 := Cf.cp hE_N_26 hM_N_27 (sa_8 M c0)
  refine kx_aload_n 94 F 1 dX0_become_93 rfl rfl rfl ?_
  refine kx_getr 97 F fl_X0_21 hk_c1 rfl rfl (j := 9) rfl dX0_become_94 (v := (M c1 9)) (by rw [hM_N_27, mcp_k hk_c1 hk_3 rfl, hM_N_26, mcp_k hk_c1 hk_2 rfl, hM_N_25, mcp_k hk_c1 hk_1 rfl, hM_N_24, mu_i (by omega), hM_N_22, mu_i (by omega), hM_N_20, mu_i (by omega), hM_N_18, mu_i (by omega), hM_N_16, mu_i (by omega), hM_N_14, mu_i (by omega)]) rfl ?_
  refine kx_iconst 98 F dX0_become_97 rfl ?_
  refine kx_aload_n 99 F 0 dX0_become_98 rfl rfl rfl ?_
  refine kx_getr 102 F fl_X0_21 hk_c0 rfl rfl (j := 9) rfl dX0_become_99 (v := (M c0 9)) (by rw [hM_N_27, mcp_k hk_c0 hk_3 rfl, hM_N_26, mcp_k hk_c0 hk_2 rfl, hM_N_25, mcp_k hk_c0 hk_1 rfl, hM_N_24, mu_i (by omega), hM_N_22, mu_i (by omega), hM_N_20, mu_i (by omega), hM_N_18, mu_i (by omega), hM_N_16, mu_i (by omega), hM_N_14, mu_i (by omega)]) rfl ?_
  refine kx_iconst 103 F dX0_become_102 rfl ?_
  refine kx_bipush 105 F dX0_become_103 (by decide) rfl ?_
  refine kx_copyi 108 F hk_10 rfl rfl hk_4 rfl rfl dX0_become_105 (tt lm_1068 rfl) (tt lm_782 rfl) (tt lm_781 rfl) (tt lm_186 rfl) (by omega) (by decide) (by decide) (Nat.le_of_ble_eq_true rfl) rfl ?_
  intro N_28 hM_N_28
  have hI_N_28 : Inv false N_28 := Inv.cp hI_N_27 hM_N_28 hk_10 hk_4 rfl (x := (-1)) (y := 2) (fun _ => rfl) (fun _ => rfl) (fun _ => rfl) (fun _ => rfl) (fun _ => rfl)
  have hF_N_28 : Fr f_e_X0_become M N_28 := Fr.cp hF_N_27 hM_N_28 hk_4 (fun _ => rfl)
  have hE_N_28 : Cf (SA M c0) M N_28 := Cf.cp hE_N_27 hM_N_28 (sa_9 M c0)
  refine kx_aload_n 109 F 1 dX0_become_108 rfl rfl rfl ?_
  refine kx_getr 112 F fl_X0_24 hk_c1 rfl rfl (j := 10) rfl dX0_become_109 (v := (M c1 10)) (by rw [hM_N_28, mcp_k hk_c1 hk_4 rfl, hM_N_27, mcp_k hk_c1 hk_3 rfl, hM_N_26, mcp_k hk_c1 hk_2 rfl, hM_N_25, mcp_k hk_c1 hk_1 rfl, hM_N_24, mu_i (by omega), hM_N_22, mu_i (by omega), hM_N_20, mu_i (by omega), hM_N_18, mu_i (by omega), hM_N_16, mu_i (by omega), hM_N_14, mu_i (by omega)]) rfl ?_
  refine kx_iconst 113 F dX0_become_112 rfl ?_
  refine kx_aload_n 114 F 0 dX0_become_113 rfl rfl rfl ?_
  refine kx_getr 117 F fl_X0_24 hk_c0 rfl rfl (j := 10) rfl dX0_become_114 (v := (M c0 10)) (by rw [hM_N_28, mcp_k hk_c0 hk_4 rfl, hM_N_27, mcp_k hk_c0 hk_3 rfl, hM_N_26, mcp_k hk_c0 hk_2 rfl, hM_N_25, mcp_k hk_c0 hk_1 rfl, hM_N_24, mu_i (by omega), hM_N_22, mu_i (by omega), hM_N_20, mu_i (by omega), hM_N_18, mu_i (by omega), hM_N_16, mu_i (by omega), hM_N_14, mu_i (by omega)]) rfl ?_
  refine kx_iconst 118 F dX0_become_117 rfl ?_
  refine kx_aload_n 119 F 0 dX0_become_118 rfl rfl rfl ?_
  refine kx_getr 122 F fl_X0_24 hk_c0 rfl rfl (j := 10) rfl dX0_become_119 (v := (M c0 10)) (by rw [hM_N_28, mcp_k hk_c0 hk_4 rfl, hM_N_27, mcp_k hk_c0 hk_3 rfl, hM_N_26, mcp_k hk_c0 hk_2 rfl, hM_N_25, mcp_k hk_c0 hk_1 rfl, hM_N_24, mu_i (by omega), hM_N_22, mu_i (by omega), hM_N_20, mu_i (by omega), hM_N_18, mu_i (by omega), hM_N_16, mu_i (by omega), hM_N_14, mu_i (by omega)]) rfl ?_
  refine kx_alen 123 F hk_5 rfl rfl (z := 6) (by decide) dX0_become_122 rfl ?_
  refine kx_copyi 126 F hk_11 rfl rfl hk_5 rfl rfl dX0_become_123 (tt lm_1068 rfl) (tt lm_782 rfl) (tt lm_781 rfl) (tt lm_186 rfl) (by omega) (by decide) (by decide) (Nat.le_of_ble_eq_true rfl) rfl ?_
  intro N_29 hM_N_29
  have hI_N_29 : Inv false N_29 := Inv.cp hI_N_28 hM_N_29 hk_11 hk_5 rfl (x := 0) (y := 511) (fun _ => rfl) (fun _ => rfl) (fun _ => rfl) (fun _ => rfl) (fun _ => rfl)
  have hF_N_29 : Fr f_e_X0_become M N_29 := Fr.cp hF_N_28 hM_N_29 hk_5 (fun _ => rfl)
  have hE_N_29 : Cf (SA M c0) M N_29 := Cf.cp hE_N_28 hM_N_29 (sa_10 M c0)
  refine kx_aload_n 127 F 1 dX0_become_126 rfl rfl rfl ?_
  refine kx_getr 130 F fl_X0_27 hk_c1 rfl rfl (j := 11) rfl dX0_become_127 (v := (M c1 11)) (by rw [hM_N_29, mcp_k hk_c1 hk_5 rfl, hM_N_28, mcp_k hk_c1 hk_4 rfl, hM_N_27, mcp_k hk_c1 hk_3 rfl, hM_N_26, mcp_k hk_c1 hk_2 rfl, hM_N_25, mcp_k hk_c1 hk_1 rfl, hM_N_24, mu_i (by omega), hM_N_22, mu_i (by omega), hM_N_20, mu_i (by omega), hM_N_18, mu_i (by omega), hM_N_16, mu_i (by omega), hM_N_14, mu_i (by omega)]) rfl ?_
  refine kx_iconst 131 F dX0_become_130 rfl ?_
  refine kx_aload_n 132 F 0 dX0_become_131 rfl rfl rfl ?_
  refine kx_getr 135 F fl_X0_27 hk_c0 rfl rfl (j := 11) rfl dX0_become_132 (v := (M c0 11)) (by rw [hM_N_29, mcp_k hk_c0 hk_5 rfl, hM_N_28, mcp_k hk_c0 hk_4 rfl, hM_N_27, mcp_k hk_c0 hk_3 rfl, hM_N_26, mcp_k hk_c0 hk_2 rfl, hM_N_25, mcp_k hk_c0 hk_1 rfl, hM_N_24, mu_i (by omega), hM_N_22, mu_i (by omega), hM_N_20, mu_i (by omega), hM_N_18, mu_i (by omega), hM_N_16, mu_i (by omega), hM_N_14, mu_i (by omega)]) rfl ?_
  refine kx_iconst 136 F dX0_become_135 rfl ?_
  refine kx_aload_n 137 F 0 dX0_become_136 rfl rfl rfl ?_
  refine kx_getr 140 F fl_X0_27 hk_c0 rfl rfl (j := 11) rfl dX0_become_137 (v := (M c0 11)) (by rw [hM_N_29, mcp_k hk_c0 hk_5 rfl, hM_N_28, mcp_k hk_c0 hk_4 rfl, hM_N_27, mcp_k hk_c0 hk_3 rfl, hM_N_26, mcp_k hk_c0 hk_2 rfl, hM_N_25, mcp_k hk_c0 hk_1 rfl, hM_N_24, mu_i (by omega), hM_N_22, mu_i (by omega), hM_N_20, mu_i (by omega), hM_N_18, mu_i (by omega), hM_N_16, mu_i (by omega), hM_N_14, mu_i (by omega)]) rfl ?_
  refine kx_alen 141 F hk_6 rfl rfl (z := 18) (by decide) dX0_become_140 rfl ?_
  refine kx_copyi 144 F hk_12 rfl rfl hk_6 rfl rfl dX0_become_141 (tt lm_1068 rfl) (tt lm_782 rfl) (tt lm_781 rfl) (tt lm_186 rfl) (by omega) (by decide) (by decide) (Nat.le_of_ble_eq_true rfl) rfl ?_
  intro N_30 hM_N_30
  have hI_N_30 : Inv false N_30 := Inv.cp hI_N_29 hM_N_30 hk_12 hk_6 rfl (x := 0) (y := 511) (fun _ => rfl) (fun _ => rfl) (fun _ => rfl) (fun _ => rfl) (fun _ => rfl)
  have hF_N_30 : Fr f_e_X0_become M N_30 := Fr.cp hF_N_29 hM_N_30 hk_6 (fun _ => rfl)
  have hE_N_30 : Cf (SA M c0) M N_30 := Cf.cp hE_N_29 hM_N_30 (sa_11 M c0)
  have e_31 : (N_30 c0 0) = (M c1 0) := by rw [hM_N_30, mcp_k hk_c0 hk_6 rfl, hM_N_29, mcp_k hk_c0 hk_5 rfl, hM_N_28, mcp_k hk_c0 hk_4 rfl, hM_N_27, mcp_k hk_c0 hk_3 rfl, hM_N_26, mcp_k hk_c0 hk_2 rfl, hM_N_25, mcp_k hk_c0 hk_1 rfl, hM_N_24, mu_i (by omega), hM_N_22, mu_i (by omega), hM_N_20, mu_i (by omega), hM_N_18, mu_i (by omega), hM_N_16, mu_s]
  have e_32 : (N_30 c0 1) = (M c1 1) := by rw [hM_N_30, mcp_k hk_c0 hk_6 rfl, hM_N_29, mcp_k hk_c0 hk_5 rfl, hM_N_28, mcp_k hk_c0 hk_4 rfl, hM_N_27, mcp_k hk_c0 hk_3 rfl, hM_N_26, mcp_k hk_c0 hk_2 rfl, hM_N_25, mcp_k hk_c0 hk_1 rfl, hM_N_24, mu_i (by omega), hM_N_22, mu_i (by omega), hM_N_20, mu_i (by omega), hM_N_18, mu_s]
  have e_33 : (N_30 c0 2) = (M c1 2) := by rw [hM_N_30, mcp_k hk_c0 hk_6 rfl, hM_N_29, mcp_k hk_c0 hk_5 rfl, hM_N_28, mcp_k hk_c0 hk_4 rfl, hM_N_27, mcp_k hk_c0 hk_3 rfl, hM_N_26, mcp_k hk_c0 hk_2 rfl, hM_N_25, mcp_k hk_c0 hk_1 rfl, hM_N_24, mu_i (by omega), hM_N_22, mu_i (by omega), hM_N_20, mu_s]
  have e_34 : (N_30 c0 3) = (M c1 3) := by rw [hM_N_30, mcp_k hk_c0 hk_6 rfl, hM_N_29, mcp_k hk_c0 hk_5 rfl, hM_N_28, mcp_k hk_c0 hk_4 rfl, hM_N_27, mcp_k hk_c0 hk_3 rfl, hM_N_26, mcp_k hk_c0 hk_2 rfl, hM_N_25, mcp_k hk_c0 hk_1 rfl, hM_N_24, mu_i (by omega), hM_N_22, mu_s]
  have e_35 : (N_30 c0 4) = (M c1 4) := by rw [hM_N_30, mcp_k hk_c0 hk_6 rfl, hM_N_29, mcp_k hk_c0 hk_5 rfl, hM_N_28, mcp_k hk_c0 hk_4 rfl, hM_N_27, mcp_k hk_c0 hk_3 rfl, hM_N_26, mcp_k hk_c0 hk_2 rfl, hM_N_25, mcp_k hk_c0 hk_1 rfl, hM_N_24, mu_s]
  have e_36 : (N_30 c0 5) = (M c1 5) := by rw [hM_N_30, mcp_k hk_c0 hk_6 rfl, hM_N_29, mcp_k hk_c0 hk_5 rfl, hM_N_28, mcp_k hk_c0 hk_4 rfl, hM_N_27, mcp_k hk_c0 hk_3 rfl, hM_N_26, mcp_k hk_c0 hk_2 rfl, hM_N_25, mcp_k hk_c0 hk_1 rfl, hM_N_24, mu_i (by omega), hM_N_22, mu_i (by omega), hM_N_20, mu_i (by omega), hM_N_18, mu_i (by omega), hM_N_16, mu_i (by omega), hM_N_14, mu_s]
  have e_37 : (N_30 c0 0) = (M c1 0) := by rw [hM_N_30, mcp_k hk_c0 hk_6 rfl, hM_N_29, mcp_k hk_c0 hk_5 rfl, hM_N_28, mcp_k hk_c0 hk_4 rfl, hM_N_27, mcp_k hk_c0 hk_3 rfl, hM_N_26, mcp_k hk_c0 hk_2 rfl, hM_N_25, mcp_k hk_c0 hk_1 rfl, hM_N_24, mu_i (by omega), hM_N_22, mu_i (by omega), hM_N_20, mu_i (by omega), hM_N_18, mu_i (by omega), hM_N_16, mu_s]
  have e_38 : (N_30 c0 1) = (M c1 1) := by rw [hM_N_30, mcp_k hk_c0 hk_6 rfl, hM_N_29, mcp_k hk_c0 hk_5 rfl, hM_N_28, mcp_k hk_c0 hk_4 rfl, hM_N_27, mcp_k hk_c0 hk_3 rfl, hM_N_26, mcp_k hk_c0 hk_2 rfl, hM_N_25, mcp_k hk_c0 hk_1 rfl, hM_N_24, mu_i (by omega), hM_N_22, mu_i (by omega), hM_N_20, mu_i (by omega), hM_N_18, mu_s]
  have e_39 : (N_30 c0 2) = (M c1 2) := by rw [hM_N_30, mcp_k hk_c0 hk_6 rfl, hM_N_29, mcp_k hk_c0 hk_5 rfl, hM_N_28, mcp_k hk_c0 hk_4 rfl, hM_N_27, mcp_k hk_c0 hk_3 rfl, hM_N_26, mcp_k hk_c0 hk_2 rfl, hM_N_25, mcp_k hk_c0 hk_1 rfl, hM_N_24, mu_i (by omega), hM_N_22, mu_i (by omega), hM_N_20, mu_s]
  have e_40 : (N_30 c0 3) = (M c1 3) := by rw [hM_N_30, mcp_k hk_c0 hk_6 rfl, hM_N_29, mcp_k hk_c0 hk_5 rfl, hM_N_28, mcp_k hk_c0 hk_4 rfl, hM_N_27, mcp_k hk_c0 hk_3 rfl, hM_N_26, mcp_k hk_c0 hk_2 rfl, hM_N_25, mcp_k hk_c0 hk_1 rfl, hM_N_24, mu_i (by omega), hM_N_22, mu_s]
  have e_41 : (N_30 c0 4) = (M c1 4) := by rw [hM_N_30, mcp_k hk_c0 hk_6 rfl, hM_N_29, mcp_k hk_c0 hk_5 rfl, hM_N_28, mcp_k hk_c0 hk_4 rfl, hM_N_27, mcp_k hk_c0 hk_3 rfl, hM_N_26, mcp_k hk_c0 hk_2 rfl, hM_N_25, mcp_k hk_c0 hk_1 rfl, hM_N_24, mu_s]
  have e_42 : (N_30 c0 5) = (M c1 5) := by rw [hM_N_30, mcp_k hk_c0 hk_6 rfl, hM_N_29, mcp_k hk_c0 hk_5 rfl, hM_N_28, mcp_k hk_c0 hk_4 rfl, hM_N_27, mcp_k hk_c0 hk_3 rfl, hM_N_26, mcp_k hk_c0 hk_2 rfl, hM_N_25, mcp_k hk_c0 hk_1 rfl, hM_N_24, mu_i (by omega), hM_N_22, mu_i (by omega), hM_N_20, mu_i (by omega), hM_N_18, mu_i (by omega), hM_N_16, mu_i (by omega), hM_N_14, mu_s]
  exact kx_vret F hQ ⟨hI_N_30, hF_N_30, (by omega), hE_N_30, ⟨fun i h0 h1 => ⟨by rw [hM_N_30, mcp_k hk_1 hk_6 rfl, hM_N_29, mcp_k hk_1 hk_5 rfl, hM_N_28, mcp_k hk_1 hk_4 rfl, hM_N_27, mcp_k hk_1 hk_3 rfl, hM_N_26, mcp_k hk_1 hk_2 rfl, hM_N_25, mcp_s (by omega), show (0 + (i - 0) : Int) = i by omega, hM_N_24, mu_k hk_7 hk_c0 rfl, hM_N_22, mu_k hk_7 hk_c0 rfl, hM_N_20, mu_k hk_7 hk_c0 rfl, hM_N_18, mu_k hk_7 hk_c0 rfl, hM_N_16, mu_k hk_7 hk_c0 rfl, hM_N_14, mu_k hk_7 hk_c0 rfl], by rw [hM_N_30, mcp_k hk_2 hk_6 rfl, hM_N_29, mcp_k hk_2 hk_5 rfl, hM_N_28, mcp_k hk_2 hk_4 rfl, hM_N_27, mcp_k hk_2 hk_3 rfl, hM_N_26, mcp_s (by omega), show (0 + (i - 0) : Int) = i by omega, hM_N_25, mcp_k hk_8 hk_1 rfl, hM_N_24, mu_k hk_8 hk_c0 rfl, hM_N_22, mu_k hk_8 hk_c0 rfl, hM_N_20, mu_k hk_8 hk_c0 rfl, hM_N_18, mu_k hk_8 hk_c0 rfl, hM_N_16, mu_k hk_8 hk_c0 rfl, hM_N_14, mu_k hk_8 hk_c0 rfl], by rw [hM_N_30, mcp_k hk_3 hk_6 rfl, hM_N_29, mcp_k hk_3 hk_5 rfl, hM_N_28, mcp_k hk_3 hk_4 rfl, hM_N_27, mcp_s (by omega), show (0 + (i - 0) : Int) = i by omega, hM_N_26, mcp_k hk_9 hk_2 rfl, hM_N_25, mcp_k hk_9 hk_1 rfl, hM_N_24, mu_k hk_9 hk_c0 rfl, hM_N_22, mu_k hk_9 hk_c0 rfl, hM_N_20, mu_k hk_9 hk_c0 rfl, hM_N_18, mu_k hk_9 hk_c0 rfl, hM_N_16, mu_k hk_9 hk_c0 rfl, hM_N_14, mu_k hk_9 hk_c0 rfl], by rw [hM_N_30, mcp_k hk_4 hk_6 rfl, hM_N_29, mcp_k hk_4 hk_5 rfl, hM_N_28, mcp_s (by omega), show (0 + (i - 0) : Int) = i by omega, hM_N_27, mcp_k hk_10 hk_3 rfl, hM_N_26, mcp_k hk_10 hk_2 rfl, hM_N_25, mcp_k hk_10 hk_1 rfl, hM_N_24, mu_k hk_10 hk_c0 rfl, hM_N_22, mu_k hk_10 hk_c0 rfl, hM_N_20, mu_k hk_10 hk_c0 rfl, hM_N_18, mu_k hk_10 hk_c0 rfl, hM_N_16, mu_k hk_10 hk_c0 rfl, hM_N_14, mu_k hk_10 hk_c0 rfl]⟩, fun i h0 h1 => by rw [hM_N_30, mcp_k hk_5 hk_6 rfl, hM_N_29, mcp_s (by omega), show (0 + (i - 0) : Int) = i by omega, hM_N_28, mcp_k hk_11 hk_4 rfl, hM_N_27, mcp_k hk_11 hk_3 rfl, hM_N_26, mcp_k hk_11 hk_2 rfl, hM_N_25, mcp_k hk_11 hk_1 rfl, hM_N_24, mu_k hk_11 hk_c0 rfl, hM_N_22, mu_k hk_11 hk_c0 rfl, hM_N_20, mu_k hk_11 hk_c0 rfl, hM_N_18, mu_k hk_11 hk_c0 rfl, hM_N_16, mu_k hk_11 hk_c0 rfl, hM_N_14, mu_k hk_11 hk_c0 rfl], fun i h0 h1 => by rw [hM_N_30, mcp_s (by omega), show (0 + (i - 0) : Int) = i by omega, hM_N_29, mcp_k hk_12 hk_5 rfl, hM_N_28, mcp_k hk_12 hk_4 rfl, hM_N_27, mcp_k hk_12 hk_3 rfl, hM_N_26, mcp_k hk_12 hk_2 rfl, hM_N_25, mcp_k hk_12 hk_1 rfl, hM_N_24, mu_k hk_12 hk_c0 rfl, hM_N_22, mu_k hk_12 hk_c0 rfl, hM_N_20, mu_k hk_12 hk_c0 rfl, hM_N_18, mu_k hk_12 hk_c0 rfl, hM_N_16, mu_k hk_12 hk_c0 rfl, hM_N_14, mu_k hk_12 hk_c0 rfl]⟩⟩ dX0_become_144
set_option maxHeartbeats 4000000 in
set_option maxRecDepth 100000 in
theorem e_X11_areTwo (G : KG) (l : Launch) (M : Mem) (c0 : Int) (a1 : Int) (a2 : Int) (hI_M : Inv false M) (hk_c0 : kd c0 = 62) (hpre : -2147483648 ≤ a1 ∧ a1 ≤ 2147483647 ∧ -2147483648 ≤ a2 ∧ a2 ≤ 2147483647) : KC false G l yX11_areTwo cX11_areTwo 3 (some .boolean) (1, 21) [vR G c0, vI a1, vI a2] M (fun A => kQi false G A (fun (r : Int) (N : Mem) => M = N ∧ ((r = 1 ∧ 0 ≤ a1 ∧ a1 < (M (M c0 5) 3) ∧ 0 ≤ a2 ∧ a2 < (M (M c0 5) 3) ∧ a1 ≠ a2) ∨ (r = 0 ∧ a1 < 0) ∨ (r = 0 ∧ a1 ≥ (M (M c0 5) 3)) ∨ (r = 0 ∧ a2 < 0) ∨ (r = 0 ∧ a2 ≥ (M (M c0 5) 3)) ∨ (r = 0 ∧ a1 = a2)))) := by
  refine kx_met (lo := [some (vR G c0), some (vI a1), some (vI a2)]) (by decide) (Nat.le_of_ble_eq_true rfl) rfl ?_
  intro X F hQ
  have hk_1 : kd (M c0 5) = 12 := Inv.r hI_M hk_c0 rfl 5 rfl rfl
  refine kx_aload_n 1 F 0 dX11_areTwo_0 rfl rfl rfl ?_
  refine kx_getr 4 F fl_X11_26 hk_c0 rfl rfl (j := 5) rfl dX11_areTwo_1 (v := (M c0 5)) rfl rfl ?_
  refine kx_iload_n 5 F 1 dX11_areTwo_4 rfl rfl rfl ?_
  refine kx_Vi 8 (ci := 0) F (As := [vI a1]) (st := []) vd_X11_163 (e_X5_has G l M (M c0 5) a1 hI_M hk_1 (by omega)) hk_1 rfl rfl rfl ⟨by decide, by decide⟩ rfl rfl (Nat.le_of_ble_eq_true rfl) dX11_areTwo_5 rfl ?_
  intro r_2 N_3 q_4
  obtain ⟨rfl, q_4c⟩ := q_4
  have h_5 := Inv.g hI_M hk_1 rfl 3 (a := 0) (b := 2) rfl rfl
  have h_6 := Inv.g hI_M hk_1 rfl 3 (a := 0) (b := 2) rfl rfl
  rcases q_4c with q_4c | q_4c | q_4c
  · refine kx_if_eq 11 F 31 dX11_areTwo_8 (by decide) rfl (by omega) (fun h_7 => (by exfalso; omega)) (fun h_7 => ?_)
    refine kx_aload_n 12 F 0 dX11_areTwo_11 rfl rfl rfl ?_
    refine kx_getr 15 F fl_X11_26 hk_c0 rfl rfl (j := 5) rfl dX11_areTwo_12 (v := (M c0 5)) rfl rfl ?_
    refine kx_iload_n 16 F 2 dX11_areTwo_15 rfl rfl rfl ?_
    refine kx_Vi 19 (ci := 0) F (As := [vI a2]) (st := []) vd_X11_163 (e_X5_has G l M (M c0 5) a2 hI_M hk_1 (by omega)) hk_1 rfl rfl rfl ⟨by decide, by decide⟩ rfl rfl (Nat.le_of_ble_eq_true rfl) dX11_areTwo_16 rfl ?_
    intro r_8 N_9 q_10
    obtain ⟨rfl, q_10c⟩ := q_10
    rcases q_10c with q_10c | q_10c | q_10c
    · refine kx_if_eq 22 F 31 dX11_areTwo_19 (by decide) rfl (by omega) (fun h_11 => (by exfalso; omega)) (fun h_11 => ?_)
      refine kx_iload_n 23 F 1 dX11_areTwo_22 rfl rfl rfl ?_
      refine kx_iload_n 24 F 2 dX11_areTwo_23 rfl rfl rfl ?_
      refine kx_icmp_eq 27 F 31 dX11_areTwo_24 (by decide) rfl (by omega) (by omega) (fun h_12 => ?_) (fun h_12 => ?_)
      · refine kx_iconst 32 F dX11_areTwo_31 rfl ?_
        exact kx_zret F hQ (by omega) ⟨rfl, (Or.inr (Or.inr (Or.inr (Or.inr (Or.inr (by omega))))))⟩ dX11_areTwo_32
      · refine kx_iconst 28 F dX11_areTwo_27 rfl ?_
        refine kx_goto 32 F dX11_areTwo_28 (by decide) ?_
        exact kx_zret F hQ (by omega) ⟨rfl, (Or.inl (by omega))⟩ dX11_areTwo_32
    · refine kx_if_eq 22 F 31 dX11_areTwo_19 (by decide) rfl (by omega) (fun h_13 => ?_) (fun h_13 => (by exfalso; omega))
      refine kx_iconst 32 F dX11_areTwo_31 rfl ?_
      exact kx_zret F hQ (by omega) ⟨rfl, (Or.inr (Or.inr (Or.inr (Or.inl (by omega)))))⟩ dX11_areTwo_32
    · refine kx_if_eq 22 F 31 dX11_areTwo_19 (by decide) rfl (by omega) (fun h_14 => ?_) (fun h_14 => (by exfalso; omega))
      refine kx_iconst 32 F dX11_areTwo_31 rfl ?_
      exact kx_zret F hQ (by omega) ⟨rfl, (Or.inr (Or.inr (Or.inr (Or.inr (Or.inl (by omega))))))⟩ dX11_areTwo_32
  · refine kx_if_eq 11 F 31 dX11_areTwo_8 (by decide) rfl (by omega) (fun h_15 => ?_) (fun h_15 => (by exfalso; omega))
    refine kx_iconst 32 F dX11_areTwo_31 rfl ?_
    have h_16 := Inv.g hI_M hk_1 rfl 3 (a := 0) (b := 2) rfl rfl
    exact kx_zret F hQ (by omega) ⟨rfl, (Or.inr (Or.inl (by omega)))⟩ dX11_areTwo_32
  · refine kx_if_eq 11 F 31 dX11_areTwo_8 (by decide) rfl (by omega) (fun h_17 => ?_) (fun h_17 => (by exfalso; omega))
    refine kx_iconst 32 F dX11_areTwo_31 rfl ?_
    exact kx_zret F hQ (by omega) ⟨rfl, (Or.inr (Or.inr (Or.inl (by omega))))⟩ dX11_areTwo_32
abbrev f_e_copy2 : List (Nat × Int) := [(1, 0), (1, 1), (1, 2), (1, 3), (1, 4), (1, 5), (2, -1), (3, -1), (4, -1), (5, -1), (6, -1), (7, -1), (21, 0), (41, 2), (62, 0)]
set_option maxHeartbeats 4000000 in
set_option maxRecDepth 100000 in
theorem e_copy2 (G : KG) (l : Launch) (M : Mem) (c0 : Int) (a1 : Int) (a2 : Int) (hI_M : Inv false M) (hk_c0 : kd c0 = 62) (hpre : -2147483648 ≤ a1 ∧ a1 ≤ 2147483647 ∧ -2147483648 ≤ a2 ∧ a2 ≤ 2147483647) (q : Int → Int) (hS : zSN M (M c0 5) q) (hU : zSU M (M c0 5) q) (hZ : FZ M) (hV : zQV q) : KC false G l yX11_copy cX11_copy 3 (some .boolean) (2, 43) [vR G c0, vI a1, vI a2] M (fun A => kQi false G A (fun (r : Int) (N : Mem) => Inv false N ∧ Fr f_e_copy2 M N ∧ (r ≥ 0 ∧ r ≤ 1) ∧ Cf (zRG (M c0 5) a2) M N ∧ (∃ q2, zCY q a1 a2 r q2 ∧ zSN N (M c0 5) q2 ∧ zSU N (M c0 5) q2))) := by
  refine kx_met (lo := [some (vR G c0), some (vI a1), some (vI a2)]) (by decide) (Nat.le_of_ble_eq_true rfl) rfl ?_
  intro X F hQ
  have hF_M : Fr f_e_copy2 M M := Fr.rf _ _
  have hE_M : Cf (zRG (M c0 5) a2) M M := Cf.rf _ _
  have hk_1 : kd (M c0 5) = 12 := Inv.r hI_M hk_c0 rfl 5 rfl rfl
  have hSn := hS.u
  have hVu := hV.u
  refine kx_aload_n 1 F 0 dX11_copy_0 rfl rfl rfl ?_
  refine kx_iload_n 2 F 1 dX11_copy_1 rfl rfl rfl ?_
  refine kx_iload_n 3 F 2 dX11_copy_2 rfl rfl rfl ?_
  refine kx_Vi 6 (ci := 0) F (As := [vI a1, vI a2]) (st := []) vd_X11_219 (e_X11_areTwo G l M c0 a1 a2 hI_M hk_c0 (by omega)) hk_c0 rfl rfl rfl ⟨by decide, by decide⟩ rfl rfl (Nat.le_of_ble_eq_true rfl) dX11_copy_3 rfl ?_
  intro r_2 N_3 q_4
  obtain ⟨rfl, q_4c⟩ := q_4
  have h_5 := Inv.g hI_M hk_1 rfl 3 (a := 0) (b := 2) rfl rfl
  have h_6 := Inv.g hI_M hk_1 rfl 3 (a := 0) (b := 2) rfl rfl
  have h_7 := Inv.g hI_M hk_1 rfl 3 (a := 0) (b := 2) rfl rfl
  rcases q_4c with q_4c | q_4c | q_4c | q_4c | q_4c | q_4c
  · refine kx_if_ne 9 F 15 dX11_copy_6 (by decide) rfl (by omega) (fun h_8 => ?_) (fun h_8 => (by exfalso; omega))
    refine kx_aload_n 16 F 0 dX11_copy_15 rfl rfl rfl ?_
    refine kx_getr 19 F fl_X11_26 hk_c0 rfl rfl (j := 5) rfl dX11_copy_16 (v := (M c0 5)) rfl rfl ?_
    refine kx_iload_n 20 F 2 dX11_copy_19 rfl rfl rfl ?_
    refine kx_Vr 23 (ci := 0) F (As := [vI a2]) (st := []) vd_X11_164 (c_X5_pickE G l M (M c0 5) a2 hI_M hk_1 (by omega)) hk_1 rfl rfl rfl ⟨by decide, by decide⟩ rfl rfl (Nat.le_of_ble_eq_true rfl) dX11_copy_20 rfl ?_
    intro r_9 N_10 q_11
    obtain ⟨rfl, hk_12, q_11d⟩ := q_11
    rcases q_11d with ⟨q_11c, rfl⟩ | ⟨q_11c, rfl⟩
    · have hA_a2 := hU.1 (by omega)
      have hxz_a2 := (hZ.2.1 (M c0 5) hk_1).1
      refine kx_aload_n 24 F 0 dX11_copy_23 rfl rfl rfl ?_
      refine kx_getr 27 F fl_X11_26 hk_c0 rfl rfl (j := 5) rfl dX11_copy_24 (v := (M c0 5)) rfl rfl ?_
      refine kx_iload_n 28 F 1 dX11_copy_27 rfl rfl rfl ?_
      refine kx_Vr 31 (ci := 0) F (As := [vI a1]) (st := [vR G (M (M c0 5) 4)]) vd_X11_164 (c_X5_pickE G l M (M c0 5) a1 hI_M hk_1 (by omega)) hk_1 rfl rfl rfl ⟨by decide, by decide⟩ rfl rfl (Nat.le_of_ble_eq_true rfl) dX11_copy_28 rfl ?_
      intro r_13 N_14 q_15
      obtain ⟨rfl, hk_16, q_15d⟩ := q_15
      rcases q_15d with ⟨q_15c, rfl⟩ | ⟨q_15c, rfl⟩
      · have hA_a1 := hU.1 (by omega)
        have hxz_a1 := (hZ.2.1 (M c0 5) hk_1).1
        refine kx_Vv 34 (ci := 0) F (As := [vR G (M (M c0 5) 4)]) (st := []) vd_X11_222 (e_X0_become G l M (M (M c0 5) 4) (M (M c0 5) 4) hI_M hk_16 hk_16) hk_16 rfl rfl rfl ⟨by decide, by decide⟩ rfl rfl (Nat.le_of_ble_eq_true rfl) dX11_copy_31 rfl ?_
        intro N_17 q_18
        obtain ⟨hI_N_17, hG_N_17, q_18c, hC_N_17, hbe_N_17⟩ := q_18
        have hF_N_17 : Fr f_e_copy2 M N_17 := Fr.c hF_M hG_N_17 rfl
        have hE_N_17 : Cf (zRG (M c0 5) a2) M N_17 := Cf.c hE_M hC_N_17 (fun y hy => by have a := SA.in hy hZ hk_16; have z := hZ.2.1 (M c0 5) hk_1; exact ⟨by omega, by omega, by omega, by omega⟩)
        have h_19 := Inv.g hI_M hk_16 rfl 0 (a := 0) (b := 3) rfl rfl
        have h_20 := Inv.g hI_N_17 hk_16 rfl 0 (a := 0) (b := 3) rfl rfl
        have h_21 := Inv.g hI_M hk_16 rfl 1 (a := 0) (b := 3) rfl rfl
        have h_22 := Inv.g hI_N_17 hk_16 rfl 1 (a := 0) (b := 3) rfl rfl
        have h_23 := Inv.g hI_M hk_16 rfl 2 (a := 0) (b := 7) rfl rfl
        have h_24 := Inv.g hI_N_17 hk_16 rfl 2 (a := 0) (b := 7) rfl rfl
        have h_25 := Inv.g hI_M hk_16 rfl 3 (a := 0) (b := 7) rfl rfl
        have h_26 := Inv.g hI_N_17 hk_16 rfl 3 (a := 0) (b := 7) rfl rfl
        have h_27 := Inv.g hI_M hk_16 rfl 4 (a := 0) (b := 20) rfl rfl
        have h_28 := Inv.g hI_N_17 hk_16 rfl 4 (a := 0) (b := 20) rfl rfl
        have h_29 := Inv.g hI_M hk_16 rfl 5 (a := 0) (b := 2) rfl rfl
        have h_30 := Inv.g hI_N_17 hk_16 rfl 5 (a := 0) (b := 2) rfl rfl
        refine kx_aload_n 35 F 0 dX11_copy_34 rfl rfl rfl ?_
        refine kx_Vv 38 (ci := 0) F (As := []) (st := []) vd_X11_139 (c_X11_forget G l N_17 c0 hI_N_17 hk_c0) hk_c0 rfl rfl rfl ⟨by decide, by decide⟩ rfl rfl (Nat.le_of_ble_eq_true rfl) dX11_copy_35 rfl ?_
        intro N_31 q_32
        obtain ⟨hI_N_31, hG_N_31⟩ := q_32
        have hF_N_31 : Fr f_e_copy2 M N_31 := Fr.c hF_N_17 hG_N_31 rfl
        have hE_N_31 : Cf (zRG (M c0 5) a2) M N_31 := Cf.fr hE_N_17 hG_N_31 rfl
        refine kx_aload_n 39 F 0 dX11_copy_38 rfl rfl rfl ?_
        refine kx_Vi 42 (ci := 0) F (As := []) (st := []) vd_X11_98 (c_X11_agree G l N_31 c0 hI_N_31 hk_c0) hk_c0 rfl rfl rfl ⟨by decide, by decide⟩ rfl rfl (Nat.le_of_ble_eq_true rfl) dX11_copy_39 rfl ?_
        intro r_33 N_34 q_35
        obtain ⟨hI_N_34, hG_N_34, q_35c⟩ := q_35
        have hF_N_34 : Fr f_e_copy2 M N_34 := Fr.c hF_N_31 hG_N_34 rfl
        have hE_N_34 : Cf (zRG (M c0 5) a2) M N_34 := Cf.fr hE_N_31 hG_N_34 rfl
        subst q_35c
        have hAn : AT N_17 (M (M c0 5) 4) (zcopy q a1 a2) (85 * a2 + 100) := AT.bec (b := 100) hA_a1 (by omega) (by omega) (by omega) (by omega) (by omega) (by omega) (Fr.e hG_N_17 hk_16 _ rfl) (Fr.e hG_N_17 hk_16 _ rfl) (Fr.e hG_N_17 hk_16 _ rfl) (Fr.e hG_N_17 hk_16 _ rfl) (Fr.e hG_N_17 hk_16 _ rfl) (Fr.e hG_N_17 hk_16 _ rfl) hbe_N_17.1 hbe_N_17.2 (by unfold zcopy; rw [if_neg (by omega)]) (fun i h0 h1 => by unfold zcopy; rw [if_pos (by omega), show 85 * a2 + 100 + i - 85 * a2 + 85 * a1 = 100 + i by omega]) (by have h := hV.u; exact h.2.2.2.1)
        exact kx_zret F hQ (by omega) ⟨hI_N_34, hF_N_34, (by omega), hE_N_34, ⟨(zcopy q a1 a2), Or.inl ⟨by omega, by omega, rfl⟩, zSN.cg hS (funext (fun j => by rw [Fr.e hG_N_34 hk_1 _ rfl, Fr.e hG_N_31 hk_1 _ rfl, Fr.e hG_N_17 hk_1 _ rfl])) (by unfold zcopy; rw [if_neg (by omega)]) (by unfold zcopy; rw [if_neg (by omega)]) (by unfold zcopy; rw [if_neg (by omega)]) (by unfold zcopy; rw [if_neg (by omega)]), zSU.set (a := a2) (x := (M (M c0 5) 4)) hU (by omega) rfl (by omega) hZ hI_M hk_1 hE_N_34 (funext (fun j => by rw [Fr.e hG_N_34 hk_1 _ rfl, Fr.e hG_N_31 hk_1 _ rfl, Fr.e hG_N_17 hk_1 _ rfl])) (AT.fr (AT.fr hAn hI_N_17 hk_16 hG_N_31 rfl) hI_N_31 hk_16 hG_N_34 rfl) (by unfold zcopy; rw [if_neg (by omega)]) (by unfold zcopy; rw [if_neg (by omega)]) (fun i h1 h2 h3 => (by unfold zcopy; rw [if_neg (by omega)])) hV⟩⟩ dX11_copy_42
      · have hA_a1 := hU.2 (by omega)
        have hxz_a1 := (hZ.2.1 (M c0 5) hk_1).2.1
        refine kx_Vv 34 (ci := 0) F (As := [vR G (M (M c0 5) 5)]) (st := []) vd_X11_222 (e_X0_become G l M (M (M c0 5) 4) (M (M c0 5) 5) hI_M hk_12 hk_16) hk_12 rfl rfl rfl ⟨by decide, by decide⟩ rfl rfl (Nat.le_of_ble_eq_true rfl) dX11_copy_31 rfl ?_
        intro N_36 q_37
        obtain ⟨hI_N_36, hG_N_36, q_37c, hC_N_36, hbe_N_36⟩ := q_37
        have hF_N_36 : Fr f_e_copy2 M N_36 := Fr.c hF_M hG_N_36 rfl
        have hE_N_36 : Cf (zRG (M c0 5) a2) M N_36 := Cf.c hE_M hC_N_36 (fun y hy => by have a := SA.in hy hZ hk_12; have z := hZ.2.1 (M c0 5) hk_1; exact ⟨by omega, by omega, by omega, by omega⟩)
        have h_38 := Inv.g hI_M hk_16 rfl 0 (a := 0) (b := 3) rfl rfl
        have h_39 := Inv.g hI_N_36 hk_12 rfl 0 (a := 0) (b := 3) rfl rfl
        have h_40 := Inv.g hI_M hk_16 rfl 1 (a := 0) (b := 3) rfl rfl
        have h_41 := Inv.g hI_N_36 hk_12 rfl 1 (a := 0) (b := 3) rfl rfl
        have h_42 := Inv.g hI_M hk_16 rfl 2 (a := 0) (b := 7) rfl rfl
        have h_43 := Inv.g hI_N_36 hk_12 rfl 2 (a := 0) (b := 7) rfl rfl
        have h_44 := Inv.g hI_M hk_16 rfl 3 (a := 0) (b := 7) rfl rfl
        have h_45 := Inv.g hI_N_36 hk_12 rfl 3 (a := 0) (b := 7) rfl rfl
        have h_46 := Inv.g hI_M hk_16 rfl 4 (a := 0) (b := 20) rfl rfl
        have h_47 := Inv.g hI_N_36 hk_12 rfl 4 (a := 0) (b := 20) rfl rfl
        have h_48 := Inv.g hI_M hk_16 rfl 5 (a := 0) (b := 2) rfl rfl
        have h_49 := Inv.g hI_N_36 hk_12 rfl 5 (a := 0) (b := 2) rfl rfl
        refine kx_aload_n 35 F 0 dX11_copy_34 rfl rfl rfl ?_
        refine kx_Vv 38 (ci := 0) F (As := []) (st := []) vd_X11_139 (c_X11_forget G l N_36 c0 hI_N_36 hk_c0) hk_c0 rfl rfl rfl ⟨by decide, by decide⟩ rfl rfl (Nat.le_of_ble_eq_true rfl) dX11_copy_35 rfl ?_
        intro N_50 q_51
        obtain ⟨hI_N_50, hG_N_50⟩ := q_51
        have hF_N_50 : Fr f_e_copy2 M N_50 := Fr.c hF_N_36 hG_N_50 rfl
        have hE_N_50 : Cf (zRG (M c0 5) a2) M N_50 := Cf.fr hE_N_36 hG_N_50 rfl
        refine kx_aload_n 39 F 0 dX11_copy_38 rfl rfl rfl ?_
        refine kx_Vi 42 (ci := 0) F (As := []) (st := []) vd_X11_98 (c_X11_agree G l N_50 c0 hI_N_50 hk_c0) hk_c0 rfl rfl rfl ⟨by decide, by decide⟩ rfl rfl (Nat.le_of_ble_eq_true rfl) dX11_copy_39 rfl ?_
        intro r_52 N_53 q_54
        obtain ⟨hI_N_53, hG_N_53, q_54c⟩ := q_54
        have hF_N_53 : Fr f_e_copy2 M N_53 := Fr.c hF_N_50 hG_N_53 rfl
        have hE_N_53 : Cf (zRG (M c0 5) a2) M N_53 := Cf.fr hE_N_50 hG_N_53 rfl
        subst q_54c
        have hAn : AT N_36 (M (M c0 5) 4) (zcopy q a1 a2) (85 * a2 + 100) := AT.bec (b := 185) hA_a1 (by omega) (by omega) (by omega) (by omega) (by omega) (by omega) (Fr.e hG_N_36 hk_12 _ rfl) (Fr.e hG_N_36 hk_12 _ rfl) (Fr.e hG_N_36 hk_12 _ rfl) (Fr.e hG_N_36 hk_12 _ rfl) (Fr.e hG_N_36 hk_12 _ rfl) (Fr.e hG_N_36 hk_12 _ rfl) hbe_N_36.1 hbe_N_36.2 (by unfold zcopy; rw [if_neg (by omega)]) (fun i h0 h1 => by unfold zcopy; rw [if_pos (by omega), show 85 * a2 + 100 + i - 85 * a2 + 85 * a1 = 185 + i by omega]) (by have h := hV.u; exact h.2.2.2.2.2)
        exact kx_zret F hQ (by omega) ⟨hI_N_53, hF_N_53, (by omega), hE_N_53, ⟨(zcopy q a1 a2), Or.inl ⟨by omega, by omega, rfl⟩, zSN.cg hS (funext (fun j => by rw [Fr.e hG_N_53 hk_1 _ rfl, Fr.e hG_N_50 hk_1 _ rfl, Fr.e hG_N_36 hk_1 _ rfl])) (by unfold zcopy; rw [if_neg (by omega)]) (by unfold zcopy; rw [if_neg (by omega)]) (by unfold zcopy; rw [if_neg (by omega)]) (by unfold zcopy; rw [if_neg (by omega)]), zSU.set (a := a2) (x := (M (M c0 5) 4)) hU (by omega) rfl (by omega) hZ hI_M hk_1 hE_N_53 (funext (fun j => by rw [Fr.e hG_N_53 hk_1 _ rfl, Fr.e hG_N_50 hk_1 _ rfl, Fr.e hG_N_36 hk_1 _ rfl])) (AT.fr (AT.fr hAn hI_N_36 hk_12 hG_N_50 rfl) hI_N_50 hk_12 hG_N_53 rfl) (by unfold zcopy; rw [if_neg (by omega)]) (by unfold zcopy; rw [if_neg (by omega)]) (fun i h1 h2 h3 => (by unfold zcopy; rw [if_neg (by omega)])) hV⟩⟩ dX11_copy_42
    · have hA_a2 := hU.2 (by omega)
      have hxz_a2 := (hZ.2.1 (M c0 5) hk_1).2.1
      refine kx_aload_n 24 F 0 dX11_copy_23 rfl rfl rfl ?_
      refine kx_getr 27 F fl_X11_26 hk_c0 rfl rfl (j := 5) rfl dX11_copy_24 (v := (M c0 5)) rfl rfl ?_
      refine kx_iload_n 28 F 1 dX11_copy_27 rfl rfl rfl ?_
      refine kx_Vr 31 (ci := 0) F (As := [vI a1]) (st := [vR G (M (M c0 5) 5)]) vd_X11_164 (c_X5_pickE G l M (M c0 5) a1 hI_M hk_1 (by omega)) hk_1 rfl rfl rfl ⟨by decide, by decide⟩ rfl rfl (Nat.le_of_ble_eq_true rfl) dX11_copy_28 rfl ?_
      intro r_55 N_56 q_57
      obtain ⟨rfl, hk_58, q_57d⟩ := q_57
      rcases q_57d with ⟨q_57c, rfl⟩ | ⟨q_57c, rfl⟩
      · have hA_a1 := hU.1 (by omega)
        have hxz_a1 := (hZ.2.1 (M c0 5) hk_1).1
        refine kx_Vv 34 (ci := 0) F (As := [vR G (M (M c0 5) 4)]) (st := []) vd_X11_222 (e_X0_become G l M (M (M c0 5) 5) (M (M c0 5) 4) hI_M hk_12 hk_58) hk_12 rfl rfl rfl ⟨by decide, by decide⟩ rfl rfl (Nat.le_of_ble_eq_true rfl) dX11_copy_31 rfl ?_
        intro N_59 q_60
        obtain ⟨hI_N_59, hG_N_59, q_60c, hC_N_59, hbe_N_59⟩ := q_60
        have hF_N_59 : Fr f_e_copy2 M N_59 := Fr.c hF_M hG_N_59 rfl
        have hE_N_59 : Cf (zRG (M c0 5) a2) M N_59 := Cf.c hE_M hC_N_59 (fun y hy => by have a := SA.in hy hZ hk_12; have z := hZ.2.1 (M c0 5) hk_1; exact ⟨by omega, by omega, by omega, by omega⟩)
        have h_61 := Inv.g hI_M hk_58 rfl 0 (a := 0) (b := 3) rfl rfl
        have h_62 := Inv.g hI_N_59 hk_12 rfl 0 (a := 0) (b := 3) rfl rfl
        have h_63 := Inv.g hI_M hk_58 rfl 1 (a := 0) (b := 3) rfl rfl
        have h_64 := Inv.g hI_N_59 hk_12 rfl 1 (a := 0) (b := 3) rfl rfl
        have h_65 := Inv.g hI_M hk_58 rfl 2 (a := 0) (b := 7) rfl rfl
        have h_66 := Inv.g hI_N_59 hk_12 rfl 2 (a := 0) (b := 7) rfl rfl
        have h_67 := Inv.g hI_M hk_58 rfl 3 (a := 0) (b := 7) rfl rfl
        have h_68 := Inv.g hI_N_59 hk_12 rfl 3 (a := 0) (b := 7) rfl rfl
        have h_69 := Inv.g hI_M hk_58 rfl 4 (a := 0) (b := 20) rfl rfl
        have h_70 := Inv.g hI_N_59 hk_12 rfl 4 (a := 0) (b := 20) rfl rfl
        have h_71 := Inv.g hI_M hk_58 rfl 5 (a := 0) (b := 2) rfl rfl
        have h_72 := Inv.g hI_N_59 hk_12 rfl 5 (a := 0) (b := 2) rfl rfl
        refine kx_aload_n 35 F 0 dX11_copy_34 rfl rfl rfl ?_
        refine kx_Vv 38 (ci := 0) F (As := []) (st := []) vd_X11_139 (c_X11_forget G l N_59 c0 hI_N_59 hk_c0) hk_c0 rfl rfl rfl ⟨by decide, by decide⟩ rfl rfl (Nat.le_of_ble_eq_true rfl) dX11_copy_35 rfl ?_
        intro N_73 q_74
        obtain ⟨hI_N_73, hG_N_73⟩ := q_74
        have hF_N_73 : Fr f_e_copy2 M N_73 := Fr.c hF_N_59 hG_N_73 rfl
        have hE_N_73 : Cf (zRG (M c0 5) a2) M N_73 := Cf.fr hE_N_59 hG_N_73 rfl
        refine kx_aload_n 39 F 0 dX11_copy_38 rfl rfl rfl ?_
        refine kx_Vi 42 (ci := 0) F (As := []) (st := []) vd_X11_98 (c_X11_agree G l N_73 c0 hI_N_73 hk_c0) hk_c0 rfl rfl rfl ⟨by decide, by decide⟩ rfl rfl (Nat.le_of_ble_eq_true rfl) dX11_copy_39 rfl ?_
        intro r_75 N_76 q_77
        obtain ⟨hI_N_76, hG_N_76, q_77c⟩ := q_77
        have hF_N_76 : Fr f_e_copy2 M N_76 := Fr.c hF_N_73 hG_N_76 rfl
        have hE_N_76 : Cf (zRG (M c0 5) a2) M N_76 := Cf.fr hE_N_73 hG_N_76 rfl
        subst q_77c
        have hAn : AT N_59 (M (M c0 5) 5) (zcopy q a1 a2) (85 * a2 + 100) := AT.bec (b := 100) hA_a1 (by omega) (by omega) (by omega) (by omega) (by omega) (by omega) (Fr.e hG_N_59 hk_12 _ rfl) (Fr.e hG_N_59 hk_12 _ rfl) (Fr.e hG_N_59 hk_12 _ rfl) (Fr.e hG_N_59 hk_12 _ rfl) (Fr.e hG_N_59 hk_12 _ rfl) (Fr.e hG_N_59 hk_12 _ rfl) hbe_N_59.1 hbe_N_59.2 (by unfold zcopy; rw [if_neg (by omega)]) (fun i h0 h1 => by unfold zcopy; rw [if_pos (by omega), show 85 * a2 + 100 + i - 85 * a2 + 85 * a1 = 100 + i by omega]) (by have h := hV.u; exact h.2.2.2.1)
        exact kx_zret F hQ (by omega) ⟨hI_N_76, hF_N_76, (by omega), hE_N_76, ⟨(zcopy q a1 a2), Or.inl ⟨by omega, by omega, rfl⟩, zSN.cg hS (funext (fun j => by rw [Fr.e hG_N_76 hk_1 _ rfl, Fr.e hG_N_73 hk_1 _ rfl, Fr.e hG_N_59 hk_1 _ rfl])) (by unfold zcopy; rw [if_neg (by omega)]) (by unfold zcopy; rw [if_neg (by omega)]) (by unfold zcopy; rw [if_neg (by omega)]) (by unfold zcopy; rw [if_neg (by omega)]), zSU.set (a := a2) (x := (M (M c0 5) 5)) hU (by omega) rfl (by omega) hZ hI_M hk_1 hE_N_76 (funext (fun j => by rw [Fr.e hG_N_76 hk_1 _ rfl, Fr.e hG_N_73 hk_1 _ rfl, Fr.e hG_N_59 hk_1 _ rfl])) (AT.fr (AT.fr hAn hI_N_59 hk_12 hG_N_73 rfl) hI_N_73 hk_12 hG_N_76 rfl) (by unfold zcopy; rw [if_neg (by omega)]) (by unfold zcopy; rw [if_neg (by omega)]) (fun i h1 h2 h3 => (by unfold zcopy; rw [if_neg (by omega)])) hV⟩⟩ dX11_copy_42
      · have hA_a1 := hU.2 (by omega)
        have hxz_a1 := (hZ.2.1 (M c0 5) hk_1).2.1
        refine kx_Vv 34 (ci := 0) F (As := [vR G (M (M c0 5) 5)]) (st := []) vd_X11_222 (e_X0_become G l M (M (M c0 5) 5) (M (M c0 5) 5) hI_M hk_58 hk_58) hk_58 rfl rfl rfl ⟨by decide, by decide⟩ rfl rfl (Nat.le_of_ble_eq_true rfl) dX11_copy_31 rfl ?_
        intro N_78 q_79
        obtain ⟨hI_N_78, hG_N_78, q_79c, hC_N_78, hbe_N_78⟩ := q_79
        have hF_N_78 : Fr f_e_copy2 M N_78 := Fr.c hF_M hG_N_78 rfl
        have hE_N_78 : Cf (zRG (M c0 5) a2) M N_78 := Cf.c hE_M hC_N_78 (fun y hy => by have a := SA.in hy hZ hk_58; have z := hZ.2.1 (M c0 5) hk_1; exact ⟨by omega, by omega, by omega, by omega⟩)
        have h_80 := Inv.g hI_M hk_58 rfl 0 (a := 0) (b := 3) rfl rfl
        have h_81 := Inv.g hI_N_78 hk_58 rfl 0 (a := 0) (b := 3) rfl rfl
        have h_82 := Inv.g hI_M hk_58 rfl 1 (a := 0) (b := 3) rfl rfl
        have h_83 := Inv.g hI_N_78 hk_58 rfl 1 (a := 0) (b := 3) rfl rfl
        have h_84 := Inv.g hI_M hk_58 rfl 2 (a := 0) (b := 7) rfl rfl
        have h_85 := Inv.g hI_N_78 hk_58 rfl 2 (a := 0) (b := 7) rfl rfl
        have h_86 := Inv.g hI_M hk_58 rfl 3 (a := 0) (b := 7) rfl rfl
        have h_87 := Inv.g hI_N_78 hk_58 rfl 3 (a := 0) (b := 7) rfl rfl
        have h_88 := Inv.g hI_M hk_58 rfl 4 (a := 0) (b := 20) rfl rfl
        have h_89 := Inv.g hI_N_78 hk_58 rfl 4 (a := 0) (b := 20) rfl rfl
        have h_90 := Inv.g hI_M hk_58 rfl 5 (a := 0) (b := 2) rfl rfl
        have h_91 := Inv.g hI_N_78 hk_58 rfl 5 (a := 0) (b := 2) rfl rfl
        refine kx_aload_n 35 F 0 dX11_copy_34 rfl rfl rfl ?_
        refine kx_Vv 38 (ci := 0) F (As := []) (st := []) vd_X11_139 (c_X11_forget G l N_78 c0 hI_N_78 hk_c0) hk_c0 rfl rfl rfl ⟨by decide, by decide⟩ rfl rfl (Nat.le_of_ble_eq_true rfl) dX11_copy_35 rfl ?_
        intro N_92 q_93
        obtain ⟨hI_N_92, hG_N_92⟩ := q_93
        have hF_N_92 : Fr f_e_copy2 M N_92 := Fr.c hF_N_78 hG_N_92 rfl
        have hE_N_92 : Cf (zRG (M c0 5) a2) M N_92 := Cf.fr hE_N_78 hG_N_92 rfl
        refine kx_aload_n 39 F 0 dX11_copy_38 rfl rfl rfl ?_
        refine kx_Vi 42 (ci := 0) F (As := []) (st := []) vd_X11_98 (c_X11_agree G l N_92 c0 hI_N_92 hk_c0) hk_c0 rfl rfl rfl ⟨by decide, by decide⟩ rfl rfl (Nat.le_of_ble_eq_true rfl) dX11_copy_39 rfl ?_
        intro r_94 N_95 q_96
        obtain ⟨hI_N_95, hG_N_95, q_96c⟩ := q_96
        have hF_N_95 : Fr f_e_copy2 M N_95 := Fr.c hF_N_92 hG_N_95 rfl
        have hE_N_95 : Cf (zRG (M c0 5) a2) M N_95 := Cf.fr hE_N_92 hG_N_95 rfl
        subst q_96c
        have hAn : AT N_78 (M (M c0 5) 5) (zcopy q a1 a2) (85 * a2 + 100) := AT.bec (b := 185) hA_a1 (by omega) (by omega) (by omega) (by omega) (by omega) (by omega) (Fr.e hG_N_78 hk_58 _ rfl) (Fr.e hG_N_78 hk_58 _ rfl) (Fr.e hG_N_78 hk_58 _ rfl) (Fr.e hG_N_78 hk_58 _ rfl) (Fr.e hG_N_78 hk_58 _ rfl) (Fr.e hG_N_78 hk_58 _ rfl) hbe_N_78.1 hbe_N_78.2 (by unfold zcopy; rw [if_neg (by omega)]) (fun i h0 h1 => by unfold zcopy; rw [if_pos (by omega), show 85 * a2 + 100 + i - 85 * a2 + 85 * a1 = 185 + i by omega]) (by have h := hV.u; exact h.2.2.2.2.2)
        exact kx_zret F hQ (by omega) ⟨hI_N_95, hF_N_95, (by omega), hE_N_95, ⟨(zcopy q a1 a2), Or.inl ⟨by omega, by omega, rfl⟩, zSN.cg hS (funext (fun j => by rw [Fr.e hG_N_95 hk_1 _ rfl, Fr.e hG_N_92 hk_1 _ rfl, Fr.e hG_N_78 hk_1 _ rfl])) (by unfold zcopy; rw [if_neg (by omega)]) (by unfold zcopy; rw [if_neg (by omega)]) (by unfold zcopy; rw [if_neg (by omega)]) (by unfold zcopy; rw [if_neg (by omega)]), zSU.set (a := a2) (x := (M (M c0 5) 5)) hU (by omega) rfl (by omega) hZ hI_M hk_1 hE_N_95 (funext (fun j => by rw [Fr.e hG_N_95 hk_1 _ rfl, Fr.e hG_N_92 hk_1 _ rfl, Fr.e hG_N_78 hk_1 _ rfl])) (AT.fr (AT.fr hAn hI_N_78 hk_58 hG_N_92 rfl) hI_N_92 hk_58 hG_N_95 rfl) (by unfold zcopy; rw [if_neg (by omega)]) (by unfold zcopy; rw [if_neg (by omega)]) (fun i h1 h2 h3 => (by unfold zcopy; rw [if_neg (by omega)])) hV⟩⟩ dX11_copy_42
  · refine kx_if_ne 9 F 15 dX11_copy_6 (by decide) rfl (by omega) (fun h_97 => (by exfalso; omega)) (fun h_97 => ?_)
    refine kx_aload_n 10 F 0 dX11_copy_9 rfl rfl rfl ?_
    refine kx_iconst 11 F dX11_copy_10 rfl ?_
    refine kx_Vi 14 (ci := 0) F (As := [vI 1]) (st := []) vd_X11_91 (c_X11_deny G l M c0 1 hI_M hk_c0 (by omega)) hk_c0 rfl rfl rfl ⟨by decide, by decide⟩ rfl rfl (Nat.le_of_ble_eq_true rfl) dX11_copy_11 rfl ?_
    intro r_98 N_99 q_100
    obtain ⟨hI_N_99, hG_N_99, q_100c⟩ := q_100
    have hF_N_99 : Fr f_e_copy2 M N_99 := Fr.c hF_M hG_N_99 rfl
    have hE_N_99 : Cf (zRG (M c0 5) a2) M N_99 := Cf.fr hE_M hG_N_99 rfl
    subst q_100c
    exact kx_zret F hQ (by omega) ⟨hI_N_99, hF_N_99, (by omega), hE_N_99, ⟨q, Or.inr ⟨fun h => by omega, by omega, rfl⟩, (zSN.fr hS hk_1 hG_N_99 rfl), (zSU.fr hU hI_M hk_1 hG_N_99 rfl)⟩⟩ dX11_copy_14
  · refine kx_if_ne 9 F 15 dX11_copy_6 (by decide) rfl (by omega) (fun h_101 => (by exfalso; omega)) (fun h_101 => ?_)
    refine kx_aload_n 10 F 0 dX11_copy_9 rfl rfl rfl ?_
    refine kx_iconst 11 F dX11_copy_10 rfl ?_
    refine kx_Vi 14 (ci := 0) F (As := [vI 1]) (st := []) vd_X11_91 (c_X11_deny G l M c0 1 hI_M hk_c0 (by omega)) hk_c0 rfl rfl rfl ⟨by decide, by decide⟩ rfl rfl (Nat.le_of_ble_eq_true rfl) dX11_copy_11 rfl ?_
    intro r_102 N_103 q_104
    obtain ⟨hI_N_103, hG_N_103, q_104c⟩ := q_104
    have hF_N_103 : Fr f_e_copy2 M N_103 := Fr.c hF_M hG_N_103 rfl
    have hE_N_103 : Cf (zRG (M c0 5) a2) M N_103 := Cf.fr hE_M hG_N_103 rfl
    subst q_104c
    exact kx_zret F hQ (by omega) ⟨hI_N_103, hF_N_103, (by omega), hE_N_103, ⟨q, Or.inr ⟨fun h => by omega, by omega, rfl⟩, (zSN.fr hS hk_1 hG_N_103 rfl), (zSU.fr hU hI_M hk_1 hG_N_103 rfl)⟩⟩ dX11_copy_14
  · refine kx_if_ne 9 F 15 dX11_copy_6 (by decide) rfl (by omega) (fun h_105 => (by exfalso; omega)) (fun h_105 => ?_)
    refine kx_aload_n 10 F 0 dX11_copy_9 rfl rfl rfl ?_
    refine kx_iconst 11 F dX11_copy_10 rfl ?_
    refine kx_Vi 14 (ci := 0) F (As := [vI 1]) (st := []) vd_X11_91 (c_X11_deny G l M c0 1 hI_M hk_c0 (by omega)) hk_c0 rfl rfl rfl ⟨by decide, by decide⟩ rfl rfl (Nat.le_of_ble_eq_true rfl) dX11_copy_11 rfl ?_
    intro r_106 N_107 q_108
    obtain ⟨hI_N_107, hG_N_107, q_108c⟩ := q_108
    have hF_N_107 : Fr f_e_copy2 M N_107 := Fr.c hF_M hG_N_107 rfl
    have hE_N_107 : Cf (zRG (M c0 5) a2) M N_107 := Cf.fr hE_M hG_N_107 rfl
    subst q_108c
    exact kx_zret F hQ (by omega) ⟨hI_N_107, hF_N_107, (by omega), hE_N_107, ⟨q, Or.inr ⟨fun h => by omega, by omega, rfl⟩, (zSN.fr hS hk_1 hG_N_107 rfl), (zSU.fr hU hI_M hk_1 hG_N_107 rfl)⟩⟩ dX11_copy_14
  · refine kx_if_ne 9 F 15 dX11_copy_6 (by decide) rfl (by omega) (fun h_109 => (by exfalso; omega)) (fun h_109 => ?_)
    refine kx_aload_n 10 F 0 dX11_copy_9 rfl rfl rfl ?_
    refine kx_iconst 11 F dX11_copy_10 rfl ?_
    refine kx_Vi 14 (ci := 0) F (As := [vI 1]) (st := []) vd_X11_91 (c_X11_deny G l M c0 1 hI_M hk_c0 (by omega)) hk_c0 rfl rfl rfl ⟨by decide, by decide⟩ rfl rfl (Nat.le_of_ble_eq_true rfl) dX11_copy_11 rfl ?_
    intro r_110 N_111 q_112
    obtain ⟨hI_N_111, hG_N_111, q_112c⟩ := q_112
    have hF_N_111 : Fr f_e_copy2 M N_111 := Fr.c hF_M hG_N_111 rfl
    have hE_N_111 : Cf (zRG (M c0 5) a2) M N_111 := Cf.fr hE_M hG_N_111 rfl
    subst q_112c
    exact kx_zret F hQ (by omega) ⟨hI_N_111, hF_N_111, (by omega), hE_N_111, ⟨q, Or.inr ⟨fun h => by omega, by omega, rfl⟩, (zSN.fr hS hk_1 hG_N_111 rfl), (zSU.fr hU hI_M hk_1 hG_N_111 rfl)⟩⟩ dX11_copy_14
  · refine kx_if_ne 9 F 15 dX11_copy_6 (by decide) rfl (by omega) (fun h_113 => (by exfalso; omega)) (fun h_113 => ?_)
    refine kx_aload_n 10 F 0 dX11_copy_9 rfl rfl rfl ?_
    refine kx_iconst 11 F dX11_copy_10 rfl ?_
    refine kx_Vi 14 (ci := 0) F (As := [vI 1]) (st := []) vd_X11_91 (c_X11_deny G l M c0 1 hI_M hk_c0 (by omega)) hk_c0 rfl rfl rfl ⟨by decide, by decide⟩ rfl rfl (Nat.le_of_ble_eq_true rfl) dX11_copy_11 rfl ?_
    intro r_114 N_115 q_116
    obtain ⟨hI_N_115, hG_N_115, q_116c⟩ := q_116
    have hF_N_115 : Fr f_e_copy2 M N_115 := Fr.c hF_M hG_N_115 rfl
    have hE_N_115 : Cf (zRG (M c0 5) a2) M N_115 := Cf.fr hE_M hG_N_115 rfl
    subst q_116c
    exact kx_zret F hQ (by omega) ⟨hI_N_115, hF_N_115, (by omega), hE_N_115, ⟨q, Or.inr ⟨fun h => by omega, by omega, rfl⟩, (zSN.fr hS hk_1 hG_N_115 rfl), (zSU.fr hU hI_M hk_1 hG_N_115 rfl)⟩⟩ dX11_copy_14
