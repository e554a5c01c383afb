abbrev f_e_X0_become : List (Nat × Int) := [(1, 0), (1, 1), (1, 2), (1, 3), (1, 4), (1, 5), (2, -1), (3, -1), (4, -1), (5, -1), (6, -1), (7, -1)]
set_option maxHeartbeats 4000000 in
set_option maxRecDepth 100000 in
theorem e_X0_become (G : KG) (l : Launch) (M : Mem) (c0 : Int) (c1 : Int) (hI_M : Inv false M) (hk_c0 : kd c0 = 1) (hk_c1 : kd c1 = 1) : KC false G l yX0_become cX0_become 2 none (1, 18) [vR G c0, vR G c1] M (fun A => kQv false G A (fun (N : Mem) => Inv false N ∧ Fr f_e_X0_become M N ∧ ((N c0 0) = (M c1 0) ∧ (N c0 1) = (M c1 1) ∧ (N c0 2) = (M c1 2) ∧ (N c0 3) = (M c1 3) ∧ (N c0 4) = (M c1 4) ∧ (N c0 5) = (M c1 5)) ∧ Cf (SA M c0) M N ∧ (zBE N M c0 c1 ∧ zBX N M c0 c1))) := by
  refine kx_met (lo := [some (vR G c0), some (vR G c1)]) (by decide) (Nat.le_of_ble_eq_true rfl) rfl ?_
  intro X F hQ
  have hF_M : Fr f_e_X0_become M M := Fr.rf _ _
  have hE_M : Cf (SA M c0) M M := Cf.rf _ _
  have hk_1 : kd (M c0 6) = 2 := Inv.r hI_M hk_c0 rfl 6 rfl rfl
  have hk_2 : kd (M c0 7) = 3 := Inv.r hI_M hk_c0 rfl 7 rfl rfl
  have hk_3 : kd (M c0 8) = 4 := Inv.r hI_M hk_c0 rfl 8 rfl rfl
  have hk_4 : kd (M c0 9) = 5 := Inv.r hI_M hk_c0 rfl 9 rfl rfl
  have hk_5 : kd (M c0 10) = 6 := Inv.r hI_M hk_c0 rfl 10 rfl rfl
  have hk_6 : kd (M c0 11) = 7 := Inv.r hI_M hk_c0 rfl 11 rfl rfl
  have hk_7 : kd (M c1 6) = 2 := Inv.r hI_M hk_c1 rfl 6 rfl rfl
  have hk_8 : kd (M c1 7) = 3 := Inv.r hI_M hk_c1 rfl 7 rfl rfl
  have hk_9 : kd (M c1 8) = 4 := Inv.r hI_M hk_c1 rfl 8 rfl rfl
  have hk_10 : kd (M c1 9) = 5 := Inv.r hI_M hk_c1 rfl 9 rfl rfl
  have hk_11 : kd (M c1 10) = 6 := Inv.r hI_M hk_c1 rfl 10 rfl rfl
  have hk_12 : kd (M c1 11) = 7 := Inv.r hI_M hk_c1 rfl 11 rfl rfl
  refine kx_aload_n 1 F 0 dX0_become_0 rfl rfl rfl ?_
  refine kx_aload_n 2 F 1 dX0_become_1 rfl rfl rfl ?_
  refine kx_geti 5 F fl_X0_30 hk_c1 rfl rfl (j := 5) rfl dX0_become_2 (v := (M c1 5)) rfl rfl ?_
  have h_13 := Inv.g hI_M hk_c1 rfl 5 (a := 0) (b := 2) rfl rfl
  refine kx_puti 8 F fw_X0_30 rfl hk_c0 rfl rfl (j := 5) rfl dX0_become_5 rfl ?_
  intro N_14 hM_N_14
  have hI_N_14 : Inv false N_14 := Inv.u hI_M hM_N_14 hk_c0 (a := 0) (b := 2) rfl rfl rfl (by omega)
  have hF_N_14 : Fr f_e_X0_become M N_14 := Fr.u hF_M hM_N_14 hk_c0 rfl
  have hE_N_14 : Cf (SA M c0) M N_14 := Cf.st hE_M hM_N_14 (sa_0 M c0)
  refine kx_aload_n 9 F 0 dX0_become_8 rfl rfl rfl ?_
  refine kx_aload_n 10 F 1 dX0_become_9 rfl rfl rfl ?_
  refine kx_geti 13 F fl_X0_34 hk_c1 rfl rfl (j := 0) rfl dX0_become_10 (v := (M c1 0)) (by rw [hM_N_14, mu_i (by omega)]) rfl ?_
  have h_15 := Inv.g hI_M hk_c1 rfl 0 (a := 0) (b := 3) rfl rfl
  refine kx_puti 16 F fw_X0_34 rfl hk_c0 rfl rfl (j := 0) rfl dX0_become_13 rfl ?_
  intro N_16 hM_N_16
  have hI_N_16 : Inv false N_16 := Inv.u hI_N_14 hM_N_16 hk_c0 (a := 0) (b := 3) rfl rfl rfl (by omega)
  have hF_N_16 : Fr f_e_X0_become M N_16 := Fr.u hF_N_14 hM_N_16 hk_c0 rfl
  have hE_N_16 : Cf (SA M c0) M N_16 := Cf.st hE_N_14 hM_N_16 (sa_0 M c0)
  refine kx_aload_n 17 F 0 dX0_become_16 rfl rfl rfl ?_
  refine kx_aload_n 18 F 1 dX0_become_17 rfl rfl rfl ?_
  refine kx_geti 21 F fl_X0_37 hk_c1 rfl rfl (j := 1) rfl dX0_become_18 (v := (M c1 1)) (by rw [hM_N_16, mu_i (by omega), hM_N_14, mu_i (by omega)]) rfl ?_
  have h_17 := Inv.g hI_M hk_c1 rfl 1 (a := 0) (b := 3) rfl rfl
  refine kx_puti 24 F fw_X0_37 rfl hk_c0 rfl rfl (j := 1) rfl dX0_become_21 rfl ?_
  intro N_18 hM_N_18
  have hI_N_18 : Inv false N_18 := Inv.u hI_N_16 hM_N_18 hk_c0 (a := 0) (b := 3) rfl rfl rfl (by omega)
  have hF_N_18 : Fr f_e_X0_become M N_18 := Fr.u hF_N_16 hM_N_18 hk_c0 rfl
  have hE_N_18 : Cf (SA M c0) M N_18 := Cf.st hE_N_16 hM_N_18 (sa_0 M c0)
  refine kx_aload_n 25 F 0 dX0_become_24 rfl rfl rfl ?_
  refine kx_aload_n 26 F 1 dX0_become_25 rfl rfl rfl ?_
  refine kx_geti 29 F fl_X0_40 hk_c1 rfl rfl (j := 2) rfl dX0_become_26 (v := (M c1 2)) (by rw [hM_N_18, mu_i (by omega), hM_N_16, mu_i (by omega), hM_N_14, mu_i (by omega)]) rfl ?_
  have h_19 := Inv.g hI_M hk_c1 rfl 2 (a := 0) (b := 7) rfl rfl
  refine kx_puti 32 F fw_X0_40 rfl hk_c0 rfl rfl (j := 2) rfl dX0_become_29 rfl ?_
  intro N_20 hM_N_20
  have hI_N_20 : Inv false N_20 := Inv.u hI_N_18 hM_N_20 hk_c0 (a := 0) (b := 7) rfl rfl rfl (by omega)
  have hF_N_20 : Fr f_e_X0_become M N_20 := Fr.u hF_N_18 hM_N_20 hk_c0 rfl
  have hE_N_20 : Cf (SA M c0) M N_20 := Cf.st hE_N_18 hM_N_20 (sa_0 M c0)
  refine kx_aload_n 33 F 0 dX0_become_32 rfl rfl rfl ?_
  refine kx_aload_n 34 F 1 dX0_become_33 rfl rfl rfl ?_
  refine kx_geti 37 F fl_X0_43 hk_c1 rfl rfl (j := 3) rfl dX0_become_34 (v := (M c1 3)) (by rw [hM_N_20, mu_i (by omega), hM_N_18, mu_i (by omega), hM_N_16, mu_i (by omega), hM_N_14, mu_i (by omega)]) rfl ?_
  have h_21 := Inv.g hI_M hk_c1 rfl 3 (a := 0) (b := 7) rfl rfl
  refine kx_puti 40 F fw_X0_43 rfl hk_c0 rfl rfl (j := 3) rfl dX0_become_37 rfl ?_
  intro N_22 hM_N_22
  have hI_N_22 : Inv false N_22 := Inv.u hI_N_20 hM_N_22 hk_c0 (a := 0) (b := 7) rfl rfl rfl (by omega)
  have hF_N_22 : Fr f_e_X0_become M N_22 := Fr.u hF_N_20 hM_N_22 hk_c0 rfl
  have hE_N_22 : Cf (SA M c0) M N_22 := Cf.st hE_N_20 hM_N_22 (sa_0 M c0)
  refine kx_aload_n 41 F 0 dX0_become_40 rfl rfl rfl ?_
  refine kx_aload_n 42 F 1 dX0_become_41 rfl rfl rfl ?_
  refine kx_geti 45 F fl_X0_46 hk_c1 rfl rfl (j := 4) rfl dX0_become_42 (v := (M c1 4)) (by rw [hM_N_22, mu_i (by omega), hM_N_20, mu_i (by omega), hM_N_18, mu_i (by omega), hM_N_16, mu_i (by omega), hM_N_14, mu_i (by omega)]) rfl ?_
  have h_23 := Inv.g hI_M hk_c1 rfl 4 (a := 0) (b := 20) rfl rfl
  refine kx_puti 48 F fw_X0_46 rfl hk_c0 rfl rfl (j := 4) rfl dX0_become_45 rfl ?_
  intro N_24 hM_N_24
  have hI_N_24 : Inv false N_24 := Inv.u hI_N_22 hM_N_24 hk_c0 (a := 0) (b := 20) rfl rfl rfl (by omega)
  have hF_N_24 : Fr f_e_X0_become M N_24 := Fr.u hF_N_22 hM_N_24 hk_c0 rfl
  have hE_N_24 : Cf (SA M c0) M N_24 := Cf.st hE_N_22 hM_N_24 (sa_0 M c0)
  refine kx_aload_n 49 F 1 dX0_become_48 rfl rfl rfl ?_
  refine kx_getr 52 F fl_X0_9 hk_c1 rfl rfl (j := 6) rfl dX0_become_49 (v := (M c1 6)) (by rw [hM_N_24, mu_i (by omega), hM_N_22, mu_i (by omega), hM_N_20, mu_i (by omega), hM_N_18, mu_i (by omega), hM_N_16, mu_i (by omega), hM_N_14, mu_i (by omega)]) rfl ?_
  refine kx_iconst 53 F dX0_become_52 rfl ?_
  refine kx_aload_n 54 F 0 dX0_become_53 rfl rfl rfl ?_
  refine kx_getr 57 F fl_X0_9 hk_c0 rfl rfl (j := 6) rfl dX0_become_54 (v := (M c0 6)) (by rw [hM_N_24, mu_i (by omega), hM_N_22, mu_i (by omega), hM_N_20, mu_i (by omega), hM_N_18, mu_i (by omega), hM_N_16, mu_i (by omega), hM_N_14, mu_i (by omega)]) rfl ?_
  refine kx_iconst 58 F dX0_become_57 rfl ?_
  refine kx_bipush 60 F dX0_become_58 (by decide) rfl ?_
  refine kx_copyi 63 F hk_7 rfl rfl hk_1 rfl rfl dX0_become_60 (tt lm_1068 rfl) (tt lm_782 rfl) (tt lm_781 rfl) (tt lm_186 rfl) (by omega) (by decide) (by decide) (Nat.le_of_ble_eq_true rfl) rfl ?_
  intro N_25 hM_N_25
  have hI_N_25 : Inv false N_25 := Inv.cp hI_N_24 hM_N_25 hk_7 hk_1 rfl (x := 0) (y := 5) (fun _ => rfl) (fun _ => rfl) (fun _ => rfl) (fun _ => rfl) (fun _ => rfl)
  have hF_N_25 : Fr f_e_X0_become M N_25 := Fr.cp hF_N_24 hM_N_25 hk_1 (fun _ => rfl)
  have hE_N_25 : Cf (SA M c0) M N_25 := Cf.cp hE_N_24 hM_N_25 (sa_6 M c0)
  refine kx_aload_n 64 F 1 dX0_become_63 rfl rfl rfl ?_
  refine kx_getr 67 F fl_X0_15 hk_c1 rfl rfl (j := 7) rfl dX0_become_64 (v := (M c1 7)) (by rw [hM_N_25, mcp_k hk_c1 hk_1 rfl, hM_N_24, mu_i (by omega), hM_N_22, mu_i (by omega), hM_N_20, mu_i (by omega), hM_N_18, mu_i (by omega), hM_N_16, mu_i (by omega), hM_N_14, mu_i (by omega)]) rfl ?_
  refine kx_iconst 68 F dX0_become_67 rfl ?_
  refine kx_aload_n 69 F 0 dX0_become_68 rfl rfl rfl ?_
  refine kx_getr 72 F fl_X0_15 hk_c0 rfl rfl (j := 7) rfl dX0_become_69 (v := (M c0 7)) (by rw [hM_N_25, mcp_k hk_c0 hk_1 rfl, hM_N_24, mu_i (by omega), hM_N_22, mu_i (by omega), hM_N_20, mu_i (by omega), hM_N_18, mu_i (by omega), hM_N_16, mu_i (by omega), hM_N_14, mu_i (by omega)]) rfl ?_
  refine kx_iconst 73 F dX0_become_72 rfl ?_
  refine kx_bipush 75 F dX0_become_73 (by decide) rfl ?_
  refine kx_copyi 78 F hk_8 rfl rfl hk_2 rfl rfl dX0_become_75 (tt lm_1068 rfl) (tt lm_782 rfl) (tt lm_781 rfl) (tt lm_186 rfl) (by omega) (by decide) (by decide) (Nat.le_of_ble_eq_true rfl) rfl ?_
  intro N_26 hM_N_26
  have hI_N_26 : Inv false N_26 := Inv.cp hI_N_25 hM_N_26 hk_8 hk_2 rfl (x := 0) (y := 2) (fun _ => rfl) (fun _ => rfl) (fun _ => rfl) (fun _ => rfl) (fun _ => rfl)
  have hF_N_26 : Fr f_e_X0_become M N_26 := Fr.cp hF_N_25 hM_N_26 hk_2 (fun _ => rfl)
  have hE_N_26 : Cf (SA M c0) M N_26 := Cf.cp hE_N_25 hM_N_26 (sa_7 M c0)
  refine kx_aload_n 79 F 1 dX0_become_78 rfl rfl rfl ?_
  refine kx_getr 82 F fl_X0_18 hk_c1 rfl rfl (j := 8) rfl dX0_become_79 (v := (M c1 8)) (by rw [hM_N_26, mcp_k hk_c1 hk_2 rfl, hM_N_25, mcp_k hk_c1 hk_1 rfl, hM_N_24, mu_i (by omega), hM_N_22, mu_i (by omega), hM_N_20, mu_i (by omega), hM_N_18, mu_i (by omega), hM_N_16, mu_i (by omega), hM_N_14, mu_i (by omega)]) rfl ?_
  refine kx_iconst 83 F dX0_become_82 rfl ?_
  refine kx_aload_n 84 F 0 dX0_become_83 rfl rfl rfl ?_
  refine kx_getr 87 F fl_X0_18 hk_c0 rfl rfl (j := 8) rfl dX0_become_84 (v := (M c0 8)) (by rw [hM_N_26, mcp_k hk_c0 hk_2 rfl, hM_N_25, mcp_k hk_c0 hk_1 rfl, hM_N_24, mu_i (by omega), hM_N_22, mu_i (by omega), hM_N_20, mu_i (by omega), hM_N_18, mu_i (by omega), hM_N_16, mu_i (by omega), hM_N_14, mu_i (by omega)]) rfl ?_
  refine kx_iconst 88 F dX0_become_87 rfl ?_
  refine kx_bipush 90 F dX0_become_88 (by decide) rfl ?_
  refine kx_copyi 93 F hk_9 rfl rfl hk_3 rfl rfl dX0_become_90 (tt lm_1068 rfl) (tt lm_782 rfl) (tt lm_781 rfl) (tt lm_186 rfl) (by omega) (by decide) (by decide) (Nat.le_of_ble_eq_true rfl) rfl ?_
  intro N_27 hM_N_27
  have hI_N_27 : Inv false N_27 := Inv.cp hI_N_26 hM_N_27 hk_9 hk_3 rfl (x := 0) (y := 2) (fun _ => rfl) (fun _ => rfl) (fun _ => rfl) (fun _ => rfl) (fun _ => rfl)
  have hF_N_27 : Fr f_e_X0_become M N_27 := Fr.cp hF_N_26 hM_N_27 hk_3 (fun _ => rfl)
  have hE_N_27 : Cf (SA M c0) M N_27 := Cf.cp hE_N_26 hM_N_27 (sa_8 M c0)
  refine kx_aload_n 94 F 1 dX0_become_93 rfl rfl rfl ?_
  refine kx_getr 97 F fl_X0_21 hk_c1 rfl rfl (j := 9) rfl dX0_become_94 (v := (M c1 9)) (by rw [hM_N_27, mcp_k hk_c1 hk_3 rfl, hM_N_26, mcp_k hk_c1 hk_2 rfl, hM_N_25, mcp_k hk_c1 hk_1 rfl, hM_N_24, mu_i (by omega), hM_N_22, mu_i (by omega), hM_N_20, mu_i (by omega), hM_N_18, mu_i (by omega), hM_N_16, mu_i (by omega), hM_N_14, mu_i (by omega)]) rfl ?_
  refine kx_iconst 98 F dX0_become_97 rfl ?_
  refine kx_aload_n 99 F 0 dX0_become_98 rfl rfl rfl ?_
  refine kx_getr 102 F fl_X0_21 hk_c0 rfl rfl (j := 9) rfl dX0_become_99 (v := (M c0 9)) (by rw [hM_N_27, mcp_k hk_c0 hk_3 rfl, hM_N_26, mcp_k hk_c0 hk_2 rfl, hM_N_25, mcp_k hk_c0 hk_1 rfl, hM_N_24, mu_i (by omega), hM_N_22, mu_i (by omega), hM_N_20, mu_i (by omega), hM_N_18, mu_i (by omega), hM_N_16, mu_i (by omega), hM_N_14, mu_i (by omega)]) rfl ?_
  refine kx_iconst 103 F dX0_become_102 rfl ?_
  refine kx_bipush 105 F dX0_become_103 (by decide) rfl ?_
  refine kx_copyi 108 F hk_10 rfl rfl hk_4 rfl rfl dX0_become_105 (tt lm_1068 rfl) (tt lm_782 rfl) (tt lm_781 rfl) (tt lm_186 rfl) (by omega) (by decide) (by decide) (Nat.le_of_ble_eq_true rfl) rfl ?_
  intro N_28 hM_N_28
  have hI_N_28 : Inv false N_28 := Inv.cp hI_N_27 hM_N_28 hk_10 hk_4 rfl (x := (-1)) (y := 2) (fun _ => rfl) (fun _ => rfl) (fun _ => rfl) (fun _ => rfl) (fun _ => rfl)
  have hF_N_28 : Fr f_e_X0_become M N_28 := Fr.cp hF_N_27 hM_N_28 hk_4 (fun _ => rfl)
  have hE_N_28 : Cf (SA M c0) M N_28 := Cf.cp hE_N_27 hM_N_28 (sa_9 M c0)
  refine kx_aload_n 109 F 1 dX0_become_108 rfl rfl rfl ?_
  refine kx_getr 112 F fl_X0_24 hk_c1 rfl rfl (j := 10) rfl dX0_become_109 (v := (M c1 10)) (by rw [hM_N_28, mcp_k hk_c1 hk_4 rfl, hM_N_27, mcp_k hk_c1 hk_3 rfl, hM_N_26, mcp_k hk_c1 hk_2 rfl, hM_N_25, mcp_k hk_c1 hk_1 rfl, hM_N_24, mu_i (by omega), hM_N_22, mu_i (by omega), hM_N_20, mu_i (by omega), hM_N_18, mu_i (by omega), hM_N_16, mu_i (by omega), hM_N_14, mu_i (by omega)]) rfl ?_
  refine kx_iconst 113 F dX0_become_112 rfl ?_
  refine kx_aload_n 114 F 0 dX0_become_113 rfl rfl rfl ?_
  refine kx_getr 117 F fl_X0_24 hk_c0 rfl rfl (j := 10) rfl dX0_become_114 (v := (M c0 10)) (by rw [hM_N_28, mcp_k hk_c0 hk_4 rfl, hM_N_27, mcp_k hk_c0 hk_3 rfl, hM_N_26, mcp_k hk_c0 hk_2 rfl, hM_N_25, mcp_k hk_c0 hk_1 rfl, hM_N_24, mu_i (by omega), hM_N_22, mu_i (by omega), hM_N_20, mu_i (by omega), hM_N_18, mu_i (by omega), hM_N_16, mu_i (by omega), hM_N_14, mu_i (by omega)]) rfl ?_
  refine kx_iconst 118 F dX0_become_117 rfl ?_
  refine kx_aload_n 119 F 0 dX0_become_118 rfl rfl rfl ?_
  refine kx_getr 122 F fl_X0_24 hk_c0 rfl rfl (j := 10) rfl dX0_become_119 (v := (M c0 10)) (by rw [hM_N_28, mcp_k hk_c0 hk_4 rfl, hM_N_27, mcp_k hk_c0 hk_3 rfl, hM_N_26, mcp_k hk_c0 hk_2 rfl, hM_N_25, mcp_k hk_c0 hk_1 rfl, hM_N_24, mu_i (by omega), hM_N_22, mu_i (by omega), hM_N_20, mu_i (by omega), hM_N_18, mu_i (by omega), hM_N_16, mu_i (by omega), hM_N_14, mu_i (by omega)]) rfl ?_
  refine kx_alen 123 F hk_5 rfl rfl (z := 6) (by decide) dX0_become_122 rfl ?_
  refine kx_copyi 126 F hk_11 rfl rfl hk_5 rfl rfl dX0_become_123 (tt lm_1068 rfl) (tt lm_782 rfl) (tt lm_781 rfl) (tt lm_186 rfl) (by omega) (by decide) (by decide) (Nat.le_of_ble_eq_true rfl) rfl ?_
  intro N_29 hM_N_29
  have hI_N_29 : Inv false N_29 := Inv.cp hI_N_28 hM_N_29 hk_11 hk_5 rfl (x := 0) (y := 511) (fun _ => rfl) (fun _ => rfl) (fun _ => rfl) (fun _ => rfl) (fun _ => rfl)
  have hF_N_29 : Fr f_e_X0_become M N_29 := Fr.cp hF_N_28 hM_N_29 hk_5 (fun _ => rfl)
  have hE_N_29 : Cf (SA M c0) M N_29 := Cf.cp hE_N_28 hM_N_29 (sa_10 M c0)
  refine kx_aload_n 127 F 1 dX0_become_126 rfl rfl rfl ?_
  refine kx_getr 130 F fl_X0_27 hk_c1 rfl rfl (j := 11) rfl dX0_become_127 (v := (M c1 11)) (by rw [hM_N_29, mcp_k hk_c1 hk_5 rfl, hM_N_28, mcp_k hk_c1 hk_4 rfl, hM_N_27, mcp_k hk_c1 hk_3 rfl, hM_N_26, mcp_k hk_c1 hk_2 rfl, hM_N_25, mcp_k hk_c1 hk_1 rfl, hM_N_24, mu_i (by omega), hM_N_22, mu_i (by omega), hM_N_20, mu_i (by omega), hM_N_18, mu_i (by omega), hM_N_16, mu_i (by omega), hM_N_14, mu_i (by omega)]) rfl ?_
  refine kx_iconst 131 F dX0_become_130 rfl ?_
  refine kx_aload_n 132 F 0 dX0_become_131 rfl rfl rfl ?_
  refine kx_getr 135 F fl_X0_27 hk_c0 rfl rfl (j := 11) rfl dX0_become_132 (v := (M c0 11)) (by rw [hM_N_29, mcp_k hk_c0 hk_5 rfl, hM_N_28, mcp_k hk_c0 hk_4 rfl, hM_N_27, mcp_k hk_c0 hk_3 rfl, hM_N_26, mcp_k hk_c0 hk_2 rfl, hM_N_25, mcp_k hk_c0 hk_1 rfl, hM_N_24, mu_i (by omega), hM_N_22, mu_i (by omega), hM_N_20, mu_i (by omega), hM_N_18, mu_i (by omega), hM_N_16, mu_i (by omega), hM_N_14, mu_i (by omega)]) rfl ?_
  refine kx_iconst 136 F dX0_become_135 rfl ?_
  refine kx_aload_n 137 F 0 dX0_become_136 rfl rfl rfl ?_
  refine kx_getr 140 F fl_X0_27 hk_c0 rfl rfl (j := 11) rfl dX0_become_137 (v := (M c0 11)) (by rw [hM_N_29, mcp_k hk_c0 hk_5 rfl, hM_N_28, mcp_k hk_c0 hk_4 rfl, hM_N_27, mcp_k hk_c0 hk_3 rfl, hM_N_26, mcp_k hk_c0 hk_2 rfl, hM_N_25, mcp_k hk_c0 hk_1 rfl, hM_N_24, mu_i (by omega), hM_N_22, mu_i (by omega), hM_N_20, mu_i (by omega), hM_N_18, mu_i (by omega), hM_N_16, mu_i (by omega), hM_N_14, mu_i (by omega)]) rfl ?_
  refine kx_alen 141 F hk_6 rfl rfl (z := 18) (by decide) dX0_become_140 rfl ?_
  refine kx_copyi 144 F hk_12 rfl rfl hk_6 rfl rfl dX0_become_141 (tt lm_1068 rfl) (tt lm_782 rfl) (tt lm_781 rfl) (tt lm_186 rfl) (by omega) (by decide) (by decide) (Nat.le_of_ble_eq_true rfl) rfl ?_
  intro N_30 hM_N_30
  have hI_N_30 : Inv false N_30 := Inv.cp hI_N_29 hM_N_30 hk_12 hk_6 rfl (x := 0) (y := 511) (fun _ => rfl) (fun _ => rfl) (fun _ => rfl) (fun _ => rfl) (fun _ => rfl)
  have hF_N_30 : Fr f_e_X0_become M N_30 := Fr.cp hF_N_29 hM_N_30 hk_6 (fun _ => rfl)
  have hE_N_30 : Cf (SA M c0) M N_30 := Cf.cp hE_N_29 hM_N_30 (sa_11 M c0)
  have e_31 : (N_30 c0 0) = (M c1 0) := by rw [hM_N_30, mcp_k hk_c0 hk_6 rfl, hM_N_29, mcp_k hk_c0 hk_5 rfl, hM_N_28, mcp_k hk_c0 hk_4 rfl, hM_N_27, mcp_k hk_c0 hk_3 rfl, hM_N_26, mcp_k hk_c0 hk_2 rfl, hM_N_25, mcp_k hk_c0 hk_1 rfl, hM_N_24, mu_i (by omega), hM_N_22, mu_i (by omega), hM_N_20, mu_i (by omega), hM_N_18, mu_i (by omega), hM_N_16, mu_s]
  have e_32 : (N_30 c0 1) = (M c1 1) := by rw [hM_N_30, mcp_k hk_c0 hk_6 rfl, hM_N_29, mcp_k hk_c0 hk_5 rfl, hM_N_28, mcp_k hk_c0 hk_4 rfl, hM_N_27, mcp_k hk_c0 hk_3 rfl, hM_N_26, mcp_k hk_c0 hk_2 rfl, hM_N_25, mcp_k hk_c0 hk_1 rfl, hM_N_24, mu_i (by omega), hM_N_22, mu_i (by omega), hM_N_20, mu_i (by omega), hM_N_18, mu_s]
  have e_33 : (N_30 c0 2) = (M c1 2) := by rw [hM_N_30, mcp_k hk_c0 hk_6 rfl, hM_N_29, mcp_k hk_c0 hk_5 rfl, hM_N_28, mcp_k hk_c0 hk_4 rfl, hM_N_27, mcp_k hk_c0 hk_3 rfl, hM_N_26, mcp_k hk_c0 hk_2 rfl, hM_N_25, mcp_k hk_c0 hk_1 rfl, hM_N_24, mu_i (by omega), hM_N_22, mu_i (by omega), hM_N_20, mu_s]
  have e_34 : (N_30 c0 3) = (M c1 3) := by rw [hM_N_30, mcp_k hk_c0 hk_6 rfl, hM_N_29, mcp_k hk_c0 hk_5 rfl, hM_N_28, mcp_k hk_c0 hk_4 rfl, hM_N_27, mcp_k hk_c0 hk_3 rfl, hM_N_26, mcp_k hk_c0 hk_2 rfl, hM_N_25, mcp_k hk_c0 hk_1 rfl, hM_N_24, mu_i (by omega), hM_N_22, mu_s]
  have e_35 : (N_30 c0 4) = (M c1 4) := by rw [hM_N_30, mcp_k hk_c0 hk_6 rfl, hM_N_29, mcp_k hk_c0 hk_5 rfl, hM_N_28, mcp_k hk_c0 hk_4 rfl, hM_N_27, mcp_k hk_c0 hk_3 rfl, hM_N_26, mcp_k hk_c0 hk_2 rfl, hM_N_25, mcp_k hk_c0 hk_1 rfl, hM_N_24, mu_s]
  have e_36 : (N_30 c0 5) = (M c1 5) := by rw [hM_N_30, mcp_k hk_c0 hk_6 rfl, hM_N_29, mcp_k hk_c0 hk_5 rfl, hM_N_28, mcp_k hk_c0 hk_4 rfl, hM_N_27, mcp_k hk_c0 hk_3 rfl, hM_N_26, mcp_k hk_c0 hk_2 rfl, hM_N_25, mcp_k hk_c0 hk_1 rfl, hM_N_24, mu_i (by omega), hM_N_22, mu_i (by omega), hM_N_20, mu_i (by omega), hM_N_18, mu_i (by omega), hM_N_16, mu_i (by omega), hM_N_14, mu_s]
  exact kx_vret F hQ ⟨hI_N_30, hF_N_30, (by omega), hE_N_30, ⟨fun i h0 h1 => ⟨by rw [hM_N_30, mcp_k hk_1 hk_6 rfl, hM_N_29, mcp_k hk_1 hk_5 rfl, hM_N_28, mcp_k hk_1 hk_4 rfl, hM_N_27, mcp_k hk_1 hk_3 rfl, hM_N_26, mcp_k hk_1 hk_2 rfl, hM_N_25, mcp_s (by omega), show (0 + (i - 0) : Int) = i by omega, hM_N_24, mu_k hk_7 hk_c0 rfl, hM_N_22, mu_k hk_7 hk_c0 rfl, hM_N_20, mu_k hk_7 hk_c0 rfl, hM_N_18, mu_k hk_7 hk_c0 rfl, hM_N_16, mu_k hk_7 hk_c0 rfl, hM_N_14, mu_k hk_7 hk_c0 rfl], by rw [hM_N_30, mcp_k hk_2 hk_6 rfl, hM_N_29, mcp_k hk_2 hk_5 rfl, hM_N_28, mcp_k hk_2 hk_4 rfl, hM_N_27, mcp_k hk_2 hk_3 rfl, hM_N_26, mcp_s (by omega), show (0 + (i - 0) : Int) = i by omega, hM_N_25, mcp_k hk_8 hk_1 rfl, hM_N_24, mu_k hk_8 hk_c0 rfl, hM_N_22, mu_k hk_8 hk_c0 rfl, hM_N_20, mu_k hk_8 hk_c0 rfl, hM_N_18, mu_k hk_8 hk_c0 rfl, hM_N_16, mu_k hk_8 hk_c0 rfl, hM_N_14, mu_k hk_8 hk_c0 rfl], by rw [hM_N_30, mcp_k hk_3 hk_6 rfl, hM_N_29, mcp_k hk_3 hk_5 rfl, hM_N_28, mcp_k hk_3 hk_4 rfl, hM_N_27, mcp_s (by omega), show (0 + (i - 0) : Int) = i by omega, hM_N_26, mcp_k hk_9 hk_2 rfl, hM_N_25, mcp_k hk_9 hk_1 rfl, hM_N_24, mu_k hk_9 hk_c0 rfl, hM_N_22, mu_k hk_9 hk_c0 rfl, hM_N_20, mu_k hk_9 hk_c0 rfl, hM_N_18, mu_k hk_9 hk_c0 rfl, hM_N_16, mu_k hk_9 hk_c0 rfl, hM_N_14, mu_k hk_9 hk_c0 rfl], by rw [hM_N_30, mcp_k hk_4 hk_6 rfl, hM_N_29, mcp_k hk_4 hk_5 rfl, hM_N_28, mcp_s (by omega), show (0 + (i - 0) : Int) = i by omega, hM_N_27, mcp_k hk_10 hk_3 rfl, hM_N_26, mcp_k hk_10 hk_2 rfl, hM_N_25, mcp_k hk_10 hk_1 rfl, hM_N_24, mu_k hk_10 hk_c0 rfl, hM_N_22, mu_k hk_10 hk_c0 rfl, hM_N_20, mu_k hk_10 hk_c0 rfl, hM_N_18, mu_k hk_10 hk_c0 rfl, hM_N_16, mu_k hk_10 hk_c0 rfl, hM_N_14, mu_k hk_10 hk_c0 rfl]⟩, fun i h0 h1 => by rw [hM_N_30, mcp_k hk_5 hk_6 rfl, hM_N_29, mcp_s (by omega), show (0 + (i - 0) : Int) = i by omega, hM_N_28, mcp_k hk_11 hk_4 rfl, hM_N_27, mcp_k hk_11 hk_3 rfl, hM_N_26, mcp_k hk_11 hk_2 rfl, hM_N_25, mcp_k hk_11 hk_1 rfl, hM_N_24, mu_k hk_11 hk_c0 rfl, hM_N_22, mu_k hk_11 hk_c0 rfl, hM_N_20, mu_k hk_11 hk_c0 rfl, hM_N_18, mu_k hk_11 hk_c0 rfl, hM_N_16, mu_k hk_11 hk_c0 rfl, hM_N_14, mu_k hk_11 hk_c0 rfl], fun i h0 h1 => by rw [hM_N_30, mcp_s (by omega), show (0 + (i - 0) : Int) = i by omega, hM_N_29, mcp_k hk_12 hk_5 rfl, hM_N_28, mcp_k hk_12 hk_4 rfl, hM_N_27, mcp_k hk_12 hk_3 rfl, hM_N_26, mcp_k hk_12 hk_2 rfl, hM_N_25, mcp_k hk_12 hk_1 rfl, hM_N_24, mu_k hk_12 hk_c0 rfl, hM_N_22, mu_k hk_12 hk_c0 rfl, hM_N_20, mu_k hk_12 hk_c0 rfl, hM_N_18, mu_k hk_12 hk_c0 rfl, hM_N_16, mu_k hk_12 hk_c0 rfl, hM_N_14, mu_k hk_12 hk_c0 rfl]⟩⟩ dX0_become_144
set_option maxHeartbeats 4000000 in
set_option maxRecDepth 100000 in
theorem e_X11_areTwo (G : KG) (l : Launch) (M : Mem) (c0 : Int) (a1 : Int) (a2 : Int) (hI_M : Inv false M) (hk_c0 : kd c0 = 62) (hpre : -2147483648 ≤ a1 ∧ a1 ≤ 2147483647 ∧ -2147483648 ≤ a2 ∧ a2 ≤ 2147483647) : KC false G l yX11_areTwo cX11_areTwo 3 (some .boolean) (1, 21) [vR G c0, vI a1, vI a2] M (fun A => kQi false G A (fun (r : Int) (N : Mem) => M = N ∧ ((r = 1 ∧ 0 ≤ a1 ∧ a1 < (M (M c0 5) 3) ∧ 0 ≤ a2 ∧ a2 < (M (M c0 5) 3) ∧ a1 ≠ a2) ∨ (r = 0 ∧ a1 < 0) ∨ (r = 0 ∧ a1 ≥ (M (M c0 5) 3)) ∨ (r = 0 ∧ a2 < 0) ∨ (r = 0 ∧ a2 ≥ (M (M c0 5) 3)) ∨ (r = 0 ∧ a1 = a2)))) := by
  refine kx_met (lo := [some (vR G c0), some (vI a1), some (vI a2)]) (by decide) (Nat.le_of_ble_eq_true rfl) rfl ?_
  intro X F hQ
  have hk_1 : kd (M c0 5) = 12 := Inv.r hI_M hk_c0 rfl 5 rfl rfl
  refine kx_aload_n 1 F 0 dX11_areTwo_0 rfl rfl rfl ?_
  refine kx_getr 4 F fl_X11_26 hk_c0 rfl rfl (j := 5) rfl dX11_areTwo_1 (v := (M c0 5)) rfl rfl ?_
  refine kx_iload_n 5 F 1 dX11_areTwo_4 rfl rfl rfl ?_
  refine kx_Vi 8 (ci := 0) F (As := [vI a1]) (st := []) vd_X11_163 (e_X5_has G l M (M c0 5) a1 hI_M hk_1 (by omega)) hk_1 rfl rfl rfl ⟨by decide, by decide⟩ rfl rfl (Nat.le_of_ble_eq_true rfl) dX11_areTwo_5 rfl ?_
  intro r_2 N_3 q_4
  obtain ⟨rfl, q_4c⟩ := q_4
  have h_5 := Inv.g hI_M hk_1 rfl 3 (a := 0) (b := 2) rfl rfl
  rcases q_4c with q_4c | q_4c | q_4c
  · refine kx_if_eq 11 F 31 dX11_areTwo_8 (by decide) rfl (by omega) (fun h_7 => (by exfalso; omega)) (fun h_7 => ?_)
    refine kx_aload_n 12 F 0 dX11_areTwo_11 rfl rfl rfl ?_
    refine kx_getr 15 F fl_X11_26 hk_c0 rfl rfl (j := 5) rfl dX11_areTwo_12 (v := (M c0 5)) rfl rfl ?_
    refine kx_iload_n 16 F 2 dX11_areTwo_15 rfl rfl rfl ?_
    refine kx_Vi 19 (ci := 0) F (As := [vI a2]) (st := []) vd_X11_163 (e_X5_has G l M (M c0 5) a2 hI_M hk_1 (by omega)) hk_1 rfl rfl rfl ⟨by decide, by decide⟩ rfl rfl (Nat.le_of_ble_eq_true rfl) dX11_areTwo_16 rfl ?_
    intro r_8 N_9 q_10
    obtain ⟨rfl, q_10c⟩ := q_10
    rcases q_10c with q_10c | q_10c | q_10c
    · refine kx_if_eq 22 F 31 dX11_areTwo_19 (by decide) rfl (by omega) (fun h_11 => (by exfalso; omega)) (fun h_11 => ?_)
      refine kx_iload_n 23 F 1 dX11_areTwo_22 rfl rfl rfl ?_
      refine kx_iload_n 24 F 2 dX11_areTwo_23 rfl rfl rfl ?_
      refine kx_icmp_eq 27 F 31 dX11_areTwo_24 (by decide) rfl (by omega) (by omega) (fun h_12 => ?_) (fun h_12 => ?_)
      · refine kx_iconst 32 F dX11_areTwo_31 rfl ?_
        exact kx_zret F hQ (by omega) ⟨rfl, (Or.inr (Or.inr (Or.inr (Or.inr (Or.inr (by omega))))))⟩ dX11_areTwo_32
      · refine kx_iconst 28 F dX11_areTwo_27 rfl ?_
        refine kx_goto 32 F dX11_areTwo_28 (by decide) ?_
        exact kx_zret F hQ (by omega) ⟨rfl, (Or.inl (by omega))⟩ dX11_areTwo_32
    · refine kx_if_eq 22 F 31 dX11_areTwo_19 (by decide) rfl (by omega) (fun h_13 => ?_) (fun h_13 => (by exfalso; omega))
      refine kx_iconst 32 F dX11_areTwo_31 rfl ?_
      exact kx_zret F hQ (by omega) ⟨rfl, (Or.inr (Or.inr (Or.inr (Or.inl (by omega)))))⟩ dX11_areTwo_32
    · refine kx_if_eq 22 F 31 dX11_areTwo_19 (by decide) rfl (by omega) (fun h_14 => ?_) (fun h_14 => (by exfalso; omega))
      refine kx_iconst 32 F dX11_areTwo_31 rfl ?_
      exact kx_zret F hQ (by omega) ⟨rfl, (Or.inr (Or.inr (Or.inr (Or.inr (Or.inl (by omega))))))⟩ dX11_areTwo_32
  · refine kx_if_eq 11 F 31 dX11_areTwo_8 (by decide) rfl (by omega) (fun h_15 => ?_) (fun h_15 => (by exfalso; omega))
    refine kx_iconst 32 F dX11_areTwo_31 rfl ?_
    exact kx_zret F hQ (by omega) ⟨rfl, (Or.inr (Or.inl (by omega)))⟩ dX11_areTwo_32
  · refine kx_if_eq 11 F 31 dX11_areTwo_8 (by decide) rfl (by omega) (fun h_17 => ?_) (fun h_17 => (by exfalso; omega))
    refine kx_iconst 32 F dX11_areTwo_31 rfl ?_
    exact kx_zret F hQ (by omega) ⟨rfl, (Or.inr (Or.inr (Or.inl (by omega))))⟩ dX11_areTwo_32
