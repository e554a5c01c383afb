abbrev f_e_go3 : List (Nat × Int) := [(8, 1), (8, 2), (8, 3), (8, 4), (9, -1), (10, -1), (11, -1)]
set_option maxHeartbeats 4000000 in
set_option maxRecDepth 100000 in
theorem e_go3 (G : KG) (l : Launch) (M : Mem) (c0 : Int) (c1 : Int) (a2 : Int) (a3 : Int) (hI_M : Inv false M) (hk_c0 : kd c0 = 8) (hk_c1 : kd c1 = 1) (hpre : -2147483648 ≤ a2 ∧ a2 ≤ 2147483647 ∧ -2147483648 ≤ a3 ∧ a3 ≤ 2147483647 ∧ 0 ≤ a2 ∧ a2 ≤ 5 ∧ 0 ≤ a3 ∧ a3 ≤ 2) (g : Int → Int) (hG : zWG M c0 g) (hso : a3 = 0 → M c0 2 ≤ 29) : KC false G l yX10_go cX10_go 5 none (2, 48) [vR G c0, vR G c1, vI a2, vI a3] M (fun A => kQv false G A (fun (N : Mem) => Inv false N ∧ Fr f_e_go3 M N ∧ Cf (SWk M c0) M N ∧ (zWG N c0 (zse g (M (M c1 10)) (M (M c1 11)) (M c1 0) a2 a3)))) := by
  refine kx_met (lo := [some (vR G c0), some (vR G c1), some (vI a2), some (vI a3), none]) (by decide) (Nat.le_of_ble_eq_true rfl) rfl ?_
  intro X F hQ
  have hF_M : Fr f_e_go3 M M := Fr.rf _ _
  have hE_M : Cf (SWk M c0) M M := Cf.rf _ _
  have hk_1 : kd (M c0 5) = 9 := Inv.r hI_M hk_c0 rfl 5 rfl rfl
  have hk_2 : kd (M c0 6) = 10 := Inv.r hI_M hk_c0 rfl 6 rfl rfl
  have hk_3 : kd (M c0 7) = 11 := Inv.r hI_M hk_c0 rfl 7 rfl rfl
  have hk_4 : kd (M c1 10) = 6 := Inv.r hI_M hk_c1 rfl 10 rfl rfl
  have hk_5 : kd (M c1 11) = 7 := Inv.r hI_M hk_c1 rfl 11 rfl rfl
  have hp2 := Inv.g hI_M hk_c0 rfl 2 (a := 0) (b := 30) rfl rfl
  refine kx_aload_n 1 F 0 dX10_go_0 rfl rfl rfl ?_
  refine kx_dup 2 F dX10_go_1 rfl rfl ?_
  refine kx_geti 5 F fl_X10_25 hk_c0 rfl rfl (j := 1) rfl dX10_go_2 (v := (M c0 1)) rfl rfl ?_
  have h_6 := Inv.g hI_M hk_c0 rfl 1 (a := (-2147483648)) (b := 2147483647) rfl rfl
  refine kx_iconst 6 F dX10_go_5 rfl ?_
  refine kx_iadd 7 F (v := (M c0 1) + 1) dX10_go_6 rfl rfl ?_
  refine kx_wrapi (fun w_7 h_8 he_w_7 => ?_)
  refine kx_puti 10 F fw_X10_25 rfl hk_c0 rfl rfl (j := 1) rfl dX10_go_7 rfl ?_
  intro N_9 hM_N_9
  have hI_N_9 : Inv false N_9 := Inv.u hI_M hM_N_9 hk_c0 (a := (-2147483648)) (b := 2147483647) rfl rfl rfl (by omega)
  have hF_N_9 : Fr f_e_go3 M N_9 := Fr.u hF_M hM_N_9 hk_c0 rfl
  have hE_N_9 : Cf (SWk M c0) M N_9 := Cf.st hE_M hM_N_9 (Or.inl rfl)
  refine kx_iload_n 11 F 3 dX10_go_10 rfl rfl rfl ?_
  refine kx_if_ne 14 F 100 dX10_go_11 (by decide) rfl (by omega) (fun h_10 => ?_) (fun h_10 => ?_)
  · refine kx_iload_n 101 F 3 dX10_go_100 rfl rfl rfl ?_
    refine kx_iconst 102 F dX10_go_101 rfl ?_
    refine kx_icmp_ne 105 F 181 dX10_go_102 (by decide) rfl (by omega) (by decide) (fun h_11 => ?_) (fun h_11 => ?_)
    · refine kx_aload_n 182 F 0 dX10_go_181 rfl rfl rfl ?_
      refine kx_aload_n 183 F 0 dX10_go_182 rfl rfl rfl ?_
      refine kx_geti 186 F fl_X10_36 hk_c0 rfl rfl (j := 3) rfl dX10_go_183 (v := (M c0 3)) (by rw [hM_N_9, mu_i (by omega)]) rfl ?_
      have h_12 := Inv.g hI_M hk_c0 rfl 3 (a := 0) (b := 7) rfl rfl
      refine kx_aload_n 187 F 1 dX10_go_186 rfl rfl rfl ?_
      refine kx_getr 190 F fl_X10_49 hk_c1 rfl rfl (j := 10) rfl dX10_go_187 (v := (M c1 10)) (by rw [hM_N_9, mu_k hk_c1 hk_c0 rfl]) rfl ?_
      refine kx_iload_n 191 F 2 dX10_go_190 rfl rfl rfl ?_
      refine kx_iald 192 F hk_4 rfl rfl (by omega) (by decide) dX10_go_191 (v := (M (M c1 10) a2)) (by rw [hM_N_9, mu_k hk_4 hk_c0 rfl]) rfl ?_
      have h_13 := Inv.g hI_M hk_4 rfl a2 (a := 0) (b := 511) rfl rfl
      refine kx_Si 195 F (As := [vI (M c0 3), vI (M (M c1 10) a2)]) (st := [vR G c0]) sd_X10_52 (e_image3 G l N_9 (M c0 3) (M (M c1 10) a2) hI_N_9 (by omega)) ⟨by decide, by decide⟩ rfl rfl (Nat.le_of_ble_eq_true rfl) dX10_go_192 rfl ?_
      intro r_14 N_15 q_16
      obtain ⟨rfl, q_16c, hz_N_15⟩ := q_16
      refine kx_puti 198 F fw_X10_36 rfl hk_c0 rfl rfl (j := 3) rfl dX10_go_195 rfl ?_
      intro N_17 hM_N_17
      have hI_N_17 : Inv false N_17 := Inv.u hI_N_9 hM_N_17 hk_c0 (a := 0) (b := 7) rfl rfl rfl (by omega)
      have hF_N_17 : Fr f_e_go3 M N_17 := Fr.u hF_N_9 hM_N_17 hk_c0 rfl
      have hE_N_17 : Cf (SWk M c0) M N_17 := Cf.st hE_N_9 hM_N_17 (Or.inl rfl)
      refine kx_aload_n 199 F 0 dX10_go_198 rfl rfl rfl ?_
      refine kx_aload_n 200 F 0 dX10_go_199 rfl rfl rfl ?_
      refine kx_geti 203 F fl_X10_46 hk_c0 rfl rfl (j := 4) rfl dX10_go_200 (v := (M c0 4)) (by rw [hM_N_17, mu_i (by omega), hM_N_9, mu_i (by omega)]) rfl ?_
      have h_18 := Inv.g hI_M hk_c0 rfl 4 (a := 0) (b := 511) rfl rfl
      refine kx_aload_n 204 F 1 dX10_go_203 rfl rfl rfl ?_
      refine kx_getr 207 F fl_X10_49 hk_c1 rfl rfl (j := 10) rfl dX10_go_204 (v := (M c1 10)) (by rw [hM_N_17, mu_k hk_c1 hk_c0 rfl, hM_N_9, mu_k hk_c1 hk_c0 rfl]) rfl ?_
      refine kx_iload_n 208 F 2 dX10_go_207 rfl rfl rfl ?_
      refine kx_iald 209 F hk_4 rfl rfl (by omega) (by decide) dX10_go_208 (v := (M (M c1 10) a2)) (by rw [hM_N_17, mu_k hk_4 hk_c0 rfl, hM_N_9, mu_k hk_4 hk_c0 rfl]) rfl ?_
      refine kx_Si 212 F (As := [vI (M c0 4), vI (M (M c1 10) a2)]) (st := [vR G c0]) sd_X10_60 (e_compose3 G l N_17 (M c0 4) (M (M c1 10) a2) hI_N_17 (by omega)) ⟨by decide, by decide⟩ rfl rfl (Nat.le_of_ble_eq_true rfl) dX10_go_209 rfl ?_
      intro r_19 N_20 q_21
      obtain ⟨rfl, q_21c, hz_N_20⟩ := q_21
      refine kx_puti 215 F fw_X10_46 rfl hk_c0 rfl rfl (j := 4) rfl dX10_go_212 rfl ?_
      intro N_22 hM_N_22
      have hI_N_22 : Inv false N_22 := Inv.u hI_N_17 hM_N_22 hk_c0 (a := 0) (b := 511) rfl rfl rfl (by omega)
      have hF_N_22 : Fr f_e_go3 M N_22 := Fr.u hF_N_17 hM_N_22 hk_c0 rfl
      have hE_N_22 : Cf (SWk M c0) M N_22 := Cf.st hE_N_17 hM_N_22 (Or.inl rfl)
      have e_23 : (N_22 c0 2) = (M c0 2) := by rw [hM_N_22, mu_i (by omega), hM_N_17, mu_i (by omega), hM_N_9, mu_i (by omega)]
      have e_25 : (N_22 c0 3) = r_14 := by rw [hM_N_22, mu_i (by omega), hM_N_17, mu_s]
      have e_26 : (N_22 c0 4) = r_19 := by rw [hM_N_22, mu_s]
      exact kx_vret F hQ ⟨hI_N_22, hF_N_22, hE_N_22, (zWG.one hG (by omega) (by omega) (by rw [hM_N_22, mu_i (by omega), hM_N_17, mu_i (by omega), hM_N_9, mu_i (by omega)]) (by rw [hM_N_22, mu_i (by omega), hM_N_17, mu_i (by omega), hM_N_9, mu_i (by omega)]) (by rw [hM_N_22, mu_i (by omega), hM_N_17, mu_i (by omega), hM_N_9, mu_i (by omega)]) (funext (fun j => by rw [hM_N_22, mu_k hk_1 hk_c0 rfl, hM_N_17, mu_k hk_1 hk_c0 rfl, hM_N_9, mu_k hk_1 hk_c0 rfl])) (funext (fun j => by rw [hM_N_22, mu_k hk_2 hk_c0 rfl, hM_N_17, mu_k hk_2 hk_c0 rfl, hM_N_9, mu_k hk_2 hk_c0 rfl])) (funext (fun j => by rw [hM_N_22, mu_k hk_3 hk_c0 rfl, hM_N_17, mu_k hk_3 hk_c0 rfl, hM_N_9, mu_k hk_3 hk_c0 rfl])) (by rw [hM_N_22, mu_i (by omega), hM_N_17, mu_i (by omega), hM_N_9, mu_s]; exact he_w_7) (by omega) (by rw [hM_N_22, mu_i (by omega), hM_N_17, mu_s]; exact hz_N_15) (by rw [hM_N_22, mu_s]; exact hz_N_20))⟩ dX10_go_215
    · refine kx_aload_n 106 F 0 dX10_go_105 rfl rfl rfl ?_
      refine kx_geti 109 F fl_X10_28 hk_c0 rfl rfl (j := 2) rfl dX10_go_106 (v := (M c0 2)) (by rw [hM_N_9, mu_i (by omega)]) rfl ?_
      refine kx_if_le 112 F 181 dX10_go_109 (by decide) rfl (by omega) (fun h_28 => ?_) (fun h_28 => ?_)
      · refine kx_aload_n 182 F 0 dX10_go_181 rfl rfl rfl ?_
        refine kx_aload_n 183 F 0 dX10_go_182 rfl rfl rfl ?_
        refine kx_geti 186 F fl_X10_36 hk_c0 rfl rfl (j := 3) rfl dX10_go_183 (v := (M c0 3)) (by rw [hM_N_9, mu_i (by omega)]) rfl ?_
        have h_29 := Inv.g hI_M hk_c0 rfl 3 (a := 0) (b := 7) rfl rfl
        refine kx_aload_n 187 F 1 dX10_go_186 rfl rfl rfl ?_
        refine kx_getr 190 F fl_X10_49 hk_c1 rfl rfl (j := 10) rfl dX10_go_187 (v := (M c1 10)) (by rw [hM_N_9, mu_k hk_c1 hk_c0 rfl]) rfl ?_
        refine kx_iload_n 191 F 2 dX10_go_190 rfl rfl rfl ?_
        refine kx_iald 192 F hk_4 rfl rfl (by omega) (by decide) dX10_go_191 (v := (M (M c1 10) a2)) (by rw [hM_N_9, mu_k hk_4 hk_c0 rfl]) rfl ?_
        have h_30 := Inv.g hI_M hk_4 rfl a2 (a := 0) (b := 511) rfl rfl
        refine kx_Si 195 F (As := [vI (M c0 3), vI (M (M c1 10) a2)]) (st := [vR G c0]) sd_X10_52 (e_image3 G l N_9 (M c0 3) (M (M c1 10) a2) hI_N_9 (by omega)) ⟨by decide, by decide⟩ rfl rfl (Nat.le_of_ble_eq_true rfl) dX10_go_192 rfl ?_
        intro r_31 N_32 q_33
        obtain ⟨rfl, q_33c, hz_N_32⟩ := q_33
        refine kx_puti 198 F fw_X10_36 rfl hk_c0 rfl rfl (j := 3) rfl dX10_go_195 rfl ?_
        intro N_34 hM_N_34
        have hI_N_34 : Inv false N_34 := Inv.u hI_N_9 hM_N_34 hk_c0 (a := 0) (b := 7) rfl rfl rfl (by omega)
        have hF_N_34 : Fr f_e_go3 M N_34 := Fr.u hF_N_9 hM_N_34 hk_c0 rfl
        have hE_N_34 : Cf (SWk M c0) M N_34 := Cf.st hE_N_9 hM_N_34 (Or.inl rfl)
        refine kx_aload_n 199 F 0 dX10_go_198 rfl rfl rfl ?_
        refine kx_aload_n 200 F 0 dX10_go_199 rfl rfl rfl ?_
        refine kx_geti 203 F fl_X10_46 hk_c0 rfl rfl (j := 4) rfl dX10_go_200 (v := (M c0 4)) (by rw [hM_N_34, mu_i (by omega), hM_N_9, mu_i (by omega)]) rfl ?_
        have h_35 := Inv.g hI_M hk_c0 rfl 4 (a := 0) (b := 511) rfl rfl
        refine kx_aload_n 204 F 1 dX10_go_203 rfl rfl rfl ?_
        refine kx_getr 207 F fl_X10_49 hk_c1 rfl rfl (j := 10) rfl dX10_go_204 (v := (M c1 10)) (by rw [hM_N_34, mu_k hk_c1 hk_c0 rfl, hM_N_9, mu_k hk_c1 hk_c0 rfl]) rfl ?_
        refine kx_iload_n 208 F 2 dX10_go_207 rfl rfl rfl ?_
        refine kx_iald 209 F hk_4 rfl rfl (by omega) (by decide) dX10_go_208 (v := (M (M c1 10) a2)) (by rw [hM_N_34, mu_k hk_4 hk_c0 rfl, hM_N_9, mu_k hk_4 hk_c0 rfl]) rfl ?_
        refine kx_Si 212 F (As := [vI (M c0 4), vI (M (M c1 10) a2)]) (st := [vR G c0]) sd_X10_60 (e_compose3 G l N_34 (M c0 4) (M (M c1 10) a2) hI_N_34 (by omega)) ⟨by decide, by decide⟩ rfl rfl (Nat.le_of_ble_eq_true rfl) dX10_go_209 rfl ?_
        intro r_36 N_37 q_38
        obtain ⟨rfl, q_38c, hz_N_37⟩ := q_38
        refine kx_puti 215 F fw_X10_46 rfl hk_c0 rfl rfl (j := 4) rfl dX10_go_212 rfl ?_
        intro N_39 hM_N_39
        have hI_N_39 : Inv false N_39 := Inv.u hI_N_34 hM_N_39 hk_c0 (a := 0) (b := 511) rfl rfl rfl (by omega)
        have hF_N_39 : Fr f_e_go3 M N_39 := Fr.u hF_N_34 hM_N_39 hk_c0 rfl
        have hE_N_39 : Cf (SWk M c0) M N_39 := Cf.st hE_N_34 hM_N_39 (Or.inl rfl)
        have e_40 : (N_39 c0 2) = (M c0 2) := by rw [hM_N_39, mu_i (by omega), hM_N_34, mu_i (by omega), hM_N_9, mu_i (by omega)]
        have e_41 : (N_39 c0 3) = r_31 := by rw [hM_N_39, mu_i (by omega), hM_N_34, mu_s]
        have e_42 : (N_39 c0 4) = r_36 := by rw [hM_N_39, mu_s]
        exact kx_vret F hQ ⟨hI_N_39, hF_N_39, hE_N_39, (zWG.one hG (by omega) (by omega) (by rw [hM_N_39, mu_i (by omega), hM_N_34, mu_i (by omega), hM_N_9, mu_i (by omega)]) (by rw [hM_N_39, mu_i (by omega), hM_N_34, mu_i (by omega), hM_N_9, mu_i (by omega)]) (by rw [hM_N_39, mu_i (by omega), hM_N_34, mu_i (by omega), hM_N_9, mu_i (by omega)]) (funext (fun j => by rw [hM_N_39, mu_k hk_1 hk_c0 rfl, hM_N_34, mu_k hk_1 hk_c0 rfl, hM_N_9, mu_k hk_1 hk_c0 rfl])) (funext (fun j => by rw [hM_N_39, mu_k hk_2 hk_c0 rfl, hM_N_34, mu_k hk_2 hk_c0 rfl, hM_N_9, mu_k hk_2 hk_c0 rfl])) (funext (fun j => by rw [hM_N_39, mu_k hk_3 hk_c0 rfl, hM_N_34, mu_k hk_3 hk_c0 rfl, hM_N_9, mu_k hk_3 hk_c0 rfl])) (by rw [hM_N_39, mu_i (by omega), hM_N_34, mu_i (by omega), hM_N_9, mu_s]; exact he_w_7) (by omega) (by rw [hM_N_39, mu_i (by omega), hM_N_34, mu_s]; exact hz_N_32) (by rw [hM_N_39, mu_s]; exact hz_N_37))⟩ dX10_go_215
      · refine kx_aload_n 113 F 0 dX10_go_112 rfl rfl rfl ?_
        refine kx_dup 114 F dX10_go_113 rfl rfl ?_
        refine kx_geti 117 F fl_X10_28 hk_c0 rfl rfl (j := 2) rfl dX10_go_114 (v := (M c0 2)) (by rw [hM_N_9, mu_i (by omega)]) rfl ?_
        refine kx_iconst 118 F dX10_go_117 rfl ?_
        refine kx_isub 119 F (v := (M c0 2) - 1) dX10_go_118 rfl rfl ?_
        refine kx_puti 122 F fw_X10_28 rfl hk_c0 rfl rfl (j := 2) rfl dX10_go_119 rfl ?_
        intro N_43 hM_N_43
        have hI_N_43 : Inv false N_43 := Inv.u hI_N_9 hM_N_43 hk_c0 (a := 0) (b := 30) rfl rfl rfl (by omega)
        have hF_N_43 : Fr f_e_go3 M N_43 := Fr.u hF_N_9 hM_N_43 hk_c0 rfl
        have hE_N_43 : Cf (SWk M c0) M N_43 := Cf.st hE_N_9 hM_N_43 (Or.inl rfl)
        refine kx_aload_n 123 F 1 dX10_go_122 rfl rfl rfl ?_
        refine kx_aload_n 124 F 0 dX10_go_123 rfl rfl rfl ?_
        refine kx_getr 127 F fl_X10_22 hk_c0 rfl rfl (j := 7) rfl dX10_go_124 (v := (M c0 7)) (by rw [hM_N_43, mu_i (by omega), hM_N_9, mu_i (by omega)]) rfl ?_
        refine kx_aload_n 128 F 0 dX10_go_127 rfl rfl rfl ?_
        refine kx_geti 131 F fl_X10_28 hk_c0 rfl rfl (j := 2) rfl dX10_go_128 (v := (M c0 2) - 1) (by rw [hM_N_43, mu_s]) rfl ?_
        refine kx_iald 132 F hk_3 rfl rfl (by omega) (by decide) dX10_go_131 (v := (M (M c0 7) ((M c0 2) - 1))) (by rw [hM_N_43, mu_k hk_3 hk_c0 rfl, hM_N_9, mu_k hk_3 hk_c0 rfl]) rfl ?_
        have h_44 := Inv.g hI_M hk_3 rfl ((M c0 2) - 1) (a := 0) (b := 5) rfl rfl
        refine kx_iload_n 133 F 2 dX10_go_132 rfl rfl rfl ?_
        refine kx_aload_n 134 F 0 dX10_go_133 rfl rfl rfl ?_
        refine kx_geti 137 F fl_X10_46 hk_c0 rfl rfl (j := 4) rfl dX10_go_134 (v := (M c0 4)) (by rw [hM_N_43, mu_i (by omega), hM_N_9, mu_i (by omega)]) rfl ?_
        have h_45 := Inv.g hI_M hk_c0 rfl 4 (a := 0) (b := 511) rfl rfl
        refine kx_Vi 140 (ci := 0) F (As := [vI (M (M c0 7) ((M c0 2) - 1)), vI a2, vI (M c0 4)]) (st := []) vd_X10_56 (e_over3 G l N_43 c1 (M (M c0 7) ((M c0 2) - 1)) a2 (M c0 4) hI_N_43 hk_c1 (by omega)) hk_c1 rfl rfl rfl ⟨by decide, by decide⟩ rfl rfl (Nat.le_of_ble_eq_true rfl) dX10_go_137 rfl ?_
        intro r_46 N_47 q_48
        obtain ⟨rfl, q_48c, hz_N_47⟩ := q_48
        refine kx_istore 142 F 4 (lo' := [some (vR G c0), some (vR G c1), some (vI a2), some (vI a3), some (vI r_46)]) dX10_go_140 (by decide) rfl rfl rfl ?_
        refine kx_aload_n 143 F 0 dX10_go_142 rfl rfl rfl ?_
        refine kx_aload_n 144 F 0 dX10_go_143 rfl rfl rfl ?_
        refine kx_getr 147 F fl_X10_15 hk_c0 rfl rfl (j := 5) rfl dX10_go_144 (v := (M c0 5)) (by rw [hM_N_43, mu_i (by omega), hM_N_9, mu_i (by omega)]) rfl ?_
        refine kx_aload_n 148 F 0 dX10_go_147 rfl rfl rfl ?_
        refine kx_geti 151 F fl_X10_28 hk_c0 rfl rfl (j := 2) rfl dX10_go_148 (v := (M c0 2) - 1) (by rw [hM_N_43, mu_s]) rfl ?_
        refine kx_iald 152 F hk_1 rfl rfl (by omega) (by decide) dX10_go_151 (v := (M (M c0 5) ((M c0 2) - 1))) (by rw [hM_N_43, mu_k hk_1 hk_c0 rfl, hM_N_9, mu_k hk_1 hk_c0 rfl]) rfl ?_
        have h_49 := Inv.g hI_M hk_1 rfl ((M c0 2) - 1) (a := 0) (b := 7) rfl rfl
        refine kx_iload 154 F 4 dX10_go_152 rfl rfl ?_
        refine kx_Si 157 F (As := [vI (M (M c0 5) ((M c0 2) - 1)), vI r_46]) (st := [vR G c0]) sd_X10_52 (e_image3 G l N_43 (M (M c0 5) ((M c0 2) - 1)) r_46 hI_N_43 (by omega)) ⟨by decide, by decide⟩ rfl rfl (Nat.le_of_ble_eq_true rfl) dX10_go_154 rfl ?_
        intro r_50 N_51 q_52
        obtain ⟨rfl, q_52c, hz_N_51⟩ := q_52
        refine kx_puti 160 F fw_X10_36 rfl hk_c0 rfl rfl (j := 3) rfl dX10_go_157 rfl ?_
        intro N_53 hM_N_53
        have hI_N_53 : Inv false N_53 := Inv.u hI_N_43 hM_N_53 hk_c0 (a := 0) (b := 7) rfl rfl rfl (by omega)
        have hF_N_53 : Fr f_e_go3 M N_53 := Fr.u hF_N_43 hM_N_53 hk_c0 rfl
        have hE_N_53 : Cf (SWk M c0) M N_53 := Cf.st hE_N_43 hM_N_53 (Or.inl rfl)
        refine kx_aload_n 161 F 0 dX10_go_160 rfl rfl rfl ?_
        refine kx_aload_n 162 F 0 dX10_go_161 rfl rfl rfl ?_
        refine kx_getr 165 F fl_X10_19 hk_c0 rfl rfl (j := 6) rfl dX10_go_162 (v := (M c0 6)) (by rw [hM_N_53, mu_i (by omega), hM_N_43, mu_i (by omega), hM_N_9, mu_i (by omega)]) rfl ?_
        refine kx_aload_n 166 F 0 dX10_go_165 rfl rfl rfl ?_
        refine kx_geti 169 F fl_X10_28 hk_c0 rfl rfl (j := 2) rfl dX10_go_166 (v := (M c0 2) - 1) (by rw [hM_N_53, mu_i (by omega), hM_N_43, mu_s]) rfl ?_
        refine kx_iald 170 F hk_2 rfl rfl (by omega) (by decide) dX10_go_169 (v := (M (M c0 6) ((M c0 2) - 1))) (by rw [hM_N_53, mu_k hk_2 hk_c0 rfl, hM_N_43, mu_k hk_2 hk_c0 rfl, hM_N_9, mu_k hk_2 hk_c0 rfl]) rfl ?_
        have h_54 := Inv.g hI_M hk_2 rfl ((M c0 2) - 1) (a := 0) (b := 511) rfl rfl
        refine kx_iload 172 F 4 dX10_go_170 rfl rfl ?_
        refine kx_Si 175 F (As := [vI (M (M c0 6) ((M c0 2) - 1)), vI r_46]) (st := [vR G c0]) sd_X10_60 (e_compose3 G l N_53 (M (M c0 6) ((M c0 2) - 1)) r_46 hI_N_53 (by omega)) ⟨by decide, by decide⟩ rfl rfl (Nat.le_of_ble_eq_true rfl) dX10_go_172 rfl ?_
        intro r_55 N_56 q_57
        obtain ⟨rfl, q_57c, hz_N_56⟩ := q_57
        refine kx_puti 178 F fw_X10_46 rfl hk_c0 rfl rfl (j := 4) rfl dX10_go_175 rfl ?_
        intro N_58 hM_N_58
        have hI_N_58 : Inv false N_58 := Inv.u hI_N_53 hM_N_58 hk_c0 (a := 0) (b := 511) rfl rfl rfl (by omega)
        have hF_N_58 : Fr f_e_go3 M N_58 := Fr.u hF_N_53 hM_N_58 hk_c0 rfl
        have hE_N_58 : Cf (SWk M c0) M N_58 := Cf.st hE_N_53 hM_N_58 (Or.inl rfl)
        refine kx_goto 215 F dX10_go_178 (by decide) ?_
        have e_59 : (N_58 c0 2) = (M c0 2) - 1 := by rw [hM_N_58, mu_i (by omega), hM_N_53, mu_i (by omega), hM_N_43, mu_s]
        have e_60 : (N_58 c0 3) = r_50 := by rw [hM_N_58, mu_i (by omega), hM_N_53, mu_s]
        have e_61 : (N_58 c0 4) = r_55 := by rw [hM_N_58, mu_s]
        exact kx_vret F hQ ⟨hI_N_58, hF_N_58, hE_N_58, (zWG.back (b := r_46) hG (by omega) (by omega) (by rw [hM_N_58, mu_i (by omega), hM_N_53, mu_i (by omega), hM_N_43, mu_i (by omega), hM_N_9, mu_i (by omega)]) (by rw [hM_N_58, mu_i (by omega), hM_N_53, mu_i (by omega), hM_N_43, mu_i (by omega), hM_N_9, mu_i (by omega)]) (by rw [hM_N_58, mu_i (by omega), hM_N_53, mu_i (by omega), hM_N_43, mu_i (by omega), hM_N_9, mu_i (by omega)]) (funext (fun j => by rw [hM_N_58, mu_k hk_1 hk_c0 rfl, hM_N_53, mu_k hk_1 hk_c0 rfl, hM_N_43, mu_k hk_1 hk_c0 rfl, hM_N_9, mu_k hk_1 hk_c0 rfl])) (funext (fun j => by rw [hM_N_58, mu_k hk_2 hk_c0 rfl, hM_N_53, mu_k hk_2 hk_c0 rfl, hM_N_43, mu_k hk_2 hk_c0 rfl, hM_N_9, mu_k hk_2 hk_c0 rfl])) (funext (fun j => by rw [hM_N_58, mu_k hk_3 hk_c0 rfl, hM_N_53, mu_k hk_3 hk_c0 rfl, hM_N_43, mu_k hk_3 hk_c0 rfl, hM_N_9, mu_k hk_3 hk_c0 rfl])) (by have h := hz_N_47; rw [show N_43 c1 11 = M c1 11 from Fr.e hF_N_43 hk_c1 _ rfl, show N_43 (M c1 11) = M (M c1 11) from Fr.fn hF_N_43 hk_5 rfl] at h; exact h) (by rw [hM_N_58, mu_i (by omega), hM_N_53, mu_i (by omega), hM_N_43, mu_i (by omega), hM_N_9, mu_s]; exact he_w_7) (by omega) (by rw [hM_N_58, mu_i (by omega), hM_N_53, mu_s]; exact hz_N_51) (by rw [hM_N_58, mu_s]; exact hz_N_56))⟩ dX10_go_215
  · refine kx_aload_n 15 F 0 dX10_go_14 rfl rfl rfl ?_
    refine kx_geti 18 F fl_X10_28 hk_c0 rfl rfl (j := 2) rfl dX10_go_15 (v := (M c0 2)) (by rw [hM_N_9, mu_i (by omega)]) rfl ?_
    refine kx_bipush 20 F dX10_go_18 (by decide) rfl ?_
    refine kx_icmp_ge 23 F 100 dX10_go_20 (by decide) rfl (by omega) (by decide) (fun h_63 => ?_) (fun h_63 => ?_)
    · refine kx_iload_n 101 F 3 dX10_go_100 rfl rfl rfl ?_
      refine kx_iconst 102 F dX10_go_101 rfl ?_
      refine kx_icmp_ne 105 F 181 dX10_go_102 (by decide) rfl (by omega) (by decide) (fun h_64 => ?_) (fun h_64 => (by exfalso; omega))
      refine kx_aload_n 182 F 0 dX10_go_181 rfl rfl rfl ?_
      refine kx_aload_n 183 F 0 dX10_go_182 rfl rfl rfl ?_
      refine kx_geti 186 F fl_X10_36 hk_c0 rfl rfl (j := 3) rfl dX10_go_183 (v := (M c0 3)) (by rw [hM_N_9, mu_i (by omega)]) rfl ?_
      have h_65 := Inv.g hI_M hk_c0 rfl 3 (a := 0) (b := 7) rfl rfl
      refine kx_aload_n 187 F 1 dX10_go_186 rfl rfl rfl ?_
      refine kx_getr 190 F fl_X10_49 hk_c1 rfl rfl (j := 10) rfl dX10_go_187 (v := (M c1 10)) (by rw [hM_N_9, mu_k hk_c1 hk_c0 rfl]) rfl ?_
      refine kx_iload_n 191 F 2 dX10_go_190 rfl rfl rfl ?_
      refine kx_iald 192 F hk_4 rfl rfl (by omega) (by decide) dX10_go_191 (v := (M (M c1 10) a2)) (by rw [hM_N_9, mu_k hk_4 hk_c0 rfl]) rfl ?_
      have h_66 := Inv.g hI_M hk_4 rfl a2 (a := 0) (b := 511) rfl rfl
      refine kx_Si 195 F (As := [vI (M c0 3), vI (M (M c1 10) a2)]) (st := [vR G c0]) sd_X10_52 (e_image3 G l N_9 (M c0 3) (M (M c1 10) a2) hI_N_9 (by omega)) ⟨by decide, by decide⟩ rfl rfl (Nat.le_of_ble_eq_true rfl) dX10_go_192 rfl ?_
      intro r_67 N_68 q_69
      obtain ⟨rfl, q_69c, hz_N_68⟩ := q_69
      refine kx_puti 198 F fw_X10_36 rfl hk_c0 rfl rfl (j := 3) rfl dX10_go_195 rfl ?_
      intro N_70 hM_N_70
      have hI_N_70 : Inv false N_70 := Inv.u hI_N_9 hM_N_70 hk_c0 (a := 0) (b := 7) rfl rfl rfl (by omega)
      have hF_N_70 : Fr f_e_go3 M N_70 := Fr.u hF_N_9 hM_N_70 hk_c0 rfl
      have hE_N_70 : Cf (SWk M c0) M N_70 := Cf.st hE_N_9 hM_N_70 (Or.inl rfl)
      refine kx_aload_n 199 F 0 dX10_go_198 rfl rfl rfl ?_
      refine kx_aload_n 200 F 0 dX10_go_199 rfl rfl rfl ?_
      refine kx_geti 203 F fl_X10_46 hk_c0 rfl rfl (j := 4) rfl dX10_go_200 (v := (M c0 4)) (by rw [hM_N_70, mu_i (by omega), hM_N_9, mu_i (by omega)]) rfl ?_
      have h_71 := Inv.g hI_M hk_c0 rfl 4 (a := 0) (b := 511) rfl rfl
      refine kx_aload_n 204 F 1 dX10_go_203 rfl rfl rfl ?_
      refine kx_getr 207 F fl_X10_49 hk_c1 rfl rfl (j := 10) rfl dX10_go_204 (v := (M c1 10)) (by rw [hM_N_70, mu_k hk_c1 hk_c0 rfl, hM_N_9, mu_k hk_c1 hk_c0 rfl]) rfl ?_
      refine kx_iload_n 208 F 2 dX10_go_207 rfl rfl rfl ?_
      refine kx_iald 209 F hk_4 rfl rfl (by omega) (by decide) dX10_go_208 (v := (M (M c1 10) a2)) (by rw [hM_N_70, mu_k hk_4 hk_c0 rfl, hM_N_9, mu_k hk_4 hk_c0 rfl]) rfl ?_
      refine kx_Si 212 F (As := [vI (M c0 4), vI (M (M c1 10) a2)]) (st := [vR G c0]) sd_X10_60 (e_compose3 G l N_70 (M c0 4) (M (M c1 10) a2) hI_N_70 (by omega)) ⟨by decide, by decide⟩ rfl rfl (Nat.le_of_ble_eq_true rfl) dX10_go_209 rfl ?_
      intro r_72 N_73 q_74
      obtain ⟨rfl, q_74c, hz_N_73⟩ := q_74
      refine kx_puti 215 F fw_X10_46 rfl hk_c0 rfl rfl (j := 4) rfl dX10_go_212 rfl ?_
      intro N_75 hM_N_75
      have hI_N_75 : Inv false N_75 := Inv.u hI_N_70 hM_N_75 hk_c0 (a := 0) (b := 511) rfl rfl rfl (by omega)
      have hF_N_75 : Fr f_e_go3 M N_75 := Fr.u hF_N_70 hM_N_75 hk_c0 rfl
      have hE_N_75 : Cf (SWk M c0) M N_75 := Cf.st hE_N_70 hM_N_75 (Or.inl rfl)
      have e_76 : (N_75 c0 2) = (M c0 2) := by rw [hM_N_75, mu_i (by omega), hM_N_70, mu_i (by omega), hM_N_9, mu_i (by omega)]
      have e_77 : (N_75 c0 3) = r_67 := by rw [hM_N_75, mu_i (by omega), hM_N_70, mu_s]
      have e_78 : (N_75 c0 4) = r_72 := by rw [hM_N_75, mu_s]
      exact kx_vret F hQ ⟨hI_N_75, hF_N_75, hE_N_75, (zWG.one hG (by omega) (by omega) (by rw [hM_N_75, mu_i (by omega), hM_N_70, mu_i (by omega), hM_N_9, mu_i (by omega)]) (by rw [hM_N_75, mu_i (by omega), hM_N_70, mu_i (by omega), hM_N_9, mu_i (by omega)]) (by rw [hM_N_75, mu_i (by omega), hM_N_70, mu_i (by omega), hM_N_9, mu_i (by omega)]) (funext (fun j => by rw [hM_N_75, mu_k hk_1 hk_c0 rfl, hM_N_70, mu_k hk_1 hk_c0 rfl, hM_N_9, mu_k hk_1 hk_c0 rfl])) (funext (fun j => by rw [hM_N_75, mu_k hk_2 hk_c0 rfl, hM_N_70, mu_k hk_2 hk_c0 rfl, hM_N_9, mu_k hk_2 hk_c0 rfl])) (funext (fun j => by rw [hM_N_75, mu_k hk_3 hk_c0 rfl, hM_N_70, mu_k hk_3 hk_c0 rfl, hM_N_9, mu_k hk_3 hk_c0 rfl])) (by rw [hM_N_75, mu_i (by omega), hM_N_70, mu_i (by omega), hM_N_9, mu_s]; exact he_w_7) (by omega) (by rw [hM_N_75, mu_i (by omega), hM_N_70, mu_s]; exact hz_N_68) (by rw [hM_N_75, mu_s]; exact hz_N_73))⟩ dX10_go_215
    · refine kx_aload_n 24 F 0 dX10_go_23 rfl rfl rfl ?_
      refine kx_getr 27 F fl_X10_15 hk_c0 rfl rfl (j := 5) rfl dX10_go_24 (v := (M c0 5)) (by rw [hM_N_9, mu_i (by omega)]) rfl ?_
      refine kx_aload_n 28 F 0 dX10_go_27 rfl rfl rfl ?_
      refine kx_geti 31 F fl_X10_28 hk_c0 rfl rfl (j := 2) rfl dX10_go_28 (v := (M c0 2)) (by rw [hM_N_9, mu_i (by omega)]) rfl ?_
      refine kx_aload_n 32 F 0 dX10_go_31 rfl rfl rfl ?_
      refine kx_geti 35 F fl_X10_36 hk_c0 rfl rfl (j := 3) rfl dX10_go_32 (v := (M c0 3)) (by rw [hM_N_9, mu_i (by omega)]) rfl ?_
      have h_79 := Inv.g hI_M hk_c0 rfl 3 (a := 0) (b := 7) rfl rfl
      refine kx_iast 36 F hk_1 rfl rfl (by omega) (by decide) dX10_go_35 rfl ?_
      intro N_80 hM_N_80
      have hI_N_80 : Inv false N_80 := Inv.u hI_N_9 hM_N_80 hk_1 (a := 0) (b := 7) rfl rfl rfl (by omega)
      have hF_N_80 : Fr f_e_go3 M N_80 := Fr.u hF_N_9 hM_N_80 hk_1 rfl
      have hE_N_80 : Cf (SWk M c0) M N_80 := Cf.st hE_N_9 hM_N_80 (Or.inr (Or.inl rfl))
      refine kx_aload_n 37 F 0 dX10_go_36 rfl rfl rfl ?_
      refine kx_getr 40 F fl_X10_19 hk_c0 rfl rfl (j := 6) rfl dX10_go_37 (v := (M c0 6)) (by rw [hM_N_80, mu_k hk_c0 hk_1 rfl, hM_N_9, mu_i (by omega)]) rfl ?_
      refine kx_aload_n 41 F 0 dX10_go_40 rfl rfl rfl ?_
      refine kx_geti 44 F fl_X10_28 hk_c0 rfl rfl (j := 2) rfl dX10_go_41 (v := (M c0 2)) (by rw [hM_N_80, mu_k hk_c0 hk_1 rfl, hM_N_9, mu_i (by omega)]) rfl ?_
      refine kx_aload_n 45 F 0 dX10_go_44 rfl rfl rfl ?_
      refine kx_geti 48 F fl_X10_46 hk_c0 rfl rfl (j := 4) rfl dX10_go_45 (v := (M c0 4)) (by rw [hM_N_80, mu_k hk_c0 hk_1 rfl, hM_N_9, mu_i (by omega)]) rfl ?_
      have h_81 := Inv.g hI_M hk_c0 rfl 4 (a := 0) (b := 511) rfl rfl
      refine kx_iast 49 F hk_2 rfl rfl (by omega) (by decide) dX10_go_48 rfl ?_
      intro N_82 hM_N_82
      have hI_N_82 : Inv false N_82 := Inv.u hI_N_80 hM_N_82 hk_2 (a := 0) (b := 511) rfl rfl rfl (by omega)
      have hF_N_82 : Fr f_e_go3 M N_82 := Fr.u hF_N_80 hM_N_82 hk_2 rfl
      have hE_N_82 : Cf (SWk M c0) M N_82 := Cf.st hE_N_80 hM_N_82 (Or.inr (Or.inr (Or.inl rfl)))
      refine kx_aload_n 50 F 0 dX10_go_49 rfl rfl rfl ?_
      refine kx_getr 53 F fl_X10_22 hk_c0 rfl rfl (j := 7) rfl dX10_go_50 (v := (M c0 7)) (by rw [hM_N_82, mu_k hk_c0 hk_2 rfl, hM_N_80, mu_k hk_c0 hk_1 rfl, hM_N_9, mu_i (by omega)]) rfl ?_
      refine kx_aload_n 54 F 0 dX10_go_53 rfl rfl rfl ?_
      refine kx_geti 57 F fl_X10_28 hk_c0 rfl rfl (j := 2) rfl dX10_go_54 (v := (M c0 2)) (by rw [hM_N_82, mu_k hk_c0 hk_2 rfl, hM_N_80, mu_k hk_c0 hk_1 rfl, hM_N_9, mu_i (by omega)]) rfl ?_
      refine kx_iload_n 58 F 2 dX10_go_57 rfl rfl rfl ?_
      refine kx_iast 59 F hk_3 rfl rfl (by omega) (by decide) dX10_go_58 rfl ?_
      intro N_83 hM_N_83
      have hI_N_83 : Inv false N_83 := Inv.u hI_N_82 hM_N_83 hk_3 (a := 0) (b := 5) rfl rfl rfl (by omega)
      have hF_N_83 : Fr f_e_go3 M N_83 := Fr.u hF_N_82 hM_N_83 hk_3 rfl
      have hE_N_83 : Cf (SWk M c0) M N_83 := Cf.st hE_N_82 hM_N_83 (Or.inr (Or.inr (Or.inr rfl)))
      refine kx_aload_n 60 F 0 dX10_go_59 rfl rfl rfl ?_
      refine kx_dup 61 F dX10_go_60 rfl rfl ?_
      refine kx_geti 64 F fl_X10_28 hk_c0 rfl rfl (j := 2) rfl dX10_go_61 (v := (M c0 2)) (by rw [hM_N_83, mu_k hk_c0 hk_3 rfl, hM_N_82, mu_k hk_c0 hk_2 rfl, hM_N_80, mu_k hk_c0 hk_1 rfl, hM_N_9, mu_i (by omega)]) rfl ?_
      refine kx_iconst 65 F dX10_go_64 rfl ?_
      refine kx_iadd 66 F (v := (M c0 2) + 1) dX10_go_65 rfl rfl ?_
      refine kx_puti 69 F fw_X10_28 rfl hk_c0 rfl rfl (j := 2) rfl dX10_go_66 rfl ?_
      intro N_84 hM_N_84
      have hI_N_84 : Inv false N_84 := Inv.u hI_N_83 hM_N_84 hk_c0 (a := 0) (b := 30) rfl rfl rfl (by omega)
      have hF_N_84 : Fr f_e_go3 M N_84 := Fr.u hF_N_83 hM_N_84 hk_c0 rfl
      have hE_N_84 : Cf (SWk M c0) M N_84 := Cf.st hE_N_83 hM_N_84 (Or.inl rfl)
      refine kx_aload_n 70 F 0 dX10_go_69 rfl rfl rfl ?_
      refine kx_aload_n 71 F 0 dX10_go_70 rfl rfl rfl ?_
      refine kx_geti 74 F fl_X10_36 hk_c0 rfl rfl (j := 3) rfl dX10_go_71 (v := (M c0 3)) (by rw [hM_N_84, mu_i (by omega), hM_N_83, mu_k hk_c0 hk_3 rfl, hM_N_82, mu_k hk_c0 hk_2 rfl, hM_N_80, mu_k hk_c0 hk_1 rfl, hM_N_9, mu_i (by omega)]) rfl ?_
      refine kx_aload_n 75 F 1 dX10_go_74 rfl rfl rfl ?_
      refine kx_getr 78 F fl_X10_49 hk_c1 rfl rfl (j := 10) rfl dX10_go_75 (v := (M c1 10)) (by rw [hM_N_84, mu_k hk_c1 hk_c0 rfl, hM_N_83, mu_k hk_c1 hk_3 rfl, hM_N_82, mu_k hk_c1 hk_2 rfl, hM_N_80, mu_k hk_c1 hk_1 rfl, hM_N_9, mu_k hk_c1 hk_c0 rfl]) rfl ?_
      refine kx_iload_n 79 F 2 dX10_go_78 rfl rfl rfl ?_
      refine kx_iald 80 F hk_4 rfl rfl (by omega) (by decide) dX10_go_79 (v := (M (M c1 10) a2)) (by rw [hM_N_84, mu_k hk_4 hk_c0 rfl, hM_N_83, mu_k hk_4 hk_3 rfl, hM_N_82, mu_k hk_4 hk_2 rfl, hM_N_80, mu_k hk_4 hk_1 rfl, hM_N_9, mu_k hk_4 hk_c0 rfl]) rfl ?_
      have h_85 := Inv.g hI_M hk_4 rfl a2 (a := 0) (b := 511) rfl rfl
      refine kx_Si 83 F (As := [vI (M c0 3), vI (M (M c1 10) a2)]) (st := [vR G c0]) sd_X10_52 (e_image3 G l N_84 (M c0 3) (M (M c1 10) a2) hI_N_84 (by omega)) ⟨by decide, by decide⟩ rfl rfl (Nat.le_of_ble_eq_true rfl) dX10_go_80 rfl ?_
      intro r_86 N_87 q_88
      obtain ⟨rfl, q_88c, hz_N_87⟩ := q_88
      refine kx_puti 86 F fw_X10_36 rfl hk_c0 rfl rfl (j := 3) rfl dX10_go_83 rfl ?_
      intro N_89 hM_N_89
      have hI_N_89 : Inv false N_89 := Inv.u hI_N_84 hM_N_89 hk_c0 (a := 0) (b := 7) rfl rfl rfl (by omega)
      have hF_N_89 : Fr f_e_go3 M N_89 := Fr.u hF_N_84 hM_N_89 hk_c0 rfl
      have hE_N_89 : Cf (SWk M c0) M N_89 := Cf.st hE_N_84 hM_N_89 (Or.inl rfl)
      refine kx_aload_n 87 F 0 dX10_go_86 rfl rfl rfl ?_
      refine kx_aload_n 88 F 1 dX10_go_87 rfl rfl rfl ?_
      refine kx_geti 91 F fl_X10_39 hk_c1 rfl rfl (j := 0) rfl dX10_go_88 (v := (M c1 0)) (by rw [hM_N_89, mu_k hk_c1 hk_c0 rfl, hM_N_84, mu_k hk_c1 hk_c0 rfl, hM_N_83, mu_k hk_c1 hk_3 rfl, hM_N_82, mu_k hk_c1 hk_2 rfl, hM_N_80, mu_k hk_c1 hk_1 rfl, hM_N_9, mu_k hk_c1 hk_c0 rfl]) rfl ?_
      have h_90 := Inv.g hI_M hk_c1 rfl 0 (a := 0) (b := 3) rfl rfl
      refine kx_Si 94 F (As := [vI (M c1 0)]) (st := [vR G c0]) sd_X10_40 (e_identity3 G l N_89 (M c1 0) hI_N_89 (by omega)) ⟨by decide, by decide⟩ rfl rfl (Nat.le_of_ble_eq_true rfl) dX10_go_91 rfl ?_
      intro r_91 N_92 q_93
      obtain ⟨rfl, q_93c, hz_N_92⟩ := q_93
      refine kx_puti 97 F fw_X10_46 rfl hk_c0 rfl rfl (j := 4) rfl dX10_go_94 rfl ?_
      intro N_94 hM_N_94
      have hI_N_94 : Inv false N_94 := Inv.u hI_N_89 hM_N_94 hk_c0 (a := 0) (b := 511) rfl rfl rfl (by omega)
      have hF_N_94 : Fr f_e_go3 M N_94 := Fr.u hF_N_89 hM_N_94 hk_c0 rfl
      have hE_N_94 : Cf (SWk M c0) M N_94 := Cf.st hE_N_89 hM_N_94 (Or.inl rfl)
      refine kx_goto 215 F dX10_go_97 (by decide) ?_
      have e_95 : (N_94 c0 2) = (M c0 2) + 1 := by rw [hM_N_94, mu_i (by omega), hM_N_89, mu_i (by omega), hM_N_84, mu_s]
      have e_96 : (N_94 c0 3) = r_86 := by rw [hM_N_94, mu_i (by omega), hM_N_89, mu_s]
      have e_97 : (N_94 c0 4) = r_91 := by rw [hM_N_94, mu_s]
      exact kx_vret F hQ ⟨hI_N_94, hF_N_94, hE_N_94, (zWG.call hG (by omega) (by omega) (by rw [hM_N_94, mu_i (by omega), hM_N_89, mu_i (by omega), hM_N_84, mu_i (by omega), hM_N_83, mu_k hk_c0 hk_3 rfl, hM_N_82, mu_k hk_c0 hk_2 rfl, hM_N_80, mu_k hk_c0 hk_1 rfl, hM_N_9, mu_i (by omega)]) (by rw [hM_N_94, mu_i (by omega), hM_N_89, mu_i (by omega), hM_N_84, mu_i (by omega), hM_N_83, mu_k hk_c0 hk_3 rfl, hM_N_82, mu_k hk_c0 hk_2 rfl, hM_N_80, mu_k hk_c0 hk_1 rfl, hM_N_9, mu_i (by omega)]) (by rw [hM_N_94, mu_i (by omega), hM_N_89, mu_i (by omega), hM_N_84, mu_i (by omega), hM_N_83, mu_k hk_c0 hk_3 rfl, hM_N_82, mu_k hk_c0 hk_2 rfl, hM_N_80, mu_k hk_c0 hk_1 rfl, hM_N_9, mu_i (by omega)]) (fun j => by rw [hM_N_94, mu_k hk_1 hk_c0 rfl, hM_N_89, mu_k hk_1 hk_c0 rfl, hM_N_84, mu_k hk_1 hk_c0 rfl, hM_N_83, mu_k hk_1 hk_3 rfl, hM_N_82, mu_k hk_1 hk_2 rfl, hM_N_80, mu_at, hM_N_9, mu_k hk_1 hk_c0 rfl]) (fun j => by rw [hM_N_94, mu_k hk_2 hk_c0 rfl, hM_N_89, mu_k hk_2 hk_c0 rfl, hM_N_84, mu_k hk_2 hk_c0 rfl, hM_N_83, mu_k hk_2 hk_3 rfl, hM_N_82, mu_at, hM_N_80, mu_k hk_2 hk_1 rfl, hM_N_9, mu_k hk_2 hk_c0 rfl]) (fun j => by rw [hM_N_94, mu_k hk_3 hk_c0 rfl, hM_N_89, mu_k hk_3 hk_c0 rfl, hM_N_84, mu_k hk_3 hk_c0 rfl, hM_N_83, mu_at, hM_N_82, mu_k hk_3 hk_2 rfl, hM_N_80, mu_k hk_3 hk_1 rfl, hM_N_9, mu_k hk_3 hk_c0 rfl]) (by rw [hM_N_94, mu_i (by omega), hM_N_89, mu_i (by omega), hM_N_84, mu_i (by omega), hM_N_83, mu_k hk_c0 hk_3 rfl, hM_N_82, mu_k hk_c0 hk_2 rfl, hM_N_80, mu_k hk_c0 hk_1 rfl, hM_N_9, mu_s]; exact he_w_7) (by omega) (by rw [hM_N_94, mu_i (by omega), hM_N_89, mu_s]; exact hz_N_87) (by rw [hM_N_94, mu_s]; exact hz_N_92))⟩ dX10_go_215
