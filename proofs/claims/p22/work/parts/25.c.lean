theorem dX12_fails_0 : decode cX12_fails 0 = .ok (.aload_n 0, 1) := by decide +kernel
theorem dX12_fails_1 : decode cX12_fails 1 = .ok (.getfield 193, 3) := by decide +kernel
theorem dX12_fails_4 : decode cX12_fails 4 = .ok (.ifCond .ne 28, 3) := by decide +kernel
theorem dX12_fails_7 : decode cX12_fails 7 = .ok (.aload_n 0, 1) := by decide +kernel
theorem dX12_fails_8 : decode cX12_fails 8 = .ok (.aload_n 0, 1) := by decide +kernel
theorem dX12_fails_9 : decode cX12_fails 9 = .ok (.getfield 168, 3) := by decide +kernel
theorem dX12_fails_12 : decode cX12_fails 12 = .ok (.iconst 1, 1) := by decide +kernel
theorem dX12_fails_13 : decode cX12_fails 13 = .ok (.if_icmp .ne 7, 3) := by decide +kernel
theorem dX12_fails_16 : decode cX12_fails 16 = .ok (.iconst 1, 1) := by decide +kernel
theorem dX12_fails_17 : decode cX12_fails 17 = .ok (.goto 4, 3) := by decide +kernel
theorem dX12_fails_20 : decode cX12_fails 20 = .ok (.iload_n 1, 1) := by decide +kernel
theorem dX12_fails_21 : decode cX12_fails 21 = .ok (.putfield 193, 3) := by decide +kernel
theorem dX12_fails_24 : decode cX12_fails 24 = .ok (.aload_n 0, 1) := by decide +kernel
theorem dX12_fails_25 : decode cX12_fails 25 = .ok (.aload_n 0, 1) := by decide +kernel
theorem dX12_fails_26 : decode cX12_fails 26 = .ok (.getfield 162, 3) := by decide +kernel
theorem dX12_fails_29 : decode cX12_fails 29 = .ok (.putfield 41, 3) := by decide +kernel
theorem dX12_fails_32 : decode cX12_fails 32 = .ok (.iconst 0, 1) := by decide +kernel
theorem dX12_fails_33 : decode cX12_fails 33 = .ok (.ireturn, 1) := by decide +kernel
abbrev f_c_X12_fails : List (Nat × Int) := [(64, 17), (64, 18)]
set_option maxHeartbeats 4000000 in
set_option maxRecDepth 100000 in
theorem c_X12_fails (G : KG) (l : Launch) (M : Mem) (a1 : Int) (hI_M : Inv true M) (hpre : -2147483648 ≤ a1 ∧ a1 ≤ 2147483647 ∧ a1 ≠ 0) : KC true G l yX12_fails cX12_fails 2 (some .boolean) (0, 0) [vR G 163, vI a1] M (fun A => kQi true G A (fun (r : Int) (N : Mem) => Inv true N ∧ Fr f_c_X12_fails M N ∧ (r = 0 ∧ (N 163 18) ≠ 0))) := by
  refine kx_met (lo := [some (vR G 163), some (vI a1)]) (by decide) (Nat.le_of_ble_eq_true rfl) rfl ?_
  intro X F hQ
  have hF_M : Fr f_c_X12_fails M M := Fr.rf _ _
  refine kx_aload_n 1 F 0 dX12_fails_0 rfl rfl rfl ?_
  refine kx_geti 4 F fl_X12_193 kd_163 rfl rfl (j := 18) rfl dX12_fails_1 (v := (M 163 18)) rfl rfl ?_
  have h_1 := Inv.g hI_M kd_163 rfl 18 (a := (-2147483648)) (b := 2147483647) rfl rfl
  refine kx_if_ne 7 F 32 dX12_fails_4 (by decide) rfl (by omega) (fun h_2 => ?_) (fun h_2 => ?_)
  · refine kx_iconst 33 F dX12_fails_32 rfl ?_
    exact kx_zret F hQ (by omega) ⟨hI_M, hF_M, (by omega)⟩ dX12_fails_33
  · refine kx_aload_n 8 F 0 dX12_fails_7 rfl rfl rfl ?_
    refine kx_aload_n 9 F 0 dX12_fails_8 rfl rfl rfl ?_
    refine kx_geti 12 F fl_X12_168 kd_163 rfl rfl (j := 12) rfl dX12_fails_9 (v := (M 163 12)) rfl rfl ?_
    have h_3 := Inv.g hI_M kd_163 rfl 12 (a := 0) (b := 4) rfl rfl
    refine kx_iconst 13 F dX12_fails_12 rfl ?_
    refine kx_icmp_ne 16 F 20 dX12_fails_13 (by decide) rfl (by omega) (by decide) (fun h_4 => ?_) (fun h_4 => ?_)
    · refine kx_iload_n 21 F 1 dX12_fails_20 rfl rfl rfl ?_
      refine kx_puti 24 F fw_X12_193 rfl kd_163 rfl rfl (j := 18) rfl dX12_fails_21 rfl ?_
      intro N_5 hM_N_5
      have hI_N_5 : Inv true N_5 := Inv.u hI_M hM_N_5 kd_163 (a := (-2147483648)) (b := 2147483647) rfl rfl rfl (by omega)
      have hF_N_5 : Fr f_c_X12_fails M N_5 := Fr.u hF_M hM_N_5 kd_163 rfl
      refine kx_aload_n 25 F 0 dX12_fails_24 rfl rfl rfl ?_
      refine kx_aload_n 26 F 0 dX12_fails_25 rfl rfl rfl ?_
      refine kx_geti 29 F fl_X12_162 kd_163 rfl rfl (j := 13) rfl dX12_fails_26 (v := (M 163 13)) (by rw [hM_N_5, mu_i (by omega)]) rfl ?_
      have h_6 := Inv.g hI_M kd_163 rfl 13 (a := 0) (b := 900) rfl rfl
      refine kx_puti 32 F fw_X12_41 rfl kd_163 rfl rfl (j := 17) rfl dX12_fails_29 rfl ?_
      intro N_7 hM_N_7
      have hI_N_7 : Inv true N_7 := Inv.u hI_N_5 hM_N_7 kd_163 (a := (-2147483648)) (b := 2147483647) rfl rfl rfl (by omega)
      have hF_N_7 : Fr f_c_X12_fails M N_7 := Fr.u hF_N_5 hM_N_7 kd_163 rfl
      refine kx_iconst 33 F dX12_fails_32 rfl ?_
      have e_8 : (N_7 163 18) = a1 := by rw [hM_N_7, mu_i (by omega), hM_N_5, mu_s]
      exact kx_zret F hQ (by omega) ⟨hI_N_7, hF_N_7, (by omega)⟩ dX12_fails_33
    · refine kx_iconst 17 F dX12_fails_16 rfl ?_
      refine kx_goto 21 F dX12_fails_17 (by decide) ?_
      refine kx_puti 24 F fw_X12_193 rfl kd_163 rfl rfl (j := 18) rfl dX12_fails_21 rfl ?_
      intro N_9 hM_N_9
      have hI_N_9 : Inv true N_9 := Inv.u hI_M hM_N_9 kd_163 (a := (-2147483648)) (b := 2147483647) rfl rfl rfl (by omega)
      have hF_N_9 : Fr f_c_X12_fails M N_9 := Fr.u hF_M hM_N_9 kd_163 rfl
      refine kx_aload_n 25 F 0 dX12_fails_24 rfl rfl rfl ?_
      refine kx_aload_n 26 F 0 dX12_fails_25 rfl rfl rfl ?_
      refine kx_geti 29 F fl_X12_162 kd_163 rfl rfl (j := 13) rfl dX12_fails_26 (v := (M 163 13)) (by rw [hM_N_9, mu_i (by omega)]) rfl ?_
      have h_10 := Inv.g hI_M kd_163 rfl 13 (a := 0) (b := 900) rfl rfl
      refine kx_puti 32 F fw_X12_41 rfl kd_163 rfl rfl (j := 17) rfl dX12_fails_29 rfl ?_
      intro N_11 hM_N_11
      have hI_N_11 : Inv true N_11 := Inv.u hI_N_9 hM_N_11 kd_163 (a := (-2147483648)) (b := 2147483647) rfl rfl rfl (by omega)
      have hF_N_11 : Fr f_c_X12_fails M N_11 := Fr.u hF_N_9 hM_N_11 kd_163 rfl
      refine kx_iconst 33 F dX12_fails_32 rfl ?_
      have e_12 : (N_11 163 18) = 1 := by rw [hM_N_11, mu_i (by omega), hM_N_9, mu_s]
      exact kx_zret F hQ (by omega) ⟨hI_N_11, hF_N_11, (by omega)⟩ dX12_fails_33
theorem dX12_inWords_0 : decode cX12_inWords 0 = .ok (.aload_n 0, 1) := by decide +kernel
theorem dX12_inWords_1 : decode cX12_inWords 1 = .ok (.getfield 168, 3) := by decide +kernel
theorem dX12_inWords_4 : decode cX12_inWords 4 = .ok (.iconst 2, 1) := by decide +kernel
theorem dX12_inWords_5 : decode cX12_inWords 5 = .ok (.if_icmp .eq 5, 3) := by decide +kernel
theorem dX12_inWords_8 : decode cX12_inWords 8 = .ok (.iconst (-1), 1) := by decide +kernel
theorem dX12_inWords_9 : decode cX12_inWords 9 = .ok (.ireturn, 1) := by decide +kernel
theorem dX12_inWords_10 : decode cX12_inWords 10 = .ok (.iconst 0, 1) := by decide +kernel
theorem dX12_inWords_11 : decode cX12_inWords 11 = .ok (.istore_n 2, 1) := by decide +kernel
theorem dX12_inWords_12 : decode cX12_inWords 12 = .ok (.iconst 1, 1) := by decide +kernel
theorem dX12_inWords_13 : decode cX12_inWords 13 = .ok (.istore_n 3, 1) := by decide +kernel
theorem dX12_inWords_14 : decode cX12_inWords 14 = .ok (.iload_n 3, 1) := by decide +kernel
theorem dX12_inWords_15 : decode cX12_inWords 15 = .ok (.aload_n 1, 1) := by decide +kernel
theorem dX12_inWords_16 : decode cX12_inWords 16 = .ok (.invokevirtual 183, 3) := by decide +kernel
theorem dX12_inWords_19 : decode cX12_inWords 19 = .ok (.if_icmp .ge 114, 3) := by decide +kernel
theorem dX12_inWords_22 : decode cX12_inWords 22 = .ok (.iload_n 3, 1) := by decide +kernel
theorem dX12_inWords_23 : decode cX12_inWords 23 = .ok (.istore 4, 2) := by decide +kernel
theorem dX12_inWords_25 : decode cX12_inWords 25 = .ok (.aload_n 1, 1) := by decide +kernel
theorem dX12_inWords_26 : decode cX12_inWords 26 = .ok (.iload 4, 2) := by decide +kernel
theorem dX12_inWords_28 : decode cX12_inWords 28 = .ok (.invokevirtual 189, 3) := by decide +kernel
theorem dX12_inWords_31 : decode cX12_inWords 31 = .ok (.bipush 32, 2) := by decide +kernel
theorem dX12_inWords_33 : decode cX12_inWords 33 = .ok (.if_icmp .eq 9, 3) := by decide +kernel
theorem dX12_inWords_36 : decode cX12_inWords 36 = .ok (.iinc 4 1, 3) := by decide +kernel
theorem dX12_inWords_39 : decode cX12_inWords 39 = .ok (.goto (-14), 3) := by decide +kernel
theorem dX12_inWords_42 : decode cX12_inWords 42 = .ok (.iload 4, 2) := by decide +kernel
theorem dX12_inWords_44 : decode cX12_inWords 44 = .ok (.iload_n 3, 1) := by decide +kernel
theorem dX12_inWords_45 : decode cX12_inWords 45 = .ok (.isub, 1) := by decide +kernel
theorem dX12_inWords_46 : decode cX12_inWords 46 = .ok (.aload_n 0, 1) := by decide +kernel
theorem dX12_inWords_47 : decode cX12_inWords 47 = .ok (.getfield 156, 3) := by decide +kernel
theorem dX12_inWords_50 : decode cX12_inWords 50 = .ok (.aload_n 0, 1) := by decide +kernel
theorem dX12_inWords_51 : decode cX12_inWords 51 = .ok (.getfield 162, 3) := by decide +kernel
theorem dX12_inWords_54 : decode cX12_inWords 54 = .ok (.isub, 1) := by decide +kernel
theorem dX12_inWords_55 : decode cX12_inWords 55 = .ok (.if_icmp .ne 7, 3) := by decide +kernel
theorem dX12_inWords_58 : decode cX12_inWords 58 = .ok (.iconst 1, 1) := by decide +kernel
theorem dX12_inWords_59 : decode cX12_inWords 59 = .ok (.goto 4, 3) := by decide +kernel
theorem dX12_inWords_62 : decode cX12_inWords 62 = .ok (.iconst 0, 1) := by decide +kernel
theorem dX12_inWords_63 : decode cX12_inWords 63 = .ok (.istore 5, 2) := by decide +kernel
theorem dX12_inWords_65 : decode cX12_inWords 65 = .ok (.iload_n 3, 1) := by decide +kernel
theorem dX12_inWords_66 : decode cX12_inWords 66 = .ok (.istore 6, 2) := by decide +kernel
theorem dX12_inWords_68 : decode cX12_inWords 68 = .ok (.iload 6, 2) := by decide +kernel
theorem dX12_inWords_70 : decode cX12_inWords 70 = .ok (.iload 4, 2) := by decide +kernel
theorem dX12_inWords_72 : decode cX12_inWords 72 = .ok (.if_icmp .ge 43, 3) := by decide +kernel
theorem dX12_inWords_75 : decode cX12_inWords 75 = .ok (.iload 5, 2) := by decide +kernel
theorem dX12_inWords_77 : decode cX12_inWords 77 = .ok (.ifCond .eq 38, 3) := by decide +kernel
theorem dX12_inWords_80 : decode cX12_inWords 80 = .ok (.aload_n 1, 1) := by decide +kernel
theorem dX12_inWords_81 : decode cX12_inWords 81 = .ok (.iload 6, 2) := by decide +kernel
theorem dX12_inWords_83 : decode cX12_inWords 83 = .ok (.invokevirtual 189, 3) := by decide +kernel
theorem dX12_inWords_86 : decode cX12_inWords 86 = .ok (.aload_n 0, 1) := by decide +kernel
theorem dX12_inWords_87 : decode cX12_inWords 87 = .ok (.aload_n 0, 1) := by decide +kernel
theorem dX12_inWords_88 : decode cX12_inWords 88 = .ok (.getfield 162, 3) := by decide +kernel
theorem dX12_inWords_91 : decode cX12_inWords 91 = .ok (.iload 6, 2) := by decide +kernel
theorem dX12_inWords_93 : decode cX12_inWords 93 = .ok (.iadd, 1) := by decide +kernel
theorem dX12_inWords_94 : decode cX12_inWords 94 = .ok (.iload_n 3, 1) := by decide +kernel
theorem dX12_inWords_95 : decode cX12_inWords 95 = .ok (.isub, 1) := by decide +kernel
theorem dX12_inWords_96 : decode cX12_inWords 96 = .ok (.invokevirtual 159, 3) := by decide +kernel
theorem dX12_inWords_99 : decode cX12_inWords 99 = .ok (.if_icmp .ne 7, 3) := by decide +kernel
theorem dX12_inWords_102 : decode cX12_inWords 102 = .ok (.iconst 1, 1) := by decide +kernel
theorem dX12_inWords_103 : decode cX12_inWords 103 = .ok (.goto 4, 3) := by decide +kernel
theorem dX12_inWords_106 : decode cX12_inWords 106 = .ok (.iconst 0, 1) := by decide +kernel
theorem dX12_inWords_107 : decode cX12_inWords 107 = .ok (.istore 5, 2) := by decide +kernel
theorem dX12_inWords_109 : decode cX12_inWords 109 = .ok (.iinc 6 1, 3) := by decide +kernel
theorem dX12_inWords_112 : decode cX12_inWords 112 = .ok (.goto (-44), 3) := by decide +kernel
theorem dX12_inWords_115 : decode cX12_inWords 115 = .ok (.iload 5, 2) := by decide +kernel
theorem dX12_inWords_117 : decode cX12_inWords 117 = .ok (.ifCond .eq 5, 3) := by decide +kernel
theorem dX12_inWords_120 : decode cX12_inWords 120 = .ok (.iload_n 2, 1) := by decide +kernel
theorem dX12_inWords_121 : decode cX12_inWords 121 = .ok (.ireturn, 1) := by decide +kernel
theorem dX12_inWords_122 : decode cX12_inWords 122 = .ok (.iinc 2 1, 3) := by decide +kernel
theorem dX12_inWords_125 : decode cX12_inWords 125 = .ok (.iload 4, 2) := by decide +kernel
theorem dX12_inWords_127 : decode cX12_inWords 127 = .ok (.iconst 1, 1) := by decide +kernel
theorem dX12_inWords_128 : decode cX12_inWords 128 = .ok (.iadd, 1) := by decide +kernel
theorem dX12_inWords_129 : decode cX12_inWords 129 = .ok (.istore_n 3, 1) := by decide +kernel
theorem dX12_inWords_130 : decode cX12_inWords 130 = .ok (.goto (-116), 3) := by decide +kernel
theorem dX12_inWords_133 : decode cX12_inWords 133 = .ok (.iconst (-1), 1) := by decide +kernel
theorem dX12_inWords_134 : decode cX12_inWords 134 = .ok (.ireturn, 1) := by decide +kernel
set_option maxHeartbeats 4000000 in
set_option maxRecDepth 100000 in
theorem c_X12_inWords (G : KG) (l : Launch) (M : Mem) (hI_M : Inv true M) : KC true G l yX12_inWords cX12_inWords 7 (some .int) (4, 85) [vR G 163, vT G 11] M (fun A => kQi true G A (fun (r : Int) (N : Mem) => M = N ∧ ((r = -1) ∨ (r ≥ 0 ∧ r ≤ 66 ∧ (M 163 12) = 2)))) := by
  refine kx_met (lo := [some (vR G 163), some (vT G 11), none, none, none, none, none]) (by decide) (Nat.le_of_ble_eq_true rfl) rfl ?_
  intro X F hQ
  have h_1 : slen 11 = 67 := rfl
  refine kx_aload_n 1 F 0 dX12_inWords_0 rfl rfl rfl ?_
  refine kx_geti 4 F fl_X12_168 kd_163 rfl rfl (j := 12) rfl dX12_inWords_1 (v := (M 163 12)) rfl rfl ?_
  have h_2 := Inv.g hI_M kd_163 rfl 12 (a := 0) (b := 4) rfl rfl
  refine kx_iconst 5 F dX12_inWords_4 rfl ?_
  refine kx_icmp_eq 8 F 10 dX12_inWords_5 (by decide) rfl (by omega) (by decide) (fun h_3 => ?_) (fun h_3 => ?_)
  · refine kx_iconst 11 F dX12_inWords_10 rfl ?_
    refine kx_istore_n 12 F 2 (lo' := [some (vR G 163), some (vT G 11), some (vI 0), none, none, none, none]) dX12_inWords_11 rfl (by decide) rfl rfl rfl ?_
    refine kx_iconst 13 F dX12_inWords_12 rfl ?_
    refine kx_istore_n 14 F 3 (lo' := [some (vR G 163), some (vT G 11), some (vI 0), some (vI 1), none, none, none]) dX12_inWords_13 rfl (by decide) rfl rfl rfl ?_
    have L_174 : ∀ (n_175 : Nat) (x2_172 : Int) (x3_173 : Int), 0 ≤ x2_172 ∧ x2_172 ≤ 67 ∧ 1 ≤ x3_173 ∧ x3_173 ≤ 67 ∧ x2_172 ≤ x3_173 → (67 - (x2_172)).toNat = n_175 → KJ true G X M 14 [some (vR G 163), some (vT G 11), some (vI x2_172), some (vI x3_173), none, none, none] [] := by
      intro n_175
      refine Nat.strongRecOn n_175 ?_
      intro n_175 ih_176 x2_172 x3_173 h_177 hm_178
      refine kx_iload_n 15 F 3 dX12_inWords_14 rfl rfl rfl ?_
      refine kx_aload_n 16 F 1 dX12_inWords_15 rfl rfl rfl ?_
      refine kx_VSi 19 F (As := []) (st := [vI x3_173]) (by omega) vd_X12_183 (c_slength_t G l M 11 hI_M (by omega)) rfl ⟨by decide, by decide⟩ rfl rfl (Nat.le_of_ble_eq_true rfl) dX12_inWords_16 rfl ?_
      intro r_179 N_180 q_181
      obtain ⟨rfl, q_181c⟩ := q_181
      have h_182 := slen_rng 11
      refine kx_topi (e' := (slen 11)) (by omega) ?_
      refine kx_icmp_ge 22 F 133 dX12_inWords_19 (by decide) rfl (by omega) (by omega) (fun h_183 => ?_) (fun h_183 => ?_)
      · refine kx_iconst 134 F dX12_inWords_133 rfl ?_
        exact kx_iret F hQ ⟨rfl, (by omega)⟩ dX12_inWords_134
      · refine kx_iload_n 23 F 3 dX12_inWords_22 rfl rfl rfl ?_
        refine kx_istore 25 F 4 (lo' := [some (vR G 163), some (vT G 11), some (vI x2_172), some (vI x3_173), some (vI x3_173), none, none]) dX12_inWords_23 (by decide) rfl rfl rfl ?_
        have L_263 : ∀ (n_264 : Nat) (x4_262 : Int), 1 ≤ x4_262 ∧ x4_262 ≤ 66 ∧ x3_173 ≤ x4_262 → (66 - (x4_262)).toNat = n_264 → KJ true G X M 25 [some (vR G 163), some (vT G 11), some (vI x2_172), some (vI x3_173), some (vI x4_262), none, none] [] := by
          intro n_264
          refine Nat.strongRecOn n_264 ?_
          intro n_264 ih_265 x4_262 h_266 hm_267
          refine kx_aload_n 26 F 1 dX12_inWords_25 rfl rfl rfl ?_
          refine kx_iload 28 F 4 dX12_inWords_26 rfl rfl ?_
          refine kx_VSi 31 F (As := [vI x4_262]) (st := []) (by omega) vd_X12_189 (c_charAt_t G l M 11 x4_262 hI_M (by omega)) rfl ⟨by decide, by decide⟩ rfl rfl (Nat.le_of_ble_eq_true rfl) dX12_inWords_28 rfl ?_
          intro r_268 N_269 q_270
          obtain ⟨rfl, q_270c⟩ := q_270
          have h_271 : ¬ x4_262 = 66 ∨ zand (schar 11 x4_262) 255 = 32 := by
            by_cases q : x4_262 = 66
            · exact Or.inr (by rw [q]; decide)
            · exact Or.inl q
          refine kx_bipush 33 F dX12_inWords_31 (by decide) rfl ?_
          refine kx_icmp_eq 36 F 42 dX12_inWords_33 (by decide) rfl (by omega) (by decide) (fun h_272 => ?_) (fun h_272 => ?_)
          · refine kx_iload 44 F 4 dX12_inWords_42 rfl rfl ?_
            refine kx_iload_n 45 F 3 dX12_inWords_44 rfl rfl rfl ?_
            refine kx_isub 46 F (v := x4_262 - x3_173) dX12_inWords_45 rfl rfl ?_
            refine kx_aload_n 47 F 0 dX12_inWords_46 rfl rfl rfl ?_
            refine kx_geti 50 F fl_X12_156 kd_163 rfl rfl (j := 14) rfl dX12_inWords_47 (v := (M 163 14)) rfl rfl ?_
            have h_273 := Inv.g hI_M kd_163 rfl 14 (a := 0) (b := 900) rfl rfl
            refine kx_aload_n 51 F 0 dX12_inWords_50 rfl rfl rfl ?_
            refine kx_geti 54 F fl_X12_162 kd_163 rfl rfl (j := 13) rfl dX12_inWords_51 (v := (M 163 13)) rfl rfl ?_
            have h_274 := Inv.g hI_M kd_163 rfl 13 (a := 0) (b := 900) rfl rfl
            refine kx_isub 55 F (v := (M 163 14) - (M 163 13)) dX12_inWords_54 rfl rfl ?_
            have J_278 : ∀ (y0_277 : Int), 0 ≤ y0_277 ∧ y0_277 ≤ 1 → KJ true G X M 63 [some (vR G 163), some (vT G 11), some (vI x2_172), some (vI x3_173), some (vI x4_262), none, none] [vI y0_277] := by
              intro y0_277 h_279
              refine kx_istore 65 F 5 (lo' := [some (vR G 163), some (vT G 11), some (vI x2_172), some (vI x3_173), some (vI x4_262), some (vI y0_277), none]) dX12_inWords_63 (by decide) rfl rfl rfl ?_
              refine kx_iload_n 66 F 3 dX12_inWords_65 rfl rfl rfl ?_
              refine kx_istore 68 F 6 (lo' := [some (vR G 163), some (vT G 11), some (vI x2_172), some (vI x3_173), some (vI x4_262), some (vI y0_277), some (vI x3_173)]) dX12_inWords_66 (by decide) rfl rfl rfl ?_
              have L_298 : ∀ (n_299 : Nat) (x5_296 : Int) (x6_297 : Int), 0 ≤ x5_296 ∧ x5_296 ≤ 1 ∧ 1 ≤ x6_297 ∧ x6_297 ≤ 66 ∧ x3_173 ≤ x6_297 → (66 - (x6_297)).toNat = n_299 → KJ true G X M 68 [some (vR G 163), some (vT G 11), some (vI x2_172), some (vI x3_173), some (vI x4_262), some (vI x5_296), some (vI x6_297)] [] := by
                intro n_299
                refine Nat.strongRecOn n_299 ?_
                intro n_299 ih_300 x5_296 x6_297 h_301 hm_302
                refine kx_iload 70 F 6 dX12_inWords_68 rfl rfl ?_
                refine kx_iload 72 F 4 dX12_inWords_70 rfl rfl ?_
                have J_315 : KJ true G X M 115 [some (vR G 163), some (vT G 11), some (vI x2_172), none, some (vI x4_262), some (vI x5_296), none] [] := by
                  refine kx_iload 117 F 5 dX12_inWords_115 rfl rfl ?_
                  refine kx_if_eq 120 F 122 dX12_inWords_117 (by decide) rfl (by omega) (fun h_317 => ?_) (fun h_317 => ?_)
                  · refine kx_iinc 125 F 2 (v := x2_172 + 1) (lo' := [some (vR G 163), some (vT G 11), some (vI (x2_172 + 1)), none, some (vI x4_262), some (vI x5_296), none]) dX12_inWords_122 rfl (by omega) (by decide) rfl rfl rfl ?_
                    refine kx_iload 127 F 4 dX12_inWords_125 rfl rfl ?_
                    refine kx_iconst 128 F dX12_inWords_127 rfl ?_
                    refine kx_iadd 129 F (v := x4_262 + 1) dX12_inWords_128 rfl rfl ?_
                    refine kx_istore_n 130 F 3 (lo' := [some (vR G 163), some (vT G 11), some (vI (x2_172 + 1)), some (vI (x4_262 + 1)), some (vI x4_262), some (vI x5_296), none]) dX12_inWords_129 rfl (by decide) rfl rfl rfl ?_
                    refine kx_goto 14 F dX12_inWords_130 (by decide) ?_
                    refine kx_drop 4 (lo' := [some (vR G 163), some (vT G 11), some (vI (x2_172 + 1)), some (vI (x4_262 + 1)), none, some (vI x5_296), none]) rfl ?_
                    refine kx_drop 5 (lo' := [some (vR G 163), some (vT G 11), some (vI (x2_172 + 1)), some (vI (x4_262 + 1)), none, none, none]) rfl ?_
                    exact ih_176 _ (by omega) (x2_172 + 1) (x4_262 + 1) (by omega) rfl
                  · refine kx_iload_n 121 F 2 dX12_inWords_120 rfl rfl rfl ?_
                    exact kx_iret F hQ ⟨rfl, (by omega)⟩ dX12_inWords_121
                refine kx_icmp_ge 75 F 115 dX12_inWords_72 (by decide) rfl (by omega) (by omega) (fun h_318 => ?_) (fun h_318 => ?_)
                · refine kx_drop 3 (lo' := [some (vR G 163), some (vT G 11), some (vI x2_172), none, some (vI x4_262), some (vI x5_296), some (vI x6_297)]) rfl ?_
                  refine kx_drop 6 (lo' := [some (vR G 163), some (vT G 11), some (vI x2_172), none, some (vI x4_262), some (vI x5_296), none]) rfl ?_
                  exact J_315 
                · refine kx_iload 77 F 5 dX12_inWords_75 rfl rfl ?_
                  refine kx_if_eq 80 F 115 dX12_inWords_77 (by decide) rfl (by omega) (fun h_319 => ?_) (fun h_319 => ?_)
                  · refine kx_drop 3 (lo' := [some (vR G 163), some (vT G 11), some (vI x2_172), none, some (vI x4_262), some (vI x5_296), some (vI x6_297)]) rfl ?_
                    refine kx_drop 6 (lo' := [some (vR G 163), some (vT G 11), some (vI x2_172), none, some (vI x4_262), some (vI x5_296), none]) rfl ?_
                    exact J_315 
                  · refine kx_aload_n 81 F 1 dX12_inWords_80 rfl rfl rfl ?_
                    refine kx_iload 83 F 6 dX12_inWords_81 rfl rfl ?_
                    refine kx_VSi 86 F (As := [vI x6_297]) (st := []) (by omega) vd_X12_189 (c_charAt_t G l M 11 x6_297 hI_M (by omega)) rfl ⟨by decide, by decide⟩ rfl rfl (Nat.le_of_ble_eq_true rfl) dX12_inWords_83 rfl ?_
                    intro r_320 N_321 q_322
                    obtain ⟨rfl, q_322c⟩ := q_322
                    refine kx_aload_n 87 F 0 dX12_inWords_86 rfl rfl rfl ?_
                    refine kx_aload_n 88 F 0 dX12_inWords_87 rfl rfl rfl ?_
                    refine kx_geti 91 F fl_X12_162 kd_163 rfl rfl (j := 13) rfl dX12_inWords_88 (v := (M 163 13)) rfl rfl ?_
                    refine kx_iload 93 F 6 dX12_inWords_91 rfl rfl ?_
                    refine kx_iadd 94 F (v := (M 163 13) + x6_297) dX12_inWords_93 rfl rfl ?_
                    refine kx_iload_n 95 F 3 dX12_inWords_94 rfl rfl rfl ?_
                    refine kx_isub 96 F (v := (M 163 13) + x6_297 - x3_173) dX12_inWords_95 rfl rfl ?_
                    refine kx_Vi 99 (ci := 0) F (As := [vI ((M 163 13) + x6_297 - x3_173)]) (st := [vI r_320]) vd_X12_159 (c_X12_byteAt G l M ((M 163 13) + x6_297 - x3_173) hI_M (by omega)) kd_163 rfl rfl rfl ⟨by decide, by decide⟩ rfl rfl (Nat.le_of_ble_eq_true rfl) dX12_inWords_96 rfl ?_
                    intro r_323 N_324 q_325
                    obtain ⟨rfl, q_325c⟩ := q_325
                    have h_326 := Inv.g hI_M kd_163 rfl 11 (a := 0) (b := 900) rfl rfl
                    have h_327 := Inv.g hI_M kd_163 rfl 11 (a := 0) (b := 900) rfl rfl
                    rcases q_325c with q_325c | q_325c
                    · have J_331 : ∀ (y0_330 : Int), 0 ≤ y0_330 ∧ y0_330 ≤ 0 → KJ true G X M 107 [some (vR G 163), some (vT G 11), some (vI x2_172), some (vI x3_173), some (vI x4_262), none, some (vI x6_297)] [vI y0_330] := by
                        intro y0_330 h_332
                        refine kx_istore 109 F 5 (lo' := [some (vR G 163), some (vT G 11), some (vI x2_172), some (vI x3_173), some (vI x4_262), some (vI y0_330), some (vI x6_297)]) dX12_inWords_107 (by decide) rfl rfl rfl ?_
                        refine kx_iinc 112 F 6 (v := x6_297 + 1) (lo' := [some (vR G 163), some (vT G 11), some (vI x2_172), some (vI x3_173), some (vI x4_262), some (vI y0_330), some (vI (x6_297 + 1))]) dX12_inWords_109 rfl (by omega) (by decide) rfl rfl rfl ?_
                        refine kx_goto 68 F dX12_inWords_112 (by decide) ?_
                        exact ih_300 _ (by omega) y0_330 (x6_297 + 1) (by omega) rfl
                      refine kx_icmp_ne 102 F 106 dX12_inWords_99 (by decide) rfl (by omega) (by omega) (fun h_333 => ?_) (fun h_333 => (by exfalso; omega))
                      refine kx_iconst 107 F dX12_inWords_106 rfl ?_
                      refine kx_drop 5 (lo' := [some (vR G 163), some (vT G 11), some (vI x2_172), some (vI x3_173), some (vI x4_262), none, some (vI x6_297)]) rfl ?_
                      exact J_331 0 (by omega)
                    · have J_337 : ∀ (y0_336 : Int), 0 ≤ y0_336 ∧ y0_336 ≤ 1 → KJ true G X M 107 [some (vR G 163), some (vT G 11), some (vI x2_172), some (vI x3_173), some (vI x4_262), none, some (vI x6_297)] [vI y0_336] := by
                        intro y0_336 h_338
                        refine kx_istore 109 F 5 (lo' := [some (vR G 163), some (vT G 11), some (vI x2_172), some (vI x3_173), some (vI x4_262), some (vI y0_336), some (vI x6_297)]) dX12_inWords_107 (by decide) rfl rfl rfl ?_
                        refine kx_iinc 112 F 6 (v := x6_297 + 1) (lo' := [some (vR G 163), some (vT G 11), some (vI x2_172), some (vI x3_173), some (vI x4_262), some (vI y0_336), some (vI (x6_297 + 1))]) dX12_inWords_109 rfl (by omega) (by decide) rfl rfl rfl ?_
                        refine kx_goto 68 F dX12_inWords_112 (by decide) ?_
                        exact ih_300 _ (by omega) y0_336 (x6_297 + 1) (by omega) rfl
                      refine kx_icmp_ne 102 F 106 dX12_inWords_99 (by decide) rfl (by omega) (by omega) (fun h_339 => ?_) (fun h_339 => ?_)
                      · refine kx_iconst 107 F dX12_inWords_106 rfl ?_
                        refine kx_drop 5 (lo' := [some (vR G 163), some (vT G 11), some (vI x2_172), some (vI x3_173), some (vI x4_262), none, some (vI x6_297)]) rfl ?_
                        exact J_337 0 (by omega)
                      · refine kx_iconst 103 F dX12_inWords_102 rfl ?_
                        refine kx_goto 107 F dX12_inWords_103 (by decide) ?_
                        refine kx_drop 5 (lo' := [some (vR G 163), some (vT G 11), some (vI x2_172), some (vI x3_173), some (vI x4_262), none, some (vI x6_297)]) rfl ?_
                        exact J_337 1 (by omega)
              exact L_298 _ y0_277 x3_173 (by omega) rfl
            refine kx_icmp_ne 58 F 62 dX12_inWords_55 (by decide) rfl (by omega) (by omega) (fun h_340 => ?_) (fun h_340 => ?_)
            · refine kx_iconst 63 F dX12_inWords_62 rfl ?_
              exact J_278 0 (by omega)
            · refine kx_iconst 59 F dX12_inWords_58 rfl ?_
              refine kx_goto 63 F dX12_inWords_59 (by decide) ?_
              exact J_278 1 (by omega)
          · refine kx_iinc 39 F 4 (v := x4_262 + 1) (lo' := [some (vR G 163), some (vT G 11), some (vI x2_172), some (vI x3_173), some (vI (x4_262 + 1)), none, none]) dX12_inWords_36 rfl (by omega) (by decide) rfl rfl rfl ?_
            refine kx_goto 25 F dX12_inWords_39 (by decide) ?_
            exact ih_265 _ (by omega) (x4_262 + 1) (by omega) rfl
        exact L_263 _ x3_173 (by omega) rfl
    exact L_174 _ 0 1 (by omega) rfl
  · refine kx_iconst 9 F dX12_inWords_8 rfl ?_
    exact kx_iret F hQ ⟨rfl, (by omega)⟩ dX12_inWords_9
theorem dX12_begins_0 : decode cX12_begins 0 = .ok (.iload_n 1, 1) := by decide +kernel
theorem dX12_begins_1 : decode cX12_begins 1 = .ok (.ifCond .lt 16, 3) := by decide +kernel
theorem dX12_begins_4 : decode cX12_begins 4 = .ok (.iload_n 1, 1) := by decide +kernel
theorem dX12_begins_5 : decode cX12_begins 5 = .ok (.aload_n 0, 1) := by decide +kernel
theorem dX12_begins_6 : decode cX12_begins 6 = .ok (.getfield 147, 3) := by decide +kernel
theorem dX12_begins_9 : decode cX12_begins 9 = .ok (.if_icmp .gt 8, 3) := by decide +kernel
theorem dX12_begins_12 : decode cX12_begins 12 = .ok (.iload_n 1, 1) := by decide +kernel
theorem dX12_begins_13 : decode cX12_begins 13 = .ok (.iload_n 2, 1) := by decide +kernel
theorem dX12_begins_14 : decode cX12_begins 14 = .ok (.if_icmp .le 5, 3) := by decide +kernel
theorem dX12_begins_17 : decode cX12_begins 17 = .ok (.iconst 0, 1) := by decide +kernel
theorem dX12_begins_18 : decode cX12_begins 18 = .ok (.ireturn, 1) := by decide +kernel
theorem dX12_begins_19 : decode cX12_begins 19 = .ok (.aload_n 0, 1) := by decide +kernel
theorem dX12_begins_20 : decode cX12_begins 20 = .ok (.iload_n 1, 1) := by decide +kernel
theorem dX12_begins_21 : decode cX12_begins 21 = .ok (.putfield 153, 3) := by decide +kernel
theorem dX12_begins_24 : decode cX12_begins 24 = .ok (.iconst 0, 1) := by decide +kernel
theorem dX12_begins_25 : decode cX12_begins 25 = .ok (.istore_n 3, 1) := by decide +kernel
theorem dX12_begins_26 : decode cX12_begins 26 = .ok (.iload_n 3, 1) := by decide +kernel
theorem dX12_begins_27 : decode cX12_begins 27 = .ok (.iload_n 1, 1) := by decide +kernel
theorem dX12_begins_28 : decode cX12_begins 28 = .ok (.if_icmp .ge 21, 3) := by decide +kernel
theorem dX12_begins_31 : decode cX12_begins 31 = .ok (.aload_n 0, 1) := by decide +kernel
theorem dX12_begins_32 : decode cX12_begins 32 = .ok (.getfield 34, 3) := by decide +kernel
theorem dX12_begins_35 : decode cX12_begins 35 = .ok (.iload_n 3, 1) := by decide +kernel
theorem dX12_begins_36 : decode cX12_begins 36 = .ok (.aload_n 0, 1) := by decide +kernel
theorem dX12_begins_37 : decode cX12_begins 37 = .ok (.getfield 30, 3) := by decide +kernel
theorem dX12_begins_40 : decode cX12_begins 40 = .ok (.iload_n 3, 1) := by decide +kernel
theorem dX12_begins_41 : decode cX12_begins 41 = .ok (.baload, 1) := by decide +kernel
theorem dX12_begins_42 : decode cX12_begins 42 = .ok (.bastore, 1) := by decide +kernel
theorem dX12_begins_43 : decode cX12_begins 43 = .ok (.iinc 3 1, 3) := by decide +kernel
theorem dX12_begins_46 : decode cX12_begins 46 = .ok (.goto (-20), 3) := by decide +kernel
theorem dX12_begins_49 : decode cX12_begins 49 = .ok (.aload_n 0, 1) := by decide +kernel
theorem dX12_begins_50 : decode cX12_begins 50 = .ok (.iconst 0, 1) := by decide +kernel
theorem dX12_begins_51 : decode cX12_begins 51 = .ok (.putfield 147, 3) := by decide +kernel
theorem dX12_begins_54 : decode cX12_begins 54 = .ok (.aload_n 0, 1) := by decide +kernel
theorem dX12_begins_55 : decode cX12_begins 55 = .ok (.iconst 0, 1) := by decide +kernel
theorem dX12_begins_56 : decode cX12_begins 56 = .ok (.putfield 193, 3) := by decide +kernel
theorem dX12_begins_59 : decode cX12_begins 59 = .ok (.aload_n 0, 1) := by decide +kernel
theorem dX12_begins_60 : decode cX12_begins 60 = .ok (.iconst (-1), 1) := by decide +kernel
theorem dX12_begins_61 : decode cX12_begins 61 = .ok (.putfield 41, 3) := by decide +kernel
theorem dX12_begins_64 : decode cX12_begins 64 = .ok (.aload_n 0, 1) := by decide +kernel
theorem dX12_begins_65 : decode cX12_begins 65 = .ok (.iconst 0, 1) := by decide +kernel
theorem dX12_begins_66 : decode cX12_begins 66 = .ok (.putfield 156, 3) := by decide +kernel
theorem dX12_begins_69 : decode cX12_begins 69 = .ok (.aload_n 0, 1) := by decide +kernel
theorem dX12_begins_70 : decode cX12_begins 70 = .ok (.iconst 0, 1) := by decide +kernel
theorem dX12_begins_71 : decode cX12_begins 71 = .ok (.putfield 196, 3) := by decide +kernel
theorem dX12_begins_74 : decode cX12_begins 74 = .ok (.aload_n 0, 1) := by decide +kernel
theorem dX12_begins_75 : decode cX12_begins 75 = .ok (.invokevirtual 199, 3) := by decide +kernel
theorem dX12_begins_78 : decode cX12_begins 78 = .ok (.iconst 1, 1) := by decide +kernel
theorem dX12_begins_79 : decode cX12_begins 79 = .ok (.ireturn, 1) := by decide +kernel
abbrev f_c_X12_begins : List (Nat × Int) := [(64, 10), (64, 11), (64, 12), (64, 13), (64, 14), (64, 15), (64, 17), (64, 18), (64, 19), (71, -1)]
set_option maxHeartbeats 4000000 in
set_option maxRecDepth 100000 in
theorem c_X12_begins (G : KG) (l : Launch) (M : Mem) (a1 : Int) (a2 : Int) (hI_M : Inv true M) (hpre : -2147483648 ≤ a1 ∧ a1 ≤ 2147483647 ∧ -2147483648 ≤ a2 ∧ a2 ≤ 2147483647 ∧ 0 ≤ a2) : KC true G l yX12_begins cX12_begins 4 (some .boolean) (2, 42) [vR G 163, vI a1, vI a2] M (fun A => kQi true G A (fun (r : Int) (N : Mem) => Inv true N ∧ Fr f_c_X12_begins M N ∧ (0 ≤ r ∧ r ≤ 1))) := by
  refine kx_met (lo := [some (vR G 163), some (vI a1), some (vI a2), none]) (by decide) (Nat.le_of_ble_eq_true rfl) rfl ?_
  intro X F hQ
  have hF_M : Fr f_c_X12_begins M M := Fr.rf _ _
  refine kx_iload_n 1 F 1 dX12_begins_0 rfl rfl rfl ?_
  refine kx_if_lt 4 F 17 dX12_begins_1 (by decide) rfl (by omega) (fun h_1 => ?_) (fun h_1 => ?_)
  · refine kx_iconst 18 F dX12_begins_17 rfl ?_
    exact kx_zret F hQ (by omega) ⟨hI_M, hF_M, (by omega)⟩ dX12_begins_18
  · refine kx_iload_n 5 F 1 dX12_begins_4 rfl rfl rfl ?_
    refine kx_aload_n 6 F 0 dX12_begins_5 rfl rfl rfl ?_
    refine kx_geti 9 F fl_X12_147 kd_163 rfl rfl (j := 10) rfl dX12_begins_6 (v := (M 163 10)) rfl rfl ?_
    have h_2 := Inv.g hI_M kd_163 rfl 10 (a := 0) (b := 900) rfl rfl
    refine kx_icmp_gt 12 F 17 dX12_begins_9 (by decide) rfl (by omega) (by omega) (fun h_3 => ?_) (fun h_3 => ?_)
    · refine kx_iconst 18 F dX12_begins_17 rfl ?_
      exact kx_zret F hQ (by omega) ⟨hI_M, hF_M, (by omega)⟩ dX12_begins_18
    · refine kx_iload_n 13 F 1 dX12_begins_12 rfl rfl rfl ?_
      refine kx_iload_n 14 F 2 dX12_begins_13 rfl rfl rfl ?_
      refine kx_icmp_le 17 F 19 dX12_begins_14 (by decide) rfl (by omega) (by omega) (fun h_4 => ?_) (fun h_4 => ?_)
      · refine kx_aload_n 20 F 0 dX12_begins_19 rfl rfl rfl ?_
        refine kx_iload_n 21 F 1 dX12_begins_20 rfl rfl rfl ?_
        refine kx_puti 24 F fw_X12_153 rfl kd_163 rfl rfl (j := 11) rfl dX12_begins_21 rfl ?_
        intro N_5 hM_N_5
        have hI_N_5 : Inv true N_5 := Inv.u hI_M hM_N_5 kd_163 (a := 0) (b := 900) rfl rfl rfl (by omega)
        have hF_N_5 : Fr f_c_X12_begins M N_5 := Fr.u hF_M hM_N_5 kd_163 rfl
        refine kx_iconst 25 F dX12_begins_24 rfl ?_
        refine kx_istore_n 26 F 3 (lo' := [some (vR G 163), some (vI a1), some (vI a2), some (vI 0)]) dX12_begins_25 rfl (by decide) rfl rfl rfl ?_
        have L_134 : ∀ (n_135 : Nat) (x3_132 : Int) (N_133 : Mem), Inv true N_133 → Fr f_c_X12_begins M N_133 → 0 ≤ x3_132 ∧ x3_132 ≤ 900 → (900 - (x3_132)).toNat = n_135 → KJ true G X N_133 26 [some (vR G 163), some (vI a1), none, some (vI x3_132)] [] := by
          intro n_135
          refine Nat.strongRecOn n_135 ?_
          intro n_135 ih_136 x3_132 N_133 hI_N_133 hF_N_133 h_137 hm_138
          refine kx_iload_n 27 F 3 dX12_begins_26 rfl rfl rfl ?_
          refine kx_iload_n 28 F 1 dX12_begins_27 rfl rfl rfl ?_
          refine kx_icmp_ge 31 F 49 dX12_begins_28 (by decide) rfl (by omega) (by omega) (fun h_139 => ?_) (fun h_139 => ?_)
          · refine kx_aload_n 50 F 0 dX12_begins_49 rfl rfl rfl ?_
            refine kx_iconst 51 F dX12_begins_50 rfl ?_
            refine kx_puti 54 F fw_X12_147 rfl kd_163 rfl rfl (j := 10) rfl dX12_begins_51 rfl ?_
            intro N_140 hM_N_140
            have hI_N_140 : Inv true N_140 := Inv.u hI_N_133 hM_N_140 kd_163 (a := 0) (b := 900) rfl rfl rfl (by omega)
            have hF_N_140 : Fr f_c_X12_begins M N_140 := Fr.u hF_N_133 hM_N_140 kd_163 rfl
            refine kx_aload_n 55 F 0 dX12_begins_54 rfl rfl rfl ?_
            refine kx_iconst 56 F dX12_begins_55 rfl ?_
            refine kx_puti 59 F fw_X12_193 rfl kd_163 rfl rfl (j := 18) rfl dX12_begins_56 rfl ?_
            intro N_141 hM_N_141
            have hI_N_141 : Inv true N_141 := Inv.u hI_N_140 hM_N_141 kd_163 (a := (-2147483648)) (b := 2147483647) rfl rfl rfl (by omega)
            have hF_N_141 : Fr f_c_X12_begins M N_141 := Fr.u hF_N_140 hM_N_141 kd_163 rfl
            refine kx_aload_n 60 F 0 dX12_begins_59 rfl rfl rfl ?_
            refine kx_iconst 61 F dX12_begins_60 rfl ?_
            refine kx_puti 64 F fw_X12_41 rfl kd_163 rfl rfl (j := 17) rfl dX12_begins_61 rfl ?_
            intro N_142 hM_N_142
            have hI_N_142 : Inv true N_142 := Inv.u hI_N_141 hM_N_142 kd_163 (a := (-2147483648)) (b := 2147483647) rfl rfl rfl (by omega)
            have hF_N_142 : Fr f_c_X12_begins M N_142 := Fr.u hF_N_141 hM_N_142 kd_163 rfl
            refine kx_aload_n 65 F 0 dX12_begins_64 rfl rfl rfl ?_
            refine kx_iconst 66 F dX12_begins_65 rfl ?_
            refine kx_puti 69 F fw_X12_156 rfl kd_163 rfl rfl (j := 14) rfl dX12_begins_66 rfl ?_
            intro N_143 hM_N_143
            have hI_N_143 : Inv true N_143 := Inv.u hI_N_142 hM_N_143 kd_163 (a := 0) (b := 900) rfl rfl rfl (by omega)
            have hF_N_143 : Fr f_c_X12_begins M N_143 := Fr.u hF_N_142 hM_N_143 kd_163 rfl
            refine kx_aload_n 70 F 0 dX12_begins_69 rfl rfl rfl ?_
            refine kx_iconst 71 F dX12_begins_70 rfl ?_
            refine kx_puti 74 F fw_X12_196 rfl kd_163 rfl rfl (j := 19) rfl dX12_begins_71 rfl ?_
            intro N_144 hM_N_144
            have hI_N_144 : Inv true N_144 := Inv.u hI_N_143 hM_N_144 kd_163 (a := (-2147483648)) (b := 2147483647) rfl rfl rfl (by omega)
            have hF_N_144 : Fr f_c_X12_begins M N_144 := Fr.u hF_N_143 hM_N_144 kd_163 rfl
            refine kx_aload_n 75 F 0 dX12_begins_74 rfl rfl rfl ?_
            refine kx_Vv 78 (ci := 0) F (As := []) (st := []) vd_X12_199 (c_X12_ahead G l N_144  hI_N_144) kd_163 rfl rfl rfl ⟨by decide, by decide⟩ rfl rfl (Nat.le_of_ble_eq_true rfl) dX12_begins_75 rfl ?_
            intro N_145 q_146
            obtain ⟨hI_N_145, hG_N_145, q_146c⟩ := q_146
            have hF_N_145 : Fr f_c_X12_begins M N_145 := Fr.c hF_N_144 hG_N_145 rfl
            have h_147 := Inv.g hI_N_145 kd_163 rfl 12 (a := 0) (b := 4) rfl rfl
            have e_148 : (N_144 163 14) = 0 := by rw [hM_N_144, mu_i (by omega), hM_N_143, mu_s]
            have h_149 := Inv.g hI_N_145 kd_163 rfl 14 (a := 0) (b := 900) rfl rfl
            have h_150 := Inv.g hI_N_145 kd_163 rfl 12 (a := 0) (b := 4) rfl rfl
            have e_151 : (N_144 163 14) = 0 := by rw [hM_N_144, mu_i (by omega), hM_N_143, mu_s]
            have h_152 := Inv.g hI_N_145 kd_163 rfl 14 (a := 0) (b := 900) rfl rfl
            rcases q_146c with q_146c | q_146c
            · refine kx_iconst 79 F dX12_begins_78 rfl ?_
              exact kx_zret F hQ (by omega) ⟨hI_N_145, hF_N_145, (by omega)⟩ dX12_begins_79
            · refine kx_iconst 79 F dX12_begins_78 rfl ?_
              exact kx_zret F hQ (by omega) ⟨hI_N_145, hF_N_145, (by omega)⟩ dX12_begins_79
          · refine kx_aload_n 32 F 0 dX12_begins_31 rfl rfl rfl ?_
            refine kx_getr 35 F fl_X12_34 kd_163 rfl rfl (j := 9) rfl dX12_begins_32 (v := 170) (uq_170 (Inv.r hI_N_133 kd_163 rfl 9 rfl rfl)) rfl ?_
            refine kx_iload_n 36 F 3 dX12_begins_35 rfl rfl rfl ?_
            refine kx_aload_n 37 F 0 dX12_begins_36 rfl rfl rfl ?_
            refine kx_getr 40 F fl_X12_30 kd_163 rfl rfl (j := 8) rfl dX12_begins_37 (v := 169) (uq_169 (Inv.r hI_N_133 kd_163 rfl 8 rfl rfl)) rfl ?_
            refine kx_iload_n 41 F 3 dX12_begins_40 rfl rfl rfl ?_
            refine kx_bald 42 F kd_169 rfl rfl (by omega) (by decide) dX12_begins_41 (v := (M 169 x3_132)) (by rw [Fr.e hF_N_133 kd_169 _ rfl]) rfl ?_
            have h_153 := Inv.g hI_M kd_169 rfl x3_132 (a := (-128)) (b := 127) rfl rfl
            refine kx_bast 43 F (by omega) kd_170 rfl rfl (by omega) (by decide) dX12_begins_42 rfl ?_
            intro N_154 hM_N_154
            have hI_N_154 : Inv true N_154 := Inv.u hI_N_133 hM_N_154 kd_170 (a := (-128)) (b := 127) rfl rfl rfl (by omega)
            have hF_N_154 : Fr f_c_X12_begins M N_154 := Fr.u hF_N_133 hM_N_154 kd_170 rfl
            refine kx_iinc 46 F 3 (v := x3_132 + 1) (lo' := [some (vR G 163), some (vI a1), none, some (vI (x3_132 + 1))]) dX12_begins_43 rfl (by omega) (by decide) rfl rfl rfl ?_
            refine kx_goto 26 F dX12_begins_46 (by decide) ?_
            exact ih_136 _ (by omega) (x3_132 + 1) N_154 hI_N_154 hF_N_154 (by omega) rfl
        refine kx_drop 2 (lo' := [some (vR G 163), some (vI a1), none, some (vI 0)]) rfl ?_
        exact L_134 _ 0 N_5 hI_N_5 hF_N_5 (by omega) rfl
      · refine kx_iconst 18 F dX12_begins_17 rfl ?_
        exact kx_zret F hQ (by omega) ⟨hI_M, hF_M, (by omega)⟩ dX12_begins_18
theorem dX12_nameHere_0 : decode cX12_nameHere 0 = .ok (.lconst 0, 1) := by decide +kernel
theorem dX12_nameHere_1 : decode cX12_nameHere 1 = .ok (.lstore_n 1, 1) := by decide +kernel
theorem dX12_nameHere_2 : decode cX12_nameHere 2 = .ok (.aload_n 0, 1) := by decide +kernel
theorem dX12_nameHere_3 : decode cX12_nameHere 3 = .ok (.getfield 162, 3) := by decide +kernel
theorem dX12_nameHere_6 : decode cX12_nameHere 6 = .ok (.istore_n 3, 1) := by decide +kernel
theorem dX12_nameHere_7 : decode cX12_nameHere 7 = .ok (.iload_n 3, 1) := by decide +kernel
theorem dX12_nameHere_8 : decode cX12_nameHere 8 = .ok (.aload_n 0, 1) := by decide +kernel
theorem dX12_nameHere_9 : decode cX12_nameHere 9 = .ok (.getfield 156, 3) := by decide +kernel
theorem dX12_nameHere_12 : decode cX12_nameHere 12 = .ok (.if_icmp .ge 21, 3) := by decide +kernel
theorem dX12_nameHere_15 : decode cX12_nameHere 15 = .ok (.lload_n 1, 1) := by decide +kernel
theorem dX12_nameHere_16 : decode cX12_nameHere 16 = .ok (.bipush 8, 2) := by decide +kernel
theorem dX12_nameHere_18 : decode cX12_nameHere 18 = .ok (.lshl, 1) := by decide +kernel
theorem dX12_nameHere_19 : decode cX12_nameHere 19 = .ok (.aload_n 0, 1) := by decide +kernel
theorem dX12_nameHere_20 : decode cX12_nameHere 20 = .ok (.iload_n 3, 1) := by decide +kernel
theorem dX12_nameHere_21 : decode cX12_nameHere 21 = .ok (.invokevirtual 159, 3) := by decide +kernel
theorem dX12_nameHere_24 : decode cX12_nameHere 24 = .ok (.i2l, 1) := by decide +kernel
theorem dX12_nameHere_25 : decode cX12_nameHere 25 = .ok (.lor, 1) := by decide +kernel
theorem dX12_nameHere_26 : decode cX12_nameHere 26 = .ok (.lstore_n 1, 1) := by decide +kernel
theorem dX12_nameHere_27 : decode cX12_nameHere 27 = .ok (.iinc 3 1, 3) := by decide +kernel
theorem dX12_nameHere_30 : decode cX12_nameHere 30 = .ok (.goto (-23), 3) := by decide +kernel
theorem dX12_nameHere_33 : decode cX12_nameHere 33 = .ok (.lload_n 1, 1) := by decide +kernel
theorem dX12_nameHere_34 : decode cX12_nameHere 34 = .ok (.lreturn, 1) := by decide +kernel
set_option maxHeartbeats 4000000 in
set_option maxRecDepth 100000 in
theorem c_X12_nameHere (G : KG) (l : Launch) (M : Mem) (hI_M : Inv true M) : KC true G l yX12_nameHere cX12_nameHere 4 (some .long) (1, 21) [vR G 163] M (fun A => kQl true G A (fun (r : Int) (N : Mem) => M = N ∧ (r ≥ -9223372036854775808 ∧ r ≤ 9223372036854775807))) := by
  refine kx_met (lo := [some (vR G 163), none, none, none]) (by decide) (Nat.le_of_ble_eq_true rfl) rfl ?_
  intro X F hQ
  refine kx_lconst 1 (z := 0) F dX12_nameHere_0 (by decide) rfl ?_
  refine kx_lstore_n 2 F 1 (lo' := [some (vR G 163), some (vL 0), none, none]) dX12_nameHere_1 rfl (by decide) rfl rfl rfl ?_
  refine kx_aload_n 3 F 0 dX12_nameHere_2 rfl rfl rfl ?_
  refine kx_geti 6 F fl_X12_162 kd_163 rfl rfl (j := 13) rfl dX12_nameHere_3 (v := (M 163 13)) rfl rfl ?_
  have h_1 := Inv.g hI_M kd_163 rfl 13 (a := 0) (b := 900) rfl rfl
  refine kx_istore_n 7 F 3 (lo' := [some (vR G 163), some (vL 0), none, some (vI (M 163 13))]) dX12_nameHere_6 rfl (by decide) rfl rfl rfl ?_
  have L_34 : ∀ (n_35 : Nat) (x1_32 : Int) (x3_33 : Int), (-9223372036854775808) ≤ x1_32 ∧ x1_32 ≤ 9223372036854775807 ∧ 0 ≤ x3_33 ∧ x3_33 ≤ 900 ∧ (M 163 13) ≤ x3_33 → (900 - (x3_33)).toNat = n_35 → KJ true G X M 7 [some (vR G 163), some (vL x1_32), none, some (vI x3_33)] [] := by
    intro n_35
    refine Nat.strongRecOn n_35 ?_
    intro n_35 ih_36 x1_32 x3_33 h_37 hm_38
    refine kx_iload_n 8 F 3 dX12_nameHere_7 rfl rfl rfl ?_
    refine kx_aload_n 9 F 0 dX12_nameHere_8 rfl rfl rfl ?_
    refine kx_geti 12 F fl_X12_156 kd_163 rfl rfl (j := 14) rfl dX12_nameHere_9 (v := (M 163 14)) rfl rfl ?_
    have h_39 := Inv.g hI_M kd_163 rfl 14 (a := 0) (b := 900) rfl rfl
    refine kx_icmp_ge 15 F 33 dX12_nameHere_12 (by decide) rfl (by omega) (by omega) (fun h_40 => ?_) (fun h_40 => ?_)
    · refine kx_lload_n 34 F 1 dX12_nameHere_33 rfl rfl rfl ?_
      exact kx_lret F hQ ⟨rfl, (by omega)⟩ dX12_nameHere_34
    · refine kx_lload_n 16 F 1 dX12_nameHere_15 rfl rfl rfl ?_
      refine kx_bipush 18 F dX12_nameHere_16 (by decide) rfl ?_
      refine kx_lshl 19 F dX12_nameHere_18 rfl (fun w_41 h_42 => ?_)
      refine kx_aload_n 20 F 0 dX12_nameHere_19 rfl rfl rfl ?_
      refine kx_iload_n 21 F 3 dX12_nameHere_20 rfl rfl rfl ?_
      refine kx_Vi 24 (ci := 0) F (As := [vI x3_33]) (st := [vL w_41]) vd_X12_159 (c_X12_byteAt G l M x3_33 hI_M (by omega)) kd_163 rfl rfl rfl ⟨by decide, by decide⟩ rfl rfl (Nat.le_of_ble_eq_true rfl) dX12_nameHere_21 rfl ?_
      intro r_43 N_44 q_45
      obtain ⟨rfl, q_45c⟩ := q_45
      have h_46 := Inv.g hI_M kd_163 rfl 11 (a := 0) (b := 900) rfl rfl
      have h_47 := Inv.g hI_M kd_163 rfl 11 (a := 0) (b := 900) rfl rfl
      rcases q_45c with q_45c | q_45c
      · refine kx_i2l 25 F dX12_nameHere_24 (by omega) rfl ?_
        refine kx_lor 26 F dX12_nameHere_25 rfl (fun w_48 h_49 => ?_)
        refine kx_lstore_n 27 F 1 (lo' := [some (vR G 163), some (vL w_48), none, some (vI x3_33)]) dX12_nameHere_26 rfl (by decide) rfl rfl rfl ?_
        refine kx_iinc 30 F 3 (v := x3_33 + 1) (lo' := [some (vR G 163), some (vL w_48), none, some (vI (x3_33 + 1))]) dX12_nameHere_27 rfl (by omega) (by decide) rfl rfl rfl ?_
        refine kx_goto 7 F dX12_nameHere_30 (by decide) ?_
        exact ih_36 _ (by omega) w_48 (x3_33 + 1) (by omega) rfl
      · refine kx_i2l 25 F dX12_nameHere_24 (by omega) rfl ?_
        refine kx_lor 26 F dX12_nameHere_25 rfl (fun w_50 h_51 => ?_)
        refine kx_lstore_n 27 F 1 (lo' := [some (vR G 163), some (vL w_50), none, some (vI x3_33)]) dX12_nameHere_26 rfl (by decide) rfl rfl rfl ?_
        refine kx_iinc 30 F 3 (v := x3_33 + 1) (lo' := [some (vR G 163), some (vL w_50), none, some (vI (x3_33 + 1))]) dX12_nameHere_27 rfl (by omega) (by decide) rfl rfl rfl ?_
        refine kx_goto 7 F dX12_nameHere_30 (by decide) ?_
        exact ih_36 _ (by omega) w_50 (x3_33 + 1) (by omega) rfl
  exact L_34 _ 0 (M 163 13) (by omega) rfl
theorem dX12_findHere_0 : decode cX12_findHere 0 = .ok (.iconst 0, 1) := by decide +kernel
theorem dX12_findHere_1 : decode cX12_findHere 1 = .ok (.istore_n 3, 1) := by decide +kernel
theorem dX12_findHere_2 : decode cX12_findHere 2 = .ok (.iload_n 3, 1) := by decide +kernel
theorem dX12_findHere_3 : decode cX12_findHere 3 = .ok (.iload_n 2, 1) := by decide +kernel
theorem dX12_findHere_4 : decode cX12_findHere 4 = .ok (.if_icmp .ge 27, 3) := by decide +kernel
theorem dX12_findHere_7 : decode cX12_findHere 7 = .ok (.aload_n 0, 1) := by decide +kernel
theorem dX12_findHere_8 : decode cX12_findHere 8 = .ok (.getfield 13, 3) := by decide +kernel
theorem dX12_findHere_11 : decode cX12_findHere 11 = .ok (.iload_n 1, 1) := by decide +kernel
theorem dX12_findHere_12 : decode cX12_findHere 12 = .ok (.iload_n 3, 1) := by decide +kernel
theorem dX12_findHere_13 : decode cX12_findHere 13 = .ok (.iadd, 1) := by decide +kernel
theorem dX12_findHere_14 : decode cX12_findHere 14 = .ok (.laload, 1) := by decide +kernel
theorem dX12_findHere_15 : decode cX12_findHere 15 = .ok (.aload_n 0, 1) := by decide +kernel
theorem dX12_findHere_16 : decode cX12_findHere 16 = .ok (.invokevirtual 212, 3) := by decide +kernel
theorem dX12_findHere_19 : decode cX12_findHere 19 = .ok (.lcmp, 1) := by decide +kernel
theorem dX12_findHere_20 : decode cX12_findHere 20 = .ok (.ifCond .ne 5, 3) := by decide +kernel
theorem dX12_findHere_23 : decode cX12_findHere 23 = .ok (.iload_n 3, 1) := by decide +kernel
theorem dX12_findHere_24 : decode cX12_findHere 24 = .ok (.ireturn, 1) := by decide +kernel
theorem dX12_findHere_25 : decode cX12_findHere 25 = .ok (.iinc 3 1, 3) := by decide +kernel
theorem dX12_findHere_28 : decode cX12_findHere 28 = .ok (.goto (-26), 3) := by decide +kernel
theorem dX12_findHere_31 : decode cX12_findHere 31 = .ok (.iconst (-1), 1) := by decide +kernel
theorem dX12_findHere_32 : decode cX12_findHere 32 = .ok (.ireturn, 1) := by decide +kernel
set_option maxHeartbeats 4000000 in
set_option maxRecDepth 100000 in
theorem c_X12_findHere (G : KG) (l : Launch) (M : Mem) (a1 : Int) (a2 : Int) (hI_M : Inv true M) (hpre : -2147483648 ≤ a1 ∧ a1 ≤ 2147483647 ∧ -2147483648 ≤ a2 ∧ a2 ≤ 2147483647 ∧ 0 ≤ a1 ∧ 0 ≤ a2 ∧ a1 + a2 ≤ 36) : KC true G l yX12_findHere cX12_findHere 4 (some .int) (2, 44) [vR G 163, vI a1, vI a2] M (fun A => kQi true G A (fun (r : Int) (N : Mem) => M = N ∧ ((r = -1) ∨ (r ≥ 0 ∧ r < a2)))) := by
  refine kx_met (lo := [some (vR G 163), some (vI a1), some (vI a2), none]) (by decide) (Nat.le_of_ble_eq_true rfl) rfl ?_
  intro X F hQ
  refine kx_iconst 1 F dX12_findHere_0 rfl ?_
  refine kx_istore_n 2 F 3 (lo' := [some (vR G 163), some (vI a1), some (vI a2), some (vI 0)]) dX12_findHere_1 rfl (by decide) rfl rfl rfl ?_
  have L_65 : ∀ (n_66 : Nat) (x3_64 : Int), 0 ≤ x3_64 ∧ x3_64 ≤ 36 → (36 - (x3_64)).toNat = n_66 → KJ true G X M 2 [some (vR G 163), some (vI a1), some (vI a2), some (vI x3_64)] [] := by
    intro n_66
    refine Nat.strongRecOn n_66 ?_
    intro n_66 ih_67 x3_64 h_68 hm_69
    refine kx_iload_n 3 F 3 dX12_findHere_2 rfl rfl rfl ?_
    refine kx_iload_n 4 F 2 dX12_findHere_3 rfl rfl rfl ?_
    refine kx_icmp_ge 7 F 31 dX12_findHere_4 (by decide) rfl (by omega) (by omega) (fun h_70 => ?_) (fun h_70 => ?_)
    · refine kx_iconst 32 F dX12_findHere_31 rfl ?_
      exact kx_iret F hQ ⟨rfl, (by omega)⟩ dX12_findHere_32
    · refine kx_aload_n 8 F 0 dX12_findHere_7 rfl rfl rfl ?_
      refine kx_getr 11 F fl_X12_13 kd_163 rfl rfl (j := 1) rfl dX12_findHere_8 (v := 165) (uq_165 (Inv.r hI_M kd_163 rfl 1 rfl rfl)) rfl ?_
      refine kx_iload_n 12 F 1 dX12_findHere_11 rfl rfl rfl ?_
      refine kx_iload_n 13 F 3 dX12_findHere_12 rfl rfl rfl ?_
      refine kx_iadd 14 F (v := a1 + x3_64) dX12_findHere_13 rfl rfl ?_
      refine kx_lald 15 F kd_165 rfl rfl (by omega) (by decide) dX12_findHere_14 (v := (M 165 (a1 + x3_64))) rfl rfl ?_
      have h_71 := Inv.g hI_M kd_165 rfl (a1 + x3_64) (a := (-9223372036854775808)) (b := 9223372036854775807) rfl rfl
      refine kx_aload_n 16 F 0 dX12_findHere_15 rfl rfl rfl ?_
      refine kx_Vl 19 (ci := 0) F (As := []) (st := [vL (M 165 (a1 + x3_64))]) vd_X12_212 (c_X12_nameHere G l M  hI_M) kd_163 rfl rfl rfl ⟨by decide, by decide⟩ rfl rfl (Nat.le_of_ble_eq_true rfl) dX12_findHere_16 rfl ?_
      intro r_72 N_73 q_74
      obtain ⟨rfl, q_74c⟩ := q_74
      refine kx_lcmp 20 F dX12_findHere_19 (by omega) (by omega) rfl (fun w_75 h_76 => ?_)
      refine kx_if_ne 23 F 25 dX12_findHere_20 (by decide) rfl (by omega) (fun h_77 => ?_) (fun h_77 => ?_)
      · refine kx_iinc 28 F 3 (v := x3_64 + 1) (lo' := [some (vR G 163), some (vI a1), some (vI a2), some (vI (x3_64 + 1))]) dX12_findHere_25 rfl (by omega) (by decide) rfl rfl rfl ?_
        refine kx_goto 2 F dX12_findHere_28 (by decide) ?_
        exact ih_67 _ (by omega) (x3_64 + 1) (by omega) rfl
      · refine kx_iload_n 24 F 3 dX12_findHere_23 rfl rfl rfl ?_
        exact kx_iret F hQ ⟨rfl, (by omega)⟩ dX12_findHere_24
  exact L_65 _ 0 (by omega) rfl
theorem dX12_taken_0 : decode cX12_taken 0 = .ok (.aload_n 0, 1) := by decide +kernel
theorem dX12_taken_1 : decode cX12_taken 1 = .ok (.aload_n 0, 1) := by decide +kernel
theorem dX12_taken_2 : decode cX12_taken 2 = .ok (.getfield 193, 3) := by decide +kernel
theorem dX12_taken_5 : decode cX12_taken 5 = .ok (.putfield 37, 3) := by decide +kernel
theorem dX12_taken_8 : decode cX12_taken 8 = .ok (.aload_n 0, 1) := by decide +kernel
theorem dX12_taken_9 : decode cX12_taken 9 = .ok (.getfield 193, 3) := by decide +kernel
theorem dX12_taken_12 : decode cX12_taken 12 = .ok (.ifCond .le 12, 3) := by decide +kernel
theorem dX12_taken_15 : decode cX12_taken 15 = .ok (.aload_n 0, 1) := by decide +kernel
theorem dX12_taken_16 : decode cX12_taken 16 = .ok (.bipush 9, 2) := by decide +kernel
theorem dX12_taken_18 : decode cX12_taken 18 = .ok (.invokevirtual 123, 3) := by decide +kernel
theorem dX12_taken_21 : decode cX12_taken 21 = .ok (.goto 8, 3) := by decide +kernel
theorem dX12_taken_24 : decode cX12_taken 24 = .ok (.aload_n 0, 1) := by decide +kernel
theorem dX12_taken_25 : decode cX12_taken 25 = .ok (.iload_n 1, 1) := by decide +kernel
theorem dX12_taken_26 : decode cX12_taken 26 = .ok (.invokevirtual 127, 3) := by decide +kernel
theorem dX12_taken_29 : decode cX12_taken 29 = .ok (.ireturn, 1) := by decide +kernel
abbrev f_c_X12_taken : List (Nat × Int) := [(64, 2), (64, 16)]
set_option maxHeartbeats 4000000 in
set_option maxRecDepth 100000 in
theorem c_X12_taken (G : KG) (l : Launch) (M : Mem) (a1 : Int) (hI_M : Inv true M) (hpre : -2147483648 ≤ a1 ∧ a1 ≤ 2147483647) : KC true G l yX12_taken cX12_taken 2 (some .int) (1, 21) [vR G 163, vI a1] M (fun A => kQi true G A (fun (r : Int) (N : Mem) => Inv true N ∧ Fr f_c_X12_taken M N ∧ (r ≥ -2147483648 ∧ r ≤ 2147483647))) := by
  refine kx_met (lo := [some (vR G 163), some (vI a1)]) (by decide) (Nat.le_of_ble_eq_true rfl) rfl ?_
  intro X F hQ
  have hF_M : Fr f_c_X12_taken M M := Fr.rf _ _
  refine kx_aload_n 1 F 0 dX12_taken_0 rfl rfl rfl ?_
  refine kx_aload_n 2 F 0 dX12_taken_1 rfl rfl rfl ?_
  refine kx_geti 5 F fl_X12_193 kd_163 rfl rfl (j := 18) rfl dX12_taken_2 (v := (M 163 18)) rfl rfl ?_
  have h_1 := Inv.g hI_M kd_163 rfl 18 (a := (-2147483648)) (b := 2147483647) rfl rfl
  refine kx_puti 8 F fw_X12_37 rfl kd_163 rfl rfl (j := 16) rfl dX12_taken_5 rfl ?_
  intro N_2 hM_N_2
  have hI_N_2 : Inv true N_2 := Inv.u hI_M hM_N_2 kd_163 (a := (-2147483648)) (b := 2147483647) rfl rfl rfl (by omega)
  have hF_N_2 : Fr f_c_X12_taken M N_2 := Fr.u hF_M hM_N_2 kd_163 rfl
  refine kx_aload_n 9 F 0 dX12_taken_8 rfl rfl rfl ?_
  refine kx_geti 12 F fl_X12_193 kd_163 rfl rfl (j := 18) rfl dX12_taken_9 (v := (M 163 18)) (by rw [hM_N_2, mu_i (by omega)]) rfl ?_
  refine kx_if_le 15 F 24 dX12_taken_12 (by decide) rfl (by omega) (fun h_3 => ?_) (fun h_3 => ?_)
  · refine kx_aload_n 25 F 0 dX12_taken_24 rfl rfl rfl ?_
    refine kx_iload_n 26 F 1 dX12_taken_25 rfl rfl rfl ?_
    refine kx_Vi 29 (ci := 0) F (As := [vI a1]) (st := []) vd_X12_127 (c_X12_gives G l N_2 a1 hI_N_2 (by omega)) kd_163 rfl rfl rfl ⟨by decide, by decide⟩ rfl rfl (Nat.le_of_ble_eq_true rfl) dX12_taken_26 rfl ?_
    intro r_4 N_5 q_6
    obtain ⟨hI_N_5, hG_N_5, q_6c⟩ := q_6
    have hF_N_5 : Fr f_c_X12_taken M N_5 := Fr.c hF_N_2 hG_N_5 rfl
    refine kx_topi (e' := a1) (by omega) ?_
    exact kx_iret F hQ ⟨hI_N_5, hF_N_5, (by omega)⟩ dX12_taken_29
  · refine kx_aload_n 16 F 0 dX12_taken_15 rfl rfl rfl ?_
    refine kx_bipush 18 F dX12_taken_16 (by decide) rfl ?_
    refine kx_Vi 21 (ci := 0) F (As := [vI 9]) (st := []) vd_X12_123 (c_X12_refuse G l N_2 9 hI_N_2 (by omega)) kd_163 rfl rfl rfl ⟨by decide, by decide⟩ rfl rfl (Nat.le_of_ble_eq_true rfl) dX12_taken_18 rfl ?_
    intro r_7 N_8 q_9
    obtain ⟨hI_N_8, hG_N_8, q_9c⟩ := q_9
    have hF_N_8 : Fr f_c_X12_taken M N_8 := Fr.c hF_N_2 hG_N_8 rfl
    subst q_9c
    refine kx_goto 29 F dX12_taken_21 (by decide) ?_
    exact kx_iret F hQ ⟨hI_N_8, hF_N_8, (by omega)⟩ dX12_taken_29
theorem dX12_wantSign_0 : decode cX12_wantSign 0 = .ok (.aload_n 0, 1) := by decide +kernel
theorem dX12_wantSign_1 : decode cX12_wantSign 1 = .ok (.iload_n 1, 1) := by decide +kernel
theorem dX12_wantSign_2 : decode cX12_wantSign 2 = .ok (.invokevirtual 202, 3) := by decide +kernel
theorem dX12_wantSign_5 : decode cX12_wantSign 5 = .ok (.ifCond .ne 9, 3) := by decide +kernel
theorem dX12_wantSign_8 : decode cX12_wantSign 8 = .ok (.aload_n 0, 1) := by decide +kernel
theorem dX12_wantSign_9 : decode cX12_wantSign 9 = .ok (.iconst 2, 1) := by decide +kernel
theorem dX12_wantSign_10 : decode cX12_wantSign 10 = .ok (.invokevirtual 205, 3) := by decide +kernel
theorem dX12_wantSign_13 : decode cX12_wantSign 13 = .ok (.ireturn, 1) := by decide +kernel
theorem dX12_wantSign_14 : decode cX12_wantSign 14 = .ok (.aload_n 0, 1) := by decide +kernel
theorem dX12_wantSign_15 : decode cX12_wantSign 15 = .ok (.invokevirtual 199, 3) := by decide +kernel
theorem dX12_wantSign_18 : decode cX12_wantSign 18 = .ok (.iconst 1, 1) := by decide +kernel
theorem dX12_wantSign_19 : decode cX12_wantSign 19 = .ok (.ireturn, 1) := by decide +kernel
abbrev f_c_X12_wantSign : List (Nat × Int) := [(64, 12), (64, 13), (64, 14), (64, 15), (64, 17), (64, 18)]
set_option maxHeartbeats 4000000 in
set_option maxRecDepth 100000 in
theorem c_X12_wantSign (G : KG) (l : Launch) (M : Mem) (a1 : Int) (hI_M : Inv true M) (hpre : -2147483648 ≤ a1 ∧ a1 ≤ 2147483647) : KC true G l yX12_wantSign cX12_wantSign 2 (some .boolean) (2, 42) [vR G 163, vI a1] M (fun A => kQi true G A (fun (r : Int) (N : Mem) => Inv true N ∧ Fr f_c_X12_wantSign M N ∧ ((r = 1 ∧ 5 * (N 163 14) - (N 163 12) ≥ 5 * (M 163 14) - (M 163 12) + 1) ∨ (r = 0 ∧ 5 * (N 163 14) - (N 163 12) ≥ 5 * (M 163 14) - (M 163 12) ∧ (N 163 18) ≠ 0)))) := by
  refine kx_met (lo := [some (vR G 163), some (vI a1)]) (by decide) (Nat.le_of_ble_eq_true rfl) rfl ?_
  intro X F hQ
  have hF_M : Fr f_c_X12_wantSign M M := Fr.rf _ _
  have h_1 := Inv.g hI_M kd_163 rfl 14 (a := 0) (b := 900) rfl rfl
  have h_2 := Inv.g hI_M kd_163 rfl 12 (a := 0) (b := 4) rfl rfl
  refine kx_aload_n 1 F 0 dX12_wantSign_0 rfl rfl rfl ?_
  refine kx_iload_n 2 F 1 dX12_wantSign_1 rfl rfl rfl ?_
  refine kx_Vi 5 (ci := 0) F (As := [vI a1]) (st := []) vd_X12_202 (c_X12_isSign G l M a1 hI_M (by omega)) kd_163 rfl rfl rfl ⟨by decide, by decide⟩ rfl rfl (Nat.le_of_ble_eq_true rfl) dX12_wantSign_2 rfl ?_
  intro r_3 N_4 q_5
  obtain ⟨rfl, q_5c⟩ := q_5
  rcases q_5c with q_5c | q_5c
  · refine kx_if_ne 8 F 14 dX12_wantSign_5 (by decide) rfl (by omega) (fun h_6 => ?_) (fun h_6 => (by exfalso; omega))
    refine kx_aload_n 15 F 0 dX12_wantSign_14 rfl rfl rfl ?_
    refine kx_Vv 18 (ci := 0) F (As := []) (st := []) vd_X12_199 (c_X12_ahead G l M  hI_M) kd_163 rfl rfl rfl ⟨by decide, by decide⟩ rfl rfl (Nat.le_of_ble_eq_true rfl) dX12_wantSign_15 rfl ?_
    intro N_7 q_8
    obtain ⟨hI_N_7, hG_N_7, q_8c⟩ := q_8
    have hF_N_7 : Fr f_c_X12_wantSign M N_7 := Fr.c hF_M hG_N_7 rfl
    have h_9 := Inv.g hI_N_7 kd_163 rfl 12 (a := 0) (b := 4) rfl rfl
    have h_10 := Inv.g hI_N_7 kd_163 rfl 14 (a := 0) (b := 900) rfl rfl
    have h_11 := Inv.g hI_N_7 kd_163 rfl 12 (a := 0) (b := 4) rfl rfl
    have h_12 := Inv.g hI_N_7 kd_163 rfl 14 (a := 0) (b := 900) rfl rfl
    rcases q_8c with q_8c | q_8c
    · refine kx_iconst 19 F dX12_wantSign_18 rfl ?_
      have e_13 : (N_7 163 18) = (M 163 18) := by rw [Fr.e hG_N_7 kd_163 _ rfl]
      have h_14 := Inv.g hI_M kd_163 rfl 18 (a := (-2147483648)) (b := 2147483647) rfl rfl
      exact kx_zret F hQ (by omega) ⟨hI_N_7, hF_N_7, (by omega)⟩ dX12_wantSign_19
    · refine kx_iconst 19 F dX12_wantSign_18 rfl ?_
      have e_15 : (N_7 163 18) = (M 163 18) := by rw [Fr.e hG_N_7 kd_163 _ rfl]
      have h_16 := Inv.g hI_M kd_163 rfl 18 (a := (-2147483648)) (b := 2147483647) rfl rfl
      exact kx_zret F hQ (by omega) ⟨hI_N_7, hF_N_7, (by omega)⟩ dX12_wantSign_19
  · refine kx_if_ne 8 F 14 dX12_wantSign_5 (by decide) rfl (by omega) (fun h_17 => (by exfalso; omega)) (fun h_17 => ?_)
    refine kx_aload_n 9 F 0 dX12_wantSign_8 rfl rfl rfl ?_
    refine kx_iconst 10 F dX12_wantSign_9 rfl ?_
    refine kx_Vi 13 (ci := 0) F (As := [vI 2]) (st := []) vd_X12_205 (c_X12_fails G l M 2 hI_M (by omega)) kd_163 rfl rfl rfl ⟨by decide, by decide⟩ rfl rfl (Nat.le_of_ble_eq_true rfl) dX12_wantSign_10 rfl ?_
    intro r_18 N_19 q_20
    obtain ⟨hI_N_19, hG_N_19, q_20c⟩ := q_20
    have hF_N_19 : Fr f_c_X12_wantSign M N_19 := Fr.c hF_M hG_N_19 rfl
    have h_21 := Inv.g hI_N_19 kd_163 rfl 18 (a := (-2147483648)) (b := 2147483647) rfl rfl
    have e_22 : (N_19 163 14) = (M 163 14) := by rw [Fr.e hG_N_19 kd_163 _ rfl]
    have e_23 : (N_19 163 12) = (M 163 12) := by rw [Fr.e hG_N_19 kd_163 _ rfl]
    have e_24 : (N_19 163 14) = (M 163 14) := by rw [Fr.e hG_N_19 kd_163 _ rfl]
    have e_25 : (N_19 163 12) = (M 163 12) := by rw [Fr.e hG_N_19 kd_163 _ rfl]
    exact kx_zret F hQ (by omega) ⟨hI_N_19, hF_N_19, (by omega)⟩ dX12_wantSign_13
theorem dX12_wantWord_0 : decode cX12_wantWord 0 = .ok (.aload_n 0, 1) := by decide +kernel
theorem dX12_wantWord_1 : decode cX12_wantWord 1 = .ok (.aload_n 1, 1) := by decide +kernel
theorem dX12_wantWord_2 : decode cX12_wantWord 2 = .ok (.invokevirtual 208, 3) := by decide +kernel
theorem dX12_wantWord_5 : decode cX12_wantWord 5 = .ok (.iload_n 2, 1) := by decide +kernel
theorem dX12_wantWord_6 : decode cX12_wantWord 6 = .ok (.if_icmp .eq 9, 3) := by decide +kernel
theorem dX12_wantWord_9 : decode cX12_wantWord 9 = .ok (.aload_n 0, 1) := by decide +kernel
theorem dX12_wantWord_10 : decode cX12_wantWord 10 = .ok (.iconst 2, 1) := by decide +kernel
theorem dX12_wantWord_11 : decode cX12_wantWord 11 = .ok (.invokevirtual 205, 3) := by decide +kernel
theorem dX12_wantWord_14 : decode cX12_wantWord 14 = .ok (.ireturn, 1) := by decide +kernel
theorem dX12_wantWord_15 : decode cX12_wantWord 15 = .ok (.aload_n 0, 1) := by decide +kernel
theorem dX12_wantWord_16 : decode cX12_wantWord 16 = .ok (.invokevirtual 199, 3) := by decide +kernel
theorem dX12_wantWord_19 : decode cX12_wantWord 19 = .ok (.iconst 1, 1) := by decide +kernel
theorem dX12_wantWord_20 : decode cX12_wantWord 20 = .ok (.ireturn, 1) := by decide +kernel
abbrev f_c_X12_wantWord : List (Nat × Int) := [(64, 12), (64, 13), (64, 14), (64, 15), (64, 17), (64, 18)]
set_option maxHeartbeats 4000000 in
set_option maxRecDepth 100000 in
theorem c_X12_wantWord (G : KG) (l : Launch) (M : Mem) (a2 : Int) (hI_M : Inv true M) (hpre : -2147483648 ≤ a2 ∧ a2 ≤ 2147483647 ∧ a2 ≥ 0) : KC true G l yX12_wantWord cX12_wantWord 3 (some .boolean) (5, 111) [vR G 163, vT G 11, vI a2] M (fun A => kQi true G A (fun (r : Int) (N : Mem) => Inv true N ∧ Fr f_c_X12_wantWord M N ∧ ((r = 1 ∧ 5 * (N 163 14) - (N 163 12) ≥ 5 * (M 163 14) - (M 163 12) + 1) ∨ (r = 0 ∧ 5 * (N 163 14) - (N 163 12) ≥ 5 * (M 163 14) - (M 163 12) ∧ (N 163 18) ≠ 0)))) := by
  refine kx_met (lo := [some (vR G 163), some (vT G 11), some (vI a2)]) (by decide) (Nat.le_of_ble_eq_true rfl) rfl ?_
  intro X F hQ
  have hF_M : Fr f_c_X12_wantWord M M := Fr.rf _ _
  have h_1 := Inv.g hI_M kd_163 rfl 14 (a := 0) (b := 900) rfl rfl
  have h_2 := Inv.g hI_M kd_163 rfl 12 (a := 0) (b := 4) rfl rfl
  refine kx_aload_n 1 F 0 dX12_wantWord_0 rfl rfl rfl ?_
  refine kx_aload_n 2 F 1 dX12_wantWord_1 rfl rfl rfl ?_
  refine kx_Vi 5 (ci := 0) F (As := [vT G 11]) (st := []) vd_X12_208 (c_X12_inWords G l M  hI_M) kd_163 rfl rfl rfl ⟨by decide, by decide⟩ rfl rfl (Nat.le_of_ble_eq_true rfl) dX12_wantWord_2 rfl ?_
  intro r_3 N_4 q_5
  obtain ⟨rfl, q_5c⟩ := q_5
  rcases q_5c with q_5c | q_5c
  · refine kx_iload_n 6 F 2 dX12_wantWord_5 rfl rfl rfl ?_
    refine kx_icmp_eq 9 F 15 dX12_wantWord_6 (by decide) rfl (by omega) (by omega) (fun h_6 => (by exfalso; omega)) (fun h_6 => ?_)
    refine kx_aload_n 10 F 0 dX12_wantWord_9 rfl rfl rfl ?_
    refine kx_iconst 11 F dX12_wantWord_10 rfl ?_
    refine kx_Vi 14 (ci := 0) F (As := [vI 2]) (st := []) vd_X12_205 (c_X12_fails G l M 2 hI_M (by omega)) kd_163 rfl rfl rfl ⟨by decide, by decide⟩ rfl rfl (Nat.le_of_ble_eq_true rfl) dX12_wantWord_11 rfl ?_
    intro r_7 N_8 q_9
    obtain ⟨hI_N_8, hG_N_8, q_9c⟩ := q_9
    have hF_N_8 : Fr f_c_X12_wantWord M N_8 := Fr.c hF_M hG_N_8 rfl
    have h_10 := Inv.g hI_N_8 kd_163 rfl 18 (a := (-2147483648)) (b := 2147483647) rfl rfl
    have e_11 : (N_8 163 14) = (M 163 14) := by rw [Fr.e hG_N_8 kd_163 _ rfl]
    have e_12 : (N_8 163 12) = (M 163 12) := by rw [Fr.e hG_N_8 kd_163 _ rfl]
    have e_13 : (N_8 163 14) = (M 163 14) := by rw [Fr.e hG_N_8 kd_163 _ rfl]
    have e_14 : (N_8 163 12) = (M 163 12) := by rw [Fr.e hG_N_8 kd_163 _ rfl]
    exact kx_zret F hQ (by omega) ⟨hI_N_8, hF_N_8, (by omega)⟩ dX12_wantWord_14
  · refine kx_iload_n 6 F 2 dX12_wantWord_5 rfl rfl rfl ?_
    refine kx_icmp_eq 9 F 15 dX12_wantWord_6 (by decide) rfl (by omega) (by omega) (fun h_15 => ?_) (fun h_15 => ?_)
    · refine kx_aload_n 16 F 0 dX12_wantWord_15 rfl rfl rfl ?_
      refine kx_Vv 19 (ci := 0) F (As := []) (st := []) vd_X12_199 (c_X12_ahead G l M  hI_M) kd_163 rfl rfl rfl ⟨by decide, by decide⟩ rfl rfl (Nat.le_of_ble_eq_true rfl) dX12_wantWord_16 rfl ?_
      intro N_16 q_17
      obtain ⟨hI_N_16, hG_N_16, q_17c⟩ := q_17
      have hF_N_16 : Fr f_c_X12_wantWord M N_16 := Fr.c hF_M hG_N_16 rfl
      have h_18 := Inv.g hI_N_16 kd_163 rfl 12 (a := 0) (b := 4) rfl rfl
      have h_19 := Inv.g hI_N_16 kd_163 rfl 14 (a := 0) (b := 900) rfl rfl
      have h_20 := Inv.g hI_N_16 kd_163 rfl 12 (a := 0) (b := 4) rfl rfl
      have h_21 := Inv.g hI_N_16 kd_163 rfl 14 (a := 0) (b := 900) rfl rfl
      rcases q_17c with q_17c | q_17c
      · refine kx_iconst 20 F dX12_wantWord_19 rfl ?_
        have e_22 : (N_16 163 18) = (M 163 18) := by rw [Fr.e hG_N_16 kd_163 _ rfl]
        have h_23 := Inv.g hI_M kd_163 rfl 18 (a := (-2147483648)) (b := 2147483647) rfl rfl
        exact kx_zret F hQ (by omega) ⟨hI_N_16, hF_N_16, (by omega)⟩ dX12_wantWord_20
      · refine kx_iconst 20 F dX12_wantWord_19 rfl ?_
        have e_24 : (N_16 163 18) = (M 163 18) := by rw [Fr.e hG_N_16 kd_163 _ rfl]
        have h_25 := Inv.g hI_M kd_163 rfl 18 (a := (-2147483648)) (b := 2147483647) rfl rfl
        exact kx_zret F hQ (by omega) ⟨hI_N_16, hF_N_16, (by omega)⟩ dX12_wantWord_20
    · refine kx_aload_n 10 F 0 dX12_wantWord_9 rfl rfl rfl ?_
      refine kx_iconst 11 F dX12_wantWord_10 rfl ?_
      refine kx_Vi 14 (ci := 0) F (As := [vI 2]) (st := []) vd_X12_205 (c_X12_fails G l M 2 hI_M (by omega)) kd_163 rfl rfl rfl ⟨by decide, by decide⟩ rfl rfl (Nat.le_of_ble_eq_true rfl) dX12_wantWord_11 rfl ?_
      intro r_26 N_27 q_28
      obtain ⟨hI_N_27, hG_N_27, q_28c⟩ := q_28
      have hF_N_27 : Fr f_c_X12_wantWord M N_27 := Fr.c hF_M hG_N_27 rfl
      have h_29 := Inv.g hI_N_27 kd_163 rfl 18 (a := (-2147483648)) (b := 2147483647) rfl rfl
      have e_30 : (N_27 163 14) = (M 163 14) := by rw [Fr.e hG_N_27 kd_163 _ rfl]
      have e_31 : (N_27 163 12) = (M 163 12) := by rw [Fr.e hG_N_27 kd_163 _ rfl]
      have e_32 : (N_27 163 14) = (M 163 14) := by rw [Fr.e hG_N_27 kd_163 _ rfl]
      have e_33 : (N_27 163 12) = (M 163 12) := by rw [Fr.e hG_N_27 kd_163 _ rfl]
      exact kx_zret F hQ (by omega) ⟨hI_N_27, hF_N_27, (by omega)⟩ dX12_wantWord_14
theorem dX12_number_0 : decode cX12_number 0 = .ok (.aload_n 0, 1) := by decide +kernel
theorem dX12_number_1 : decode cX12_number 1 = .ok (.getfield 168, 3) := by decide +kernel
theorem dX12_number_4 : decode cX12_number 4 = .ok (.iconst 3, 1) := by decide +kernel
theorem dX12_number_5 : decode cX12_number 5 = .ok (.if_icmp .eq 9, 3) := by decide +kernel
theorem dX12_number_8 : decode cX12_number 8 = .ok (.aload_n 0, 1) := by decide +kernel
theorem dX12_number_9 : decode cX12_number 9 = .ok (.iconst 2, 1) := by decide +kernel
theorem dX12_number_10 : decode cX12_number 10 = .ok (.invokevirtual 205, 3) := by decide +kernel
theorem dX12_number_13 : decode cX12_number 13 = .ok (.ireturn, 1) := by decide +kernel
theorem dX12_number_14 : decode cX12_number 14 = .ok (.aload_n 0, 1) := by decide +kernel
theorem dX12_number_15 : decode cX12_number 15 = .ok (.getfield 165, 3) := by decide +kernel
theorem dX12_number_18 : decode cX12_number 18 = .ok (.iload_n 2, 1) := by decide +kernel
theorem dX12_number_19 : decode cX12_number 19 = .ok (.if_icmp .lt 11, 3) := by decide +kernel
theorem dX12_number_22 : decode cX12_number 22 = .ok (.aload_n 0, 1) := by decide +kernel
theorem dX12_number_23 : decode cX12_number 23 = .ok (.getfield 165, 3) := by decide +kernel
theorem dX12_number_26 : decode cX12_number 26 = .ok (.iload_n 3, 1) := by decide +kernel
theorem dX12_number_27 : decode cX12_number 27 = .ok (.if_icmp .le 9, 3) := by decide +kernel
theorem dX12_number_30 : decode cX12_number 30 = .ok (.aload_n 0, 1) := by decide +kernel
theorem dX12_number_31 : decode cX12_number 31 = .ok (.iconst 4, 1) := by decide +kernel
theorem dX12_number_32 : decode cX12_number 32 = .ok (.invokevirtual 205, 3) := by decide +kernel
theorem dX12_number_35 : decode cX12_number 35 = .ok (.ireturn, 1) := by decide +kernel
theorem dX12_number_36 : decode cX12_number 36 = .ok (.aload_n 0, 1) := by decide +kernel
theorem dX12_number_37 : decode cX12_number 37 = .ok (.getfield 7, 3) := by decide +kernel
theorem dX12_number_40 : decode cX12_number 40 = .ok (.iload_n 1, 1) := by decide +kernel
theorem dX12_number_41 : decode cX12_number 41 = .ok (.aload_n 0, 1) := by decide +kernel
theorem dX12_number_42 : decode cX12_number 42 = .ok (.getfield 165, 3) := by decide +kernel
theorem dX12_number_45 : decode cX12_number 45 = .ok (.iastore, 1) := by decide +kernel
theorem dX12_number_46 : decode cX12_number 46 = .ok (.aload_n 0, 1) := by decide +kernel
theorem dX12_number_47 : decode cX12_number 47 = .ok (.invokevirtual 199, 3) := by decide +kernel
theorem dX12_number_50 : decode cX12_number 50 = .ok (.iconst 1, 1) := by decide +kernel
theorem dX12_number_51 : decode cX12_number 51 = .ok (.ireturn, 1) := by decide +kernel
abbrev f_c_X12_number : List (Nat × Int) := [(64, 12), (64, 13), (64, 14), (64, 15), (64, 17), (64, 18), (65, -1)]
set_option maxHeartbeats 4000000 in
set_option maxRecDepth 100000 in
theorem c_X12_number (G : KG) (l : Launch) (M : Mem) (a1 : Int) (a2 : Int) (a3 : Int) (hI_M : Inv true M) (hpre : -2147483648 ≤ a1 ∧ a1 ≤ 2147483647 ∧ -2147483648 ≤ a2 ∧ a2 ≤ 2147483647 ∧ -2147483648 ≤ a3 ∧ a3 ≤ 2147483647 ∧ 0 ≤ a1 ∧ a1 ≤ 1359 ∧ (atlo a1) ≤ a2 ∧ a3 ≤ (athi a1)) : KC true G l yX12_number cX12_number 4 (some .boolean) (2, 42) [vR G 163, vI a1, vI a2, vI a3] M (fun A => kQi true G A (fun (r : Int) (N : Mem) => Inv true N ∧ Fr f_c_X12_number M N ∧ ((r = 1 ∧ 5 * (N 163 14) - (N 163 12) ≥ 5 * (M 163 14) - (M 163 12) + 1 ∧ a2 ≤ (N 164 a1) ∧ (N 164 a1) ≤ a3) ∨ (r = 0 ∧ 5 * (N 163 14) - (N 163 12) ≥ 5 * (M 163 14) - (M 163 12) ∧ (N 163 18) ≠ 0)) ∧ (∀ j, ¬ j = a1 → N 164 j = M 164 j))) := by
  refine kx_met (lo := [some (vR G 163), some (vI a1), some (vI a2), some (vI a3)]) (by decide) (Nat.le_of_ble_eq_true rfl) rfl ?_
  intro X F hQ
  have hF_M : Fr f_c_X12_number M M := Fr.rf _ _
  have h_1 := Inv.g hI_M kd_163 rfl 14 (a := 0) (b := 900) rfl rfl
  have h_2 := Inv.g hI_M kd_163 rfl 12 (a := 0) (b := 4) rfl rfl
  refine kx_aload_n 1 F 0 dX12_number_0 rfl rfl rfl ?_
  refine kx_geti 4 F fl_X12_168 kd_163 rfl rfl (j := 12) rfl dX12_number_1 (v := (M 163 12)) rfl rfl ?_
  refine kx_iconst 5 F dX12_number_4 rfl ?_
  refine kx_icmp_eq 8 F 14 dX12_number_5 (by decide) rfl (by omega) (by decide) (fun h_3 => ?_) (fun h_3 => ?_)
  · refine kx_aload_n 15 F 0 dX12_number_14 rfl rfl rfl ?_
    refine kx_geti 18 F fl_X12_165 kd_163 rfl rfl (j := 15) rfl dX12_number_15 (v := (M 163 15)) rfl rfl ?_
    have h_4 := Inv.g hI_M kd_163 rfl 15 (a := (-2147483648)) (b := 2147483647) rfl rfl
    refine kx_iload_n 19 F 2 dX12_number_18 rfl rfl rfl ?_
    refine kx_icmp_lt 22 F 30 dX12_number_19 (by decide) rfl (by omega) (by omega) (fun h_5 => ?_) (fun h_5 => ?_)
    · refine kx_aload_n 31 F 0 dX12_number_30 rfl rfl rfl ?_
      refine kx_iconst 32 F dX12_number_31 rfl ?_
      refine kx_Vi 35 (ci := 0) F (As := [vI 4]) (st := []) vd_X12_205 (c_X12_fails G l M 4 hI_M (by omega)) kd_163 rfl rfl rfl ⟨by decide, by decide⟩ rfl rfl (Nat.le_of_ble_eq_true rfl) dX12_number_32 rfl ?_
      intro r_6 N_7 q_8
      obtain ⟨hI_N_7, hG_N_7, q_8c⟩ := q_8
      have hF_N_7 : Fr f_c_X12_number M N_7 := Fr.c hF_M hG_N_7 rfl
      have h_9 := Inv.g hI_N_7 kd_163 rfl 18 (a := (-2147483648)) (b := 2147483647) rfl rfl
      have e_10 : (N_7 163 14) = (M 163 14) := by rw [Fr.e hG_N_7 kd_163 _ rfl]
      have e_11 : (N_7 163 12) = (M 163 12) := by rw [Fr.e hG_N_7 kd_163 _ rfl]
      have e_12 : (N_7 164 a1) = (M 164 a1) := by rw [Fr.e hG_N_7 kd_164 _ rfl]
      have e_13 : (N_7 164 a1) = (M 164 a1) := by rw [Fr.e hG_N_7 kd_164 _ rfl]
      have e_14 : (N_7 163 14) = (M 163 14) := by rw [Fr.e hG_N_7 kd_163 _ rfl]
      have e_15 : (N_7 163 12) = (M 163 12) := by rw [Fr.e hG_N_7 kd_163 _ rfl]
      exact kx_zret F hQ (by omega) ⟨hI_N_7, hF_N_7, (by omega), (fun j hj => by rw [Fr.e hG_N_7 kd_164 _ rfl])⟩ dX12_number_35
    · refine kx_aload_n 23 F 0 dX12_number_22 rfl rfl rfl ?_
      refine kx_geti 26 F fl_X12_165 kd_163 rfl rfl (j := 15) rfl dX12_number_23 (v := (M 163 15)) rfl rfl ?_
      refine kx_iload_n 27 F 3 dX12_number_26 rfl rfl rfl ?_
      refine kx_icmp_le 30 F 36 dX12_number_27 (by decide) rfl (by omega) (by omega) (fun h_16 => ?_) (fun h_16 => ?_)
      · refine kx_aload_n 37 F 0 dX12_number_36 rfl rfl rfl ?_
        refine kx_getr 40 F fl_X12_7 kd_163 rfl rfl (j := 0) rfl dX12_number_37 (v := 164) (uq_164 (Inv.r hI_M kd_163 rfl 0 rfl rfl)) rfl ?_
        refine kx_iload_n 41 F 1 dX12_number_40 rfl rfl rfl ?_
        refine kx_aload_n 42 F 0 dX12_number_41 rfl rfl rfl ?_
        refine kx_geti 45 F fl_X12_165 kd_163 rfl rfl (j := 15) rfl dX12_number_42 (v := (M 163 15)) rfl rfl ?_
        refine kx_iast 46 F kd_164 rfl rfl (by omega) (by decide) dX12_number_45 rfl ?_
        intro N_17 hM_N_17
        have h_18 := at_0 a1
        have hI_N_17 : Inv true N_17 := Inv.u hI_M hM_N_17 kd_164 (a := atlo a1) (b := athi a1) rfl rfl rfl (by omega)
        have hF_N_17 : Fr f_c_X12_number M N_17 := Fr.u hF_M hM_N_17 kd_164 rfl
        refine kx_aload_n 47 F 0 dX12_number_46 rfl rfl rfl ?_
        refine kx_Vv 50 (ci := 0) F (As := []) (st := []) vd_X12_199 (c_X12_ahead G l N_17  hI_N_17) kd_163 rfl rfl rfl ⟨by decide, by decide⟩ rfl rfl (Nat.le_of_ble_eq_true rfl) dX12_number_47 rfl ?_
        intro N_19 q_20
        obtain ⟨hI_N_19, hG_N_19, q_20c⟩ := q_20
        have hF_N_19 : Fr f_c_X12_number M N_19 := Fr.c hF_N_17 hG_N_19 rfl
        have h_21 := Inv.g hI_N_19 kd_163 rfl 12 (a := 0) (b := 4) rfl rfl
        have e_22 : (N_17 163 14) = (M 163 14) := by rw [hM_N_17, mu_k kd_163 kd_164 rfl]
        have h_23 := Inv.g hI_N_19 kd_163 rfl 14 (a := 0) (b := 900) rfl rfl
        have h_24 := Inv.g hI_N_19 kd_163 rfl 12 (a := 0) (b := 4) rfl rfl
        have e_25 : (N_17 163 14) = (M 163 14) := by rw [hM_N_17, mu_k kd_163 kd_164 rfl]
        have h_26 := Inv.g hI_N_19 kd_163 rfl 14 (a := 0) (b := 900) rfl rfl
        rcases q_20c with q_20c | q_20c
        · refine kx_iconst 51 F dX12_number_50 rfl ?_
          have e_27 : (N_19 164 a1) = (M 163 15) := by rw [Fr.e hG_N_19 kd_164 _ rfl, hM_N_17, mu_s]
          have e_28 : (N_19 164 a1) = (M 163 15) := by rw [Fr.e hG_N_19 kd_164 _ rfl, hM_N_17, mu_s]
          have e_29 : (N_19 163 18) = (M 163 18) := by rw [Fr.e hG_N_19 kd_163 _ rfl, hM_N_17, mu_k kd_163 kd_164 rfl]
          have h_30 := Inv.g hI_M kd_163 rfl 18 (a := (-2147483648)) (b := 2147483647) rfl rfl
          exact kx_zret F hQ (by omega) ⟨hI_N_19, hF_N_19, (by omega), (fun j hj => by rw [Fr.e hG_N_19 kd_164 _ rfl, hM_N_17, mu_i hj])⟩ dX12_number_51
        · refine kx_iconst 51 F dX12_number_50 rfl ?_
          have e_31 : (N_19 164 a1) = (M 163 15) := by rw [Fr.e hG_N_19 kd_164 _ rfl, hM_N_17, mu_s]
          have e_32 : (N_19 164 a1) = (M 163 15) := by rw [Fr.e hG_N_19 kd_164 _ rfl, hM_N_17, mu_s]
          have e_33 : (N_19 163 18) = (M 163 18) := by rw [Fr.e hG_N_19 kd_163 _ rfl, hM_N_17, mu_k kd_163 kd_164 rfl]
          have h_34 := Inv.g hI_M kd_163 rfl 18 (a := (-2147483648)) (b := 2147483647) rfl rfl
          exact kx_zret F hQ (by omega) ⟨hI_N_19, hF_N_19, (by omega), (fun j hj => by rw [Fr.e hG_N_19 kd_164 _ rfl, hM_N_17, mu_i hj])⟩ dX12_number_51
      · refine kx_aload_n 31 F 0 dX12_number_30 rfl rfl rfl ?_
        refine kx_iconst 32 F dX12_number_31 rfl ?_
        refine kx_Vi 35 (ci := 0) F (As := [vI 4]) (st := []) vd_X12_205 (c_X12_fails G l M 4 hI_M (by omega)) kd_163 rfl rfl rfl ⟨by decide, by decide⟩ rfl rfl (Nat.le_of_ble_eq_true rfl) dX12_number_32 rfl ?_
        intro r_35 N_36 q_37
        obtain ⟨hI_N_36, hG_N_36, q_37c⟩ := q_37
        have hF_N_36 : Fr f_c_X12_number M N_36 := Fr.c hF_M hG_N_36 rfl
        have h_38 := Inv.g hI_N_36 kd_163 rfl 18 (a := (-2147483648)) (b := 2147483647) rfl rfl
        have e_39 : (N_36 163 14) = (M 163 14) := by rw [Fr.e hG_N_36 kd_163 _ rfl]
        have e_40 : (N_36 163 12) = (M 163 12) := by rw [Fr.e hG_N_36 kd_163 _ rfl]
        have e_41 : (N_36 164 a1) = (M 164 a1) := by rw [Fr.e hG_N_36 kd_164 _ rfl]
        have e_42 : (N_36 164 a1) = (M 164 a1) := by rw [Fr.e hG_N_36 kd_164 _ rfl]
        have e_43 : (N_36 163 14) = (M 163 14) := by rw [Fr.e hG_N_36 kd_163 _ rfl]
        have e_44 : (N_36 163 12) = (M 163 12) := by rw [Fr.e hG_N_36 kd_163 _ rfl]
        exact kx_zret F hQ (by omega) ⟨hI_N_36, hF_N_36, (by omega), (fun j hj => by rw [Fr.e hG_N_36 kd_164 _ rfl])⟩ dX12_number_35
  · refine kx_aload_n 9 F 0 dX12_number_8 rfl rfl rfl ?_
    refine kx_iconst 10 F dX12_number_9 rfl ?_
    refine kx_Vi 13 (ci := 0) F (As := [vI 2]) (st := []) vd_X12_205 (c_X12_fails G l M 2 hI_M (by omega)) kd_163 rfl rfl rfl ⟨by decide, by decide⟩ rfl rfl (Nat.le_of_ble_eq_true rfl) dX12_number_10 rfl ?_
    intro r_45 N_46 q_47
    obtain ⟨hI_N_46, hG_N_46, q_47c⟩ := q_47
    have hF_N_46 : Fr f_c_X12_number M N_46 := Fr.c hF_M hG_N_46 rfl
    have h_48 := Inv.g hI_N_46 kd_163 rfl 18 (a := (-2147483648)) (b := 2147483647) rfl rfl
    have e_49 : (N_46 163 14) = (M 163 14) := by rw [Fr.e hG_N_46 kd_163 _ rfl]
    have e_50 : (N_46 163 12) = (M 163 12) := by rw [Fr.e hG_N_46 kd_163 _ rfl]
    have e_51 : (N_46 164 a1) = (M 164 a1) := by rw [Fr.e hG_N_46 kd_164 _ rfl]
    have e_52 : (N_46 164 a1) = (M 164 a1) := by rw [Fr.e hG_N_46 kd_164 _ rfl]
    have e_53 : (N_46 163 14) = (M 163 14) := by rw [Fr.e hG_N_46 kd_163 _ rfl]
    have e_54 : (N_46 163 12) = (M 163 12) := by rw [Fr.e hG_N_46 kd_163 _ rfl]
    exact kx_zret F hQ (by omega) ⟨hI_N_46, hF_N_46, (by omega), (fun j hj => by rw [Fr.e hG_N_46 kd_164 _ rfl])⟩ dX12_number_13
theorem dX12_isName_0 : decode cX12_isName 0 = .ok (.aload_n 0, 1) := by decide +kernel
theorem dX12_isName_1 : decode cX12_isName 1 = .ok (.getfield 168, 3) := by decide +kernel
theorem dX12_isName_4 : decode cX12_isName 4 = .ok (.iconst 2, 1) := by decide +kernel
theorem dX12_isName_5 : decode cX12_isName 5 = .ok (.if_icmp .ne 30, 3) := by decide +kernel
theorem dX12_isName_8 : decode cX12_isName 8 = .ok (.aload_n 0, 1) := by decide +kernel
theorem dX12_isName_9 : decode cX12_isName 9 = .ok (.getfield 156, 3) := by decide +kernel
theorem dX12_isName_12 : decode cX12_isName 12 = .ok (.aload_n 0, 1) := by decide +kernel
theorem dX12_isName_13 : decode cX12_isName 13 = .ok (.getfield 162, 3) := by decide +kernel
theorem dX12_isName_16 : decode cX12_isName 16 = .ok (.isub, 1) := by decide +kernel
theorem dX12_isName_17 : decode cX12_isName 17 = .ok (.bipush 8, 2) := by decide +kernel
theorem dX12_isName_19 : decode cX12_isName 19 = .ok (.if_icmp .gt 16, 3) := by decide +kernel
theorem dX12_isName_22 : decode cX12_isName 22 = .ok (.aload_n 0, 1) := by decide +kernel
theorem dX12_isName_23 : decode cX12_isName 23 = .ok (.aload_n 1, 1) := by decide +kernel
theorem dX12_isName_24 : decode cX12_isName 24 = .ok (.invokevirtual 208, 3) := by decide +kernel
theorem dX12_isName_27 : decode cX12_isName 27 = .ok (.iconst (-1), 1) := by decide +kernel
theorem dX12_isName_28 : decode cX12_isName 28 = .ok (.if_icmp .ne 7, 3) := by decide +kernel
theorem dX12_isName_31 : decode cX12_isName 31 = .ok (.iconst 1, 1) := by decide +kernel
theorem dX12_isName_32 : decode cX12_isName 32 = .ok (.goto 4, 3) := by decide +kernel
theorem dX12_isName_35 : decode cX12_isName 35 = .ok (.iconst 0, 1) := by decide +kernel
theorem dX12_isName_36 : decode cX12_isName 36 = .ok (.ireturn, 1) := by decide +kernel
set_option maxHeartbeats 4000000 in
set_option maxRecDepth 100000 in
theorem c_X12_isName (G : KG) (l : Launch) (M : Mem) (hI_M : Inv true M) : KC true G l yX12_isName cX12_isName 2 (some .boolean) (5, 111) [vR G 163, vT G 11] M (fun A => kQi true G A (fun (r : Int) (N : Mem) => M = N ∧ ((r = 1 ∧ (M 163 12) = 2) ∨ (r = 0)))) := by
  refine kx_met (lo := [some (vR G 163), some (vT G 11)]) (by decide) (Nat.le_of_ble_eq_true rfl) rfl ?_
  intro X F hQ
  refine kx_aload_n 1 F 0 dX12_isName_0 rfl rfl rfl ?_
  refine kx_geti 4 F fl_X12_168 kd_163 rfl rfl (j := 12) rfl dX12_isName_1 (v := (M 163 12)) rfl rfl ?_
  have h_1 := Inv.g hI_M kd_163 rfl 12 (a := 0) (b := 4) rfl rfl
  refine kx_iconst 5 F dX12_isName_4 rfl ?_
  refine kx_icmp_ne 8 F 35 dX12_isName_5 (by decide) rfl (by omega) (by decide) (fun h_2 => ?_) (fun h_2 => ?_)
  · refine kx_iconst 36 F dX12_isName_35 rfl ?_
    exact kx_zret F hQ (by omega) ⟨rfl, (by omega)⟩ dX12_isName_36
  · refine kx_aload_n 9 F 0 dX12_isName_8 rfl rfl rfl ?_
    refine kx_geti 12 F fl_X12_156 kd_163 rfl rfl (j := 14) rfl dX12_isName_9 (v := (M 163 14)) rfl rfl ?_
    have h_3 := Inv.g hI_M kd_163 rfl 14 (a := 0) (b := 900) rfl rfl
    refine kx_aload_n 13 F 0 dX12_isName_12 rfl rfl rfl ?_
    refine kx_geti 16 F fl_X12_162 kd_163 rfl rfl (j := 13) rfl dX12_isName_13 (v := (M 163 13)) rfl rfl ?_
    have h_4 := Inv.g hI_M kd_163 rfl 13 (a := 0) (b := 900) rfl rfl
    refine kx_isub 17 F (v := (M 163 14) - (M 163 13)) dX12_isName_16 rfl rfl ?_
    refine kx_bipush 19 F dX12_isName_17 (by decide) rfl ?_
    refine kx_icmp_gt 22 F 35 dX12_isName_19 (by decide) rfl (by omega) (by decide) (fun h_5 => ?_) (fun h_5 => ?_)
    · refine kx_iconst 36 F dX12_isName_35 rfl ?_
      exact kx_zret F hQ (by omega) ⟨rfl, (by omega)⟩ dX12_isName_36
    · refine kx_aload_n 23 F 0 dX12_isName_22 rfl rfl rfl ?_
      refine kx_aload_n 24 F 1 dX12_isName_23 rfl rfl rfl ?_
      refine kx_Vi 27 (ci := 0) F (As := [vT G 11]) (st := []) vd_X12_208 (c_X12_inWords G l M  hI_M) kd_163 rfl rfl rfl ⟨by decide, by decide⟩ rfl rfl (Nat.le_of_ble_eq_true rfl) dX12_isName_24 rfl ?_
      intro r_6 N_7 q_8
      obtain ⟨rfl, q_8c⟩ := q_8
      rcases q_8c with q_8c | q_8c
      · refine kx_iconst 28 F dX12_isName_27 rfl ?_
        refine kx_icmp_ne 31 F 35 dX12_isName_28 (by decide) rfl (by omega) (by decide) (fun h_9 => (by exfalso; omega)) (fun h_9 => ?_)
        refine kx_iconst 32 F dX12_isName_31 rfl ?_
        refine kx_goto 36 F dX12_isName_32 (by decide) ?_
        exact kx_zret F hQ (by omega) ⟨rfl, (by omega)⟩ dX12_isName_36
      · refine kx_iconst 28 F dX12_isName_27 rfl ?_
        refine kx_icmp_ne 31 F 35 dX12_isName_28 (by decide) rfl (by omega) (by decide) (fun h_10 => ?_) (fun h_10 => (by exfalso; omega))
        refine kx_iconst 36 F dX12_isName_35 rfl ?_
        exact kx_zret F hQ (by omega) ⟨rfl, (by omega)⟩ dX12_isName_36
theorem dX12_isThere_0 : decode cX12_isThere 0 = .ok (.aload_n 0, 1) := by decide +kernel
theorem dX12_isThere_1 : decode cX12_isThere 1 = .ok (.ldc 219, 2) := by decide +kernel
theorem dX12_isThere_3 : decode cX12_isThere 3 = .ok (.invokevirtual 208, 3) := by decide +kernel
theorem dX12_isThere_6 : decode cX12_isThere 6 = .ok (.iload_n 1, 1) := by decide +kernel
theorem dX12_isThere_7 : decode cX12_isThere 7 = .ok (.if_icmp .eq 5, 3) := by decide +kernel
theorem dX12_isThere_10 : decode cX12_isThere 10 = .ok (.iconst 0, 1) := by decide +kernel
theorem dX12_isThere_11 : decode cX12_isThere 11 = .ok (.ireturn, 1) := by decide +kernel
theorem dX12_isThere_12 : decode cX12_isThere 12 = .ok (.aload_n 0, 1) := by decide +kernel
theorem dX12_isThere_13 : decode cX12_isThere 13 = .ok (.invokevirtual 199, 3) := by decide +kernel
theorem dX12_isThere_16 : decode cX12_isThere 16 = .ok (.iconst 1, 1) := by decide +kernel
theorem dX12_isThere_17 : decode cX12_isThere 17 = .ok (.ireturn, 1) := by decide +kernel
abbrev f_c_X12_isThere : List (Nat × Int) := [(64, 12), (64, 13), (64, 14), (64, 15)]
set_option maxHeartbeats 4000000 in
set_option maxRecDepth 100000 in
theorem c_X12_isThere (G : KG) (l : Launch) (M : Mem) (a1 : Int) (hI_M : Inv true M) (hpre : -2147483648 ≤ a1 ∧ a1 ≤ 2147483647 ∧ a1 ≥ 0) : KC true G l yX12_isThere cX12_isThere 2 (some .boolean) (5, 111) [vR G 163, vI a1] M (fun A => kQi true G A (fun (r : Int) (N : Mem) => Inv true N ∧ Fr f_c_X12_isThere M N ∧ ((r = 1 ∧ 5 * (N 163 14) - (N 163 12) ≥ 5 * (M 163 14) - (M 163 12) + 1) ∨ (r = 0 ∧ 5 * (N 163 14) - (N 163 12) ≥ 5 * (M 163 14) - (M 163 12))))) := by
  refine kx_met (lo := [some (vR G 163), some (vI a1)]) (by decide) (Nat.le_of_ble_eq_true rfl) rfl ?_
  intro X F hQ
  have hF_M : Fr f_c_X12_isThere M M := Fr.rf _ _
  have h_1 := Inv.g hI_M kd_163 rfl 14 (a := 0) (b := 900) rfl rfl
  have h_2 := Inv.g hI_M kd_163 rfl 12 (a := 0) (b := 4) rfl rfl
  refine kx_aload_n 1 F 0 dX12_isThere_0 rfl rfl rfl ?_
  refine kx_ldcS 3 F 11 (by decide) rfl rfl dX12_isThere_1 rfl ?_
  refine kx_Vi 6 (ci := 0) F (As := [vT G 11]) (st := []) vd_X12_208 (c_X12_inWords G l M  hI_M) kd_163 rfl rfl rfl ⟨by decide, by decide⟩ rfl rfl (Nat.le_of_ble_eq_true rfl) dX12_isThere_3 rfl ?_
  intro r_3 N_4 q_5
  obtain ⟨rfl, q_5c⟩ := q_5
  rcases q_5c with q_5c | q_5c
  · refine kx_iload_n 7 F 1 dX12_isThere_6 rfl rfl rfl ?_
    refine kx_icmp_eq 10 F 12 dX12_isThere_7 (by decide) rfl (by omega) (by omega) (fun h_6 => (by exfalso; omega)) (fun h_6 => ?_)
    refine kx_iconst 11 F dX12_isThere_10 rfl ?_
    exact kx_zret F hQ (by omega) ⟨hI_M, hF_M, (by omega)⟩ dX12_isThere_11
  · refine kx_iload_n 7 F 1 dX12_isThere_6 rfl rfl rfl ?_
    refine kx_icmp_eq 10 F 12 dX12_isThere_7 (by decide) rfl (by omega) (by omega) (fun h_7 => ?_) (fun h_7 => ?_)
    · refine kx_aload_n 13 F 0 dX12_isThere_12 rfl rfl rfl ?_
      refine kx_Vv 16 (ci := 0) F (As := []) (st := []) vd_X12_199 (c_X12_ahead G l M  hI_M) kd_163 rfl rfl rfl ⟨by decide, by decide⟩ rfl rfl (Nat.le_of_ble_eq_true rfl) dX12_isThere_13 rfl ?_
      intro N_8 q_9
      obtain ⟨hI_N_8, hG_N_8, q_9c⟩ := q_9
      have hF_N_8 : Fr f_c_X12_isThere M N_8 := Fr.c hF_M hG_N_8 rfl
      have h_10 := Inv.g hI_N_8 kd_163 rfl 12 (a := 0) (b := 4) rfl rfl
      have h_11 := Inv.g hI_N_8 kd_163 rfl 14 (a := 0) (b := 900) rfl rfl
      have h_12 := Inv.g hI_N_8 kd_163 rfl 12 (a := 0) (b := 4) rfl rfl
      have h_13 := Inv.g hI_N_8 kd_163 rfl 14 (a := 0) (b := 900) rfl rfl
      rcases q_9c with q_9c | q_9c
      · refine kx_iconst 17 F dX12_isThere_16 rfl ?_
        exact kx_zret F hQ (by omega) ⟨hI_N_8, hF_N_8, (by omega)⟩ dX12_isThere_17
      · refine kx_iconst 17 F dX12_isThere_16 rfl ?_
        exact kx_zret F hQ (by omega) ⟨hI_N_8, hF_N_8, (by omega)⟩ dX12_isThere_17
    · refine kx_iconst 11 F dX12_isThere_10 rfl ?_
      exact kx_zret F hQ (by omega) ⟨hI_M, hF_M, (by omega)⟩ dX12_isThere_11
theorem dX12_letterHere_0 : decode cX12_letterHere 0 = .ok (.iconst 0, 1) := by decide +kernel
theorem dX12_letterHere_1 : decode cX12_letterHere 1 = .ok (.istore_n 1, 1) := by decide +kernel
theorem dX12_letterHere_2 : decode cX12_letterHere 2 = .ok (.iconst 0, 1) := by decide +kernel
theorem dX12_letterHere_3 : decode cX12_letterHere 3 = .ok (.istore_n 2, 1) := by decide +kernel
theorem dX12_letterHere_4 : decode cX12_letterHere 4 = .ok (.iload_n 2, 1) := by decide +kernel
theorem dX12_letterHere_5 : decode cX12_letterHere 5 = .ok (.iconst 3, 1) := by decide +kernel
theorem dX12_letterHere_6 : decode cX12_letterHere 6 = .ok (.if_icmp .ge 48, 3) := by decide +kernel
theorem dX12_letterHere_9 : decode cX12_letterHere 9 = .ok (.aload_n 0, 1) := by decide +kernel
theorem dX12_letterHere_10 : decode cX12_letterHere 10 = .ok (.getfield 7, 3) := by decide +kernel
theorem dX12_letterHere_13 : decode cX12_letterHere 13 = .ok (.sipush 1088, 3) := by decide +kernel
theorem dX12_letterHere_16 : decode cX12_letterHere 16 = .ok (.iload_n 2, 1) := by decide +kernel
theorem dX12_letterHere_17 : decode cX12_letterHere 17 = .ok (.iadd, 1) := by decide +kernel
theorem dX12_letterHere_18 : decode cX12_letterHere 18 = .ok (.iaload, 1) := by decide +kernel
theorem dX12_letterHere_19 : decode cX12_letterHere 19 = .ok (.istore_n 3, 1) := by decide +kernel
theorem dX12_letterHere_20 : decode cX12_letterHere 20 = .ok (.aload_n 0, 1) := by decide +kernel
theorem dX12_letterHere_21 : decode cX12_letterHere 21 = .ok (.bipush 24, 2) := by decide +kernel
theorem dX12_letterHere_23 : decode cX12_letterHere 23 = .ok (.iconst 2, 1) := by decide +kernel
theorem dX12_letterHere_24 : decode cX12_letterHere 24 = .ok (.iload_n 2, 1) := by decide +kernel
theorem dX12_letterHere_25 : decode cX12_letterHere 25 = .ok (.imul, 1) := by decide +kernel
theorem dX12_letterHere_26 : decode cX12_letterHere 26 = .ok (.iadd, 1) := by decide +kernel
theorem dX12_letterHere_27 : decode cX12_letterHere 27 = .ok (.iload_n 3, 1) := by decide +kernel
theorem dX12_letterHere_28 : decode cX12_letterHere 28 = .ok (.invokevirtual 221, 3) := by decide +kernel
theorem dX12_letterHere_31 : decode cX12_letterHere 31 = .ok (.istore 4, 2) := by decide +kernel
theorem dX12_letterHere_33 : decode cX12_letterHere 33 = .ok (.iload 4, 2) := by decide +kernel
theorem dX12_letterHere_35 : decode cX12_letterHere 35 = .ok (.iconst (-1), 1) := by decide +kernel
theorem dX12_letterHere_36 : decode cX12_letterHere 36 = .ok (.if_icmp .eq 8, 3) := by decide +kernel
theorem dX12_letterHere_39 : decode cX12_letterHere 39 = .ok (.iload_n 1, 1) := by decide +kernel
theorem dX12_letterHere_40 : decode cX12_letterHere 40 = .ok (.iload 4, 2) := by decide +kernel
theorem dX12_letterHere_42 : decode cX12_letterHere 42 = .ok (.iadd, 1) := by decide +kernel
theorem dX12_letterHere_43 : decode cX12_letterHere 43 = .ok (.ireturn, 1) := by decide +kernel
theorem dX12_letterHere_44 : decode cX12_letterHere 44 = .ok (.iload_n 1, 1) := by decide +kernel
theorem dX12_letterHere_45 : decode cX12_letterHere 45 = .ok (.iload_n 3, 1) := by decide +kernel
theorem dX12_letterHere_46 : decode cX12_letterHere 46 = .ok (.iadd, 1) := by decide +kernel
theorem dX12_letterHere_47 : decode cX12_letterHere 47 = .ok (.istore_n 1, 1) := by decide +kernel
theorem dX12_letterHere_48 : decode cX12_letterHere 48 = .ok (.iinc 2 1, 3) := by decide +kernel
theorem dX12_letterHere_51 : decode cX12_letterHere 51 = .ok (.goto (-47), 3) := by decide +kernel
theorem dX12_letterHere_54 : decode cX12_letterHere 54 = .ok (.iconst (-1), 1) := by decide +kernel
theorem dX12_letterHere_55 : decode cX12_letterHere 55 = .ok (.ireturn, 1) := by decide +kernel
set_option maxHeartbeats 4000000 in
set_option maxRecDepth 100000 in
theorem c_X12_letterHere (G : KG) (l : Launch) (M : Mem) (hI_M : Inv true M) : KC true G l yX12_letterHere cX12_letterHere 5 (some .int) (3, 67) [vR G 163] M (fun A => kQi true G A (fun (r : Int) (N : Mem) => M = N ∧ (r ≥ -1 ∧ r ≤ 5))) := by
  refine kx_met (lo := [some (vR G 163), none, none, none, none]) (by decide) (Nat.le_of_ble_eq_true rfl) rfl ?_
  intro X F hQ
  refine kx_iconst 1 F dX12_letterHere_0 rfl ?_
  refine kx_istore_n 2 F 1 (lo' := [some (vR G 163), some (vI 0), none, none, none]) dX12_letterHere_1 rfl (by decide) rfl rfl rfl ?_
  refine kx_iconst 3 F dX12_letterHere_2 rfl ?_
  refine kx_istore_n 4 F 2 (lo' := [some (vR G 163), some (vI 0), some (vI 0), none, none]) dX12_letterHere_3 rfl (by decide) rfl rfl rfl ?_
  have L_43 : ∀ (n_44 : Nat) (x1_41 : Int) (x2_42 : Int), 0 ≤ x1_41 ∧ x1_41 ≤ 6 ∧ 0 ≤ x2_42 ∧ x2_42 ≤ 3 ∧ x1_41 ≤ 2 * x2_42 → (3 - (x2_42)).toNat = n_44 → KJ true G X M 4 [some (vR G 163), some (vI x1_41), some (vI x2_42), none, none] [] := by
    intro n_44
    refine Nat.strongRecOn n_44 ?_
    intro n_44 ih_45 x1_41 x2_42 h_46 hm_47
    refine kx_iload_n 5 F 2 dX12_letterHere_4 rfl rfl rfl ?_
    refine kx_iconst 6 F dX12_letterHere_5 rfl ?_
    refine kx_icmp_ge 9 F 54 dX12_letterHere_6 (by decide) rfl (by omega) (by decide) (fun h_48 => ?_) (fun h_48 => ?_)
    · refine kx_iconst 55 F dX12_letterHere_54 rfl ?_
      exact kx_iret F hQ ⟨rfl, (by omega)⟩ dX12_letterHere_55
    · refine kx_aload_n 10 F 0 dX12_letterHere_9 rfl rfl rfl ?_
      refine kx_getr 13 F fl_X12_7 kd_163 rfl rfl (j := 0) rfl dX12_letterHere_10 (v := 164) (uq_164 (Inv.r hI_M kd_163 rfl 0 rfl rfl)) rfl ?_
      refine kx_sipush 16 F dX12_letterHere_13 (by decide) rfl ?_
      refine kx_iload_n 17 F 2 dX12_letterHere_16 rfl rfl rfl ?_
      refine kx_iadd 18 F (v := x2_42 + 1088) dX12_letterHere_17 (by omega) rfl ?_
      refine kx_iald 19 F kd_164 rfl rfl (by omega) (by decide) dX12_letterHere_18 (v := (M 164 (x2_42 + 1088))) rfl rfl ?_
      have ha_49 : atlo (x2_42 + 1088) = 0 ∧ athi (x2_42 + 1088) = 2 := at_n (x2_42 + 1088) 4 (by omega)
      have h_50 := Inv.g hI_M kd_164 rfl (x2_42 + 1088) (a := 0) (b := 2) ha_49.1 ha_49.2
      refine kx_istore_n 20 F 3 (lo' := [some (vR G 163), some (vI x1_41), some (vI x2_42), some (vI (M 164 (x2_42 + 1088))), none]) dX12_letterHere_19 rfl (by decide) rfl rfl rfl ?_
      refine kx_aload_n 21 F 0 dX12_letterHere_20 rfl rfl rfl ?_
      refine kx_bipush 23 F dX12_letterHere_21 (by decide) rfl ?_
      refine kx_iconst 24 F dX12_letterHere_23 rfl ?_
      refine kx_iload_n 25 F 2 dX12_letterHere_24 rfl rfl rfl ?_
      refine kx_imul 26 F (v := 2 * x2_42) dX12_letterHere_25 (by omega) rfl ?_
      refine kx_iadd 27 F (v := 2 * x2_42 + 24) dX12_letterHere_26 (by omega) rfl ?_
      refine kx_iload_n 28 F 3 dX12_letterHere_27 rfl rfl rfl ?_
      refine kx_Vi 31 (ci := 0) F (As := [vI (2 * x2_42 + 24), vI (M 164 (x2_42 + 1088))]) (st := []) vd_X12_221 (c_X12_findHere G l M (2 * x2_42 + 24) (M 164 (x2_42 + 1088)) hI_M (by omega)) kd_163 rfl rfl rfl ⟨by decide, by decide⟩ rfl rfl (Nat.le_of_ble_eq_true rfl) dX12_letterHere_28 rfl ?_
      intro r_51 N_52 q_53
      obtain ⟨rfl, q_53c⟩ := q_53
      rcases q_53c with q_53c | q_53c
      · refine kx_istore 33 F 4 (lo' := [some (vR G 163), some (vI x1_41), some (vI x2_42), some (vI (M 164 (x2_42 + 1088))), some (vI r_51)]) dX12_letterHere_31 (by decide) rfl rfl rfl ?_
        refine kx_iload 35 F 4 dX12_letterHere_33 rfl rfl ?_
        refine kx_iconst 36 F dX12_letterHere_35 rfl ?_
        refine kx_icmp_eq 39 F 44 dX12_letterHere_36 (by decide) rfl (by omega) (by decide) (fun h_54 => ?_) (fun h_54 => (by exfalso; omega))
        refine kx_iload_n 45 F 1 dX12_letterHere_44 rfl rfl rfl ?_
        refine kx_iload_n 46 F 3 dX12_letterHere_45 rfl rfl rfl ?_
        refine kx_iadd 47 F (v := x1_41 + (M 164 (x2_42 + 1088))) dX12_letterHere_46 rfl rfl ?_
        refine kx_istore_n 48 F 1 (lo' := [some (vR G 163), some (vI (x1_41 + (M 164 (x2_42 + 1088)))), some (vI x2_42), some (vI (M 164 (x2_42 + 1088))), some (vI r_51)]) dX12_letterHere_47 rfl (by decide) rfl rfl rfl ?_
        refine kx_iinc 51 F 2 (v := x2_42 + 1) (lo' := [some (vR G 163), some (vI (x1_41 + (M 164 (x2_42 + 1088)))), some (vI (x2_42 + 1)), some (vI (M 164 (x2_42 + 1088))), some (vI r_51)]) dX12_letterHere_48 rfl (by omega) (by decide) rfl rfl rfl ?_
        refine kx_goto 4 F dX12_letterHere_51 (by decide) ?_
        refine kx_drop 3 (lo' := [some (vR G 163), some (vI (x1_41 + (M 164 (x2_42 + 1088)))), some (vI (x2_42 + 1)), none, some (vI r_51)]) rfl ?_
        refine kx_drop 4 (lo' := [some (vR G 163), some (vI (x1_41 + (M 164 (x2_42 + 1088)))), some (vI (x2_42 + 1)), none, none]) rfl ?_
        exact ih_45 _ (by omega) (x1_41 + (M 164 (x2_42 + 1088))) (x2_42 + 1) (by omega) rfl
      · refine kx_istore 33 F 4 (lo' := [some (vR G 163), some (vI x1_41), some (vI x2_42), some (vI (M 164 (x2_42 + 1088))), some (vI r_51)]) dX12_letterHere_31 (by decide) rfl rfl rfl ?_
        refine kx_iload 35 F 4 dX12_letterHere_33 rfl rfl ?_
        refine kx_iconst 36 F dX12_letterHere_35 rfl ?_
        refine kx_icmp_eq 39 F 44 dX12_letterHere_36 (by decide) rfl (by omega) (by decide) (fun h_55 => (by exfalso; omega)) (fun h_55 => ?_)
        refine kx_iload_n 40 F 1 dX12_letterHere_39 rfl rfl rfl ?_
        refine kx_iload 42 F 4 dX12_letterHere_40 rfl rfl ?_
        refine kx_iadd 43 F (v := x1_41 + r_51) dX12_letterHere_42 rfl rfl ?_
        exact kx_iret F hQ ⟨rfl, (by omega)⟩ dX12_letterHere_43
  exact L_43 _ 0 0 (by omega) rfl
theorem dX12_aLetter_0 : decode cX12_aLetter 0 = .ok (.aload_n 0, 1) := by decide +kernel
theorem dX12_aLetter_1 : decode cX12_aLetter 1 = .ok (.getfield 7, 3) := by decide +kernel
theorem dX12_aLetter_4 : decode cX12_aLetter 4 = .ok (.sipush 1088, 3) := by decide +kernel
theorem dX12_aLetter_7 : decode cX12_aLetter 7 = .ok (.iload_n 1, 1) := by decide +kernel
theorem dX12_aLetter_8 : decode cX12_aLetter 8 = .ok (.iadd, 1) := by decide +kernel
theorem dX12_aLetter_9 : decode cX12_aLetter 9 = .ok (.iaload, 1) := by decide +kernel
theorem dX12_aLetter_10 : decode cX12_aLetter 10 = .ok (.istore_n 2, 1) := by decide +kernel
theorem dX12_aLetter_11 : decode cX12_aLetter 11 = .ok (.aload_n 0, 1) := by decide +kernel
theorem dX12_aLetter_12 : decode cX12_aLetter 12 = .ok (.getfield 7, 3) := by decide +kernel
theorem dX12_aLetter_15 : decode cX12_aLetter 15 = .ok (.sipush 1091, 3) := by decide +kernel
theorem dX12_aLetter_18 : decode cX12_aLetter 18 = .ok (.iaload, 1) := by decide +kernel
theorem dX12_aLetter_19 : decode cX12_aLetter 19 = .ok (.ifCond .le 9, 3) := by decide +kernel
theorem dX12_aLetter_22 : decode cX12_aLetter 22 = .ok (.aload_n 0, 1) := by decide +kernel
theorem dX12_aLetter_23 : decode cX12_aLetter 23 = .ok (.iconst 5, 1) := by decide +kernel
theorem dX12_aLetter_24 : decode cX12_aLetter 24 = .ok (.invokevirtual 205, 3) := by decide +kernel
theorem dX12_aLetter_27 : decode cX12_aLetter 27 = .ok (.ireturn, 1) := by decide +kernel
theorem dX12_aLetter_28 : decode cX12_aLetter 28 = .ok (.iload_n 2, 1) := by decide +kernel
theorem dX12_aLetter_29 : decode cX12_aLetter 29 = .ok (.iconst 2, 1) := by decide +kernel
theorem dX12_aLetter_30 : decode cX12_aLetter 30 = .ok (.if_icmp .ne 10, 3) := by decide +kernel
theorem dX12_aLetter_33 : decode cX12_aLetter 33 = .ok (.aload_n 0, 1) := by decide +kernel
theorem dX12_aLetter_34 : decode cX12_aLetter 34 = .ok (.bipush 6, 2) := by decide +kernel
theorem dX12_aLetter_36 : decode cX12_aLetter 36 = .ok (.invokevirtual 205, 3) := by decide +kernel
theorem dX12_aLetter_39 : decode cX12_aLetter 39 = .ok (.ireturn, 1) := by decide +kernel
theorem dX12_aLetter_40 : decode cX12_aLetter 40 = .ok (.aload_n 0, 1) := by decide +kernel
theorem dX12_aLetter_41 : decode cX12_aLetter 41 = .ok (.invokevirtual 199, 3) := by decide +kernel
theorem dX12_aLetter_44 : decode cX12_aLetter 44 = .ok (.aload_n 0, 1) := by decide +kernel
theorem dX12_aLetter_45 : decode cX12_aLetter 45 = .ok (.ldc 219, 2) := by decide +kernel
theorem dX12_aLetter_47 : decode cX12_aLetter 47 = .ok (.invokevirtual 224, 3) := by decide +kernel
theorem dX12_aLetter_50 : decode cX12_aLetter 50 = .ok (.ifCond .ne 9, 3) := by decide +kernel
theorem dX12_aLetter_53 : decode cX12_aLetter 53 = .ok (.aload_n 0, 1) := by decide +kernel
theorem dX12_aLetter_54 : decode cX12_aLetter 54 = .ok (.iconst 2, 1) := by decide +kernel
theorem dX12_aLetter_55 : decode cX12_aLetter 55 = .ok (.invokevirtual 205, 3) := by decide +kernel
theorem dX12_aLetter_58 : decode cX12_aLetter 58 = .ok (.ireturn, 1) := by decide +kernel
theorem dX12_aLetter_59 : decode cX12_aLetter 59 = .ok (.aload_n 0, 1) := by decide +kernel
theorem dX12_aLetter_60 : decode cX12_aLetter 60 = .ok (.invokevirtual 228, 3) := by decide +kernel
theorem dX12_aLetter_63 : decode cX12_aLetter 63 = .ok (.iconst (-1), 1) := by decide +kernel
theorem dX12_aLetter_64 : decode cX12_aLetter 64 = .ok (.if_icmp .eq 9, 3) := by decide +kernel
theorem dX12_aLetter_67 : decode cX12_aLetter 67 = .ok (.aload_n 0, 1) := by decide +kernel
theorem dX12_aLetter_68 : decode cX12_aLetter 68 = .ok (.iconst 3, 1) := by decide +kernel
theorem dX12_aLetter_69 : decode cX12_aLetter 69 = .ok (.invokevirtual 205, 3) := by decide +kernel
theorem dX12_aLetter_72 : decode cX12_aLetter 72 = .ok (.ireturn, 1) := by decide +kernel
theorem dX12_aLetter_73 : decode cX12_aLetter 73 = .ok (.aload_n 0, 1) := by decide +kernel
theorem dX12_aLetter_74 : decode cX12_aLetter 74 = .ok (.getfield 13, 3) := by decide +kernel
theorem dX12_aLetter_77 : decode cX12_aLetter 77 = .ok (.bipush 24, 2) := by decide +kernel
theorem dX12_aLetter_79 : decode cX12_aLetter 79 = .ok (.iconst 2, 1) := by decide +kernel
theorem dX12_aLetter_80 : decode cX12_aLetter 80 = .ok (.iload_n 1, 1) := by decide +kernel
theorem dX12_aLetter_81 : decode cX12_aLetter 81 = .ok (.imul, 1) := by decide +kernel
theorem dX12_aLetter_82 : decode cX12_aLetter 82 = .ok (.iadd, 1) := by decide +kernel
theorem dX12_aLetter_83 : decode cX12_aLetter 83 = .ok (.iload_n 2, 1) := by decide +kernel
theorem dX12_aLetter_84 : decode cX12_aLetter 84 = .ok (.iadd, 1) := by decide +kernel
theorem dX12_aLetter_85 : decode cX12_aLetter 85 = .ok (.aload_n 0, 1) := by decide +kernel
theorem dX12_aLetter_86 : decode cX12_aLetter 86 = .ok (.invokevirtual 212, 3) := by decide +kernel
theorem dX12_aLetter_89 : decode cX12_aLetter 89 = .ok (.lastore, 1) := by decide +kernel
theorem dX12_aLetter_90 : decode cX12_aLetter 90 = .ok (.aload_n 0, 1) := by decide +kernel
theorem dX12_aLetter_91 : decode cX12_aLetter 91 = .ok (.getfield 7, 3) := by decide +kernel
theorem dX12_aLetter_94 : decode cX12_aLetter 94 = .ok (.sipush 1088, 3) := by decide +kernel
theorem dX12_aLetter_97 : decode cX12_aLetter 97 = .ok (.iload_n 1, 1) := by decide +kernel
theorem dX12_aLetter_98 : decode cX12_aLetter 98 = .ok (.iadd, 1) := by decide +kernel
theorem dX12_aLetter_99 : decode cX12_aLetter 99 = .ok (.dup2, 1) := by decide +kernel
theorem dX12_aLetter_100 : decode cX12_aLetter 100 = .ok (.iaload, 1) := by decide +kernel
theorem dX12_aLetter_101 : decode cX12_aLetter 101 = .ok (.iconst 1, 1) := by decide +kernel
theorem dX12_aLetter_102 : decode cX12_aLetter 102 = .ok (.iadd, 1) := by decide +kernel
theorem dX12_aLetter_103 : decode cX12_aLetter 103 = .ok (.iastore, 1) := by decide +kernel
theorem dX12_aLetter_104 : decode cX12_aLetter 104 = .ok (.aload_n 0, 1) := by decide +kernel
theorem dX12_aLetter_105 : decode cX12_aLetter 105 = .ok (.invokevirtual 199, 3) := by decide +kernel
theorem dX12_aLetter_108 : decode cX12_aLetter 108 = .ok (.iconst 1, 1) := by decide +kernel
theorem dX12_aLetter_109 : decode cX12_aLetter 109 = .ok (.ireturn, 1) := by decide +kernel
abbrev f_c_X12_aLetter : List (Nat × Int) := [(64, 12), (64, 13), (64, 14), (64, 15), (64, 17), (64, 18), (65, -1), (66, -1)]
set_option maxHeartbeats 4000000 in
set_option maxRecDepth 100000 in
theorem c_X12_aLetter (G : KG) (l : Launch) (M : Mem) (a1 : Int) (hI_M : Inv true M) (hpre : -2147483648 ≤ a1 ∧ a1 ≤ 2147483647 ∧ 0 ≤ a1 ∧ a1 ≤ 2) (hR : R4 M) : KC true G l yX12_aLetter cX12_aLetter 3 (some .boolean) (6, 132) [vR G 163, vI a1] M (fun A => kQi true G A (fun (r : Int) (N : Mem) => Inv true N ∧ Fr f_c_X12_aLetter M N ∧ ((r = 1 ∧ 5 * (N 163 14) - (N 163 12) ≥ 5 * (M 163 14) - (M 163 12) + 1) ∨ (r = 0 ∧ 5 * (N 163 14) - (N 163 12) ≥ 5 * (M 163 14) - (M 163 12) ∧ (N 163 18) ≠ 0)) ∧ (LO N M ∧ (r = 1 → R4 N)))) := by
  refine kx_met (lo := [some (vR G 163), some (vI a1), none]) (by decide) (Nat.le_of_ble_eq_true rfl) rfl ?_
  intro X F hQ
  have hF_M : Fr f_c_X12_aLetter M M := Fr.rf _ _
  have h_1 := Inv.g hI_M kd_163 rfl 14 (a := 0) (b := 900) rfl rfl
  have h_2 := Inv.g hI_M kd_163 rfl 12 (a := 0) (b := 4) rfl rfl
  refine kx_aload_n 1 F 0 dX12_aLetter_0 rfl rfl rfl ?_
  refine kx_getr 4 F fl_X12_7 kd_163 rfl rfl (j := 0) rfl dX12_aLetter_1 (v := 164) (uq_164 (Inv.r hI_M kd_163 rfl 0 rfl rfl)) rfl ?_
  refine kx_sipush 7 F dX12_aLetter_4 (by decide) rfl ?_
  refine kx_iload_n 8 F 1 dX12_aLetter_7 rfl rfl rfl ?_
  refine kx_iadd 9 F (v := a1 + 1088) dX12_aLetter_8 (by omega) rfl ?_
  refine kx_iald 10 F kd_164 rfl rfl (by omega) (by decide) dX12_aLetter_9 (v := (M 164 (a1 + 1088))) rfl rfl ?_
  have ha_3 : atlo (a1 + 1088) = 0 ∧ athi (a1 + 1088) = 2 := at_n (a1 + 1088) 4 (by omega)
  have h_4 := Inv.g hI_M kd_164 rfl (a1 + 1088) (a := 0) (b := 2) ha_3.1 ha_3.2
  refine kx_istore_n 11 F 2 (lo' := [some (vR G 163), some (vI a1), some (vI (M 164 (a1 + 1088)))]) dX12_aLetter_10 rfl (by decide) rfl rfl rfl ?_
  refine kx_aload_n 12 F 0 dX12_aLetter_11 rfl rfl rfl ?_
  refine kx_getr 15 F fl_X12_7 kd_163 rfl rfl (j := 0) rfl dX12_aLetter_12 (v := 164) (uq_164 (Inv.r hI_M kd_163 rfl 0 rfl rfl)) rfl ?_
  refine kx_sipush 18 F dX12_aLetter_15 (by decide) rfl ?_
  refine kx_iald 19 F kd_164 rfl rfl (by omega) (by decide) dX12_aLetter_18 (v := (M 164 1091)) rfl rfl ?_
  have ha_5 : atlo 1091 = 0 ∧ athi 1091 = 2 := at_c 1091 4 (o := 3) (lo := 0) (hi := 2) (by omega) (by decide) (by decide) (by decide)
  have h_6 := Inv.g hI_M kd_164 rfl 1091 (a := 0) (b := 2) ha_5.1 ha_5.2
  refine kx_if_le 22 F 28 dX12_aLetter_19 (by decide) rfl (by omega) (fun h_7 => ?_) (fun h_7 => ?_)
  · refine kx_iload_n 29 F 2 dX12_aLetter_28 rfl rfl rfl ?_
    refine kx_iconst 30 F dX12_aLetter_29 rfl ?_
    refine kx_icmp_ne 33 F 40 dX12_aLetter_30 (by decide) rfl (by omega) (by decide) (fun h_8 => ?_) (fun h_8 => ?_)
    · refine kx_aload_n 41 F 0 dX12_aLetter_40 rfl rfl rfl ?_
      refine kx_Vv 44 (ci := 0) F (As := []) (st := []) vd_X12_199 (c_X12_ahead G l M  hI_M) kd_163 rfl rfl rfl ⟨by decide, by decide⟩ rfl rfl (Nat.le_of_ble_eq_true rfl) dX12_aLetter_41 rfl ?_
      intro N_9 q_10
      obtain ⟨hI_N_9, hG_N_9, q_10c⟩ := q_10
      have hF_N_9 : Fr f_c_X12_aLetter M N_9 := Fr.c hF_M hG_N_9 rfl
      have h_11 := Inv.g hI_N_9 kd_163 rfl 12 (a := 0) (b := 4) rfl rfl
      have h_12 := Inv.g hI_N_9 kd_163 rfl 14 (a := 0) (b := 900) rfl rfl
      have h_13 := Inv.g hI_N_9 kd_163 rfl 12 (a := 0) (b := 4) rfl rfl
      have h_14 := Inv.g hI_N_9 kd_163 rfl 14 (a := 0) (b := 900) rfl rfl
      rcases q_10c with q_10c | q_10c
      · refine kx_aload_n 45 F 0 dX12_aLetter_44 rfl rfl rfl ?_
        refine kx_ldcS 47 F 11 (by decide) rfl rfl dX12_aLetter_45 rfl ?_
        refine kx_Vi 50 (ci := 0) F (As := [vT G 11]) (st := []) vd_X12_224 (c_X12_isName G l N_9  hI_N_9) kd_163 rfl rfl rfl ⟨by decide, by decide⟩ rfl rfl (Nat.le_of_ble_eq_true rfl) dX12_aLetter_47 rfl ?_
        intro r_15 N_16 q_17
        obtain ⟨rfl, q_17c⟩ := q_17
        rcases q_17c with q_17c | q_17c
        · exfalso; omega
        · refine kx_if_ne 53 F 59 dX12_aLetter_50 (by decide) rfl (by omega) (fun h_18 => (by exfalso; omega)) (fun h_18 => ?_)
          refine kx_aload_n 54 F 0 dX12_aLetter_53 rfl rfl rfl ?_
          refine kx_iconst 55 F dX12_aLetter_54 rfl ?_
          refine kx_Vi 58 (ci := 0) F (As := [vI 2]) (st := []) vd_X12_205 (c_X12_fails G l N_9 2 hI_N_9 (by omega)) kd_163 rfl rfl rfl ⟨by decide, by decide⟩ rfl rfl (Nat.le_of_ble_eq_true rfl) dX12_aLetter_55 rfl ?_
          intro r_19 N_20 q_21
          obtain ⟨hI_N_20, hG_N_20, q_21c⟩ := q_21
          have hF_N_20 : Fr f_c_X12_aLetter M N_20 := Fr.c hF_N_9 hG_N_20 rfl
          have h_22 := Inv.g hI_N_20 kd_163 rfl 18 (a := (-2147483648)) (b := 2147483647) rfl rfl
          have e_23 : (N_20 163 14) = (N_9 163 14) := by rw [Fr.e hG_N_20 kd_163 _ rfl]
          have e_24 : (N_20 163 12) = (N_9 163 12) := by rw [Fr.e hG_N_20 kd_163 _ rfl]
          have e_25 : (N_20 163 14) = (N_9 163 14) := by rw [Fr.e hG_N_20 kd_163 _ rfl]
          have e_26 : (N_20 163 12) = (N_9 163 12) := by rw [Fr.e hG_N_20 kd_163 _ rfl]
          exact kx_zret F hQ (by omega) ⟨hI_N_20, hF_N_20, (by omega), ⟨(LO.fr (LO.fr (LO.rf M) hG_N_9 rfl) hG_N_20 rfl), (fun h => absurd h (by omega))⟩⟩ dX12_aLetter_58
      · refine kx_aload_n 45 F 0 dX12_aLetter_44 rfl rfl rfl ?_
        refine kx_ldcS 47 F 11 (by decide) rfl rfl dX12_aLetter_45 rfl ?_
        refine kx_Vi 50 (ci := 0) F (As := [vT G 11]) (st := []) vd_X12_224 (c_X12_isName G l N_9  hI_N_9) kd_163 rfl rfl rfl ⟨by decide, by decide⟩ rfl rfl (Nat.le_of_ble_eq_true rfl) dX12_aLetter_47 rfl ?_
        intro r_27 N_28 q_29
        obtain ⟨rfl, q_29c⟩ := q_29
        rcases q_29c with q_29c | q_29c
        · refine kx_if_ne 53 F 59 dX12_aLetter_50 (by decide) rfl (by omega) (fun h_30 => ?_) (fun h_30 => (by exfalso; omega))
          refine kx_aload_n 60 F 0 dX12_aLetter_59 rfl rfl rfl ?_
          refine kx_Vi 63 (ci := 0) F (As := []) (st := []) vd_X12_228 (c_X12_letterHere G l N_9  hI_N_9) kd_163 rfl rfl rfl ⟨by decide, by decide⟩ rfl rfl (Nat.le_of_ble_eq_true rfl) dX12_aLetter_60 rfl ?_
          intro r_31 N_32 q_33
          obtain ⟨rfl, q_33c⟩ := q_33
          refine kx_iconst 64 F dX12_aLetter_63 rfl ?_
          refine kx_icmp_eq 67 F 73 dX12_aLetter_64 (by decide) rfl (by omega) (by decide) (fun h_34 => ?_) (fun h_34 => ?_)
          · refine kx_aload_n 74 F 0 dX12_aLetter_73 rfl rfl rfl ?_
            refine kx_getr 77 F fl_X12_13 kd_163 rfl rfl (j := 1) rfl dX12_aLetter_74 (v := 165) (uq_165 (Inv.r hI_N_9 kd_163 rfl 1 rfl rfl)) rfl ?_
            refine kx_bipush 79 F dX12_aLetter_77 (by decide) rfl ?_
            refine kx_iconst 80 F dX12_aLetter_79 rfl ?_
            refine kx_iload_n 81 F 1 dX12_aLetter_80 rfl rfl rfl ?_
            refine kx_imul 82 F (v := 2 * a1) dX12_aLetter_81 (by omega) rfl ?_
            refine kx_iadd 83 F (v := 2 * a1 + 24) dX12_aLetter_82 (by omega) rfl ?_
            refine kx_iload_n 84 F 2 dX12_aLetter_83 rfl rfl rfl ?_
            refine kx_iadd 85 F (v := 2 * a1 + (M 164 (a1 + 1088)) + 24) dX12_aLetter_84 (by omega) rfl ?_
            refine kx_aload_n 86 F 0 dX12_aLetter_85 rfl rfl rfl ?_
            refine kx_Vl 89 (ci := 0) F (As := []) (st := [vI (2 * a1 + (M 164 (a1 + 1088)) + 24), vR G 165]) vd_X12_212 (c_X12_nameHere G l N_9  hI_N_9) kd_163 rfl rfl rfl ⟨by decide, by decide⟩ rfl rfl (Nat.le_of_ble_eq_true rfl) dX12_aLetter_86 rfl ?_
            intro r_35 N_36 q_37
            obtain ⟨rfl, q_37c⟩ := q_37
            refine kx_last 90 F kd_165 rfl rfl (by omega) (by decide) dX12_aLetter_89 rfl ?_
            intro N_38 hM_N_38
            have hI_N_38 : Inv true N_38 := Inv.u hI_N_9 hM_N_38 kd_165 (a := (-9223372036854775808)) (b := 9223372036854775807) rfl rfl rfl (by omega)
            have hF_N_38 : Fr f_c_X12_aLetter M N_38 := Fr.u hF_N_9 hM_N_38 kd_165 rfl
            refine kx_aload_n 91 F 0 dX12_aLetter_90 rfl rfl rfl ?_
            refine kx_getr 94 F fl_X12_7 kd_163 rfl rfl (j := 0) rfl dX12_aLetter_91 (v := 164) (uq_164 (Inv.r hI_N_38 kd_163 rfl 0 rfl rfl)) rfl ?_
            refine kx_sipush 97 F dX12_aLetter_94 (by decide) rfl ?_
            refine kx_iload_n 98 F 1 dX12_aLetter_97 rfl rfl rfl ?_
            refine kx_iadd 99 F (v := a1 + 1088) dX12_aLetter_98 (by omega) rfl ?_
            refine kx_dup2 100 F dX12_aLetter_99 rfl rfl rfl ?_
            refine kx_iald 101 F kd_164 rfl rfl (by omega) (by decide) dX12_aLetter_100 (v := (M 164 (a1 + 1088))) (by rw [hM_N_38, mu_k kd_164 kd_165 rfl, Fr.e hG_N_9 kd_164 _ rfl]) rfl ?_
            refine kx_iconst 102 F dX12_aLetter_101 rfl ?_
            refine kx_iadd 103 F (v := (M 164 (a1 + 1088)) + 1) dX12_aLetter_102 rfl rfl ?_
            refine kx_iast 104 F kd_164 rfl rfl (by omega) (by decide) dX12_aLetter_103 rfl ?_
            intro N_39 hM_N_39
            have hI_N_39 : Inv true N_39 := Inv.u hI_N_38 hM_N_39 kd_164 (a := 0) (b := 2) ha_3.1 ha_3.2 rfl (by omega)
            have hF_N_39 : Fr f_c_X12_aLetter M N_39 := Fr.u hF_N_38 hM_N_39 kd_164 rfl
            refine kx_aload_n 105 F 0 dX12_aLetter_104 rfl rfl rfl ?_
            refine kx_Vv 108 (ci := 0) F (As := []) (st := []) vd_X12_199 (c_X12_ahead G l N_39  hI_N_39) kd_163 rfl rfl rfl ⟨by decide, by decide⟩ rfl rfl (Nat.le_of_ble_eq_true rfl) dX12_aLetter_105 rfl ?_
            intro N_40 q_41
            obtain ⟨hI_N_40, hG_N_40, q_41c⟩ := q_41
            have hF_N_40 : Fr f_c_X12_aLetter M N_40 := Fr.c hF_N_39 hG_N_40 rfl
            have h_42 := Inv.g hI_N_40 kd_163 rfl 12 (a := 0) (b := 4) rfl rfl
            have e_43 : (N_39 163 14) = (N_9 163 14) := by rw [hM_N_39, mu_k kd_163 kd_164 rfl, hM_N_38, mu_k kd_163 kd_165 rfl]
            have h_44 := Inv.g hI_N_40 kd_163 rfl 14 (a := 0) (b := 900) rfl rfl
            have h_45 := Inv.g hI_N_40 kd_163 rfl 12 (a := 0) (b := 4) rfl rfl
            have e_46 : (N_39 163 14) = (N_9 163 14) := by rw [hM_N_39, mu_k kd_163 kd_164 rfl, hM_N_38, mu_k kd_163 kd_165 rfl]
            have h_47 := Inv.g hI_N_40 kd_163 rfl 14 (a := 0) (b := 900) rfl rfl
            rcases q_41c with q_41c | q_41c
            · refine kx_iconst 109 F dX12_aLetter_108 rfl ?_
              have e_48 : (N_40 163 18) = (M 163 18) := by rw [Fr.e hG_N_40 kd_163 _ rfl, hM_N_39, mu_k kd_163 kd_164 rfl, hM_N_38, mu_k kd_163 kd_165 rfl, Fr.e hG_N_9 kd_163 _ rfl]
              have h_49 := Inv.g hI_M kd_163 rfl 18 (a := (-2147483648)) (b := 2147483647) rfl rfl
              exact kx_zret F hQ (by omega) ⟨hI_N_40, hF_N_40, (by omega), ⟨(LO.fr (LO.sta (LO.st (LO.fr (LO.rf M) hG_N_9 rfl) hM_N_38 kd_165 rfl) hM_N_39 (by omega)) hG_N_40 rfl), (fun _ => (R4.fr (R4.sta (R4.st (R4.fr hR hG_N_9 rfl) hM_N_38 kd_165 rfl) hI_N_38 hM_N_39 (by omega)) hG_N_40 rfl))⟩⟩ dX12_aLetter_109
            · refine kx_iconst 109 F dX12_aLetter_108 rfl ?_
              have e_50 : (N_40 163 18) = (M 163 18) := by rw [Fr.e hG_N_40 kd_163 _ rfl, hM_N_39, mu_k kd_163 kd_164 rfl, hM_N_38, mu_k kd_163 kd_165 rfl, Fr.e hG_N_9 kd_163 _ rfl]
              have h_51 := Inv.g hI_M kd_163 rfl 18 (a := (-2147483648)) (b := 2147483647) rfl rfl
              exact kx_zret F hQ (by omega) ⟨hI_N_40, hF_N_40, (by omega), ⟨(LO.fr (LO.sta (LO.st (LO.fr (LO.rf M) hG_N_9 rfl) hM_N_38 kd_165 rfl) hM_N_39 (by omega)) hG_N_40 rfl), (fun _ => (R4.fr (R4.sta (R4.st (R4.fr hR hG_N_9 rfl) hM_N_38 kd_165 rfl) hI_N_38 hM_N_39 (by omega)) hG_N_40 rfl))⟩⟩ dX12_aLetter_109
          · refine kx_aload_n 68 F 0 dX12_aLetter_67 rfl rfl rfl ?_
            refine kx_iconst 69 F dX12_aLetter_68 rfl ?_
            refine kx_Vi 72 (ci := 0) F (As := [vI 3]) (st := []) vd_X12_205 (c_X12_fails G l N_9 3 hI_N_9 (by omega)) kd_163 rfl rfl rfl ⟨by decide, by decide⟩ rfl rfl (Nat.le_of_ble_eq_true rfl) dX12_aLetter_69 rfl ?_
            intro r_52 N_53 q_54
            obtain ⟨hI_N_53, hG_N_53, q_54c⟩ := q_54
            have hF_N_53 : Fr f_c_X12_aLetter M N_53 := Fr.c hF_N_9 hG_N_53 rfl
            have h_55 := Inv.g hI_N_53 kd_163 rfl 18 (a := (-2147483648)) (b := 2147483647) rfl rfl
            have e_56 : (N_53 163 14) = (N_9 163 14) := by rw [Fr.e hG_N_53 kd_163 _ rfl]
            have e_57 : (N_53 163 12) = (N_9 163 12) := by rw [Fr.e hG_N_53 kd_163 _ rfl]
            have e_58 : (N_53 163 14) = (N_9 163 14) := by rw [Fr.e hG_N_53 kd_163 _ rfl]
            have e_59 : (N_53 163 12) = (N_9 163 12) := by rw [Fr.e hG_N_53 kd_163 _ rfl]
            exact kx_zret F hQ (by omega) ⟨hI_N_53, hF_N_53, (by omega), ⟨(LO.fr (LO.fr (LO.rf M) hG_N_9 rfl) hG_N_53 rfl), (fun h => absurd h (by omega))⟩⟩ dX12_aLetter_72
        · refine kx_if_ne 53 F 59 dX12_aLetter_50 (by decide) rfl (by omega) (fun h_60 => (by exfalso; omega)) (fun h_60 => ?_)
          refine kx_aload_n 54 F 0 dX12_aLetter_53 rfl rfl rfl ?_
          refine kx_iconst 55 F dX12_aLetter_54 rfl ?_
          refine kx_Vi 58 (ci := 0) F (As := [vI 2]) (st := []) vd_X12_205 (c_X12_fails G l N_9 2 hI_N_9 (by omega)) kd_163 rfl rfl rfl ⟨by decide, by decide⟩ rfl rfl (Nat.le_of_ble_eq_true rfl) dX12_aLetter_55 rfl ?_
          intro r_61 N_62 q_63
          obtain ⟨hI_N_62, hG_N_62, q_63c⟩ := q_63
          have hF_N_62 : Fr f_c_X12_aLetter M N_62 := Fr.c hF_N_9 hG_N_62 rfl
          have h_64 := Inv.g hI_N_62 kd_163 rfl 18 (a := (-2147483648)) (b := 2147483647) rfl rfl
          have e_65 : (N_62 163 14) = (N_9 163 14) := by rw [Fr.e hG_N_62 kd_163 _ rfl]
          have e_66 : (N_62 163 12) = (N_9 163 12) := by rw [Fr.e hG_N_62 kd_163 _ rfl]
          have e_67 : (N_62 163 14) = (N_9 163 14) := by rw [Fr.e hG_N_62 kd_163 _ rfl]
          have e_68 : (N_62 163 12) = (N_9 163 12) := by rw [Fr.e hG_N_62 kd_163 _ rfl]
          exact kx_zret F hQ (by omega) ⟨hI_N_62, hF_N_62, (by omega), ⟨(LO.fr (LO.fr (LO.rf M) hG_N_9 rfl) hG_N_62 rfl), (fun h => absurd h (by omega))⟩⟩ dX12_aLetter_58
    · refine kx_aload_n 34 F 0 dX12_aLetter_33 rfl rfl rfl ?_
      refine kx_bipush 36 F dX12_aLetter_34 (by decide) rfl ?_
      refine kx_Vi 39 (ci := 0) F (As := [vI 6]) (st := []) vd_X12_205 (c_X12_fails G l M 6 hI_M (by omega)) kd_163 rfl rfl rfl ⟨by decide, by decide⟩ rfl rfl (Nat.le_of_ble_eq_true rfl) dX12_aLetter_36 rfl ?_
      intro r_69 N_70 q_71
      obtain ⟨hI_N_70, hG_N_70, q_71c⟩ := q_71
      have hF_N_70 : Fr f_c_X12_aLetter M N_70 := Fr.c hF_M hG_N_70 rfl
      have h_72 := Inv.g hI_N_70 kd_163 rfl 18 (a := (-2147483648)) (b := 2147483647) rfl rfl
      have e_73 : (N_70 163 14) = (M 163 14) := by rw [Fr.e hG_N_70 kd_163 _ rfl]
      have e_74 : (N_70 163 12) = (M 163 12) := by rw [Fr.e hG_N_70 kd_163 _ rfl]
      have e_75 : (N_70 163 14) = (M 163 14) := by rw [Fr.e hG_N_70 kd_163 _ rfl]
      have e_76 : (N_70 163 12) = (M 163 12) := by rw [Fr.e hG_N_70 kd_163 _ rfl]
      exact kx_zret F hQ (by omega) ⟨hI_N_70, hF_N_70, (by omega), ⟨(LO.fr (LO.rf M) hG_N_70 rfl), (fun h => absurd h (by omega))⟩⟩ dX12_aLetter_39
  · refine kx_aload_n 23 F 0 dX12_aLetter_22 rfl rfl rfl ?_
    refine kx_iconst 24 F dX12_aLetter_23 rfl ?_
    refine kx_Vi 27 (ci := 0) F (As := [vI 5]) (st := []) vd_X12_205 (c_X12_fails G l M 5 hI_M (by omega)) kd_163 rfl rfl rfl ⟨by decide, by decide⟩ rfl rfl (Nat.le_of_ble_eq_true rfl) dX12_aLetter_24 rfl ?_
    intro r_77 N_78 q_79
    obtain ⟨hI_N_78, hG_N_78, q_79c⟩ := q_79
    have hF_N_78 : Fr f_c_X12_aLetter M N_78 := Fr.c hF_M hG_N_78 rfl
    have h_80 := Inv.g hI_N_78 kd_163 rfl 18 (a := (-2147483648)) (b := 2147483647) rfl rfl
    have e_81 : (N_78 163 14) = (M 163 14) := by rw [Fr.e hG_N_78 kd_163 _ rfl]
    have e_82 : (N_78 163 12) = (M 163 12) := by rw [Fr.e hG_N_78 kd_163 _ rfl]
    have e_83 : (N_78 163 14) = (M 163 14) := by rw [Fr.e hG_N_78 kd_163 _ rfl]
    have e_84 : (N_78 163 12) = (M 163 12) := by rw [Fr.e hG_N_78 kd_163 _ rfl]
    exact kx_zret F hQ (by omega) ⟨hI_N_78, hF_N_78, (by omega), ⟨(LO.fr (LO.rf M) hG_N_78 rfl), (fun h => absurd h (by omega))⟩⟩ dX12_aLetter_27
theorem dX12_anAutomaton_0 : decode cX12_anAutomaton 0 = .ok (.aload_n 0, 1) := by decide +kernel
theorem dX12_anAutomaton_1 : decode cX12_anAutomaton 1 = .ok (.getfield 7, 3) := by decide +kernel
theorem dX12_anAutomaton_4 : decode cX12_anAutomaton 4 = .ok (.sipush 1091, 3) := by decide +kernel
theorem dX12_anAutomaton_7 : decode cX12_anAutomaton 7 = .ok (.iaload, 1) := by decide +kernel
theorem dX12_anAutomaton_8 : decode cX12_anAutomaton 8 = .ok (.istore_n 1, 1) := by decide +kernel
theorem dX12_anAutomaton_9 : decode cX12_anAutomaton 9 = .ok (.iload_n 1, 1) := by decide +kernel
theorem dX12_anAutomaton_10 : decode cX12_anAutomaton 10 = .ok (.iconst 2, 1) := by decide +kernel
theorem dX12_anAutomaton_11 : decode cX12_anAutomaton 11 = .ok (.if_icmp .ne 10, 3) := by decide +kernel
theorem dX12_anAutomaton_14 : decode cX12_anAutomaton 14 = .ok (.aload_n 0, 1) := by decide +kernel
theorem dX12_anAutomaton_15 : decode cX12_anAutomaton 15 = .ok (.bipush 6, 2) := by decide +kernel
theorem dX12_anAutomaton_17 : decode cX12_anAutomaton 17 = .ok (.invokevirtual 205, 3) := by decide +kernel
theorem dX12_anAutomaton_20 : decode cX12_anAutomaton 20 = .ok (.ireturn, 1) := by decide +kernel
theorem dX12_anAutomaton_21 : decode cX12_anAutomaton 21 = .ok (.sipush 1088, 3) := by decide +kernel
theorem dX12_anAutomaton_24 : decode cX12_anAutomaton 24 = .ok (.iload_n 1, 1) := by decide +kernel
theorem dX12_anAutomaton_25 : decode cX12_anAutomaton 25 = .ok (.invokestatic 216, 3) := by decide +kernel
theorem dX12_anAutomaton_28 : decode cX12_anAutomaton 28 = .ok (.istore_n 2, 1) := by decide +kernel
theorem dX12_anAutomaton_29 : decode cX12_anAutomaton 29 = .ok (.aload_n 0, 1) := by decide +kernel
theorem dX12_anAutomaton_30 : decode cX12_anAutomaton 30 = .ok (.invokevirtual 199, 3) := by decide +kernel
theorem dX12_anAutomaton_33 : decode cX12_anAutomaton 33 = .ok (.aload_n 0, 1) := by decide +kernel
theorem dX12_anAutomaton_34 : decode cX12_anAutomaton 34 = .ok (.iload_n 2, 1) := by decide +kernel
theorem dX12_anAutomaton_35 : decode cX12_anAutomaton 35 = .ok (.iconst 1, 1) := by decide +kernel
theorem dX12_anAutomaton_36 : decode cX12_anAutomaton 36 = .ok (.iconst 3, 1) := by decide +kernel
theorem dX12_anAutomaton_37 : decode cX12_anAutomaton 37 = .ok (.invokevirtual 231, 3) := by decide +kernel
theorem dX12_anAutomaton_40 : decode cX12_anAutomaton 40 = .ok (.ifCond .eq 26, 3) := by decide +kernel
theorem dX12_anAutomaton_43 : decode cX12_anAutomaton 43 = .ok (.aload_n 0, 1) := by decide +kernel
theorem dX12_anAutomaton_44 : decode cX12_anAutomaton 44 = .ok (.ldc 219, 2) := by decide +kernel
theorem dX12_anAutomaton_46 : decode cX12_anAutomaton 46 = .ok (.bipush 7, 2) := by decide +kernel
theorem dX12_anAutomaton_48 : decode cX12_anAutomaton 48 = .ok (.invokevirtual 235, 3) := by decide +kernel
theorem dX12_anAutomaton_51 : decode cX12_anAutomaton 51 = .ok (.ifCond .eq 15, 3) := by decide +kernel
theorem dX12_anAutomaton_54 : decode cX12_anAutomaton 54 = .ok (.aload_n 0, 1) := by decide +kernel
theorem dX12_anAutomaton_55 : decode cX12_anAutomaton 55 = .ok (.iload_n 2, 1) := by decide +kernel
theorem dX12_anAutomaton_56 : decode cX12_anAutomaton 56 = .ok (.iconst 1, 1) := by decide +kernel
theorem dX12_anAutomaton_57 : decode cX12_anAutomaton 57 = .ok (.iadd, 1) := by decide +kernel
theorem dX12_anAutomaton_58 : decode cX12_anAutomaton 58 = .ok (.iconst 1, 1) := by decide +kernel
theorem dX12_anAutomaton_59 : decode cX12_anAutomaton 59 = .ok (.iconst 3, 1) := by decide +kernel
theorem dX12_anAutomaton_60 : decode cX12_anAutomaton 60 = .ok (.invokevirtual 231, 3) := by decide +kernel
theorem dX12_anAutomaton_63 : decode cX12_anAutomaton 63 = .ok (.ifCond .ne 5, 3) := by decide +kernel
theorem dX12_anAutomaton_66 : decode cX12_anAutomaton 66 = .ok (.iconst 0, 1) := by decide +kernel
theorem dX12_anAutomaton_67 : decode cX12_anAutomaton 67 = .ok (.ireturn, 1) := by decide +kernel
theorem dX12_anAutomaton_68 : decode cX12_anAutomaton 68 = .ok (.aload_n 0, 1) := by decide +kernel
theorem dX12_anAutomaton_69 : decode cX12_anAutomaton 69 = .ok (.getfield 7, 3) := by decide +kernel
theorem dX12_anAutomaton_72 : decode cX12_anAutomaton 72 = .ok (.iload_n 2, 1) := by decide +kernel
theorem dX12_anAutomaton_73 : decode cX12_anAutomaton 73 = .ok (.iconst 2, 1) := by decide +kernel
theorem dX12_anAutomaton_74 : decode cX12_anAutomaton 74 = .ok (.iadd, 1) := by decide +kernel
theorem dX12_anAutomaton_75 : decode cX12_anAutomaton 75 = .ok (.iconst 0, 1) := by decide +kernel
theorem dX12_anAutomaton_76 : decode cX12_anAutomaton 76 = .ok (.iastore, 1) := by decide +kernel
theorem dX12_anAutomaton_77 : decode cX12_anAutomaton 77 = .ok (.aload_n 0, 1) := by decide +kernel
theorem dX12_anAutomaton_78 : decode cX12_anAutomaton 78 = .ok (.getfield 7, 3) := by decide +kernel
theorem dX12_anAutomaton_81 : decode cX12_anAutomaton 81 = .ok (.iload_n 2, 1) := by decide +kernel
theorem dX12_anAutomaton_82 : decode cX12_anAutomaton 82 = .ok (.iconst 3, 1) := by decide +kernel
theorem dX12_anAutomaton_83 : decode cX12_anAutomaton 83 = .ok (.iadd, 1) := by decide +kernel
theorem dX12_anAutomaton_84 : decode cX12_anAutomaton 84 = .ok (.iconst 0, 1) := by decide +kernel
theorem dX12_anAutomaton_85 : decode cX12_anAutomaton 85 = .ok (.iastore, 1) := by decide +kernel
theorem dX12_anAutomaton_86 : decode cX12_anAutomaton 86 = .ok (.aload_n 0, 1) := by decide +kernel
theorem dX12_anAutomaton_87 : decode cX12_anAutomaton 87 = .ok (.getfield 7, 3) := by decide +kernel
theorem dX12_anAutomaton_90 : decode cX12_anAutomaton 90 = .ok (.iload_n 2, 1) := by decide +kernel
theorem dX12_anAutomaton_91 : decode cX12_anAutomaton 91 = .ok (.iconst 4, 1) := by decide +kernel
theorem dX12_anAutomaton_92 : decode cX12_anAutomaton 92 = .ok (.iadd, 1) := by decide +kernel
theorem dX12_anAutomaton_93 : decode cX12_anAutomaton 93 = .ok (.iconst 0, 1) := by decide +kernel
theorem dX12_anAutomaton_94 : decode cX12_anAutomaton 94 = .ok (.iastore, 1) := by decide +kernel
theorem dX12_anAutomaton_95 : decode cX12_anAutomaton 95 = .ok (.aload_n 0, 1) := by decide +kernel
theorem dX12_anAutomaton_96 : decode cX12_anAutomaton 96 = .ok (.getfield 7, 3) := by decide +kernel
theorem dX12_anAutomaton_99 : decode cX12_anAutomaton 99 = .ok (.sipush 1091, 3) := by decide +kernel
theorem dX12_anAutomaton_102 : decode cX12_anAutomaton 102 = .ok (.dup2, 1) := by decide +kernel
theorem dX12_anAutomaton_103 : decode cX12_anAutomaton 103 = .ok (.iaload, 1) := by decide +kernel
theorem dX12_anAutomaton_104 : decode cX12_anAutomaton 104 = .ok (.iconst 1, 1) := by decide +kernel
theorem dX12_anAutomaton_105 : decode cX12_anAutomaton 105 = .ok (.iadd, 1) := by decide +kernel
theorem dX12_anAutomaton_106 : decode cX12_anAutomaton 106 = .ok (.iastore, 1) := by decide +kernel
theorem dX12_anAutomaton_107 : decode cX12_anAutomaton 107 = .ok (.iconst 1, 1) := by decide +kernel
theorem dX12_anAutomaton_108 : decode cX12_anAutomaton 108 = .ok (.ireturn, 1) := by decide +kernel
abbrev f_c_X12_anAutomaton : List (Nat × Int) := [(64, 12), (64, 13), (64, 14), (64, 15), (64, 17), (64, 18), (65, -1)]
set_option maxHeartbeats 4000000 in
set_option maxRecDepth 100000 in
theorem c_X12_anAutomaton (G : KG) (l : Launch) (M : Mem) (hI_M : Inv true M) (hR : R4 M) : KC true G l yX12_anAutomaton cX12_anAutomaton 3 (some .boolean) (6, 133) [vR G 163] M (fun A => kQi true G A (fun (r : Int) (N : Mem) => Inv true N ∧ Fr f_c_X12_anAutomaton M N ∧ ((r = 1 ∧ 5 * (N 163 14) - (N 163 12) ≥ 5 * (M 163 14) - (M 163 12) + 1) ∨ (r = 0 ∧ 5 * (N 163 14) - (N 163 12) ≥ 5 * (M 163 14) - (M 163 12) ∧ (N 163 18) ≠ 0)) ∧ (LO N M ∧ (r = 1 → R4 N)))) := by
  refine kx_met (lo := [some (vR G 163), none, none]) (by decide) (Nat.le_of_ble_eq_true rfl) rfl ?_
  intro X F hQ
  have hF_M : Fr f_c_X12_anAutomaton M M := Fr.rf _ _
  have h_1 := Inv.g hI_M kd_163 rfl 14 (a := 0) (b := 900) rfl rfl
  have h_2 := Inv.g hI_M kd_163 rfl 12 (a := 0) (b := 4) rfl rfl
  refine kx_aload_n 1 F 0 dX12_anAutomaton_0 rfl rfl rfl ?_
  refine kx_getr 4 F fl_X12_7 kd_163 rfl rfl (j := 0) rfl dX12_anAutomaton_1 (v := 164) (uq_164 (Inv.r hI_M kd_163 rfl 0 rfl rfl)) rfl ?_
  refine kx_sipush 7 F dX12_anAutomaton_4 (by decide) rfl ?_
  refine kx_iald 8 F kd_164 rfl rfl (by omega) (by decide) dX12_anAutomaton_7 (v := (M 164 1091)) rfl rfl ?_
  have ha_3 : atlo 1091 = 0 ∧ athi 1091 = 2 := at_c 1091 4 (o := 3) (lo := 0) (hi := 2) (by omega) (by decide) (by decide) (by decide)
  have h_4 := Inv.g hI_M kd_164 rfl 1091 (a := 0) (b := 2) ha_3.1 ha_3.2
  refine kx_istore_n 9 F 1 (lo' := [some (vR G 163), some (vI (M 164 1091)), none]) dX12_anAutomaton_8 rfl (by decide) rfl rfl rfl ?_
  refine kx_iload_n 10 F 1 dX12_anAutomaton_9 rfl rfl rfl ?_
  refine kx_iconst 11 F dX12_anAutomaton_10 rfl ?_
  refine kx_icmp_ne 14 F 21 dX12_anAutomaton_11 (by decide) rfl (by omega) (by decide) (fun h_5 => ?_) (fun h_5 => ?_)
  · refine kx_sipush 24 F dX12_anAutomaton_21 (by decide) rfl ?_
    refine kx_iload_n 25 F 1 dX12_anAutomaton_24 rfl rfl rfl ?_
    refine kx_Si 28 F (As := [vI 1088, vI (M 164 1091)]) (st := []) sd_X12_216 (c_X12_rowOf G l M 1088 (M 164 1091) hI_M (by omega)) ⟨by decide, by decide⟩ rfl rfl (Nat.le_of_ble_eq_true rfl) dX12_anAutomaton_25 rfl ?_
    intro r_6 N_7 q_8
    obtain ⟨rfl, q_8c⟩ := q_8
    refine kx_topi (e' := 85 * (M 164 1091) + 1188) (by omega) ?_
    refine kx_istore_n 29 F 2 (lo' := [some (vR G 163), some (vI (M 164 1091)), some (vI (85 * (M 164 1091) + 1188))]) dX12_anAutomaton_28 rfl (by decide) rfl rfl rfl ?_
    refine kx_aload_n 30 F 0 dX12_anAutomaton_29 rfl rfl rfl ?_
    refine kx_Vv 33 (ci := 0) F (As := []) (st := []) vd_X12_199 (c_X12_ahead G l M  hI_M) kd_163 rfl rfl rfl ⟨by decide, by decide⟩ rfl rfl (Nat.le_of_ble_eq_true rfl) dX12_anAutomaton_30 rfl ?_
    intro N_9 q_10
    obtain ⟨hI_N_9, hG_N_9, q_10c⟩ := q_10
    have hF_N_9 : Fr f_c_X12_anAutomaton M N_9 := Fr.c hF_M hG_N_9 rfl
    have h_11 := Inv.g hI_N_9 kd_163 rfl 12 (a := 0) (b := 4) rfl rfl
    have h_12 := Inv.g hI_N_9 kd_163 rfl 14 (a := 0) (b := 900) rfl rfl
    have h_13 := Inv.g hI_N_9 kd_163 rfl 12 (a := 0) (b := 4) rfl rfl
    have h_14 := Inv.g hI_N_9 kd_163 rfl 14 (a := 0) (b := 900) rfl rfl
    rcases q_10c with q_10c | q_10c
    · refine kx_aload_n 34 F 0 dX12_anAutomaton_33 rfl rfl rfl ?_
      refine kx_iload_n 35 F 2 dX12_anAutomaton_34 rfl rfl rfl ?_
      refine kx_iconst 36 F dX12_anAutomaton_35 rfl ?_
      refine kx_iconst 37 F dX12_anAutomaton_36 rfl ?_
      have ha_15 : atlo (85 * (M 164 1091) + 1188) = 0 ∧ athi (85 * (M 164 1091) + 1188) = 3 := at_a (85 * (M 164 1091) + 1188) 4 (M 164 1091) 0 (by omega) (by omega) (by decide)
      refine kx_Vi 40 (ci := 0) F (As := [vI (85 * (M 164 1091) + 1188), vI 1, vI 3]) (st := []) vd_X12_231 (c_X12_number G l N_9 (85 * (M 164 1091) + 1188) 1 3 hI_N_9 (by omega)) kd_163 rfl rfl rfl ⟨by decide, by decide⟩ rfl rfl (Nat.le_of_ble_eq_true rfl) dX12_anAutomaton_37 rfl ?_
      intro r_16 N_17 q_18
      obtain ⟨hI_N_17, hG_N_17, q_18c, hx_N_17⟩ := q_18
      have hF_N_17 : Fr f_c_X12_anAutomaton M N_17 := Fr.c hF_N_9 hG_N_17 rfl
      have h_19 := Inv.g hI_N_17 kd_163 rfl 14 (a := 0) (b := 900) rfl rfl
      have h_20 := Inv.g hI_N_17 kd_163 rfl 12 (a := 0) (b := 4) rfl rfl
      have h_21 := Inv.g hI_N_17 kd_163 rfl 14 (a := 0) (b := 900) rfl rfl
      have h_22 := Inv.g hI_N_17 kd_163 rfl 12 (a := 0) (b := 4) rfl rfl
      have h_23 := Inv.g hI_N_17 kd_163 rfl 18 (a := (-2147483648)) (b := 2147483647) rfl rfl
      rcases q_18c with q_18c | q_18c
      · refine kx_if_eq 43 F 66 dX12_anAutomaton_40 (by decide) rfl (by omega) (fun h_24 => (by exfalso; omega)) (fun h_24 => ?_)
        refine kx_aload_n 44 F 0 dX12_anAutomaton_43 rfl rfl rfl ?_
        refine kx_ldcS 46 F 11 (by decide) rfl rfl dX12_anAutomaton_44 rfl ?_
        refine kx_bipush 48 F dX12_anAutomaton_46 (by decide) rfl ?_
        refine kx_Vi 51 (ci := 0) F (As := [vT G 11, vI 7]) (st := []) vd_X12_235 (c_X12_wantWord G l N_17 7 hI_N_17 (by omega)) kd_163 rfl rfl rfl ⟨by decide, by decide⟩ rfl rfl (Nat.le_of_ble_eq_true rfl) dX12_anAutomaton_48 rfl ?_
        intro r_25 N_26 q_27
        obtain ⟨hI_N_26, hG_N_26, q_27c⟩ := q_27
        have hF_N_26 : Fr f_c_X12_anAutomaton M N_26 := Fr.c hF_N_17 hG_N_26 rfl
        have h_28 := Inv.g hI_N_26 kd_163 rfl 14 (a := 0) (b := 900) rfl rfl
        have h_29 := Inv.g hI_N_26 kd_163 rfl 12 (a := 0) (b := 4) rfl rfl
        have h_30 := Inv.g hI_N_26 kd_163 rfl 14 (a := 0) (b := 900) rfl rfl
        have h_31 := Inv.g hI_N_26 kd_163 rfl 12 (a := 0) (b := 4) rfl rfl
        have h_32 := Inv.g hI_N_26 kd_163 rfl 18 (a := (-2147483648)) (b := 2147483647) rfl rfl
        rcases q_27c with q_27c | q_27c
        · refine kx_if_eq 54 F 66 dX12_anAutomaton_51 (by decide) rfl (by omega) (fun h_33 => (by exfalso; omega)) (fun h_33 => ?_)
          refine kx_aload_n 55 F 0 dX12_anAutomaton_54 rfl rfl rfl ?_
          refine kx_iload_n 56 F 2 dX12_anAutomaton_55 rfl rfl rfl ?_
          refine kx_iconst 57 F dX12_anAutomaton_56 rfl ?_
          refine kx_iadd 58 F (v := 85 * (M 164 1091) + 1189) dX12_anAutomaton_57 (by omega) rfl ?_
          refine kx_iconst 59 F dX12_anAutomaton_58 rfl ?_
          refine kx_iconst 60 F dX12_anAutomaton_59 rfl ?_
          have ha_34 : atlo (85 * (M 164 1091) + 1189) = 0 ∧ athi (85 * (M 164 1091) + 1189) = 3 := at_a (85 * (M 164 1091) + 1189) 4 (M 164 1091) 1 (by omega) (by omega) (by decide)
          refine kx_Vi 63 (ci := 0) F (As := [vI (85 * (M 164 1091) + 1189), vI 1, vI 3]) (st := []) vd_X12_231 (c_X12_number G l N_26 (85 * (M 164 1091) + 1189) 1 3 hI_N_26 (by omega)) kd_163 rfl rfl rfl ⟨by decide, by decide⟩ rfl rfl (Nat.le_of_ble_eq_true rfl) dX12_anAutomaton_60 rfl ?_
          intro r_35 N_36 q_37
          obtain ⟨hI_N_36, hG_N_36, q_37c, hx_N_36⟩ := q_37
          have hF_N_36 : Fr f_c_X12_anAutomaton M N_36 := Fr.c hF_N_26 hG_N_36 rfl
          have h_38 := Inv.g hI_N_36 kd_163 rfl 14 (a := 0) (b := 900) rfl rfl
          have h_39 := Inv.g hI_N_36 kd_163 rfl 12 (a := 0) (b := 4) rfl rfl
          have h_40 := Inv.g hI_N_36 kd_163 rfl 14 (a := 0) (b := 900) rfl rfl
          have h_41 := Inv.g hI_N_36 kd_163 rfl 12 (a := 0) (b := 4) rfl rfl
          have h_42 := Inv.g hI_N_36 kd_163 rfl 18 (a := (-2147483648)) (b := 2147483647) rfl rfl
          rcases q_37c with q_37c | q_37c
          · refine kx_if_ne 66 F 68 dX12_anAutomaton_63 (by decide) rfl (by omega) (fun h_43 => ?_) (fun h_43 => (by exfalso; omega))
            refine kx_aload_n 69 F 0 dX12_anAutomaton_68 rfl rfl rfl ?_
            refine kx_getr 72 F fl_X12_7 kd_163 rfl rfl (j := 0) rfl dX12_anAutomaton_69 (v := 164) (uq_164 (Inv.r hI_N_36 kd_163 rfl 0 rfl rfl)) rfl ?_
            refine kx_iload_n 73 F 2 dX12_anAutomaton_72 rfl rfl rfl ?_
            refine kx_iconst 74 F dX12_anAutomaton_73 rfl ?_
            refine kx_iadd 75 F (v := 85 * (M 164 1091) + 1190) dX12_anAutomaton_74 (by omega) rfl ?_
            refine kx_iconst 76 F dX12_anAutomaton_75 rfl ?_
            refine kx_iast 77 F kd_164 rfl rfl (by omega) (by decide) dX12_anAutomaton_76 rfl ?_
            intro N_44 hM_N_44
            have ha_45 : atlo (85 * (M 164 1091) + 1190) = 0 ∧ athi (85 * (M 164 1091) + 1190) = 7 := at_a (85 * (M 164 1091) + 1190) 4 (M 164 1091) 2 (by omega) (by omega) (by decide)
            have hI_N_44 : Inv true N_44 := Inv.u hI_N_36 hM_N_44 kd_164 (a := 0) (b := 7) ha_45.1 ha_45.2 rfl (by omega)
            have hF_N_44 : Fr f_c_X12_anAutomaton M N_44 := Fr.u hF_N_36 hM_N_44 kd_164 rfl
            refine kx_aload_n 78 F 0 dX12_anAutomaton_77 rfl rfl rfl ?_
            refine kx_getr 81 F fl_X12_7 kd_163 rfl rfl (j := 0) rfl dX12_anAutomaton_78 (v := 164) (uq_164 (Inv.r hI_N_44 kd_163 rfl 0 rfl rfl)) rfl ?_
            refine kx_iload_n 82 F 2 dX12_anAutomaton_81 rfl rfl rfl ?_
            refine kx_iconst 83 F dX12_anAutomaton_82 rfl ?_
            refine kx_iadd 84 F (v := 85 * (M 164 1091) + 1191) dX12_anAutomaton_83 (by omega) rfl ?_
            refine kx_iconst 85 F dX12_anAutomaton_84 rfl ?_
            refine kx_iast 86 F kd_164 rfl rfl (by omega) (by decide) dX12_anAutomaton_85 rfl ?_
            intro N_46 hM_N_46
            have ha_47 : atlo (85 * (M 164 1091) + 1191) = 0 ∧ athi (85 * (M 164 1091) + 1191) = 7 := at_a (85 * (M 164 1091) + 1191) 4 (M 164 1091) 3 (by omega) (by omega) (by decide)
            have hI_N_46 : Inv true N_46 := Inv.u hI_N_44 hM_N_46 kd_164 (a := 0) (b := 7) ha_47.1 ha_47.2 rfl (by omega)
            have hF_N_46 : Fr f_c_X12_anAutomaton M N_46 := Fr.u hF_N_44 hM_N_46 kd_164 rfl
            refine kx_aload_n 87 F 0 dX12_anAutomaton_86 rfl rfl rfl ?_
            refine kx_getr 90 F fl_X12_7 kd_163 rfl rfl (j := 0) rfl dX12_anAutomaton_87 (v := 164) (uq_164 (Inv.r hI_N_46 kd_163 rfl 0 rfl rfl)) rfl ?_
            refine kx_iload_n 91 F 2 dX12_anAutomaton_90 rfl rfl rfl ?_
            refine kx_iconst 92 F dX12_anAutomaton_91 rfl ?_
            refine kx_iadd 93 F (v := 85 * (M 164 1091) + 1192) dX12_anAutomaton_92 (by omega) rfl ?_
            refine kx_iconst 94 F dX12_anAutomaton_93 rfl ?_
            refine kx_iast 95 F kd_164 rfl rfl (by omega) (by decide) dX12_anAutomaton_94 rfl ?_
            intro N_48 hM_N_48
            have ha_49 : atlo (85 * (M 164 1091) + 1192) = 0 ∧ athi (85 * (M 164 1091) + 1192) = 20 := at_a (85 * (M 164 1091) + 1192) 4 (M 164 1091) 4 (by omega) (by omega) (by decide)
            have hI_N_48 : Inv true N_48 := Inv.u hI_N_46 hM_N_48 kd_164 (a := 0) (b := 20) ha_49.1 ha_49.2 rfl (by omega)
            have hF_N_48 : Fr f_c_X12_anAutomaton M N_48 := Fr.u hF_N_46 hM_N_48 kd_164 rfl
            refine kx_aload_n 96 F 0 dX12_anAutomaton_95 rfl rfl rfl ?_
            refine kx_getr 99 F fl_X12_7 kd_163 rfl rfl (j := 0) rfl dX12_anAutomaton_96 (v := 164) (uq_164 (Inv.r hI_N_48 kd_163 rfl 0 rfl rfl)) rfl ?_
            refine kx_sipush 102 F dX12_anAutomaton_99 (by decide) rfl ?_
            refine kx_dup2 103 F dX12_anAutomaton_102 rfl rfl rfl ?_
            refine kx_iald 104 F kd_164 rfl rfl (by omega) (by decide) dX12_anAutomaton_103 (v := (M 164 1091)) (by rw [hM_N_48, mu_i (by omega), hM_N_46, mu_i (by omega), hM_N_44, mu_i (by omega), hx_N_36 _ (by omega), Fr.e hG_N_26 kd_164 _ rfl, hx_N_17 _ (by omega), Fr.e hG_N_9 kd_164 _ rfl]) rfl ?_
            refine kx_iconst 105 F dX12_anAutomaton_104 rfl ?_
            refine kx_iadd 106 F (v := (M 164 1091) + 1) dX12_anAutomaton_105 rfl rfl ?_
            refine kx_iast 107 F kd_164 rfl rfl (by omega) (by decide) dX12_anAutomaton_106 rfl ?_
            intro N_50 hM_N_50
            have hI_N_50 : Inv true N_50 := Inv.u hI_N_48 hM_N_50 kd_164 (a := 0) (b := 2) ha_3.1 ha_3.2 rfl (by omega)
            have hF_N_50 : Fr f_c_X12_anAutomaton M N_50 := Fr.u hF_N_48 hM_N_50 kd_164 rfl
            refine kx_iconst 108 F dX12_anAutomaton_107 rfl ?_
            have e_51 : (N_50 163 14) = (N_36 163 14) := by rw [hM_N_50, mu_k kd_163 kd_164 rfl, hM_N_48, mu_k kd_163 kd_164 rfl, hM_N_46, mu_k kd_163 kd_164 rfl, hM_N_44, mu_k kd_163 kd_164 rfl]
            have e_52 : (N_50 163 12) = (N_36 163 12) := by rw [hM_N_50, mu_k kd_163 kd_164 rfl, hM_N_48, mu_k kd_163 kd_164 rfl, hM_N_46, mu_k kd_163 kd_164 rfl, hM_N_44, mu_k kd_163 kd_164 rfl]
            have e_53 : (N_50 163 14) = (N_36 163 14) := by rw [hM_N_50, mu_k kd_163 kd_164 rfl, hM_N_48, mu_k kd_163 kd_164 rfl, hM_N_46, mu_k kd_163 kd_164 rfl, hM_N_44, mu_k kd_163 kd_164 rfl]
            have e_54 : (N_50 163 12) = (N_36 163 12) := by rw [hM_N_50, mu_k kd_163 kd_164 rfl, hM_N_48, mu_k kd_163 kd_164 rfl, hM_N_46, mu_k kd_163 kd_164 rfl, hM_N_44, mu_k kd_163 kd_164 rfl]
            have e_55 : (N_50 163 18) = (N_36 163 18) := by rw [hM_N_50, mu_k kd_163 kd_164 rfl, hM_N_48, mu_k kd_163 kd_164 rfl, hM_N_46, mu_k kd_163 kd_164 rfl, hM_N_44, mu_k kd_163 kd_164 rfl]
            have h_56 := Inv.g hI_N_36 kd_163 rfl 18 (a := (-2147483648)) (b := 2147483647) rfl rfl
            have e_57 : N_50 164 (1192 + 85 * M 164 1091) = 0 := by rw [show 1192 + 85 * M 164 1091 = 85 * (M 164 1091) + 1192 by omega, hM_N_50, mu_i (by omega), hM_N_48, mu_s]
            exact kx_zret F hQ (by omega) ⟨hI_N_50, hF_N_50, (by omega), ⟨(LO.sta (LO.sta (LO.sta (LO.sta (LO.ne (LO.fr (LO.ne (LO.fr (LO.rf M) hG_N_9 rfl) hx_N_17 (by omega)) hG_N_26 rfl) hx_N_36 (by omega)) hM_N_44 (by omega)) hM_N_46 (by omega)) hM_N_48 (by omega)) hM_N_50 (by omega)), (fun _ => (R4.auto hR hI_M (M 164 1091) (by omega) (fun j h0 hj => by rw [hM_N_50, mu_i (by omega), hM_N_48, mu_i (by omega), hM_N_46, mu_i (by omega), hM_N_44, mu_i (by omega), hx_N_36 _ (by omega), Fr.e hG_N_26 kd_164 _ rfl, hx_N_17 _ (by omega), Fr.e hG_N_9 kd_164 _ rfl]) (by omega)))⟩⟩ dX12_anAutomaton_108
          · refine kx_if_ne 66 F 68 dX12_anAutomaton_63 (by decide) rfl (by omega) (fun h_58 => (by exfalso; omega)) (fun h_58 => ?_)
            refine kx_iconst 67 F dX12_anAutomaton_66 rfl ?_
            exact kx_zret F hQ (by omega) ⟨hI_N_36, hF_N_36, (by omega), ⟨(LO.ne (LO.fr (LO.ne (LO.fr (LO.rf M) hG_N_9 rfl) hx_N_17 (by omega)) hG_N_26 rfl) hx_N_36 (by omega)), (fun h => absurd h (by omega))⟩⟩ dX12_anAutomaton_67
        · refine kx_if_eq 54 F 66 dX12_anAutomaton_51 (by decide) rfl (by omega) (fun h_59 => ?_) (fun h_59 => (by exfalso; omega))
          refine kx_iconst 67 F dX12_anAutomaton_66 rfl ?_
          exact kx_zret F hQ (by omega) ⟨hI_N_26, hF_N_26, (by omega), ⟨(LO.fr (LO.ne (LO.fr (LO.rf M) hG_N_9 rfl) hx_N_17 (by omega)) hG_N_26 rfl), (fun h => absurd h (by omega))⟩⟩ dX12_anAutomaton_67
      · refine kx_if_eq 43 F 66 dX12_anAutomaton_40 (by decide) rfl (by omega) (fun h_60 => ?_) (fun h_60 => (by exfalso; omega))
        refine kx_iconst 67 F dX12_anAutomaton_66 rfl ?_
        exact kx_zret F hQ (by omega) ⟨hI_N_17, hF_N_17, (by omega), ⟨(LO.ne (LO.fr (LO.rf M) hG_N_9 rfl) hx_N_17 (by omega)), (fun h => absurd h (by omega))⟩⟩ dX12_anAutomaton_67
    · refine kx_aload_n 34 F 0 dX12_anAutomaton_33 rfl rfl rfl ?_
      refine kx_iload_n 35 F 2 dX12_anAutomaton_34 rfl rfl rfl ?_
      refine kx_iconst 36 F dX12_anAutomaton_35 rfl ?_
      refine kx_iconst 37 F dX12_anAutomaton_36 rfl ?_
      have ha_61 : atlo (85 * (M 164 1091) + 1188) = 0 ∧ athi (85 * (M 164 1091) + 1188) = 3 := at_a (85 * (M 164 1091) + 1188) 4 (M 164 1091) 0 (by omega) (by omega) (by decide)
      refine kx_Vi 40 (ci := 0) F (As := [vI (85 * (M 164 1091) + 1188), vI 1, vI 3]) (st := []) vd_X12_231 (c_X12_number G l N_9 (85 * (M 164 1091) + 1188) 1 3 hI_N_9 (by omega)) kd_163 rfl rfl rfl ⟨by decide, by decide⟩ rfl rfl (Nat.le_of_ble_eq_true rfl) dX12_anAutomaton_37 rfl ?_
      intro r_62 N_63 q_64
      obtain ⟨hI_N_63, hG_N_63, q_64c, hx_N_63⟩ := q_64
      have hF_N_63 : Fr f_c_X12_anAutomaton M N_63 := Fr.c hF_N_9 hG_N_63 rfl
      have h_65 := Inv.g hI_N_63 kd_163 rfl 14 (a := 0) (b := 900) rfl rfl
      have h_66 := Inv.g hI_N_63 kd_163 rfl 12 (a := 0) (b := 4) rfl rfl
      have h_67 := Inv.g hI_N_63 kd_163 rfl 14 (a := 0) (b := 900) rfl rfl
      have h_68 := Inv.g hI_N_63 kd_163 rfl 12 (a := 0) (b := 4) rfl rfl
      have h_69 := Inv.g hI_N_63 kd_163 rfl 18 (a := (-2147483648)) (b := 2147483647) rfl rfl
      rcases q_64c with q_64c | q_64c
      · refine kx_if_eq 43 F 66 dX12_anAutomaton_40 (by decide) rfl (by omega) (fun h_70 => (by exfalso; omega)) (fun h_70 => ?_)
        refine kx_aload_n 44 F 0 dX12_anAutomaton_43 rfl rfl rfl ?_
        refine kx_ldcS 46 F 11 (by decide) rfl rfl dX12_anAutomaton_44 rfl ?_
        refine kx_bipush 48 F dX12_anAutomaton_46 (by decide) rfl ?_
        refine kx_Vi 51 (ci := 0) F (As := [vT G 11, vI 7]) (st := []) vd_X12_235 (c_X12_wantWord G l N_63 7 hI_N_63 (by omega)) kd_163 rfl rfl rfl ⟨by decide, by decide⟩ rfl rfl (Nat.le_of_ble_eq_true rfl) dX12_anAutomaton_48 rfl ?_
        intro r_71 N_72 q_73
        obtain ⟨hI_N_72, hG_N_72, q_73c⟩ := q_73
        have hF_N_72 : Fr f_c_X12_anAutomaton M N_72 := Fr.c hF_N_63 hG_N_72 rfl
        have h_74 := Inv.g hI_N_72 kd_163 rfl 14 (a := 0) (b := 900) rfl rfl
        have h_75 := Inv.g hI_N_72 kd_163 rfl 12 (a := 0) (b := 4) rfl rfl
        have h_76 := Inv.g hI_N_72 kd_163 rfl 14 (a := 0) (b := 900) rfl rfl
        have h_77 := Inv.g hI_N_72 kd_163 rfl 12 (a := 0) (b := 4) rfl rfl
        have h_78 := Inv.g hI_N_72 kd_163 rfl 18 (a := (-2147483648)) (b := 2147483647) rfl rfl
        rcases q_73c with q_73c | q_73c
        · refine kx_if_eq 54 F 66 dX12_anAutomaton_51 (by decide) rfl (by omega) (fun h_79 => (by exfalso; omega)) (fun h_79 => ?_)
          refine kx_aload_n 55 F 0 dX12_anAutomaton_54 rfl rfl rfl ?_
          refine kx_iload_n 56 F 2 dX12_anAutomaton_55 rfl rfl rfl ?_
          refine kx_iconst 57 F dX12_anAutomaton_56 rfl ?_
          refine kx_iadd 58 F (v := 85 * (M 164 1091) + 1189) dX12_anAutomaton_57 (by omega) rfl ?_
          refine kx_iconst 59 F dX12_anAutomaton_58 rfl ?_
          refine kx_iconst 60 F dX12_anAutomaton_59 rfl ?_
          have ha_80 : atlo (85 * (M 164 1091) + 1189) = 0 ∧ athi (85 * (M 164 1091) + 1189) = 3 := at_a (85 * (M 164 1091) + 1189) 4 (M 164 1091) 1 (by omega) (by omega) (by decide)
          refine kx_Vi 63 (ci := 0) F (As := [vI (85 * (M 164 1091) + 1189), vI 1, vI 3]) (st := []) vd_X12_231 (c_X12_number G l N_72 (85 * (M 164 1091) + 1189) 1 3 hI_N_72 (by omega)) kd_163 rfl rfl rfl ⟨by decide, by decide⟩ rfl rfl (Nat.le_of_ble_eq_true rfl) dX12_anAutomaton_60 rfl ?_
          intro r_81 N_82 q_83
          obtain ⟨hI_N_82, hG_N_82, q_83c, hx_N_82⟩ := q_83
          have hF_N_82 : Fr f_c_X12_anAutomaton M N_82 := Fr.c hF_N_72 hG_N_82 rfl
          have h_84 := Inv.g hI_N_82 kd_163 rfl 14 (a := 0) (b := 900) rfl rfl
          have h_85 := Inv.g hI_N_82 kd_163 rfl 12 (a := 0) (b := 4) rfl rfl
          have h_86 := Inv.g hI_N_82 kd_163 rfl 14 (a := 0) (b := 900) rfl rfl
          have h_87 := Inv.g hI_N_82 kd_163 rfl 12 (a := 0) (b := 4) rfl rfl
          have h_88 := Inv.g hI_N_82 kd_163 rfl 18 (a := (-2147483648)) (b := 2147483647) rfl rfl
          rcases q_83c with q_83c | q_83c
          · refine kx_if_ne 66 F 68 dX12_anAutomaton_63 (by decide) rfl (by omega) (fun h_89 => ?_) (fun h_89 => (by exfalso; omega))
            refine kx_aload_n 69 F 0 dX12_anAutomaton_68 rfl rfl rfl ?_
            refine kx_getr 72 F fl_X12_7 kd_163 rfl rfl (j := 0) rfl dX12_anAutomaton_69 (v := 164) (uq_164 (Inv.r hI_N_82 kd_163 rfl 0 rfl rfl)) rfl ?_
            refine kx_iload_n 73 F 2 dX12_anAutomaton_72 rfl rfl rfl ?_
            refine kx_iconst 74 F dX12_anAutomaton_73 rfl ?_
            refine kx_iadd 75 F (v := 85 * (M 164 1091) + 1190) dX12_anAutomaton_74 (by omega) rfl ?_
            refine kx_iconst 76 F dX12_anAutomaton_75 rfl ?_
            refine kx_iast 77 F kd_164 rfl rfl (by omega) (by decide) dX12_anAutomaton_76 rfl ?_
            intro N_90 hM_N_90
            have ha_91 : atlo (85 * (M 164 1091) + 1190) = 0 ∧ athi (85 * (M 164 1091) + 1190) = 7 := at_a (85 * (M 164 1091) + 1190) 4 (M 164 1091) 2 (by omega) (by omega) (by decide)
            have hI_N_90 : Inv true N_90 := Inv.u hI_N_82 hM_N_90 kd_164 (a := 0) (b := 7) ha_91.1 ha_91.2 rfl (by omega)
            have hF_N_90 : Fr f_c_X12_anAutomaton M N_90 := Fr.u hF_N_82 hM_N_90 kd_164 rfl
            refine kx_aload_n 78 F 0 dX12_anAutomaton_77 rfl rfl rfl ?_
            refine kx_getr 81 F fl_X12_7 kd_163 rfl rfl (j := 0) rfl dX12_anAutomaton_78 (v := 164) (uq_164 (Inv.r hI_N_90 kd_163 rfl 0 rfl rfl)) rfl ?_
            refine kx_iload_n 82 F 2 dX12_anAutomaton_81 rfl rfl rfl ?_
            refine kx_iconst 83 F dX12_anAutomaton_82 rfl ?_
            refine kx_iadd 84 F (v := 85 * (M 164 1091) + 1191) dX12_anAutomaton_83 (by omega) rfl ?_
            refine kx_iconst 85 F dX12_anAutomaton_84 rfl ?_
            refine kx_iast 86 F kd_164 rfl rfl (by omega) (by decide) dX12_anAutomaton_85 rfl ?_
            intro N_92 hM_N_92
            have ha_93 : atlo (85 * (M 164 1091) + 1191) = 0 ∧ athi (85 * (M 164 1091) + 1191) = 7 := at_a (85 * (M 164 1091) + 1191) 4 (M 164 1091) 3 (by omega) (by omega) (by decide)
            have hI_N_92 : Inv true N_92 := Inv.u hI_N_90 hM_N_92 kd_164 (a := 0) (b := 7) ha_93.1 ha_93.2 rfl (by omega)
            have hF_N_92 : Fr f_c_X12_anAutomaton M N_92 := Fr.u hF_N_90 hM_N_92 kd_164 rfl
            refine kx_aload_n 87 F 0 dX12_anAutomaton_86 rfl rfl rfl ?_
            refine kx_getr 90 F fl_X12_7 kd_163 rfl rfl (j := 0) rfl dX12_anAutomaton_87 (v := 164) (uq_164 (Inv.r hI_N_92 kd_163 rfl 0 rfl rfl)) rfl ?_
            refine kx_iload_n 91 F 2 dX12_anAutomaton_90 rfl rfl rfl ?_
            refine kx_iconst 92 F dX12_anAutomaton_91 rfl ?_
            refine kx_iadd 93 F (v := 85 * (M 164 1091) + 1192) dX12_anAutomaton_92 (by omega) rfl ?_
            refine kx_iconst 94 F dX12_anAutomaton_93 rfl ?_
            refine kx_iast 95 F kd_164 rfl rfl (by omega) (by decide) dX12_anAutomaton_94 rfl ?_
            intro N_94 hM_N_94
            have ha_95 : atlo (85 * (M 164 1091) + 1192) = 0 ∧ athi (85 * (M 164 1091) + 1192) = 20 := at_a (85 * (M 164 1091) + 1192) 4 (M 164 1091) 4 (by omega) (by omega) (by decide)
            have hI_N_94 : Inv true N_94 := Inv.u hI_N_92 hM_N_94 kd_164 (a := 0) (b := 20) ha_95.1 ha_95.2 rfl (by omega)
            have hF_N_94 : Fr f_c_X12_anAutomaton M N_94 := Fr.u hF_N_92 hM_N_94 kd_164 rfl
            refine kx_aload_n 96 F 0 dX12_anAutomaton_95 rfl rfl rfl ?_
            refine kx_getr 99 F fl_X12_7 kd_163 rfl rfl (j := 0) rfl dX12_anAutomaton_96 (v := 164) (uq_164 (Inv.r hI_N_94 kd_163 rfl 0 rfl rfl)) rfl ?_
            refine kx_sipush 102 F dX12_anAutomaton_99 (by decide) rfl ?_
            refine kx_dup2 103 F dX12_anAutomaton_102 rfl rfl rfl ?_
            refine kx_iald 104 F kd_164 rfl rfl (by omega) (by decide) dX12_anAutomaton_103 (v := (M 164 1091)) (by rw [hM_N_94, mu_i (by omega), hM_N_92, mu_i (by omega), hM_N_90, mu_i (by omega), hx_N_82 _ (by omega), Fr.e hG_N_72 kd_164 _ rfl, hx_N_63 _ (by omega), Fr.e hG_N_9 kd_164 _ rfl]) rfl ?_
            refine kx_iconst 105 F dX12_anAutomaton_104 rfl ?_
            refine kx_iadd 106 F (v := (M 164 1091) + 1) dX12_anAutomaton_105 rfl rfl ?_
            refine kx_iast 107 F kd_164 rfl rfl (by omega) (by decide) dX12_anAutomaton_106 rfl ?_
            intro N_96 hM_N_96
            have hI_N_96 : Inv true N_96 := Inv.u hI_N_94 hM_N_96 kd_164 (a := 0) (b := 2) ha_3.1 ha_3.2 rfl (by omega)
            have hF_N_96 : Fr f_c_X12_anAutomaton M N_96 := Fr.u hF_N_94 hM_N_96 kd_164 rfl
            refine kx_iconst 108 F dX12_anAutomaton_107 rfl ?_
            have e_97 : (N_96 163 14) = (N_82 163 14) := by rw [hM_N_96, mu_k kd_163 kd_164 rfl, hM_N_94, mu_k kd_163 kd_164 rfl, hM_N_92, mu_k kd_163 kd_164 rfl, hM_N_90, mu_k kd_163 kd_164 rfl]
            have e_98 : (N_96 163 12) = (N_82 163 12) := by rw [hM_N_96, mu_k kd_163 kd_164 rfl, hM_N_94, mu_k kd_163 kd_164 rfl, hM_N_92, mu_k kd_163 kd_164 rfl, hM_N_90, mu_k kd_163 kd_164 rfl]
            have e_99 : (N_96 163 14) = (N_82 163 14) := by rw [hM_N_96, mu_k kd_163 kd_164 rfl, hM_N_94, mu_k kd_163 kd_164 rfl, hM_N_92, mu_k kd_163 kd_164 rfl, hM_N_90, mu_k kd_163 kd_164 rfl]
            have e_100 : (N_96 163 12) = (N_82 163 12) := by rw [hM_N_96, mu_k kd_163 kd_164 rfl, hM_N_94, mu_k kd_163 kd_164 rfl, hM_N_92, mu_k kd_163 kd_164 rfl, hM_N_90, mu_k kd_163 kd_164 rfl]
            have e_101 : (N_96 163 18) = (N_82 163 18) := by rw [hM_N_96, mu_k kd_163 kd_164 rfl, hM_N_94, mu_k kd_163 kd_164 rfl, hM_N_92, mu_k kd_163 kd_164 rfl, hM_N_90, mu_k kd_163 kd_164 rfl]
            have h_102 := Inv.g hI_N_82 kd_163 rfl 18 (a := (-2147483648)) (b := 2147483647) rfl rfl
            have e_103 : N_96 164 (1192 + 85 * M 164 1091) = 0 := by rw [show 1192 + 85 * M 164 1091 = 85 * (M 164 1091) + 1192 by omega, hM_N_96, mu_i (by omega), hM_N_94, mu_s]
            exact kx_zret F hQ (by omega) ⟨hI_N_96, hF_N_96, (by omega), ⟨(LO.sta (LO.sta (LO.sta (LO.sta (LO.ne (LO.fr (LO.ne (LO.fr (LO.rf M) hG_N_9 rfl) hx_N_63 (by omega)) hG_N_72 rfl) hx_N_82 (by omega)) hM_N_90 (by omega)) hM_N_92 (by omega)) hM_N_94 (by omega)) hM_N_96 (by omega)), (fun _ => (R4.auto hR hI_M (M 164 1091) (by omega) (fun j h0 hj => by rw [hM_N_96, mu_i (by omega), hM_N_94, mu_i (by omega), hM_N_92, mu_i (by omega), hM_N_90, mu_i (by omega), hx_N_82 _ (by omega), Fr.e hG_N_72 kd_164 _ rfl, hx_N_63 _ (by omega), Fr.e hG_N_9 kd_164 _ rfl]) (by omega)))⟩⟩ dX12_anAutomaton_108
          · refine kx_if_ne 66 F 68 dX12_anAutomaton_63 (by decide) rfl (by omega) (fun h_104 => (by exfalso; omega)) (fun h_104 => ?_)
            refine kx_iconst 67 F dX12_anAutomaton_66 rfl ?_
            exact kx_zret F hQ (by omega) ⟨hI_N_82, hF_N_82, (by omega), ⟨(LO.ne (LO.fr (LO.ne (LO.fr (LO.rf M) hG_N_9 rfl) hx_N_63 (by omega)) hG_N_72 rfl) hx_N_82 (by omega)), (fun h => absurd h (by omega))⟩⟩ dX12_anAutomaton_67
        · refine kx_if_eq 54 F 66 dX12_anAutomaton_51 (by decide) rfl (by omega) (fun h_105 => ?_) (fun h_105 => (by exfalso; omega))
          refine kx_iconst 67 F dX12_anAutomaton_66 rfl ?_
          exact kx_zret F hQ (by omega) ⟨hI_N_72, hF_N_72, (by omega), ⟨(LO.fr (LO.ne (LO.fr (LO.rf M) hG_N_9 rfl) hx_N_63 (by omega)) hG_N_72 rfl), (fun h => absurd h (by omega))⟩⟩ dX12_anAutomaton_67
      · refine kx_if_eq 43 F 66 dX12_anAutomaton_40 (by decide) rfl (by omega) (fun h_106 => ?_) (fun h_106 => (by exfalso; omega))
        refine kx_iconst 67 F dX12_anAutomaton_66 rfl ?_
        exact kx_zret F hQ (by omega) ⟨hI_N_63, hF_N_63, (by omega), ⟨(LO.ne (LO.fr (LO.rf M) hG_N_9 rfl) hx_N_63 (by omega)), (fun h => absurd h (by omega))⟩⟩ dX12_anAutomaton_67
  · refine kx_aload_n 15 F 0 dX12_anAutomaton_14 rfl rfl rfl ?_
    refine kx_bipush 17 F dX12_anAutomaton_15 (by decide) rfl ?_
    refine kx_Vi 20 (ci := 0) F (As := [vI 6]) (st := []) vd_X12_205 (c_X12_fails G l M 6 hI_M (by omega)) kd_163 rfl rfl rfl ⟨by decide, by decide⟩ rfl rfl (Nat.le_of_ble_eq_true rfl) dX12_anAutomaton_17 rfl ?_
    intro r_107 N_108 q_109
    obtain ⟨hI_N_108, hG_N_108, q_109c⟩ := q_109
    have hF_N_108 : Fr f_c_X12_anAutomaton M N_108 := Fr.c hF_M hG_N_108 rfl
    have h_110 := Inv.g hI_N_108 kd_163 rfl 18 (a := (-2147483648)) (b := 2147483647) rfl rfl
    have e_111 : (N_108 163 14) = (M 163 14) := by rw [Fr.e hG_N_108 kd_163 _ rfl]
    have e_112 : (N_108 163 12) = (M 163 12) := by rw [Fr.e hG_N_108 kd_163 _ rfl]
    have e_113 : (N_108 163 14) = (M 163 14) := by rw [Fr.e hG_N_108 kd_163 _ rfl]
    have e_114 : (N_108 163 12) = (M 163 12) := by rw [Fr.e hG_N_108 kd_163 _ rfl]
    exact kx_zret F hQ (by omega) ⟨hI_N_108, hF_N_108, (by omega), ⟨(LO.fr (LO.rf M) hG_N_108 rfl), (fun h => absurd h (by omega))⟩⟩ dX12_anAutomaton_20
theorem dX12_isRule_0 : decode cX12_isRule 0 = .ok (.iconst 0, 1) := by decide +kernel
theorem dX12_isRule_1 : decode cX12_isRule 1 = .ok (.istore 8, 2) := by decide +kernel
theorem dX12_isRule_3 : decode cX12_isRule 3 = .ok (.iload 8, 2) := by decide +kernel
theorem dX12_isRule_5 : decode cX12_isRule 5 = .ok (.iload_n 3, 1) := by decide +kernel
theorem dX12_isRule_6 : decode cX12_isRule 6 = .ok (.if_icmp .ge 74, 3) := by decide +kernel
theorem dX12_isRule_9 : decode cX12_isRule 9 = .ok (.iload_n 1, 1) := by decide +kernel
theorem dX12_isRule_10 : decode cX12_isRule 10 = .ok (.iload_n 2, 1) := by decide +kernel
theorem dX12_isRule_11 : decode cX12_isRule 11 = .ok (.iload 8, 2) := by decide +kernel
theorem dX12_isRule_13 : decode cX12_isRule 13 = .ok (.invokestatic 243, 3) := by decide +kernel
theorem dX12_isRule_16 : decode cX12_isRule 16 = .ok (.istore 9, 2) := by decide +kernel
theorem dX12_isRule_18 : decode cX12_isRule 18 = .ok (.aload_n 0, 1) := by decide +kernel
theorem dX12_isRule_19 : decode cX12_isRule 19 = .ok (.getfield 7, 3) := by decide +kernel
theorem dX12_isRule_22 : decode cX12_isRule 22 = .ok (.iload 9, 2) := by decide +kernel
theorem dX12_isRule_24 : decode cX12_isRule 24 = .ok (.iaload, 1) := by decide +kernel
theorem dX12_isRule_25 : decode cX12_isRule 25 = .ok (.iload 4, 2) := by decide +kernel
theorem dX12_isRule_27 : decode cX12_isRule 27 = .ok (.if_icmp .ne 47, 3) := by decide +kernel
theorem dX12_isRule_30 : decode cX12_isRule 30 = .ok (.aload_n 0, 1) := by decide +kernel
theorem dX12_isRule_31 : decode cX12_isRule 31 = .ok (.getfield 7, 3) := by decide +kernel
theorem dX12_isRule_34 : decode cX12_isRule 34 = .ok (.iload 9, 2) := by decide +kernel
theorem dX12_isRule_36 : decode cX12_isRule 36 = .ok (.iconst 1, 1) := by decide +kernel
theorem dX12_isRule_37 : decode cX12_isRule 37 = .ok (.iadd, 1) := by decide +kernel
theorem dX12_isRule_38 : decode cX12_isRule 38 = .ok (.iaload, 1) := by decide +kernel
theorem dX12_isRule_39 : decode cX12_isRule 39 = .ok (.iload 5, 2) := by decide +kernel
theorem dX12_isRule_41 : decode cX12_isRule 41 = .ok (.if_icmp .ne 33, 3) := by decide +kernel
theorem dX12_isRule_44 : decode cX12_isRule 44 = .ok (.aload_n 0, 1) := by decide +kernel
theorem dX12_isRule_45 : decode cX12_isRule 45 = .ok (.getfield 7, 3) := by decide +kernel
theorem dX12_isRule_48 : decode cX12_isRule 48 = .ok (.iload 9, 2) := by decide +kernel
theorem dX12_isRule_50 : decode cX12_isRule 50 = .ok (.iconst 2, 1) := by decide +kernel
theorem dX12_isRule_51 : decode cX12_isRule 51 = .ok (.iadd, 1) := by decide +kernel
theorem dX12_isRule_52 : decode cX12_isRule 52 = .ok (.iaload, 1) := by decide +kernel
theorem dX12_isRule_53 : decode cX12_isRule 53 = .ok (.iload 6, 2) := by decide +kernel
theorem dX12_isRule_55 : decode cX12_isRule 55 = .ok (.if_icmp .ne 19, 3) := by decide +kernel
theorem dX12_isRule_58 : decode cX12_isRule 58 = .ok (.aload_n 0, 1) := by decide +kernel
theorem dX12_isRule_59 : decode cX12_isRule 59 = .ok (.getfield 7, 3) := by decide +kernel
theorem dX12_isRule_62 : decode cX12_isRule 62 = .ok (.iload 9, 2) := by decide +kernel
theorem dX12_isRule_64 : decode cX12_isRule 64 = .ok (.iconst 3, 1) := by decide +kernel
theorem dX12_isRule_65 : decode cX12_isRule 65 = .ok (.iadd, 1) := by decide +kernel
theorem dX12_isRule_66 : decode cX12_isRule 66 = .ok (.iaload, 1) := by decide +kernel
theorem dX12_isRule_67 : decode cX12_isRule 67 = .ok (.iload 7, 2) := by decide +kernel
theorem dX12_isRule_69 : decode cX12_isRule 69 = .ok (.if_icmp .ne 5, 3) := by decide +kernel
theorem dX12_isRule_72 : decode cX12_isRule 72 = .ok (.iconst 1, 1) := by decide +kernel
theorem dX12_isRule_73 : decode cX12_isRule 73 = .ok (.ireturn, 1) := by decide +kernel
theorem dX12_isRule_74 : decode cX12_isRule 74 = .ok (.iinc 8 1, 3) := by decide +kernel
theorem dX12_isRule_77 : decode cX12_isRule 77 = .ok (.goto (-74), 3) := by decide +kernel
theorem dX12_isRule_80 : decode cX12_isRule 80 = .ok (.iconst 0, 1) := by decide +kernel
theorem dX12_isRule_81 : decode cX12_isRule 81 = .ok (.ireturn, 1) := by decide +kernel
set_option maxHeartbeats 4000000 in
set_option maxRecDepth 100000 in
theorem c_isRule0 (G : KG) (l : Launch) (M : Mem) (a1 : Int) (a2 : Int) (a3 : Int) (a4 : Int) (a5 : Int) (a6 : Int) (a7 : Int) (hI_M : Inv true M) (hpre : -2147483648 ≤ a1 ∧ a1 ≤ 2147483647 ∧ -2147483648 ≤ a2 ∧ a2 ≤ 2147483647 ∧ -2147483648 ≤ a3 ∧ a3 ≤ 2147483647 ∧ -2147483648 ≤ a4 ∧ a4 ≤ 2147483647 ∧ -2147483648 ≤ a5 ∧ a5 ≤ 2147483647 ∧ -2147483648 ≤ a6 ∧ a6 ≤ 2147483647 ∧ -2147483648 ≤ a7 ∧ a7 ≤ 2147483647 ∧ a1 = 0 ∧ 0 ≤ a2 ∧ a2 ≤ 1 ∧ 0 ≤ a3 ∧ a3 ≤ 20) : KC true G l yX12_isRule cX12_isRule 10 (some .boolean) (2, 43) [vR G 163, vI a1, vI a2, vI a3, vI a4, vI a5, vI a6, vI a7] M (fun A => kQi true G A (fun (r : Int) (N : Mem) => M = N ∧ (0 ≤ r ∧ r ≤ 1))) := by
  refine kx_met (lo := [some (vR G 163), some (vI a1), some (vI a2), some (vI a3), some (vI a4), some (vI a5), some (vI a6), some (vI a7), none, none]) (by decide) (Nat.le_of_ble_eq_true rfl) rfl ?_
  intro X F hQ
  refine kx_iconst 1 F dX12_isRule_0 rfl ?_
  refine kx_istore 3 F 8 (lo' := [some (vR G 163), some (vI a1), some (vI a2), some (vI a3), some (vI a4), some (vI a5), some (vI a6), some (vI a7), some (vI 0), none]) dX12_isRule_1 (by decide) rfl rfl rfl ?_
  have L_121 : ∀ (n_122 : Nat) (x8_120 : Int), 0 ≤ x8_120 ∧ x8_120 ≤ 20 → (20 - (x8_120)).toNat = n_122 → KJ true G X M 3 [some (vR G 163), some (vI a1), some (vI a2), some (vI a3), some (vI a4), some (vI a5), some (vI a6), some (vI a7), some (vI x8_120), none] [] := by
    intro n_122
    refine Nat.strongRecOn n_122 ?_
    intro n_122 ih_123 x8_120 h_124 hm_125
    refine kx_iload 5 F 8 dX12_isRule_3 rfl rfl ?_
    refine kx_iload_n 6 F 3 dX12_isRule_5 rfl rfl rfl ?_
    refine kx_icmp_ge 9 F 80 dX12_isRule_6 (by decide) rfl (by omega) (by omega) (fun h_126 => ?_) (fun h_126 => ?_)
    · refine kx_iconst 81 F dX12_isRule_80 rfl ?_
      exact kx_zret F hQ (by omega) ⟨rfl, (by omega)⟩ dX12_isRule_81
    · refine kx_iload_n 10 F 1 dX12_isRule_9 rfl rfl rfl ?_
      refine kx_iload_n 11 F 2 dX12_isRule_10 rfl rfl rfl ?_
      refine kx_iload 13 F 8 dX12_isRule_11 rfl rfl ?_
      refine kx_Si 16 F (As := [vI a1, vI a2, vI x8_120]) (st := []) sd_X12_243 (c_X12_ruleRow G l M a1 a2 x8_120 hI_M (by omega)) ⟨by decide, by decide⟩ rfl rfl (Nat.le_of_ble_eq_true rfl) dX12_isRule_13 rfl ?_
      intro r_127 N_128 q_129
      obtain ⟨rfl, q_129c⟩ := q_129
      refine kx_topi (e' := a1 + 85 * a2 + 4 * x8_120 + 105) (by omega) ?_
      refine kx_istore 18 F 9 (lo' := [some (vR G 163), some (vI a1), some (vI a2), some (vI a3), some (vI a4), some (vI a5), some (vI a6), some (vI a7), some (vI x8_120), some (vI (a1 + 85 * a2 + 4 * x8_120 + 105))]) dX12_isRule_16 (by decide) rfl rfl rfl ?_
      refine kx_aload_n 19 F 0 dX12_isRule_18 rfl rfl rfl ?_
      refine kx_getr 22 F fl_X12_7 kd_163 rfl rfl (j := 0) rfl dX12_isRule_19 (v := 164) (uq_164 (Inv.r hI_M kd_163 rfl 0 rfl rfl)) rfl ?_
      refine kx_iload 24 F 9 dX12_isRule_22 rfl rfl ?_
      refine kx_iald 25 F kd_164 rfl rfl (by omega) (by decide) dX12_isRule_24 (v := (M 164 (a1 + 85 * a2 + 4 * x8_120 + 105))) rfl rfl ?_
      have ha_130 : atlo (a1 + 85 * a2 + 4 * x8_120 + 105) = 0 ∧ athi (a1 + 85 * a2 + 4 * x8_120 + 105) = 5 := at_r (a1 + 85 * a2 + 4 * x8_120 + 105) 0 a2 x8_120 0 (by omega) (by omega) (by omega) (by decide)
      have h_131 := Inv.g hI_M kd_164 rfl (a1 + 85 * a2 + 4 * x8_120 + 105) (a := 0) (b := 5) ha_130.1 ha_130.2
      refine kx_iload 27 F 4 dX12_isRule_25 rfl rfl ?_
      have J_142 : KJ true G X M 74 [some (vR G 163), some (vI a1), some (vI a2), some (vI a3), some (vI a4), some (vI a5), some (vI a6), some (vI a7), some (vI x8_120), none] [] := by
        refine kx_iinc 77 F 8 (v := x8_120 + 1) (lo' := [some (vR G 163), some (vI a1), some (vI a2), some (vI a3), some (vI a4), some (vI a5), some (vI a6), some (vI a7), some (vI (x8_120 + 1)), none]) dX12_isRule_74 rfl (by omega) (by decide) rfl rfl rfl ?_
        refine kx_goto 3 F dX12_isRule_77 (by decide) ?_
        exact ih_123 _ (by omega) (x8_120 + 1) (by omega) rfl
      refine kx_icmp_ne 30 F 74 dX12_isRule_27 (by decide) rfl (by omega) (by omega) (fun h_144 => ?_) (fun h_144 => ?_)
      · refine kx_drop 9 (lo' := [some (vR G 163), some (vI a1), some (vI a2), some (vI a3), some (vI a4), some (vI a5), some (vI a6), some (vI a7), some (vI x8_120), none]) rfl ?_
        exact J_142 
      · refine kx_aload_n 31 F 0 dX12_isRule_30 rfl rfl rfl ?_
        refine kx_getr 34 F fl_X12_7 kd_163 rfl rfl (j := 0) rfl dX12_isRule_31 (v := 164) (uq_164 (Inv.r hI_M kd_163 rfl 0 rfl rfl)) rfl ?_
        refine kx_iload 36 F 9 dX12_isRule_34 rfl rfl ?_
        refine kx_iconst 37 F dX12_isRule_36 rfl ?_
        refine kx_iadd 38 F (v := a1 + 85 * a2 + 4 * x8_120 + 106) dX12_isRule_37 (by omega) rfl ?_
        refine kx_iald 39 F kd_164 rfl rfl (by omega) (by decide) dX12_isRule_38 (v := (M 164 (a1 + 85 * a2 + 4 * x8_120 + 106))) rfl rfl ?_
        have ha_145 : atlo (a1 + 85 * a2 + 4 * x8_120 + 106) = 0 ∧ athi (a1 + 85 * a2 + 4 * x8_120 + 106) = 2 := at_r (a1 + 85 * a2 + 4 * x8_120 + 106) 0 a2 x8_120 1 (by omega) (by omega) (by omega) (by decide)
        have h_146 := Inv.g hI_M kd_164 rfl (a1 + 85 * a2 + 4 * x8_120 + 106) (a := 0) (b := 2) ha_145.1 ha_145.2
        refine kx_iload 41 F 5 dX12_isRule_39 rfl rfl ?_
        refine kx_icmp_ne 44 F 74 dX12_isRule_41 (by decide) rfl (by omega) (by omega) (fun h_147 => ?_) (fun h_147 => ?_)
        · refine kx_drop 9 (lo' := [some (vR G 163), some (vI a1), some (vI a2), some (vI a3), some (vI a4), some (vI a5), some (vI a6), some (vI a7), some (vI x8_120), none]) rfl ?_
          exact J_142 
        · refine kx_aload_n 45 F 0 dX12_isRule_44 rfl rfl rfl ?_
          refine kx_getr 48 F fl_X12_7 kd_163 rfl rfl (j := 0) rfl dX12_isRule_45 (v := 164) (uq_164 (Inv.r hI_M kd_163 rfl 0 rfl rfl)) rfl ?_
          refine kx_iload 50 F 9 dX12_isRule_48 rfl rfl ?_
          refine kx_iconst 51 F dX12_isRule_50 rfl ?_
          refine kx_iadd 52 F (v := a1 + 85 * a2 + 4 * x8_120 + 107) dX12_isRule_51 (by omega) rfl ?_
          refine kx_iald 53 F kd_164 rfl rfl (by omega) (by decide) dX12_isRule_52 (v := (M 164 (a1 + 85 * a2 + 4 * x8_120 + 107))) rfl rfl ?_
          have ha_148 : atlo (a1 + 85 * a2 + 4 * x8_120 + 107) = 0 ∧ athi (a1 + 85 * a2 + 4 * x8_120 + 107) = 2 := at_r (a1 + 85 * a2 + 4 * x8_120 + 107) 0 a2 x8_120 2 (by omega) (by omega) (by omega) (by decide)
          have h_149 := Inv.g hI_M kd_164 rfl (a1 + 85 * a2 + 4 * x8_120 + 107) (a := 0) (b := 2) ha_148.1 ha_148.2
          refine kx_iload 55 F 6 dX12_isRule_53 rfl rfl ?_
          refine kx_icmp_ne 58 F 74 dX12_isRule_55 (by decide) rfl (by omega) (by omega) (fun h_150 => ?_) (fun h_150 => ?_)
          · refine kx_drop 9 (lo' := [some (vR G 163), some (vI a1), some (vI a2), some (vI a3), some (vI a4), some (vI a5), some (vI a6), some (vI a7), some (vI x8_120), none]) rfl ?_
            exact J_142 
          · refine kx_aload_n 59 F 0 dX12_isRule_58 rfl rfl rfl ?_
            refine kx_getr 62 F fl_X12_7 kd_163 rfl rfl (j := 0) rfl dX12_isRule_59 (v := 164) (uq_164 (Inv.r hI_M kd_163 rfl 0 rfl rfl)) rfl ?_
            refine kx_iload 64 F 9 dX12_isRule_62 rfl rfl ?_
            refine kx_iconst 65 F dX12_isRule_64 rfl ?_
            refine kx_iadd 66 F (v := a1 + 85 * a2 + 4 * x8_120 + 108) dX12_isRule_65 (by omega) rfl ?_
            refine kx_iald 67 F kd_164 rfl rfl (by omega) (by decide) dX12_isRule_66 (v := (M 164 (a1 + 85 * a2 + 4 * x8_120 + 108))) rfl rfl ?_
            have ha_151 : atlo (a1 + 85 * a2 + 4 * x8_120 + 108) = (-1) ∧ athi (a1 + 85 * a2 + 4 * x8_120 + 108) = 2 := at_r (a1 + 85 * a2 + 4 * x8_120 + 108) 0 a2 x8_120 3 (by omega) (by omega) (by omega) (by decide)
            have h_152 := Inv.g hI_M kd_164 rfl (a1 + 85 * a2 + 4 * x8_120 + 108) (a := (-1)) (b := 2) ha_151.1 ha_151.2
            refine kx_iload 69 F 7 dX12_isRule_67 rfl rfl ?_
            refine kx_icmp_ne 72 F 74 dX12_isRule_69 (by decide) rfl (by omega) (by omega) (fun h_153 => ?_) (fun h_153 => ?_)
            · refine kx_drop 9 (lo' := [some (vR G 163), some (vI a1), some (vI a2), some (vI a3), some (vI a4), some (vI a5), some (vI a6), some (vI a7), some (vI x8_120), none]) rfl ?_
              exact J_142 
            · refine kx_iconst 73 F dX12_isRule_72 rfl ?_
              exact kx_zret F hQ (by omega) ⟨rfl, (by omega)⟩ dX12_isRule_73
  exact L_121 _ 0 (by omega) rfl
set_option maxHeartbeats 4000000 in
set_option maxRecDepth 100000 in
theorem c_isRuleN (G : KG) (l : Launch) (M : Mem) (a1 : Int) (a2 : Int) (a3 : Int) (a4 : Int) (a5 : Int) (a6 : Int) (a7 : Int) (hI_M : Inv true M) (hpre : -2147483648 ≤ a1 ∧ a1 ≤ 2147483647 ∧ -2147483648 ≤ a2 ∧ a2 ≤ 2147483647 ∧ -2147483648 ≤ a3 ∧ a3 ≤ 2147483647 ∧ -2147483648 ≤ a4 ∧ a4 ≤ 2147483647 ∧ -2147483648 ≤ a5 ∧ a5 ≤ 2147483647 ∧ -2147483648 ≤ a6 ∧ a6 ≤ 2147483647 ∧ -2147483648 ≤ a7 ∧ a7 ≤ 2147483647 ∧ a1 = 1088 ∧ 0 ≤ a2 ∧ a2 ≤ 1 ∧ 0 ≤ a3 ∧ a3 ≤ 20) : KC true G l yX12_isRule cX12_isRule 10 (some .boolean) (2, 43) [vR G 163, vI a1, vI a2, vI a3, vI a4, vI a5, vI a6, vI a7] M (fun A => kQi true G A (fun (r : Int) (N : Mem) => M = N ∧ (0 ≤ r ∧ r ≤ 1))) := by
  refine kx_met (lo := [some (vR G 163), some (vI a1), some (vI a2), some (vI a3), some (vI a4), some (vI a5), some (vI a6), some (vI a7), none, none]) (by decide) (Nat.le_of_ble_eq_true rfl) rfl ?_
  intro X F hQ
  refine kx_iconst 1 F dX12_isRule_0 rfl ?_
  refine kx_istore 3 F 8 (lo' := [some (vR G 163), some (vI a1), some (vI a2), some (vI a3), some (vI a4), some (vI a5), some (vI a6), some (vI a7), some (vI 0), none]) dX12_isRule_1 (by decide) rfl rfl rfl ?_
  have L_121 : ∀ (n_122 : Nat) (x8_120 : Int), 0 ≤ x8_120 ∧ x8_120 ≤ 20 → (20 - (x8_120)).toNat = n_122 → KJ true G X M 3 [some (vR G 163), some (vI a1), some (vI a2), some (vI a3), some (vI a4), some (vI a5), some (vI a6), some (vI a7), some (vI x8_120), none] [] := by
    intro n_122
    refine Nat.strongRecOn n_122 ?_
    intro n_122 ih_123 x8_120 h_124 hm_125
    refine kx_iload 5 F 8 dX12_isRule_3 rfl rfl ?_
    refine kx_iload_n 6 F 3 dX12_isRule_5 rfl rfl rfl ?_
    refine kx_icmp_ge 9 F 80 dX12_isRule_6 (by decide) rfl (by omega) (by omega) (fun h_126 => ?_) (fun h_126 => ?_)
    · refine kx_iconst 81 F dX12_isRule_80 rfl ?_
      exact kx_zret F hQ (by omega) ⟨rfl, (by omega)⟩ dX12_isRule_81
    · refine kx_iload_n 10 F 1 dX12_isRule_9 rfl rfl rfl ?_
      refine kx_iload_n 11 F 2 dX12_isRule_10 rfl rfl rfl ?_
      refine kx_iload 13 F 8 dX12_isRule_11 rfl rfl ?_
      refine kx_Si 16 F (As := [vI a1, vI a2, vI x8_120]) (st := []) sd_X12_243 (c_X12_ruleRow G l M a1 a2 x8_120 hI_M (by omega)) ⟨by decide, by decide⟩ rfl rfl (Nat.le_of_ble_eq_true rfl) dX12_isRule_13 rfl ?_
      intro r_127 N_128 q_129
      obtain ⟨rfl, q_129c⟩ := q_129
      refine kx_topi (e' := a1 + 85 * a2 + 4 * x8_120 + 105) (by omega) ?_
      refine kx_istore 18 F 9 (lo' := [some (vR G 163), some (vI a1), some (vI a2), some (vI a3), some (vI a4), some (vI a5), some (vI a6), some (vI a7), some (vI x8_120), some (vI (a1 + 85 * a2 + 4 * x8_120 + 105))]) dX12_isRule_16 (by decide) rfl rfl rfl ?_
      refine kx_aload_n 19 F 0 dX12_isRule_18 rfl rfl rfl ?_
      refine kx_getr 22 F fl_X12_7 kd_163 rfl rfl (j := 0) rfl dX12_isRule_19 (v := 164) (uq_164 (Inv.r hI_M kd_163 rfl 0 rfl rfl)) rfl ?_
      refine kx_iload 24 F 9 dX12_isRule_22 rfl rfl ?_
      refine kx_iald 25 F kd_164 rfl rfl (by omega) (by decide) dX12_isRule_24 (v := (M 164 (a1 + 85 * a2 + 4 * x8_120 + 105))) rfl rfl ?_
      have ha_130 : atlo (a1 + 85 * a2 + 4 * x8_120 + 105) = 0 ∧ athi (a1 + 85 * a2 + 4 * x8_120 + 105) = 5 := at_r (a1 + 85 * a2 + 4 * x8_120 + 105) 4 a2 x8_120 0 (by omega) (by omega) (by omega) (by decide)
      have h_131 := Inv.g hI_M kd_164 rfl (a1 + 85 * a2 + 4 * x8_120 + 105) (a := 0) (b := 5) ha_130.1 ha_130.2
      refine kx_iload 27 F 4 dX12_isRule_25 rfl rfl ?_
      have J_142 : KJ true G X M 74 [some (vR G 163), some (vI a1), some (vI a2), some (vI a3), some (vI a4), some (vI a5), some (vI a6), some (vI a7), some (vI x8_120), none] [] := by
        refine kx_iinc 77 F 8 (v := x8_120 + 1) (lo' := [some (vR G 163), some (vI a1), some (vI a2), some (vI a3), some (vI a4), some (vI a5), some (vI a6), some (vI a7), some (vI (x8_120 + 1)), none]) dX12_isRule_74 rfl (by omega) (by decide) rfl rfl rfl ?_
        refine kx_goto 3 F dX12_isRule_77 (by decide) ?_
        exact ih_123 _ (by omega) (x8_120 + 1) (by omega) rfl
      refine kx_icmp_ne 30 F 74 dX12_isRule_27 (by decide) rfl (by omega) (by omega) (fun h_144 => ?_) (fun h_144 => ?_)
      · refine kx_drop 9 (lo' := [some (vR G 163), some (vI a1), some (vI a2), some (vI a3), some (vI a4), some (vI a5), some (vI a6), some (vI a7), some (vI x8_120), none]) rfl ?_
        exact J_142 
      · refine kx_aload_n 31 F 0 dX12_isRule_30 rfl rfl rfl ?_
        refine kx_getr 34 F fl_X12_7 kd_163 rfl rfl (j := 0) rfl dX12_isRule_31 (v := 164) (uq_164 (Inv.r hI_M kd_163 rfl 0 rfl rfl)) rfl ?_
        refine kx_iload 36 F 9 dX12_isRule_34 rfl rfl ?_
        refine kx_iconst 37 F dX12_isRule_36 rfl ?_
        refine kx_iadd 38 F (v := a1 + 85 * a2 + 4 * x8_120 + 106) dX12_isRule_37 (by omega) rfl ?_
        refine kx_iald 39 F kd_164 rfl rfl (by omega) (by decide) dX12_isRule_38 (v := (M 164 (a1 + 85 * a2 + 4 * x8_120 + 106))) rfl rfl ?_
        have ha_145 : atlo (a1 + 85 * a2 + 4 * x8_120 + 106) = 0 ∧ athi (a1 + 85 * a2 + 4 * x8_120 + 106) = 2 := at_r (a1 + 85 * a2 + 4 * x8_120 + 106) 4 a2 x8_120 1 (by omega) (by omega) (by omega) (by decide)
        have h_146 := Inv.g hI_M kd_164 rfl (a1 + 85 * a2 + 4 * x8_120 + 106) (a := 0) (b := 2) ha_145.1 ha_145.2
        refine kx_iload 41 F 5 dX12_isRule_39 rfl rfl ?_
        refine kx_icmp_ne 44 F 74 dX12_isRule_41 (by decide) rfl (by omega) (by omega) (fun h_147 => ?_) (fun h_147 => ?_)
        · refine kx_drop 9 (lo' := [some (vR G 163), some (vI a1), some (vI a2), some (vI a3), some (vI a4), some (vI a5), some (vI a6), some (vI a7), some (vI x8_120), none]) rfl ?_
          exact J_142 
        · refine kx_aload_n 45 F 0 dX12_isRule_44 rfl rfl rfl ?_
          refine kx_getr 48 F fl_X12_7 kd_163 rfl rfl (j := 0) rfl dX12_isRule_45 (v := 164) (uq_164 (Inv.r hI_M kd_163 rfl 0 rfl rfl)) rfl ?_
          refine kx_iload 50 F 9 dX12_isRule_48 rfl rfl ?_
          refine kx_iconst 51 F dX12_isRule_50 rfl ?_
          refine kx_iadd 52 F (v := a1 + 85 * a2 + 4 * x8_120 + 107) dX12_isRule_51 (by omega) rfl ?_
          refine kx_iald 53 F kd_164 rfl rfl (by omega) (by decide) dX12_isRule_52 (v := (M 164 (a1 + 85 * a2 + 4 * x8_120 + 107))) rfl rfl ?_
          have ha_148 : atlo (a1 + 85 * a2 + 4 * x8_120 + 107) = 0 ∧ athi (a1 + 85 * a2 + 4 * x8_120 + 107) = 2 := at_r (a1 + 85 * a2 + 4 * x8_120 + 107) 4 a2 x8_120 2 (by omega) (by omega) (by omega) (by decide)
          have h_149 := Inv.g hI_M kd_164 rfl (a1 + 85 * a2 + 4 * x8_120 + 107) (a := 0) (b := 2) ha_148.1 ha_148.2
          refine kx_iload 55 F 6 dX12_isRule_53 rfl rfl ?_
          refine kx_icmp_ne 58 F 74 dX12_isRule_55 (by decide) rfl (by omega) (by omega) (fun h_150 => ?_) (fun h_150 => ?_)
          · refine kx_drop 9 (lo' := [some (vR G 163), some (vI a1), some (vI a2), some (vI a3), some (vI a4), some (vI a5), some (vI a6), some (vI a7), some (vI x8_120), none]) rfl ?_
            exact J_142 
          · refine kx_aload_n 59 F 0 dX12_isRule_58 rfl rfl rfl ?_
            refine kx_getr 62 F fl_X12_7 kd_163 rfl rfl (j := 0) rfl dX12_isRule_59 (v := 164) (uq_164 (Inv.r hI_M kd_163 rfl 0 rfl rfl)) rfl ?_
            refine kx_iload 64 F 9 dX12_isRule_62 rfl rfl ?_
            refine kx_iconst 65 F dX12_isRule_64 rfl ?_
            refine kx_iadd 66 F (v := a1 + 85 * a2 + 4 * x8_120 + 108) dX12_isRule_65 (by omega) rfl ?_
            refine kx_iald 67 F kd_164 rfl rfl (by omega) (by decide) dX12_isRule_66 (v := (M 164 (a1 + 85 * a2 + 4 * x8_120 + 108))) rfl rfl ?_
            have ha_151 : atlo (a1 + 85 * a2 + 4 * x8_120 + 108) = (-1) ∧ athi (a1 + 85 * a2 + 4 * x8_120 + 108) = 2 := at_r (a1 + 85 * a2 + 4 * x8_120 + 108) 4 a2 x8_120 3 (by omega) (by omega) (by omega) (by decide)
            have h_152 := Inv.g hI_M kd_164 rfl (a1 + 85 * a2 + 4 * x8_120 + 108) (a := (-1)) (b := 2) ha_151.1 ha_151.2
            refine kx_iload 69 F 7 dX12_isRule_67 rfl rfl ?_
            refine kx_icmp_ne 72 F 74 dX12_isRule_69 (by decide) rfl (by omega) (by omega) (fun h_153 => ?_) (fun h_153 => ?_)
            · refine kx_drop 9 (lo' := [some (vR G 163), some (vI a1), some (vI a2), some (vI a3), some (vI a4), some (vI a5), some (vI a6), some (vI a7), some (vI x8_120), none]) rfl ?_
              exact J_142 
            · refine kx_iconst 73 F dX12_isRule_72 rfl ?_
              exact kx_zret F hQ (by omega) ⟨rfl, (by omega)⟩ dX12_isRule_73
  exact L_121 _ 0 (by omega) rfl
theorem dX12_states_0 : decode cX12_states 0 = .ok (.sipush 1358, 3) := by decide +kernel
theorem dX12_states_3 : decode cX12_states 3 = .ok (.istore_n 3, 1) := by decide +kernel
theorem dX12_states_4 : decode cX12_states 4 = .ok (.aload_n 0, 1) := by decide +kernel
theorem dX12_states_5 : decode cX12_states 5 = .ok (.invokevirtual 199, 3) := by decide +kernel
theorem dX12_states_8 : decode cX12_states 8 = .ok (.aload_n 0, 1) := by decide +kernel
theorem dX12_states_9 : decode cX12_states 9 = .ok (.getfield 168, 3) := by decide +kernel
theorem dX12_states_12 : decode cX12_states 12 = .ok (.iconst 3, 1) := by decide +kernel
theorem dX12_states_13 : decode cX12_states 13 = .ok (.if_icmp .ne 85, 3) := by decide +kernel
theorem dX12_states_16 : decode cX12_states 16 = .ok (.aload_n 0, 1) := by decide +kernel
theorem dX12_states_17 : decode cX12_states 17 = .ok (.getfield 165, 3) := by decide +kernel
theorem dX12_states_20 : decode cX12_states 20 = .ok (.ifCond .lt 39, 3) := by decide +kernel
theorem dX12_states_23 : decode cX12_states 23 = .ok (.aload_n 0, 1) := by decide +kernel
theorem dX12_states_24 : decode cX12_states 24 = .ok (.getfield 165, 3) := by decide +kernel
theorem dX12_states_27 : decode cX12_states 27 = .ok (.aload_n 0, 1) := by decide +kernel
theorem dX12_states_28 : decode cX12_states 28 = .ok (.getfield 7, 3) := by decide +kernel
theorem dX12_states_31 : decode cX12_states 31 = .ok (.iload_n 1, 1) := by decide +kernel
theorem dX12_states_32 : decode cX12_states 32 = .ok (.iaload, 1) := by decide +kernel
theorem dX12_states_33 : decode cX12_states 33 = .ok (.if_icmp .ge 26, 3) := by decide +kernel
theorem dX12_states_36 : decode cX12_states 36 = .ok (.aload_n 0, 1) := by decide +kernel
theorem dX12_states_37 : decode cX12_states 37 = .ok (.aload_n 0, 1) := by decide +kernel
theorem dX12_states_38 : decode cX12_states 38 = .ok (.getfield 7, 3) := by decide +kernel
theorem dX12_states_41 : decode cX12_states 41 = .ok (.iload_n 2, 1) := by decide +kernel
theorem dX12_states_42 : decode cX12_states 42 = .ok (.iaload, 1) := by decide +kernel
theorem dX12_states_43 : decode cX12_states 43 = .ok (.aload_n 0, 1) := by decide +kernel
theorem dX12_states_44 : decode cX12_states 44 = .ok (.getfield 165, 3) := by decide +kernel
theorem dX12_states_47 : decode cX12_states 47 = .ok (.invokevirtual 239, 3) := by decide +kernel
theorem dX12_states_50 : decode cX12_states 50 = .ok (.ifCond .eq 9, 3) := by decide +kernel
theorem dX12_states_53 : decode cX12_states 53 = .ok (.aload_n 0, 1) := by decide +kernel
theorem dX12_states_54 : decode cX12_states 54 = .ok (.iconst 5, 1) := by decide +kernel
theorem dX12_states_55 : decode cX12_states 55 = .ok (.invokevirtual 205, 3) := by decide +kernel
theorem dX12_states_58 : decode cX12_states 58 = .ok (.ireturn, 1) := by decide +kernel
theorem dX12_states_59 : decode cX12_states 59 = .ok (.aload_n 0, 1) := by decide +kernel
theorem dX12_states_60 : decode cX12_states 60 = .ok (.iload_n 3, 1) := by decide +kernel
theorem dX12_states_61 : decode cX12_states 61 = .ok (.iconst 0, 1) := by decide +kernel
theorem dX12_states_62 : decode cX12_states 62 = .ok (.aload_n 0, 1) := by decide +kernel
theorem dX12_states_63 : decode cX12_states 63 = .ok (.getfield 7, 3) := by decide +kernel
theorem dX12_states_66 : decode cX12_states 66 = .ok (.iload_n 1, 1) := by decide +kernel
theorem dX12_states_67 : decode cX12_states 67 = .ok (.iaload, 1) := by decide +kernel
theorem dX12_states_68 : decode cX12_states 68 = .ok (.iconst 1, 1) := by decide +kernel
theorem dX12_states_69 : decode cX12_states 69 = .ok (.isub, 1) := by decide +kernel
theorem dX12_states_70 : decode cX12_states 70 = .ok (.invokevirtual 231, 3) := by decide +kernel
theorem dX12_states_73 : decode cX12_states 73 = .ok (.ifCond .ne 5, 3) := by decide +kernel
theorem dX12_states_76 : decode cX12_states 76 = .ok (.iconst 0, 1) := by decide +kernel
theorem dX12_states_77 : decode cX12_states 77 = .ok (.ireturn, 1) := by decide +kernel
theorem dX12_states_78 : decode cX12_states 78 = .ok (.aload_n 0, 1) := by decide +kernel
theorem dX12_states_79 : decode cX12_states 79 = .ok (.getfield 7, 3) := by decide +kernel
theorem dX12_states_82 : decode cX12_states 82 = .ok (.iload_n 2, 1) := by decide +kernel
theorem dX12_states_83 : decode cX12_states 83 = .ok (.dup2, 1) := by decide +kernel
theorem dX12_states_84 : decode cX12_states 84 = .ok (.iaload, 1) := by decide +kernel
theorem dX12_states_85 : decode cX12_states 85 = .ok (.iconst 1, 1) := by decide +kernel
theorem dX12_states_86 : decode cX12_states 86 = .ok (.aload_n 0, 1) := by decide +kernel
theorem dX12_states_87 : decode cX12_states 87 = .ok (.getfield 7, 3) := by decide +kernel
theorem dX12_states_90 : decode cX12_states 90 = .ok (.iload_n 3, 1) := by decide +kernel
theorem dX12_states_91 : decode cX12_states 91 = .ok (.iaload, 1) := by decide +kernel
theorem dX12_states_92 : decode cX12_states 92 = .ok (.ishl, 1) := by decide +kernel
theorem dX12_states_93 : decode cX12_states 93 = .ok (.ior, 1) := by decide +kernel
theorem dX12_states_94 : decode cX12_states 94 = .ok (.iastore, 1) := by decide +kernel
theorem dX12_states_95 : decode cX12_states 95 = .ok (.goto (-87), 3) := by decide +kernel
theorem dX12_states_98 : decode cX12_states 98 = .ok (.iconst 1, 1) := by decide +kernel
theorem dX12_states_99 : decode cX12_states 99 = .ok (.ireturn, 1) := by decide +kernel
abbrev f_c_X12_states : List (Nat × Int) := [(64, 12), (64, 13), (64, 14), (64, 15), (64, 17), (64, 18), (65, -1)]
set_option maxHeartbeats 4000000 in
set_option maxRecDepth 100000 in
theorem c_X12_states (G : KG) (l : Launch) (M : Mem) (a1 : Int) (a2 : Int) (hI_M : Inv true M) (hpre : -2147483648 ≤ a1 ∧ a1 ≤ 2147483647 ∧ -2147483648 ≤ a2 ∧ a2 ≤ 2147483647 ∧ 0 ≤ a1 ∧ a1 ≤ 1359 ∧ 0 ≤ a2 ∧ a2 ≤ 1359 ∧ (atlo a1) ≥ 0 ∧ (athi a1) ≤ 3 ∧ (atlo a2) = 0 ∧ (athi a2) = 7 ∧ (a2 = 1190 ∨ a2 = 1191 ∨ a2 = 1275 ∨ a2 = 1276)) (hR : R4 M) : KC true G l yX12_states cX12_states 4 (some .boolean) (3, 65) [vR G 163, vI a1, vI a2] M (fun A => kQi true G A (fun (r : Int) (N : Mem) => Inv true N ∧ Fr f_c_X12_states M N ∧ ((r = 1 ∧ 5 * (N 163 14) - (N 163 12) ≥ 5 * (M 163 14) - (M 163 12)) ∨ (r = 0 ∧ 5 * (N 163 14) - (N 163 12) ≥ 5 * (M 163 14) - (M 163 12) ∧ (N 163 18) ≠ 0)) ∧ (LO N M ∧ (r = 1 → R4 N)))) := by
  refine kx_met (lo := [some (vR G 163), some (vI a1), some (vI a2), none]) (by decide) (Nat.le_of_ble_eq_true rfl) rfl ?_
  intro X F hQ
  have hF_M : Fr f_c_X12_states M M := Fr.rf _ _
  have h_1 := Inv.g hI_M kd_163 rfl 14 (a := 0) (b := 900) rfl rfl
  have h_2 := Inv.g hI_M kd_163 rfl 12 (a := 0) (b := 4) rfl rfl
  refine kx_sipush 3 F dX12_states_0 (by decide) rfl ?_
  refine kx_istore_n 4 F 3 (lo' := [some (vR G 163), some (vI a1), some (vI a2), some (vI 1358)]) dX12_states_3 rfl (by decide) rfl rfl rfl ?_
  refine kx_aload_n 5 F 0 dX12_states_4 rfl rfl rfl ?_
  refine kx_Vv 8 (ci := 0) F (As := []) (st := []) vd_X12_199 (c_X12_ahead G l M  hI_M) kd_163 rfl rfl rfl ⟨by decide, by decide⟩ rfl rfl (Nat.le_of_ble_eq_true rfl) dX12_states_5 rfl ?_
  intro N_3 q_4
  obtain ⟨hI_N_3, hG_N_3, q_4c⟩ := q_4
  have hF_N_3 : Fr f_c_X12_states M N_3 := Fr.c hF_M hG_N_3 rfl
  have h_5 := Inv.g hI_N_3 kd_163 rfl 12 (a := 0) (b := 4) rfl rfl
  have h_6 := Inv.g hI_N_3 kd_163 rfl 14 (a := 0) (b := 900) rfl rfl
  have h_7 := Inv.g hI_N_3 kd_163 rfl 12 (a := 0) (b := 4) rfl rfl
  have h_8 := Inv.g hI_N_3 kd_163 rfl 14 (a := 0) (b := 900) rfl rfl
  rcases q_4c with q_4c | q_4c
  · have L_100 : ∀ (n_101 : Nat) (N_99 : Mem), Inv true N_99 → Fr f_c_X12_states M N_99 → LO N_99 M → R4 N_99 → (N_99 163 14) ≤ 900 ∧ 5 * (N_99 163 14) - (N_99 163 12) ≥ 5 * (M 163 14) - (M 163 12) ∧ (N_99 163 12) ≥ 0 ∧ (N_99 163 12) ≤ 4 → (5 * (900 - N_99 163 14) + N_99 163 12).toNat = n_101 → KJ true G X N_99 8 [some (vR G 163), some (vI a1), some (vI a2), some (vI 1358)] [] := by
      intro n_101
      refine Nat.strongRecOn n_101 ?_
      intro n_101 ih_102  N_99 hI_N_99 hF_N_99 hp_105 hp_106 h_103 hm_104
      refine kx_aload_n 9 F 0 dX12_states_8 rfl rfl rfl ?_
      refine kx_geti 12 F fl_X12_168 kd_163 rfl rfl (j := 12) rfl dX12_states_9 (v := (N_99 163 12)) rfl rfl ?_
      have h_107 := Inv.g hI_N_99 kd_163 rfl 12 (a := 0) (b := 4) rfl rfl
      refine kx_iconst 13 F dX12_states_12 rfl ?_
      refine kx_icmp_ne 16 F 98 dX12_states_13 (by decide) rfl (by omega) (by decide) (fun h_108 => ?_) (fun h_108 => ?_)
      · refine kx_iconst 99 F dX12_states_98 rfl ?_
        have h_109 := Inv.g hI_N_99 kd_163 rfl 14 (a := 0) (b := 900) rfl rfl
        have h_110 := Inv.g hI_N_99 kd_163 rfl 18 (a := (-2147483648)) (b := 2147483647) rfl rfl
        exact kx_zret F hQ (by omega) ⟨hI_N_99, hF_N_99, (by omega), ⟨hp_105, (fun _ => hp_106)⟩⟩ dX12_states_99
      · refine kx_aload_n 17 F 0 dX12_states_16 rfl rfl rfl ?_
        refine kx_geti 20 F fl_X12_165 kd_163 rfl rfl (j := 15) rfl dX12_states_17 (v := (N_99 163 15)) rfl rfl ?_
        have h_111 := Inv.g hI_N_99 kd_163 rfl 15 (a := (-2147483648)) (b := 2147483647) rfl rfl
        refine kx_if_lt 23 F 59 dX12_states_20 (by decide) rfl (by omega) (fun h_112 => ?_) (fun h_112 => ?_)
        · refine kx_aload_n 60 F 0 dX12_states_59 rfl rfl rfl ?_
          refine kx_iload_n 61 F 3 dX12_states_60 rfl rfl rfl ?_
          refine kx_iconst 62 F dX12_states_61 rfl ?_
          refine kx_aload_n 63 F 0 dX12_states_62 rfl rfl rfl ?_
          refine kx_getr 66 F fl_X12_7 kd_163 rfl rfl (j := 0) rfl dX12_states_63 (v := 164) (uq_164 (Inv.r hI_N_99 kd_163 rfl 0 rfl rfl)) rfl ?_
          refine kx_iload_n 67 F 1 dX12_states_66 rfl rfl rfl ?_
          refine kx_iald 68 F kd_164 rfl rfl (by omega) (by decide) dX12_states_67 (v := (N_99 164 a1)) rfl rfl ?_
          have h_113 := Inv.g hI_N_99 kd_164 rfl a1 (a := atlo a1) (b := athi a1) rfl rfl
          have h_114 := at_w a1
          refine kx_iconst 69 F dX12_states_68 rfl ?_
          refine kx_isub 70 F (v := (N_99 164 a1) - 1) dX12_states_69 rfl rfl ?_
          have ha_115 : atlo 1358 = (-2147483648) ∧ athi 1358 = 2147483647 := at_c 1358 4 (o := 270) (lo := (-2147483648)) (hi := 2147483647) (by omega) (by decide) (by decide) (by decide)
          refine kx_Vi 73 (ci := 0) F (As := [vI 1358, vI 0, vI ((N_99 164 a1) - 1)]) (st := []) vd_X12_231 (c_X12_number G l N_99 1358 0 ((N_99 164 a1) - 1) hI_N_99 (by omega)) kd_163 rfl rfl rfl ⟨by decide, by decide⟩ rfl rfl (Nat.le_of_ble_eq_true rfl) dX12_states_70 rfl ?_
          intro r_116 N_117 q_118
          obtain ⟨hI_N_117, hG_N_117, q_118c, hx_N_117⟩ := q_118
          have hF_N_117 : Fr f_c_X12_states M N_117 := Fr.c hF_N_99 hG_N_117 rfl
          have h_119 := Inv.g hI_N_99 kd_163 rfl 14 (a := 0) (b := 900) rfl rfl
          have h_120 := Inv.g hI_N_117 kd_163 rfl 14 (a := 0) (b := 900) rfl rfl
          have h_121 := Inv.g hI_N_117 kd_163 rfl 12 (a := 0) (b := 4) rfl rfl
          have h_122 := Inv.g hI_N_99 kd_163 rfl 14 (a := 0) (b := 900) rfl rfl
          have h_123 := Inv.g hI_N_117 kd_163 rfl 14 (a := 0) (b := 900) rfl rfl
          have h_124 := Inv.g hI_N_117 kd_163 rfl 12 (a := 0) (b := 4) rfl rfl
          have h_125 := Inv.g hI_N_117 kd_163 rfl 18 (a := (-2147483648)) (b := 2147483647) rfl rfl
          rcases q_118c with q_118c | q_118c
          · refine kx_if_ne 76 F 78 dX12_states_73 (by decide) rfl (by omega) (fun h_126 => ?_) (fun h_126 => (by exfalso; omega))
            refine kx_aload_n 79 F 0 dX12_states_78 rfl rfl rfl ?_
            refine kx_getr 82 F fl_X12_7 kd_163 rfl rfl (j := 0) rfl dX12_states_79 (v := 164) (uq_164 (Inv.r hI_N_117 kd_163 rfl 0 rfl rfl)) rfl ?_
            refine kx_iload_n 83 F 2 dX12_states_82 rfl rfl rfl ?_
            refine kx_dup2 84 F dX12_states_83 rfl rfl rfl ?_
            refine kx_iald 85 F kd_164 rfl rfl (by omega) (by decide) dX12_states_84 (v := (N_117 164 a2)) rfl rfl ?_
            have h_127 := Inv.g hI_N_117 kd_164 rfl a2 (a := atlo a2) (b := athi a2) rfl rfl
            have h_128 := at_w a2
            refine kx_iconst 86 F dX12_states_85 rfl ?_
            refine kx_aload_n 87 F 0 dX12_states_86 rfl rfl rfl ?_
            refine kx_getr 90 F fl_X12_7 kd_163 rfl rfl (j := 0) rfl dX12_states_87 (v := 164) (uq_164 (Inv.r hI_N_117 kd_163 rfl 0 rfl rfl)) rfl ?_
            refine kx_iload_n 91 F 3 dX12_states_90 rfl rfl rfl ?_
            refine kx_iald 92 F kd_164 rfl rfl (by omega) (by decide) dX12_states_91 (v := (N_117 164 1358)) rfl rfl ?_
            have h_129 := Inv.g hI_N_117 kd_164 rfl 1358 (a := (-2147483648)) (b := 2147483647) ha_115.1 ha_115.2
            refine kx_ishl 93 F (v := (zshl 1 (N_117 164 1358))) dX12_states_92 rfl rfl ?_
            have h_130 := zshl_1 (b := (N_117 164 1358)) 2 (by decide) (by omega)
            refine kx_ior 94 F (v := (zor (N_117 164 a2) (zshl 1 (N_117 164 1358)))) dX12_states_93 rfl rfl ?_
            have h_131 : 0 ≤ (zor (N_117 164 a2) (zshl 1 (N_117 164 1358))) ∧ (zor (N_117 164 a2) (zshl 1 (N_117 164 1358))) < 8 := zor_lt (a := (N_117 164 a2)) (b := (zshl 1 (N_117 164 1358))) 3 (by decide) (by omega) (by omega)
            refine kx_iast 95 F kd_164 rfl rfl (by omega) (by decide) dX12_states_94 rfl ?_
            intro N_132 hM_N_132
            have h_133 := at_0 a2
            have h_134 := at_q a2 a2 (by omega)
            have hI_N_132 : Inv true N_132 := Inv.u hI_N_117 hM_N_132 kd_164 (a := atlo a2) (b := athi a2) rfl rfl rfl (by omega)
            have hF_N_132 : Fr f_c_X12_states M N_132 := Fr.u hF_N_117 hM_N_132 kd_164 rfl
            refine kx_goto 8 F dX12_states_95 (by decide) ?_
            have e_135 : (N_132 163 14) = (N_117 163 14) := by rw [hM_N_132, mu_k kd_163 kd_164 rfl]
            have e_136 : (N_132 163 14) = (N_117 163 14) := by rw [hM_N_132, mu_k kd_163 kd_164 rfl]
            have e_137 : (N_132 163 12) = (N_117 163 12) := by rw [hM_N_132, mu_k kd_163 kd_164 rfl]
            have e_138 : (N_132 163 12) = (N_117 163 12) := by rw [hM_N_132, mu_k kd_163 kd_164 rfl]
            have e_139 : (N_132 163 12) = (N_117 163 12) := by rw [hM_N_132, mu_k kd_163 kd_164 rfl]
            exact ih_102 _ (by omega) N_132 hI_N_132 hF_N_132 (LO.sta (LO.ne hp_105 hx_N_117 (by omega)) hM_N_132 (by omega)) (R4.sta (R4.ne hp_106 hI_N_99 hx_N_117 (by omega)) hI_N_117 hM_N_132 (by omega)) (by omega) rfl
          · refine kx_if_ne 76 F 78 dX12_states_73 (by decide) rfl (by omega) (fun h_140 => (by exfalso; omega)) (fun h_140 => ?_)
            refine kx_iconst 77 F dX12_states_76 rfl ?_
            exact kx_zret F hQ (by omega) ⟨hI_N_117, hF_N_117, (by omega), ⟨(LO.ne hp_105 hx_N_117 (by omega)), (fun h => absurd h (by omega))⟩⟩ dX12_states_77
        · refine kx_aload_n 24 F 0 dX12_states_23 rfl rfl rfl ?_
          refine kx_geti 27 F fl_X12_165 kd_163 rfl rfl (j := 15) rfl dX12_states_24 (v := (N_99 163 15)) rfl rfl ?_
          refine kx_aload_n 28 F 0 dX12_states_27 rfl rfl rfl ?_
          refine kx_getr 31 F fl_X12_7 kd_163 rfl rfl (j := 0) rfl dX12_states_28 (v := 164) (uq_164 (Inv.r hI_N_99 kd_163 rfl 0 rfl rfl)) rfl ?_
          refine kx_iload_n 32 F 1 dX12_states_31 rfl rfl rfl ?_
          refine kx_iald 33 F kd_164 rfl rfl (by omega) (by decide) dX12_states_32 (v := (N_99 164 a1)) rfl rfl ?_
          have h_141 := Inv.g hI_N_99 kd_164 rfl a1 (a := atlo a1) (b := athi a1) rfl rfl
          have h_142 := at_w a1
          refine kx_icmp_ge 36 F 59 dX12_states_33 (by decide) rfl (by omega) (by omega) (fun h_143 => ?_) (fun h_143 => ?_)
          · refine kx_aload_n 60 F 0 dX12_states_59 rfl rfl rfl ?_
            refine kx_iload_n 61 F 3 dX12_states_60 rfl rfl rfl ?_
            refine kx_iconst 62 F dX12_states_61 rfl ?_
            refine kx_aload_n 63 F 0 dX12_states_62 rfl rfl rfl ?_
            refine kx_getr 66 F fl_X12_7 kd_163 rfl rfl (j := 0) rfl dX12_states_63 (v := 164) (uq_164 (Inv.r hI_N_99 kd_163 rfl 0 rfl rfl)) rfl ?_
            refine kx_iload_n 67 F 1 dX12_states_66 rfl rfl rfl ?_
            refine kx_iald 68 F kd_164 rfl rfl (by omega) (by decide) dX12_states_67 (v := (N_99 164 a1)) rfl rfl ?_
            refine kx_iconst 69 F dX12_states_68 rfl ?_
            refine kx_isub 70 F (v := (N_99 164 a1) - 1) dX12_states_69 rfl rfl ?_
            have ha_144 : atlo 1358 = (-2147483648) ∧ athi 1358 = 2147483647 := at_c 1358 4 (o := 270) (lo := (-2147483648)) (hi := 2147483647) (by omega) (by decide) (by decide) (by decide)
            refine kx_Vi 73 (ci := 0) F (As := [vI 1358, vI 0, vI ((N_99 164 a1) - 1)]) (st := []) vd_X12_231 (c_X12_number G l N_99 1358 0 ((N_99 164 a1) - 1) hI_N_99 (by omega)) kd_163 rfl rfl rfl ⟨by decide, by decide⟩ rfl rfl (Nat.le_of_ble_eq_true rfl) dX12_states_70 rfl ?_
            intro r_145 N_146 q_147
            obtain ⟨hI_N_146, hG_N_146, q_147c, hx_N_146⟩ := q_147
            have hF_N_146 : Fr f_c_X12_states M N_146 := Fr.c hF_N_99 hG_N_146 rfl
            have h_148 := Inv.g hI_N_99 kd_163 rfl 14 (a := 0) (b := 900) rfl rfl
            have h_149 := Inv.g hI_N_146 kd_163 rfl 14 (a := 0) (b := 900) rfl rfl
            have h_150 := Inv.g hI_N_146 kd_163 rfl 12 (a := 0) (b := 4) rfl rfl
            have h_151 := Inv.g hI_N_99 kd_163 rfl 14 (a := 0) (b := 900) rfl rfl
            have h_152 := Inv.g hI_N_146 kd_163 rfl 14 (a := 0) (b := 900) rfl rfl
            have h_153 := Inv.g hI_N_146 kd_163 rfl 12 (a := 0) (b := 4) rfl rfl
            have h_154 := Inv.g hI_N_146 kd_163 rfl 18 (a := (-2147483648)) (b := 2147483647) rfl rfl
            rcases q_147c with q_147c | q_147c
            · refine kx_if_ne 76 F 78 dX12_states_73 (by decide) rfl (by omega) (fun h_155 => ?_) (fun h_155 => (by exfalso; omega))
              refine kx_aload_n 79 F 0 dX12_states_78 rfl rfl rfl ?_
              refine kx_getr 82 F fl_X12_7 kd_163 rfl rfl (j := 0) rfl dX12_states_79 (v := 164) (uq_164 (Inv.r hI_N_146 kd_163 rfl 0 rfl rfl)) rfl ?_
              refine kx_iload_n 83 F 2 dX12_states_82 rfl rfl rfl ?_
              refine kx_dup2 84 F dX12_states_83 rfl rfl rfl ?_
              refine kx_iald 85 F kd_164 rfl rfl (by omega) (by decide) dX12_states_84 (v := (N_146 164 a2)) rfl rfl ?_
              have h_156 := Inv.g hI_N_146 kd_164 rfl a2 (a := atlo a2) (b := athi a2) rfl rfl
              have h_157 := at_w a2
              refine kx_iconst 86 F dX12_states_85 rfl ?_
              refine kx_aload_n 87 F 0 dX12_states_86 rfl rfl rfl ?_
              refine kx_getr 90 F fl_X12_7 kd_163 rfl rfl (j := 0) rfl dX12_states_87 (v := 164) (uq_164 (Inv.r hI_N_146 kd_163 rfl 0 rfl rfl)) rfl ?_
              refine kx_iload_n 91 F 3 dX12_states_90 rfl rfl rfl ?_
              refine kx_iald 92 F kd_164 rfl rfl (by omega) (by decide) dX12_states_91 (v := (N_146 164 1358)) rfl rfl ?_
              have h_158 := Inv.g hI_N_146 kd_164 rfl 1358 (a := (-2147483648)) (b := 2147483647) ha_144.1 ha_144.2
              refine kx_ishl 93 F (v := (zshl 1 (N_146 164 1358))) dX12_states_92 rfl rfl ?_
              have h_159 := zshl_1 (b := (N_146 164 1358)) 2 (by decide) (by omega)
              refine kx_ior 94 F (v := (zor (N_146 164 a2) (zshl 1 (N_146 164 1358)))) dX12_states_93 rfl rfl ?_
              have h_160 : 0 ≤ (zor (N_146 164 a2) (zshl 1 (N_146 164 1358))) ∧ (zor (N_146 164 a2) (zshl 1 (N_146 164 1358))) < 8 := zor_lt (a := (N_146 164 a2)) (b := (zshl 1 (N_146 164 1358))) 3 (by decide) (by omega) (by omega)
              refine kx_iast 95 F kd_164 rfl rfl (by omega) (by decide) dX12_states_94 rfl ?_
              intro N_161 hM_N_161
              have h_162 := at_0 a2
              have h_163 := at_q a2 a2 (by omega)
              have hI_N_161 : Inv true N_161 := Inv.u hI_N_146 hM_N_161 kd_164 (a := atlo a2) (b := athi a2) rfl rfl rfl (by omega)
              have hF_N_161 : Fr f_c_X12_states M N_161 := Fr.u hF_N_146 hM_N_161 kd_164 rfl
              refine kx_goto 8 F dX12_states_95 (by decide) ?_
              have e_164 : (N_161 163 14) = (N_146 163 14) := by rw [hM_N_161, mu_k kd_163 kd_164 rfl]
              have e_165 : (N_161 163 14) = (N_146 163 14) := by rw [hM_N_161, mu_k kd_163 kd_164 rfl]
              have e_166 : (N_161 163 12) = (N_146 163 12) := by rw [hM_N_161, mu_k kd_163 kd_164 rfl]
              have e_167 : (N_161 163 12) = (N_146 163 12) := by rw [hM_N_161, mu_k kd_163 kd_164 rfl]
              have e_168 : (N_161 163 12) = (N_146 163 12) := by rw [hM_N_161, mu_k kd_163 kd_164 rfl]
              exact ih_102 _ (by omega) N_161 hI_N_161 hF_N_161 (LO.sta (LO.ne hp_105 hx_N_146 (by omega)) hM_N_161 (by omega)) (R4.sta (R4.ne hp_106 hI_N_99 hx_N_146 (by omega)) hI_N_146 hM_N_161 (by omega)) (by omega) rfl
            · refine kx_if_ne 76 F 78 dX12_states_73 (by decide) rfl (by omega) (fun h_169 => (by exfalso; omega)) (fun h_169 => ?_)
              refine kx_iconst 77 F dX12_states_76 rfl ?_
              exact kx_zret F hQ (by omega) ⟨hI_N_146, hF_N_146, (by omega), ⟨(LO.ne hp_105 hx_N_146 (by omega)), (fun h => absurd h (by omega))⟩⟩ dX12_states_77
          · refine kx_aload_n 37 F 0 dX12_states_36 rfl rfl rfl ?_
            refine kx_aload_n 38 F 0 dX12_states_37 rfl rfl rfl ?_
            refine kx_getr 41 F fl_X12_7 kd_163 rfl rfl (j := 0) rfl dX12_states_38 (v := 164) (uq_164 (Inv.r hI_N_99 kd_163 rfl 0 rfl rfl)) rfl ?_
            refine kx_iload_n 42 F 2 dX12_states_41 rfl rfl rfl ?_
            refine kx_iald 43 F kd_164 rfl rfl (by omega) (by decide) dX12_states_42 (v := (N_99 164 a2)) rfl rfl ?_
            have h_170 := Inv.g hI_N_99 kd_164 rfl a2 (a := atlo a2) (b := athi a2) rfl rfl
            have h_171 := at_w a2
            refine kx_aload_n 44 F 0 dX12_states_43 rfl rfl rfl ?_
            refine kx_geti 47 F fl_X12_165 kd_163 rfl rfl (j := 15) rfl dX12_states_44 (v := (N_99 163 15)) rfl rfl ?_
            refine kx_Vi 50 (ci := 0) F (As := [vI (N_99 164 a2), vI (N_99 163 15)]) (st := []) vd_X12_239 (c_X12_isIn G l N_99 (N_99 164 a2) (N_99 163 15) hI_N_99 (by omega)) kd_163 rfl rfl rfl ⟨by decide, by decide⟩ rfl rfl (Nat.le_of_ble_eq_true rfl) dX12_states_47 rfl ?_
            intro r_172 N_173 q_174
            obtain ⟨rfl, q_174c⟩ := q_174
            refine kx_if_eq 53 F 59 dX12_states_50 (by decide) rfl (by omega) (fun h_175 => ?_) (fun h_175 => ?_)
            · refine kx_aload_n 60 F 0 dX12_states_59 rfl rfl rfl ?_
              refine kx_iload_n 61 F 3 dX12_states_60 rfl rfl rfl ?_
              refine kx_iconst 62 F dX12_states_61 rfl ?_
              refine kx_aload_n 63 F 0 dX12_states_62 rfl rfl rfl ?_
              refine kx_getr 66 F fl_X12_7 kd_163 rfl rfl (j := 0) rfl dX12_states_63 (v := 164) (uq_164 (Inv.r hI_N_99 kd_163 rfl 0 rfl rfl)) rfl ?_
              refine kx_iload_n 67 F 1 dX12_states_66 rfl rfl rfl ?_
              refine kx_iald 68 F kd_164 rfl rfl (by omega) (by decide) dX12_states_67 (v := (N_99 164 a1)) rfl rfl ?_
              refine kx_iconst 69 F dX12_states_68 rfl ?_
              refine kx_isub 70 F (v := (N_99 164 a1) - 1) dX12_states_69 rfl rfl ?_
              have ha_176 : atlo 1358 = (-2147483648) ∧ athi 1358 = 2147483647 := at_c 1358 4 (o := 270) (lo := (-2147483648)) (hi := 2147483647) (by omega) (by decide) (by decide) (by decide)
              refine kx_Vi 73 (ci := 0) F (As := [vI 1358, vI 0, vI ((N_99 164 a1) - 1)]) (st := []) vd_X12_231 (c_X12_number G l N_99 1358 0 ((N_99 164 a1) - 1) hI_N_99 (by omega)) kd_163 rfl rfl rfl ⟨by decide, by decide⟩ rfl rfl (Nat.le_of_ble_eq_true rfl) dX12_states_70 rfl ?_
              intro r_177 N_178 q_179
              obtain ⟨hI_N_178, hG_N_178, q_179c, hx_N_178⟩ := q_179
              have hF_N_178 : Fr f_c_X12_states M N_178 := Fr.c hF_N_99 hG_N_178 rfl
              have h_180 := Inv.g hI_N_99 kd_163 rfl 14 (a := 0) (b := 900) rfl rfl
              have h_181 := Inv.g hI_N_178 kd_163 rfl 14 (a := 0) (b := 900) rfl rfl
              have h_182 := Inv.g hI_N_178 kd_163 rfl 12 (a := 0) (b := 4) rfl rfl
              have h_183 := Inv.g hI_N_99 kd_163 rfl 14 (a := 0) (b := 900) rfl rfl
              have h_184 := Inv.g hI_N_178 kd_163 rfl 14 (a := 0) (b := 900) rfl rfl
              have h_185 := Inv.g hI_N_178 kd_163 rfl 12 (a := 0) (b := 4) rfl rfl
              have h_186 := Inv.g hI_N_178 kd_163 rfl 18 (a := (-2147483648)) (b := 2147483647) rfl rfl
              rcases q_179c with q_179c | q_179c
              · refine kx_if_ne 76 F 78 dX12_states_73 (by decide) rfl (by omega) (fun h_187 => ?_) (fun h_187 => (by exfalso; omega))
                refine kx_aload_n 79 F 0 dX12_states_78 rfl rfl rfl ?_
                refine kx_getr 82 F fl_X12_7 kd_163 rfl rfl (j := 0) rfl dX12_states_79 (v := 164) (uq_164 (Inv.r hI_N_178 kd_163 rfl 0 rfl rfl)) rfl ?_
                refine kx_iload_n 83 F 2 dX12_states_82 rfl rfl rfl ?_
                refine kx_dup2 84 F dX12_states_83 rfl rfl rfl ?_
                refine kx_iald 85 F kd_164 rfl rfl (by omega) (by decide) dX12_states_84 (v := (N_178 164 a2)) rfl rfl ?_
                have h_188 := Inv.g hI_N_178 kd_164 rfl a2 (a := atlo a2) (b := athi a2) rfl rfl
                have h_189 := at_w a2
                refine kx_iconst 86 F dX12_states_85 rfl ?_
                refine kx_aload_n 87 F 0 dX12_states_86 rfl rfl rfl ?_
                refine kx_getr 90 F fl_X12_7 kd_163 rfl rfl (j := 0) rfl dX12_states_87 (v := 164) (uq_164 (Inv.r hI_N_178 kd_163 rfl 0 rfl rfl)) rfl ?_
                refine kx_iload_n 91 F 3 dX12_states_90 rfl rfl rfl ?_
                refine kx_iald 92 F kd_164 rfl rfl (by omega) (by decide) dX12_states_91 (v := (N_178 164 1358)) rfl rfl ?_
                have h_190 := Inv.g hI_N_178 kd_164 rfl 1358 (a := (-2147483648)) (b := 2147483647) ha_176.1 ha_176.2
                refine kx_ishl 93 F (v := (zshl 1 (N_178 164 1358))) dX12_states_92 rfl rfl ?_
                have h_191 := zshl_1 (b := (N_178 164 1358)) 2 (by decide) (by omega)
                refine kx_ior 94 F (v := (zor (N_178 164 a2) (zshl 1 (N_178 164 1358)))) dX12_states_93 rfl rfl ?_
                have h_192 : 0 ≤ (zor (N_178 164 a2) (zshl 1 (N_178 164 1358))) ∧ (zor (N_178 164 a2) (zshl 1 (N_178 164 1358))) < 8 := zor_lt (a := (N_178 164 a2)) (b := (zshl 1 (N_178 164 1358))) 3 (by decide) (by omega) (by omega)
                refine kx_iast 95 F kd_164 rfl rfl (by omega) (by decide) dX12_states_94 rfl ?_
                intro N_193 hM_N_193
                have h_194 := at_0 a2
                have h_195 := at_q a2 a2 (by omega)
                have hI_N_193 : Inv true N_193 := Inv.u hI_N_178 hM_N_193 kd_164 (a := atlo a2) (b := athi a2) rfl rfl rfl (by omega)
                have hF_N_193 : Fr f_c_X12_states M N_193 := Fr.u hF_N_178 hM_N_193 kd_164 rfl
                refine kx_goto 8 F dX12_states_95 (by decide) ?_
                have e_196 : (N_193 163 14) = (N_178 163 14) := by rw [hM_N_193, mu_k kd_163 kd_164 rfl]
                have e_197 : (N_193 163 14) = (N_178 163 14) := by rw [hM_N_193, mu_k kd_163 kd_164 rfl]
                have e_198 : (N_193 163 12) = (N_178 163 12) := by rw [hM_N_193, mu_k kd_163 kd_164 rfl]
                have e_199 : (N_193 163 12) = (N_178 163 12) := by rw [hM_N_193, mu_k kd_163 kd_164 rfl]
                have e_200 : (N_193 163 12) = (N_178 163 12) := by rw [hM_N_193, mu_k kd_163 kd_164 rfl]
                exact ih_102 _ (by omega) N_193 hI_N_193 hF_N_193 (LO.sta (LO.ne hp_105 hx_N_178 (by omega)) hM_N_193 (by omega)) (R4.sta (R4.ne hp_106 hI_N_99 hx_N_178 (by omega)) hI_N_178 hM_N_193 (by omega)) (by omega) rfl
              · refine kx_if_ne 76 F 78 dX12_states_73 (by decide) rfl (by omega) (fun h_201 => (by exfalso; omega)) (fun h_201 => ?_)
                refine kx_iconst 77 F dX12_states_76 rfl ?_
                exact kx_zret F hQ (by omega) ⟨hI_N_178, hF_N_178, (by omega), ⟨(LO.ne hp_105 hx_N_178 (by omega)), (fun h => absurd h (by omega))⟩⟩ dX12_states_77
            · refine kx_aload_n 54 F 0 dX12_states_53 rfl rfl rfl ?_
              refine kx_iconst 55 F dX12_states_54 rfl ?_
              refine kx_Vi 58 (ci := 0) F (As := [vI 5]) (st := []) vd_X12_205 (c_X12_fails G l N_99 5 hI_N_99 (by omega)) kd_163 rfl rfl rfl ⟨by decide, by decide⟩ rfl rfl (Nat.le_of_ble_eq_true rfl) dX12_states_55 rfl ?_
              intro r_202 N_203 q_204
              obtain ⟨hI_N_203, hG_N_203, q_204c⟩ := q_204
              have hF_N_203 : Fr f_c_X12_states M N_203 := Fr.c hF_N_99 hG_N_203 rfl
              have h_205 := Inv.g hI_N_203 kd_163 rfl 18 (a := (-2147483648)) (b := 2147483647) rfl rfl
              have e_206 : (N_203 163 14) = (N_99 163 14) := by rw [Fr.e hG_N_203 kd_163 _ rfl]
              have h_207 := Inv.g hI_N_99 kd_163 rfl 14 (a := 0) (b := 900) rfl rfl
              have e_208 : (N_203 163 12) = (N_99 163 12) := by rw [Fr.e hG_N_203 kd_163 _ rfl]
              have e_209 : (N_203 163 14) = (N_99 163 14) := by rw [Fr.e hG_N_203 kd_163 _ rfl]
              have e_210 : (N_203 163 12) = (N_99 163 12) := by rw [Fr.e hG_N_203 kd_163 _ rfl]
              exact kx_zret F hQ (by omega) ⟨hI_N_203, hF_N_203, (by omega), ⟨(LO.fr hp_105 hG_N_203 rfl), (fun h => absurd h (by omega))⟩⟩ dX12_states_58
    exact L_100 _ N_3 hI_N_3 hF_N_3 (LO.fr (LO.rf M) hG_N_3 rfl) (R4.fr hR hG_N_3 rfl) (by omega) rfl
  · have L_302 : ∀ (n_303 : Nat) (N_301 : Mem), Inv true N_301 → Fr f_c_X12_states M N_301 → LO N_301 M → R4 N_301 → (N_301 163 14) ≤ 900 ∧ 5 * (N_301 163 14) - (N_301 163 12) ≥ 5 * (M 163 14) - (M 163 12) ∧ (N_301 163 12) ≥ 0 ∧ (N_301 163 12) ≤ 4 → (5 * (900 - N_301 163 14) + N_301 163 12).toNat = n_303 → KJ true G X N_301 8 [some (vR G 163), some (vI a1), some (vI a2), some (vI 1358)] [] := by
      intro n_303
      refine Nat.strongRecOn n_303 ?_
      intro n_303 ih_304  N_301 hI_N_301 hF_N_301 hp_307 hp_308 h_305 hm_306
      refine kx_aload_n 9 F 0 dX12_states_8 rfl rfl rfl ?_
      refine kx_geti 12 F fl_X12_168 kd_163 rfl rfl (j := 12) rfl dX12_states_9 (v := (N_301 163 12)) rfl rfl ?_
      have h_309 := Inv.g hI_N_301 kd_163 rfl 12 (a := 0) (b := 4) rfl rfl
      refine kx_iconst 13 F dX12_states_12 rfl ?_
      refine kx_icmp_ne 16 F 98 dX12_states_13 (by decide) rfl (by omega) (by decide) (fun h_310 => ?_) (fun h_310 => ?_)
      · refine kx_iconst 99 F dX12_states_98 rfl ?_
        have h_311 := Inv.g hI_N_301 kd_163 rfl 14 (a := 0) (b := 900) rfl rfl
        have h_312 := Inv.g hI_N_301 kd_163 rfl 18 (a := (-2147483648)) (b := 2147483647) rfl rfl
        exact kx_zret F hQ (by omega) ⟨hI_N_301, hF_N_301, (by omega), ⟨hp_307, (fun _ => hp_308)⟩⟩ dX12_states_99
      · refine kx_aload_n 17 F 0 dX12_states_16 rfl rfl rfl ?_
        refine kx_geti 20 F fl_X12_165 kd_163 rfl rfl (j := 15) rfl dX12_states_17 (v := (N_301 163 15)) rfl rfl ?_
        have h_313 := Inv.g hI_N_301 kd_163 rfl 15 (a := (-2147483648)) (b := 2147483647) rfl rfl
        refine kx_if_lt 23 F 59 dX12_states_20 (by decide) rfl (by omega) (fun h_314 => ?_) (fun h_314 => ?_)
        · refine kx_aload_n 60 F 0 dX12_states_59 rfl rfl rfl ?_
          refine kx_iload_n 61 F 3 dX12_states_60 rfl rfl rfl ?_
          refine kx_iconst 62 F dX12_states_61 rfl ?_
          refine kx_aload_n 63 F 0 dX12_states_62 rfl rfl rfl ?_
          refine kx_getr 66 F fl_X12_7 kd_163 rfl rfl (j := 0) rfl dX12_states_63 (v := 164) (uq_164 (Inv.r hI_N_301 kd_163 rfl 0 rfl rfl)) rfl ?_
          refine kx_iload_n 67 F 1 dX12_states_66 rfl rfl rfl ?_
          refine kx_iald 68 F kd_164 rfl rfl (by omega) (by decide) dX12_states_67 (v := (N_301 164 a1)) rfl rfl ?_
          have h_315 := Inv.g hI_N_301 kd_164 rfl a1 (a := atlo a1) (b := athi a1) rfl rfl
          have h_316 := at_w a1
          refine kx_iconst 69 F dX12_states_68 rfl ?_
          refine kx_isub 70 F (v := (N_301 164 a1) - 1) dX12_states_69 rfl rfl ?_
          have ha_317 : atlo 1358 = (-2147483648) ∧ athi 1358 = 2147483647 := at_c 1358 4 (o := 270) (lo := (-2147483648)) (hi := 2147483647) (by omega) (by decide) (by decide) (by decide)
          refine kx_Vi 73 (ci := 0) F (As := [vI 1358, vI 0, vI ((N_301 164 a1) - 1)]) (st := []) vd_X12_231 (c_X12_number G l N_301 1358 0 ((N_301 164 a1) - 1) hI_N_301 (by omega)) kd_163 rfl rfl rfl ⟨by decide, by decide⟩ rfl rfl (Nat.le_of_ble_eq_true rfl) dX12_states_70 rfl ?_
          intro r_318 N_319 q_320
          obtain ⟨hI_N_319, hG_N_319, q_320c, hx_N_319⟩ := q_320
          have hF_N_319 : Fr f_c_X12_states M N_319 := Fr.c hF_N_301 hG_N_319 rfl
          have h_321 := Inv.g hI_N_301 kd_163 rfl 14 (a := 0) (b := 900) rfl rfl
          have h_322 := Inv.g hI_N_319 kd_163 rfl 14 (a := 0) (b := 900) rfl rfl
          have h_323 := Inv.g hI_N_319 kd_163 rfl 12 (a := 0) (b := 4) rfl rfl
          have h_324 := Inv.g hI_N_301 kd_163 rfl 14 (a := 0) (b := 900) rfl rfl
          have h_325 := Inv.g hI_N_319 kd_163 rfl 14 (a := 0) (b := 900) rfl rfl
          have h_326 := Inv.g hI_N_319 kd_163 rfl 12 (a := 0) (b := 4) rfl rfl
          have h_327 := Inv.g hI_N_319 kd_163 rfl 18 (a := (-2147483648)) (b := 2147483647) rfl rfl
          rcases q_320c with q_320c | q_320c
          · refine kx_if_ne 76 F 78 dX12_states_73 (by decide) rfl (by omega) (fun h_328 => ?_) (fun h_328 => (by exfalso; omega))
            refine kx_aload_n 79 F 0 dX12_states_78 rfl rfl rfl ?_
            refine kx_getr 82 F fl_X12_7 kd_163 rfl rfl (j := 0) rfl dX12_states_79 (v := 164) (uq_164 (Inv.r hI_N_319 kd_163 rfl 0 rfl rfl)) rfl ?_
            refine kx_iload_n 83 F 2 dX12_states_82 rfl rfl rfl ?_
            refine kx_dup2 84 F dX12_states_83 rfl rfl rfl ?_
            refine kx_iald 85 F kd_164 rfl rfl (by omega) (by decide) dX12_states_84 (v := (N_319 164 a2)) rfl rfl ?_
            have h_329 := Inv.g hI_N_319 kd_164 rfl a2 (a := atlo a2) (b := athi a2) rfl rfl
            have h_330 := at_w a2
            refine kx_iconst 86 F dX12_states_85 rfl ?_
            refine kx_aload_n 87 F 0 dX12_states_86 rfl rfl rfl ?_
            refine kx_getr 90 F fl_X12_7 kd_163 rfl rfl (j := 0) rfl dX12_states_87 (v := 164) (uq_164 (Inv.r hI_N_319 kd_163 rfl 0 rfl rfl)) rfl ?_
            refine kx_iload_n 91 F 3 dX12_states_90 rfl rfl rfl ?_
            refine kx_iald 92 F kd_164 rfl rfl (by omega) (by decide) dX12_states_91 (v := (N_319 164 1358)) rfl rfl ?_
            have h_331 := Inv.g hI_N_319 kd_164 rfl 1358 (a := (-2147483648)) (b := 2147483647) ha_317.1 ha_317.2
            refine kx_ishl 93 F (v := (zshl 1 (N_319 164 1358))) dX12_states_92 rfl rfl ?_
            have h_332 := zshl_1 (b := (N_319 164 1358)) 2 (by decide) (by omega)
            refine kx_ior 94 F (v := (zor (N_319 164 a2) (zshl 1 (N_319 164 1358)))) dX12_states_93 rfl rfl ?_
            have h_333 : 0 ≤ (zor (N_319 164 a2) (zshl 1 (N_319 164 1358))) ∧ (zor (N_319 164 a2) (zshl 1 (N_319 164 1358))) < 8 := zor_lt (a := (N_319 164 a2)) (b := (zshl 1 (N_319 164 1358))) 3 (by decide) (by omega) (by omega)
            refine kx_iast 95 F kd_164 rfl rfl (by omega) (by decide) dX12_states_94 rfl ?_
            intro N_334 hM_N_334
            have h_335 := at_0 a2
            have h_336 := at_q a2 a2 (by omega)
            have hI_N_334 : Inv true N_334 := Inv.u hI_N_319 hM_N_334 kd_164 (a := atlo a2) (b := athi a2) rfl rfl rfl (by omega)
            have hF_N_334 : Fr f_c_X12_states M N_334 := Fr.u hF_N_319 hM_N_334 kd_164 rfl
            refine kx_goto 8 F dX12_states_95 (by decide) ?_
            have e_337 : (N_334 163 14) = (N_319 163 14) := by rw [hM_N_334, mu_k kd_163 kd_164 rfl]
            have e_338 : (N_334 163 14) = (N_319 163 14) := by rw [hM_N_334, mu_k kd_163 kd_164 rfl]
            have e_339 : (N_334 163 12) = (N_319 163 12) := by rw [hM_N_334, mu_k kd_163 kd_164 rfl]
            have e_340 : (N_334 163 12) = (N_319 163 12) := by rw [hM_N_334, mu_k kd_163 kd_164 rfl]
            have e_341 : (N_334 163 12) = (N_319 163 12) := by rw [hM_N_334, mu_k kd_163 kd_164 rfl]
            exact ih_304 _ (by omega) N_334 hI_N_334 hF_N_334 (LO.sta (LO.ne hp_307 hx_N_319 (by omega)) hM_N_334 (by omega)) (R4.sta (R4.ne hp_308 hI_N_301 hx_N_319 (by omega)) hI_N_319 hM_N_334 (by omega)) (by omega) rfl
          · refine kx_if_ne 76 F 78 dX12_states_73 (by decide) rfl (by omega) (fun h_342 => (by exfalso; omega)) (fun h_342 => ?_)
            refine kx_iconst 77 F dX12_states_76 rfl ?_
            exact kx_zret F hQ (by omega) ⟨hI_N_319, hF_N_319, (by omega), ⟨(LO.ne hp_307 hx_N_319 (by omega)), (fun h => absurd h (by omega))⟩⟩ dX12_states_77
        · refine kx_aload_n 24 F 0 dX12_states_23 rfl rfl rfl ?_
          refine kx_geti 27 F fl_X12_165 kd_163 rfl rfl (j := 15) rfl dX12_states_24 (v := (N_301 163 15)) rfl rfl ?_
          refine kx_aload_n 28 F 0 dX12_states_27 rfl rfl rfl ?_
          refine kx_getr 31 F fl_X12_7 kd_163 rfl rfl (j := 0) rfl dX12_states_28 (v := 164) (uq_164 (Inv.r hI_N_301 kd_163 rfl 0 rfl rfl)) rfl ?_
          refine kx_iload_n 32 F 1 dX12_states_31 rfl rfl rfl ?_
          refine kx_iald 33 F kd_164 rfl rfl (by omega) (by decide) dX12_states_32 (v := (N_301 164 a1)) rfl rfl ?_
          have h_343 := Inv.g hI_N_301 kd_164 rfl a1 (a := atlo a1) (b := athi a1) rfl rfl
          have h_344 := at_w a1
          refine kx_icmp_ge 36 F 59 dX12_states_33 (by decide) rfl (by omega) (by omega) (fun h_345 => ?_) (fun h_345 => ?_)
          · refine kx_aload_n 60 F 0 dX12_states_59 rfl rfl rfl ?_
            refine kx_iload_n 61 F 3 dX12_states_60 rfl rfl rfl ?_
            refine kx_iconst 62 F dX12_states_61 rfl ?_
            refine kx_aload_n 63 F 0 dX12_states_62 rfl rfl rfl ?_
            refine kx_getr 66 F fl_X12_7 kd_163 rfl rfl (j := 0) rfl dX12_states_63 (v := 164) (uq_164 (Inv.r hI_N_301 kd_163 rfl 0 rfl rfl)) rfl ?_
            refine kx_iload_n 67 F 1 dX12_states_66 rfl rfl rfl ?_
            refine kx_iald 68 F kd_164 rfl rfl (by omega) (by decide) dX12_states_67 (v := (N_301 164 a1)) rfl rfl ?_
            refine kx_iconst 69 F dX12_states_68 rfl ?_
            refine kx_isub 70 F (v := (N_301 164 a1) - 1) dX12_states_69 rfl rfl ?_
            have ha_346 : atlo 1358 = (-2147483648) ∧ athi 1358 = 2147483647 := at_c 1358 4 (o := 270) (lo := (-2147483648)) (hi := 2147483647) (by omega) (by decide) (by decide) (by decide)
            refine kx_Vi 73 (ci := 0) F (As := [vI 1358, vI 0, vI ((N_301 164 a1) - 1)]) (st := []) vd_X12_231 (c_X12_number G l N_301 1358 0 ((N_301 164 a1) - 1) hI_N_301 (by omega)) kd_163 rfl rfl rfl ⟨by decide, by decide⟩ rfl rfl (Nat.le_of_ble_eq_true rfl) dX12_states_70 rfl ?_
            intro r_347 N_348 q_349
            obtain ⟨hI_N_348, hG_N_348, q_349c, hx_N_348⟩ := q_349
            have hF_N_348 : Fr f_c_X12_states M N_348 := Fr.c hF_N_301 hG_N_348 rfl
            have h_350 := Inv.g hI_N_301 kd_163 rfl 14 (a := 0) (b := 900) rfl rfl
            have h_351 := Inv.g hI_N_348 kd_163 rfl 14 (a := 0) (b := 900) rfl rfl
            have h_352 := Inv.g hI_N_348 kd_163 rfl 12 (a := 0) (b := 4) rfl rfl
            have h_353 := Inv.g hI_N_301 kd_163 rfl 14 (a := 0) (b := 900) rfl rfl
            have h_354 := Inv.g hI_N_348 kd_163 rfl 14 (a := 0) (b := 900) rfl rfl
            have h_355 := Inv.g hI_N_348 kd_163 rfl 12 (a := 0) (b := 4) rfl rfl
            have h_356 := Inv.g hI_N_348 kd_163 rfl 18 (a := (-2147483648)) (b := 2147483647) rfl rfl
            rcases q_349c with q_349c | q_349c
            · refine kx_if_ne 76 F 78 dX12_states_73 (by decide) rfl (by omega) (fun h_357 => ?_) (fun h_357 => (by exfalso; omega))
              refine kx_aload_n 79 F 0 dX12_states_78 rfl rfl rfl ?_
              refine kx_getr 82 F fl_X12_7 kd_163 rfl rfl (j := 0) rfl dX12_states_79 (v := 164) (uq_164 (Inv.r hI_N_348 kd_163 rfl 0 rfl rfl)) rfl ?_
              refine kx_iload_n 83 F 2 dX12_states_82 rfl rfl rfl ?_
              refine kx_dup2 84 F dX12_states_83 rfl rfl rfl ?_
              refine kx_iald 85 F kd_164 rfl rfl (by omega) (by decide) dX12_states_84 (v := (N_348 164 a2)) rfl rfl ?_
              have h_358 := Inv.g hI_N_348 kd_164 rfl a2 (a := atlo a2) (b := athi a2) rfl rfl
              have h_359 := at_w a2
              refine kx_iconst 86 F dX12_states_85 rfl ?_
              refine kx_aload_n 87 F 0 dX12_states_86 rfl rfl rfl ?_
              refine kx_getr 90 F fl_X12_7 kd_163 rfl rfl (j := 0) rfl dX12_states_87 (v := 164) (uq_164 (Inv.r hI_N_348 kd_163 rfl 0 rfl rfl)) rfl ?_
              refine kx_iload_n 91 F 3 dX12_states_90 rfl rfl rfl ?_
              refine kx_iald 92 F kd_164 rfl rfl (by omega) (by decide) dX12_states_91 (v := (N_348 164 1358)) rfl rfl ?_
              have h_360 := Inv.g hI_N_348 kd_164 rfl 1358 (a := (-2147483648)) (b := 2147483647) ha_346.1 ha_346.2
              refine kx_ishl 93 F (v := (zshl 1 (N_348 164 1358))) dX12_states_92 rfl rfl ?_
              have h_361 := zshl_1 (b := (N_348 164 1358)) 2 (by decide) (by omega)
              refine kx_ior 94 F (v := (zor (N_348 164 a2) (zshl 1 (N_348 164 1358)))) dX12_states_93 rfl rfl ?_
              have h_362 : 0 ≤ (zor (N_348 164 a2) (zshl 1 (N_348 164 1358))) ∧ (zor (N_348 164 a2) (zshl 1 (N_348 164 1358))) < 8 := zor_lt (a := (N_348 164 a2)) (b := (zshl 1 (N_348 164 1358))) 3 (by decide) (by omega) (by omega)
              refine kx_iast 95 F kd_164 rfl rfl (by omega) (by decide) dX12_states_94 rfl ?_
              intro N_363 hM_N_363
              have h_364 := at_0 a2
              have h_365 := at_q a2 a2 (by omega)
              have hI_N_363 : Inv true N_363 := Inv.u hI_N_348 hM_N_363 kd_164 (a := atlo a2) (b := athi a2) rfl rfl rfl (by omega)
              have hF_N_363 : Fr f_c_X12_states M N_363 := Fr.u hF_N_348 hM_N_363 kd_164 rfl
              refine kx_goto 8 F dX12_states_95 (by decide) ?_
              have e_366 : (N_363 163 14) = (N_348 163 14) := by rw [hM_N_363, mu_k kd_163 kd_164 rfl]
              have e_367 : (N_363 163 14) = (N_348 163 14) := by rw [hM_N_363, mu_k kd_163 kd_164 rfl]
              have e_368 : (N_363 163 12) = (N_348 163 12) := by rw [hM_N_363, mu_k kd_163 kd_164 rfl]
              have e_369 : (N_363 163 12) = (N_348 163 12) := by rw [hM_N_363, mu_k kd_163 kd_164 rfl]
              have e_370 : (N_363 163 12) = (N_348 163 12) := by rw [hM_N_363, mu_k kd_163 kd_164 rfl]
              exact ih_304 _ (by omega) N_363 hI_N_363 hF_N_363 (LO.sta (LO.ne hp_307 hx_N_348 (by omega)) hM_N_363 (by omega)) (R4.sta (R4.ne hp_308 hI_N_301 hx_N_348 (by omega)) hI_N_348 hM_N_363 (by omega)) (by omega) rfl
            · refine kx_if_ne 76 F 78 dX12_states_73 (by decide) rfl (by omega) (fun h_371 => (by exfalso; omega)) (fun h_371 => ?_)
              refine kx_iconst 77 F dX12_states_76 rfl ?_
              exact kx_zret F hQ (by omega) ⟨hI_N_348, hF_N_348, (by omega), ⟨(LO.ne hp_307 hx_N_348 (by omega)), (fun h => absurd h (by omega))⟩⟩ dX12_states_77
          · refine kx_aload_n 37 F 0 dX12_states_36 rfl rfl rfl ?_
            refine kx_aload_n 38 F 0 dX12_states_37 rfl rfl rfl ?_
            refine kx_getr 41 F fl_X12_7 kd_163 rfl rfl (j := 0) rfl dX12_states_38 (v := 164) (uq_164 (Inv.r hI_N_301 kd_163 rfl 0 rfl rfl)) rfl ?_
            refine kx_iload_n 42 F 2 dX12_states_41 rfl rfl rfl ?_
            refine kx_iald 43 F kd_164 rfl rfl (by omega) (by decide) dX12_states_42 (v := (N_301 164 a2)) rfl rfl ?_
            have h_372 := Inv.g hI_N_301 kd_164 rfl a2 (a := atlo a2) (b := athi a2) rfl rfl
            have h_373 := at_w a2
            refine kx_aload_n 44 F 0 dX12_states_43 rfl rfl rfl ?_
            refine kx_geti 47 F fl_X12_165 kd_163 rfl rfl (j := 15) rfl dX12_states_44 (v := (N_301 163 15)) rfl rfl ?_
            refine kx_Vi 50 (ci := 0) F (As := [vI (N_301 164 a2), vI (N_301 163 15)]) (st := []) vd_X12_239 (c_X12_isIn G l N_301 (N_301 164 a2) (N_301 163 15) hI_N_301 (by omega)) kd_163 rfl rfl rfl ⟨by decide, by decide⟩ rfl rfl (Nat.le_of_ble_eq_true rfl) dX12_states_47 rfl ?_
            intro r_374 N_375 q_376
            obtain ⟨rfl, q_376c⟩ := q_376
            refine kx_if_eq 53 F 59 dX12_states_50 (by decide) rfl (by omega) (fun h_377 => ?_) (fun h_377 => ?_)
            · refine kx_aload_n 60 F 0 dX12_states_59 rfl rfl rfl ?_
              refine kx_iload_n 61 F 3 dX12_states_60 rfl rfl rfl ?_
              refine kx_iconst 62 F dX12_states_61 rfl ?_
              refine kx_aload_n 63 F 0 dX12_states_62 rfl rfl rfl ?_
              refine kx_getr 66 F fl_X12_7 kd_163 rfl rfl (j := 0) rfl dX12_states_63 (v := 164) (uq_164 (Inv.r hI_N_301 kd_163 rfl 0 rfl rfl)) rfl ?_
              refine kx_iload_n 67 F 1 dX12_states_66 rfl rfl rfl ?_
              refine kx_iald 68 F kd_164 rfl rfl (by omega) (by decide) dX12_states_67 (v := (N_301 164 a1)) rfl rfl ?_
              refine kx_iconst 69 F dX12_states_68 rfl ?_
              refine kx_isub 70 F (v := (N_301 164 a1) - 1) dX12_states_69 rfl rfl ?_
              have ha_378 : atlo 1358 = (-2147483648) ∧ athi 1358 = 2147483647 := at_c 1358 4 (o := 270) (lo := (-2147483648)) (hi := 2147483647) (by omega) (by decide) (by decide) (by decide)
              refine kx_Vi 73 (ci := 0) F (As := [vI 1358, vI 0, vI ((N_301 164 a1) - 1)]) (st := []) vd_X12_231 (c_X12_number G l N_301 1358 0 ((N_301 164 a1) - 1) hI_N_301 (by omega)) kd_163 rfl rfl rfl ⟨by decide, by decide⟩ rfl rfl (Nat.le_of_ble_eq_true rfl) dX12_states_70 rfl ?_
              intro r_379 N_380 q_381
              obtain ⟨hI_N_380, hG_N_380, q_381c, hx_N_380⟩ := q_381
              have hF_N_380 : Fr f_c_X12_states M N_380 := Fr.c hF_N_301 hG_N_380 rfl
              have h_382 := Inv.g hI_N_301 kd_163 rfl 14 (a := 0) (b := 900) rfl rfl
              have h_383 := Inv.g hI_N_380 kd_163 rfl 14 (a := 0) (b := 900) rfl rfl
              have h_384 := Inv.g hI_N_380 kd_163 rfl 12 (a := 0) (b := 4) rfl rfl
              have h_385 := Inv.g hI_N_301 kd_163 rfl 14 (a := 0) (b := 900) rfl rfl
              have h_386 := Inv.g hI_N_380 kd_163 rfl 14 (a := 0) (b := 900) rfl rfl
              have h_387 := Inv.g hI_N_380 kd_163 rfl 12 (a := 0) (b := 4) rfl rfl
              have h_388 := Inv.g hI_N_380 kd_163 rfl 18 (a := (-2147483648)) (b := 2147483647) rfl rfl
              rcases q_381c with q_381c | q_381c
              · refine kx_if_ne 76 F 78 dX12_states_73 (by decide) rfl (by omega) (fun h_389 => ?_) (fun h_389 => (by exfalso; omega))
                refine kx_aload_n 79 F 0 dX12_states_78 rfl rfl rfl ?_
                refine kx_getr 82 F fl_X12_7 kd_163 rfl rfl (j := 0) rfl dX12_states_79 (v := 164) (uq_164 (Inv.r hI_N_380 kd_163 rfl 0 rfl rfl)) rfl ?_
                refine kx_iload_n 83 F 2 dX12_states_82 rfl rfl rfl ?_
                refine kx_dup2 84 F dX12_states_83 rfl rfl rfl ?_
                refine kx_iald 85 F kd_164 rfl rfl (by omega) (by decide) dX12_states_84 (v := (N_380 164 a2)) rfl rfl ?_
                have h_390 := Inv.g hI_N_380 kd_164 rfl a2 (a := atlo a2) (b := athi a2) rfl rfl
                have h_391 := at_w a2
                refine kx_iconst 86 F dX12_states_85 rfl ?_
                refine kx_aload_n 87 F 0 dX12_states_86 rfl rfl rfl ?_
                refine kx_getr 90 F fl_X12_7 kd_163 rfl rfl (j := 0) rfl dX12_states_87 (v := 164) (uq_164 (Inv.r hI_N_380 kd_163 rfl 0 rfl rfl)) rfl ?_
                refine kx_iload_n 91 F 3 dX12_states_90 rfl rfl rfl ?_
                refine kx_iald 92 F kd_164 rfl rfl (by omega) (by decide) dX12_states_91 (v := (N_380 164 1358)) rfl rfl ?_
                have h_392 := Inv.g hI_N_380 kd_164 rfl 1358 (a := (-2147483648)) (b := 2147483647) ha_378.1 ha_378.2
                refine kx_ishl 93 F (v := (zshl 1 (N_380 164 1358))) dX12_states_92 rfl rfl ?_
                have h_393 := zshl_1 (b := (N_380 164 1358)) 2 (by decide) (by omega)
                refine kx_ior 94 F (v := (zor (N_380 164 a2) (zshl 1 (N_380 164 1358)))) dX12_states_93 rfl rfl ?_
                have h_394 : 0 ≤ (zor (N_380 164 a2) (zshl 1 (N_380 164 1358))) ∧ (zor (N_380 164 a2) (zshl 1 (N_380 164 1358))) < 8 := zor_lt (a := (N_380 164 a2)) (b := (zshl 1 (N_380 164 1358))) 3 (by decide) (by omega) (by omega)
                refine kx_iast 95 F kd_164 rfl rfl (by omega) (by decide) dX12_states_94 rfl ?_
                intro N_395 hM_N_395
                have h_396 := at_0 a2
                have h_397 := at_q a2 a2 (by omega)
                have hI_N_395 : Inv true N_395 := Inv.u hI_N_380 hM_N_395 kd_164 (a := atlo a2) (b := athi a2) rfl rfl rfl (by omega)
                have hF_N_395 : Fr f_c_X12_states M N_395 := Fr.u hF_N_380 hM_N_395 kd_164 rfl
                refine kx_goto 8 F dX12_states_95 (by decide) ?_
                have e_398 : (N_395 163 14) = (N_380 163 14) := by rw [hM_N_395, mu_k kd_163 kd_164 rfl]
                have e_399 : (N_395 163 14) = (N_380 163 14) := by rw [hM_N_395, mu_k kd_163 kd_164 rfl]
                have e_400 : (N_395 163 12) = (N_380 163 12) := by rw [hM_N_395, mu_k kd_163 kd_164 rfl]
                have e_401 : (N_395 163 12) = (N_380 163 12) := by rw [hM_N_395, mu_k kd_163 kd_164 rfl]
                have e_402 : (N_395 163 12) = (N_380 163 12) := by rw [hM_N_395, mu_k kd_163 kd_164 rfl]
                exact ih_304 _ (by omega) N_395 hI_N_395 hF_N_395 (LO.sta (LO.ne hp_307 hx_N_380 (by omega)) hM_N_395 (by omega)) (R4.sta (R4.ne hp_308 hI_N_301 hx_N_380 (by omega)) hI_N_380 hM_N_395 (by omega)) (by omega) rfl
              · refine kx_if_ne 76 F 78 dX12_states_73 (by decide) rfl (by omega) (fun h_403 => (by exfalso; omega)) (fun h_403 => ?_)
                refine kx_iconst 77 F dX12_states_76 rfl ?_
                exact kx_zret F hQ (by omega) ⟨hI_N_380, hF_N_380, (by omega), ⟨(LO.ne hp_307 hx_N_380 (by omega)), (fun h => absurd h (by omega))⟩⟩ dX12_states_77
            · refine kx_aload_n 54 F 0 dX12_states_53 rfl rfl rfl ?_
              refine kx_iconst 55 F dX12_states_54 rfl ?_
              refine kx_Vi 58 (ci := 0) F (As := [vI 5]) (st := []) vd_X12_205 (c_X12_fails G l N_301 5 hI_N_301 (by omega)) kd_163 rfl rfl rfl ⟨by decide, by decide⟩ rfl rfl (Nat.le_of_ble_eq_true rfl) dX12_states_55 rfl ?_
              intro r_404 N_405 q_406
              obtain ⟨hI_N_405, hG_N_405, q_406c⟩ := q_406
              have hF_N_405 : Fr f_c_X12_states M N_405 := Fr.c hF_N_301 hG_N_405 rfl
              have h_407 := Inv.g hI_N_405 kd_163 rfl 18 (a := (-2147483648)) (b := 2147483647) rfl rfl
              have e_408 : (N_405 163 14) = (N_301 163 14) := by rw [Fr.e hG_N_405 kd_163 _ rfl]
              have h_409 := Inv.g hI_N_301 kd_163 rfl 14 (a := 0) (b := 900) rfl rfl
              have e_410 : (N_405 163 12) = (N_301 163 12) := by rw [Fr.e hG_N_405 kd_163 _ rfl]
              have e_411 : (N_405 163 14) = (N_301 163 14) := by rw [Fr.e hG_N_405 kd_163 _ rfl]
              have e_412 : (N_405 163 12) = (N_301 163 12) := by rw [Fr.e hG_N_405 kd_163 _ rfl]
              exact kx_zret F hQ (by omega) ⟨hI_N_405, hF_N_405, (by omega), ⟨(LO.fr hp_307 hG_N_405 rfl), (fun h => absurd h (by omega))⟩⟩ dX12_states_58
    exact L_302 _ N_3 hI_N_3 hF_N_3 (LO.fr (LO.rf M) hG_N_3 rfl) (R4.fr hR hG_N_3 rfl) (by omega) rfl
