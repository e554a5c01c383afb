theorem dX12_relation_0 : decode cX12_relation 0 = .ok (.iconst 0, 1) := by decide +kernel
theorem dX12_relation_1 : decode cX12_relation 1 = .ok (.istore_n 2, 1) := by decide +kernel
theorem dX12_relation_2 : decode cX12_relation 2 = .ok (.iload_n 2, 1) := by decide +kernel
theorem dX12_relation_3 : decode cX12_relation 3 = .ok (.aload_n 0, 1) := by decide +kernel
theorem dX12_relation_4 : decode cX12_relation 4 = .ok (.getfield 459, 3) := by decide +kernel
theorem dX12_relation_7 : decode cX12_relation 7 = .ok (.if_icmp .ge 21, 3) := by decide +kernel
theorem dX12_relation_10 : decode cX12_relation 10 = .ok (.aload_n 0, 1) := by decide +kernel
theorem dX12_relation_11 : decode cX12_relation 11 = .ok (.getfield 92, 3) := by decide +kernel
theorem dX12_relation_14 : decode cX12_relation 14 = .ok (.iload_n 2, 1) := by decide +kernel
theorem dX12_relation_15 : decode cX12_relation 15 = .ok (.iaload, 1) := by decide +kernel
theorem dX12_relation_16 : decode cX12_relation 16 = .ok (.iload_n 1, 1) := by decide +kernel
theorem dX12_relation_17 : decode cX12_relation 17 = .ok (.if_icmp .ne 5, 3) := by decide +kernel
theorem dX12_relation_20 : decode cX12_relation 20 = .ok (.iload_n 2, 1) := by decide +kernel
theorem dX12_relation_21 : decode cX12_relation 21 = .ok (.ireturn, 1) := by decide +kernel
theorem dX12_relation_22 : decode cX12_relation 22 = .ok (.iinc 2 1, 3) := by decide +kernel
theorem dX12_relation_25 : decode cX12_relation 25 = .ok (.goto (-23), 3) := by decide +kernel
theorem dX12_relation_28 : decode cX12_relation 28 = .ok (.aload_n 0, 1) := by decide +kernel
theorem dX12_relation_29 : decode cX12_relation 29 = .ok (.getfield 92, 3) := by decide +kernel
theorem dX12_relation_32 : decode cX12_relation 32 = .ok (.aload_n 0, 1) := by decide +kernel
theorem dX12_relation_33 : decode cX12_relation 33 = .ok (.getfield 459, 3) := by decide +kernel
theorem dX12_relation_36 : decode cX12_relation 36 = .ok (.iload_n 1, 1) := by decide +kernel
theorem dX12_relation_37 : decode cX12_relation 37 = .ok (.iastore, 1) := by decide +kernel
theorem dX12_relation_38 : decode cX12_relation 38 = .ok (.aload_n 0, 1) := by decide +kernel
theorem dX12_relation_39 : decode cX12_relation 39 = .ok (.dup, 1) := by decide +kernel
theorem dX12_relation_40 : decode cX12_relation 40 = .ok (.getfield 459, 3) := by decide +kernel
theorem dX12_relation_43 : decode cX12_relation 43 = .ok (.iconst 1, 1) := by decide +kernel
theorem dX12_relation_44 : decode cX12_relation 44 = .ok (.iadd, 1) := by decide +kernel
theorem dX12_relation_45 : decode cX12_relation 45 = .ok (.putfield 459, 3) := by decide +kernel
theorem dX12_relation_48 : decode cX12_relation 48 = .ok (.aload_n 0, 1) := by decide +kernel
theorem dX12_relation_49 : decode cX12_relation 49 = .ok (.getfield 459, 3) := by decide +kernel
theorem dX12_relation_52 : decode cX12_relation 52 = .ok (.iconst 1, 1) := by decide +kernel
theorem dX12_relation_53 : decode cX12_relation 53 = .ok (.isub, 1) := by decide +kernel
theorem dX12_relation_54 : decode cX12_relation 54 = .ok (.ireturn, 1) := by decide +kernel
abbrev f_e_relation : List (Nat × Int) := [(64, 45), (86, -1)]
set_option maxHeartbeats 4000000 in
set_option maxRecDepth 100000 in
theorem e_relation (G : KG) (l : Launch) (M : Mem) (a1 : Int) (hI_M : Inv true M) (hpre : -2147483648 ≤ a1 ∧ a1 ≤ 2147483647) {A : Int → Int} {b : Int} (hO : RP M A b) (hA : AOK A b) (hC : Clo A b) (hg : Gd A b a1) : KC true G l yX12_relation cX12_relation 3 (some .int) (0, 0) [vR G 163, vI a1] M (fun A => kQi true G A (fun (r : Int) (N : Mem) => Inv true N ∧ Fr f_e_relation M N ∧ (r ≥ 0 ∧ r < (N 163 45) ∧ (N 163 45) ≥ (M 163 45) ∧ r ≤ 63) ∧ (RP N A b))) := by
  refine kx_met (lo := [some (vR G 163), some (vI a1), none]) (by decide) (Nat.le_of_ble_eq_true rfl) rfl ?_
  intro X F hQ
  have hF_M : Fr f_e_relation M M := Fr.rf _ _
  have h_1 : 0 ≤ a1 ∧ a1 < 512 := hg.1
  have h_2 := RP.le hO hA hC
  refine kx_iconst 1 F dX12_relation_0 rfl ?_
  refine kx_istore_n 2 F 2 (lo' := [some (vR G 163), some (vI a1), some (vI 0)]) dX12_relation_1 rfl (by decide) rfl rfl rfl ?_
  have L_67 : ∀ (n_68 : Nat) (x2_66 : Int), NQ M a1 x2_66 → 0 ≤ x2_66 ∧ x2_66 ≤ 40 → (40 - (x2_66)).toNat = n_68 → KJ true G X M 2 [some (vR G 163), some (vI a1), some (vI x2_66)] [] := by
    intro n_68
    refine Nat.strongRecOn n_68 ?_
    intro n_68 ih_69 x2_66 hp_72 h_70 hm_71
    refine kx_iload_n 3 F 2 dX12_relation_2 rfl rfl rfl ?_
    refine kx_aload_n 4 F 0 dX12_relation_3 rfl rfl rfl ?_
    refine kx_geti 7 F fl_X12_459 kd_163 rfl rfl (j := 45) rfl dX12_relation_4 (v := (M 163 45)) rfl rfl ?_
    have h_73 := Inv.g hI_M kd_163 rfl 45 (a := 0) (b := 64) rfl rfl
    refine kx_icmp_ge 10 F 28 dX12_relation_7 (by decide) rfl (by omega) (by omega) (fun h_74 => ?_) (fun h_74 => ?_)
    · refine kx_aload_n 29 F 0 dX12_relation_28 rfl rfl rfl ?_
      refine kx_getr 32 F fl_X12_92 kd_163 rfl rfl (j := 40) rfl dX12_relation_29 (v := 187) (uq_187 (Inv.r hI_M kd_163 rfl 40 rfl rfl)) rfl ?_
      refine kx_aload_n 33 F 0 dX12_relation_32 rfl rfl rfl ?_
      refine kx_geti 36 F fl_X12_459 kd_163 rfl rfl (j := 45) rfl dX12_relation_33 (v := (M 163 45)) rfl rfl ?_
      refine kx_iload_n 37 F 1 dX12_relation_36 rfl rfl rfl ?_
      refine kx_iast 38 F kd_187 rfl rfl (by omega) (by decide) dX12_relation_37 rfl ?_
      intro N_75 hM_N_75
      have hI_N_75 : Inv true N_75 := Inv.u hI_M hM_N_75 kd_187 (a := 0) (b := 511) rfl rfl rfl (by omega)
      have hF_N_75 : Fr f_e_relation M N_75 := Fr.u hF_M hM_N_75 kd_187 rfl
      refine kx_aload_n 39 F 0 dX12_relation_38 rfl rfl rfl ?_
      refine kx_dup 40 F dX12_relation_39 rfl rfl ?_
      refine kx_geti 43 F fl_X12_459 kd_163 rfl rfl (j := 45) rfl dX12_relation_40 (v := (M 163 45)) (by rw [hM_N_75, mu_k kd_163 kd_187 rfl]) rfl ?_
      refine kx_iconst 44 F dX12_relation_43 rfl ?_
      refine kx_iadd 45 F (v := (M 163 45) + 1) dX12_relation_44 rfl rfl ?_
      refine kx_puti 48 F fw_X12_459 rfl kd_163 rfl rfl (j := 45) rfl dX12_relation_45 rfl ?_
      intro N_76 hM_N_76
      have hI_N_76 : Inv true N_76 := Inv.u hI_N_75 hM_N_76 kd_163 (a := 0) (b := 64) rfl rfl rfl (by omega)
      have hF_N_76 : Fr f_e_relation M N_76 := Fr.u hF_N_75 hM_N_76 kd_163 rfl
      refine kx_aload_n 49 F 0 dX12_relation_48 rfl rfl rfl ?_
      refine kx_geti 52 F fl_X12_459 kd_163 rfl rfl (j := 45) rfl dX12_relation_49 (v := (M 163 45) + 1) (by rw [hM_N_76, mu_s]) rfl ?_
      refine kx_iconst 53 F dX12_relation_52 rfl ?_
      refine kx_isub 54 F (v := (M 163 45)) dX12_relation_53 (by omega) rfl ?_
      have e_77 : (N_76 163 45) = (M 163 45) + 1 := by rw [hM_N_76, mu_s]
      have e_78 : (N_76 163 45) = (M 163 45) + 1 := by rw [hM_N_76, mu_s]
      have e_79 : (N_76 163 45) = (M 163 45) + 1 := by rw [hM_N_76, mu_s]
      have e_80 : N_76 187 (M 163 45) = a1 := by rw [show M 163 45 = (M 163 45) by omega, hM_N_76, mu_k kd_187 kd_163 rfl, hM_N_75, mu_s]
      exact kx_iret F hQ ⟨hI_N_76, hF_N_76, (by omega), (RP.new (m := M 163 45) hO hg rfl (fun i h0 h1 => hp_72 i h0 (by omega)) (by omega) (fun j hj => by rw [hM_N_76, mu_k kd_187 kd_163 rfl, hM_N_75, mu_i (by omega)]) (by omega))⟩ dX12_relation_54
    · refine kx_aload_n 11 F 0 dX12_relation_10 rfl rfl rfl ?_
      refine kx_getr 14 F fl_X12_92 kd_163 rfl rfl (j := 40) rfl dX12_relation_11 (v := 187) (uq_187 (Inv.r hI_M kd_163 rfl 40 rfl rfl)) rfl ?_
      refine kx_iload_n 15 F 2 dX12_relation_14 rfl rfl rfl ?_
      refine kx_iald 16 F kd_187 rfl rfl (by omega) (by decide) dX12_relation_15 (v := (M 187 x2_66)) rfl rfl ?_
      have h_81 := Inv.g hI_M kd_187 rfl x2_66 (a := 0) (b := 511) rfl rfl
      refine kx_iload_n 17 F 1 dX12_relation_16 rfl rfl rfl ?_
      refine kx_icmp_ne 20 F 22 dX12_relation_17 (by decide) rfl (by omega) (by omega) (fun h_82 => ?_) (fun h_82 => ?_)
      · refine kx_iinc 25 F 2 (v := x2_66 + 1) (lo' := [some (vR G 163), some (vI a1), some (vI (x2_66 + 1))]) dX12_relation_22 rfl (by omega) (by decide) rfl rfl rfl ?_
        refine kx_goto 2 F dX12_relation_25 (by decide) ?_
        exact ih_69 _ (by omega) (x2_66 + 1) (NQ.step hp_72 (by omega) (by omega)) (by omega) rfl
      · refine kx_iload_n 21 F 2 dX12_relation_20 rfl rfl rfl ?_
        exact kx_iret F hQ ⟨hI_M, hF_M, (by omega), hO⟩ dX12_relation_21
  exact L_67 _ 0 (fun i h0 h1 => absurd h0 (by omega)) (by omega) rfl
theorem dX12_laysSpans_0 : decode cX12_laysSpans 0 = .ok (.iconst 0, 1) := by decide +kernel
theorem dX12_laysSpans_1 : decode cX12_laysSpans 1 = .ok (.istore_n 3, 1) := by decide +kernel
theorem dX12_laysSpans_2 : decode cX12_laysSpans 2 = .ok (.aload_n 0, 1) := by decide +kernel
theorem dX12_laysSpans_3 : decode cX12_laysSpans 3 = .ok (.getfield 459, 3) := by decide +kernel
theorem dX12_laysSpans_6 : decode cX12_laysSpans 6 = .ok (.istore 4, 2) := by decide +kernel
theorem dX12_laysSpans_8 : decode cX12_laysSpans 8 = .ok (.iconst 0, 1) := by decide +kernel
theorem dX12_laysSpans_9 : decode cX12_laysSpans 9 = .ok (.istore 5, 2) := by decide +kernel
theorem dX12_laysSpans_11 : decode cX12_laysSpans 11 = .ok (.iload 5, 2) := by decide +kernel
theorem dX12_laysSpans_13 : decode cX12_laysSpans 13 = .ok (.aload_n 0, 1) := by decide +kernel
theorem dX12_laysSpans_14 : decode cX12_laysSpans 14 = .ok (.getfield 7, 3) := by decide +kernel
theorem dX12_laysSpans_17 : decode cX12_laysSpans 17 = .ok (.iconst 0, 1) := by decide +kernel
theorem dX12_laysSpans_18 : decode cX12_laysSpans 18 = .ok (.iaload, 1) := by decide +kernel
theorem dX12_laysSpans_19 : decode cX12_laysSpans 19 = .ok (.if_icmp .ge 187, 3) := by decide +kernel
theorem dX12_laysSpans_22 : decode cX12_laysSpans 22 = .ok (.aload_n 0, 1) := by decide +kernel
theorem dX12_laysSpans_23 : decode cX12_laysSpans 23 = .ok (.getfield 7, 3) := by decide +kernel
theorem dX12_laysSpans_26 : decode cX12_laysSpans 26 = .ok (.iconst 0, 1) := by decide +kernel
theorem dX12_laysSpans_27 : decode cX12_laysSpans 27 = .ok (.iaload, 1) := by decide +kernel
theorem dX12_laysSpans_28 : decode cX12_laysSpans 28 = .ok (.istore 6, 2) := by decide +kernel
theorem dX12_laysSpans_30 : decode cX12_laysSpans 30 = .ok (.iload 6, 2) := by decide +kernel
theorem dX12_laysSpans_32 : decode cX12_laysSpans 32 = .ok (.aload_n 0, 1) := by decide +kernel
theorem dX12_laysSpans_33 : decode cX12_laysSpans 33 = .ok (.getfield 7, 3) := by decide +kernel
theorem dX12_laysSpans_36 : decode cX12_laysSpans 36 = .ok (.iconst 0, 1) := by decide +kernel
theorem dX12_laysSpans_37 : decode cX12_laysSpans 37 = .ok (.iaload, 1) := by decide +kernel
theorem dX12_laysSpans_38 : decode cX12_laysSpans 38 = .ok (.aload_n 0, 1) := by decide +kernel
theorem dX12_laysSpans_39 : decode cX12_laysSpans 39 = .ok (.getfield 7, 3) := by decide +kernel
theorem dX12_laysSpans_42 : decode cX12_laysSpans 42 = .ok (.iconst 1, 1) := by decide +kernel
theorem dX12_laysSpans_43 : decode cX12_laysSpans 43 = .ok (.iaload, 1) := by decide +kernel
theorem dX12_laysSpans_44 : decode cX12_laysSpans 44 = .ok (.iadd, 1) := by decide +kernel
theorem dX12_laysSpans_45 : decode cX12_laysSpans 45 = .ok (.if_icmp .ge 155, 3) := by decide +kernel
theorem dX12_laysSpans_48 : decode cX12_laysSpans 48 = .ok (.iconst 0, 1) := by decide +kernel
theorem dX12_laysSpans_49 : decode cX12_laysSpans 49 = .ok (.istore 7, 2) := by decide +kernel
theorem dX12_laysSpans_51 : decode cX12_laysSpans 51 = .ok (.iload 7, 2) := by decide +kernel
theorem dX12_laysSpans_53 : decode cX12_laysSpans 53 = .ok (.iload 4, 2) := by decide +kernel
theorem dX12_laysSpans_55 : decode cX12_laysSpans 55 = .ok (.if_icmp .ge 139, 3) := by decide +kernel
theorem dX12_laysSpans_58 : decode cX12_laysSpans 58 = .ok (.aload_n 0, 1) := by decide +kernel
theorem dX12_laysSpans_59 : decode cX12_laysSpans 59 = .ok (.aload_n 0, 1) := by decide +kernel
theorem dX12_laysSpans_60 : decode cX12_laysSpans 60 = .ok (.iload_n 2, 1) := by decide +kernel
theorem dX12_laysSpans_61 : decode cX12_laysSpans 61 = .ok (.aload_n 0, 1) := by decide +kernel
theorem dX12_laysSpans_62 : decode cX12_laysSpans 62 = .ok (.getfield 92, 3) := by decide +kernel
theorem dX12_laysSpans_65 : decode cX12_laysSpans 65 = .ok (.iload 7, 2) := by decide +kernel
theorem dX12_laysSpans_67 : decode cX12_laysSpans 67 = .ok (.iaload, 1) := by decide +kernel
theorem dX12_laysSpans_68 : decode cX12_laysSpans 68 = .ok (.iload 5, 2) := by decide +kernel
theorem dX12_laysSpans_70 : decode cX12_laysSpans 70 = .ok (.iload 6, 2) := by decide +kernel
theorem dX12_laysSpans_72 : decode cX12_laysSpans 72 = .ok (.invokevirtual 335, 3) := by decide +kernel
theorem dX12_laysSpans_75 : decode cX12_laysSpans 75 = .ok (.invokevirtual 462, 3) := by decide +kernel
theorem dX12_laysSpans_78 : decode cX12_laysSpans 78 = .ok (.istore 8, 2) := by decide +kernel
theorem dX12_laysSpans_80 : decode cX12_laysSpans 80 = .ok (.iconst 0, 1) := by decide +kernel
theorem dX12_laysSpans_81 : decode cX12_laysSpans 81 = .ok (.istore 9, 2) := by decide +kernel
theorem dX12_laysSpans_83 : decode cX12_laysSpans 83 = .ok (.iload 9, 2) := by decide +kernel
theorem dX12_laysSpans_85 : decode cX12_laysSpans 85 = .ok (.bipush 9, 2) := by decide +kernel
theorem dX12_laysSpans_87 : decode cX12_laysSpans 87 = .ok (.if_icmp .ge 101, 3) := by decide +kernel
theorem dX12_laysSpans_90 : decode cX12_laysSpans 90 = .ok (.aload_n 0, 1) := by decide +kernel
theorem dX12_laysSpans_91 : decode cX12_laysSpans 91 = .ok (.getfield 95, 3) := by decide +kernel
theorem dX12_laysSpans_94 : decode cX12_laysSpans 94 = .ok (.bipush 64, 2) := by decide +kernel
theorem dX12_laysSpans_96 : decode cX12_laysSpans 96 = .ok (.iload 9, 2) := by decide +kernel
theorem dX12_laysSpans_98 : decode cX12_laysSpans 98 = .ok (.imul, 1) := by decide +kernel
theorem dX12_laysSpans_99 : decode cX12_laysSpans 99 = .ok (.iload 7, 2) := by decide +kernel
theorem dX12_laysSpans_101 : decode cX12_laysSpans 101 = .ok (.iadd, 1) := by decide +kernel
theorem dX12_laysSpans_102 : decode cX12_laysSpans 102 = .ok (.iaload, 1) := by decide +kernel
theorem dX12_laysSpans_103 : decode cX12_laysSpans 103 = .ok (.iconst 2, 1) := by decide +kernel
theorem dX12_laysSpans_104 : decode cX12_laysSpans 104 = .ok (.iadd, 1) := by decide +kernel
theorem dX12_laysSpans_105 : decode cX12_laysSpans 105 = .ok (.istore 10, 2) := by decide +kernel
theorem dX12_laysSpans_107 : decode cX12_laysSpans 107 = .ok (.iconst 0, 1) := by decide +kernel
theorem dX12_laysSpans_108 : decode cX12_laysSpans 108 = .ok (.istore 11, 2) := by decide +kernel
theorem dX12_laysSpans_110 : decode cX12_laysSpans 110 = .ok (.iload 11, 2) := by decide +kernel
theorem dX12_laysSpans_112 : decode cX12_laysSpans 112 = .ok (.bipush 9, 2) := by decide +kernel
theorem dX12_laysSpans_114 : decode cX12_laysSpans 114 = .ok (.if_icmp .ge 68, 3) := by decide +kernel
theorem dX12_laysSpans_117 : decode cX12_laysSpans 117 = .ok (.iload 10, 2) := by decide +kernel
theorem dX12_laysSpans_119 : decode cX12_laysSpans 119 = .ok (.ldc_w 428, 3) := by decide +kernel
theorem dX12_laysSpans_122 : decode cX12_laysSpans 122 = .ok (.if_icmp .ge 60, 3) := by decide +kernel
theorem dX12_laysSpans_125 : decode cX12_laysSpans 125 = .ok (.aload_n 0, 1) := by decide +kernel
theorem dX12_laysSpans_126 : decode cX12_laysSpans 126 = .ok (.iload_n 1, 1) := by decide +kernel
theorem dX12_laysSpans_127 : decode cX12_laysSpans 127 = .ok (.iload 5, 2) := by decide +kernel
theorem dX12_laysSpans_129 : decode cX12_laysSpans 129 = .ok (.iload 11, 2) := by decide +kernel
theorem dX12_laysSpans_131 : decode cX12_laysSpans 131 = .ok (.iconst 3, 1) := by decide +kernel
theorem dX12_laysSpans_132 : decode cX12_laysSpans 132 = .ok (.idiv, 1) := by decide +kernel
theorem dX12_laysSpans_133 : decode cX12_laysSpans 133 = .ok (.iload 9, 2) := by decide +kernel
theorem dX12_laysSpans_135 : decode cX12_laysSpans 135 = .ok (.iconst 3, 1) := by decide +kernel
theorem dX12_laysSpans_136 : decode cX12_laysSpans 136 = .ok (.idiv, 1) := by decide +kernel
theorem dX12_laysSpans_137 : decode cX12_laysSpans 137 = .ok (.iload 6, 2) := by decide +kernel
theorem dX12_laysSpans_139 : decode cX12_laysSpans 139 = .ok (.iload 9, 2) := by decide +kernel
theorem dX12_laysSpans_141 : decode cX12_laysSpans 141 = .ok (.iconst 3, 1) := by decide +kernel
theorem dX12_laysSpans_142 : decode cX12_laysSpans 142 = .ok (.irem, 1) := by decide +kernel
theorem dX12_laysSpans_143 : decode cX12_laysSpans 143 = .ok (.iload 11, 2) := by decide +kernel
theorem dX12_laysSpans_145 : decode cX12_laysSpans 145 = .ok (.iconst 3, 1) := by decide +kernel
theorem dX12_laysSpans_146 : decode cX12_laysSpans 146 = .ok (.irem, 1) := by decide +kernel
theorem dX12_laysSpans_147 : decode cX12_laysSpans 147 = .ok (.invokevirtual 429, 3) := by decide +kernel
theorem dX12_laysSpans_150 : decode cX12_laysSpans 150 = .ok (.ifCond .eq 26, 3) := by decide +kernel
theorem dX12_laysSpans_153 : decode cX12_laysSpans 153 = .ok (.aload_n 0, 1) := by decide +kernel
theorem dX12_laysSpans_154 : decode cX12_laysSpans 154 = .ok (.aload_n 0, 1) := by decide +kernel
theorem dX12_laysSpans_155 : decode cX12_laysSpans 155 = .ok (.getfield 98, 3) := by decide +kernel
theorem dX12_laysSpans_158 : decode cX12_laysSpans 158 = .ok (.bipush 64, 2) := by decide +kernel
theorem dX12_laysSpans_160 : decode cX12_laysSpans 160 = .ok (.iload 11, 2) := by decide +kernel
theorem dX12_laysSpans_162 : decode cX12_laysSpans 162 = .ok (.imul, 1) := by decide +kernel
theorem dX12_laysSpans_163 : decode cX12_laysSpans 163 = .ok (.iload 8, 2) := by decide +kernel
theorem dX12_laysSpans_165 : decode cX12_laysSpans 165 = .ok (.iadd, 1) := by decide +kernel
theorem dX12_laysSpans_166 : decode cX12_laysSpans 166 = .ok (.iload 10, 2) := by decide +kernel
theorem dX12_laysSpans_168 : decode cX12_laysSpans 168 = .ok (.invokevirtual 448, 3) := by decide +kernel
theorem dX12_laysSpans_171 : decode cX12_laysSpans 171 = .ok (.ifCond .eq 5, 3) := by decide +kernel
theorem dX12_laysSpans_174 : decode cX12_laysSpans 174 = .ok (.iconst 1, 1) := by decide +kernel
theorem dX12_laysSpans_175 : decode cX12_laysSpans 175 = .ok (.istore_n 3, 1) := by decide +kernel
theorem dX12_laysSpans_176 : decode cX12_laysSpans 176 = .ok (.iinc 11 1, 3) := by decide +kernel
theorem dX12_laysSpans_179 : decode cX12_laysSpans 179 = .ok (.goto (-69), 3) := by decide +kernel
theorem dX12_laysSpans_182 : decode cX12_laysSpans 182 = .ok (.iinc 9 1, 3) := by decide +kernel
theorem dX12_laysSpans_185 : decode cX12_laysSpans 185 = .ok (.goto (-102), 3) := by decide +kernel
theorem dX12_laysSpans_188 : decode cX12_laysSpans 188 = .ok (.iinc 7 1, 3) := by decide +kernel
theorem dX12_laysSpans_191 : decode cX12_laysSpans 191 = .ok (.goto (-140), 3) := by decide +kernel
theorem dX12_laysSpans_194 : decode cX12_laysSpans 194 = .ok (.iinc 6 1, 3) := by decide +kernel
theorem dX12_laysSpans_197 : decode cX12_laysSpans 197 = .ok (.goto (-167), 3) := by decide +kernel
theorem dX12_laysSpans_200 : decode cX12_laysSpans 200 = .ok (.iinc 5 1, 3) := by decide +kernel
theorem dX12_laysSpans_203 : decode cX12_laysSpans 203 = .ok (.goto (-192), 3) := by decide +kernel
theorem dX12_laysSpans_206 : decode cX12_laysSpans 206 = .ok (.iload_n 3, 1) := by decide +kernel
theorem dX12_laysSpans_207 : decode cX12_laysSpans 207 = .ok (.ireturn, 1) := by decide +kernel
abbrev f_e_laysSpans : List (Nat × Int) := [(64, 45), (86, -1), (87, -1)]
set_option maxHeartbeats 4000000 in
set_option maxRecDepth 100000 in
theorem e_laysSpans (G : KG) (l : Launch) (M : Mem) (a1 : Int) (a2 : Int) (hI_M : Inv true M) (hpre : -2147483648 ≤ a1 ∧ a1 ≤ 2147483647 ∧ -2147483648 ≤ a2 ∧ a2 ≤ 2147483647 ∧ 0 ≤ a1 ∧ a1 ≤ 2 ∧ 0 ≤ a2 ∧ a2 ≤ 1) (hD : LD M) (hO : RP M (M 164) a2) (hA : AOK (M 164) a2) (hC : Clo (M 164) a2) : KC true G l yX12_laysSpans cX12_laysSpans 12 (some .boolean) (3, 75) [vR G 163, vI a1, vI a2] M (fun A => kQi true G A (fun (r : Int) (N : Mem) => Inv true N ∧ Fr f_e_laysSpans M N ∧ ((r = 1 ∧ (tot 87 576 N) + 1 ≤ (tot 87 576 M)) ∨ (r = 0 ∧ (tot 87 576 N) ≤ (tot 87 576 M))) ∧ (RP N (M 164) a2))) := by
  refine kx_met (lo := [some (vR G 163), some (vI a1), some (vI a2), none, none, none, none, none, none, none, none, none]) (by decide) (Nat.le_of_ble_eq_true rfl) rfl ?_
  intro X F hQ
  have hF_M : Fr f_e_laysSpans M M := Fr.rf _ _
  have h_1 := Inv.g hI_M kd_164 rfl 0 (a := 0) (b := 2) (at_c 0 0 (o := 0) (lo := 0) (hi := 2) (by omega) (by decide) (by decide) (by decide)).1 (at_c 0 0 (o := 0) (lo := 0) (hi := 2) (by omega) (by decide) (by decide) (by decide)).2
  have h_2 := Inv.g hI_M kd_164 rfl 1 (a := 0) (b := 2) (at_c 1 0 (o := 1) (lo := 0) (hi := 2) (by omega) (by decide) (by decide) (by decide)).1 (at_c 1 0 (o := 1) (lo := 0) (hi := 2) (by omega) (by decide) (by decide) (by decide)).2
  have h_3 := Inv.g hI_M kd_164 rfl 2 (a := 0) (b := 2) (at_c 2 0 (o := 2) (lo := 0) (hi := 2) (by omega) (by decide) (by decide) (by decide)).1 (at_c 2 0 (o := 2) (lo := 0) (hi := 2) (by omega) (by decide) (by decide) (by decide)).2
  refine kx_iconst 1 F dX12_laysSpans_0 rfl ?_
  refine kx_istore_n 2 F 3 (lo' := [some (vR G 163), some (vI a1), some (vI a2), some (vI 0), none, none, none, none, none, none, none, none]) dX12_laysSpans_1 rfl (by decide) rfl rfl rfl ?_
  refine kx_aload_n 3 F 0 dX12_laysSpans_2 rfl rfl rfl ?_
  refine kx_geti 6 F fl_X12_459 kd_163 rfl rfl (j := 45) rfl dX12_laysSpans_3 (v := (M 163 45)) rfl rfl ?_
  have h_4 := Inv.g hI_M kd_163 rfl 45 (a := 0) (b := 64) rfl rfl
  refine kx_istore 8 F 4 (lo' := [some (vR G 163), some (vI a1), some (vI a2), some (vI 0), some (vI (M 163 45)), none, none, none, none, none, none, none]) dX12_laysSpans_6 (by decide) rfl rfl rfl ?_
  refine kx_iconst 9 F dX12_laysSpans_8 rfl ?_
  refine kx_istore 11 F 5 (lo' := [some (vR G 163), some (vI a1), some (vI a2), some (vI 0), some (vI (M 163 45)), some (vI 0), none, none, none, none, none, none]) dX12_laysSpans_9 (by decide) rfl rfl rfl ?_
  have L_104348 : ∀ (n_104349 : Nat) (x3_104345 : Int) (x5_104346 : Int) (N_104347 : Mem), Inv true N_104347 → Fr f_e_laysSpans M N_104347 → RP N_104347 (M 164) a2 → LD N_104347 → 0 ≤ x3_104345 ∧ x3_104345 ≤ 1 ∧ 0 ≤ x5_104346 ∧ x5_104346 ≤ 2 ∧ (tot 87 576 N_104347) + x3_104345 ≤ (tot 87 576 M) ∧ (M 163 45) ≤ (N_104347 163 45) → (2 - (x5_104346)).toNat = n_104349 → KJ true G X N_104347 11 [some (vR G 163), some (vI a1), some (vI a2), some (vI x3_104345), some (vI (M 163 45)), some (vI x5_104346), none, none, none, none, none, none] [] := by
    intro n_104349
    refine Nat.strongRecOn n_104349 ?_
    intro n_104349 ih_104350 x3_104345 x5_104346 N_104347 hI_N_104347 hF_N_104347 hp_104353 hp_104354 h_104351 hm_104352
    refine kx_iload 13 F 5 dX12_laysSpans_11 rfl rfl ?_
    refine kx_aload_n 14 F 0 dX12_laysSpans_13 rfl rfl rfl ?_
    refine kx_getr 17 F fl_X12_7 kd_163 rfl rfl (j := 0) rfl dX12_laysSpans_14 (v := 164) (uq_164 (Inv.r hI_N_104347 kd_163 rfl 0 rfl rfl)) rfl ?_
    refine kx_iconst 18 F dX12_laysSpans_17 rfl ?_
    refine kx_iald 19 F kd_164 rfl rfl (by omega) (by decide) dX12_laysSpans_18 (v := (M 164 0)) (by rw [Fr.e hF_N_104347 kd_164 _ rfl]) rfl ?_
    have ha_104355 : atlo 0 = 0 ∧ athi 0 = 2 := at_c 0 0 (o := 0) (lo := 0) (hi := 2) (by omega) (by decide) (by decide) (by decide)
    refine kx_icmp_ge 22 F 206 dX12_laysSpans_19 (by decide) rfl (by omega) (by omega) (fun h_104356 => ?_) (fun h_104356 => ?_)
    · refine kx_iload_n 207 F 3 dX12_laysSpans_206 rfl rfl rfl ?_
      exact kx_zret F hQ (by omega) ⟨hI_N_104347, hF_N_104347, (by omega), hp_104353⟩ dX12_laysSpans_207
    · refine kx_aload_n 23 F 0 dX12_laysSpans_22 rfl rfl rfl ?_
      refine kx_getr 26 F fl_X12_7 kd_163 rfl rfl (j := 0) rfl dX12_laysSpans_23 (v := 164) (uq_164 (Inv.r hI_N_104347 kd_163 rfl 0 rfl rfl)) rfl ?_
      refine kx_iconst 27 F dX12_laysSpans_26 rfl ?_
      refine kx_iald 28 F kd_164 rfl rfl (by omega) (by decide) dX12_laysSpans_27 (v := (M 164 0)) (by rw [Fr.e hF_N_104347 kd_164 _ rfl]) rfl ?_
      refine kx_istore 30 F 6 (lo' := [some (vR G 163), some (vI a1), some (vI a2), some (vI x3_104345), some (vI (M 163 45)), some (vI x5_104346), some (vI (M 164 0)), none, none, none, none, none]) dX12_laysSpans_28 (by decide) rfl rfl rfl ?_
      have L_130436 : ∀ (n_130437 : Nat) (x3_130433 : Int) (x6_130434 : Int) (N_130435 : Mem), Inv true N_130435 → Fr f_e_laysSpans M N_130435 → RP N_130435 (M 164) a2 → LD N_130435 → 0 ≤ x3_130433 ∧ x3_130433 ≤ 1 ∧ 1 ≤ x6_130434 ∧ x6_130434 ≤ 4 ∧ (tot 87 576 N_130435) + x3_130433 ≤ (tot 87 576 M) ∧ (M 163 45) ≤ (N_130435 163 45) ∧ (M 164 0) ≤ x6_130434 → (4 - (x6_130434)).toNat = n_130437 → KJ true G X N_130435 30 [some (vR G 163), some (vI a1), some (vI a2), some (vI x3_130433), some (vI (M 163 45)), some (vI x5_104346), some (vI x6_130434), none, none, none, none, none] [] := by
        intro n_130437
        refine Nat.strongRecOn n_130437 ?_
        intro n_130437 ih_130438 x3_130433 x6_130434 N_130435 hI_N_130435 hF_N_130435 hp_130441 hp_130442 h_130439 hm_130440
        refine kx_iload 32 F 6 dX12_laysSpans_30 rfl rfl ?_
        refine kx_aload_n 33 F 0 dX12_laysSpans_32 rfl rfl rfl ?_
        refine kx_getr 36 F fl_X12_7 kd_163 rfl rfl (j := 0) rfl dX12_laysSpans_33 (v := 164) (uq_164 (Inv.r hI_N_130435 kd_163 rfl 0 rfl rfl)) rfl ?_
        refine kx_iconst 37 F dX12_laysSpans_36 rfl ?_
        refine kx_iald 38 F kd_164 rfl rfl (by omega) (by decide) dX12_laysSpans_37 (v := (M 164 0)) (by rw [Fr.e hF_N_130435 kd_164 _ rfl]) rfl ?_
        refine kx_aload_n 39 F 0 dX12_laysSpans_38 rfl rfl rfl ?_
        refine kx_getr 42 F fl_X12_7 kd_163 rfl rfl (j := 0) rfl dX12_laysSpans_39 (v := 164) (uq_164 (Inv.r hI_N_130435 kd_163 rfl 0 rfl rfl)) rfl ?_
        refine kx_iconst 43 F dX12_laysSpans_42 rfl ?_
        refine kx_iald 44 F kd_164 rfl rfl (by omega) (by decide) dX12_laysSpans_43 (v := (M 164 1)) (by rw [Fr.e hF_N_130435 kd_164 _ rfl]) rfl ?_
        have ha_130443 : atlo 1 = 0 ∧ athi 1 = 2 := at_c 1 0 (o := 1) (lo := 0) (hi := 2) (by omega) (by decide) (by decide) (by decide)
        refine kx_iadd 45 F (v := (M 164 0) + (M 164 1)) dX12_laysSpans_44 rfl rfl ?_
        refine kx_icmp_ge 48 F 200 dX12_laysSpans_45 (by decide) rfl (by omega) (by omega) (fun h_130444 => ?_) (fun h_130444 => ?_)
        · refine kx_iinc 203 F 5 (v := x5_104346 + 1) (lo' := [some (vR G 163), some (vI a1), some (vI a2), some (vI x3_130433), some (vI (M 163 45)), some (vI (x5_104346 + 1)), some (vI x6_130434), none, none, none, none, none]) dX12_laysSpans_200 rfl (by omega) (by decide) rfl rfl rfl ?_
          refine kx_goto 11 F dX12_laysSpans_203 (by decide) ?_
          refine kx_drop 6 (lo' := [some (vR G 163), some (vI a1), some (vI a2), some (vI x3_130433), some (vI (M 163 45)), some (vI (x5_104346 + 1)), none, none, none, none, none, none]) rfl ?_
          have h_130445 := Inv.g hI_N_130435 kd_163 rfl 45 (a := 0) (b := 64) rfl rfl
          exact ih_104350 _ (by omega) x3_130433 (x5_104346 + 1) N_130435 hI_N_130435 hF_N_130435 hp_130441 hp_130442 (by omega) rfl
        · refine kx_iconst 49 F dX12_laysSpans_48 rfl ?_
          refine kx_istore 51 F 7 (lo' := [some (vR G 163), some (vI a1), some (vI a2), some (vI x3_130433), some (vI (M 163 45)), some (vI x5_104346), some (vI x6_130434), some (vI 0), none, none, none, none]) dX12_laysSpans_49 (by decide) rfl rfl rfl ?_
          have L_138044 : ∀ (n_138045 : Nat) (x3_138041 : Int) (x7_138042 : Int) (N_138043 : Mem), Inv true N_138043 → Fr f_e_laysSpans M N_138043 → RP N_138043 (M 164) a2 → LD N_138043 → 0 ≤ x3_138041 ∧ x3_138041 ≤ 1 ∧ 0 ≤ x7_138042 ∧ x7_138042 ≤ 64 ∧ (tot 87 576 N_138043) + x3_138041 ≤ (tot 87 576 M) ∧ (M 163 45) ≤ (N_138043 163 45) → (64 - (x7_138042)).toNat = n_138045 → KJ true G X N_138043 51 [some (vR G 163), some (vI a1), some (vI a2), some (vI x3_138041), some (vI (M 163 45)), some (vI x5_104346), some (vI x6_130434), some (vI x7_138042), none, none, none, none] [] := by
            intro n_138045
            refine Nat.strongRecOn n_138045 ?_
            intro n_138045 ih_138046 x3_138041 x7_138042 N_138043 hI_N_138043 hF_N_138043 hp_138049 hp_138050 h_138047 hm_138048
            refine kx_iload 53 F 7 dX12_laysSpans_51 rfl rfl ?_
            refine kx_iload 55 F 4 dX12_laysSpans_53 rfl rfl ?_
            refine kx_icmp_ge 58 F 194 dX12_laysSpans_55 (by decide) rfl (by omega) (by omega) (fun h_138051 => ?_) (fun h_138051 => ?_)
            · refine kx_iinc 197 F 6 (v := x6_130434 + 1) (lo' := [some (vR G 163), some (vI a1), some (vI a2), some (vI x3_138041), some (vI (M 163 45)), some (vI x5_104346), some (vI (x6_130434 + 1)), some (vI x7_138042), none, none, none, none]) dX12_laysSpans_194 rfl (by omega) (by decide) rfl rfl rfl ?_
              refine kx_goto 30 F dX12_laysSpans_197 (by decide) ?_
              refine kx_drop 7 (lo' := [some (vR G 163), some (vI a1), some (vI a2), some (vI x3_138041), some (vI (M 163 45)), some (vI x5_104346), some (vI (x6_130434 + 1)), none, none, none, none, none]) rfl ?_
              have h_138052 := Inv.g hI_N_138043 kd_163 rfl 45 (a := 0) (b := 64) rfl rfl
              exact ih_130438 _ (by omega) x3_138041 (x6_130434 + 1) N_138043 hI_N_138043 hF_N_138043 hp_138049 hp_138050 (by omega) rfl
            · refine kx_aload_n 59 F 0 dX12_laysSpans_58 rfl rfl rfl ?_
              refine kx_aload_n 60 F 0 dX12_laysSpans_59 rfl rfl rfl ?_
              refine kx_iload_n 61 F 2 dX12_laysSpans_60 rfl rfl rfl ?_
              refine kx_aload_n 62 F 0 dX12_laysSpans_61 rfl rfl rfl ?_
              refine kx_getr 65 F fl_X12_92 kd_163 rfl rfl (j := 40) rfl dX12_laysSpans_62 (v := 187) (uq_187 (Inv.r hI_N_138043 kd_163 rfl 40 rfl rfl)) rfl ?_
              refine kx_iload 67 F 7 dX12_laysSpans_65 rfl rfl ?_
              refine kx_iald 68 F kd_187 rfl rfl (by omega) (by decide) dX12_laysSpans_67 (v := (N_138043 187 x7_138042)) rfl rfl ?_
              have h_138053 := Inv.g hI_N_138043 kd_187 rfl x7_138042 (a := 0) (b := 511) rfl rfl
              refine kx_iload 70 F 5 dX12_laysSpans_68 rfl rfl ?_
              refine kx_iload 72 F 6 dX12_laysSpans_70 rfl rfl ?_
              refine kx_Vi 75 (ci := 0) F (As := [vI a2, vI (N_138043 187 x7_138042), vI x5_104346, vI x6_130434]) (st := [vR G 163]) vd_X12_335 (e_over G l N_138043 a2 (N_138043 187 x7_138042) x5_104346 x6_130434 hI_N_138043 (by omega)) kd_163 rfl rfl rfl ⟨by decide, by decide⟩ rfl rfl (Nat.le_of_ble_eq_true rfl) dX12_laysSpans_72 rfl ?_
              intro r_138054 N_138055 q_138056
              obtain ⟨rfl, q_138056c, hz_N_138055⟩ := q_138056
              refine kx_Vi 78 (ci := 0) F (As := [vI r_138054]) (st := []) vd_X12_462 (e_relation G l N_138043 r_138054 hI_N_138043 (by omega) hp_138049 hA hC (Gd.ov hp_138050 (funext (fun j => by rw [Fr.e hF_N_138043 kd_164 _ rfl])) hA hp_138049 (i := x7_138042) (c := x5_104346) (l := x6_130434) (by omega) (by omega) (by omega) (by omega) hz_N_138055)) kd_163 rfl rfl rfl ⟨by decide, by decide⟩ rfl rfl (Nat.le_of_ble_eq_true rfl) dX12_laysSpans_75 rfl ?_
              intro r_138057 N_138058 q_138059
              obtain ⟨hI_N_138058, hG_N_138058, q_138059c, ho_N_138058⟩ := q_138059
              have hF_N_138058 : Fr f_e_laysSpans M N_138058 := Fr.c hF_N_138043 hG_N_138058 rfl
              have ht_138060 := tot_fr 87 576 hG_N_138058 rfl
              have h_138061 := Inv.g hI_N_138058 kd_163 rfl 45 (a := 0) (b := 64) rfl rfl
              have h_138062 := Inv.g hI_N_138043 kd_163 rfl 45 (a := 0) (b := 64) rfl rfl
              refine kx_istore 80 F 8 (lo' := [some (vR G 163), some (vI a1), some (vI a2), some (vI x3_138041), some (vI (M 163 45)), some (vI x5_104346), some (vI x6_130434), some (vI x7_138042), some (vI r_138057), none, none, none]) dX12_laysSpans_78 (by decide) rfl rfl rfl ?_
              refine kx_iconst 81 F dX12_laysSpans_80 rfl ?_
              refine kx_istore 83 F 9 (lo' := [some (vR G 163), some (vI a1), some (vI a2), some (vI x3_138041), some (vI (M 163 45)), some (vI x5_104346), some (vI x6_130434), some (vI x7_138042), some (vI r_138057), some (vI 0), none, none]) dX12_laysSpans_81 (by decide) rfl rfl rfl ?_
              have L_138997 : ∀ (n_138998 : Nat) (x3_138994 : Int) (x9_138995 : Int) (N_138996 : Mem), Inv true N_138996 → Fr f_e_laysSpans M N_138996 → RP N_138996 (M 164) a2 → LD N_138996 → 0 ≤ x3_138994 ∧ x3_138994 ≤ 1 ∧ 0 ≤ x9_138995 ∧ x9_138995 ≤ 9 ∧ (tot 87 576 N_138996) + x3_138994 ≤ (tot 87 576 M) ∧ (M 163 45) ≤ (N_138996 163 45) → (9 - (x9_138995)).toNat = n_138998 → KJ true G X N_138996 83 [some (vR G 163), some (vI a1), some (vI a2), some (vI x3_138994), some (vI (M 163 45)), some (vI x5_104346), some (vI x6_130434), some (vI x7_138042), some (vI r_138057), some (vI x9_138995), none, none] [] := by
                intro n_138998
                refine Nat.strongRecOn n_138998 ?_
                intro n_138998 ih_138999 x3_138994 x9_138995 N_138996 hI_N_138996 hF_N_138996 hp_139002 hp_139003 h_139000 hm_139001
                refine kx_iload 85 F 9 dX12_laysSpans_83 rfl rfl ?_
                refine kx_bipush 87 F dX12_laysSpans_85 (by decide) rfl ?_
                refine kx_icmp_ge 90 F 188 dX12_laysSpans_87 (by decide) rfl (by omega) (by decide) (fun h_139004 => ?_) (fun h_139004 => ?_)
                · refine kx_iinc 191 F 7 (v := x7_138042 + 1) (lo' := [some (vR G 163), some (vI a1), some (vI a2), some (vI x3_138994), some (vI (M 163 45)), some (vI x5_104346), some (vI x6_130434), some (vI (x7_138042 + 1)), some (vI r_138057), some (vI x9_138995), none, none]) dX12_laysSpans_188 rfl (by omega) (by decide) rfl rfl rfl ?_
                  refine kx_goto 51 F dX12_laysSpans_191 (by decide) ?_
                  refine kx_drop 8 (lo' := [some (vR G 163), some (vI a1), some (vI a2), some (vI x3_138994), some (vI (M 163 45)), some (vI x5_104346), some (vI x6_130434), some (vI (x7_138042 + 1)), none, some (vI x9_138995), none, none]) rfl ?_
                  refine kx_drop 9 (lo' := [some (vR G 163), some (vI a1), some (vI a2), some (vI x3_138994), some (vI (M 163 45)), some (vI x5_104346), some (vI x6_130434), some (vI (x7_138042 + 1)), none, none, none, none]) rfl ?_
                  have h_139005 := Inv.g hI_N_138996 kd_163 rfl 45 (a := 0) (b := 64) rfl rfl
                  exact ih_138046 _ (by omega) x3_138994 (x7_138042 + 1) N_138996 hI_N_138996 hF_N_138996 hp_139002 hp_139003 (by omega) rfl
                · refine kx_aload_n 91 F 0 dX12_laysSpans_90 rfl rfl rfl ?_
                  refine kx_getr 94 F fl_X12_95 kd_163 rfl rfl (j := 41) rfl dX12_laysSpans_91 (v := (M 163 41)) (by rw [Fr.e hF_N_138996 kd_163 _ rfl]) rfl ?_
                  have hk_139006 : kd (M 163 41) = 87 := Inv.r hI_M kd_163 rfl 41 rfl rfl
                  refine kx_bipush 96 F dX12_laysSpans_94 (by decide) rfl ?_
                  refine kx_iload 98 F 9 dX12_laysSpans_96 rfl rfl ?_
                  refine kx_imul 99 F (v := 64 * x9_138995) dX12_laysSpans_98 (by omega) rfl ?_
                  refine kx_iload 101 F 7 dX12_laysSpans_99 rfl rfl ?_
                  refine kx_iadd 102 F (v := 64 * x9_138995 + x7_138042) dX12_laysSpans_101 rfl rfl ?_
                  refine kx_iald 103 F hk_139006 rfl rfl (by omega) (by decide) dX12_laysSpans_102 (v := (N_138996 (M 163 41) (64 * x9_138995 + x7_138042))) rfl rfl ?_
                  have h_139007 := Inv.g hI_N_138996 hk_139006 rfl (64 * x9_138995 + x7_138042) (a := 0) (b := 1000000) rfl rfl
                  refine kx_iconst 104 F dX12_laysSpans_103 rfl ?_
                  refine kx_iadd 105 F (v := (N_138996 (M 163 41) (64 * x9_138995 + x7_138042)) + 2) dX12_laysSpans_104 rfl rfl ?_
                  refine kx_istore 107 F 10 (lo' := [some (vR G 163), some (vI a1), some (vI a2), some (vI x3_138994), some (vI (M 163 45)), some (vI x5_104346), some (vI x6_130434), some (vI x7_138042), some (vI r_138057), some (vI x9_138995), some (vI ((N_138996 (M 163 41) (64 * x9_138995 + x7_138042)) + 2)), none]) dX12_laysSpans_105 (by decide) rfl rfl rfl ?_
                  refine kx_iconst 108 F dX12_laysSpans_107 rfl ?_
                  refine kx_istore 110 F 11 (lo' := [some (vR G 163), some (vI a1), some (vI a2), some (vI x3_138994), some (vI (M 163 45)), some (vI x5_104346), some (vI x6_130434), some (vI x7_138042), some (vI r_138057), some (vI x9_138995), some (vI ((N_138996 (M 163 41) (64 * x9_138995 + x7_138042)) + 2)), some (vI 0)]) dX12_laysSpans_108 (by decide) rfl rfl rfl ?_
                  have L_139116 : ∀ (n_139117 : Nat) (x3_139113 : Int) (x11_139114 : Int) (N_139115 : Mem), Inv true N_139115 → Fr f_e_laysSpans M N_139115 → RP N_139115 (M 164) a2 → LD N_139115 → 0 ≤ x3_139113 ∧ x3_139113 ≤ 1 ∧ 0 ≤ x11_139114 ∧ x11_139114 ≤ 9 ∧ (tot 87 576 N_139115) + x3_139113 ≤ (tot 87 576 M) ∧ (M 163 45) ≤ (N_139115 163 45) → (9 - (x11_139114)).toNat = n_139117 → KJ true G X N_139115 110 [some (vR G 163), some (vI a1), some (vI a2), some (vI x3_139113), some (vI (M 163 45)), some (vI x5_104346), some (vI x6_130434), some (vI x7_138042), some (vI r_138057), some (vI x9_138995), some (vI ((N_138996 (M 163 41) (64 * x9_138995 + x7_138042)) + 2)), some (vI x11_139114)] [] := by
                    intro n_139117
                    refine Nat.strongRecOn n_139117 ?_
                    intro n_139117 ih_139118 x3_139113 x11_139114 N_139115 hI_N_139115 hF_N_139115 hp_139121 hp_139122 h_139119 hm_139120
                    refine kx_iload 112 F 11 dX12_laysSpans_110 rfl rfl ?_
                    refine kx_bipush 114 F dX12_laysSpans_112 (by decide) rfl ?_
                    refine kx_icmp_ge 117 F 182 dX12_laysSpans_114 (by decide) rfl (by omega) (by decide) (fun h_139123 => ?_) (fun h_139123 => ?_)
                    · refine kx_iinc 185 F 9 (v := x9_138995 + 1) (lo' := [some (vR G 163), some (vI a1), some (vI a2), some (vI x3_139113), some (vI (M 163 45)), some (vI x5_104346), some (vI x6_130434), some (vI x7_138042), some (vI r_138057), some (vI (x9_138995 + 1)), some (vI ((N_138996 (M 163 41) (64 * x9_138995 + x7_138042)) + 2)), some (vI x11_139114)]) dX12_laysSpans_182 rfl (by omega) (by decide) rfl rfl rfl ?_
                      refine kx_goto 83 F dX12_laysSpans_185 (by decide) ?_
                      refine kx_drop 10 (lo' := [some (vR G 163), some (vI a1), some (vI a2), some (vI x3_139113), some (vI (M 163 45)), some (vI x5_104346), some (vI x6_130434), some (vI x7_138042), some (vI r_138057), some (vI (x9_138995 + 1)), none, some (vI x11_139114)]) rfl ?_
                      refine kx_drop 11 (lo' := [some (vR G 163), some (vI a1), some (vI a2), some (vI x3_139113), some (vI (M 163 45)), some (vI x5_104346), some (vI x6_130434), some (vI x7_138042), some (vI r_138057), some (vI (x9_138995 + 1)), none, none]) rfl ?_
                      have h_139124 := Inv.g hI_N_139115 kd_163 rfl 45 (a := 0) (b := 64) rfl rfl
                      exact ih_138999 _ (by omega) x3_139113 (x9_138995 + 1) N_139115 hI_N_139115 hF_N_139115 hp_139121 hp_139122 (by omega) rfl
                    · refine kx_iload 119 F 10 dX12_laysSpans_117 rfl rfl ?_
                      refine kx_ldcw 122 (z := 1000000) F dX12_laysSpans_119 ct_X12_428 rfl ?_
                      refine kx_icmp_ge 125 F 182 dX12_laysSpans_122 (by decide) rfl (by omega) (by decide) (fun h_139125 => ?_) (fun h_139125 => ?_)
                      · refine kx_iinc 185 F 9 (v := x9_138995 + 1) (lo' := [some (vR G 163), some (vI a1), some (vI a2), some (vI x3_139113), some (vI (M 163 45)), some (vI x5_104346), some (vI x6_130434), some (vI x7_138042), some (vI r_138057), some (vI (x9_138995 + 1)), some (vI ((N_138996 (M 163 41) (64 * x9_138995 + x7_138042)) + 2)), some (vI x11_139114)]) dX12_laysSpans_182 rfl (by omega) (by decide) rfl rfl rfl ?_
                        refine kx_goto 83 F dX12_laysSpans_185 (by decide) ?_
                        refine kx_drop 10 (lo' := [some (vR G 163), some (vI a1), some (vI a2), some (vI x3_139113), some (vI (M 163 45)), some (vI x5_104346), some (vI x6_130434), some (vI x7_138042), some (vI r_138057), some (vI (x9_138995 + 1)), none, some (vI x11_139114)]) rfl ?_
                        refine kx_drop 11 (lo' := [some (vR G 163), some (vI a1), some (vI a2), some (vI x3_139113), some (vI (M 163 45)), some (vI x5_104346), some (vI x6_130434), some (vI x7_138042), some (vI r_138057), some (vI (x9_138995 + 1)), none, none]) rfl ?_
                        have h_139126 := Inv.g hI_N_139115 kd_163 rfl 45 (a := 0) (b := 64) rfl rfl
                        exact ih_138999 _ (by omega) x3_139113 (x9_138995 + 1) N_139115 hI_N_139115 hF_N_139115 hp_139121 hp_139122 (by omega) rfl
                      · refine kx_aload_n 126 F 0 dX12_laysSpans_125 rfl rfl rfl ?_
                        refine kx_iload_n 127 F 1 dX12_laysSpans_126 rfl rfl rfl ?_
                        refine kx_iload 129 F 5 dX12_laysSpans_127 rfl rfl ?_
                        refine kx_iload 131 F 11 dX12_laysSpans_129 rfl rfl ?_
                        refine kx_iconst 132 F dX12_laysSpans_131 rfl ?_
                        refine kx_idiv 133 F (v := (x11_139114 / 3)) dX12_laysSpans_132 (by omega) (by decide) rfl rfl ?_
                        refine kx_iload 135 F 9 dX12_laysSpans_133 rfl rfl ?_
                        refine kx_iconst 136 F dX12_laysSpans_135 rfl ?_
                        refine kx_idiv 137 F (v := (x9_138995 / 3)) dX12_laysSpans_136 (by omega) (by decide) rfl rfl ?_
                        refine kx_iload 139 F 6 dX12_laysSpans_137 rfl rfl ?_
                        refine kx_iload 141 F 9 dX12_laysSpans_139 rfl rfl ?_
                        refine kx_iconst 142 F dX12_laysSpans_141 rfl ?_
                        refine kx_irem 143 F (v := (x9_138995 % 3)) dX12_laysSpans_142 (by omega) (by decide) rfl rfl ?_
                        refine kx_iload 145 F 11 dX12_laysSpans_143 rfl rfl ?_
                        refine kx_iconst 146 F dX12_laysSpans_145 rfl ?_
                        refine kx_irem 147 F (v := (x11_139114 % 3)) dX12_laysSpans_146 (by omega) (by decide) rfl rfl ?_
                        refine kx_Vi 150 (ci := 0) F (As := [vI a1, vI x5_104346, vI (x11_139114 / 3), vI (x9_138995 / 3), vI x6_130434, vI (x9_138995 % 3), vI (x11_139114 % 3)]) (st := []) vd_X12_429 (c_X12_fits G l N_139115 a1 x5_104346 (x11_139114 / 3) (x9_138995 / 3) x6_130434 (x9_138995 % 3) (x11_139114 % 3) hI_N_139115 (by omega)) kd_163 rfl rfl rfl ⟨by decide, by decide⟩ rfl rfl (Nat.le_of_ble_eq_true rfl) dX12_laysSpans_147 rfl ?_
                        intro r_139127 N_139128 q_139129
                        obtain ⟨rfl, q_139129c⟩ := q_139129
                        refine kx_if_eq 153 F 176 dX12_laysSpans_150 (by decide) rfl (by omega) (fun h_139130 => ?_) (fun h_139130 => ?_)
                        · refine kx_iinc 179 F 11 (v := x11_139114 + 1) (lo' := [some (vR G 163), some (vI a1), some (vI a2), some (vI x3_139113), some (vI (M 163 45)), some (vI x5_104346), some (vI x6_130434), some (vI x7_138042), some (vI r_138057), some (vI x9_138995), some (vI ((N_138996 (M 163 41) (64 * x9_138995 + x7_138042)) + 2)), some (vI (x11_139114 + 1))]) dX12_laysSpans_176 rfl (by omega) (by decide) rfl rfl rfl ?_
                          refine kx_goto 110 F dX12_laysSpans_179 (by decide) ?_
                          have h_139131 := Inv.g hI_N_139115 kd_163 rfl 45 (a := 0) (b := 64) rfl rfl
                          exact ih_139118 _ (by omega) x3_139113 (x11_139114 + 1) N_139115 hI_N_139115 hF_N_139115 hp_139121 hp_139122 (by omega) rfl
                        · refine kx_aload_n 154 F 0 dX12_laysSpans_153 rfl rfl rfl ?_
                          refine kx_aload_n 155 F 0 dX12_laysSpans_154 rfl rfl rfl ?_
                          refine kx_getr 158 F fl_X12_98 kd_163 rfl rfl (j := 42) rfl dX12_laysSpans_155 (v := (M 163 42)) (by rw [Fr.e hF_N_139115 kd_163 _ rfl]) rfl ?_
                          have hk_139132 : kd (M 163 42) = 87 := Inv.r hI_M kd_163 rfl 42 rfl rfl
                          refine kx_bipush 160 F dX12_laysSpans_158 (by decide) rfl ?_
                          refine kx_iload 162 F 11 dX12_laysSpans_160 rfl rfl ?_
                          refine kx_imul 163 F (v := 64 * x11_139114) dX12_laysSpans_162 (by omega) rfl ?_
                          refine kx_iload 165 F 8 dX12_laysSpans_163 rfl rfl ?_
                          refine kx_iadd 166 F (v := 64 * x11_139114 + r_138057) dX12_laysSpans_165 rfl rfl ?_
                          refine kx_iload 168 F 10 dX12_laysSpans_166 rfl rfl ?_
                          refine kx_Vi 171 (ci := 0) F (As := [vR G (M 163 42), vI (64 * x11_139114 + r_138057), vI ((N_138996 (M 163 41) (64 * x9_138995 + x7_138042)) + 2)]) (st := []) vd_X12_448 (c_lowTG G l N_139115 (M 163 42) (64 * x11_139114 + r_138057) ((N_138996 (M 163 41) (64 * x9_138995 + x7_138042)) + 2) hI_N_139115 hk_139132 (by omega)) kd_163 rfl rfl rfl ⟨by decide, by decide⟩ rfl rfl (Nat.le_of_ble_eq_true rfl) dX12_laysSpans_168 rfl ?_
                          intro r_139133 N_139134 q_139135
                          obtain ⟨hI_N_139134, hG_N_139134, q_139135c⟩ := q_139135
                          have hF_N_139134 : Fr f_e_laysSpans M N_139134 := Fr.c hF_N_139115 hG_N_139134 rfl
                          rcases q_139135c with q_139135c | q_139135c
                          · refine kx_if_eq 174 F 176 dX12_laysSpans_171 (by decide) rfl (by omega) (fun h_139136 => (by exfalso; omega)) (fun h_139136 => ?_)
                            refine kx_iconst 175 F dX12_laysSpans_174 rfl ?_
                            refine kx_istore_n 176 F 3 (lo' := [some (vR G 163), some (vI a1), some (vI a2), some (vI 1), some (vI (M 163 45)), some (vI x5_104346), some (vI x6_130434), some (vI x7_138042), some (vI r_138057), some (vI x9_138995), some (vI ((N_138996 (M 163 41) (64 * x9_138995 + x7_138042)) + 2)), some (vI x11_139114)]) dX12_laysSpans_175 rfl (by decide) rfl rfl rfl ?_
                            refine kx_iinc 179 F 11 (v := x11_139114 + 1) (lo' := [some (vR G 163), some (vI a1), some (vI a2), some (vI 1), some (vI (M 163 45)), some (vI x5_104346), some (vI x6_130434), some (vI x7_138042), some (vI r_138057), some (vI x9_138995), some (vI ((N_138996 (M 163 41) (64 * x9_138995 + x7_138042)) + 2)), some (vI (x11_139114 + 1))]) dX12_laysSpans_176 rfl (by omega) (by decide) rfl rfl rfl ?_
                            refine kx_goto 110 F dX12_laysSpans_179 (by decide) ?_
                            have hp_139137 : RP N_139134 (M 164) a2 := RP.fr hp_139121 hG_N_139134 rfl rfl
                            have hp_139138 : LD N_139134  := LD.fr hp_139122 hG_N_139134 rfl rfl
                            have e_139139 : (N_139134 163 45) = (N_139115 163 45) := by rw [Fr.e hG_N_139134 kd_163 _ rfl]
                            have h_139140 := Inv.g hI_N_139115 kd_163 rfl 45 (a := 0) (b := 64) rfl rfl
                            exact ih_139118 _ (by omega) 1 (x11_139114 + 1) N_139134 hI_N_139134 hF_N_139134 hp_139137 hp_139138 (by omega) rfl
                          · refine kx_if_eq 174 F 176 dX12_laysSpans_171 (by decide) rfl (by omega) (fun h_139141 => ?_) (fun h_139141 => (by exfalso; omega))
                            refine kx_iinc 179 F 11 (v := x11_139114 + 1) (lo' := [some (vR G 163), some (vI a1), some (vI a2), some (vI x3_139113), some (vI (M 163 45)), some (vI x5_104346), some (vI x6_130434), some (vI x7_138042), some (vI r_138057), some (vI x9_138995), some (vI ((N_138996 (M 163 41) (64 * x9_138995 + x7_138042)) + 2)), some (vI (x11_139114 + 1))]) dX12_laysSpans_176 rfl (by omega) (by decide) rfl rfl rfl ?_
                            refine kx_goto 110 F dX12_laysSpans_179 (by decide) ?_
                            have hp_139142 : RP N_139134 (M 164) a2 := RP.fr hp_139121 hG_N_139134 rfl rfl
                            have hp_139143 : LD N_139134  := LD.fr hp_139122 hG_N_139134 rfl rfl
                            have e_139144 : (N_139134 163 45) = (N_139115 163 45) := by rw [Fr.e hG_N_139134 kd_163 _ rfl]
                            have h_139145 := Inv.g hI_N_139115 kd_163 rfl 45 (a := 0) (b := 64) rfl rfl
                            exact ih_139118 _ (by omega) x3_139113 (x11_139114 + 1) N_139134 hI_N_139134 hF_N_139134 hp_139142 hp_139143 (by omega) rfl
                  have h_139146 := Inv.g hI_N_138996 kd_163 rfl 45 (a := 0) (b := 64) rfl rfl
                  exact L_139116 _ x3_138994 0 N_138996 hI_N_138996 hF_N_138996 hp_139002 hp_139003 (by omega) rfl
              have hp_139147 : LD N_138058  := LD.fr hp_138050 hG_N_138058 rfl rfl
              exact L_138997 _ x3_138041 0 N_138058 hI_N_138058 hF_N_138058 ho_N_138058 hp_139147 (by omega) rfl
          have h_139148 := Inv.g hI_N_130435 kd_163 rfl 45 (a := 0) (b := 64) rfl rfl
          exact L_138044 _ x3_130433 0 N_130435 hI_N_130435 hF_N_130435 hp_130441 hp_130442 (by omega) rfl
      have h_139149 := Inv.g hI_N_104347 kd_163 rfl 45 (a := 0) (b := 64) rfl rfl
      exact L_130436 _ x3_104345 (M 164 0) N_104347 hI_N_104347 hF_N_104347 hp_104353 hp_104354 (by omega) rfl
  exact L_104348 _ 0 0 M hI_M hF_M hO hD (by omega) rfl
theorem dX12_laysInner_0 : decode cX12_laysInner 0 = .ok (.iconst 0, 1) := by decide +kernel
theorem dX12_laysInner_1 : decode cX12_laysInner 1 = .ok (.istore_n 3, 1) := by decide +kernel
theorem dX12_laysInner_2 : decode cX12_laysInner 2 = .ok (.aload_n 0, 1) := by decide +kernel
theorem dX12_laysInner_3 : decode cX12_laysInner 3 = .ok (.getfield 459, 3) := by decide +kernel
theorem dX12_laysInner_6 : decode cX12_laysInner 6 = .ok (.istore 4, 2) := by decide +kernel
theorem dX12_laysInner_8 : decode cX12_laysInner 8 = .ok (.aload_n 0, 1) := by decide +kernel
theorem dX12_laysInner_9 : decode cX12_laysInner 9 = .ok (.getfield 7, 3) := by decide +kernel
theorem dX12_laysInner_12 : decode cX12_laysInner 12 = .ok (.iconst 0, 1) := by decide +kernel
theorem dX12_laysInner_13 : decode cX12_laysInner 13 = .ok (.iaload, 1) := by decide +kernel
theorem dX12_laysInner_14 : decode cX12_laysInner 14 = .ok (.aload_n 0, 1) := by decide +kernel
theorem dX12_laysInner_15 : decode cX12_laysInner 15 = .ok (.getfield 7, 3) := by decide +kernel
theorem dX12_laysInner_18 : decode cX12_laysInner 18 = .ok (.iconst 1, 1) := by decide +kernel
theorem dX12_laysInner_19 : decode cX12_laysInner 19 = .ok (.iaload, 1) := by decide +kernel
theorem dX12_laysInner_20 : decode cX12_laysInner 20 = .ok (.iadd, 1) := by decide +kernel
theorem dX12_laysInner_21 : decode cX12_laysInner 21 = .ok (.istore 5, 2) := by decide +kernel
theorem dX12_laysInner_23 : decode cX12_laysInner 23 = .ok (.iload 5, 2) := by decide +kernel
theorem dX12_laysInner_25 : decode cX12_laysInner 25 = .ok (.aload_n 0, 1) := by decide +kernel
theorem dX12_laysInner_26 : decode cX12_laysInner 26 = .ok (.invokevirtual 285, 3) := by decide +kernel
theorem dX12_laysInner_29 : decode cX12_laysInner 29 = .ok (.if_icmp .ge 163, 3) := by decide +kernel
theorem dX12_laysInner_32 : decode cX12_laysInner 32 = .ok (.aload_n 0, 1) := by decide +kernel
theorem dX12_laysInner_33 : decode cX12_laysInner 33 = .ok (.iload_n 1, 1) := by decide +kernel
theorem dX12_laysInner_34 : decode cX12_laysInner 34 = .ok (.iload 5, 2) := by decide +kernel
theorem dX12_laysInner_36 : decode cX12_laysInner 36 = .ok (.bipush 8, 2) := by decide +kernel
theorem dX12_laysInner_38 : decode cX12_laysInner 38 = .ok (.invokevirtual 323, 3) := by decide +kernel
theorem dX12_laysInner_41 : decode cX12_laysInner 41 = .ok (.istore 6, 2) := by decide +kernel
theorem dX12_laysInner_43 : decode cX12_laysInner 43 = .ok (.iconst 0, 1) := by decide +kernel
theorem dX12_laysInner_44 : decode cX12_laysInner 44 = .ok (.istore 7, 2) := by decide +kernel
theorem dX12_laysInner_46 : decode cX12_laysInner 46 = .ok (.iload 7, 2) := by decide +kernel
theorem dX12_laysInner_48 : decode cX12_laysInner 48 = .ok (.iload 4, 2) := by decide +kernel
theorem dX12_laysInner_50 : decode cX12_laysInner 50 = .ok (.if_icmp .ge 136, 3) := by decide +kernel
theorem dX12_laysInner_53 : decode cX12_laysInner 53 = .ok (.aload_n 0, 1) := by decide +kernel
theorem dX12_laysInner_54 : decode cX12_laysInner 54 = .ok (.aload_n 0, 1) := by decide +kernel
theorem dX12_laysInner_55 : decode cX12_laysInner 55 = .ok (.getfield 92, 3) := by decide +kernel
theorem dX12_laysInner_58 : decode cX12_laysInner 58 = .ok (.iload 7, 2) := by decide +kernel
theorem dX12_laysInner_60 : decode cX12_laysInner 60 = .ok (.iaload, 1) := by decide +kernel
theorem dX12_laysInner_61 : decode cX12_laysInner 61 = .ok (.aload_n 0, 1) := by decide +kernel
theorem dX12_laysInner_62 : decode cX12_laysInner 62 = .ok (.iload_n 2, 1) := by decide +kernel
theorem dX12_laysInner_63 : decode cX12_laysInner 63 = .ok (.iload 5, 2) := by decide +kernel
theorem dX12_laysInner_65 : decode cX12_laysInner 65 = .ok (.bipush 8, 2) := by decide +kernel
theorem dX12_laysInner_67 : decode cX12_laysInner 67 = .ok (.invokevirtual 323, 3) := by decide +kernel
theorem dX12_laysInner_70 : decode cX12_laysInner 70 = .ok (.invokestatic 326, 3) := by decide +kernel
theorem dX12_laysInner_73 : decode cX12_laysInner 73 = .ok (.invokevirtual 462, 3) := by decide +kernel
theorem dX12_laysInner_76 : decode cX12_laysInner 76 = .ok (.istore 8, 2) := by decide +kernel
theorem dX12_laysInner_78 : decode cX12_laysInner 78 = .ok (.iconst 0, 1) := by decide +kernel
theorem dX12_laysInner_79 : decode cX12_laysInner 79 = .ok (.istore 9, 2) := by decide +kernel
theorem dX12_laysInner_81 : decode cX12_laysInner 81 = .ok (.iload 9, 2) := by decide +kernel
theorem dX12_laysInner_83 : decode cX12_laysInner 83 = .ok (.bipush 9, 2) := by decide +kernel
theorem dX12_laysInner_85 : decode cX12_laysInner 85 = .ok (.if_icmp .ge 95, 3) := by decide +kernel
theorem dX12_laysInner_88 : decode cX12_laysInner 88 = .ok (.aload_n 0, 1) := by decide +kernel
theorem dX12_laysInner_89 : decode cX12_laysInner 89 = .ok (.getfield 95, 3) := by decide +kernel
theorem dX12_laysInner_92 : decode cX12_laysInner 92 = .ok (.bipush 64, 2) := by decide +kernel
theorem dX12_laysInner_94 : decode cX12_laysInner 94 = .ok (.iload 9, 2) := by decide +kernel
theorem dX12_laysInner_96 : decode cX12_laysInner 96 = .ok (.imul, 1) := by decide +kernel
theorem dX12_laysInner_97 : decode cX12_laysInner 97 = .ok (.iload 7, 2) := by decide +kernel
theorem dX12_laysInner_99 : decode cX12_laysInner 99 = .ok (.iadd, 1) := by decide +kernel
theorem dX12_laysInner_100 : decode cX12_laysInner 100 = .ok (.iaload, 1) := by decide +kernel
theorem dX12_laysInner_101 : decode cX12_laysInner 101 = .ok (.iconst 1, 1) := by decide +kernel
theorem dX12_laysInner_102 : decode cX12_laysInner 102 = .ok (.iadd, 1) := by decide +kernel
theorem dX12_laysInner_103 : decode cX12_laysInner 103 = .ok (.istore 10, 2) := by decide +kernel
theorem dX12_laysInner_105 : decode cX12_laysInner 105 = .ok (.iconst 0, 1) := by decide +kernel
theorem dX12_laysInner_106 : decode cX12_laysInner 106 = .ok (.istore 11, 2) := by decide +kernel
theorem dX12_laysInner_108 : decode cX12_laysInner 108 = .ok (.iload 11, 2) := by decide +kernel
theorem dX12_laysInner_110 : decode cX12_laysInner 110 = .ok (.iconst 3, 1) := by decide +kernel
theorem dX12_laysInner_111 : decode cX12_laysInner 111 = .ok (.if_icmp .ge 63, 3) := by decide +kernel
theorem dX12_laysInner_114 : decode cX12_laysInner 114 = .ok (.iload 10, 2) := by decide +kernel
theorem dX12_laysInner_116 : decode cX12_laysInner 116 = .ok (.ldc_w 428, 3) := by decide +kernel
theorem dX12_laysInner_119 : decode cX12_laysInner 119 = .ok (.if_icmp .ge 55, 3) := by decide +kernel
theorem dX12_laysInner_122 : decode cX12_laysInner 122 = .ok (.iload 6, 2) := by decide +kernel
theorem dX12_laysInner_124 : decode cX12_laysInner 124 = .ok (.iload 9, 2) := by decide +kernel
theorem dX12_laysInner_126 : decode cX12_laysInner 126 = .ok (.iconst 3, 1) := by decide +kernel
theorem dX12_laysInner_127 : decode cX12_laysInner 127 = .ok (.irem, 1) := by decide +kernel
theorem dX12_laysInner_128 : decode cX12_laysInner 128 = .ok (.iload 11, 2) := by decide +kernel
theorem dX12_laysInner_130 : decode cX12_laysInner 130 = .ok (.invokestatic 316, 3) := by decide +kernel
theorem dX12_laysInner_133 : decode cX12_laysInner 133 = .ok (.iand, 1) := by decide +kernel
theorem dX12_laysInner_134 : decode cX12_laysInner 134 = .ok (.ifCond .eq 34, 3) := by decide +kernel
theorem dX12_laysInner_137 : decode cX12_laysInner 137 = .ok (.aload_n 0, 1) := by decide +kernel
theorem dX12_laysInner_138 : decode cX12_laysInner 138 = .ok (.aload_n 0, 1) := by decide +kernel
theorem dX12_laysInner_139 : decode cX12_laysInner 139 = .ok (.getfield 95, 3) := by decide +kernel
theorem dX12_laysInner_142 : decode cX12_laysInner 142 = .ok (.bipush 64, 2) := by decide +kernel
theorem dX12_laysInner_144 : decode cX12_laysInner 144 = .ok (.iload 9, 2) := by decide +kernel
theorem dX12_laysInner_146 : decode cX12_laysInner 146 = .ok (.iload 9, 2) := by decide +kernel
theorem dX12_laysInner_148 : decode cX12_laysInner 148 = .ok (.iconst 3, 1) := by decide +kernel
theorem dX12_laysInner_149 : decode cX12_laysInner 149 = .ok (.irem, 1) := by decide +kernel
theorem dX12_laysInner_150 : decode cX12_laysInner 150 = .ok (.isub, 1) := by decide +kernel
theorem dX12_laysInner_151 : decode cX12_laysInner 151 = .ok (.iload 11, 2) := by decide +kernel
theorem dX12_laysInner_153 : decode cX12_laysInner 153 = .ok (.iadd, 1) := by decide +kernel
theorem dX12_laysInner_154 : decode cX12_laysInner 154 = .ok (.imul, 1) := by decide +kernel
theorem dX12_laysInner_155 : decode cX12_laysInner 155 = .ok (.iload 8, 2) := by decide +kernel
theorem dX12_laysInner_157 : decode cX12_laysInner 157 = .ok (.iadd, 1) := by decide +kernel
theorem dX12_laysInner_158 : decode cX12_laysInner 158 = .ok (.iload 10, 2) := by decide +kernel
theorem dX12_laysInner_160 : decode cX12_laysInner 160 = .ok (.invokevirtual 448, 3) := by decide +kernel
theorem dX12_laysInner_163 : decode cX12_laysInner 163 = .ok (.ifCond .eq 5, 3) := by decide +kernel
theorem dX12_laysInner_166 : decode cX12_laysInner 166 = .ok (.iconst 1, 1) := by decide +kernel
theorem dX12_laysInner_167 : decode cX12_laysInner 167 = .ok (.istore_n 3, 1) := by decide +kernel
theorem dX12_laysInner_168 : decode cX12_laysInner 168 = .ok (.iinc 11 1, 3) := by decide +kernel
theorem dX12_laysInner_171 : decode cX12_laysInner 171 = .ok (.goto (-63), 3) := by decide +kernel
theorem dX12_laysInner_174 : decode cX12_laysInner 174 = .ok (.iinc 9 1, 3) := by decide +kernel
theorem dX12_laysInner_177 : decode cX12_laysInner 177 = .ok (.goto (-96), 3) := by decide +kernel
theorem dX12_laysInner_180 : decode cX12_laysInner 180 = .ok (.iinc 7 1, 3) := by decide +kernel
theorem dX12_laysInner_183 : decode cX12_laysInner 183 = .ok (.goto (-137), 3) := by decide +kernel
theorem dX12_laysInner_186 : decode cX12_laysInner 186 = .ok (.iinc 5 1, 3) := by decide +kernel
theorem dX12_laysInner_189 : decode cX12_laysInner 189 = .ok (.goto (-166), 3) := by decide +kernel
theorem dX12_laysInner_192 : decode cX12_laysInner 192 = .ok (.iload_n 3, 1) := by decide +kernel
theorem dX12_laysInner_193 : decode cX12_laysInner 193 = .ok (.ireturn, 1) := by decide +kernel
abbrev f_e_laysInner : List (Nat × Int) := [(64, 45), (86, -1), (87, -1)]
set_option maxHeartbeats 4000000 in
set_option maxRecDepth 100000 in
theorem e_laysInner (G : KG) (l : Launch) (M : Mem) (a1 : Int) (a2 : Int) (hI_M : Inv true M) (hpre : -2147483648 ≤ a1 ∧ a1 ≤ 2147483647 ∧ -2147483648 ≤ a2 ∧ a2 ≤ 2147483647 ∧ 0 ≤ a1 ∧ a1 ≤ 2 ∧ 0 ≤ a2 ∧ a2 ≤ 1) (hD : LD M) (hO : RP M (M 164) a2) (hA : AOK (M 164) a2) (hC : Clo (M 164) a2) : KC true G l yX12_laysInner cX12_laysInner 12 (some .boolean) (2, 49) [vR G 163, vI a1, vI a2] M (fun A => kQi true G A (fun (r : Int) (N : Mem) => Inv true N ∧ Fr f_e_laysInner M N ∧ ((r = 1 ∧ (tot 87 576 N) + 1 ≤ (tot 87 576 M)) ∨ (r = 0 ∧ (tot 87 576 N) ≤ (tot 87 576 M))) ∧ (RP N (M 164) a2))) := by
  refine kx_met (lo := [some (vR G 163), some (vI a1), some (vI a2), none, none, none, none, none, none, none, none, none]) (by decide) (Nat.le_of_ble_eq_true rfl) rfl ?_
  intro X F hQ
  have hF_M : Fr f_e_laysInner M M := Fr.rf _ _
  have h_1 := Inv.g hI_M kd_164 rfl 0 (a := 0) (b := 2) (at_c 0 0 (o := 0) (lo := 0) (hi := 2) (by omega) (by decide) (by decide) (by decide)).1 (at_c 0 0 (o := 0) (lo := 0) (hi := 2) (by omega) (by decide) (by decide) (by decide)).2
  have h_2 := Inv.g hI_M kd_164 rfl 1 (a := 0) (b := 2) (at_c 1 0 (o := 1) (lo := 0) (hi := 2) (by omega) (by decide) (by decide) (by decide)).1 (at_c 1 0 (o := 1) (lo := 0) (hi := 2) (by omega) (by decide) (by decide) (by decide)).2
  have h_3 := Inv.g hI_M kd_164 rfl 2 (a := 0) (b := 2) (at_c 2 0 (o := 2) (lo := 0) (hi := 2) (by omega) (by decide) (by decide) (by decide)).1 (at_c 2 0 (o := 2) (lo := 0) (hi := 2) (by omega) (by decide) (by decide) (by decide)).2
  refine kx_iconst 1 F dX12_laysInner_0 rfl ?_
  refine kx_istore_n 2 F 3 (lo' := [some (vR G 163), some (vI a1), some (vI a2), some (vI 0), none, none, none, none, none, none, none, none]) dX12_laysInner_1 rfl (by decide) rfl rfl rfl ?_
  refine kx_aload_n 3 F 0 dX12_laysInner_2 rfl rfl rfl ?_
  refine kx_geti 6 F fl_X12_459 kd_163 rfl rfl (j := 45) rfl dX12_laysInner_3 (v := (M 163 45)) rfl rfl ?_
  have h_4 := Inv.g hI_M kd_163 rfl 45 (a := 0) (b := 64) rfl rfl
  refine kx_istore 8 F 4 (lo' := [some (vR G 163), some (vI a1), some (vI a2), some (vI 0), some (vI (M 163 45)), none, none, none, none, none, none, none]) dX12_laysInner_6 (by decide) rfl rfl rfl ?_
  refine kx_aload_n 9 F 0 dX12_laysInner_8 rfl rfl rfl ?_
  refine kx_getr 12 F fl_X12_7 kd_163 rfl rfl (j := 0) rfl dX12_laysInner_9 (v := 164) (uq_164 (Inv.r hI_M kd_163 rfl 0 rfl rfl)) rfl ?_
  refine kx_iconst 13 F dX12_laysInner_12 rfl ?_
  refine kx_iald 14 F kd_164 rfl rfl (by omega) (by decide) dX12_laysInner_13 (v := (M 164 0)) rfl rfl ?_
  have ha_5 : atlo 0 = 0 ∧ athi 0 = 2 := at_c 0 0 (o := 0) (lo := 0) (hi := 2) (by omega) (by decide) (by decide) (by decide)
  refine kx_aload_n 15 F 0 dX12_laysInner_14 rfl rfl rfl ?_
  refine kx_getr 18 F fl_X12_7 kd_163 rfl rfl (j := 0) rfl dX12_laysInner_15 (v := 164) (uq_164 (Inv.r hI_M kd_163 rfl 0 rfl rfl)) rfl ?_
  refine kx_iconst 19 F dX12_laysInner_18 rfl ?_
  refine kx_iald 20 F kd_164 rfl rfl (by omega) (by decide) dX12_laysInner_19 (v := (M 164 1)) rfl rfl ?_
  have ha_6 : atlo 1 = 0 ∧ athi 1 = 2 := at_c 1 0 (o := 1) (lo := 0) (hi := 2) (by omega) (by decide) (by decide) (by decide)
  refine kx_iadd 21 F (v := (M 164 0) + (M 164 1)) dX12_laysInner_20 rfl rfl ?_
  refine kx_istore 23 F 5 (lo' := [some (vR G 163), some (vI a1), some (vI a2), some (vI 0), some (vI (M 163 45)), some (vI ((M 164 0) + (M 164 1))), none, none, none, none, none, none]) dX12_laysInner_21 (by decide) rfl rfl rfl ?_
  have L_17551 : ∀ (n_17552 : Nat) (x3_17548 : Int) (x5_17549 : Int) (N_17550 : Mem), Inv true N_17550 → Fr f_e_laysInner M N_17550 → RP N_17550 (M 164) a2 → LD N_17550 → 0 ≤ x3_17548 ∧ x3_17548 ≤ 1 ∧ 0 ≤ x5_17549 ∧ x5_17549 ≤ 6 ∧ (tot 87 576 N_17550) + x3_17548 ≤ (tot 87 576 M) ∧ (M 163 45) ≤ (N_17550 163 45) ∧ (M 164 0) + (M 164 1) ≤ x5_17549 → (6 - (x5_17549)).toNat = n_17552 → KJ true G X N_17550 23 [some (vR G 163), some (vI a1), some (vI a2), some (vI x3_17548), some (vI (M 163 45)), some (vI x5_17549), none, none, none, none, none, none] [] := by
    intro n_17552
    refine Nat.strongRecOn n_17552 ?_
    intro n_17552 ih_17553 x3_17548 x5_17549 N_17550 hI_N_17550 hF_N_17550 hp_17556 hp_17557 h_17554 hm_17555
    refine kx_iload 25 F 5 dX12_laysInner_23 rfl rfl ?_
    refine kx_aload_n 26 F 0 dX12_laysInner_25 rfl rfl rfl ?_
    refine kx_Vi 29 (ci := 0) F (As := []) (st := [vI x5_17549]) vd_X12_285 (c_lettersE G l N_17550  hI_N_17550) kd_163 rfl rfl rfl ⟨by decide, by decide⟩ rfl rfl (Nat.le_of_ble_eq_true rfl) dX12_laysInner_26 rfl ?_
    intro r_17558 N_17559 q_17560
    obtain ⟨rfl, q_17560c⟩ := q_17560
    have e_17561 : (N_17550 164 0) = (M 164 0) := by rw [Fr.e hF_N_17550 kd_164 _ rfl]
    have e_17562 : (N_17550 164 1) = (M 164 1) := by rw [Fr.e hF_N_17550 kd_164 _ rfl]
    have e_17563 : (N_17550 164 2) = (M 164 2) := by rw [Fr.e hF_N_17550 kd_164 _ rfl]
    have e_17564 : (N_17550 164 0) = (M 164 0) := by rw [Fr.e hF_N_17550 kd_164 _ rfl]
    have e_17565 : (N_17550 164 1) = (M 164 1) := by rw [Fr.e hF_N_17550 kd_164 _ rfl]
    have e_17566 : (N_17550 164 2) = (M 164 2) := by rw [Fr.e hF_N_17550 kd_164 _ rfl]
    refine kx_topi (e' := (N_17550 164 0) + (N_17550 164 1) + (N_17550 164 2)) (by omega) ?_
    refine kx_icmp_ge 32 F 192 dX12_laysInner_29 (by decide) rfl (by omega) (by omega) (fun h_17567 => ?_) (fun h_17567 => ?_)
    · refine kx_iload_n 193 F 3 dX12_laysInner_192 rfl rfl rfl ?_
      exact kx_zret F hQ (by omega) ⟨hI_N_17550, hF_N_17550, (by omega), hp_17556⟩ dX12_laysInner_193
    · refine kx_aload_n 33 F 0 dX12_laysInner_32 rfl rfl rfl ?_
      refine kx_iload_n 34 F 1 dX12_laysInner_33 rfl rfl rfl ?_
      refine kx_iload 36 F 5 dX12_laysInner_34 rfl rfl ?_
      refine kx_bipush 38 F dX12_laysInner_36 (by decide) rfl ?_
      refine kx_Vi 41 (ci := 0) F (As := [vI a1, vI x5_17549, vI 8]) (st := []) vd_X12_323 (e_leads G l N_17550 a1 x5_17549 8 hI_N_17550 (by omega)) kd_163 rfl rfl rfl ⟨by decide, by decide⟩ rfl rfl (Nat.le_of_ble_eq_true rfl) dX12_laysInner_38 rfl ?_
      intro r_17568 N_17569 q_17570
      obtain ⟨rfl, q_17570c, hz_N_17569⟩ := q_17570
      refine kx_istore 43 F 6 (lo' := [some (vR G 163), some (vI a1), some (vI a2), some (vI x3_17548), some (vI (M 163 45)), some (vI x5_17549), some (vI r_17568), none, none, none, none, none]) dX12_laysInner_41 (by decide) rfl rfl rfl ?_
      refine kx_iconst 44 F dX12_laysInner_43 rfl ?_
      refine kx_istore 46 F 7 (lo' := [some (vR G 163), some (vI a1), some (vI a2), some (vI x3_17548), some (vI (M 163 45)), some (vI x5_17549), some (vI r_17568), some (vI 0), none, none, none, none]) dX12_laysInner_44 (by decide) rfl rfl rfl ?_
      have L_22670 : ∀ (n_22671 : Nat) (x3_22667 : Int) (x7_22668 : Int) (N_22669 : Mem), Inv true N_22669 → Fr f_e_laysInner M N_22669 → RP N_22669 (M 164) a2 → LD N_22669 → 0 ≤ x3_22667 ∧ x3_22667 ≤ 1 ∧ 0 ≤ x7_22668 ∧ x7_22668 ≤ 64 ∧ (tot 87 576 N_22669) + x3_22667 ≤ (tot 87 576 M) ∧ (M 163 45) ≤ (N_22669 163 45) → (64 - (x7_22668)).toNat = n_22671 → KJ true G X N_22669 46 [some (vR G 163), some (vI a1), some (vI a2), some (vI x3_22667), some (vI (M 163 45)), some (vI x5_17549), some (vI r_17568), some (vI x7_22668), none, none, none, none] [] := by
        intro n_22671
        refine Nat.strongRecOn n_22671 ?_
        intro n_22671 ih_22672 x3_22667 x7_22668 N_22669 hI_N_22669 hF_N_22669 hp_22675 hp_22676 h_22673 hm_22674
        refine kx_iload 48 F 7 dX12_laysInner_46 rfl rfl ?_
        refine kx_iload 50 F 4 dX12_laysInner_48 rfl rfl ?_
        refine kx_icmp_ge 53 F 186 dX12_laysInner_50 (by decide) rfl (by omega) (by omega) (fun h_22677 => ?_) (fun h_22677 => ?_)
        · refine kx_iinc 189 F 5 (v := x5_17549 + 1) (lo' := [some (vR G 163), some (vI a1), some (vI a2), some (vI x3_22667), some (vI (M 163 45)), some (vI (x5_17549 + 1)), some (vI r_17568), some (vI x7_22668), none, none, none, none]) dX12_laysInner_186 rfl (by omega) (by decide) rfl rfl rfl ?_
          refine kx_goto 23 F dX12_laysInner_189 (by decide) ?_
          refine kx_drop 6 (lo' := [some (vR G 163), some (vI a1), some (vI a2), some (vI x3_22667), some (vI (M 163 45)), some (vI (x5_17549 + 1)), none, some (vI x7_22668), none, none, none, none]) rfl ?_
          refine kx_drop 7 (lo' := [some (vR G 163), some (vI a1), some (vI a2), some (vI x3_22667), some (vI (M 163 45)), some (vI (x5_17549 + 1)), none, none, none, none, none, none]) rfl ?_
          have h_22678 := Inv.g hI_N_22669 kd_163 rfl 45 (a := 0) (b := 64) rfl rfl
          exact ih_17553 _ (by omega) x3_22667 (x5_17549 + 1) N_22669 hI_N_22669 hF_N_22669 hp_22675 hp_22676 (by omega) rfl
        · refine kx_aload_n 54 F 0 dX12_laysInner_53 rfl rfl rfl ?_
          refine kx_aload_n 55 F 0 dX12_laysInner_54 rfl rfl rfl ?_
          refine kx_getr 58 F fl_X12_92 kd_163 rfl rfl (j := 40) rfl dX12_laysInner_55 (v := 187) (uq_187 (Inv.r hI_N_22669 kd_163 rfl 40 rfl rfl)) rfl ?_
          refine kx_iload 60 F 7 dX12_laysInner_58 rfl rfl ?_
          refine kx_iald 61 F kd_187 rfl rfl (by omega) (by decide) dX12_laysInner_60 (v := (N_22669 187 x7_22668)) rfl rfl ?_
          have h_22679 := Inv.g hI_N_22669 kd_187 rfl x7_22668 (a := 0) (b := 511) rfl rfl
          refine kx_aload_n 62 F 0 dX12_laysInner_61 rfl rfl rfl ?_
          refine kx_iload_n 63 F 2 dX12_laysInner_62 rfl rfl rfl ?_
          refine kx_iload 65 F 5 dX12_laysInner_63 rfl rfl ?_
          refine kx_bipush 67 F dX12_laysInner_65 (by decide) rfl ?_
          refine kx_Vi 70 (ci := 0) F (As := [vI a2, vI x5_17549, vI 8]) (st := [vI (N_22669 187 x7_22668), vR G 163]) vd_X12_323 (e_leads G l N_22669 a2 x5_17549 8 hI_N_22669 (by omega)) kd_163 rfl rfl rfl ⟨by decide, by decide⟩ rfl rfl (Nat.le_of_ble_eq_true rfl) dX12_laysInner_67 rfl ?_
          intro r_22680 N_22681 q_22682
          obtain ⟨rfl, q_22682c, hz_N_22681⟩ := q_22682
          refine kx_Si 73 F (As := [vI (N_22669 187 x7_22668), vI r_22680]) (st := [vR G 163]) sd_X12_326 (e_then G l N_22669 (N_22669 187 x7_22668) r_22680 hI_N_22669 (by omega)) ⟨by decide, by decide⟩ rfl rfl (Nat.le_of_ble_eq_true rfl) dX12_laysInner_70 rfl ?_
          intro r_22683 N_22684 q_22685
          obtain ⟨rfl, q_22685c, hz_N_22684⟩ := q_22685
          refine kx_Vi 76 (ci := 0) F (As := [vI r_22683]) (st := []) vd_X12_462 (e_relation G l N_22669 r_22683 hI_N_22669 (by omega) hp_22675 hA hC (Gd.inn hp_22676 (funext (fun j => by rw [Fr.e hF_N_22669 kd_164 _ rfl])) hA hp_22675 (i := x7_22668) (l := x5_17549) (by omega) (by omega) (by omega) hz_N_22681 hz_N_22684)) kd_163 rfl rfl rfl ⟨by decide, by decide⟩ rfl rfl (Nat.le_of_ble_eq_true rfl) dX12_laysInner_73 rfl ?_
          intro r_22686 N_22687 q_22688
          obtain ⟨hI_N_22687, hG_N_22687, q_22688c, ho_N_22687⟩ := q_22688
          have hF_N_22687 : Fr f_e_laysInner M N_22687 := Fr.c hF_N_22669 hG_N_22687 rfl
          have ht_22689 := tot_fr 87 576 hG_N_22687 rfl
          have h_22690 := Inv.g hI_N_22687 kd_163 rfl 45 (a := 0) (b := 64) rfl rfl
          have h_22691 := Inv.g hI_N_22669 kd_163 rfl 45 (a := 0) (b := 64) rfl rfl
          refine kx_istore 78 F 8 (lo' := [some (vR G 163), some (vI a1), some (vI a2), some (vI x3_22667), some (vI (M 163 45)), some (vI x5_17549), some (vI r_17568), some (vI x7_22668), some (vI r_22686), none, none, none]) dX12_laysInner_76 (by decide) rfl rfl rfl ?_
          refine kx_iconst 79 F dX12_laysInner_78 rfl ?_
          refine kx_istore 81 F 9 (lo' := [some (vR G 163), some (vI a1), some (vI a2), some (vI x3_22667), some (vI (M 163 45)), some (vI x5_17549), some (vI r_17568), some (vI x7_22668), some (vI r_22686), some (vI 0), none, none]) dX12_laysInner_79 (by decide) rfl rfl rfl ?_
          have L_23311 : ∀ (n_23312 : Nat) (x3_23308 : Int) (x9_23309 : Int) (N_23310 : Mem), Inv true N_23310 → Fr f_e_laysInner M N_23310 → RP N_23310 (M 164) a2 → LD N_23310 → 0 ≤ x3_23308 ∧ x3_23308 ≤ 1 ∧ 0 ≤ x9_23309 ∧ x9_23309 ≤ 9 ∧ (tot 87 576 N_23310) + x3_23308 ≤ (tot 87 576 M) ∧ (M 163 45) ≤ (N_23310 163 45) → (9 - (x9_23309)).toNat = n_23312 → KJ true G X N_23310 81 [some (vR G 163), some (vI a1), some (vI a2), some (vI x3_23308), some (vI (M 163 45)), some (vI x5_17549), some (vI r_17568), some (vI x7_22668), some (vI r_22686), some (vI x9_23309), none, none] [] := by
            intro n_23312
            refine Nat.strongRecOn n_23312 ?_
            intro n_23312 ih_23313 x3_23308 x9_23309 N_23310 hI_N_23310 hF_N_23310 hp_23316 hp_23317 h_23314 hm_23315
            refine kx_iload 83 F 9 dX12_laysInner_81 rfl rfl ?_
            refine kx_bipush 85 F dX12_laysInner_83 (by decide) rfl ?_
            refine kx_icmp_ge 88 F 180 dX12_laysInner_85 (by decide) rfl (by omega) (by decide) (fun h_23318 => ?_) (fun h_23318 => ?_)
            · refine kx_iinc 183 F 7 (v := x7_22668 + 1) (lo' := [some (vR G 163), some (vI a1), some (vI a2), some (vI x3_23308), some (vI (M 163 45)), some (vI x5_17549), some (vI r_17568), some (vI (x7_22668 + 1)), some (vI r_22686), some (vI x9_23309), none, none]) dX12_laysInner_180 rfl (by omega) (by decide) rfl rfl rfl ?_
              refine kx_goto 46 F dX12_laysInner_183 (by decide) ?_
              refine kx_drop 8 (lo' := [some (vR G 163), some (vI a1), some (vI a2), some (vI x3_23308), some (vI (M 163 45)), some (vI x5_17549), some (vI r_17568), some (vI (x7_22668 + 1)), none, some (vI x9_23309), none, none]) rfl ?_
              refine kx_drop 9 (lo' := [some (vR G 163), some (vI a1), some (vI a2), some (vI x3_23308), some (vI (M 163 45)), some (vI x5_17549), some (vI r_17568), some (vI (x7_22668 + 1)), none, none, none, none]) rfl ?_
              have h_23319 := Inv.g hI_N_23310 kd_163 rfl 45 (a := 0) (b := 64) rfl rfl
              exact ih_22672 _ (by omega) x3_23308 (x7_22668 + 1) N_23310 hI_N_23310 hF_N_23310 hp_23316 hp_23317 (by omega) rfl
            · refine kx_aload_n 89 F 0 dX12_laysInner_88 rfl rfl rfl ?_
              refine kx_getr 92 F fl_X12_95 kd_163 rfl rfl (j := 41) rfl dX12_laysInner_89 (v := (M 163 41)) (by rw [Fr.e hF_N_23310 kd_163 _ rfl]) rfl ?_
              have hk_23320 : kd (M 163 41) = 87 := Inv.r hI_M kd_163 rfl 41 rfl rfl
              refine kx_bipush 94 F dX12_laysInner_92 (by decide) rfl ?_
              refine kx_iload 96 F 9 dX12_laysInner_94 rfl rfl ?_
              refine kx_imul 97 F (v := 64 * x9_23309) dX12_laysInner_96 (by omega) rfl ?_
              refine kx_iload 99 F 7 dX12_laysInner_97 rfl rfl ?_
              refine kx_iadd 100 F (v := 64 * x9_23309 + x7_22668) dX12_laysInner_99 rfl rfl ?_
              refine kx_iald 101 F hk_23320 rfl rfl (by omega) (by decide) dX12_laysInner_100 (v := (N_23310 (M 163 41) (64 * x9_23309 + x7_22668))) rfl rfl ?_
              have h_23321 := Inv.g hI_N_23310 hk_23320 rfl (64 * x9_23309 + x7_22668) (a := 0) (b := 1000000) rfl rfl
              refine kx_iconst 102 F dX12_laysInner_101 rfl ?_
              refine kx_iadd 103 F (v := (N_23310 (M 163 41) (64 * x9_23309 + x7_22668)) + 1) dX12_laysInner_102 rfl rfl ?_
              refine kx_istore 105 F 10 (lo' := [some (vR G 163), some (vI a1), some (vI a2), some (vI x3_23308), some (vI (M 163 45)), some (vI x5_17549), some (vI r_17568), some (vI x7_22668), some (vI r_22686), some (vI x9_23309), some (vI ((N_23310 (M 163 41) (64 * x9_23309 + x7_22668)) + 1)), none]) dX12_laysInner_103 (by decide) rfl rfl rfl ?_
              refine kx_iconst 106 F dX12_laysInner_105 rfl ?_
              refine kx_istore 108 F 11 (lo' := [some (vR G 163), some (vI a1), some (vI a2), some (vI x3_23308), some (vI (M 163 45)), some (vI x5_17549), some (vI r_17568), some (vI x7_22668), some (vI r_22686), some (vI x9_23309), some (vI ((N_23310 (M 163 41) (64 * x9_23309 + x7_22668)) + 1)), some (vI 0)]) dX12_laysInner_106 (by decide) rfl rfl rfl ?_
              have L_23385 : ∀ (n_23386 : Nat) (x3_23382 : Int) (x11_23383 : Int) (N_23384 : Mem), Inv true N_23384 → Fr f_e_laysInner M N_23384 → RP N_23384 (M 164) a2 → LD N_23384 → 0 ≤ x3_23382 ∧ x3_23382 ≤ 1 ∧ 0 ≤ x11_23383 ∧ x11_23383 ≤ 3 ∧ (tot 87 576 N_23384) + x3_23382 ≤ (tot 87 576 M) ∧ (M 163 45) ≤ (N_23384 163 45) → (3 - (x11_23383)).toNat = n_23386 → KJ true G X N_23384 108 [some (vR G 163), some (vI a1), some (vI a2), some (vI x3_23382), some (vI (M 163 45)), some (vI x5_17549), some (vI r_17568), some (vI x7_22668), some (vI r_22686), some (vI x9_23309), some (vI ((N_23310 (M 163 41) (64 * x9_23309 + x7_22668)) + 1)), some (vI x11_23383)] [] := by
                intro n_23386
                refine Nat.strongRecOn n_23386 ?_
                intro n_23386 ih_23387 x3_23382 x11_23383 N_23384 hI_N_23384 hF_N_23384 hp_23390 hp_23391 h_23388 hm_23389
                refine kx_iload 110 F 11 dX12_laysInner_108 rfl rfl ?_
                refine kx_iconst 111 F dX12_laysInner_110 rfl ?_
                refine kx_icmp_ge 114 F 174 dX12_laysInner_111 (by decide) rfl (by omega) (by decide) (fun h_23392 => ?_) (fun h_23392 => ?_)
                · refine kx_iinc 177 F 9 (v := x9_23309 + 1) (lo' := [some (vR G 163), some (vI a1), some (vI a2), some (vI x3_23382), some (vI (M 163 45)), some (vI x5_17549), some (vI r_17568), some (vI x7_22668), some (vI r_22686), some (vI (x9_23309 + 1)), some (vI ((N_23310 (M 163 41) (64 * x9_23309 + x7_22668)) + 1)), some (vI x11_23383)]) dX12_laysInner_174 rfl (by omega) (by decide) rfl rfl rfl ?_
                  refine kx_goto 81 F dX12_laysInner_177 (by decide) ?_
                  refine kx_drop 10 (lo' := [some (vR G 163), some (vI a1), some (vI a2), some (vI x3_23382), some (vI (M 163 45)), some (vI x5_17549), some (vI r_17568), some (vI x7_22668), some (vI r_22686), some (vI (x9_23309 + 1)), none, some (vI x11_23383)]) rfl ?_
                  refine kx_drop 11 (lo' := [some (vR G 163), some (vI a1), some (vI a2), some (vI x3_23382), some (vI (M 163 45)), some (vI x5_17549), some (vI r_17568), some (vI x7_22668), some (vI r_22686), some (vI (x9_23309 + 1)), none, none]) rfl ?_
                  have h_23393 := Inv.g hI_N_23384 kd_163 rfl 45 (a := 0) (b := 64) rfl rfl
                  exact ih_23313 _ (by omega) x3_23382 (x9_23309 + 1) N_23384 hI_N_23384 hF_N_23384 hp_23390 hp_23391 (by omega) rfl
                · refine kx_iload 116 F 10 dX12_laysInner_114 rfl rfl ?_
                  refine kx_ldcw 119 (z := 1000000) F dX12_laysInner_116 ct_X12_428 rfl ?_
                  refine kx_icmp_ge 122 F 174 dX12_laysInner_119 (by decide) rfl (by omega) (by decide) (fun h_23394 => ?_) (fun h_23394 => ?_)
                  · refine kx_iinc 177 F 9 (v := x9_23309 + 1) (lo' := [some (vR G 163), some (vI a1), some (vI a2), some (vI x3_23382), some (vI (M 163 45)), some (vI x5_17549), some (vI r_17568), some (vI x7_22668), some (vI r_22686), some (vI (x9_23309 + 1)), some (vI ((N_23310 (M 163 41) (64 * x9_23309 + x7_22668)) + 1)), some (vI x11_23383)]) dX12_laysInner_174 rfl (by omega) (by decide) rfl rfl rfl ?_
                    refine kx_goto 81 F dX12_laysInner_177 (by decide) ?_
                    refine kx_drop 10 (lo' := [some (vR G 163), some (vI a1), some (vI a2), some (vI x3_23382), some (vI (M 163 45)), some (vI x5_17549), some (vI r_17568), some (vI x7_22668), some (vI r_22686), some (vI (x9_23309 + 1)), none, some (vI x11_23383)]) rfl ?_
                    refine kx_drop 11 (lo' := [some (vR G 163), some (vI a1), some (vI a2), some (vI x3_23382), some (vI (M 163 45)), some (vI x5_17549), some (vI r_17568), some (vI x7_22668), some (vI r_22686), some (vI (x9_23309 + 1)), none, none]) rfl ?_
                    have h_23395 := Inv.g hI_N_23384 kd_163 rfl 45 (a := 0) (b := 64) rfl rfl
                    exact ih_23313 _ (by omega) x3_23382 (x9_23309 + 1) N_23384 hI_N_23384 hF_N_23384 hp_23390 hp_23391 (by omega) rfl
                  · refine kx_iload 124 F 6 dX12_laysInner_122 rfl rfl ?_
                    refine kx_iload 126 F 9 dX12_laysInner_124 rfl rfl ?_
                    refine kx_iconst 127 F dX12_laysInner_126 rfl ?_
                    refine kx_irem 128 F (v := (x9_23309 % 3)) dX12_laysInner_127 (by omega) (by decide) rfl rfl ?_
                    refine kx_iload 130 F 11 dX12_laysInner_128 rfl rfl ?_
                    refine kx_Si 133 F (As := [vI (x9_23309 % 3), vI x11_23383]) (st := [vI r_17568]) sd_X12_316 (e_pair G l N_23384 (x9_23309 % 3) x11_23383 hI_N_23384 (by omega)) ⟨by decide, by decide⟩ rfl rfl (Nat.le_of_ble_eq_true rfl) dX12_laysInner_130 rfl ?_
                    intro r_23396 N_23397 q_23398
                    obtain ⟨rfl, q_23398c⟩ := q_23398
                    refine kx_topi (e' := (zshl 1 (3 * (x9_23309 % 3) + x11_23383))) (by omega) ?_
                    refine kx_iand 134 F (v := (zand r_17568 (zshl 1 (3 * (x9_23309 % 3) + x11_23383)))) dX12_laysInner_133 rfl rfl ?_
                    have h_23399 := zand_r (a := r_17568) (b := (zshl 1 (3 * (x9_23309 % 3) + x11_23383))) (by omega)
                    refine kx_if_eq 137 F 168 dX12_laysInner_134 (by decide) rfl (by omega) (fun h_23400 => ?_) (fun h_23400 => ?_)
                    · refine kx_iinc 171 F 11 (v := x11_23383 + 1) (lo' := [some (vR G 163), some (vI a1), some (vI a2), some (vI x3_23382), some (vI (M 163 45)), some (vI x5_17549), some (vI r_17568), some (vI x7_22668), some (vI r_22686), some (vI x9_23309), some (vI ((N_23310 (M 163 41) (64 * x9_23309 + x7_22668)) + 1)), some (vI (x11_23383 + 1))]) dX12_laysInner_168 rfl (by omega) (by decide) rfl rfl rfl ?_
                      refine kx_goto 108 F dX12_laysInner_171 (by decide) ?_
                      have h_23401 := Inv.g hI_N_23384 kd_163 rfl 45 (a := 0) (b := 64) rfl rfl
                      exact ih_23387 _ (by omega) x3_23382 (x11_23383 + 1) N_23384 hI_N_23384 hF_N_23384 hp_23390 hp_23391 (by omega) rfl
                    · refine kx_aload_n 138 F 0 dX12_laysInner_137 rfl rfl rfl ?_
                      refine kx_aload_n 139 F 0 dX12_laysInner_138 rfl rfl rfl ?_
                      refine kx_getr 142 F fl_X12_95 kd_163 rfl rfl (j := 41) rfl dX12_laysInner_139 (v := (M 163 41)) (by rw [Fr.e hF_N_23384 kd_163 _ rfl]) rfl ?_
                      refine kx_bipush 144 F dX12_laysInner_142 (by decide) rfl ?_
                      refine kx_iload 146 F 9 dX12_laysInner_144 rfl rfl ?_
                      refine kx_iload 148 F 9 dX12_laysInner_146 rfl rfl ?_
                      refine kx_iconst 149 F dX12_laysInner_148 rfl ?_
                      refine kx_irem 150 F (v := (x9_23309 % 3)) dX12_laysInner_149 (by omega) (by decide) rfl rfl ?_
                      refine kx_isub 151 F (v := x9_23309 - (x9_23309 % 3)) dX12_laysInner_150 rfl rfl ?_
                      refine kx_iload 153 F 11 dX12_laysInner_151 rfl rfl ?_
                      refine kx_iadd 154 F (v := x9_23309 - (x9_23309 % 3) + x11_23383) dX12_laysInner_153 rfl rfl ?_
                      refine kx_imul 155 F (v := 64 * x9_23309 - 64 * (x9_23309 % 3) + 64 * x11_23383) dX12_laysInner_154 (by omega) rfl ?_
                      refine kx_iload 157 F 8 dX12_laysInner_155 rfl rfl ?_
                      refine kx_iadd 158 F (v := 64 * x9_23309 - 64 * (x9_23309 % 3) + 64 * x11_23383 + r_22686) dX12_laysInner_157 rfl rfl ?_
                      refine kx_iload 160 F 10 dX12_laysInner_158 rfl rfl ?_
                      refine kx_Vi 163 (ci := 0) F (As := [vR G (M 163 41), vI (64 * x9_23309 - 64 * (x9_23309 % 3) + 64 * x11_23383 + r_22686), vI ((N_23310 (M 163 41) (64 * x9_23309 + x7_22668)) + 1)]) (st := []) vd_X12_448 (c_lowTG G l N_23384 (M 163 41) (64 * x9_23309 - 64 * (x9_23309 % 3) + 64 * x11_23383 + r_22686) ((N_23310 (M 163 41) (64 * x9_23309 + x7_22668)) + 1) hI_N_23384 hk_23320 (by omega)) kd_163 rfl rfl rfl ⟨by decide, by decide⟩ rfl rfl (Nat.le_of_ble_eq_true rfl) dX12_laysInner_160 rfl ?_
                      intro r_23402 N_23403 q_23404
                      obtain ⟨hI_N_23403, hG_N_23403, q_23404c⟩ := q_23404
                      have hF_N_23403 : Fr f_e_laysInner M N_23403 := Fr.c hF_N_23384 hG_N_23403 rfl
                      rcases q_23404c with q_23404c | q_23404c
                      · refine kx_if_eq 166 F 168 dX12_laysInner_163 (by decide) rfl (by omega) (fun h_23405 => (by exfalso; omega)) (fun h_23405 => ?_)
                        refine kx_iconst 167 F dX12_laysInner_166 rfl ?_
                        refine kx_istore_n 168 F 3 (lo' := [some (vR G 163), some (vI a1), some (vI a2), some (vI 1), some (vI (M 163 45)), some (vI x5_17549), some (vI r_17568), some (vI x7_22668), some (vI r_22686), some (vI x9_23309), some (vI ((N_23310 (M 163 41) (64 * x9_23309 + x7_22668)) + 1)), some (vI x11_23383)]) dX12_laysInner_167 rfl (by decide) rfl rfl rfl ?_
                        refine kx_iinc 171 F 11 (v := x11_23383 + 1) (lo' := [some (vR G 163), some (vI a1), some (vI a2), some (vI 1), some (vI (M 163 45)), some (vI x5_17549), some (vI r_17568), some (vI x7_22668), some (vI r_22686), some (vI x9_23309), some (vI ((N_23310 (M 163 41) (64 * x9_23309 + x7_22668)) + 1)), some (vI (x11_23383 + 1))]) dX12_laysInner_168 rfl (by omega) (by decide) rfl rfl rfl ?_
                        refine kx_goto 108 F dX12_laysInner_171 (by decide) ?_
                        have hp_23406 : RP N_23403 (M 164) a2 := RP.fr hp_23390 hG_N_23403 rfl rfl
                        have hp_23407 : LD N_23403  := LD.fr hp_23391 hG_N_23403 rfl rfl
                        have e_23408 : (N_23403 163 45) = (N_23384 163 45) := by rw [Fr.e hG_N_23403 kd_163 _ rfl]
                        have h_23409 := Inv.g hI_N_23384 kd_163 rfl 45 (a := 0) (b := 64) rfl rfl
                        exact ih_23387 _ (by omega) 1 (x11_23383 + 1) N_23403 hI_N_23403 hF_N_23403 hp_23406 hp_23407 (by omega) rfl
                      · refine kx_if_eq 166 F 168 dX12_laysInner_163 (by decide) rfl (by omega) (fun h_23410 => ?_) (fun h_23410 => (by exfalso; omega))
                        refine kx_iinc 171 F 11 (v := x11_23383 + 1) (lo' := [some (vR G 163), some (vI a1), some (vI a2), some (vI x3_23382), some (vI (M 163 45)), some (vI x5_17549), some (vI r_17568), some (vI x7_22668), some (vI r_22686), some (vI x9_23309), some (vI ((N_23310 (M 163 41) (64 * x9_23309 + x7_22668)) + 1)), some (vI (x11_23383 + 1))]) dX12_laysInner_168 rfl (by omega) (by decide) rfl rfl rfl ?_
                        refine kx_goto 108 F dX12_laysInner_171 (by decide) ?_
                        have hp_23411 : RP N_23403 (M 164) a2 := RP.fr hp_23390 hG_N_23403 rfl rfl
                        have hp_23412 : LD N_23403  := LD.fr hp_23391 hG_N_23403 rfl rfl
                        have e_23413 : (N_23403 163 45) = (N_23384 163 45) := by rw [Fr.e hG_N_23403 kd_163 _ rfl]
                        have h_23414 := Inv.g hI_N_23384 kd_163 rfl 45 (a := 0) (b := 64) rfl rfl
                        exact ih_23387 _ (by omega) x3_23382 (x11_23383 + 1) N_23403 hI_N_23403 hF_N_23403 hp_23411 hp_23412 (by omega) rfl
              have h_23415 := Inv.g hI_N_23310 kd_163 rfl 45 (a := 0) (b := 64) rfl rfl
              exact L_23385 _ x3_23308 0 N_23310 hI_N_23310 hF_N_23310 hp_23316 hp_23317 (by omega) rfl
          have hp_23416 : LD N_22687  := LD.fr hp_22676 hG_N_22687 rfl rfl
          exact L_23311 _ x3_22667 0 N_22687 hI_N_22687 hF_N_22687 ho_N_22687 hp_23416 (by omega) rfl
      have h_23417 := Inv.g hI_N_17550 kd_163 rfl 45 (a := 0) (b := 64) rfl rfl
      exact L_22670 _ x3_17548 0 N_17550 hI_N_17550 hF_N_17550 hp_17556 hp_17557 (by omega) rfl
  exact L_17551 _ 0 ((M 164 0) + (M 164 1)) M hI_M hF_M hO hD (by omega) rfl
theorem dX12_laysLonger_0 : decode cX12_laysLonger 0 = .ok (.iconst 0, 1) := by decide +kernel
theorem dX12_laysLonger_1 : decode cX12_laysLonger 1 = .ok (.istore_n 1, 1) := by decide +kernel
theorem dX12_laysLonger_2 : decode cX12_laysLonger 2 = .ok (.aload_n 0, 1) := by decide +kernel
theorem dX12_laysLonger_3 : decode cX12_laysLonger 3 = .ok (.getfield 459, 3) := by decide +kernel
theorem dX12_laysLonger_6 : decode cX12_laysLonger 6 = .ok (.istore_n 2, 1) := by decide +kernel
theorem dX12_laysLonger_7 : decode cX12_laysLonger 7 = .ok (.iconst 0, 1) := by decide +kernel
theorem dX12_laysLonger_8 : decode cX12_laysLonger 8 = .ok (.istore_n 3, 1) := by decide +kernel
theorem dX12_laysLonger_9 : decode cX12_laysLonger 9 = .ok (.iload_n 3, 1) := by decide +kernel
theorem dX12_laysLonger_10 : decode cX12_laysLonger 10 = .ok (.iload_n 2, 1) := by decide +kernel
theorem dX12_laysLonger_11 : decode cX12_laysLonger 11 = .ok (.if_icmp .ge 144, 3) := by decide +kernel
theorem dX12_laysLonger_14 : decode cX12_laysLonger 14 = .ok (.iconst 0, 1) := by decide +kernel
theorem dX12_laysLonger_15 : decode cX12_laysLonger 15 = .ok (.istore 4, 2) := by decide +kernel
theorem dX12_laysLonger_17 : decode cX12_laysLonger 17 = .ok (.iload 4, 2) := by decide +kernel
theorem dX12_laysLonger_19 : decode cX12_laysLonger 19 = .ok (.iload_n 2, 1) := by decide +kernel
theorem dX12_laysLonger_20 : decode cX12_laysLonger 20 = .ok (.if_icmp .ge 129, 3) := by decide +kernel
theorem dX12_laysLonger_23 : decode cX12_laysLonger 23 = .ok (.aload_n 0, 1) := by decide +kernel
theorem dX12_laysLonger_24 : decode cX12_laysLonger 24 = .ok (.aload_n 0, 1) := by decide +kernel
theorem dX12_laysLonger_25 : decode cX12_laysLonger 25 = .ok (.getfield 92, 3) := by decide +kernel
theorem dX12_laysLonger_28 : decode cX12_laysLonger 28 = .ok (.iload_n 3, 1) := by decide +kernel
theorem dX12_laysLonger_29 : decode cX12_laysLonger 29 = .ok (.iaload, 1) := by decide +kernel
theorem dX12_laysLonger_30 : decode cX12_laysLonger 30 = .ok (.aload_n 0, 1) := by decide +kernel
theorem dX12_laysLonger_31 : decode cX12_laysLonger 31 = .ok (.getfield 92, 3) := by decide +kernel
theorem dX12_laysLonger_34 : decode cX12_laysLonger 34 = .ok (.iload 4, 2) := by decide +kernel
theorem dX12_laysLonger_36 : decode cX12_laysLonger 36 = .ok (.iaload, 1) := by decide +kernel
theorem dX12_laysLonger_37 : decode cX12_laysLonger 37 = .ok (.invokestatic 326, 3) := by decide +kernel
theorem dX12_laysLonger_40 : decode cX12_laysLonger 40 = .ok (.invokevirtual 462, 3) := by decide +kernel
theorem dX12_laysLonger_43 : decode cX12_laysLonger 43 = .ok (.istore 5, 2) := by decide +kernel
theorem dX12_laysLonger_45 : decode cX12_laysLonger 45 = .ok (.iconst 0, 1) := by decide +kernel
theorem dX12_laysLonger_46 : decode cX12_laysLonger 46 = .ok (.istore 6, 2) := by decide +kernel
theorem dX12_laysLonger_48 : decode cX12_laysLonger 48 = .ok (.iload 6, 2) := by decide +kernel
theorem dX12_laysLonger_50 : decode cX12_laysLonger 50 = .ok (.bipush 27, 2) := by decide +kernel
theorem dX12_laysLonger_52 : decode cX12_laysLonger 52 = .ok (.if_icmp .ge 91, 3) := by decide +kernel
theorem dX12_laysLonger_55 : decode cX12_laysLonger 55 = .ok (.aload_n 0, 1) := by decide +kernel
theorem dX12_laysLonger_56 : decode cX12_laysLonger 56 = .ok (.getfield 95, 3) := by decide +kernel
theorem dX12_laysLonger_59 : decode cX12_laysLonger 59 = .ok (.bipush 64, 2) := by decide +kernel
theorem dX12_laysLonger_61 : decode cX12_laysLonger 61 = .ok (.iload 6, 2) := by decide +kernel
theorem dX12_laysLonger_63 : decode cX12_laysLonger 63 = .ok (.iconst 3, 1) := by decide +kernel
theorem dX12_laysLonger_64 : decode cX12_laysLonger 64 = .ok (.idiv, 1) := by decide +kernel
theorem dX12_laysLonger_65 : decode cX12_laysLonger 65 = .ok (.imul, 1) := by decide +kernel
theorem dX12_laysLonger_66 : decode cX12_laysLonger 66 = .ok (.iload_n 3, 1) := by decide +kernel
theorem dX12_laysLonger_67 : decode cX12_laysLonger 67 = .ok (.iadd, 1) := by decide +kernel
theorem dX12_laysLonger_68 : decode cX12_laysLonger 68 = .ok (.iaload, 1) := by decide +kernel
theorem dX12_laysLonger_69 : decode cX12_laysLonger 69 = .ok (.aload_n 0, 1) := by decide +kernel
theorem dX12_laysLonger_70 : decode cX12_laysLonger 70 = .ok (.getfield 98, 3) := by decide +kernel
theorem dX12_laysLonger_73 : decode cX12_laysLonger 73 = .ok (.bipush 64, 2) := by decide +kernel
theorem dX12_laysLonger_75 : decode cX12_laysLonger 75 = .ok (.iconst 3, 1) := by decide +kernel
theorem dX12_laysLonger_76 : decode cX12_laysLonger 76 = .ok (.iload 6, 2) := by decide +kernel
theorem dX12_laysLonger_78 : decode cX12_laysLonger 78 = .ok (.iconst 3, 1) := by decide +kernel
theorem dX12_laysLonger_79 : decode cX12_laysLonger 79 = .ok (.idiv, 1) := by decide +kernel
theorem dX12_laysLonger_80 : decode cX12_laysLonger 80 = .ok (.iconst 3, 1) := by decide +kernel
theorem dX12_laysLonger_81 : decode cX12_laysLonger 81 = .ok (.irem, 1) := by decide +kernel
theorem dX12_laysLonger_82 : decode cX12_laysLonger 82 = .ok (.imul, 1) := by decide +kernel
theorem dX12_laysLonger_83 : decode cX12_laysLonger 83 = .ok (.iload 6, 2) := by decide +kernel
theorem dX12_laysLonger_85 : decode cX12_laysLonger 85 = .ok (.iconst 3, 1) := by decide +kernel
theorem dX12_laysLonger_86 : decode cX12_laysLonger 86 = .ok (.irem, 1) := by decide +kernel
theorem dX12_laysLonger_87 : decode cX12_laysLonger 87 = .ok (.iadd, 1) := by decide +kernel
theorem dX12_laysLonger_88 : decode cX12_laysLonger 88 = .ok (.imul, 1) := by decide +kernel
theorem dX12_laysLonger_89 : decode cX12_laysLonger 89 = .ok (.iload 4, 2) := by decide +kernel
theorem dX12_laysLonger_91 : decode cX12_laysLonger 91 = .ok (.iadd, 1) := by decide +kernel
theorem dX12_laysLonger_92 : decode cX12_laysLonger 92 = .ok (.iaload, 1) := by decide +kernel
theorem dX12_laysLonger_93 : decode cX12_laysLonger 93 = .ok (.iadd, 1) := by decide +kernel
theorem dX12_laysLonger_94 : decode cX12_laysLonger 94 = .ok (.istore 7, 2) := by decide +kernel
theorem dX12_laysLonger_96 : decode cX12_laysLonger 96 = .ok (.iload 7, 2) := by decide +kernel
theorem dX12_laysLonger_98 : decode cX12_laysLonger 98 = .ok (.ldc_w 428, 3) := by decide +kernel
theorem dX12_laysLonger_101 : decode cX12_laysLonger 101 = .ok (.if_icmp .ge 36, 3) := by decide +kernel
theorem dX12_laysLonger_104 : decode cX12_laysLonger 104 = .ok (.aload_n 0, 1) := by decide +kernel
theorem dX12_laysLonger_105 : decode cX12_laysLonger 105 = .ok (.aload_n 0, 1) := by decide +kernel
theorem dX12_laysLonger_106 : decode cX12_laysLonger 106 = .ok (.getfield 95, 3) := by decide +kernel
theorem dX12_laysLonger_109 : decode cX12_laysLonger 109 = .ok (.bipush 64, 2) := by decide +kernel
theorem dX12_laysLonger_111 : decode cX12_laysLonger 111 = .ok (.iconst 3, 1) := by decide +kernel
theorem dX12_laysLonger_112 : decode cX12_laysLonger 112 = .ok (.iload 6, 2) := by decide +kernel
theorem dX12_laysLonger_114 : decode cX12_laysLonger 114 = .ok (.bipush 9, 2) := by decide +kernel
theorem dX12_laysLonger_116 : decode cX12_laysLonger 116 = .ok (.idiv, 1) := by decide +kernel
theorem dX12_laysLonger_117 : decode cX12_laysLonger 117 = .ok (.imul, 1) := by decide +kernel
theorem dX12_laysLonger_118 : decode cX12_laysLonger 118 = .ok (.iload 6, 2) := by decide +kernel
theorem dX12_laysLonger_120 : decode cX12_laysLonger 120 = .ok (.iconst 3, 1) := by decide +kernel
theorem dX12_laysLonger_121 : decode cX12_laysLonger 121 = .ok (.irem, 1) := by decide +kernel
theorem dX12_laysLonger_122 : decode cX12_laysLonger 122 = .ok (.iadd, 1) := by decide +kernel
theorem dX12_laysLonger_123 : decode cX12_laysLonger 123 = .ok (.imul, 1) := by decide +kernel
theorem dX12_laysLonger_124 : decode cX12_laysLonger 124 = .ok (.iload 5, 2) := by decide +kernel
theorem dX12_laysLonger_126 : decode cX12_laysLonger 126 = .ok (.iadd, 1) := by decide +kernel
theorem dX12_laysLonger_127 : decode cX12_laysLonger 127 = .ok (.iload 7, 2) := by decide +kernel
theorem dX12_laysLonger_129 : decode cX12_laysLonger 129 = .ok (.invokevirtual 448, 3) := by decide +kernel
theorem dX12_laysLonger_132 : decode cX12_laysLonger 132 = .ok (.ifCond .eq 5, 3) := by decide +kernel
theorem dX12_laysLonger_135 : decode cX12_laysLonger 135 = .ok (.iconst 1, 1) := by decide +kernel
theorem dX12_laysLonger_136 : decode cX12_laysLonger 136 = .ok (.istore_n 1, 1) := by decide +kernel
theorem dX12_laysLonger_137 : decode cX12_laysLonger 137 = .ok (.iinc 6 1, 3) := by decide +kernel
theorem dX12_laysLonger_140 : decode cX12_laysLonger 140 = .ok (.goto (-92), 3) := by decide +kernel
theorem dX12_laysLonger_143 : decode cX12_laysLonger 143 = .ok (.iinc 4 1, 3) := by decide +kernel
theorem dX12_laysLonger_146 : decode cX12_laysLonger 146 = .ok (.goto (-129), 3) := by decide +kernel
theorem dX12_laysLonger_149 : decode cX12_laysLonger 149 = .ok (.iinc 3 1, 3) := by decide +kernel
theorem dX12_laysLonger_152 : decode cX12_laysLonger 152 = .ok (.goto (-143), 3) := by decide +kernel
theorem dX12_laysLonger_155 : decode cX12_laysLonger 155 = .ok (.iload_n 1, 1) := by decide +kernel
theorem dX12_laysLonger_156 : decode cX12_laysLonger 156 = .ok (.ireturn, 1) := by decide +kernel
abbrev f_e_laysLonger : List (Nat × Int) := [(64, 45), (86, -1), (87, -1)]
set_option maxHeartbeats 4000000 in
set_option maxRecDepth 100000 in
theorem e_laysLonger (G : KG) (l : Launch) (M : Mem) (hI_M : Inv true M) {A : Int → Int} {b : Int} (hO : RP M A b) (hA : AOK A b) (hC : Clo A b) : KC true G l yX12_laysLonger cX12_laysLonger 8 (some .boolean) (2, 45) [vR G 163] M (fun A => kQi true G A (fun (r : Int) (N : Mem) => Inv true N ∧ Fr f_e_laysLonger M N ∧ ((r = 1 ∧ (tot 87 576 N) + 1 ≤ (tot 87 576 M)) ∨ (r = 0 ∧ (tot 87 576 N) ≤ (tot 87 576 M))) ∧ (RP N A b))) := by
  refine kx_met (lo := [some (vR G 163), none, none, none, none, none, none, none]) (by decide) (Nat.le_of_ble_eq_true rfl) rfl ?_
  intro X F hQ
  have hF_M : Fr f_e_laysLonger M M := Fr.rf _ _
  refine kx_iconst 1 F dX12_laysLonger_0 rfl ?_
  refine kx_istore_n 2 F 1 (lo' := [some (vR G 163), some (vI 0), none, none, none, none, none, none]) dX12_laysLonger_1 rfl (by decide) rfl rfl rfl ?_
  refine kx_aload_n 3 F 0 dX12_laysLonger_2 rfl rfl rfl ?_
  refine kx_geti 6 F fl_X12_459 kd_163 rfl rfl (j := 45) rfl dX12_laysLonger_3 (v := (M 163 45)) rfl rfl ?_
  have h_1 := Inv.g hI_M kd_163 rfl 45 (a := 0) (b := 64) rfl rfl
  refine kx_istore_n 7 F 2 (lo' := [some (vR G 163), some (vI 0), some (vI (M 163 45)), none, none, none, none, none]) dX12_laysLonger_6 rfl (by decide) rfl rfl rfl ?_
  refine kx_iconst 8 F dX12_laysLonger_7 rfl ?_
  refine kx_istore_n 9 F 3 (lo' := [some (vR G 163), some (vI 0), some (vI (M 163 45)), some (vI 0), none, none, none, none]) dX12_laysLonger_8 rfl (by decide) rfl rfl rfl ?_
  have L_7523 : ∀ (n_7524 : Nat) (x1_7520 : Int) (x3_7521 : Int) (N_7522 : Mem), Inv true N_7522 → Fr f_e_laysLonger M N_7522 → RP N_7522 A b → 0 ≤ x1_7520 ∧ x1_7520 ≤ 1 ∧ 0 ≤ x3_7521 ∧ x3_7521 ≤ 64 ∧ (tot 87 576 N_7522) + x1_7520 ≤ (tot 87 576 M) ∧ (M 163 45) ≤ (N_7522 163 45) → (64 - (x3_7521)).toNat = n_7524 → KJ true G X N_7522 9 [some (vR G 163), some (vI x1_7520), some (vI (M 163 45)), some (vI x3_7521), none, none, none, none] [] := by
    intro n_7524
    refine Nat.strongRecOn n_7524 ?_
    intro n_7524 ih_7525 x1_7520 x3_7521 N_7522 hI_N_7522 hF_N_7522 hp_7528 h_7526 hm_7527
    refine kx_iload_n 10 F 3 dX12_laysLonger_9 rfl rfl rfl ?_
    refine kx_iload_n 11 F 2 dX12_laysLonger_10 rfl rfl rfl ?_
    refine kx_icmp_ge 14 F 155 dX12_laysLonger_11 (by decide) rfl (by omega) (by omega) (fun h_7529 => ?_) (fun h_7529 => ?_)
    · refine kx_iload_n 156 F 1 dX12_laysLonger_155 rfl rfl rfl ?_
      exact kx_zret F hQ (by omega) ⟨hI_N_7522, hF_N_7522, (by omega), hp_7528⟩ dX12_laysLonger_156
    · refine kx_iconst 15 F dX12_laysLonger_14 rfl ?_
      refine kx_istore 17 F 4 (lo' := [some (vR G 163), some (vI x1_7520), some (vI (M 163 45)), some (vI x3_7521), some (vI 0), none, none, none]) dX12_laysLonger_15 (by decide) rfl rfl rfl ?_
      have L_8464 : ∀ (n_8465 : Nat) (x1_8461 : Int) (x4_8462 : Int) (N_8463 : Mem), Inv true N_8463 → Fr f_e_laysLonger M N_8463 → RP N_8463 A b → 0 ≤ x1_8461 ∧ x1_8461 ≤ 1 ∧ 0 ≤ x4_8462 ∧ x4_8462 ≤ 64 ∧ (tot 87 576 N_8463) + x1_8461 ≤ (tot 87 576 M) ∧ (M 163 45) ≤ (N_8463 163 45) → (64 - (x4_8462)).toNat = n_8465 → KJ true G X N_8463 17 [some (vR G 163), some (vI x1_8461), some (vI (M 163 45)), some (vI x3_7521), some (vI x4_8462), none, none, none] [] := by
        intro n_8465
        refine Nat.strongRecOn n_8465 ?_
        intro n_8465 ih_8466 x1_8461 x4_8462 N_8463 hI_N_8463 hF_N_8463 hp_8469 h_8467 hm_8468
        refine kx_iload 19 F 4 dX12_laysLonger_17 rfl rfl ?_
        refine kx_iload_n 20 F 2 dX12_laysLonger_19 rfl rfl rfl ?_
        refine kx_icmp_ge 23 F 149 dX12_laysLonger_20 (by decide) rfl (by omega) (by omega) (fun h_8470 => ?_) (fun h_8470 => ?_)
        · refine kx_iinc 152 F 3 (v := x3_7521 + 1) (lo' := [some (vR G 163), some (vI x1_8461), some (vI (M 163 45)), some (vI (x3_7521 + 1)), some (vI x4_8462), none, none, none]) dX12_laysLonger_149 rfl (by omega) (by decide) rfl rfl rfl ?_
          refine kx_goto 9 F dX12_laysLonger_152 (by decide) ?_
          refine kx_drop 4 (lo' := [some (vR G 163), some (vI x1_8461), some (vI (M 163 45)), some (vI (x3_7521 + 1)), none, none, none, none]) rfl ?_
          have h_8471 := Inv.g hI_N_8463 kd_163 rfl 45 (a := 0) (b := 64) rfl rfl
          exact ih_7525 _ (by omega) x1_8461 (x3_7521 + 1) N_8463 hI_N_8463 hF_N_8463 hp_8469 (by omega) rfl
        · refine kx_aload_n 24 F 0 dX12_laysLonger_23 rfl rfl rfl ?_
          refine kx_aload_n 25 F 0 dX12_laysLonger_24 rfl rfl rfl ?_
          refine kx_getr 28 F fl_X12_92 kd_163 rfl rfl (j := 40) rfl dX12_laysLonger_25 (v := 187) (uq_187 (Inv.r hI_N_8463 kd_163 rfl 40 rfl rfl)) rfl ?_
          refine kx_iload_n 29 F 3 dX12_laysLonger_28 rfl rfl rfl ?_
          refine kx_iald 30 F kd_187 rfl rfl (by omega) (by decide) dX12_laysLonger_29 (v := (N_8463 187 x3_7521)) rfl rfl ?_
          have h_8472 := Inv.g hI_N_8463 kd_187 rfl x3_7521 (a := 0) (b := 511) rfl rfl
          refine kx_aload_n 31 F 0 dX12_laysLonger_30 rfl rfl rfl ?_
          refine kx_getr 34 F fl_X12_92 kd_163 rfl rfl (j := 40) rfl dX12_laysLonger_31 (v := 187) (uq_187 (Inv.r hI_N_8463 kd_163 rfl 40 rfl rfl)) rfl ?_
          refine kx_iload 36 F 4 dX12_laysLonger_34 rfl rfl ?_
          refine kx_iald 37 F kd_187 rfl rfl (by omega) (by decide) dX12_laysLonger_36 (v := (N_8463 187 x4_8462)) rfl rfl ?_
          have h_8473 := Inv.g hI_N_8463 kd_187 rfl x4_8462 (a := 0) (b := 511) rfl rfl
          refine kx_Si 40 F (As := [vI (N_8463 187 x3_7521), vI (N_8463 187 x4_8462)]) (st := [vR G 163]) sd_X12_326 (e_then G l N_8463 (N_8463 187 x3_7521) (N_8463 187 x4_8462) hI_N_8463 (by omega)) ⟨by decide, by decide⟩ rfl rfl (Nat.le_of_ble_eq_true rfl) dX12_laysLonger_37 rfl ?_
          intro r_8474 N_8475 q_8476
          obtain ⟨rfl, q_8476c, hz_N_8475⟩ := q_8476
          refine kx_Vi 43 (ci := 0) F (As := [vI r_8474]) (st := []) vd_X12_462 (e_relation G l N_8463 r_8474 hI_N_8463 (by omega) hp_8469 hA hC (Gd.th hp_8469 (i := x3_7521) (j := x4_8462) (by omega) (by omega) hz_N_8475)) kd_163 rfl rfl rfl ⟨by decide, by decide⟩ rfl rfl (Nat.le_of_ble_eq_true rfl) dX12_laysLonger_40 rfl ?_
          intro r_8477 N_8478 q_8479
          obtain ⟨hI_N_8478, hG_N_8478, q_8479c, ho_N_8478⟩ := q_8479
          have hF_N_8478 : Fr f_e_laysLonger M N_8478 := Fr.c hF_N_8463 hG_N_8478 rfl
          have ht_8480 := tot_fr 87 576 hG_N_8478 rfl
          have h_8481 := Inv.g hI_N_8478 kd_163 rfl 45 (a := 0) (b := 64) rfl rfl
          have h_8482 := Inv.g hI_N_8463 kd_163 rfl 45 (a := 0) (b := 64) rfl rfl
          refine kx_istore 45 F 5 (lo' := [some (vR G 163), some (vI x1_8461), some (vI (M 163 45)), some (vI x3_7521), some (vI x4_8462), some (vI r_8477), none, none]) dX12_laysLonger_43 (by decide) rfl rfl rfl ?_
          refine kx_iconst 46 F dX12_laysLonger_45 rfl ?_
          refine kx_istore 48 F 6 (lo' := [some (vR G 163), some (vI x1_8461), some (vI (M 163 45)), some (vI x3_7521), some (vI x4_8462), some (vI r_8477), some (vI 0), none]) dX12_laysLonger_46 (by decide) rfl rfl rfl ?_
          have L_8584 : ∀ (n_8585 : Nat) (x1_8581 : Int) (x6_8582 : Int) (N_8583 : Mem), Inv true N_8583 → Fr f_e_laysLonger M N_8583 → RP N_8583 A b → 0 ≤ x1_8581 ∧ x1_8581 ≤ 1 ∧ 0 ≤ x6_8582 ∧ x6_8582 ≤ 27 ∧ (tot 87 576 N_8583) + x1_8581 ≤ (tot 87 576 M) ∧ (M 163 45) ≤ (N_8583 163 45) → (27 - (x6_8582)).toNat = n_8585 → KJ true G X N_8583 48 [some (vR G 163), some (vI x1_8581), some (vI (M 163 45)), some (vI x3_7521), some (vI x4_8462), some (vI r_8477), some (vI x6_8582), none] [] := by
            intro n_8585
            refine Nat.strongRecOn n_8585 ?_
            intro n_8585 ih_8586 x1_8581 x6_8582 N_8583 hI_N_8583 hF_N_8583 hp_8589 h_8587 hm_8588
            refine kx_iload 50 F 6 dX12_laysLonger_48 rfl rfl ?_
            refine kx_bipush 52 F dX12_laysLonger_50 (by decide) rfl ?_
            refine kx_icmp_ge 55 F 143 dX12_laysLonger_52 (by decide) rfl (by omega) (by decide) (fun h_8590 => ?_) (fun h_8590 => ?_)
            · refine kx_iinc 146 F 4 (v := x4_8462 + 1) (lo' := [some (vR G 163), some (vI x1_8581), some (vI (M 163 45)), some (vI x3_7521), some (vI (x4_8462 + 1)), some (vI r_8477), some (vI x6_8582), none]) dX12_laysLonger_143 rfl (by omega) (by decide) rfl rfl rfl ?_
              refine kx_goto 17 F dX12_laysLonger_146 (by decide) ?_
              refine kx_drop 5 (lo' := [some (vR G 163), some (vI x1_8581), some (vI (M 163 45)), some (vI x3_7521), some (vI (x4_8462 + 1)), none, some (vI x6_8582), none]) rfl ?_
              refine kx_drop 6 (lo' := [some (vR G 163), some (vI x1_8581), some (vI (M 163 45)), some (vI x3_7521), some (vI (x4_8462 + 1)), none, none, none]) rfl ?_
              have h_8591 := Inv.g hI_N_8583 kd_163 rfl 45 (a := 0) (b := 64) rfl rfl
              exact ih_8466 _ (by omega) x1_8581 (x4_8462 + 1) N_8583 hI_N_8583 hF_N_8583 hp_8589 (by omega) rfl
            · refine kx_aload_n 56 F 0 dX12_laysLonger_55 rfl rfl rfl ?_
              refine kx_getr 59 F fl_X12_95 kd_163 rfl rfl (j := 41) rfl dX12_laysLonger_56 (v := (M 163 41)) (by rw [Fr.e hF_N_8583 kd_163 _ rfl]) rfl ?_
              have hk_8592 : kd (M 163 41) = 87 := Inv.r hI_M kd_163 rfl 41 rfl rfl
              refine kx_bipush 61 F dX12_laysLonger_59 (by decide) rfl ?_
              refine kx_iload 63 F 6 dX12_laysLonger_61 rfl rfl ?_
              refine kx_iconst 64 F dX12_laysLonger_63 rfl ?_
              refine kx_idiv 65 F (v := (x6_8582 / 3)) dX12_laysLonger_64 (by omega) (by decide) rfl rfl ?_
              refine kx_imul 66 F (v := 64 * (x6_8582 / 3)) dX12_laysLonger_65 (by omega) rfl ?_
              refine kx_iload_n 67 F 3 dX12_laysLonger_66 rfl rfl rfl ?_
              refine kx_iadd 68 F (v := 64 * (x6_8582 / 3) + x3_7521) dX12_laysLonger_67 rfl rfl ?_
              refine kx_iald 69 F hk_8592 rfl rfl (by omega) (by decide) dX12_laysLonger_68 (v := (N_8583 (M 163 41) (64 * (x6_8582 / 3) + x3_7521))) rfl rfl ?_
              have h_8593 := Inv.g hI_N_8583 hk_8592 rfl (64 * (x6_8582 / 3) + x3_7521) (a := 0) (b := 1000000) rfl rfl
              refine kx_aload_n 70 F 0 dX12_laysLonger_69 rfl rfl rfl ?_
              refine kx_getr 73 F fl_X12_98 kd_163 rfl rfl (j := 42) rfl dX12_laysLonger_70 (v := (M 163 42)) (by rw [Fr.e hF_N_8583 kd_163 _ rfl]) rfl ?_
              have hk_8594 : kd (M 163 42) = 87 := Inv.r hI_M kd_163 rfl 42 rfl rfl
              refine kx_bipush 75 F dX12_laysLonger_73 (by decide) rfl ?_
              refine kx_iconst 76 F dX12_laysLonger_75 rfl ?_
              refine kx_iload 78 F 6 dX12_laysLonger_76 rfl rfl ?_
              refine kx_iconst 79 F dX12_laysLonger_78 rfl ?_
              refine kx_idiv 80 F (v := (x6_8582 / 3)) dX12_laysLonger_79 (by omega) (by decide) rfl rfl ?_
              refine kx_iconst 81 F dX12_laysLonger_80 rfl ?_
              refine kx_irem 82 F (v := ((x6_8582 / 3) % 3)) dX12_laysLonger_81 (by omega) (by decide) rfl rfl ?_
              refine kx_imul 83 F (v := 3 * ((x6_8582 / 3) % 3)) dX12_laysLonger_82 (by omega) rfl ?_
              refine kx_iload 85 F 6 dX12_laysLonger_83 rfl rfl ?_
              refine kx_iconst 86 F dX12_laysLonger_85 rfl ?_
              refine kx_irem 87 F (v := (x6_8582 % 3)) dX12_laysLonger_86 (by omega) (by decide) rfl rfl ?_
              refine kx_iadd 88 F (v := 3 * ((x6_8582 / 3) % 3) + (x6_8582 % 3)) dX12_laysLonger_87 rfl rfl ?_
              refine kx_imul 89 F (v := 192 * ((x6_8582 / 3) % 3) + 64 * (x6_8582 % 3)) dX12_laysLonger_88 (by omega) rfl ?_
              refine kx_iload 91 F 4 dX12_laysLonger_89 rfl rfl ?_
              refine kx_iadd 92 F (v := 192 * ((x6_8582 / 3) % 3) + 64 * (x6_8582 % 3) + x4_8462) dX12_laysLonger_91 rfl rfl ?_
              refine kx_iald 93 F hk_8594 rfl rfl (by omega) (by decide) dX12_laysLonger_92 (v := (N_8583 (M 163 42) (192 * ((x6_8582 / 3) % 3) + 64 * (x6_8582 % 3) + x4_8462))) rfl rfl ?_
              have h_8595 := Inv.g hI_N_8583 hk_8594 rfl (192 * ((x6_8582 / 3) % 3) + 64 * (x6_8582 % 3) + x4_8462) (a := 0) (b := 1000000) rfl rfl
              refine kx_iadd 94 F (v := (N_8583 (M 163 41) (64 * (x6_8582 / 3) + x3_7521)) + (N_8583 (M 163 42) (192 * ((x6_8582 / 3) % 3) + 64 * (x6_8582 % 3) + x4_8462))) dX12_laysLonger_93 rfl rfl ?_
              refine kx_istore 96 F 7 (lo' := [some (vR G 163), some (vI x1_8581), some (vI (M 163 45)), some (vI x3_7521), some (vI x4_8462), some (vI r_8477), some (vI x6_8582), some (vI ((N_8583 (M 163 41) (64 * (x6_8582 / 3) + x3_7521)) + (N_8583 (M 163 42) (192 * ((x6_8582 / 3) % 3) + 64 * (x6_8582 % 3) + x4_8462))))]) dX12_laysLonger_94 (by decide) rfl rfl rfl ?_
              refine kx_iload 98 F 7 dX12_laysLonger_96 rfl rfl ?_
              refine kx_ldcw 101 (z := 1000000) F dX12_laysLonger_98 ct_X12_428 rfl ?_
              refine kx_icmp_ge 104 F 137 dX12_laysLonger_101 (by decide) rfl (by omega) (by decide) (fun h_8596 => ?_) (fun h_8596 => ?_)
              · refine kx_iinc 140 F 6 (v := x6_8582 + 1) (lo' := [some (vR G 163), some (vI x1_8581), some (vI (M 163 45)), some (vI x3_7521), some (vI x4_8462), some (vI r_8477), some (vI (x6_8582 + 1)), some (vI ((N_8583 (M 163 41) (64 * (x6_8582 / 3) + x3_7521)) + (N_8583 (M 163 42) (192 * ((x6_8582 / 3) % 3) + 64 * (x6_8582 % 3) + x4_8462))))]) dX12_laysLonger_137 rfl (by omega) (by decide) rfl rfl rfl ?_
                refine kx_goto 48 F dX12_laysLonger_140 (by decide) ?_
                refine kx_drop 7 (lo' := [some (vR G 163), some (vI x1_8581), some (vI (M 163 45)), some (vI x3_7521), some (vI x4_8462), some (vI r_8477), some (vI (x6_8582 + 1)), none]) rfl ?_
                have h_8597 := Inv.g hI_N_8583 kd_163 rfl 45 (a := 0) (b := 64) rfl rfl
                exact ih_8586 _ (by omega) x1_8581 (x6_8582 + 1) N_8583 hI_N_8583 hF_N_8583 hp_8589 (by omega) rfl
              · refine kx_aload_n 105 F 0 dX12_laysLonger_104 rfl rfl rfl ?_
                refine kx_aload_n 106 F 0 dX12_laysLonger_105 rfl rfl rfl ?_
                refine kx_getr 109 F fl_X12_95 kd_163 rfl rfl (j := 41) rfl dX12_laysLonger_106 (v := (M 163 41)) (by rw [Fr.e hF_N_8583 kd_163 _ rfl]) rfl ?_
                refine kx_bipush 111 F dX12_laysLonger_109 (by decide) rfl ?_
                refine kx_iconst 112 F dX12_laysLonger_111 rfl ?_
                refine kx_iload 114 F 6 dX12_laysLonger_112 rfl rfl ?_
                refine kx_bipush 116 F dX12_laysLonger_114 (by decide) rfl ?_
                refine kx_idiv 117 F (v := (x6_8582 / 9)) dX12_laysLonger_116 (by omega) (by decide) rfl rfl ?_
                refine kx_imul 118 F (v := 3 * (x6_8582 / 9)) dX12_laysLonger_117 (by omega) rfl ?_
                refine kx_iload 120 F 6 dX12_laysLonger_118 rfl rfl ?_
                refine kx_iconst 121 F dX12_laysLonger_120 rfl ?_
                refine kx_irem 122 F (v := (x6_8582 % 3)) dX12_laysLonger_121 (by omega) (by decide) rfl rfl ?_
                refine kx_iadd 123 F (v := 3 * (x6_8582 / 9) + (x6_8582 % 3)) dX12_laysLonger_122 rfl rfl ?_
                refine kx_imul 124 F (v := 192 * (x6_8582 / 9) + 64 * (x6_8582 % 3)) dX12_laysLonger_123 (by omega) rfl ?_
                refine kx_iload 126 F 5 dX12_laysLonger_124 rfl rfl ?_
                refine kx_iadd 127 F (v := 192 * (x6_8582 / 9) + 64 * (x6_8582 % 3) + r_8477) dX12_laysLonger_126 rfl rfl ?_
                refine kx_iload 129 F 7 dX12_laysLonger_127 rfl rfl ?_
                refine kx_Vi 132 (ci := 0) F (As := [vR G (M 163 41), vI (192 * (x6_8582 / 9) + 64 * (x6_8582 % 3) + r_8477), vI ((N_8583 (M 163 41) (64 * (x6_8582 / 3) + x3_7521)) + (N_8583 (M 163 42) (192 * ((x6_8582 / 3) % 3) + 64 * (x6_8582 % 3) + x4_8462)))]) (st := []) vd_X12_448 (c_lowTG G l N_8583 (M 163 41) (192 * (x6_8582 / 9) + 64 * (x6_8582 % 3) + r_8477) ((N_8583 (M 163 41) (64 * (x6_8582 / 3) + x3_7521)) + (N_8583 (M 163 42) (192 * ((x6_8582 / 3) % 3) + 64 * (x6_8582 % 3) + x4_8462))) hI_N_8583 hk_8592 (by omega)) kd_163 rfl rfl rfl ⟨by decide, by decide⟩ rfl rfl (Nat.le_of_ble_eq_true rfl) dX12_laysLonger_129 rfl ?_
                intro r_8598 N_8599 q_8600
                obtain ⟨hI_N_8599, hG_N_8599, q_8600c⟩ := q_8600
                have hF_N_8599 : Fr f_e_laysLonger M N_8599 := Fr.c hF_N_8583 hG_N_8599 rfl
                rcases q_8600c with q_8600c | q_8600c
                · refine kx_if_eq 135 F 137 dX12_laysLonger_132 (by decide) rfl (by omega) (fun h_8601 => (by exfalso; omega)) (fun h_8601 => ?_)
                  refine kx_iconst 136 F dX12_laysLonger_135 rfl ?_
                  refine kx_istore_n 137 F 1 (lo' := [some (vR G 163), some (vI 1), some (vI (M 163 45)), some (vI x3_7521), some (vI x4_8462), some (vI r_8477), some (vI x6_8582), some (vI ((N_8583 (M 163 41) (64 * (x6_8582 / 3) + x3_7521)) + (N_8583 (M 163 42) (192 * ((x6_8582 / 3) % 3) + 64 * (x6_8582 % 3) + x4_8462))))]) dX12_laysLonger_136 rfl (by decide) rfl rfl rfl ?_
                  refine kx_iinc 140 F 6 (v := x6_8582 + 1) (lo' := [some (vR G 163), some (vI 1), some (vI (M 163 45)), some (vI x3_7521), some (vI x4_8462), some (vI r_8477), some (vI (x6_8582 + 1)), some (vI ((N_8583 (M 163 41) (64 * (x6_8582 / 3) + x3_7521)) + (N_8583 (M 163 42) (192 * ((x6_8582 / 3) % 3) + 64 * (x6_8582 % 3) + x4_8462))))]) dX12_laysLonger_137 rfl (by omega) (by decide) rfl rfl rfl ?_
                  refine kx_goto 48 F dX12_laysLonger_140 (by decide) ?_
                  refine kx_drop 7 (lo' := [some (vR G 163), some (vI 1), some (vI (M 163 45)), some (vI x3_7521), some (vI x4_8462), some (vI r_8477), some (vI (x6_8582 + 1)), none]) rfl ?_
                  have hp_8602 : RP N_8599 A b := RP.fr hp_8589 hG_N_8599 rfl rfl
                  have e_8603 : (N_8599 163 45) = (N_8583 163 45) := by rw [Fr.e hG_N_8599 kd_163 _ rfl]
                  have h_8604 := Inv.g hI_N_8583 kd_163 rfl 45 (a := 0) (b := 64) rfl rfl
                  exact ih_8586 _ (by omega) 1 (x6_8582 + 1) N_8599 hI_N_8599 hF_N_8599 hp_8602 (by omega) rfl
                · refine kx_if_eq 135 F 137 dX12_laysLonger_132 (by decide) rfl (by omega) (fun h_8605 => ?_) (fun h_8605 => (by exfalso; omega))
                  refine kx_iinc 140 F 6 (v := x6_8582 + 1) (lo' := [some (vR G 163), some (vI x1_8581), some (vI (M 163 45)), some (vI x3_7521), some (vI x4_8462), some (vI r_8477), some (vI (x6_8582 + 1)), some (vI ((N_8583 (M 163 41) (64 * (x6_8582 / 3) + x3_7521)) + (N_8583 (M 163 42) (192 * ((x6_8582 / 3) % 3) + 64 * (x6_8582 % 3) + x4_8462))))]) dX12_laysLonger_137 rfl (by omega) (by decide) rfl rfl rfl ?_
                  refine kx_goto 48 F dX12_laysLonger_140 (by decide) ?_
                  refine kx_drop 7 (lo' := [some (vR G 163), some (vI x1_8581), some (vI (M 163 45)), some (vI x3_7521), some (vI x4_8462), some (vI r_8477), some (vI (x6_8582 + 1)), none]) rfl ?_
                  have hp_8606 : RP N_8599 A b := RP.fr hp_8589 hG_N_8599 rfl rfl
                  have e_8607 : (N_8599 163 45) = (N_8583 163 45) := by rw [Fr.e hG_N_8599 kd_163 _ rfl]
                  have h_8608 := Inv.g hI_N_8583 kd_163 rfl 45 (a := 0) (b := 64) rfl rfl
                  exact ih_8586 _ (by omega) x1_8581 (x6_8582 + 1) N_8599 hI_N_8599 hF_N_8599 hp_8606 (by omega) rfl
          exact L_8584 _ x1_8461 0 N_8478 hI_N_8478 hF_N_8478 ho_N_8478 (by omega) rfl
      have h_8609 := Inv.g hI_N_7522 kd_163 rfl 45 (a := 0) (b := 64) rfl rfl
      exact L_8464 _ x1_7520 0 N_7522 hI_N_7522 hF_N_7522 hp_7528 (by omega) rfl
  exact L_7523 _ 0 0 M hI_M hF_M hO (by omega) rfl
theorem dX12_laysGoes_0 : decode cX12_laysGoes 0 = .ok (.aload_n 0, 1) := by decide +kernel
theorem dX12_laysGoes_1 : decode cX12_laysGoes 1 = .ok (.iconst 0, 1) := by decide +kernel
theorem dX12_laysGoes_2 : decode cX12_laysGoes 2 = .ok (.putfield 459, 3) := by decide +kernel
theorem dX12_laysGoes_5 : decode cX12_laysGoes 5 = .ok (.iconst 0, 1) := by decide +kernel
theorem dX12_laysGoes_6 : decode cX12_laysGoes 6 = .ok (.istore_n 3, 1) := by decide +kernel
theorem dX12_laysGoes_7 : decode cX12_laysGoes 7 = .ok (.iload_n 3, 1) := by decide +kernel
theorem dX12_laysGoes_8 : decode cX12_laysGoes 8 = .ok (.sipush 576, 3) := by decide +kernel
theorem dX12_laysGoes_11 : decode cX12_laysGoes 11 = .ok (.if_icmp .ge 27, 3) := by decide +kernel
theorem dX12_laysGoes_14 : decode cX12_laysGoes 14 = .ok (.aload_n 0, 1) := by decide +kernel
theorem dX12_laysGoes_15 : decode cX12_laysGoes 15 = .ok (.getfield 95, 3) := by decide +kernel
theorem dX12_laysGoes_18 : decode cX12_laysGoes 18 = .ok (.iload_n 3, 1) := by decide +kernel
theorem dX12_laysGoes_19 : decode cX12_laysGoes 19 = .ok (.ldc_w 428, 3) := by decide +kernel
theorem dX12_laysGoes_22 : decode cX12_laysGoes 22 = .ok (.iastore, 1) := by decide +kernel
theorem dX12_laysGoes_23 : decode cX12_laysGoes 23 = .ok (.aload_n 0, 1) := by decide +kernel
theorem dX12_laysGoes_24 : decode cX12_laysGoes 24 = .ok (.getfield 98, 3) := by decide +kernel
theorem dX12_laysGoes_27 : decode cX12_laysGoes 27 = .ok (.iload_n 3, 1) := by decide +kernel
theorem dX12_laysGoes_28 : decode cX12_laysGoes 28 = .ok (.ldc_w 428, 3) := by decide +kernel
theorem dX12_laysGoes_31 : decode cX12_laysGoes 31 = .ok (.iastore, 1) := by decide +kernel
theorem dX12_laysGoes_32 : decode cX12_laysGoes 32 = .ok (.iinc 3 1, 3) := by decide +kernel
theorem dX12_laysGoes_35 : decode cX12_laysGoes 35 = .ok (.goto (-28), 3) := by decide +kernel
theorem dX12_laysGoes_38 : decode cX12_laysGoes 38 = .ok (.aload_n 0, 1) := by decide +kernel
theorem dX12_laysGoes_39 : decode cX12_laysGoes 39 = .ok (.aload_n 0, 1) := by decide +kernel
theorem dX12_laysGoes_40 : decode cX12_laysGoes 40 = .ok (.iload_n 2, 1) := by decide +kernel
theorem dX12_laysGoes_41 : decode cX12_laysGoes 41 = .ok (.invokevirtual 329, 3) := by decide +kernel
theorem dX12_laysGoes_44 : decode cX12_laysGoes 44 = .ok (.invokevirtual 462, 3) := by decide +kernel
theorem dX12_laysGoes_47 : decode cX12_laysGoes 47 = .ok (.pop, 1) := by decide +kernel
theorem dX12_laysGoes_48 : decode cX12_laysGoes 48 = .ok (.iconst 0, 1) := by decide +kernel
theorem dX12_laysGoes_49 : decode cX12_laysGoes 49 = .ok (.istore_n 3, 1) := by decide +kernel
theorem dX12_laysGoes_50 : decode cX12_laysGoes 50 = .ok (.iload_n 3, 1) := by decide +kernel
theorem dX12_laysGoes_51 : decode cX12_laysGoes 51 = .ok (.aload_n 0, 1) := by decide +kernel
theorem dX12_laysGoes_52 : decode cX12_laysGoes 52 = .ok (.iload_n 1, 1) := by decide +kernel
theorem dX12_laysGoes_53 : decode cX12_laysGoes 53 = .ok (.iconst 0, 1) := by decide +kernel
theorem dX12_laysGoes_54 : decode cX12_laysGoes 54 = .ok (.invokevirtual 288, 3) := by decide +kernel
theorem dX12_laysGoes_57 : decode cX12_laysGoes 57 = .ok (.if_icmp .ge 20, 3) := by decide +kernel
theorem dX12_laysGoes_60 : decode cX12_laysGoes 60 = .ok (.aload_n 0, 1) := by decide +kernel
theorem dX12_laysGoes_61 : decode cX12_laysGoes 61 = .ok (.getfield 95, 3) := by decide +kernel
theorem dX12_laysGoes_64 : decode cX12_laysGoes 64 = .ok (.sipush 256, 3) := by decide +kernel
theorem dX12_laysGoes_67 : decode cX12_laysGoes 67 = .ok (.iload_n 3, 1) := by decide +kernel
theorem dX12_laysGoes_68 : decode cX12_laysGoes 68 = .ok (.imul, 1) := by decide +kernel
theorem dX12_laysGoes_69 : decode cX12_laysGoes 69 = .ok (.iconst 0, 1) := by decide +kernel
theorem dX12_laysGoes_70 : decode cX12_laysGoes 70 = .ok (.iastore, 1) := by decide +kernel
theorem dX12_laysGoes_71 : decode cX12_laysGoes 71 = .ok (.iinc 3 1, 3) := by decide +kernel
theorem dX12_laysGoes_74 : decode cX12_laysGoes 74 = .ok (.goto (-24), 3) := by decide +kernel
theorem dX12_laysGoes_77 : decode cX12_laysGoes 77 = .ok (.iconst 1, 1) := by decide +kernel
theorem dX12_laysGoes_78 : decode cX12_laysGoes 78 = .ok (.istore_n 3, 1) := by decide +kernel
theorem dX12_laysGoes_79 : decode cX12_laysGoes 79 = .ok (.iload_n 3, 1) := by decide +kernel
theorem dX12_laysGoes_80 : decode cX12_laysGoes 80 = .ok (.ifCond .eq 33, 3) := by decide +kernel
theorem dX12_laysGoes_83 : decode cX12_laysGoes 83 = .ok (.aload_n 0, 1) := by decide +kernel
theorem dX12_laysGoes_84 : decode cX12_laysGoes 84 = .ok (.iload_n 1, 1) := by decide +kernel
theorem dX12_laysGoes_85 : decode cX12_laysGoes 85 = .ok (.iload_n 2, 1) := by decide +kernel
theorem dX12_laysGoes_86 : decode cX12_laysGoes 86 = .ok (.invokevirtual 465, 3) := by decide +kernel
theorem dX12_laysGoes_89 : decode cX12_laysGoes 89 = .ok (.istore_n 3, 1) := by decide +kernel
theorem dX12_laysGoes_90 : decode cX12_laysGoes 90 = .ok (.aload_n 0, 1) := by decide +kernel
theorem dX12_laysGoes_91 : decode cX12_laysGoes 91 = .ok (.iload_n 1, 1) := by decide +kernel
theorem dX12_laysGoes_92 : decode cX12_laysGoes 92 = .ok (.iload_n 2, 1) := by decide +kernel
theorem dX12_laysGoes_93 : decode cX12_laysGoes 93 = .ok (.invokevirtual 468, 3) := by decide +kernel
theorem dX12_laysGoes_96 : decode cX12_laysGoes 96 = .ok (.ifCond .eq 5, 3) := by decide +kernel
theorem dX12_laysGoes_99 : decode cX12_laysGoes 99 = .ok (.iconst 1, 1) := by decide +kernel
theorem dX12_laysGoes_100 : decode cX12_laysGoes 100 = .ok (.istore_n 3, 1) := by decide +kernel
theorem dX12_laysGoes_101 : decode cX12_laysGoes 101 = .ok (.aload_n 0, 1) := by decide +kernel
theorem dX12_laysGoes_102 : decode cX12_laysGoes 102 = .ok (.invokevirtual 471, 3) := by decide +kernel
theorem dX12_laysGoes_105 : decode cX12_laysGoes 105 = .ok (.ifCond .eq (-26), 3) := by decide +kernel
theorem dX12_laysGoes_108 : decode cX12_laysGoes 108 = .ok (.iconst 1, 1) := by decide +kernel
theorem dX12_laysGoes_109 : decode cX12_laysGoes 109 = .ok (.istore_n 3, 1) := by decide +kernel
theorem dX12_laysGoes_110 : decode cX12_laysGoes 110 = .ok (.goto (-31), 3) := by decide +kernel
theorem dX12_laysGoes_113 : decode cX12_laysGoes 113 = .ok (.return_, 1) := by decide +kernel
abbrev f_e_laysGoes : List (Nat × Int) := [(64, 45), (86, -1), (87, -1)]
set_option maxHeartbeats 4000000 in
set_option maxRecDepth 100000 in
theorem e_laysGoes (G : KG) (l : Launch) (M : Mem) (a1 : Int) (a2 : Int) (hI_M : Inv true M) (hpre : -2147483648 ≤ a1 ∧ a1 ≤ 2147483647 ∧ -2147483648 ≤ a2 ∧ a2 ≤ 2147483647 ∧ 0 ≤ a1 ∧ a1 ≤ 2 ∧ 0 ≤ a2 ∧ a2 ≤ 1) (hD : LD M) (hA : AOK (M 164) a2) (hC : Clo (M 164) a2) : KC true G l yX12_laysGoes cX12_laysGoes 4 none (4, 106) [vR G 163, vI a1, vI a2] M (fun A => kQv true G A (fun (N : Mem) => Inv true N ∧ Fr f_e_laysGoes M N ∧ (RP N (M 164) a2))) := by
  refine kx_met (lo := [some (vR G 163), some (vI a1), some (vI a2), none]) (by decide) (Nat.le_of_ble_eq_true rfl) rfl ?_
  intro X F hQ
  have hF_M : Fr f_e_laysGoes M M := Fr.rf _ _
  refine kx_aload_n 1 F 0 dX12_laysGoes_0 rfl rfl rfl ?_
  refine kx_iconst 2 F dX12_laysGoes_1 rfl ?_
  refine kx_puti 5 F fw_X12_459 rfl kd_163 rfl rfl (j := 45) rfl dX12_laysGoes_2 rfl ?_
  intro N_1 hM_N_1
  have hI_N_1 : Inv true N_1 := Inv.u hI_M hM_N_1 kd_163 (a := 0) (b := 64) rfl rfl rfl (by omega)
  have hF_N_1 : Fr f_e_laysGoes M N_1 := Fr.u hF_M hM_N_1 kd_163 rfl
  have ht_2 := tot_n 87 576 hM_N_1 kd_163 rfl
  have e_3 : (N_1 163 45) = 0 := by rw [hM_N_1, mu_s]
  have hp_4 : RP N_1 (M 164) a2 := RP.nil (by omega)
  refine kx_iconst 6 F dX12_laysGoes_5 rfl ?_
  refine kx_istore_n 7 F 3 (lo' := [some (vR G 163), some (vI a1), some (vI a2), some (vI 0)]) dX12_laysGoes_6 rfl (by decide) rfl rfl rfl ?_
  have L_1744 : ∀ (n_1745 : Nat) (x3_1742 : Int) (N_1743 : Mem), Inv true N_1743 → Fr f_e_laysGoes M N_1743 → RP N_1743 (M 164) a2 → LD N_1743 → 0 ≤ x3_1742 ∧ x3_1742 ≤ 576 → (576 - (x3_1742)).toNat = n_1745 → KJ true G X N_1743 7 [some (vR G 163), some (vI a1), some (vI a2), some (vI x3_1742)] [] := by
    intro n_1745
    refine Nat.strongRecOn n_1745 ?_
    intro n_1745 ih_1746 x3_1742 N_1743 hI_N_1743 hF_N_1743 hp_1749 hp_1750 h_1747 hm_1748
    refine kx_iload_n 8 F 3 dX12_laysGoes_7 rfl rfl rfl ?_
    refine kx_sipush 11 F dX12_laysGoes_8 (by decide) rfl ?_
    refine kx_icmp_ge 14 F 38 dX12_laysGoes_11 (by decide) rfl (by omega) (by decide) (fun h_1751 => ?_) (fun h_1751 => ?_)
    · refine kx_aload_n 39 F 0 dX12_laysGoes_38 rfl rfl rfl ?_
      refine kx_aload_n 40 F 0 dX12_laysGoes_39 rfl rfl rfl ?_
      refine kx_iload_n 41 F 2 dX12_laysGoes_40 rfl rfl rfl ?_
      refine kx_Vi 44 (ci := 0) F (As := [vI a2]) (st := [vR G 163]) vd_X12_329 (e_same G l N_1743 a2 hI_N_1743 (by omega)) kd_163 rfl rfl rfl ⟨by decide, by decide⟩ rfl rfl (Nat.le_of_ble_eq_true rfl) dX12_laysGoes_41 rfl ?_
      intro r_1752 N_1753 q_1754
      obtain ⟨rfl, q_1754c, hz_N_1753⟩ := q_1754
      refine kx_Vi 47 (ci := 0) F (As := [vI r_1752]) (st := []) vd_X12_462 (e_relation G l N_1743 r_1752 hI_N_1743 (by omega) hp_1749 hA hC (by rw [hz_N_1753, show N_1743 164 = M 164 from (funext (fun j => by rw [Fr.e hF_N_1743 kd_164 _ rfl]))]; exact Gd.E hA)) kd_163 rfl rfl rfl ⟨by decide, by decide⟩ rfl rfl (Nat.le_of_ble_eq_true rfl) dX12_laysGoes_44 rfl ?_
      intro r_1755 N_1756 q_1757
      obtain ⟨hI_N_1756, hG_N_1756, q_1757c, ho_N_1756⟩ := q_1757
      have hF_N_1756 : Fr f_e_laysGoes M N_1756 := Fr.c hF_N_1743 hG_N_1756 rfl
      have ht_1758 := tot_fr 87 576 hG_N_1756 rfl
      have h_1759 := Inv.g hI_N_1756 kd_163 rfl 45 (a := 0) (b := 64) rfl rfl
      have h_1760 := Inv.g hI_N_1743 kd_163 rfl 45 (a := 0) (b := 64) rfl rfl
      refine kx_pop 48 F dX12_laysGoes_47 rfl rfl ?_
      refine kx_iconst 49 F dX12_laysGoes_48 rfl ?_
      refine kx_istore_n 50 F 3 (lo' := [some (vR G 163), some (vI a1), some (vI a2), some (vI 0)]) dX12_laysGoes_49 rfl (by decide) rfl rfl rfl ?_
      have L_2398 : ∀ (n_2399 : Nat) (x3_2396 : Int) (N_2397 : Mem), Inv true N_2397 → Fr f_e_laysGoes M N_2397 → RP N_2397 (M 164) a2 → LD N_2397 → 0 ≤ x3_2396 ∧ x3_2396 ≤ 3 → (3 - (x3_2396)).toNat = n_2399 → KJ true G X N_2397 50 [some (vR G 163), some (vI a1), some (vI a2), some (vI x3_2396)] [] := by
        intro n_2399
        refine Nat.strongRecOn n_2399 ?_
        intro n_2399 ih_2400 x3_2396 N_2397 hI_N_2397 hF_N_2397 hp_2403 hp_2404 h_2401 hm_2402
        refine kx_iload_n 51 F 3 dX12_laysGoes_50 rfl rfl rfl ?_
        refine kx_aload_n 52 F 0 dX12_laysGoes_51 rfl rfl rfl ?_
        refine kx_iload_n 53 F 1 dX12_laysGoes_52 rfl rfl rfl ?_
        refine kx_iconst 54 F dX12_laysGoes_53 rfl ?_
        refine kx_Vi 57 (ci := 0) F (As := [vI a1, vI 0]) (st := [vI x3_2396]) vd_X12_288 (c_of0 G l N_2397 a1 0 hI_N_2397 (by omega)) kd_163 rfl rfl rfl ⟨by decide, by decide⟩ rfl rfl (Nat.le_of_ble_eq_true rfl) dX12_laysGoes_54 rfl ?_
        intro r_2405 N_2406 q_2407
        obtain ⟨rfl, q_2407c⟩ := q_2407
        have e_2408 : (N_2397 164 (85 * a1 + 100)) = (M 164 (85 * a1 + 100)) := by rw [Fr.e hF_N_2397 kd_164 _ rfl]
        have e_2409 : (N_2397 164 (85 * a1 + 100)) = (M 164 (85 * a1 + 100)) := by rw [Fr.e hF_N_2397 kd_164 _ rfl]
        rcases q_2407c with q_2407c | q_2407c
        · refine kx_icmp_ge 60 F 77 dX12_laysGoes_57 (by decide) rfl (by omega) (by omega) (fun h_2410 => ?_) (fun h_2410 => ?_)
          · refine kx_iconst 78 F dX12_laysGoes_77 rfl ?_
            refine kx_istore_n 79 F 3 (lo' := [some (vR G 163), some (vI a1), some (vI a2), some (vI 1)]) dX12_laysGoes_78 rfl (by decide) rfl rfl rfl ?_
            have L_2450 : ∀ (n_2451 : Nat) (x3_2448 : Int) (N_2449 : Mem), Inv true N_2449 → Fr f_e_laysGoes M N_2449 → RP N_2449 (M 164) a2 → LD N_2449 → 0 ≤ x3_2448 ∧ x3_2448 ≤ 1 → (2 * tot 87 576 N_2449 + x3_2448).toNat = n_2451 → KJ true G X N_2449 79 [some (vR G 163), some (vI a1), some (vI a2), some (vI x3_2448)] [] := by
              intro n_2451
              refine Nat.strongRecOn n_2451 ?_
              intro n_2451 ih_2452 x3_2448 N_2449 hI_N_2449 hF_N_2449 hp_2455 hp_2456 h_2453 hm_2454
              have h_2457 := tot_nn (k := 87) 576 hI_N_2449 rfl (fun _ => rfl)
              refine kx_iload_n 80 F 3 dX12_laysGoes_79 rfl rfl rfl ?_
              refine kx_if_eq 83 F 113 dX12_laysGoes_80 (by decide) rfl (by omega) (fun h_2458 => ?_) (fun h_2458 => ?_)
              · exact kx_vret F hQ ⟨hI_N_2449, hF_N_2449, hp_2455⟩ dX12_laysGoes_113
              · refine kx_aload_n 84 F 0 dX12_laysGoes_83 rfl rfl rfl ?_
                refine kx_iload_n 85 F 1 dX12_laysGoes_84 rfl rfl rfl ?_
                refine kx_iload_n 86 F 2 dX12_laysGoes_85 rfl rfl rfl ?_
                refine kx_Vi 89 (ci := 0) F (As := [vI a1, vI a2]) (st := []) vd_X12_465 (e_laysInner G l N_2449 a1 a2 hI_N_2449 (by omega) hp_2456 hp_2455 hA hC) kd_163 rfl rfl rfl ⟨by decide, by decide⟩ rfl rfl (Nat.le_of_ble_eq_true rfl) dX12_laysGoes_86 rfl ?_
                intro r_2459 N_2460 q_2461
                obtain ⟨hI_N_2460, hG_N_2460, q_2461c, ho_N_2460⟩ := q_2461
                have hF_N_2460 : Fr f_e_laysGoes M N_2460 := Fr.c hF_N_2449 hG_N_2460 rfl
                rcases q_2461c with q_2461c | q_2461c
                · refine kx_istore_n 90 F 3 (lo' := [some (vR G 163), some (vI a1), some (vI a2), some (vI r_2459)]) dX12_laysGoes_89 rfl (by decide) rfl rfl rfl ?_
                  refine kx_aload_n 91 F 0 dX12_laysGoes_90 rfl rfl rfl ?_
                  refine kx_iload_n 92 F 1 dX12_laysGoes_91 rfl rfl rfl ?_
                  refine kx_iload_n 93 F 2 dX12_laysGoes_92 rfl rfl rfl ?_
                  have hp_2462 : LD N_2460  := LD.fr hp_2456 hG_N_2460 rfl rfl
                  refine kx_Vi 96 (ci := 0) F (As := [vI a1, vI a2]) (st := []) vd_X12_468 (e_laysSpans G l N_2460 a1 a2 hI_N_2460 (by omega) hp_2462 ho_N_2460 hA hC) kd_163 rfl rfl rfl ⟨by decide, by decide⟩ rfl rfl (Nat.le_of_ble_eq_true rfl) dX12_laysGoes_93 rfl ?_
                  intro r_2463 N_2464 q_2465
                  obtain ⟨hI_N_2464, hG_N_2464, q_2465c, ho_N_2464⟩ := q_2465
                  have hF_N_2464 : Fr f_e_laysGoes M N_2464 := Fr.c hF_N_2460 hG_N_2464 rfl
                  rcases q_2465c with q_2465c | q_2465c
                  · refine kx_if_eq 99 F 101 dX12_laysGoes_96 (by decide) rfl (by omega) (fun h_2466 => (by exfalso; omega)) (fun h_2466 => ?_)
                    refine kx_iconst 100 F dX12_laysGoes_99 rfl ?_
                    refine kx_istore_n 101 F 3 (lo' := [some (vR G 163), some (vI a1), some (vI a2), some (vI 1)]) dX12_laysGoes_100 rfl (by decide) rfl rfl rfl ?_
                    refine kx_aload_n 102 F 0 dX12_laysGoes_101 rfl rfl rfl ?_
                    refine kx_Vi 105 (ci := 0) F (As := []) (st := []) vd_X12_471 (e_laysLonger G l N_2464  hI_N_2464 ho_N_2464 hA hC) kd_163 rfl rfl rfl ⟨by decide, by decide⟩ rfl rfl (Nat.le_of_ble_eq_true rfl) dX12_laysGoes_102 rfl ?_
                    intro r_2467 N_2468 q_2469
                    obtain ⟨hI_N_2468, hG_N_2468, q_2469c, ho_N_2468⟩ := q_2469
                    have hF_N_2468 : Fr f_e_laysGoes M N_2468 := Fr.c hF_N_2464 hG_N_2468 rfl
                    rcases q_2469c with q_2469c | q_2469c
                    · refine kx_if_eq 108 F 79 dX12_laysGoes_105 (by decide) rfl (by omega) (fun h_2470 => (by exfalso; omega)) (fun h_2470 => ?_)
                      refine kx_iconst 109 F dX12_laysGoes_108 rfl ?_
                      refine kx_istore_n 110 F 3 (lo' := [some (vR G 163), some (vI a1), some (vI a2), some (vI 1)]) dX12_laysGoes_109 rfl (by decide) rfl rfl rfl ?_
                      refine kx_goto 79 F dX12_laysGoes_110 (by decide) ?_
                      have hp_2471 : LD N_2464  := LD.fr hp_2462 hG_N_2464 rfl rfl
                      have hp_2472 : LD N_2468  := LD.fr hp_2471 hG_N_2468 rfl rfl
                      exact ih_2452 _ (by omega) 1 N_2468 hI_N_2468 hF_N_2468 ho_N_2468 hp_2472 (by omega) rfl
                    · refine kx_if_eq 108 F 79 dX12_laysGoes_105 (by decide) rfl (by omega) (fun h_2473 => ?_) (fun h_2473 => (by exfalso; omega))
                      have hp_2474 : LD N_2464  := LD.fr hp_2462 hG_N_2464 rfl rfl
                      have hp_2475 : LD N_2468  := LD.fr hp_2474 hG_N_2468 rfl rfl
                      exact ih_2452 _ (by omega) 1 N_2468 hI_N_2468 hF_N_2468 ho_N_2468 hp_2475 (by omega) rfl
                  · refine kx_if_eq 99 F 101 dX12_laysGoes_96 (by decide) rfl (by omega) (fun h_2476 => ?_) (fun h_2476 => (by exfalso; omega))
                    refine kx_aload_n 102 F 0 dX12_laysGoes_101 rfl rfl rfl ?_
                    refine kx_Vi 105 (ci := 0) F (As := []) (st := []) vd_X12_471 (e_laysLonger G l N_2464  hI_N_2464 ho_N_2464 hA hC) kd_163 rfl rfl rfl ⟨by decide, by decide⟩ rfl rfl (Nat.le_of_ble_eq_true rfl) dX12_laysGoes_102 rfl ?_
                    intro r_2477 N_2478 q_2479
                    obtain ⟨hI_N_2478, hG_N_2478, q_2479c, ho_N_2478⟩ := q_2479
                    have hF_N_2478 : Fr f_e_laysGoes M N_2478 := Fr.c hF_N_2464 hG_N_2478 rfl
                    rcases q_2479c with q_2479c | q_2479c
                    · refine kx_if_eq 108 F 79 dX12_laysGoes_105 (by decide) rfl (by omega) (fun h_2480 => (by exfalso; omega)) (fun h_2480 => ?_)
                      refine kx_iconst 109 F dX12_laysGoes_108 rfl ?_
                      refine kx_istore_n 110 F 3 (lo' := [some (vR G 163), some (vI a1), some (vI a2), some (vI 1)]) dX12_laysGoes_109 rfl (by decide) rfl rfl rfl ?_
                      refine kx_goto 79 F dX12_laysGoes_110 (by decide) ?_
                      have hp_2481 : LD N_2464  := LD.fr hp_2462 hG_N_2464 rfl rfl
                      have hp_2482 : LD N_2478  := LD.fr hp_2481 hG_N_2478 rfl rfl
                      exact ih_2452 _ (by omega) 1 N_2478 hI_N_2478 hF_N_2478 ho_N_2478 hp_2482 (by omega) rfl
                    · refine kx_if_eq 108 F 79 dX12_laysGoes_105 (by decide) rfl (by omega) (fun h_2483 => ?_) (fun h_2483 => (by exfalso; omega))
                      have hp_2484 : LD N_2464  := LD.fr hp_2462 hG_N_2464 rfl rfl
                      have hp_2485 : LD N_2478  := LD.fr hp_2484 hG_N_2478 rfl rfl
                      exact ih_2452 _ (by omega) r_2459 N_2478 hI_N_2478 hF_N_2478 ho_N_2478 hp_2485 (by omega) rfl
                · refine kx_istore_n 90 F 3 (lo' := [some (vR G 163), some (vI a1), some (vI a2), some (vI r_2459)]) dX12_laysGoes_89 rfl (by decide) rfl rfl rfl ?_
                  refine kx_aload_n 91 F 0 dX12_laysGoes_90 rfl rfl rfl ?_
                  refine kx_iload_n 92 F 1 dX12_laysGoes_91 rfl rfl rfl ?_
                  refine kx_iload_n 93 F 2 dX12_laysGoes_92 rfl rfl rfl ?_
                  have hp_2486 : LD N_2460  := LD.fr hp_2456 hG_N_2460 rfl rfl
                  refine kx_Vi 96 (ci := 0) F (As := [vI a1, vI a2]) (st := []) vd_X12_468 (e_laysSpans G l N_2460 a1 a2 hI_N_2460 (by omega) hp_2486 ho_N_2460 hA hC) kd_163 rfl rfl rfl ⟨by decide, by decide⟩ rfl rfl (Nat.le_of_ble_eq_true rfl) dX12_laysGoes_93 rfl ?_
                  intro r_2487 N_2488 q_2489
                  obtain ⟨hI_N_2488, hG_N_2488, q_2489c, ho_N_2488⟩ := q_2489
                  have hF_N_2488 : Fr f_e_laysGoes M N_2488 := Fr.c hF_N_2460 hG_N_2488 rfl
                  rcases q_2489c with q_2489c | q_2489c
                  · refine kx_if_eq 99 F 101 dX12_laysGoes_96 (by decide) rfl (by omega) (fun h_2490 => (by exfalso; omega)) (fun h_2490 => ?_)
                    refine kx_iconst 100 F dX12_laysGoes_99 rfl ?_
                    refine kx_istore_n 101 F 3 (lo' := [some (vR G 163), some (vI a1), some (vI a2), some (vI 1)]) dX12_laysGoes_100 rfl (by decide) rfl rfl rfl ?_
                    refine kx_aload_n 102 F 0 dX12_laysGoes_101 rfl rfl rfl ?_
                    refine kx_Vi 105 (ci := 0) F (As := []) (st := []) vd_X12_471 (e_laysLonger G l N_2488  hI_N_2488 ho_N_2488 hA hC) kd_163 rfl rfl rfl ⟨by decide, by decide⟩ rfl rfl (Nat.le_of_ble_eq_true rfl) dX12_laysGoes_102 rfl ?_
                    intro r_2491 N_2492 q_2493
                    obtain ⟨hI_N_2492, hG_N_2492, q_2493c, ho_N_2492⟩ := q_2493
                    have hF_N_2492 : Fr f_e_laysGoes M N_2492 := Fr.c hF_N_2488 hG_N_2492 rfl
                    rcases q_2493c with q_2493c | q_2493c
                    · refine kx_if_eq 108 F 79 dX12_laysGoes_105 (by decide) rfl (by omega) (fun h_2494 => (by exfalso; omega)) (fun h_2494 => ?_)
                      refine kx_iconst 109 F dX12_laysGoes_108 rfl ?_
                      refine kx_istore_n 110 F 3 (lo' := [some (vR G 163), some (vI a1), some (vI a2), some (vI 1)]) dX12_laysGoes_109 rfl (by decide) rfl rfl rfl ?_
                      refine kx_goto 79 F dX12_laysGoes_110 (by decide) ?_
                      have hp_2495 : LD N_2488  := LD.fr hp_2486 hG_N_2488 rfl rfl
                      have hp_2496 : LD N_2492  := LD.fr hp_2495 hG_N_2492 rfl rfl
                      exact ih_2452 _ (by omega) 1 N_2492 hI_N_2492 hF_N_2492 ho_N_2492 hp_2496 (by omega) rfl
                    · refine kx_if_eq 108 F 79 dX12_laysGoes_105 (by decide) rfl (by omega) (fun h_2497 => ?_) (fun h_2497 => (by exfalso; omega))
                      have hp_2498 : LD N_2488  := LD.fr hp_2486 hG_N_2488 rfl rfl
                      have hp_2499 : LD N_2492  := LD.fr hp_2498 hG_N_2492 rfl rfl
                      exact ih_2452 _ (by omega) 1 N_2492 hI_N_2492 hF_N_2492 ho_N_2492 hp_2499 (by omega) rfl
                  · refine kx_if_eq 99 F 101 dX12_laysGoes_96 (by decide) rfl (by omega) (fun h_2500 => ?_) (fun h_2500 => (by exfalso; omega))
                    refine kx_aload_n 102 F 0 dX12_laysGoes_101 rfl rfl rfl ?_
                    refine kx_Vi 105 (ci := 0) F (As := []) (st := []) vd_X12_471 (e_laysLonger G l N_2488  hI_N_2488 ho_N_2488 hA hC) kd_163 rfl rfl rfl ⟨by decide, by decide⟩ rfl rfl (Nat.le_of_ble_eq_true rfl) dX12_laysGoes_102 rfl ?_
                    intro r_2501 N_2502 q_2503
                    obtain ⟨hI_N_2502, hG_N_2502, q_2503c, ho_N_2502⟩ := q_2503
                    have hF_N_2502 : Fr f_e_laysGoes M N_2502 := Fr.c hF_N_2488 hG_N_2502 rfl
                    rcases q_2503c with q_2503c | q_2503c
                    · refine kx_if_eq 108 F 79 dX12_laysGoes_105 (by decide) rfl (by omega) (fun h_2504 => (by exfalso; omega)) (fun h_2504 => ?_)
                      refine kx_iconst 109 F dX12_laysGoes_108 rfl ?_
                      refine kx_istore_n 110 F 3 (lo' := [some (vR G 163), some (vI a1), some (vI a2), some (vI 1)]) dX12_laysGoes_109 rfl (by decide) rfl rfl rfl ?_
                      refine kx_goto 79 F dX12_laysGoes_110 (by decide) ?_
                      have hp_2505 : LD N_2488  := LD.fr hp_2486 hG_N_2488 rfl rfl
                      have hp_2506 : LD N_2502  := LD.fr hp_2505 hG_N_2502 rfl rfl
                      exact ih_2452 _ (by omega) 1 N_2502 hI_N_2502 hF_N_2502 ho_N_2502 hp_2506 (by omega) rfl
                    · refine kx_if_eq 108 F 79 dX12_laysGoes_105 (by decide) rfl (by omega) (fun h_2507 => ?_) (fun h_2507 => (by exfalso; omega))
                      have hp_2508 : LD N_2488  := LD.fr hp_2486 hG_N_2488 rfl rfl
                      have hp_2509 : LD N_2502  := LD.fr hp_2508 hG_N_2502 rfl rfl
                      exact ih_2452 _ (by omega) r_2459 N_2502 hI_N_2502 hF_N_2502 ho_N_2502 hp_2509 (by omega) rfl
            exact L_2450 _ 1 N_2397 hI_N_2397 hF_N_2397 hp_2403 hp_2404 (by omega) rfl
          · refine kx_aload_n 61 F 0 dX12_laysGoes_60 rfl rfl rfl ?_
            refine kx_getr 64 F fl_X12_95 kd_163 rfl rfl (j := 41) rfl dX12_laysGoes_61 (v := (M 163 41)) (by rw [Fr.e hF_N_2397 kd_163 _ rfl]) rfl ?_
            have hk_2510 : kd (M 163 41) = 87 := Inv.r hI_M kd_163 rfl 41 rfl rfl
            refine kx_sipush 67 F dX12_laysGoes_64 (by decide) rfl ?_
            refine kx_iload_n 68 F 3 dX12_laysGoes_67 rfl rfl rfl ?_
            refine kx_imul 69 F (v := 256 * x3_2396) dX12_laysGoes_68 (by omega) rfl ?_
            refine kx_iconst 70 F dX12_laysGoes_69 rfl ?_
            refine kx_iast 71 F hk_2510 rfl rfl (by omega) (by decide) dX12_laysGoes_70 rfl ?_
            intro N_2511 hM_N_2511
            have hI_N_2511 : Inv true N_2511 := Inv.u hI_N_2397 hM_N_2511 hk_2510 (a := 0) (b := 1000000) rfl rfl rfl (by omega)
            have hF_N_2511 : Fr f_e_laysGoes M N_2511 := Fr.u hF_N_2397 hM_N_2511 hk_2510 rfl
            have h_2513 := Inv.g hI_N_2397 hk_2510 rfl (256 * x3_2396) (a := 0) (b := 1000000) rfl rfl
            have ht_2512 := tot_u (n := 576) hM_N_2511 hk_2510 (by omega)
            refine kx_iinc 74 F 3 (v := x3_2396 + 1) (lo' := [some (vR G 163), some (vI a1), some (vI a2), some (vI (x3_2396 + 1))]) dX12_laysGoes_71 rfl (by omega) (by decide) rfl rfl rfl ?_
            refine kx_goto 50 F dX12_laysGoes_74 (by decide) ?_
            have hp_2514 : RP N_2511 (M 164) a2 := RP.st hp_2403 hM_N_2511 hk_2510 rfl rfl
            have hp_2515 : LD N_2511  := LD.st hp_2404 hM_N_2511 hk_2510 rfl rfl
            exact ih_2400 _ (by omega) (x3_2396 + 1) N_2511 hI_N_2511 hF_N_2511 hp_2514 hp_2515 (by omega) rfl
        · refine kx_icmp_ge 60 F 77 dX12_laysGoes_57 (by decide) rfl (by omega) (by omega) (fun h_2516 => ?_) (fun h_2516 => ?_)
          · refine kx_iconst 78 F dX12_laysGoes_77 rfl ?_
            refine kx_istore_n 79 F 3 (lo' := [some (vR G 163), some (vI a1), some (vI a2), some (vI 1)]) dX12_laysGoes_78 rfl (by decide) rfl rfl rfl ?_
            have L_2556 : ∀ (n_2557 : Nat) (x3_2554 : Int) (N_2555 : Mem), Inv true N_2555 → Fr f_e_laysGoes M N_2555 → RP N_2555 (M 164) a2 → LD N_2555 → 0 ≤ x3_2554 ∧ x3_2554 ≤ 1 → (2 * tot 87 576 N_2555 + x3_2554).toNat = n_2557 → KJ true G X N_2555 79 [some (vR G 163), some (vI a1), some (vI a2), some (vI x3_2554)] [] := by
              intro n_2557
              refine Nat.strongRecOn n_2557 ?_
              intro n_2557 ih_2558 x3_2554 N_2555 hI_N_2555 hF_N_2555 hp_2561 hp_2562 h_2559 hm_2560
              have h_2563 := tot_nn (k := 87) 576 hI_N_2555 rfl (fun _ => rfl)
              refine kx_iload_n 80 F 3 dX12_laysGoes_79 rfl rfl rfl ?_
              refine kx_if_eq 83 F 113 dX12_laysGoes_80 (by decide) rfl (by omega) (fun h_2564 => ?_) (fun h_2564 => ?_)
              · exact kx_vret F hQ ⟨hI_N_2555, hF_N_2555, hp_2561⟩ dX12_laysGoes_113
              · refine kx_aload_n 84 F 0 dX12_laysGoes_83 rfl rfl rfl ?_
                refine kx_iload_n 85 F 1 dX12_laysGoes_84 rfl rfl rfl ?_
                refine kx_iload_n 86 F 2 dX12_laysGoes_85 rfl rfl rfl ?_
                refine kx_Vi 89 (ci := 0) F (As := [vI a1, vI a2]) (st := []) vd_X12_465 (e_laysInner G l N_2555 a1 a2 hI_N_2555 (by omega) hp_2562 hp_2561 hA hC) kd_163 rfl rfl rfl ⟨by decide, by decide⟩ rfl rfl (Nat.le_of_ble_eq_true rfl) dX12_laysGoes_86 rfl ?_
                intro r_2565 N_2566 q_2567
                obtain ⟨hI_N_2566, hG_N_2566, q_2567c, ho_N_2566⟩ := q_2567
                have hF_N_2566 : Fr f_e_laysGoes M N_2566 := Fr.c hF_N_2555 hG_N_2566 rfl
                rcases q_2567c with q_2567c | q_2567c
                · refine kx_istore_n 90 F 3 (lo' := [some (vR G 163), some (vI a1), some (vI a2), some (vI r_2565)]) dX12_laysGoes_89 rfl (by decide) rfl rfl rfl ?_
                  refine kx_aload_n 91 F 0 dX12_laysGoes_90 rfl rfl rfl ?_
                  refine kx_iload_n 92 F 1 dX12_laysGoes_91 rfl rfl rfl ?_
                  refine kx_iload_n 93 F 2 dX12_laysGoes_92 rfl rfl rfl ?_
                  have hp_2568 : LD N_2566  := LD.fr hp_2562 hG_N_2566 rfl rfl
                  refine kx_Vi 96 (ci := 0) F (As := [vI a1, vI a2]) (st := []) vd_X12_468 (e_laysSpans G l N_2566 a1 a2 hI_N_2566 (by omega) hp_2568 ho_N_2566 hA hC) kd_163 rfl rfl rfl ⟨by decide, by decide⟩ rfl rfl (Nat.le_of_ble_eq_true rfl) dX12_laysGoes_93 rfl ?_
                  intro r_2569 N_2570 q_2571
                  obtain ⟨hI_N_2570, hG_N_2570, q_2571c, ho_N_2570⟩ := q_2571
                  have hF_N_2570 : Fr f_e_laysGoes M N_2570 := Fr.c hF_N_2566 hG_N_2570 rfl
                  rcases q_2571c with q_2571c | q_2571c
                  · refine kx_if_eq 99 F 101 dX12_laysGoes_96 (by decide) rfl (by omega) (fun h_2572 => (by exfalso; omega)) (fun h_2572 => ?_)
                    refine kx_iconst 100 F dX12_laysGoes_99 rfl ?_
                    refine kx_istore_n 101 F 3 (lo' := [some (vR G 163), some (vI a1), some (vI a2), some (vI 1)]) dX12_laysGoes_100 rfl (by decide) rfl rfl rfl ?_
                    refine kx_aload_n 102 F 0 dX12_laysGoes_101 rfl rfl rfl ?_
                    refine kx_Vi 105 (ci := 0) F (As := []) (st := []) vd_X12_471 (e_laysLonger G l N_2570  hI_N_2570 ho_N_2570 hA hC) kd_163 rfl rfl rfl ⟨by decide, by decide⟩ rfl rfl (Nat.le_of_ble_eq_true rfl) dX12_laysGoes_102 rfl ?_
                    intro r_2573 N_2574 q_2575
                    obtain ⟨hI_N_2574, hG_N_2574, q_2575c, ho_N_2574⟩ := q_2575
                    have hF_N_2574 : Fr f_e_laysGoes M N_2574 := Fr.c hF_N_2570 hG_N_2574 rfl
                    rcases q_2575c with q_2575c | q_2575c
                    · refine kx_if_eq 108 F 79 dX12_laysGoes_105 (by decide) rfl (by omega) (fun h_2576 => (by exfalso; omega)) (fun h_2576 => ?_)
                      refine kx_iconst 109 F dX12_laysGoes_108 rfl ?_
                      refine kx_istore_n 110 F 3 (lo' := [some (vR G 163), some (vI a1), some (vI a2), some (vI 1)]) dX12_laysGoes_109 rfl (by decide) rfl rfl rfl ?_
                      refine kx_goto 79 F dX12_laysGoes_110 (by decide) ?_
                      have hp_2577 : LD N_2570  := LD.fr hp_2568 hG_N_2570 rfl rfl
                      have hp_2578 : LD N_2574  := LD.fr hp_2577 hG_N_2574 rfl rfl
                      exact ih_2558 _ (by omega) 1 N_2574 hI_N_2574 hF_N_2574 ho_N_2574 hp_2578 (by omega) rfl
                    · refine kx_if_eq 108 F 79 dX12_laysGoes_105 (by decide) rfl (by omega) (fun h_2579 => ?_) (fun h_2579 => (by exfalso; omega))
                      have hp_2580 : LD N_2570  := LD.fr hp_2568 hG_N_2570 rfl rfl
                      have hp_2581 : LD N_2574  := LD.fr hp_2580 hG_N_2574 rfl rfl
                      exact ih_2558 _ (by omega) 1 N_2574 hI_N_2574 hF_N_2574 ho_N_2574 hp_2581 (by omega) rfl
                  · refine kx_if_eq 99 F 101 dX12_laysGoes_96 (by decide) rfl (by omega) (fun h_2582 => ?_) (fun h_2582 => (by exfalso; omega))
                    refine kx_aload_n 102 F 0 dX12_laysGoes_101 rfl rfl rfl ?_
                    refine kx_Vi 105 (ci := 0) F (As := []) (st := []) vd_X12_471 (e_laysLonger G l N_2570  hI_N_2570 ho_N_2570 hA hC) kd_163 rfl rfl rfl ⟨by decide, by decide⟩ rfl rfl (Nat.le_of_ble_eq_true rfl) dX12_laysGoes_102 rfl ?_
                    intro r_2583 N_2584 q_2585
                    obtain ⟨hI_N_2584, hG_N_2584, q_2585c, ho_N_2584⟩ := q_2585
                    have hF_N_2584 : Fr f_e_laysGoes M N_2584 := Fr.c hF_N_2570 hG_N_2584 rfl
                    rcases q_2585c with q_2585c | q_2585c
                    · refine kx_if_eq 108 F 79 dX12_laysGoes_105 (by decide) rfl (by omega) (fun h_2586 => (by exfalso; omega)) (fun h_2586 => ?_)
                      refine kx_iconst 109 F dX12_laysGoes_108 rfl ?_
                      refine kx_istore_n 110 F 3 (lo' := [some (vR G 163), some (vI a1), some (vI a2), some (vI 1)]) dX12_laysGoes_109 rfl (by decide) rfl rfl rfl ?_
                      refine kx_goto 79 F dX12_laysGoes_110 (by decide) ?_
                      have hp_2587 : LD N_2570  := LD.fr hp_2568 hG_N_2570 rfl rfl
                      have hp_2588 : LD N_2584  := LD.fr hp_2587 hG_N_2584 rfl rfl
                      exact ih_2558 _ (by omega) 1 N_2584 hI_N_2584 hF_N_2584 ho_N_2584 hp_2588 (by omega) rfl
                    · refine kx_if_eq 108 F 79 dX12_laysGoes_105 (by decide) rfl (by omega) (fun h_2589 => ?_) (fun h_2589 => (by exfalso; omega))
                      have hp_2590 : LD N_2570  := LD.fr hp_2568 hG_N_2570 rfl rfl
                      have hp_2591 : LD N_2584  := LD.fr hp_2590 hG_N_2584 rfl rfl
                      exact ih_2558 _ (by omega) r_2565 N_2584 hI_N_2584 hF_N_2584 ho_N_2584 hp_2591 (by omega) rfl
                · refine kx_istore_n 90 F 3 (lo' := [some (vR G 163), some (vI a1), some (vI a2), some (vI r_2565)]) dX12_laysGoes_89 rfl (by decide) rfl rfl rfl ?_
                  refine kx_aload_n 91 F 0 dX12_laysGoes_90 rfl rfl rfl ?_
                  refine kx_iload_n 92 F 1 dX12_laysGoes_91 rfl rfl rfl ?_
                  refine kx_iload_n 93 F 2 dX12_laysGoes_92 rfl rfl rfl ?_
                  have hp_2592 : LD N_2566  := LD.fr hp_2562 hG_N_2566 rfl rfl
                  refine kx_Vi 96 (ci := 0) F (As := [vI a1, vI a2]) (st := []) vd_X12_468 (e_laysSpans G l N_2566 a1 a2 hI_N_2566 (by omega) hp_2592 ho_N_2566 hA hC) kd_163 rfl rfl rfl ⟨by decide, by decide⟩ rfl rfl (Nat.le_of_ble_eq_true rfl) dX12_laysGoes_93 rfl ?_
                  intro r_2593 N_2594 q_2595
                  obtain ⟨hI_N_2594, hG_N_2594, q_2595c, ho_N_2594⟩ := q_2595
                  have hF_N_2594 : Fr f_e_laysGoes M N_2594 := Fr.c hF_N_2566 hG_N_2594 rfl
                  rcases q_2595c with q_2595c | q_2595c
                  · refine kx_if_eq 99 F 101 dX12_laysGoes_96 (by decide) rfl (by omega) (fun h_2596 => (by exfalso; omega)) (fun h_2596 => ?_)
                    refine kx_iconst 100 F dX12_laysGoes_99 rfl ?_
                    refine kx_istore_n 101 F 3 (lo' := [some (vR G 163), some (vI a1), some (vI a2), some (vI 1)]) dX12_laysGoes_100 rfl (by decide) rfl rfl rfl ?_
                    refine kx_aload_n 102 F 0 dX12_laysGoes_101 rfl rfl rfl ?_
                    refine kx_Vi 105 (ci := 0) F (As := []) (st := []) vd_X12_471 (e_laysLonger G l N_2594  hI_N_2594 ho_N_2594 hA hC) kd_163 rfl rfl rfl ⟨by decide, by decide⟩ rfl rfl (Nat.le_of_ble_eq_true rfl) dX12_laysGoes_102 rfl ?_
                    intro r_2597 N_2598 q_2599
                    obtain ⟨hI_N_2598, hG_N_2598, q_2599c, ho_N_2598⟩ := q_2599
                    have hF_N_2598 : Fr f_e_laysGoes M N_2598 := Fr.c hF_N_2594 hG_N_2598 rfl
                    rcases q_2599c with q_2599c | q_2599c
                    · refine kx_if_eq 108 F 79 dX12_laysGoes_105 (by decide) rfl (by omega) (fun h_2600 => (by exfalso; omega)) (fun h_2600 => ?_)
                      refine kx_iconst 109 F dX12_laysGoes_108 rfl ?_
                      refine kx_istore_n 110 F 3 (lo' := [some (vR G 163), some (vI a1), some (vI a2), some (vI 1)]) dX12_laysGoes_109 rfl (by decide) rfl rfl rfl ?_
                      refine kx_goto 79 F dX12_laysGoes_110 (by decide) ?_
                      have hp_2601 : LD N_2594  := LD.fr hp_2592 hG_N_2594 rfl rfl
                      have hp_2602 : LD N_2598  := LD.fr hp_2601 hG_N_2598 rfl rfl
                      exact ih_2558 _ (by omega) 1 N_2598 hI_N_2598 hF_N_2598 ho_N_2598 hp_2602 (by omega) rfl
                    · refine kx_if_eq 108 F 79 dX12_laysGoes_105 (by decide) rfl (by omega) (fun h_2603 => ?_) (fun h_2603 => (by exfalso; omega))
                      have hp_2604 : LD N_2594  := LD.fr hp_2592 hG_N_2594 rfl rfl
                      have hp_2605 : LD N_2598  := LD.fr hp_2604 hG_N_2598 rfl rfl
                      exact ih_2558 _ (by omega) 1 N_2598 hI_N_2598 hF_N_2598 ho_N_2598 hp_2605 (by omega) rfl
                  · refine kx_if_eq 99 F 101 dX12_laysGoes_96 (by decide) rfl (by omega) (fun h_2606 => ?_) (fun h_2606 => (by exfalso; omega))
                    refine kx_aload_n 102 F 0 dX12_laysGoes_101 rfl rfl rfl ?_
                    refine kx_Vi 105 (ci := 0) F (As := []) (st := []) vd_X12_471 (e_laysLonger G l N_2594  hI_N_2594 ho_N_2594 hA hC) kd_163 rfl rfl rfl ⟨by decide, by decide⟩ rfl rfl (Nat.le_of_ble_eq_true rfl) dX12_laysGoes_102 rfl ?_
                    intro r_2607 N_2608 q_2609
                    obtain ⟨hI_N_2608, hG_N_2608, q_2609c, ho_N_2608⟩ := q_2609
                    have hF_N_2608 : Fr f_e_laysGoes M N_2608 := Fr.c hF_N_2594 hG_N_2608 rfl
                    rcases q_2609c with q_2609c | q_2609c
                    · refine kx_if_eq 108 F 79 dX12_laysGoes_105 (by decide) rfl (by omega) (fun h_2610 => (by exfalso; omega)) (fun h_2610 => ?_)
                      refine kx_iconst 109 F dX12_laysGoes_108 rfl ?_
                      refine kx_istore_n 110 F 3 (lo' := [some (vR G 163), some (vI a1), some (vI a2), some (vI 1)]) dX12_laysGoes_109 rfl (by decide) rfl rfl rfl ?_
                      refine kx_goto 79 F dX12_laysGoes_110 (by decide) ?_
                      have hp_2611 : LD N_2594  := LD.fr hp_2592 hG_N_2594 rfl rfl
                      have hp_2612 : LD N_2608  := LD.fr hp_2611 hG_N_2608 rfl rfl
                      exact ih_2558 _ (by omega) 1 N_2608 hI_N_2608 hF_N_2608 ho_N_2608 hp_2612 (by omega) rfl
                    · refine kx_if_eq 108 F 79 dX12_laysGoes_105 (by decide) rfl (by omega) (fun h_2613 => ?_) (fun h_2613 => (by exfalso; omega))
                      have hp_2614 : LD N_2594  := LD.fr hp_2592 hG_N_2594 rfl rfl
                      have hp_2615 : LD N_2608  := LD.fr hp_2614 hG_N_2608 rfl rfl
                      exact ih_2558 _ (by omega) r_2565 N_2608 hI_N_2608 hF_N_2608 ho_N_2608 hp_2615 (by omega) rfl
            exact L_2556 _ 1 N_2397 hI_N_2397 hF_N_2397 hp_2403 hp_2404 (by omega) rfl
          · refine kx_aload_n 61 F 0 dX12_laysGoes_60 rfl rfl rfl ?_
            refine kx_getr 64 F fl_X12_95 kd_163 rfl rfl (j := 41) rfl dX12_laysGoes_61 (v := (M 163 41)) (by rw [Fr.e hF_N_2397 kd_163 _ rfl]) rfl ?_
            have hk_2616 : kd (M 163 41) = 87 := Inv.r hI_M kd_163 rfl 41 rfl rfl
            refine kx_sipush 67 F dX12_laysGoes_64 (by decide) rfl ?_
            refine kx_iload_n 68 F 3 dX12_laysGoes_67 rfl rfl rfl ?_
            refine kx_imul 69 F (v := 256 * x3_2396) dX12_laysGoes_68 (by omega) rfl ?_
            refine kx_iconst 70 F dX12_laysGoes_69 rfl ?_
            refine kx_iast 71 F hk_2616 rfl rfl (by omega) (by decide) dX12_laysGoes_70 rfl ?_
            intro N_2617 hM_N_2617
            have hI_N_2617 : Inv true N_2617 := Inv.u hI_N_2397 hM_N_2617 hk_2616 (a := 0) (b := 1000000) rfl rfl rfl (by omega)
            have hF_N_2617 : Fr f_e_laysGoes M N_2617 := Fr.u hF_N_2397 hM_N_2617 hk_2616 rfl
            have h_2619 := Inv.g hI_N_2397 hk_2616 rfl (256 * x3_2396) (a := 0) (b := 1000000) rfl rfl
            have ht_2618 := tot_u (n := 576) hM_N_2617 hk_2616 (by omega)
            refine kx_iinc 74 F 3 (v := x3_2396 + 1) (lo' := [some (vR G 163), some (vI a1), some (vI a2), some (vI (x3_2396 + 1))]) dX12_laysGoes_71 rfl (by omega) (by decide) rfl rfl rfl ?_
            refine kx_goto 50 F dX12_laysGoes_74 (by decide) ?_
            have hp_2620 : RP N_2617 (M 164) a2 := RP.st hp_2403 hM_N_2617 hk_2616 rfl rfl
            have hp_2621 : LD N_2617  := LD.st hp_2404 hM_N_2617 hk_2616 rfl rfl
            exact ih_2400 _ (by omega) (x3_2396 + 1) N_2617 hI_N_2617 hF_N_2617 hp_2620 hp_2621 (by omega) rfl
      have hp_2622 : LD N_1756  := LD.fr hp_1750 hG_N_1756 rfl rfl
      exact L_2398 _ 0 N_1756 hI_N_1756 hF_N_1756 ho_N_1756 hp_2622 (by omega) rfl
    · refine kx_aload_n 15 F 0 dX12_laysGoes_14 rfl rfl rfl ?_
      refine kx_getr 18 F fl_X12_95 kd_163 rfl rfl (j := 41) rfl dX12_laysGoes_15 (v := (M 163 41)) (by rw [Fr.e hF_N_1743 kd_163 _ rfl]) rfl ?_
      have hk_2623 : kd (M 163 41) = 87 := Inv.r hI_M kd_163 rfl 41 rfl rfl
      refine kx_iload_n 19 F 3 dX12_laysGoes_18 rfl rfl rfl ?_
      refine kx_ldcw 22 (z := 1000000) F dX12_laysGoes_19 ct_X12_428 rfl ?_
      refine kx_iast 23 F hk_2623 rfl rfl (by omega) (by decide) dX12_laysGoes_22 rfl ?_
      intro N_2624 hM_N_2624
      have hI_N_2624 : Inv true N_2624 := Inv.u hI_N_1743 hM_N_2624 hk_2623 (a := 0) (b := 1000000) rfl rfl rfl (by omega)
      have hF_N_2624 : Fr f_e_laysGoes M N_2624 := Fr.u hF_N_1743 hM_N_2624 hk_2623 rfl
      have h_2626 := Inv.g hI_N_1743 hk_2623 rfl x3_1742 (a := 0) (b := 1000000) rfl rfl
      have ht_2625 := tot_u (n := 576) hM_N_2624 hk_2623 (by omega)
      refine kx_aload_n 24 F 0 dX12_laysGoes_23 rfl rfl rfl ?_
      refine kx_getr 27 F fl_X12_98 kd_163 rfl rfl (j := 42) rfl dX12_laysGoes_24 (v := (M 163 42)) (by rw [hM_N_2624, mu_k kd_163 hk_2623 rfl, Fr.e hF_N_1743 kd_163 _ rfl]) rfl ?_
      have hk_2627 : kd (M 163 42) = 87 := Inv.r hI_M kd_163 rfl 42 rfl rfl
      refine kx_iload_n 28 F 3 dX12_laysGoes_27 rfl rfl rfl ?_
      refine kx_ldcw 31 (z := 1000000) F dX12_laysGoes_28 ct_X12_428 rfl ?_
      refine kx_iast 32 F hk_2627 rfl rfl (by omega) (by decide) dX12_laysGoes_31 rfl ?_
      intro N_2628 hM_N_2628
      have hI_N_2628 : Inv true N_2628 := Inv.u hI_N_2624 hM_N_2628 hk_2627 (a := 0) (b := 1000000) rfl rfl rfl (by omega)
      have hF_N_2628 : Fr f_e_laysGoes M N_2628 := Fr.u hF_N_2624 hM_N_2628 hk_2627 rfl
      have h_2630 := Inv.g hI_N_2624 hk_2627 rfl x3_1742 (a := 0) (b := 1000000) rfl rfl
      have ht_2629 := tot_u (n := 576) hM_N_2628 hk_2627 (by omega)
      refine kx_iinc 35 F 3 (v := x3_1742 + 1) (lo' := [some (vR G 163), some (vI a1), some (vI a2), some (vI (x3_1742 + 1))]) dX12_laysGoes_32 rfl (by omega) (by decide) rfl rfl rfl ?_
      refine kx_goto 7 F dX12_laysGoes_35 (by decide) ?_
      have hp_2631 : RP N_2624 (M 164) a2 := RP.st hp_1749 hM_N_2624 hk_2623 rfl rfl
      have hp_2632 : RP N_2628 (M 164) a2 := RP.st hp_2631 hM_N_2628 hk_2627 rfl rfl
      have hp_2633 : LD N_2624  := LD.st hp_1750 hM_N_2624 hk_2623 rfl rfl
      have hp_2634 : LD N_2628  := LD.st hp_2633 hM_N_2628 hk_2627 rfl rfl
      exact ih_1746 _ (by omega) (x3_1742 + 1) N_2628 hI_N_2628 hF_N_2628 hp_2632 hp_2634 (by omega) rfl
  have hp_2635 : LD N_1  := LD.st hD hM_N_1 kd_163 rfl rfl
  exact L_1744 _ 0 N_1 hI_N_1 hF_N_1 hp_4 hp_2635 (by omega) rfl
