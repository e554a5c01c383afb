abbrev f_e_tray3m : List (Nat × Int) := [(64, 2), (67, -1), (68, -1), (69, -1)]
set_option maxHeartbeats 4000000 in
set_option maxRecDepth 100000 in
theorem e_tray3m (G : KG) (l : Launch) (M : Mem) (a1 : Int) (a2 : Int) (a3 : Int) (hI_M : Inv true M) (hpre : -2147483648 ≤ a1 ∧ a1 ≤ 2147483647 ∧ -2147483648 ≤ a2 ∧ a2 ≤ 2147483647 ∧ -2147483648 ≤ a3 ∧ a3 ≤ 2147483647) : KC true G l yX12_tray cX12_tray 5 (some .boolean) (1, 21) [vR G 163, vI a1, vI a2, vI a3] M (fun A => kQi true G A (fun (r : Int) (N : Mem) => Inv true N ∧ Fr f_e_tray3m M N ∧ ((r = 1 ∧ 0 ≤ a1 ∧ a1 ≤ 3 ∧ 0 ≤ a2 ∧ a2 ≤ 3 ∧ 0 ≤ a3 ∧ a3 ≤ 60) ∨ (r = 0 ∧ a1 < 0) ∨ (r = 0 ∧ a1 > 3) ∨ (r = 0 ∧ a2 < 0) ∨ (r = 0 ∧ a2 > 3) ∨ (r = 0 ∧ a3 < 0) ∨ (r = 0 ∧ a3 > 60)) ∧ ((UQ2 M N 167 166 a1 a2 a3 r) ∧ zV2 (M 168) (N 168) (zvt (M 168) (60 * a1) a3) r))) := by
  refine kx_met (lo := [some (vR G 163), some (vI a1), some (vI a2), some (vI a3), none]) (by decide) (Nat.le_of_ble_eq_true rfl) rfl ?_
  intro X F hQ
  have hF_M : Fr f_e_tray3m M M := Fr.rf _ _
  refine kx_iload_n 1 F 1 dX12_tray_0 rfl rfl rfl ?_
  refine kx_Si 4 F (As := [vI a1]) (st := []) sd_X12_134 (e_X12_isTray G l M a1 hI_M (by omega)) ⟨by decide, by decide⟩ rfl rfl (Nat.le_of_ble_eq_true rfl) dX12_tray_1 rfl ?_
  intro r_1 N_2 q_3
  obtain ⟨rfl, q_3c⟩ := q_3
  rcases q_3c with q_3c | q_3c | q_3c
  · refine kx_if_eq 7 F 26 dX12_tray_4 (by decide) rfl (by omega) (fun h_4 => (by exfalso; omega)) (fun h_4 => ?_)
    refine kx_iload_n 8 F 2 dX12_tray_7 rfl rfl rfl ?_
    refine kx_if_lt 11 F 26 dX12_tray_8 (by decide) rfl (by omega) (fun h_5 => ?_) (fun h_5 => ?_)
    · refine kx_aload_n 27 F 0 dX12_tray_26 rfl rfl rfl ?_
      refine kx_iconst 28 F dX12_tray_27 rfl ?_
      refine kx_Vi 31 (ci := 0) F (As := [vI 1]) (st := []) vd_X12_130 (c_X12_is G l M 1 hI_M (by omega)) kd_163 rfl rfl rfl ⟨by decide, by decide⟩ rfl rfl (Nat.le_of_ble_eq_true rfl) dX12_tray_28 rfl ?_
      intro r_6 N_7 q_8
      obtain ⟨hI_N_7, hG_N_7, q_8c⟩ := q_8
      have hF_N_7 : Fr f_e_tray3m M N_7 := Fr.c hF_M hG_N_7 rfl
      rcases q_8c with q_8c | q_8c
      · exfalso; omega
      · exact kx_zret F hQ (by omega) ⟨hI_N_7, hF_N_7, (Or.inr (Or.inr (Or.inr (Or.inl (by omega))))), ⟨(Or.inr ⟨by omega, (Fr.fn hG_N_7 kd_167 rfl), (Fr.fn hG_N_7 kd_166 rfl)⟩), (Or.inr ⟨by omega, (funext (fun j => by rw [Fr.e hG_N_7 kd_168 _ rfl]))⟩)⟩⟩ dX12_tray_31
    · refine kx_iload_n 12 F 2 dX12_tray_11 rfl rfl rfl ?_
      refine kx_iconst 13 F dX12_tray_12 rfl ?_
      refine kx_icmp_gt 16 F 26 dX12_tray_13 (by decide) rfl (by omega) (by decide) (fun h_9 => ?_) (fun h_9 => ?_)
      · refine kx_aload_n 27 F 0 dX12_tray_26 rfl rfl rfl ?_
        refine kx_iconst 28 F dX12_tray_27 rfl ?_
        refine kx_Vi 31 (ci := 0) F (As := [vI 1]) (st := []) vd_X12_130 (c_X12_is G l M 1 hI_M (by omega)) kd_163 rfl rfl rfl ⟨by decide, by decide⟩ rfl rfl (Nat.le_of_ble_eq_true rfl) dX12_tray_28 rfl ?_
        intro r_10 N_11 q_12
        obtain ⟨hI_N_11, hG_N_11, q_12c⟩ := q_12
        have hF_N_11 : Fr f_e_tray3m M N_11 := Fr.c hF_M hG_N_11 rfl
        rcases q_12c with q_12c | q_12c
        · exfalso; omega
        · exact kx_zret F hQ (by omega) ⟨hI_N_11, hF_N_11, (Or.inr (Or.inr (Or.inr (Or.inr (Or.inl (by omega)))))), ⟨(Or.inr ⟨by omega, (Fr.fn hG_N_11 kd_167 rfl), (Fr.fn hG_N_11 kd_166 rfl)⟩), (Or.inr ⟨by omega, (funext (fun j => by rw [Fr.e hG_N_11 kd_168 _ rfl]))⟩)⟩⟩ dX12_tray_31
      · refine kx_iload_n 17 F 3 dX12_tray_16 rfl rfl rfl ?_
        refine kx_if_lt 20 F 26 dX12_tray_17 (by decide) rfl (by omega) (fun h_13 => ?_) (fun h_13 => ?_)
        · refine kx_aload_n 27 F 0 dX12_tray_26 rfl rfl rfl ?_
          refine kx_iconst 28 F dX12_tray_27 rfl ?_
          refine kx_Vi 31 (ci := 0) F (As := [vI 1]) (st := []) vd_X12_130 (c_X12_is G l M 1 hI_M (by omega)) kd_163 rfl rfl rfl ⟨by decide, by decide⟩ rfl rfl (Nat.le_of_ble_eq_true rfl) dX12_tray_28 rfl ?_
          intro r_14 N_15 q_16
          obtain ⟨hI_N_15, hG_N_15, q_16c⟩ := q_16
          have hF_N_15 : Fr f_e_tray3m M N_15 := Fr.c hF_M hG_N_15 rfl
          rcases q_16c with q_16c | q_16c
          · exfalso; omega
          · exact kx_zret F hQ (by omega) ⟨hI_N_15, hF_N_15, (Or.inr (Or.inr (Or.inr (Or.inr (Or.inr (Or.inl (by omega))))))), ⟨(Or.inr ⟨by omega, (Fr.fn hG_N_15 kd_167 rfl), (Fr.fn hG_N_15 kd_166 rfl)⟩), (Or.inr ⟨by omega, (funext (fun j => by rw [Fr.e hG_N_15 kd_168 _ rfl]))⟩)⟩⟩ dX12_tray_31
        · refine kx_iload_n 21 F 3 dX12_tray_20 rfl rfl rfl ?_
          refine kx_bipush 23 F dX12_tray_21 (by decide) rfl ?_
          refine kx_icmp_le 26 F 32 dX12_tray_23 (by decide) rfl (by omega) (by decide) (fun h_17 => ?_) (fun h_17 => ?_)
          · refine kx_aload_n 33 F 0 dX12_tray_32 rfl rfl rfl ?_
            refine kx_getr 36 F fl_X12_21 kd_163 rfl rfl (j := 5) rfl dX12_tray_33 (v := 166) (uq_166 (Inv.r hI_M kd_163 rfl 5 rfl rfl)) rfl ?_
            refine kx_iload_n 37 F 1 dX12_tray_36 rfl rfl rfl ?_
            refine kx_iload_n 38 F 2 dX12_tray_37 rfl rfl rfl ?_
            refine kx_iast 39 F kd_166 rfl rfl (by omega) (by decide) dX12_tray_38 rfl ?_
            intro N_18 hM_N_18
            have hI_N_18 : Inv true N_18 := Inv.u hI_M hM_N_18 kd_166 (a := 0) (b := 3) rfl rfl rfl (by omega)
            have hF_N_18 : Fr f_e_tray3m M N_18 := Fr.u hF_M hM_N_18 kd_166 rfl
            refine kx_aload_n 40 F 0 dX12_tray_39 rfl rfl rfl ?_
            refine kx_getr 43 F fl_X12_24 kd_163 rfl rfl (j := 6) rfl dX12_tray_40 (v := 167) (uq_167 (Inv.r hI_N_18 kd_163 rfl 6 rfl rfl)) rfl ?_
            refine kx_iload_n 44 F 1 dX12_tray_43 rfl rfl rfl ?_
            refine kx_iload_n 45 F 3 dX12_tray_44 rfl rfl rfl ?_
            refine kx_iast 46 F kd_167 rfl rfl (by omega) (by decide) dX12_tray_45 rfl ?_
            intro N_19 hM_N_19
            have hI_N_19 : Inv true N_19 := Inv.u hI_N_18 hM_N_19 kd_167 (a := (-1)) (b := 60) rfl rfl rfl (by omega)
            have hF_N_19 : Fr f_e_tray3m M N_19 := Fr.u hF_N_18 hM_N_19 kd_167 rfl
            refine kx_iconst 47 F dX12_tray_46 rfl ?_
            refine kx_istore 49 F 4 (lo' := [some (vR G 163), some (vI a1), some (vI a2), some (vI a3), some (vI 0)]) dX12_tray_47 (by decide) rfl rfl rfl ?_
            have L_71 : ∀ (n_72 : Nat) (x4_69 : Int) (N_70 : Mem), Inv true N_70 → Fr f_e_tray3m M N_70 → WP N_70 M 167 a1 a3 → WS N_70 M 166 a1 a2 → zVT N_70 M 168 (60 * a1) x4_69 → 0 ≤ x4_69 ∧ x4_69 ≤ 60 ∧ x4_69 ≤ a3 → (60 - (x4_69)).toNat = n_72 → KJ true G X N_70 49 [some (vR G 163), some (vI a1), none, some (vI a3), some (vI x4_69)] [] := by
              intro n_72
              refine Nat.strongRecOn n_72 ?_
              intro n_72 ih_73 x4_69 N_70 hI_N_70 hF_N_70 hp_76 hp_77 hp_78 h_74 hm_75
              refine kx_iload 51 F 4 dX12_tray_49 rfl rfl ?_
              refine kx_iload_n 52 F 3 dX12_tray_51 rfl rfl rfl ?_
              refine kx_icmp_ge 55 F 74 dX12_tray_52 (by decide) rfl (by omega) (by omega) (fun h_79 => ?_) (fun h_79 => ?_)
              · refine kx_aload_n 75 F 0 dX12_tray_74 rfl rfl rfl ?_
                refine kx_iconst 76 F dX12_tray_75 rfl ?_
                refine kx_Vi 79 (ci := 0) F (As := [vI 0]) (st := []) vd_X12_130 (c_X12_is G l N_70 0 hI_N_70 (by omega)) kd_163 rfl rfl rfl ⟨by decide, by decide⟩ rfl rfl (Nat.le_of_ble_eq_true rfl) dX12_tray_76 rfl ?_
                intro r_80 N_81 q_82
                obtain ⟨hI_N_81, hG_N_81, q_82c⟩ := q_82
                have hF_N_81 : Fr f_e_tray3m M N_81 := Fr.c hF_N_70 hG_N_81 rfl
                rcases q_82c with q_82c | q_82c
                · exact kx_zret F hQ (by omega) ⟨hI_N_81, hF_N_81, (Or.inl (by omega)), ⟨(Or.inl ⟨by omega, (UP.fr hp_76 hG_N_81 kd_167 rfl), (UP.fr hp_77 hG_N_81 kd_166 rfl)⟩), (Or.inl ⟨by omega, ((funext (fun j => by rw [Fr.e hG_N_81 kd_168 _ rfl])).trans (zVT.f hp_78 (by omega)))⟩)⟩⟩ dX12_tray_79
                · exfalso; omega
              · refine kx_aload_n 56 F 0 dX12_tray_55 rfl rfl rfl ?_
                refine kx_getr 59 F fl_X12_27 kd_163 rfl rfl (j := 7) rfl dX12_tray_56 (v := 168) (uq_168 (Inv.r hI_N_70 kd_163 rfl 7 rfl rfl)) rfl ?_
                refine kx_bipush 61 F dX12_tray_59 (by decide) rfl ?_
                refine kx_iload_n 62 F 1 dX12_tray_61 rfl rfl rfl ?_
                refine kx_imul 63 F (v := 60 * a1) dX12_tray_62 (by omega) rfl ?_
                refine kx_iload 65 F 4 dX12_tray_63 rfl rfl ?_
                refine kx_iadd 66 F (v := 60 * a1 + x4_69) dX12_tray_65 rfl rfl ?_
                refine kx_lconst 67 (z := 0) F dX12_tray_66 (by decide) rfl ?_
                refine kx_last 68 F kd_168 rfl rfl (by omega) (by decide) dX12_tray_67 rfl ?_
                intro N_83 hM_N_83
                have hI_N_83 : Inv true N_83 := Inv.u hI_N_70 hM_N_83 kd_168 (a := (-9223372036854775808)) (b := 9223372036854775807) rfl rfl rfl (by omega)
                have hF_N_83 : Fr f_e_tray3m M N_83 := Fr.u hF_N_70 hM_N_83 kd_168 rfl
                refine kx_iinc 71 F 4 (v := x4_69 + 1) (lo' := [some (vR G 163), some (vI a1), none, some (vI a3), some (vI (x4_69 + 1))]) dX12_tray_68 rfl (by omega) (by decide) rfl rfl rfl ?_
                refine kx_goto 49 F dX12_tray_71 (by decide) ?_
                exact ih_73 _ (by omega) (x4_69 + 1) N_83 hI_N_83 hF_N_83 (UP.ot hp_76 hM_N_83 kd_167 kd_168 rfl) (UP.ot hp_77 hM_N_83 kd_166 kd_168 rfl) (zVT.step hp_78 (by omega) (by omega) (by omega) hM_N_83) (by omega) rfl
            refine kx_drop 2 (lo' := [some (vR G 163), some (vI a1), none, some (vI a3), some (vI 0)]) rfl ?_
            exact L_71 _ 0 N_19 hI_N_19 hF_N_19 (UP.af hM_N_18 hM_N_19 kd_167 kd_166 rfl) (UP.ot (UP.st hM_N_18) hM_N_19 kd_166 kd_167 rfl) (zVT.nil (funext (fun j => by rw [hM_N_19, mu_k kd_168 kd_167 rfl, hM_N_18, mu_k kd_168 kd_166 rfl]))) (by omega) rfl
          · refine kx_aload_n 27 F 0 dX12_tray_26 rfl rfl rfl ?_
            refine kx_iconst 28 F dX12_tray_27 rfl ?_
            refine kx_Vi 31 (ci := 0) F (As := [vI 1]) (st := []) vd_X12_130 (c_X12_is G l M 1 hI_M (by omega)) kd_163 rfl rfl rfl ⟨by decide, by decide⟩ rfl rfl (Nat.le_of_ble_eq_true rfl) dX12_tray_28 rfl ?_
            intro r_84 N_85 q_86
            obtain ⟨hI_N_85, hG_N_85, q_86c⟩ := q_86
            have hF_N_85 : Fr f_e_tray3m M N_85 := Fr.c hF_M hG_N_85 rfl
            rcases q_86c with q_86c | q_86c
            · exfalso; omega
            · exact kx_zret F hQ (by omega) ⟨hI_N_85, hF_N_85, (Or.inr (Or.inr (Or.inr (Or.inr (Or.inr (Or.inr (by omega))))))), ⟨(Or.inr ⟨by omega, (Fr.fn hG_N_85 kd_167 rfl), (Fr.fn hG_N_85 kd_166 rfl)⟩), (Or.inr ⟨by omega, (funext (fun j => by rw [Fr.e hG_N_85 kd_168 _ rfl]))⟩)⟩⟩ dX12_tray_31
  · refine kx_if_eq 7 F 26 dX12_tray_4 (by decide) rfl (by omega) (fun h_87 => ?_) (fun h_87 => (by exfalso; omega))
    refine kx_aload_n 27 F 0 dX12_tray_26 rfl rfl rfl ?_
    refine kx_iconst 28 F dX12_tray_27 rfl ?_
    refine kx_Vi 31 (ci := 0) F (As := [vI 1]) (st := []) vd_X12_130 (c_X12_is G l M 1 hI_M (by omega)) kd_163 rfl rfl rfl ⟨by decide, by decide⟩ rfl rfl (Nat.le_of_ble_eq_true rfl) dX12_tray_28 rfl ?_
    intro r_88 N_89 q_90
    obtain ⟨hI_N_89, hG_N_89, q_90c⟩ := q_90
    have hF_N_89 : Fr f_e_tray3m M N_89 := Fr.c hF_M hG_N_89 rfl
    rcases q_90c with q_90c | q_90c
    · exfalso; omega
    · exact kx_zret F hQ (by omega) ⟨hI_N_89, hF_N_89, (Or.inr (Or.inl (by omega))), ⟨(Or.inr ⟨by omega, (Fr.fn hG_N_89 kd_167 rfl), (Fr.fn hG_N_89 kd_166 rfl)⟩), (Or.inr ⟨by omega, (funext (fun j => by rw [Fr.e hG_N_89 kd_168 _ rfl]))⟩)⟩⟩ dX12_tray_31
  · refine kx_if_eq 7 F 26 dX12_tray_4 (by decide) rfl (by omega) (fun h_91 => ?_) (fun h_91 => (by exfalso; omega))
    refine kx_aload_n 27 F 0 dX12_tray_26 rfl rfl rfl ?_
    refine kx_iconst 28 F dX12_tray_27 rfl ?_
    refine kx_Vi 31 (ci := 0) F (As := [vI 1]) (st := []) vd_X12_130 (c_X12_is G l M 1 hI_M (by omega)) kd_163 rfl rfl rfl ⟨by decide, by decide⟩ rfl rfl (Nat.le_of_ble_eq_true rfl) dX12_tray_28 rfl ?_
    intro r_92 N_93 q_94
    obtain ⟨hI_N_93, hG_N_93, q_94c⟩ := q_94
    have hF_N_93 : Fr f_e_tray3m M N_93 := Fr.c hF_M hG_N_93 rfl
    rcases q_94c with q_94c | q_94c
    · exfalso; omega
    · exact kx_zret F hQ (by omega) ⟨hI_N_93, hF_N_93, (Or.inr (Or.inr (Or.inl (by omega)))), ⟨(Or.inr ⟨by omega, (Fr.fn hG_N_93 kd_167 rfl), (Fr.fn hG_N_93 kd_166 rfl)⟩), (Or.inr ⟨by omega, (funext (fun j => by rw [Fr.e hG_N_93 kd_168 _ rfl]))⟩)⟩⟩ dX12_tray_31
abbrev f_e_write3m : List (Nat × Int) := [(64, 2), (69, -1)]
set_option maxHeartbeats 4000000 in
set_option maxRecDepth 100000 in
theorem e_write3m (G : KG) (l : Launch) (M : Mem) (a1 : Int) (a2 : Int) (a3 : Int) (hI_M : Inv true M) (hpre : -2147483648 ≤ a1 ∧ a1 ≤ 2147483647 ∧ -2147483648 ≤ a2 ∧ a2 ≤ 2147483647 ∧ -9223372036854775808 ≤ a3 ∧ a3 ≤ 9223372036854775807) : KC true G l yX12_write cX12_write 6 (some .boolean) (2, 42) [vR G 163, vI a1, vI a2, vL a3] M (fun A => kQi true G A (fun (r : Int) (N : Mem) => Inv true N ∧ Fr f_e_write3m M N ∧ ((r = 1 ∧ 0 ≤ a1 ∧ a1 ≤ 3 ∧ 0 ≤ a2 ∧ a2 < (M 167 a1) ∧ a2 ≤ 59) ∨ (r = 0 ∧ a1 < 0) ∨ (r = 0 ∧ a1 > 3) ∨ (r = 0 ∧ 0 ≤ a1 ∧ a1 ≤ 3 ∧ (M 167 a1) = -1) ∨ (r = 0 ∧ 0 ≤ a1 ∧ a1 ≤ 3 ∧ a2 < 0) ∨ (r = 0 ∧ 0 ≤ a1 ∧ a1 ≤ 3 ∧ a2 ≥ (M 167 a1))) ∧ (zV2 (M 168) (N 168) (zvw (M 168) (60 * a1 + a2) (zcut a3 (M 166 a1))) r))) := by
  refine kx_met (lo := [some (vR G 163), some (vI a1), some (vI a2), some (vL a3), none, none]) (by decide) (Nat.le_of_ble_eq_true rfl) rfl ?_
  intro X F hQ
  have hF_M : Fr f_e_write3m M M := Fr.rf _ _
  refine kx_aload_n 1 F 0 dX12_write_0 rfl rfl rfl ?_
  refine kx_iload_n 2 F 1 dX12_write_1 rfl rfl rfl ?_
  refine kx_iload_n 3 F 2 dX12_write_2 rfl rfl rfl ?_
  refine kx_Vi 6 (ci := 0) F (As := [vI a1, vI a2]) (st := []) vd_X12_137 (e_X12_wrongPlace G l M a1 a2 hI_M (by omega)) kd_163 rfl rfl rfl ⟨by decide, by decide⟩ rfl rfl (Nat.le_of_ble_eq_true rfl) dX12_write_3 rfl ?_
  intro r_1 N_2 q_3
  obtain ⟨rfl, q_3c⟩ := q_3
  rcases q_3c with q_3c | q_3c | q_3c | q_3c | q_3c | q_3c
  · refine kx_istore 8 F 5 (lo' := [some (vR G 163), some (vI a1), some (vI a2), some (vL a3), none, some (vI r_1)]) dX12_write_6 (by decide) rfl rfl rfl ?_
    refine kx_iload 10 F 5 dX12_write_8 rfl rfl ?_
    refine kx_if_ne 13 F 34 dX12_write_10 (by decide) rfl (by omega) (fun h_4 => (by exfalso; omega)) (fun h_4 => ?_)
    refine kx_aload_n 14 F 0 dX12_write_13 rfl rfl rfl ?_
    refine kx_getr 17 F fl_X12_27 kd_163 rfl rfl (j := 7) rfl dX12_write_14 (v := 168) (uq_168 (Inv.r hI_M kd_163 rfl 7 rfl rfl)) rfl ?_
    refine kx_bipush 19 F dX12_write_17 (by decide) rfl ?_
    refine kx_iload_n 20 F 1 dX12_write_19 rfl rfl rfl ?_
    refine kx_imul 21 F (v := 60 * a1) dX12_write_20 (by omega) rfl ?_
    refine kx_iload_n 22 F 2 dX12_write_21 rfl rfl rfl ?_
    refine kx_iadd 23 F (v := 60 * a1 + a2) dX12_write_22 rfl rfl ?_
    refine kx_lload_n 24 F 3 dX12_write_23 rfl rfl rfl ?_
    refine kx_aload_n 25 F 0 dX12_write_24 rfl rfl rfl ?_
    refine kx_getr 28 F fl_X12_21 kd_163 rfl rfl (j := 5) rfl dX12_write_25 (v := 166) (uq_166 (Inv.r hI_M kd_163 rfl 5 rfl rfl)) rfl ?_
    refine kx_iload_n 29 F 1 dX12_write_28 rfl rfl rfl ?_
    refine kx_iald 30 F kd_166 rfl rfl (by omega) (by decide) dX12_write_29 (v := (M 166 a1)) rfl rfl ?_
    have h_5 := Inv.g hI_M kd_166 rfl a1 (a := 0) (b := 3) rfl rfl
    refine kx_Sl 33 F (As := [vL a3, vI (M 166 a1)]) (st := [vI (60 * a1 + a2), vR G 168]) sd_X12_141 (e_cut3m G l M a3 (M 166 a1) hI_M (by omega)) ⟨by decide, by decide⟩ rfl rfl (Nat.le_of_ble_eq_true rfl) dX12_write_30 rfl ?_
    intro r_6 N_7 q_8
    obtain ⟨rfl, q_8c, hz_N_7⟩ := q_8
    refine kx_last 34 F kd_168 rfl rfl (by omega) (by decide) dX12_write_33 rfl ?_
    intro N_9 hM_N_9
    have hI_N_9 : Inv true N_9 := Inv.u hI_M hM_N_9 kd_168 (a := (-9223372036854775808)) (b := 9223372036854775807) rfl rfl rfl (by omega)
    have hF_N_9 : Fr f_e_write3m M N_9 := Fr.u hF_M hM_N_9 kd_168 rfl
    refine kx_aload_n 35 F 0 dX12_write_34 rfl rfl rfl ?_
    refine kx_iload 37 F 5 dX12_write_35 rfl rfl ?_
    refine kx_Vi 40 (ci := 0) F (As := [vI r_1]) (st := []) vd_X12_130 (c_X12_is G l N_9 r_1 hI_N_9 (by omega)) kd_163 rfl rfl rfl ⟨by decide, by decide⟩ rfl rfl (Nat.le_of_ble_eq_true rfl) dX12_write_37 rfl ?_
    intro r_10 N_11 q_12
    obtain ⟨hI_N_11, hG_N_11, q_12c⟩ := q_12
    have hF_N_11 : Fr f_e_write3m M N_11 := Fr.c hF_N_9 hG_N_11 rfl
    rcases q_12c with q_12c | q_12c
    · exact kx_zret F hQ (by omega) ⟨hI_N_11, hF_N_11, (Or.inl (by omega)), (Or.inl ⟨by omega, ((funext (fun j => by rw [Fr.e hG_N_11 kd_168 _ rfl])).trans (UP.f (fun j => by have h := UP.st hM_N_9 j; rw [← hz_N_7]; exact h)))⟩)⟩ dX12_write_40
    · exfalso; omega
  · refine kx_istore 8 F 5 (lo' := [some (vR G 163), some (vI a1), some (vI a2), some (vL a3), none, some (vI r_1)]) dX12_write_6 (by decide) rfl rfl rfl ?_
    refine kx_iload 10 F 5 dX12_write_8 rfl rfl ?_
    refine kx_if_ne 13 F 34 dX12_write_10 (by decide) rfl (by omega) (fun h_13 => ?_) (fun h_13 => (by exfalso; omega))
    refine kx_aload_n 35 F 0 dX12_write_34 rfl rfl rfl ?_
    refine kx_iload 37 F 5 dX12_write_35 rfl rfl ?_
    refine kx_Vi 40 (ci := 0) F (As := [vI r_1]) (st := []) vd_X12_130 (c_X12_is G l M r_1 hI_M (by omega)) kd_163 rfl rfl rfl ⟨by decide, by decide⟩ rfl rfl (Nat.le_of_ble_eq_true rfl) dX12_write_37 rfl ?_
    intro r_14 N_15 q_16
    obtain ⟨hI_N_15, hG_N_15, q_16c⟩ := q_16
    have hF_N_15 : Fr f_e_write3m M N_15 := Fr.c hF_M hG_N_15 rfl
    rcases q_16c with q_16c | q_16c
    · exfalso; omega
    · exact kx_zret F hQ (by omega) ⟨hI_N_15, hF_N_15, (Or.inr (Or.inl (by omega))), (Or.inr ⟨by omega, (funext (fun j => by rw [Fr.e hG_N_15 kd_168 _ rfl]))⟩)⟩ dX12_write_40
  · refine kx_istore 8 F 5 (lo' := [some (vR G 163), some (vI a1), some (vI a2), some (vL a3), none, some (vI r_1)]) dX12_write_6 (by decide) rfl rfl rfl ?_
    refine kx_iload 10 F 5 dX12_write_8 rfl rfl ?_
    refine kx_if_ne 13 F 34 dX12_write_10 (by decide) rfl (by omega) (fun h_17 => ?_) (fun h_17 => (by exfalso; omega))
    refine kx_aload_n 35 F 0 dX12_write_34 rfl rfl rfl ?_
    refine kx_iload 37 F 5 dX12_write_35 rfl rfl ?_
    refine kx_Vi 40 (ci := 0) F (As := [vI r_1]) (st := []) vd_X12_130 (c_X12_is G l M r_1 hI_M (by omega)) kd_163 rfl rfl rfl ⟨by decide, by decide⟩ rfl rfl (Nat.le_of_ble_eq_true rfl) dX12_write_37 rfl ?_
    intro r_18 N_19 q_20
    obtain ⟨hI_N_19, hG_N_19, q_20c⟩ := q_20
    have hF_N_19 : Fr f_e_write3m M N_19 := Fr.c hF_M hG_N_19 rfl
    rcases q_20c with q_20c | q_20c
    · exfalso; omega
    · exact kx_zret F hQ (by omega) ⟨hI_N_19, hF_N_19, (Or.inr (Or.inr (Or.inl (by omega)))), (Or.inr ⟨by omega, (funext (fun j => by rw [Fr.e hG_N_19 kd_168 _ rfl]))⟩)⟩ dX12_write_40
  · refine kx_istore 8 F 5 (lo' := [some (vR G 163), some (vI a1), some (vI a2), some (vL a3), none, some (vI r_1)]) dX12_write_6 (by decide) rfl rfl rfl ?_
    refine kx_iload 10 F 5 dX12_write_8 rfl rfl ?_
    refine kx_if_ne 13 F 34 dX12_write_10 (by decide) rfl (by omega) (fun h_21 => ?_) (fun h_21 => (by exfalso; omega))
    refine kx_aload_n 35 F 0 dX12_write_34 rfl rfl rfl ?_
    refine kx_iload 37 F 5 dX12_write_35 rfl rfl ?_
    refine kx_Vi 40 (ci := 0) F (As := [vI r_1]) (st := []) vd_X12_130 (c_X12_is G l M r_1 hI_M (by omega)) kd_163 rfl rfl rfl ⟨by decide, by decide⟩ rfl rfl (Nat.le_of_ble_eq_true rfl) dX12_write_37 rfl ?_
    intro r_22 N_23 q_24
    obtain ⟨hI_N_23, hG_N_23, q_24c⟩ := q_24
    have hF_N_23 : Fr f_e_write3m M N_23 := Fr.c hF_M hG_N_23 rfl
    rcases q_24c with q_24c | q_24c
    · exfalso; omega
    · exact kx_zret F hQ (by omega) ⟨hI_N_23, hF_N_23, (Or.inr (Or.inr (Or.inr (Or.inl (by omega))))), (Or.inr ⟨by omega, (funext (fun j => by rw [Fr.e hG_N_23 kd_168 _ rfl]))⟩)⟩ dX12_write_40
  · refine kx_istore 8 F 5 (lo' := [some (vR G 163), some (vI a1), some (vI a2), some (vL a3), none, some (vI r_1)]) dX12_write_6 (by decide) rfl rfl rfl ?_
    refine kx_iload 10 F 5 dX12_write_8 rfl rfl ?_
    refine kx_if_ne 13 F 34 dX12_write_10 (by decide) rfl (by omega) (fun h_25 => ?_) (fun h_25 => (by exfalso; omega))
    refine kx_aload_n 35 F 0 dX12_write_34 rfl rfl rfl ?_
    refine kx_iload 37 F 5 dX12_write_35 rfl rfl ?_
    refine kx_Vi 40 (ci := 0) F (As := [vI r_1]) (st := []) vd_X12_130 (c_X12_is G l M r_1 hI_M (by omega)) kd_163 rfl rfl rfl ⟨by decide, by decide⟩ rfl rfl (Nat.le_of_ble_eq_true rfl) dX12_write_37 rfl ?_
    intro r_26 N_27 q_28
    obtain ⟨hI_N_27, hG_N_27, q_28c⟩ := q_28
    have hF_N_27 : Fr f_e_write3m M N_27 := Fr.c hF_M hG_N_27 rfl
    rcases q_28c with q_28c | q_28c
    · exfalso; omega
    · exact kx_zret F hQ (by omega) ⟨hI_N_27, hF_N_27, (Or.inr (Or.inr (Or.inr (Or.inr (Or.inl (by omega)))))), (Or.inr ⟨by omega, (funext (fun j => by rw [Fr.e hG_N_27 kd_168 _ rfl]))⟩)⟩ dX12_write_40
  · refine kx_istore 8 F 5 (lo' := [some (vR G 163), some (vI a1), some (vI a2), some (vL a3), none, some (vI r_1)]) dX12_write_6 (by decide) rfl rfl rfl ?_
    refine kx_iload 10 F 5 dX12_write_8 rfl rfl ?_
    refine kx_if_ne 13 F 34 dX12_write_10 (by decide) rfl (by omega) (fun h_29 => ?_) (fun h_29 => (by exfalso; omega))
    refine kx_aload_n 35 F 0 dX12_write_34 rfl rfl rfl ?_
    refine kx_iload 37 F 5 dX12_write_35 rfl rfl ?_
    refine kx_Vi 40 (ci := 0) F (As := [vI r_1]) (st := []) vd_X12_130 (c_X12_is G l M r_1 hI_M (by omega)) kd_163 rfl rfl rfl ⟨by decide, by decide⟩ rfl rfl (Nat.le_of_ble_eq_true rfl) dX12_write_37 rfl ?_
    intro r_30 N_31 q_32
    obtain ⟨hI_N_31, hG_N_31, q_32c⟩ := q_32
    have hF_N_31 : Fr f_e_write3m M N_31 := Fr.c hF_M hG_N_31 rfl
    rcases q_32c with q_32c | q_32c
    · exfalso; omega
    · exact kx_zret F hQ (by omega) ⟨hI_N_31, hF_N_31, (Or.inr (Or.inr (Or.inr (Or.inr (Or.inr (by omega)))))), (Or.inr ⟨by omega, (funext (fun j => by rw [Fr.e hG_N_31 kd_168 _ rfl]))⟩)⟩ dX12_write_40
abbrev f_e_pour3m : List (Nat × Int) := [(64, 2), (69, -1)]
set_option maxHeartbeats 4000000 in
set_option maxRecDepth 100000 in
theorem e_pour3m (G : KG) (l : Launch) (M : Mem) (a1 : Int) (a2 : Int) (a3 : Int) (a4 : Int) (a5 : Int) (hI_M : Inv true M) (hpre : -2147483648 ≤ a1 ∧ a1 ≤ 2147483647 ∧ -2147483648 ≤ a2 ∧ a2 ≤ 2147483647 ∧ -2147483648 ≤ a3 ∧ a3 ≤ 2147483647 ∧ -2147483648 ≤ a4 ∧ a4 ≤ 2147483647 ∧ -2147483648 ≤ a5 ∧ a5 ≤ 2147483647) : KC true G l yX12_pour cX12_pour 8 (some .boolean) (1, 21) [vR G 163, vI a1, vI a2, vI a3, vI a4, vI a5] M (fun A => kQi true G A (fun (r : Int) (N : Mem) => Inv true N ∧ Fr f_e_pour3m M N ∧ (r ≥ 0 ∧ r ≤ 1) ∧ (PPr r a1 a2 a3 a4 a5 (M 167 a1) (M 167 a3) (M 166 a1) (M 166 a3) ∧ zV2 (M 168) (N 168) (zvp (M 168) (60 * a1 + a2) (60 * a3 + a4) a5) r))) := by
  refine kx_met (lo := [some (vR G 163), some (vI a1), some (vI a2), some (vI a3), some (vI a4), some (vI a5), none, none]) (by decide) (Nat.le_of_ble_eq_true rfl) rfl ?_
  intro X F hQ
  have hF_M : Fr f_e_pour3m M M := Fr.rf _ _
  refine kx_iload_n 1 F 1 dX12_pour_0 rfl rfl rfl ?_
  refine kx_Si 4 F (As := [vI a1]) (st := []) sd_X12_134 (e_X12_isTray G l M a1 hI_M (by omega)) ⟨by decide, by decide⟩ rfl rfl (Nat.le_of_ble_eq_true rfl) dX12_pour_1 rfl ?_
  intro r_1 N_2 q_3
  obtain ⟨rfl, q_3c⟩ := q_3
  rcases q_3c with q_3c | q_3c | q_3c
  · refine kx_if_eq 7 F 28 dX12_pour_4 (by decide) rfl (by omega) (fun h_4 => (by exfalso; omega)) (fun h_4 => ?_)
    refine kx_iload_n 8 F 3 dX12_pour_7 rfl rfl rfl ?_
    refine kx_Si 11 F (As := [vI a3]) (st := []) sd_X12_134 (e_X12_isTray G l M a3 hI_M (by omega)) ⟨by decide, by decide⟩ rfl rfl (Nat.le_of_ble_eq_true rfl) dX12_pour_8 rfl ?_
    intro r_5 N_6 q_7
    obtain ⟨rfl, q_7c⟩ := q_7
    rcases q_7c with q_7c | q_7c | q_7c
    · refine kx_if_eq 14 F 28 dX12_pour_11 (by decide) rfl (by omega) (fun h_8 => (by exfalso; omega)) (fun h_8 => ?_)
      refine kx_iload_n 15 F 2 dX12_pour_14 rfl rfl rfl ?_
      refine kx_if_lt 18 F 28 dX12_pour_15 (by decide) rfl (by omega) (fun h_9 => ?_) (fun h_9 => ?_)
      · refine kx_aload_n 29 F 0 dX12_pour_28 rfl rfl rfl ?_
        refine kx_iconst 30 F dX12_pour_29 rfl ?_
        refine kx_Vi 33 (ci := 0) F (As := [vI 1]) (st := []) vd_X12_130 (c_X12_is G l M 1 hI_M (by omega)) kd_163 rfl rfl rfl ⟨by decide, by decide⟩ rfl rfl (Nat.le_of_ble_eq_true rfl) dX12_pour_30 rfl ?_
        intro r_10 N_11 q_12
        obtain ⟨hI_N_11, hG_N_11, q_12c⟩ := q_12
        have hF_N_11 : Fr f_e_pour3m M N_11 := Fr.c hF_M hG_N_11 rfl
        rcases q_12c with q_12c | q_12c
        · exfalso; omega
        · exact kx_zret F hQ (by omega) ⟨hI_N_11, hF_N_11, (by omega), ⟨(Or.inr ⟨by omega, fun h => by unfold PK at h; omega⟩), (Or.inr ⟨by omega, (funext (fun j => by rw [Fr.e hG_N_11 kd_168 _ rfl]))⟩)⟩⟩ dX12_pour_33
      · refine kx_iload 20 F 4 dX12_pour_18 rfl rfl ?_
        refine kx_if_lt 23 F 28 dX12_pour_20 (by decide) rfl (by omega) (fun h_13 => ?_) (fun h_13 => ?_)
        · refine kx_aload_n 29 F 0 dX12_pour_28 rfl rfl rfl ?_
          refine kx_iconst 30 F dX12_pour_29 rfl ?_
          refine kx_Vi 33 (ci := 0) F (As := [vI 1]) (st := []) vd_X12_130 (c_X12_is G l M 1 hI_M (by omega)) kd_163 rfl rfl rfl ⟨by decide, by decide⟩ rfl rfl (Nat.le_of_ble_eq_true rfl) dX12_pour_30 rfl ?_
          intro r_14 N_15 q_16
          obtain ⟨hI_N_15, hG_N_15, q_16c⟩ := q_16
          have hF_N_15 : Fr f_e_pour3m M N_15 := Fr.c hF_M hG_N_15 rfl
          rcases q_16c with q_16c | q_16c
          · exfalso; omega
          · exact kx_zret F hQ (by omega) ⟨hI_N_15, hF_N_15, (by omega), ⟨(Or.inr ⟨by omega, fun h => by unfold PK at h; omega⟩), (Or.inr ⟨by omega, (funext (fun j => by rw [Fr.e hG_N_15 kd_168 _ rfl]))⟩)⟩⟩ dX12_pour_33
        · refine kx_iload 25 F 5 dX12_pour_23 rfl rfl ?_
          refine kx_if_ge 28 F 34 dX12_pour_25 (by decide) rfl (by omega) (fun h_17 => ?_) (fun h_17 => ?_)
          · refine kx_aload_n 35 F 0 dX12_pour_34 rfl rfl rfl ?_
            refine kx_getr 38 F fl_X12_24 kd_163 rfl rfl (j := 6) rfl dX12_pour_35 (v := 167) (uq_167 (Inv.r hI_M kd_163 rfl 6 rfl rfl)) rfl ?_
            refine kx_iload_n 39 F 1 dX12_pour_38 rfl rfl rfl ?_
            refine kx_iald 40 F kd_167 rfl rfl (by omega) (by decide) dX12_pour_39 (v := (M 167 a1)) rfl rfl ?_
            have h_18 := Inv.g hI_M kd_167 rfl a1 (a := (-1)) (b := 60) rfl rfl
            refine kx_iconst 41 F dX12_pour_40 rfl ?_
            refine kx_icmp_eq 44 F 54 dX12_pour_41 (by decide) rfl (by omega) (by decide) (fun h_19 => ?_) (fun h_19 => ?_)
            · refine kx_aload_n 55 F 0 dX12_pour_54 rfl rfl rfl ?_
              refine kx_iconst 56 F dX12_pour_55 rfl ?_
              refine kx_Vi 59 (ci := 0) F (As := [vI 2]) (st := []) vd_X12_130 (c_X12_is G l M 2 hI_M (by omega)) kd_163 rfl rfl rfl ⟨by decide, by decide⟩ rfl rfl (Nat.le_of_ble_eq_true rfl) dX12_pour_56 rfl ?_
              intro r_20 N_21 q_22
              obtain ⟨hI_N_21, hG_N_21, q_22c⟩ := q_22
              have hF_N_21 : Fr f_e_pour3m M N_21 := Fr.c hF_M hG_N_21 rfl
              rcases q_22c with q_22c | q_22c
              · exfalso; omega
              · exact kx_zret F hQ (by omega) ⟨hI_N_21, hF_N_21, (by omega), ⟨(Or.inr ⟨by omega, fun h => by unfold PK at h; omega⟩), (Or.inr ⟨by omega, (funext (fun j => by rw [Fr.e hG_N_21 kd_168 _ rfl]))⟩)⟩⟩ dX12_pour_59
            · refine kx_aload_n 45 F 0 dX12_pour_44 rfl rfl rfl ?_
              refine kx_getr 48 F fl_X12_24 kd_163 rfl rfl (j := 6) rfl dX12_pour_45 (v := 167) (uq_167 (Inv.r hI_M kd_163 rfl 6 rfl rfl)) rfl ?_
              refine kx_iload_n 49 F 3 dX12_pour_48 rfl rfl rfl ?_
              refine kx_iald 50 F kd_167 rfl rfl (by omega) (by decide) dX12_pour_49 (v := (M 167 a3)) rfl rfl ?_
              have h_23 := Inv.g hI_M kd_167 rfl a3 (a := (-1)) (b := 60) rfl rfl
              refine kx_iconst 51 F dX12_pour_50 rfl ?_
              refine kx_icmp_ne 54 F 60 dX12_pour_51 (by decide) rfl (by omega) (by decide) (fun h_24 => ?_) (fun h_24 => ?_)
              · refine kx_aload_n 61 F 0 dX12_pour_60 rfl rfl rfl ?_
                refine kx_getr 64 F fl_X12_21 kd_163 rfl rfl (j := 5) rfl dX12_pour_61 (v := 166) (uq_166 (Inv.r hI_M kd_163 rfl 5 rfl rfl)) rfl ?_
                refine kx_iload_n 65 F 1 dX12_pour_64 rfl rfl rfl ?_
                refine kx_iald 66 F kd_166 rfl rfl (by omega) (by decide) dX12_pour_65 (v := (M 166 a1)) rfl rfl ?_
                have h_25 := Inv.g hI_M kd_166 rfl a1 (a := 0) (b := 3) rfl rfl
                refine kx_aload_n 67 F 0 dX12_pour_66 rfl rfl rfl ?_
                refine kx_getr 70 F fl_X12_21 kd_163 rfl rfl (j := 5) rfl dX12_pour_67 (v := 166) (uq_166 (Inv.r hI_M kd_163 rfl 5 rfl rfl)) rfl ?_
                refine kx_iload_n 71 F 3 dX12_pour_70 rfl rfl rfl ?_
                refine kx_iald 72 F kd_166 rfl rfl (by omega) (by decide) dX12_pour_71 (v := (M 166 a3)) rfl rfl ?_
                have h_26 := Inv.g hI_M kd_166 rfl a3 (a := 0) (b := 3) rfl rfl
                refine kx_icmp_eq 75 F 82 dX12_pour_72 (by decide) rfl (by omega) (by omega) (fun h_27 => ?_) (fun h_27 => ?_)
                · refine kx_iload 84 F 5 dX12_pour_82 rfl rfl ?_
                  refine kx_aload_n 85 F 0 dX12_pour_84 rfl rfl rfl ?_
                  refine kx_getr 88 F fl_X12_24 kd_163 rfl rfl (j := 6) rfl dX12_pour_85 (v := 167) (uq_167 (Inv.r hI_M kd_163 rfl 6 rfl rfl)) rfl ?_
                  refine kx_iload_n 89 F 1 dX12_pour_88 rfl rfl rfl ?_
                  refine kx_iald 90 F kd_167 rfl rfl (by omega) (by decide) dX12_pour_89 (v := (M 167 a1)) rfl rfl ?_
                  refine kx_iload_n 91 F 2 dX12_pour_90 rfl rfl rfl ?_
                  refine kx_isub 92 F (v := (M 167 a1) - a2) dX12_pour_91 rfl rfl ?_
                  refine kx_icmp_gt 95 F 109 dX12_pour_92 (by decide) rfl (by omega) (by omega) (fun h_28 => ?_) (fun h_28 => ?_)
                  · refine kx_aload_n 110 F 0 dX12_pour_109 rfl rfl rfl ?_
                    refine kx_iconst 111 F dX12_pour_110 rfl ?_
                    refine kx_Vi 114 (ci := 0) F (As := [vI 3]) (st := []) vd_X12_130 (c_X12_is G l M 3 hI_M (by omega)) kd_163 rfl rfl rfl ⟨by decide, by decide⟩ rfl rfl (Nat.le_of_ble_eq_true rfl) dX12_pour_111 rfl ?_
                    intro r_29 N_30 q_31
                    obtain ⟨hI_N_30, hG_N_30, q_31c⟩ := q_31
                    have hF_N_30 : Fr f_e_pour3m M N_30 := Fr.c hF_M hG_N_30 rfl
                    rcases q_31c with q_31c | q_31c
                    · exfalso; omega
                    · exact kx_zret F hQ (by omega) ⟨hI_N_30, hF_N_30, (by omega), ⟨(Or.inr ⟨by omega, fun h => by unfold PK at h; omega⟩), (Or.inr ⟨by omega, (funext (fun j => by rw [Fr.e hG_N_30 kd_168 _ rfl]))⟩)⟩⟩ dX12_pour_114
                  · refine kx_iload 97 F 5 dX12_pour_95 rfl rfl ?_
                    refine kx_aload_n 98 F 0 dX12_pour_97 rfl rfl rfl ?_
                    refine kx_getr 101 F fl_X12_24 kd_163 rfl rfl (j := 6) rfl dX12_pour_98 (v := 167) (uq_167 (Inv.r hI_M kd_163 rfl 6 rfl rfl)) rfl ?_
                    refine kx_iload_n 102 F 3 dX12_pour_101 rfl rfl rfl ?_
                    refine kx_iald 103 F kd_167 rfl rfl (by omega) (by decide) dX12_pour_102 (v := (M 167 a3)) rfl rfl ?_
                    refine kx_iload 105 F 4 dX12_pour_103 rfl rfl ?_
                    refine kx_isub 106 F (v := (M 167 a3) - a4) dX12_pour_105 rfl rfl ?_
                    refine kx_icmp_le 109 F 115 dX12_pour_106 (by decide) rfl (by omega) (by omega) (fun h_32 => ?_) (fun h_32 => ?_)
                    · refine kx_iconst 116 F dX12_pour_115 rfl ?_
                      refine kx_istore 118 F 6 (lo' := [some (vR G 163), some (vI a1), some (vI a2), some (vI a3), some (vI a4), some (vI a5), some (vI 0), none]) dX12_pour_116 (by decide) rfl rfl rfl ?_
                      have L_112 : ∀ (n_113 : Nat) (x6_110 : Int) (N_111 : Mem), Inv true N_111 → Fr f_e_pour3m M N_111 → zPI N_111 M 168 (60 * a1 + a2) (60 * a3 + a4) a5 x6_110 a2 a4 → 0 ≤ x6_110 ∧ x6_110 ≤ 60 ∧ x6_110 ≤ a5 → (60 - (x6_110)).toNat = n_113 → KJ true G X N_111 118 [some (vR G 163), some (vI a1), some (vI a2), some (vI a3), some (vI a4), some (vI a5), some (vI x6_110), none] [] := by
                        intro n_113
                        refine Nat.strongRecOn n_113 ?_
                        intro n_113 ih_114 x6_110 N_111 hI_N_111 hF_N_111 hp_117 h_115 hm_116
                        refine kx_iload 120 F 6 dX12_pour_118 rfl rfl ?_
                        refine kx_iload 122 F 5 dX12_pour_120 rfl rfl ?_
                        refine kx_icmp_ge 125 F 180 dX12_pour_122 (by decide) rfl (by omega) (by omega) (fun h_118 => ?_) (fun h_118 => ?_)
                        · refine kx_aload_n 181 F 0 dX12_pour_180 rfl rfl rfl ?_
                          refine kx_iconst 182 F dX12_pour_181 rfl ?_
                          refine kx_Vi 185 (ci := 0) F (As := [vI 0]) (st := []) vd_X12_130 (c_X12_is G l N_111 0 hI_N_111 (by omega)) kd_163 rfl rfl rfl ⟨by decide, by decide⟩ rfl rfl (Nat.le_of_ble_eq_true rfl) dX12_pour_182 rfl ?_
                          intro r_119 N_120 q_121
                          obtain ⟨hI_N_120, hG_N_120, q_121c⟩ := q_121
                          have hF_N_120 : Fr f_e_pour3m M N_120 := Fr.c hF_N_111 hG_N_120 rfl
                          rcases q_121c with q_121c | q_121c
                          · exact kx_zret F hQ (by omega) ⟨hI_N_120, hF_N_120, (by omega), ⟨(Or.inl ⟨by omega, by omega, by omega, by omega, by omega, by omega, by omega, by omega, by omega, by omega, by omega, by omega, by omega, by omega, by omega⟩), (Or.inl ⟨by omega, ((funext (fun j => by rw [Fr.e hG_N_120 kd_168 _ rfl])).trans (zPI.f hp_117 (by omega)))⟩)⟩⟩ dX12_pour_185
                          · exfalso; omega
                        · refine kx_iload_n 126 F 2 dX12_pour_125 rfl rfl rfl ?_
                          refine kx_iload 128 F 4 dX12_pour_126 rfl rfl ?_
                          refine kx_icmp_ge 131 F 141 dX12_pour_128 (by decide) rfl (by omega) (by omega) (fun h_122 => ?_) (fun h_122 => ?_)
                          · refine kx_iload 143 F 6 dX12_pour_141 rfl rfl ?_
                            refine kx_istore 145 F 7 (lo' := [some (vR G 163), some (vI a1), some (vI a2), some (vI a3), some (vI a4), some (vI a5), some (vI x6_110), some (vI x6_110)]) dX12_pour_143 (by decide) rfl rfl rfl ?_
                            refine kx_aload_n 146 F 0 dX12_pour_145 rfl rfl rfl ?_
                            refine kx_getr 149 F fl_X12_27 kd_163 rfl rfl (j := 7) rfl dX12_pour_146 (v := 168) (uq_168 (Inv.r hI_N_111 kd_163 rfl 7 rfl rfl)) rfl ?_
                            refine kx_bipush 151 F dX12_pour_149 (by decide) rfl ?_
                            refine kx_iload_n 152 F 3 dX12_pour_151 rfl rfl rfl ?_
                            refine kx_imul 153 F (v := 60 * a3) dX12_pour_152 (by omega) rfl ?_
                            refine kx_iload 155 F 4 dX12_pour_153 rfl rfl ?_
                            refine kx_iadd 156 F (v := 60 * a3 + a4) dX12_pour_155 rfl rfl ?_
                            refine kx_iload 158 F 7 dX12_pour_156 rfl rfl ?_
                            refine kx_iadd 159 F (v := 60 * a3 + a4 + x6_110) dX12_pour_158 rfl rfl ?_
                            refine kx_aload_n 160 F 0 dX12_pour_159 rfl rfl rfl ?_
                            refine kx_getr 163 F fl_X12_27 kd_163 rfl rfl (j := 7) rfl dX12_pour_160 (v := 168) (uq_168 (Inv.r hI_N_111 kd_163 rfl 7 rfl rfl)) rfl ?_
                            refine kx_bipush 165 F dX12_pour_163 (by decide) rfl ?_
                            refine kx_iload_n 166 F 1 dX12_pour_165 rfl rfl rfl ?_
                            refine kx_imul 167 F (v := 60 * a1) dX12_pour_166 (by omega) rfl ?_
                            refine kx_iload_n 168 F 2 dX12_pour_167 rfl rfl rfl ?_
                            refine kx_iadd 169 F (v := 60 * a1 + a2) dX12_pour_168 rfl rfl ?_
                            refine kx_iload 171 F 7 dX12_pour_169 rfl rfl ?_
                            refine kx_iadd 172 F (v := 60 * a1 + a2 + x6_110) dX12_pour_171 rfl rfl ?_
                            refine kx_lald 173 F kd_168 rfl rfl (by omega) (by decide) dX12_pour_172 (v := (N_111 168 (60 * a1 + a2 + x6_110))) rfl rfl ?_
                            have h_123 := Inv.g hI_N_111 kd_168 rfl (60 * a1 + a2 + x6_110) (a := (-9223372036854775808)) (b := 9223372036854775807) rfl rfl
                            refine kx_last 174 F kd_168 rfl rfl (by omega) (by decide) dX12_pour_173 rfl ?_
                            intro N_124 hM_N_124
                            have hI_N_124 : Inv true N_124 := Inv.u hI_N_111 hM_N_124 kd_168 (a := (-9223372036854775808)) (b := 9223372036854775807) rfl rfl rfl (by omega)
                            have hF_N_124 : Fr f_e_pour3m M N_124 := Fr.u hF_N_111 hM_N_124 kd_168 rfl
                            refine kx_iinc 177 F 6 (v := x6_110 + 1) (lo' := [some (vR G 163), some (vI a1), some (vI a2), some (vI a3), some (vI a4), some (vI a5), some (vI (x6_110 + 1)), some (vI x6_110)]) dX12_pour_174 rfl (by omega) (by decide) rfl rfl rfl ?_
                            refine kx_goto 118 F dX12_pour_177 (by decide) ?_
                            refine kx_drop 7 (lo' := [some (vR G 163), some (vI a1), some (vI a2), some (vI a3), some (vI a4), some (vI a5), some (vI (x6_110 + 1)), none]) rfl ?_
                            exact ih_114 _ (by omega) (x6_110 + 1) N_124 hI_N_124 hF_N_124 (zPI.sf hp_117 (by omega) (by omega) (by omega) (by omega) (k2 := 60 * a1 + a2 + x6_110) (by omega) (by omega) hM_N_124) (by omega) rfl
                          · refine kx_iload 133 F 5 dX12_pour_131 rfl rfl ?_
                            refine kx_iconst 134 F dX12_pour_133 rfl ?_
                            refine kx_isub 135 F (v := a5 - 1) dX12_pour_134 rfl rfl ?_
                            refine kx_iload 137 F 6 dX12_pour_135 rfl rfl ?_
                            refine kx_isub 138 F (v := a5 - x6_110 - 1) dX12_pour_137 (by omega) rfl ?_
                            refine kx_goto 143 F dX12_pour_138 (by decide) ?_
                            refine kx_istore 145 F 7 (lo' := [some (vR G 163), some (vI a1), some (vI a2), some (vI a3), some (vI a4), some (vI a5), some (vI x6_110), some (vI (a5 - x6_110 - 1))]) dX12_pour_143 (by decide) rfl rfl rfl ?_
                            refine kx_aload_n 146 F 0 dX12_pour_145 rfl rfl rfl ?_
                            refine kx_getr 149 F fl_X12_27 kd_163 rfl rfl (j := 7) rfl dX12_pour_146 (v := 168) (uq_168 (Inv.r hI_N_111 kd_163 rfl 7 rfl rfl)) rfl ?_
                            refine kx_bipush 151 F dX12_pour_149 (by decide) rfl ?_
                            refine kx_iload_n 152 F 3 dX12_pour_151 rfl rfl rfl ?_
                            refine kx_imul 153 F (v := 60 * a3) dX12_pour_152 (by omega) rfl ?_
                            refine kx_iload 155 F 4 dX12_pour_153 rfl rfl ?_
                            refine kx_iadd 156 F (v := 60 * a3 + a4) dX12_pour_155 rfl rfl ?_
                            refine kx_iload 158 F 7 dX12_pour_156 rfl rfl ?_
                            refine kx_iadd 159 F (v := 60 * a3 + a4 + a5 - x6_110 - 1) dX12_pour_158 (by omega) rfl ?_
                            refine kx_aload_n 160 F 0 dX12_pour_159 rfl rfl rfl ?_
                            refine kx_getr 163 F fl_X12_27 kd_163 rfl rfl (j := 7) rfl dX12_pour_160 (v := 168) (uq_168 (Inv.r hI_N_111 kd_163 rfl 7 rfl rfl)) rfl ?_
                            refine kx_bipush 165 F dX12_pour_163 (by decide) rfl ?_
                            refine kx_iload_n 166 F 1 dX12_pour_165 rfl rfl rfl ?_
                            refine kx_imul 167 F (v := 60 * a1) dX12_pour_166 (by omega) rfl ?_
                            refine kx_iload_n 168 F 2 dX12_pour_167 rfl rfl rfl ?_
                            refine kx_iadd 169 F (v := 60 * a1 + a2) dX12_pour_168 rfl rfl ?_
                            refine kx_iload 171 F 7 dX12_pour_169 rfl rfl ?_
                            refine kx_iadd 172 F (v := 60 * a1 + a2 + a5 - x6_110 - 1) dX12_pour_171 (by omega) rfl ?_
                            refine kx_lald 173 F kd_168 rfl rfl (by omega) (by decide) dX12_pour_172 (v := (N_111 168 (60 * a1 + a2 + a5 - x6_110 - 1))) rfl rfl ?_
                            have h_125 := Inv.g hI_N_111 kd_168 rfl (60 * a1 + a2 + a5 - x6_110 - 1) (a := (-9223372036854775808)) (b := 9223372036854775807) rfl rfl
                            refine kx_last 174 F kd_168 rfl rfl (by omega) (by decide) dX12_pour_173 rfl ?_
                            intro N_126 hM_N_126
                            have hI_N_126 : Inv true N_126 := Inv.u hI_N_111 hM_N_126 kd_168 (a := (-9223372036854775808)) (b := 9223372036854775807) rfl rfl rfl (by omega)
                            have hF_N_126 : Fr f_e_pour3m M N_126 := Fr.u hF_N_111 hM_N_126 kd_168 rfl
                            refine kx_iinc 177 F 6 (v := x6_110 + 1) (lo' := [some (vR G 163), some (vI a1), some (vI a2), some (vI a3), some (vI a4), some (vI a5), some (vI (x6_110 + 1)), some (vI (a5 - x6_110 - 1))]) dX12_pour_174 rfl (by omega) (by decide) rfl rfl rfl ?_
                            refine kx_goto 118 F dX12_pour_177 (by decide) ?_
                            refine kx_drop 7 (lo' := [some (vR G 163), some (vI a1), some (vI a2), some (vI a3), some (vI a4), some (vI a5), some (vI (x6_110 + 1)), none]) rfl ?_
                            exact ih_114 _ (by omega) (x6_110 + 1) N_126 hI_N_126 hF_N_126 (zPI.sb hp_117 (by omega) (by omega) (by omega) (by omega) (k2 := 60 * a1 + a2 + a5 - x6_110 - 1) (by omega) (by omega) hM_N_126) (by omega) rfl
                      exact L_112 _ 0 M hI_M hF_M (zPI.nil rfl) (by omega) rfl
                    · refine kx_aload_n 110 F 0 dX12_pour_109 rfl rfl rfl ?_
                      refine kx_iconst 111 F dX12_pour_110 rfl ?_
                      refine kx_Vi 114 (ci := 0) F (As := [vI 3]) (st := []) vd_X12_130 (c_X12_is G l M 3 hI_M (by omega)) kd_163 rfl rfl rfl ⟨by decide, by decide⟩ rfl rfl (Nat.le_of_ble_eq_true rfl) dX12_pour_111 rfl ?_
                      intro r_127 N_128 q_129
                      obtain ⟨hI_N_128, hG_N_128, q_129c⟩ := q_129
                      have hF_N_128 : Fr f_e_pour3m M N_128 := Fr.c hF_M hG_N_128 rfl
                      rcases q_129c with q_129c | q_129c
                      · exfalso; omega
                      · exact kx_zret F hQ (by omega) ⟨hI_N_128, hF_N_128, (by omega), ⟨(Or.inr ⟨by omega, fun h => by unfold PK at h; omega⟩), (Or.inr ⟨by omega, (funext (fun j => by rw [Fr.e hG_N_128 kd_168 _ rfl]))⟩)⟩⟩ dX12_pour_114
                · refine kx_aload_n 76 F 0 dX12_pour_75 rfl rfl rfl ?_
                  refine kx_bipush 78 F dX12_pour_76 (by decide) rfl ?_
                  refine kx_Vi 81 (ci := 0) F (As := [vI 8]) (st := []) vd_X12_130 (c_X12_is G l M 8 hI_M (by omega)) kd_163 rfl rfl rfl ⟨by decide, by decide⟩ rfl rfl (Nat.le_of_ble_eq_true rfl) dX12_pour_78 rfl ?_
                  intro r_130 N_131 q_132
                  obtain ⟨hI_N_131, hG_N_131, q_132c⟩ := q_132
                  have hF_N_131 : Fr f_e_pour3m M N_131 := Fr.c hF_M hG_N_131 rfl
                  rcases q_132c with q_132c | q_132c
                  · exfalso; omega
                  · exact kx_zret F hQ (by omega) ⟨hI_N_131, hF_N_131, (by omega), ⟨(Or.inr ⟨by omega, fun h => by unfold PK at h; omega⟩), (Or.inr ⟨by omega, (funext (fun j => by rw [Fr.e hG_N_131 kd_168 _ rfl]))⟩)⟩⟩ dX12_pour_81
              · refine kx_aload_n 55 F 0 dX12_pour_54 rfl rfl rfl ?_
                refine kx_iconst 56 F dX12_pour_55 rfl ?_
                refine kx_Vi 59 (ci := 0) F (As := [vI 2]) (st := []) vd_X12_130 (c_X12_is G l M 2 hI_M (by omega)) kd_163 rfl rfl rfl ⟨by decide, by decide⟩ rfl rfl (Nat.le_of_ble_eq_true rfl) dX12_pour_56 rfl ?_
                intro r_133 N_134 q_135
                obtain ⟨hI_N_134, hG_N_134, q_135c⟩ := q_135
                have hF_N_134 : Fr f_e_pour3m M N_134 := Fr.c hF_M hG_N_134 rfl
                rcases q_135c with q_135c | q_135c
                · exfalso; omega
                · exact kx_zret F hQ (by omega) ⟨hI_N_134, hF_N_134, (by omega), ⟨(Or.inr ⟨by omega, fun h => by unfold PK at h; omega⟩), (Or.inr ⟨by omega, (funext (fun j => by rw [Fr.e hG_N_134 kd_168 _ rfl]))⟩)⟩⟩ dX12_pour_59
          · refine kx_aload_n 29 F 0 dX12_pour_28 rfl rfl rfl ?_
            refine kx_iconst 30 F dX12_pour_29 rfl ?_
            refine kx_Vi 33 (ci := 0) F (As := [vI 1]) (st := []) vd_X12_130 (c_X12_is G l M 1 hI_M (by omega)) kd_163 rfl rfl rfl ⟨by decide, by decide⟩ rfl rfl (Nat.le_of_ble_eq_true rfl) dX12_pour_30 rfl ?_
            intro r_136 N_137 q_138
            obtain ⟨hI_N_137, hG_N_137, q_138c⟩ := q_138
            have hF_N_137 : Fr f_e_pour3m M N_137 := Fr.c hF_M hG_N_137 rfl
            rcases q_138c with q_138c | q_138c
            · exfalso; omega
            · exact kx_zret F hQ (by omega) ⟨hI_N_137, hF_N_137, (by omega), ⟨(Or.inr ⟨by omega, fun h => by unfold PK at h; omega⟩), (Or.inr ⟨by omega, (funext (fun j => by rw [Fr.e hG_N_137 kd_168 _ rfl]))⟩)⟩⟩ dX12_pour_33
    · refine kx_if_eq 14 F 28 dX12_pour_11 (by decide) rfl (by omega) (fun h_139 => ?_) (fun h_139 => (by exfalso; omega))
      refine kx_aload_n 29 F 0 dX12_pour_28 rfl rfl rfl ?_
      refine kx_iconst 30 F dX12_pour_29 rfl ?_
      refine kx_Vi 33 (ci := 0) F (As := [vI 1]) (st := []) vd_X12_130 (c_X12_is G l M 1 hI_M (by omega)) kd_163 rfl rfl rfl ⟨by decide, by decide⟩ rfl rfl (Nat.le_of_ble_eq_true rfl) dX12_pour_30 rfl ?_
      intro r_140 N_141 q_142
      obtain ⟨hI_N_141, hG_N_141, q_142c⟩ := q_142
      have hF_N_141 : Fr f_e_pour3m M N_141 := Fr.c hF_M hG_N_141 rfl
      rcases q_142c with q_142c | q_142c
      · exfalso; omega
      · exact kx_zret F hQ (by omega) ⟨hI_N_141, hF_N_141, (by omega), ⟨(Or.inr ⟨by omega, fun h => by unfold PK at h; omega⟩), (Or.inr ⟨by omega, (funext (fun j => by rw [Fr.e hG_N_141 kd_168 _ rfl]))⟩)⟩⟩ dX12_pour_33
    · refine kx_if_eq 14 F 28 dX12_pour_11 (by decide) rfl (by omega) (fun h_143 => ?_) (fun h_143 => (by exfalso; omega))
      refine kx_aload_n 29 F 0 dX12_pour_28 rfl rfl rfl ?_
      refine kx_iconst 30 F dX12_pour_29 rfl ?_
      refine kx_Vi 33 (ci := 0) F (As := [vI 1]) (st := []) vd_X12_130 (c_X12_is G l M 1 hI_M (by omega)) kd_163 rfl rfl rfl ⟨by decide, by decide⟩ rfl rfl (Nat.le_of_ble_eq_true rfl) dX12_pour_30 rfl ?_
      intro r_144 N_145 q_146
      obtain ⟨hI_N_145, hG_N_145, q_146c⟩ := q_146
      have hF_N_145 : Fr f_e_pour3m M N_145 := Fr.c hF_M hG_N_145 rfl
      rcases q_146c with q_146c | q_146c
      · exfalso; omega
      · exact kx_zret F hQ (by omega) ⟨hI_N_145, hF_N_145, (by omega), ⟨(Or.inr ⟨by omega, fun h => by unfold PK at h; omega⟩), (Or.inr ⟨by omega, (funext (fun j => by rw [Fr.e hG_N_145 kd_168 _ rfl]))⟩)⟩⟩ dX12_pour_33
  · refine kx_if_eq 7 F 28 dX12_pour_4 (by decide) rfl (by omega) (fun h_147 => ?_) (fun h_147 => (by exfalso; omega))
    refine kx_aload_n 29 F 0 dX12_pour_28 rfl rfl rfl ?_
    refine kx_iconst 30 F dX12_pour_29 rfl ?_
    refine kx_Vi 33 (ci := 0) F (As := [vI 1]) (st := []) vd_X12_130 (c_X12_is G l M 1 hI_M (by omega)) kd_163 rfl rfl rfl ⟨by decide, by decide⟩ rfl rfl (Nat.le_of_ble_eq_true rfl) dX12_pour_30 rfl ?_
    intro r_148 N_149 q_150
    obtain ⟨hI_N_149, hG_N_149, q_150c⟩ := q_150
    have hF_N_149 : Fr f_e_pour3m M N_149 := Fr.c hF_M hG_N_149 rfl
    rcases q_150c with q_150c | q_150c
    · exfalso; omega
    · exact kx_zret F hQ (by omega) ⟨hI_N_149, hF_N_149, (by omega), ⟨(Or.inr ⟨by omega, fun h => by unfold PK at h; omega⟩), (Or.inr ⟨by omega, (funext (fun j => by rw [Fr.e hG_N_149 kd_168 _ rfl]))⟩)⟩⟩ dX12_pour_33
  · refine kx_if_eq 7 F 28 dX12_pour_4 (by decide) rfl (by omega) (fun h_151 => ?_) (fun h_151 => (by exfalso; omega))
    refine kx_aload_n 29 F 0 dX12_pour_28 rfl rfl rfl ?_
    refine kx_iconst 30 F dX12_pour_29 rfl ?_
    refine kx_Vi 33 (ci := 0) F (As := [vI 1]) (st := []) vd_X12_130 (c_X12_is G l M 1 hI_M (by omega)) kd_163 rfl rfl rfl ⟨by decide, by decide⟩ rfl rfl (Nat.le_of_ble_eq_true rfl) dX12_pour_30 rfl ?_
    intro r_152 N_153 q_154
    obtain ⟨hI_N_153, hG_N_153, q_154c⟩ := q_154
    have hF_N_153 : Fr f_e_pour3m M N_153 := Fr.c hF_M hG_N_153 rfl
    rcases q_154c with q_154c | q_154c
    · exfalso; omega
    · exact kx_zret F hQ (by omega) ⟨hI_N_153, hF_N_153, (by omega), ⟨(Or.inr ⟨by omega, fun h => by unfold PK at h; omega⟩), (Or.inr ⟨by omega, (funext (fun j => by rw [Fr.e hG_N_153 kd_168 _ rfl]))⟩)⟩⟩ dX12_pour_33
abbrev f_e_read3m : List (Nat × Int) := [(64, 2)]
set_option maxHeartbeats 4000000 in
set_option maxRecDepth 100000 in
theorem e_read3m (G : KG) (l : Launch) (M : Mem) (a1 : Int) (a2 : Int) (hI_M : Inv true M) (hpre : -2147483648 ≤ a1 ∧ a1 ≤ 2147483647 ∧ -2147483648 ≤ a2 ∧ a2 ≤ 2147483647) : KC true G l yX12_read cX12_read 3 (some .long) (2, 42) [vR G 163, vI a1, vI a2] M (fun A => kQl true G A (fun (r : Int) (N : Mem) => Inv true N ∧ Fr f_e_read3m M N ∧ (r ≥ -9223372036854775808 ∧ r ≤ 9223372036854775807) ∧ (zRD (M 168) a1 a2 (M 167 a1) r))) := by
  refine kx_met (lo := [some (vR G 163), some (vI a1), some (vI a2)]) (by decide) (Nat.le_of_ble_eq_true rfl) rfl ?_
  intro X F hQ
  have hF_M : Fr f_e_read3m M M := Fr.rf _ _
  refine kx_aload_n 1 F 0 dX12_read_0 rfl rfl rfl ?_
  refine kx_aload_n 2 F 0 dX12_read_1 rfl rfl rfl ?_
  refine kx_iload_n 3 F 1 dX12_read_2 rfl rfl rfl ?_
  refine kx_iload_n 4 F 2 dX12_read_3 rfl rfl rfl ?_
  refine kx_Vi 7 (ci := 0) F (As := [vI a1, vI a2]) (st := [vR G 163]) vd_X12_137 (e_X12_wrongPlace G l M a1 a2 hI_M (by omega)) kd_163 rfl rfl rfl ⟨by decide, by decide⟩ rfl rfl (Nat.le_of_ble_eq_true rfl) dX12_read_4 rfl ?_
  intro r_1 N_2 q_3
  obtain ⟨rfl, q_3c⟩ := q_3
  rcases q_3c with q_3c | q_3c | q_3c | q_3c | q_3c | q_3c
  · refine kx_puti 10 F fw_X12_117 rfl kd_163 rfl rfl (j := 2) rfl dX12_read_7 rfl ?_
    intro N_4 hM_N_4
    have hI_N_4 : Inv true N_4 := Inv.u hI_M hM_N_4 kd_163 (a := (-2147483648)) (b := 2147483647) rfl rfl rfl (by omega)
    have hF_N_4 : Fr f_e_read3m M N_4 := Fr.u hF_M hM_N_4 kd_163 rfl
    refine kx_aload_n 11 F 0 dX12_read_10 rfl rfl rfl ?_
    refine kx_geti 14 F fl_X12_117 kd_163 rfl rfl (j := 2) rfl dX12_read_11 (v := r_1) (by rw [hM_N_4, mu_s]) rfl ?_
    refine kx_if_le 17 F 23 dX12_read_14 (by decide) rfl (by omega) (fun h_5 => ?_) (fun h_5 => (by exfalso; omega))
    refine kx_aload_n 24 F 0 dX12_read_23 rfl rfl rfl ?_
    refine kx_getr 27 F fl_X12_27 kd_163 rfl rfl (j := 7) rfl dX12_read_24 (v := 168) (uq_168 (Inv.r hI_N_4 kd_163 rfl 7 rfl rfl)) rfl ?_
    refine kx_bipush 29 F dX12_read_27 (by decide) rfl ?_
    refine kx_iload_n 30 F 1 dX12_read_29 rfl rfl rfl ?_
    refine kx_imul 31 F (v := 60 * a1) dX12_read_30 (by omega) rfl ?_
    refine kx_iload_n 32 F 2 dX12_read_31 rfl rfl rfl ?_
    refine kx_iadd 33 F (v := 60 * a1 + a2) dX12_read_32 rfl rfl ?_
    refine kx_lald 34 F kd_168 rfl rfl (by omega) (by decide) dX12_read_33 (v := (M 168 (60 * a1 + a2))) (by rw [hM_N_4, mu_k kd_168 kd_163 rfl]) rfl ?_
    have h_6 := Inv.g hI_M kd_168 rfl (60 * a1 + a2) (a := (-9223372036854775808)) (b := 9223372036854775807) rfl rfl
    exact kx_lret F hQ ⟨hI_N_4, hF_N_4, (by omega), (Or.inl ⟨by omega, by omega⟩)⟩ dX12_read_34
  · refine kx_puti 10 F fw_X12_117 rfl kd_163 rfl rfl (j := 2) rfl dX12_read_7 rfl ?_
    intro N_7 hM_N_7
    have hI_N_7 : Inv true N_7 := Inv.u hI_M hM_N_7 kd_163 (a := (-2147483648)) (b := 2147483647) rfl rfl rfl (by omega)
    have hF_N_7 : Fr f_e_read3m M N_7 := Fr.u hF_M hM_N_7 kd_163 rfl
    refine kx_aload_n 11 F 0 dX12_read_10 rfl rfl rfl ?_
    refine kx_geti 14 F fl_X12_117 kd_163 rfl rfl (j := 2) rfl dX12_read_11 (v := r_1) (by rw [hM_N_7, mu_s]) rfl ?_
    refine kx_if_le 17 F 23 dX12_read_14 (by decide) rfl (by omega) (fun h_8 => (by exfalso; omega)) (fun h_8 => ?_)
    refine kx_ldc2 20 (z := (-1)) F dX12_read_17 ct_X12_145 rfl ?_
    refine kx_goto 34 F dX12_read_20 (by decide) ?_
    exact kx_lret F hQ ⟨hI_N_7, hF_N_7, (by omega), (Or.inr ⟨fun h => by omega, by omega⟩)⟩ dX12_read_34
  · refine kx_puti 10 F fw_X12_117 rfl kd_163 rfl rfl (j := 2) rfl dX12_read_7 rfl ?_
    intro N_9 hM_N_9
    have hI_N_9 : Inv true N_9 := Inv.u hI_M hM_N_9 kd_163 (a := (-2147483648)) (b := 2147483647) rfl rfl rfl (by omega)
    have hF_N_9 : Fr f_e_read3m M N_9 := Fr.u hF_M hM_N_9 kd_163 rfl
    refine kx_aload_n 11 F 0 dX12_read_10 rfl rfl rfl ?_
    refine kx_geti 14 F fl_X12_117 kd_163 rfl rfl (j := 2) rfl dX12_read_11 (v := r_1) (by rw [hM_N_9, mu_s]) rfl ?_
    refine kx_if_le 17 F 23 dX12_read_14 (by decide) rfl (by omega) (fun h_10 => (by exfalso; omega)) (fun h_10 => ?_)
    refine kx_ldc2 20 (z := (-1)) F dX12_read_17 ct_X12_145 rfl ?_
    refine kx_goto 34 F dX12_read_20 (by decide) ?_
    exact kx_lret F hQ ⟨hI_N_9, hF_N_9, (by omega), (Or.inr ⟨fun h => by omega, by omega⟩)⟩ dX12_read_34
  · refine kx_puti 10 F fw_X12_117 rfl kd_163 rfl rfl (j := 2) rfl dX12_read_7 rfl ?_
    intro N_11 hM_N_11
    have hI_N_11 : Inv true N_11 := Inv.u hI_M hM_N_11 kd_163 (a := (-2147483648)) (b := 2147483647) rfl rfl rfl (by omega)
    have hF_N_11 : Fr f_e_read3m M N_11 := Fr.u hF_M hM_N_11 kd_163 rfl
    refine kx_aload_n 11 F 0 dX12_read_10 rfl rfl rfl ?_
    refine kx_geti 14 F fl_X12_117 kd_163 rfl rfl (j := 2) rfl dX12_read_11 (v := r_1) (by rw [hM_N_11, mu_s]) rfl ?_
    refine kx_if_le 17 F 23 dX12_read_14 (by decide) rfl (by omega) (fun h_12 => (by exfalso; omega)) (fun h_12 => ?_)
    refine kx_ldc2 20 (z := (-1)) F dX12_read_17 ct_X12_145 rfl ?_
    refine kx_goto 34 F dX12_read_20 (by decide) ?_
    exact kx_lret F hQ ⟨hI_N_11, hF_N_11, (by omega), (Or.inr ⟨fun h => by omega, by omega⟩)⟩ dX12_read_34
  · refine kx_puti 10 F fw_X12_117 rfl kd_163 rfl rfl (j := 2) rfl dX12_read_7 rfl ?_
    intro N_13 hM_N_13
    have hI_N_13 : Inv true N_13 := Inv.u hI_M hM_N_13 kd_163 (a := (-2147483648)) (b := 2147483647) rfl rfl rfl (by omega)
    have hF_N_13 : Fr f_e_read3m M N_13 := Fr.u hF_M hM_N_13 kd_163 rfl
    refine kx_aload_n 11 F 0 dX12_read_10 rfl rfl rfl ?_
    refine kx_geti 14 F fl_X12_117 kd_163 rfl rfl (j := 2) rfl dX12_read_11 (v := r_1) (by rw [hM_N_13, mu_s]) rfl ?_
    refine kx_if_le 17 F 23 dX12_read_14 (by decide) rfl (by omega) (fun h_14 => (by exfalso; omega)) (fun h_14 => ?_)
    refine kx_ldc2 20 (z := (-1)) F dX12_read_17 ct_X12_145 rfl ?_
    refine kx_goto 34 F dX12_read_20 (by decide) ?_
    exact kx_lret F hQ ⟨hI_N_13, hF_N_13, (by omega), (Or.inr ⟨fun h => by omega, by omega⟩)⟩ dX12_read_34
  · refine kx_puti 10 F fw_X12_117 rfl kd_163 rfl rfl (j := 2) rfl dX12_read_7 rfl ?_
    intro N_15 hM_N_15
    have hI_N_15 : Inv true N_15 := Inv.u hI_M hM_N_15 kd_163 (a := (-2147483648)) (b := 2147483647) rfl rfl rfl (by omega)
    have hF_N_15 : Fr f_e_read3m M N_15 := Fr.u hF_M hM_N_15 kd_163 rfl
    refine kx_aload_n 11 F 0 dX12_read_10 rfl rfl rfl ?_
    refine kx_geti 14 F fl_X12_117 kd_163 rfl rfl (j := 2) rfl dX12_read_11 (v := r_1) (by rw [hM_N_15, mu_s]) rfl ?_
    refine kx_if_le 17 F 23 dX12_read_14 (by decide) rfl (by omega) (fun h_16 => (by exfalso; omega)) (fun h_16 => ?_)
    refine kx_ldc2 20 (z := (-1)) F dX12_read_17 ct_X12_145 rfl ?_
    refine kx_goto 34 F dX12_read_20 (by decide) ?_
    exact kx_lret F hQ ⟨hI_N_15, hF_N_15, (by omega), (Or.inr ⟨fun h => by omega, by omega⟩)⟩ dX12_read_34
set_option maxHeartbeats 4000000 in
set_option maxRecDepth 100000 in
theorem e_isFrom3 (G : KG) (l : Launch) (M : Mem) (a0 : Int) (a1 : Int) (a2 : Int) (hI_M : Inv true M) (hpre : -9223372036854775808 ≤ a0 ∧ a0 ≤ 9223372036854775807 ∧ -9223372036854775808 ≤ a1 ∧ a1 ≤ 9223372036854775807 ∧ -9223372036854775808 ≤ a2 ∧ a2 ≤ 9223372036854775807) : KC true G l yX12_isFrom cX12_isFrom 6 (some .boolean) (0, 0) [vL a0, vL a1, vL a2] M (fun A => kQi true G A (fun (r : Int) (N : Mem) => M = N ∧ ((r = 1 ∧ a1 ≤ a0 ∧ a0 ≤ a2) ∨ (r = 0 ∧ a0 < a1) ∨ (r = 0 ∧ a0 > a2)))) := by
  refine kx_met (lo := [some (vL a0), none, some (vL a1), none, some (vL a2), none]) (by decide) (Nat.le_of_ble_eq_true rfl) rfl ?_
  intro X F hQ
  refine kx_lload_n 1 F 0 dX12_isFrom_0 rfl rfl rfl ?_
  refine kx_lload_n 2 F 2 dX12_isFrom_1 rfl rfl rfl ?_
  refine kx_lcmp 3 F dX12_isFrom_2 (by omega) (by omega) rfl (fun w_1 h_2 => ?_)
  refine kx_if_lt 6 F 17 dX12_isFrom_3 (by decide) rfl (by omega) (fun h_3 => ?_) (fun h_3 => ?_)
  · refine kx_iconst 18 F dX12_isFrom_17 rfl ?_
    exact kx_zret F hQ (by omega) ⟨rfl, (Or.inr (Or.inl (by omega)))⟩ dX12_isFrom_18
  · refine kx_lload_n 7 F 0 dX12_isFrom_6 rfl rfl rfl ?_
    refine kx_lload 9 F 4 dX12_isFrom_7 rfl rfl ?_
    refine kx_lcmp 10 F dX12_isFrom_9 (by omega) (by omega) rfl (fun w_4 h_5 => ?_)
    refine kx_if_gt 13 F 17 dX12_isFrom_10 (by decide) rfl (by omega) (fun h_6 => ?_) (fun h_6 => ?_)
    · refine kx_iconst 18 F dX12_isFrom_17 rfl ?_
      exact kx_zret F hQ (by omega) ⟨rfl, (Or.inr (Or.inr (by omega)))⟩ dX12_isFrom_18
    · refine kx_iconst 14 F dX12_isFrom_13 rfl ?_
      refine kx_goto 18 F dX12_isFrom_14 (by decide) ?_
      exact kx_zret F hQ (by omega) ⟨rfl, (Or.inl (by omega))⟩ dX12_isFrom_18
set_option maxHeartbeats 4000000 in
set_option maxRecDepth 100000 in
theorem e_isWordCall3 (G : KG) (l : Launch) (M : Mem) (a1 : Int) (a2 : Int) (hI_M : Inv true M) (hpre : -2147483648 ≤ a1 ∧ a1 ≤ 2147483647 ∧ -2147483648 ≤ a2 ∧ a2 ≤ 2147483647) : KC true G l yX12_isWordCall cX12_isWordCall 3 (some .boolean) (1, 25) [vR G 163, vI a1, vI a2] M (fun A => kQi true G A (fun (r : Int) (N : Mem) => M = N ∧ ((r = 1 ∧ 0 ≤ a1 ∧ a1 ≤ 3 ∧ 0 ≤ a2 ∧ a2 ≤ 20) ∨ (r = 0 ∧ a1 < 0) ∨ (r = 0 ∧ a1 > 3) ∨ (r = 0 ∧ a2 < 0) ∨ (r = 0 ∧ a2 > 20)))) := by
  refine kx_met (lo := [some (vR G 163), some (vI a1), some (vI a2)]) (by decide) (Nat.le_of_ble_eq_true rfl) rfl ?_
  intro X F hQ
  refine kx_iload_n 1 F 1 dX12_isWordCall_0 rfl rfl rfl ?_
  refine kx_Si 4 F (As := [vI a1]) (st := []) sd_X12_134 (e_X12_isTray G l M a1 hI_M (by omega)) ⟨by decide, by decide⟩ rfl rfl (Nat.le_of_ble_eq_true rfl) dX12_isWordCall_1 rfl ?_
  intro r_1 N_2 q_3
  obtain ⟨rfl, q_3c⟩ := q_3
  rcases q_3c with q_3c | q_3c | q_3c
  · refine kx_if_eq 7 F 23 dX12_isWordCall_4 (by decide) rfl (by omega) (fun h_4 => (by exfalso; omega)) (fun h_4 => ?_)
    refine kx_iload_n 8 F 2 dX12_isWordCall_7 rfl rfl rfl ?_
    refine kx_i2l 9 F dX12_isWordCall_8 (by omega) rfl ?_
    refine kx_lconst 10 (z := 0) F dX12_isWordCall_9 (by decide) rfl ?_
    refine kx_ldc2 13 (z := 20) F dX12_isWordCall_10 ct_X12_356 rfl ?_
    refine kx_Si 16 F (As := [vL a2, vL 0, vL 20]) (st := []) sd_X12_338 (e_isFrom3 G l M a2 0 20 hI_M (by omega)) ⟨by decide, by decide⟩ rfl rfl (Nat.le_of_ble_eq_true rfl) dX12_isWordCall_13 rfl ?_
    intro r_5 N_6 q_7
    obtain ⟨rfl, q_7c⟩ := q_7
    rcases q_7c with q_7c | q_7c | q_7c
    · refine kx_if_eq 19 F 23 dX12_isWordCall_16 (by decide) rfl (by omega) (fun h_8 => (by exfalso; omega)) (fun h_8 => ?_)
      refine kx_iconst 20 F dX12_isWordCall_19 rfl ?_
      refine kx_goto 24 F dX12_isWordCall_20 (by decide) ?_
      exact kx_zret F hQ (by omega) ⟨rfl, (Or.inl (by omega))⟩ dX12_isWordCall_24
    · refine kx_if_eq 19 F 23 dX12_isWordCall_16 (by decide) rfl (by omega) (fun h_9 => ?_) (fun h_9 => (by exfalso; omega))
      refine kx_iconst 24 F dX12_isWordCall_23 rfl ?_
      exact kx_zret F hQ (by omega) ⟨rfl, (Or.inr (Or.inr (Or.inr (Or.inl (by omega)))))⟩ dX12_isWordCall_24
    · refine kx_if_eq 19 F 23 dX12_isWordCall_16 (by decide) rfl (by omega) (fun h_10 => ?_) (fun h_10 => (by exfalso; omega))
      refine kx_iconst 24 F dX12_isWordCall_23 rfl ?_
      exact kx_zret F hQ (by omega) ⟨rfl, (Or.inr (Or.inr (Or.inr (Or.inr (by omega)))))⟩ dX12_isWordCall_24
  · refine kx_if_eq 7 F 23 dX12_isWordCall_4 (by decide) rfl (by omega) (fun h_11 => ?_) (fun h_11 => (by exfalso; omega))
    refine kx_iconst 24 F dX12_isWordCall_23 rfl ?_
    exact kx_zret F hQ (by omega) ⟨rfl, (Or.inr (Or.inl (by omega)))⟩ dX12_isWordCall_24
  · refine kx_if_eq 7 F 23 dX12_isWordCall_4 (by decide) rfl (by omega) (fun h_12 => ?_) (fun h_12 => (by exfalso; omega))
    refine kx_iconst 24 F dX12_isWordCall_23 rfl ?_
    exact kx_zret F hQ (by omega) ⟨rfl, (Or.inr (Or.inr (Or.inl (by omega))))⟩ dX12_isWordCall_24
abbrev f_e_sample3m : List (Nat × Int) := [(64, 2), (64, 49), (69, -1)]
set_option maxHeartbeats 4000000 in
set_option maxRecDepth 100000 in
theorem e_sample3m (G : KG) (l : Launch) (M : Mem) (a1 : Int) (a2 : Int) (a3 : Int) (hI_M : Inv true M) (hpre : -2147483648 ≤ a1 ∧ a1 ≤ 2147483647 ∧ -2147483648 ≤ a2 ∧ a2 ≤ 2147483647 ∧ -2147483648 ≤ a3 ∧ a3 ≤ 2147483647) : KC true G l yX12_sample cX12_sample 5 (some .boolean) (2, 47) [vR G 163, vI a1, vI a2, vI a3] M (fun A => kQi true G A (fun (r : Int) (N : Mem) => Inv true N ∧ Fr f_e_sample3m M N ∧ (r ≥ 0 ∧ r ≤ 1) ∧ (zSM (M 168) (N 168) a1 a2 a3 (M 167 a1) (M 164 0 + M 164 1 + M 164 2) (M 166 a1) r))) := by
  refine kx_met (lo := [some (vR G 163), some (vI a1), some (vI a2), some (vI a3), none]) (by decide) (Nat.le_of_ble_eq_true rfl) rfl ?_
  intro X F hQ
  have hF_M : Fr f_e_sample3m M M := Fr.rf _ _
  have h_1 := Inv.g hI_M kd_164 rfl 0 (a := 0) (b := 2) (at_c 0 0 (o := 0) (lo := 0) (hi := 2) (by omega) (by decide) (by decide) (by decide)).1 (at_c 0 0 (o := 0) (lo := 0) (hi := 2) (by omega) (by decide) (by decide) (by decide)).2
  have h_2 := Inv.g hI_M kd_164 rfl 1 (a := 0) (b := 2) (at_c 1 0 (o := 1) (lo := 0) (hi := 2) (by omega) (by decide) (by decide) (by decide)).1 (at_c 1 0 (o := 1) (lo := 0) (hi := 2) (by omega) (by decide) (by decide) (by decide)).2
  have h_3 := Inv.g hI_M kd_164 rfl 2 (a := 0) (b := 2) (at_c 2 0 (o := 2) (lo := 0) (hi := 2) (by omega) (by decide) (by decide) (by decide)).1 (at_c 2 0 (o := 2) (lo := 0) (hi := 2) (by omega) (by decide) (by decide) (by decide)).2
  refine kx_aload_n 1 F 0 dX12_sample_0 rfl rfl rfl ?_
  refine kx_iload_n 2 F 1 dX12_sample_1 rfl rfl rfl ?_
  refine kx_iload_n 3 F 2 dX12_sample_2 rfl rfl rfl ?_
  refine kx_Vi 6 (ci := 0) F (As := [vI a1, vI a2]) (st := []) vd_X12_358 (e_isWordCall3 G l M a1 a2 hI_M (by omega)) kd_163 rfl rfl rfl ⟨by decide, by decide⟩ rfl rfl (Nat.le_of_ble_eq_true rfl) dX12_sample_3 rfl ?_
  intro r_4 N_5 q_6
  obtain ⟨rfl, q_6c⟩ := q_6
  rcases q_6c with q_6c | q_6c | q_6c | q_6c | q_6c
  · refine kx_if_eq 9 F 21 dX12_sample_6 (by decide) rfl (by omega) (fun h_7 => (by exfalso; omega)) (fun h_7 => ?_)
    refine kx_iload_n 10 F 3 dX12_sample_9 rfl rfl rfl ?_
    refine kx_i2l 11 F dX12_sample_10 (by omega) rfl ?_
    refine kx_lconst 12 (z := 0) F dX12_sample_11 (by decide) rfl ?_
    refine kx_ldc2 15 (z := 9999) F dX12_sample_12 ct_X12_515 rfl ?_
    refine kx_Si 18 F (As := [vL a3, vL 0, vL 9999]) (st := []) sd_X12_338 (e_isFrom3 G l M a3 0 9999 hI_M (by omega)) ⟨by decide, by decide⟩ rfl rfl (Nat.le_of_ble_eq_true rfl) dX12_sample_15 rfl ?_
    intro r_8 N_9 q_10
    obtain ⟨rfl, q_10c⟩ := q_10
    rcases q_10c with q_10c | q_10c | q_10c
    · refine kx_if_ne 21 F 27 dX12_sample_18 (by decide) rfl (by omega) (fun h_11 => ?_) (fun h_11 => (by exfalso; omega))
      refine kx_aload_n 28 F 0 dX12_sample_27 rfl rfl rfl ?_
      refine kx_getr 31 F fl_X12_24 kd_163 rfl rfl (j := 6) rfl dX12_sample_28 (v := 167) (uq_167 (Inv.r hI_M kd_163 rfl 6 rfl rfl)) rfl ?_
      refine kx_iload_n 32 F 1 dX12_sample_31 rfl rfl rfl ?_
      refine kx_iald 33 F kd_167 rfl rfl (by omega) (by decide) dX12_sample_32 (v := (M 167 a1)) rfl rfl ?_
      have h_12 := Inv.g hI_M kd_167 rfl a1 (a := (-1)) (b := 60) rfl rfl
      refine kx_iconst 34 F dX12_sample_33 rfl ?_
      refine kx_icmp_ne 37 F 43 dX12_sample_34 (by decide) rfl (by omega) (by decide) (fun h_13 => ?_) (fun h_13 => ?_)
      · refine kx_aload_n 44 F 0 dX12_sample_43 rfl rfl rfl ?_
        refine kx_getr 47 F fl_X12_24 kd_163 rfl rfl (j := 6) rfl dX12_sample_44 (v := 167) (uq_167 (Inv.r hI_M kd_163 rfl 6 rfl rfl)) rfl ?_
        refine kx_iload_n 48 F 1 dX12_sample_47 rfl rfl rfl ?_
        refine kx_iald 49 F kd_167 rfl rfl (by omega) (by decide) dX12_sample_48 (v := (M 167 a1)) rfl rfl ?_
        refine kx_iload_n 50 F 2 dX12_sample_49 rfl rfl rfl ?_
        refine kx_icmp_ge 53 F 59 dX12_sample_50 (by decide) rfl (by omega) (by omega) (fun h_14 => ?_) (fun h_14 => ?_)
        · refine kx_aload_n 60 F 0 dX12_sample_59 rfl rfl rfl ?_
          refine kx_Vi 63 (ci := 0) F (As := []) (st := []) vd_X12_285 (e_lettersX G l M  hI_M) kd_163 rfl rfl rfl ⟨by decide, by decide⟩ rfl rfl (Nat.le_of_ble_eq_true rfl) dX12_sample_60 rfl ?_
          intro r_15 N_16 q_17
          obtain ⟨rfl, q_17c⟩ := q_17
          refine kx_topi (e' := (M 164 0) + (M 164 1) + (M 164 2)) (by omega) ?_
          refine kx_if_ne 66 F 77 dX12_sample_63 (by decide) rfl (by omega) (fun h_18 => ?_) (fun h_18 => ?_)
          · refine kx_aload_n 78 F 0 dX12_sample_77 rfl rfl rfl ?_
            refine kx_iload_n 79 F 3 dX12_sample_78 rfl rfl rfl ?_
            refine kx_puti 82 F fw_X12_511 rfl kd_163 rfl rfl (j := 49) rfl dX12_sample_79 rfl ?_
            intro N_19 hM_N_19
            have hI_N_19 : Inv true N_19 := Inv.u hI_M hM_N_19 kd_163 (a := 0) (b := 65535) rfl rfl rfl (by omega)
            have hF_N_19 : Fr f_e_sample3m M N_19 := Fr.u hF_M hM_N_19 kd_163 rfl
            refine kx_iconst 83 F dX12_sample_82 rfl ?_
            refine kx_istore 85 F 4 (lo' := [some (vR G 163), some (vI a1), some (vI a2), some (vI a3), some (vI 0)]) dX12_sample_83 (by decide) rfl rfl rfl ?_
            have L_225 : ∀ (n_226 : Nat) (x4_223 : Int) (N_224 : Mem), Inv true N_224 → Fr f_e_sample3m M N_224 → zSI N_224 M 168 (60 * a1) x4_223 a3 (M 164 0 + M 164 1 + M 164 2) (M 166 a1) (N_224 163 49) → 0 ≤ x4_223 ∧ x4_223 ≤ 20 ∧ x4_223 ≤ a2 → (20 - (x4_223)).toNat = n_226 → KJ true G X N_224 85 [some (vR G 163), some (vI a1), some (vI a2), none, some (vI x4_223)] [] := by
              intro n_226
              refine Nat.strongRecOn n_226 ?_
              intro n_226 ih_227 x4_223 N_224 hI_N_224 hF_N_224 hp_230 h_228 hm_229
              refine kx_iload 87 F 4 dX12_sample_85 rfl rfl ?_
              refine kx_iload_n 88 F 2 dX12_sample_87 rfl rfl rfl ?_
              refine kx_icmp_ge 91 F 127 dX12_sample_88 (by decide) rfl (by omega) (by omega) (fun h_231 => ?_) (fun h_231 => ?_)
              · refine kx_aload_n 128 F 0 dX12_sample_127 rfl rfl rfl ?_
                refine kx_iconst 129 F dX12_sample_128 rfl ?_
                refine kx_Vi 132 (ci := 0) F (As := [vI 0]) (st := []) vd_X12_130 (c_X12_is G l N_224 0 hI_N_224 (by omega)) kd_163 rfl rfl rfl ⟨by decide, by decide⟩ rfl rfl (Nat.le_of_ble_eq_true rfl) dX12_sample_129 rfl ?_
                intro r_232 N_233 q_234
                obtain ⟨hI_N_233, hG_N_233, q_234c⟩ := q_234
                have hF_N_233 : Fr f_e_sample3m M N_233 := Fr.c hF_N_224 hG_N_233 rfl
                rcases q_234c with q_234c | q_234c
                · exact kx_zret F hQ (by omega) ⟨hI_N_233, hF_N_233, (by omega), (Or.inl ⟨by omega, ⟨by omega, by omega, by omega, by omega, by omega, by omega, by omega, by omega, by omega⟩, ((funext (fun j => by rw [Fr.e hG_N_233 kd_168 _ rfl])).trans (zSI.f hp_230 (by omega)))⟩)⟩ dX12_sample_132
                · exfalso; omega
              · refine kx_aload_n 92 F 0 dX12_sample_91 rfl rfl rfl ?_
                refine kx_getr 95 F fl_X12_27 kd_163 rfl rfl (j := 7) rfl dX12_sample_92 (v := 168) (uq_168 (Inv.r hI_N_224 kd_163 rfl 7 rfl rfl)) rfl ?_
                refine kx_bipush 97 F dX12_sample_95 (by decide) rfl ?_
                refine kx_iload_n 98 F 1 dX12_sample_97 rfl rfl rfl ?_
                refine kx_imul 99 F (v := 60 * a1) dX12_sample_98 (by omega) rfl ?_
                refine kx_iload 101 F 4 dX12_sample_99 rfl rfl ?_
                refine kx_iadd 102 F (v := 60 * a1 + x4_223) dX12_sample_101 rfl rfl ?_
                refine kx_aload_n 103 F 0 dX12_sample_102 rfl rfl rfl ?_
                refine kx_aload_n 104 F 0 dX12_sample_103 rfl rfl rfl ?_
                refine kx_Vi 107 (ci := 0) F (As := []) (st := [vR G 163, vI (60 * a1 + x4_223), vR G 168]) vd_X12_285 (e_lettersX G l N_224  hI_N_224) kd_163 rfl rfl rfl ⟨by decide, by decide⟩ rfl rfl (Nat.le_of_ble_eq_true rfl) dX12_sample_104 rfl ?_
                intro r_235 N_236 q_237
                obtain ⟨rfl, q_237c⟩ := q_237
                have e_238 : (N_224 164 0) = (M 164 0) := by rw [Fr.e hF_N_224 kd_164 _ rfl]
                have e_239 : (N_224 164 1) = (M 164 1) := by rw [Fr.e hF_N_224 kd_164 _ rfl]
                have e_240 : (N_224 164 2) = (M 164 2) := by rw [Fr.e hF_N_224 kd_164 _ rfl]
                refine kx_topi (e' := (N_224 164 0) + (N_224 164 1) + (N_224 164 2)) (by omega) ?_
                refine kx_Vi 110 (ci := 0) F (As := [vI ((N_224 164 0) + (N_224 164 1) + (N_224 164 2))]) (st := [vI (60 * a1 + x4_223), vR G 168]) vd_X12_517 (e_draw3m G l N_224 ((N_224 164 0) + (N_224 164 1) + (N_224 164 2)) hI_N_224 (by omega)) kd_163 rfl rfl rfl ⟨by decide, by decide⟩ rfl rfl (Nat.le_of_ble_eq_true rfl) dX12_sample_107 rfl ?_
                intro r_250 N_251 q_252
                obtain ⟨hI_N_251, hG_N_251, q_252c, hd_N_251⟩ := q_252
                have hF_N_251 : Fr f_e_sample3m M N_251 := Fr.c hF_N_224 hG_N_251 rfl
                refine kx_i2l 111 F dX12_sample_110 (by omega) rfl ?_
                refine kx_aload_n 112 F 0 dX12_sample_111 rfl rfl rfl ?_
                refine kx_getr 115 F fl_X12_21 kd_163 rfl rfl (j := 5) rfl dX12_sample_112 (v := 166) (uq_166 (Inv.r hI_N_251 kd_163 rfl 5 rfl rfl)) rfl ?_
                refine kx_iload_n 116 F 1 dX12_sample_115 rfl rfl rfl ?_
                refine kx_iald 117 F kd_166 rfl rfl (by omega) (by decide) dX12_sample_116 (v := (M 166 a1)) (by rw [Fr.e hG_N_251 kd_166 _ rfl, Fr.e hF_N_224 kd_166 _ rfl]) rfl ?_
                have h_253 := Inv.g hI_M kd_166 rfl a1 (a := 0) (b := 3) rfl rfl
                refine kx_Sl 120 F (As := [vL r_250, vI (M 166 a1)]) (st := [vI (60 * a1 + x4_223), vR G 168]) sd_X12_141 (e_cut3m G l N_251 r_250 (M 166 a1) hI_N_251 (by omega)) ⟨by decide, by decide⟩ rfl rfl (Nat.le_of_ble_eq_true rfl) dX12_sample_117 rfl ?_
                intro r_254 N_255 q_256
                obtain ⟨rfl, q_256c, hz_N_255⟩ := q_256
                refine kx_last 121 F kd_168 rfl rfl (by omega) (by decide) dX12_sample_120 rfl ?_
                intro N_257 hM_N_257
                have hI_N_257 : Inv true N_257 := Inv.u hI_N_251 hM_N_257 kd_168 (a := (-9223372036854775808)) (b := 9223372036854775807) rfl rfl rfl (by omega)
                have hF_N_257 : Fr f_e_sample3m M N_257 := Fr.u hF_N_251 hM_N_257 kd_168 rfl
                refine kx_iinc 124 F 4 (v := x4_223 + 1) (lo' := [some (vR G 163), some (vI a1), some (vI a2), none, some (vI (x4_223 + 1))]) dX12_sample_121 rfl (by omega) (by decide) rfl rfl rfl ?_
                refine kx_goto 85 F dX12_sample_124 (by decide) ?_
                have e4_N_257 : N_224 164 = M 164 := hF_N_224.fn kd_164 rfl
                have hr_N_257 := hd_N_251.2
                rw [e4_N_257] at hr_N_257
                exact ih_227 _ (by omega) (x4_223 + 1) N_257 hI_N_257 hF_N_257 (zSI.step (k := 60 * a1 + x4_223) hp_230 (by omega) (by omega) (by omega) (fun j => by rw [hM_N_257, mu_at, Fr.e hG_N_251 kd_168 j rfl]) (by rw [← hr_N_257]; exact hz_N_255) (by rw [hM_N_257, mu_k kd_163 kd_168 rfl]; exact hd_N_251.1)) (by omega) rfl
            refine kx_drop 3 (lo' := [some (vR G 163), some (vI a1), some (vI a2), none, some (vI 0)]) rfl ?_
            exact L_225 _ 0 N_19 hI_N_19 hF_N_19 (zSI.nil (funext (fun j => by rw [hM_N_19, mu_k kd_168 kd_163 rfl])) (by rw [hM_N_19, mu_s])) (by omega) rfl
          · refine kx_iload_n 67 F 2 dX12_sample_66 rfl rfl rfl ?_
            refine kx_if_le 70 F 77 dX12_sample_67 (by decide) rfl (by omega) (fun h_258 => ?_) (fun h_258 => ?_)
            · refine kx_aload_n 78 F 0 dX12_sample_77 rfl rfl rfl ?_
              refine kx_iload_n 79 F 3 dX12_sample_78 rfl rfl rfl ?_
              refine kx_puti 82 F fw_X12_511 rfl kd_163 rfl rfl (j := 49) rfl dX12_sample_79 rfl ?_
              intro N_259 hM_N_259
              have hI_N_259 : Inv true N_259 := Inv.u hI_M hM_N_259 kd_163 (a := 0) (b := 65535) rfl rfl rfl (by omega)
              have hF_N_259 : Fr f_e_sample3m M N_259 := Fr.u hF_M hM_N_259 kd_163 rfl
              refine kx_iconst 83 F dX12_sample_82 rfl ?_
              refine kx_istore 85 F 4 (lo' := [some (vR G 163), some (vI a1), some (vI a2), some (vI a3), some (vI 0)]) dX12_sample_83 (by decide) rfl rfl rfl ?_
              have L_268 : ∀ (n_269 : Nat) (x4_266 : Int) (N_267 : Mem), Inv true N_267 → Fr f_e_sample3m M N_267 → zSI N_267 M 168 (60 * a1) x4_266 a3 (M 164 0 + M 164 1 + M 164 2) (M 166 a1) (N_267 163 49) → 0 ≤ x4_266 ∧ x4_266 ≤ 0 ∧ x4_266 ≤ a2 → (0 - (x4_266)).toNat = n_269 → KJ true G X N_267 85 [some (vR G 163), some (vI a1), some (vI a2), none, some (vI x4_266)] [] := by
                intro n_269
                refine Nat.strongRecOn n_269 ?_
                intro n_269 ih_270 x4_266 N_267 hI_N_267 hF_N_267 hp_273 h_271 hm_272
                refine kx_iload 87 F 4 dX12_sample_85 rfl rfl ?_
                refine kx_iload_n 88 F 2 dX12_sample_87 rfl rfl rfl ?_
                refine kx_icmp_ge 91 F 127 dX12_sample_88 (by decide) rfl (by omega) (by omega) (fun h_274 => ?_) (fun h_274 => (by exfalso; omega))
                refine kx_aload_n 128 F 0 dX12_sample_127 rfl rfl rfl ?_
                refine kx_iconst 129 F dX12_sample_128 rfl ?_
                refine kx_Vi 132 (ci := 0) F (As := [vI 0]) (st := []) vd_X12_130 (c_X12_is G l N_267 0 hI_N_267 (by omega)) kd_163 rfl rfl rfl ⟨by decide, by decide⟩ rfl rfl (Nat.le_of_ble_eq_true rfl) dX12_sample_129 rfl ?_
                intro r_275 N_276 q_277
                obtain ⟨hI_N_276, hG_N_276, q_277c⟩ := q_277
                have hF_N_276 : Fr f_e_sample3m M N_276 := Fr.c hF_N_267 hG_N_276 rfl
                rcases q_277c with q_277c | q_277c
                · exact kx_zret F hQ (by omega) ⟨hI_N_276, hF_N_276, (by omega), (Or.inl ⟨by omega, ⟨by omega, by omega, by omega, by omega, by omega, by omega, by omega, by omega, by omega⟩, ((funext (fun j => by rw [Fr.e hG_N_276 kd_168 _ rfl])).trans (zSI.f hp_273 (by omega)))⟩)⟩ dX12_sample_132
                · exfalso; omega
              refine kx_drop 3 (lo' := [some (vR G 163), some (vI a1), some (vI a2), none, some (vI 0)]) rfl ?_
              exact L_268 _ 0 N_259 hI_N_259 hF_N_259 (zSI.nil (funext (fun j => by rw [hM_N_259, mu_k kd_168 kd_163 rfl])) (by rw [hM_N_259, mu_s])) (by omega) rfl
            · refine kx_aload_n 71 F 0 dX12_sample_70 rfl rfl rfl ?_
              refine kx_bipush 73 F dX12_sample_71 (by decide) rfl ?_
              refine kx_Vi 76 (ci := 0) F (As := [vI 6]) (st := []) vd_X12_130 (c_X12_is G l M 6 hI_M (by omega)) kd_163 rfl rfl rfl ⟨by decide, by decide⟩ rfl rfl (Nat.le_of_ble_eq_true rfl) dX12_sample_73 rfl ?_
              intro r_278 N_279 q_280
              obtain ⟨hI_N_279, hG_N_279, q_280c⟩ := q_280
              have hF_N_279 : Fr f_e_sample3m M N_279 := Fr.c hF_M hG_N_279 rfl
              rcases q_280c with q_280c | q_280c
              · exfalso; omega
              · exact kx_zret F hQ (by omega) ⟨hI_N_279, hF_N_279, (by omega), (Or.inr ⟨by omega, fun h => by unfold zSPk at h; omega, (funext (fun j => by rw [Fr.e hG_N_279 kd_168 _ rfl]))⟩)⟩ dX12_sample_76
        · refine kx_aload_n 54 F 0 dX12_sample_53 rfl rfl rfl ?_
          refine kx_iconst 55 F dX12_sample_54 rfl ?_
          refine kx_Vi 58 (ci := 0) F (As := [vI 3]) (st := []) vd_X12_130 (c_X12_is G l M 3 hI_M (by omega)) kd_163 rfl rfl rfl ⟨by decide, by decide⟩ rfl rfl (Nat.le_of_ble_eq_true rfl) dX12_sample_55 rfl ?_
          intro r_281 N_282 q_283
          obtain ⟨hI_N_282, hG_N_282, q_283c⟩ := q_283
          have hF_N_282 : Fr f_e_sample3m M N_282 := Fr.c hF_M hG_N_282 rfl
          rcases q_283c with q_283c | q_283c
          · exfalso; omega
          · exact kx_zret F hQ (by omega) ⟨hI_N_282, hF_N_282, (by omega), (Or.inr ⟨by omega, fun h => by unfold zSPk at h; omega, (funext (fun j => by rw [Fr.e hG_N_282 kd_168 _ rfl]))⟩)⟩ dX12_sample_58
      · refine kx_aload_n 38 F 0 dX12_sample_37 rfl rfl rfl ?_
        refine kx_iconst 39 F dX12_sample_38 rfl ?_
        refine kx_Vi 42 (ci := 0) F (As := [vI 2]) (st := []) vd_X12_130 (c_X12_is G l M 2 hI_M (by omega)) kd_163 rfl rfl rfl ⟨by decide, by decide⟩ rfl rfl (Nat.le_of_ble_eq_true rfl) dX12_sample_39 rfl ?_
        intro r_284 N_285 q_286
        obtain ⟨hI_N_285, hG_N_285, q_286c⟩ := q_286
        have hF_N_285 : Fr f_e_sample3m M N_285 := Fr.c hF_M hG_N_285 rfl
        rcases q_286c with q_286c | q_286c
        · exfalso; omega
        · exact kx_zret F hQ (by omega) ⟨hI_N_285, hF_N_285, (by omega), (Or.inr ⟨by omega, fun h => by unfold zSPk at h; omega, (funext (fun j => by rw [Fr.e hG_N_285 kd_168 _ rfl]))⟩)⟩ dX12_sample_42
    · refine kx_if_ne 21 F 27 dX12_sample_18 (by decide) rfl (by omega) (fun h_287 => (by exfalso; omega)) (fun h_287 => ?_)
      refine kx_aload_n 22 F 0 dX12_sample_21 rfl rfl rfl ?_
      refine kx_iconst 23 F dX12_sample_22 rfl ?_
      refine kx_Vi 26 (ci := 0) F (As := [vI 1]) (st := []) vd_X12_130 (c_X12_is G l M 1 hI_M (by omega)) kd_163 rfl rfl rfl ⟨by decide, by decide⟩ rfl rfl (Nat.le_of_ble_eq_true rfl) dX12_sample_23 rfl ?_
      intro r_288 N_289 q_290
      obtain ⟨hI_N_289, hG_N_289, q_290c⟩ := q_290
      have hF_N_289 : Fr f_e_sample3m M N_289 := Fr.c hF_M hG_N_289 rfl
      rcases q_290c with q_290c | q_290c
      · exfalso; omega
      · exact kx_zret F hQ (by omega) ⟨hI_N_289, hF_N_289, (by omega), (Or.inr ⟨by omega, fun h => by unfold zSPk at h; omega, (funext (fun j => by rw [Fr.e hG_N_289 kd_168 _ rfl]))⟩)⟩ dX12_sample_26
    · refine kx_if_ne 21 F 27 dX12_sample_18 (by decide) rfl (by omega) (fun h_291 => (by exfalso; omega)) (fun h_291 => ?_)
      refine kx_aload_n 22 F 0 dX12_sample_21 rfl rfl rfl ?_
      refine kx_iconst 23 F dX12_sample_22 rfl ?_
      refine kx_Vi 26 (ci := 0) F (As := [vI 1]) (st := []) vd_X12_130 (c_X12_is G l M 1 hI_M (by omega)) kd_163 rfl rfl rfl ⟨by decide, by decide⟩ rfl rfl (Nat.le_of_ble_eq_true rfl) dX12_sample_23 rfl ?_
      intro r_292 N_293 q_294
      obtain ⟨hI_N_293, hG_N_293, q_294c⟩ := q_294
      have hF_N_293 : Fr f_e_sample3m M N_293 := Fr.c hF_M hG_N_293 rfl
      rcases q_294c with q_294c | q_294c
      · exfalso; omega
      · exact kx_zret F hQ (by omega) ⟨hI_N_293, hF_N_293, (by omega), (Or.inr ⟨by omega, fun h => by unfold zSPk at h; omega, (funext (fun j => by rw [Fr.e hG_N_293 kd_168 _ rfl]))⟩)⟩ dX12_sample_26
  · refine kx_if_eq 9 F 21 dX12_sample_6 (by decide) rfl (by omega) (fun h_295 => ?_) (fun h_295 => (by exfalso; omega))
    refine kx_aload_n 22 F 0 dX12_sample_21 rfl rfl rfl ?_
    refine kx_iconst 23 F dX12_sample_22 rfl ?_
    refine kx_Vi 26 (ci := 0) F (As := [vI 1]) (st := []) vd_X12_130 (c_X12_is G l M 1 hI_M (by omega)) kd_163 rfl rfl rfl ⟨by decide, by decide⟩ rfl rfl (Nat.le_of_ble_eq_true rfl) dX12_sample_23 rfl ?_
    intro r_296 N_297 q_298
    obtain ⟨hI_N_297, hG_N_297, q_298c⟩ := q_298
    have hF_N_297 : Fr f_e_sample3m M N_297 := Fr.c hF_M hG_N_297 rfl
    rcases q_298c with q_298c | q_298c
    · exfalso; omega
    · exact kx_zret F hQ (by omega) ⟨hI_N_297, hF_N_297, (by omega), (Or.inr ⟨by omega, fun h => by unfold zSPk at h; omega, (funext (fun j => by rw [Fr.e hG_N_297 kd_168 _ rfl]))⟩)⟩ dX12_sample_26
  · refine kx_if_eq 9 F 21 dX12_sample_6 (by decide) rfl (by omega) (fun h_299 => ?_) (fun h_299 => (by exfalso; omega))
    refine kx_aload_n 22 F 0 dX12_sample_21 rfl rfl rfl ?_
    refine kx_iconst 23 F dX12_sample_22 rfl ?_
    refine kx_Vi 26 (ci := 0) F (As := [vI 1]) (st := []) vd_X12_130 (c_X12_is G l M 1 hI_M (by omega)) kd_163 rfl rfl rfl ⟨by decide, by decide⟩ rfl rfl (Nat.le_of_ble_eq_true rfl) dX12_sample_23 rfl ?_
    intro r_300 N_301 q_302
    obtain ⟨hI_N_301, hG_N_301, q_302c⟩ := q_302
    have hF_N_301 : Fr f_e_sample3m M N_301 := Fr.c hF_M hG_N_301 rfl
    rcases q_302c with q_302c | q_302c
    · exfalso; omega
    · exact kx_zret F hQ (by omega) ⟨hI_N_301, hF_N_301, (by omega), (Or.inr ⟨by omega, fun h => by unfold zSPk at h; omega, (funext (fun j => by rw [Fr.e hG_N_301 kd_168 _ rfl]))⟩)⟩ dX12_sample_26
  · refine kx_if_eq 9 F 21 dX12_sample_6 (by decide) rfl (by omega) (fun h_303 => ?_) (fun h_303 => (by exfalso; omega))
    refine kx_aload_n 22 F 0 dX12_sample_21 rfl rfl rfl ?_
    refine kx_iconst 23 F dX12_sample_22 rfl ?_
    refine kx_Vi 26 (ci := 0) F (As := [vI 1]) (st := []) vd_X12_130 (c_X12_is G l M 1 hI_M (by omega)) kd_163 rfl rfl rfl ⟨by decide, by decide⟩ rfl rfl (Nat.le_of_ble_eq_true rfl) dX12_sample_23 rfl ?_
    intro r_304 N_305 q_306
    obtain ⟨hI_N_305, hG_N_305, q_306c⟩ := q_306
    have hF_N_305 : Fr f_e_sample3m M N_305 := Fr.c hF_M hG_N_305 rfl
    rcases q_306c with q_306c | q_306c
    · exfalso; omega
    · exact kx_zret F hQ (by omega) ⟨hI_N_305, hF_N_305, (by omega), (Or.inr ⟨by omega, fun h => by unfold zSPk at h; omega, (funext (fun j => by rw [Fr.e hG_N_305 kd_168 _ rfl]))⟩)⟩ dX12_sample_26
  · refine kx_if_eq 9 F 21 dX12_sample_6 (by decide) rfl (by omega) (fun h_307 => ?_) (fun h_307 => (by exfalso; omega))
    refine kx_aload_n 22 F 0 dX12_sample_21 rfl rfl rfl ?_
    refine kx_iconst 23 F dX12_sample_22 rfl ?_
    refine kx_Vi 26 (ci := 0) F (As := [vI 1]) (st := []) vd_X12_130 (c_X12_is G l M 1 hI_M (by omega)) kd_163 rfl rfl rfl ⟨by decide, by decide⟩ rfl rfl (Nat.le_of_ble_eq_true rfl) dX12_sample_23 rfl ?_
    intro r_308 N_309 q_310
    obtain ⟨hI_N_309, hG_N_309, q_310c⟩ := q_310
    have hF_N_309 : Fr f_e_sample3m M N_309 := Fr.c hF_M hG_N_309 rfl
    rcases q_310c with q_310c | q_310c
    · exfalso; omega
    · exact kx_zret F hQ (by omega) ⟨hI_N_309, hF_N_309, (by omega), (Or.inr ⟨by omega, fun h => by unfold zSPk at h; omega, (funext (fun j => by rw [Fr.e hG_N_309 kd_168 _ rfl]))⟩)⟩ dX12_sample_26
