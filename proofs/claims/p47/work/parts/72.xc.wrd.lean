abbrev f_e_beginsWord3 : List (Nat × Int) := [(73, -1), (74, -1), (75, -1)]
set_option maxHeartbeats 4000000 in
set_option maxRecDepth 100000 in
theorem e_beginsWord3 (G : KG) (l : Launch) (M : Mem) (a1 : Int) (a2 : Int) (hI_M : Inv true M) (hpre : -2147483648 ≤ a1 ∧ a1 ≤ 2147483647 ∧ -2147483648 ≤ a2 ∧ a2 ≤ 2147483647 ∧ 0 ≤ a1 ∧ a1 ≤ 1 ∧ 0 ≤ a2 ∧ a2 ≤ 1) (q : Int → Int) (hS : zRN (M 164) q) (hU : zRU (M 164) q) (ha : a1 < q 3) : KC true G l yX12_beginsWord cX12_beginsWord 3 none (3, 66) [vR G 163, vI a1, vI a2] M (fun A => kQv true G A (fun (N : Mem) => Inv true N ∧ Fr f_e_beginsWord3 M N ∧ (WB N 0 ∧ ∀ w : Int → Int, zAL N a2 0 (zfo q (85 * a1 + 100) w 0)))) := by
  refine kx_met (lo := [some (vR G 163), some (vI a1), some (vI a2)]) (by decide) (Nat.le_of_ble_eq_true rfl) rfl ?_
  intro X F hQ
  have hF_M : Fr f_e_beginsWord3 M M := Fr.rf _ _
  refine kx_aload_n 1 F 0 dX12_beginsWord_0 rfl rfl rfl ?_
  refine kx_getr 4 F fl_X12_47 kd_163 rfl rfl (j := 21) rfl dX12_beginsWord_1 (v := 172) (uq_172 (Inv.r hI_M kd_163 rfl 21 rfl rfl)) rfl ?_
  refine kx_bipush 6 F dX12_beginsWord_4 (by decide) rfl ?_
  refine kx_iload_n 7 F 2 dX12_beginsWord_6 rfl rfl rfl ?_
  refine kx_imul 8 F (v := 21 * a2) dX12_beginsWord_7 (by omega) rfl ?_
  refine kx_aload_n 9 F 0 dX12_beginsWord_8 rfl rfl rfl ?_
  refine kx_iload_n 10 F 1 dX12_beginsWord_9 rfl rfl rfl ?_
  refine kx_iconst 11 F dX12_beginsWord_10 rfl ?_
  refine kx_Vi 14 (ci := 0) F (As := [vI a1, vI 2]) (st := [vI (21 * a2), vR G 172]) vd_X12_288 (e_of2 G l M a1 2 hI_M (by omega)) kd_163 rfl rfl rfl ⟨by decide, by decide⟩ rfl rfl (Nat.le_of_ble_eq_true rfl) dX12_beginsWord_11 rfl ?_
  intro r_1 N_2 q_3
  obtain ⟨rfl, q_3c⟩ := q_3
  refine kx_topi (e' := (M 164 (85 * a1 + 102))) (by omega) ?_
  refine kx_iast 15 F kd_172 rfl rfl (by omega) (by decide) dX12_beginsWord_14 rfl ?_
  intro N_4 hM_N_4
  have hI_N_4 : Inv true N_4 := Inv.u hI_M hM_N_4 kd_172 (a := 0) (b := 7) rfl rfl rfl (by omega)
  have hF_N_4 : Fr f_e_beginsWord3 M N_4 := Fr.u hF_M hM_N_4 kd_172 rfl
  refine kx_aload_n 16 F 0 dX12_beginsWord_15 rfl rfl rfl ?_
  refine kx_getr 19 F fl_X12_50 kd_163 rfl rfl (j := 22) rfl dX12_beginsWord_16 (v := 173) (uq_173 (Inv.r hI_N_4 kd_163 rfl 22 rfl rfl)) rfl ?_
  refine kx_bipush 21 F dX12_beginsWord_19 (by decide) rfl ?_
  refine kx_iload_n 22 F 2 dX12_beginsWord_21 rfl rfl rfl ?_
  refine kx_imul 23 F (v := 21 * a2) dX12_beginsWord_22 (by omega) rfl ?_
  refine kx_aload_n 24 F 0 dX12_beginsWord_23 rfl rfl rfl ?_
  refine kx_iload_n 25 F 1 dX12_beginsWord_24 rfl rfl rfl ?_
  refine kx_Vi 28 (ci := 0) F (As := [vI a1]) (st := [vI (21 * a2), vR G 173]) vd_X12_329 (e_same G l N_4 a1 hI_N_4 (by omega)) kd_163 rfl rfl rfl ⟨by decide, by decide⟩ rfl rfl (Nat.le_of_ble_eq_true rfl) dX12_beginsWord_25 rfl ?_
  intro r_5 N_6 q_7
  obtain ⟨rfl, q_7c, hz_N_6⟩ := q_7
  refine kx_iast 29 F kd_173 rfl rfl (by omega) (by decide) dX12_beginsWord_28 rfl ?_
  intro N_8 hM_N_8
  have hI_N_8 : Inv true N_8 := Inv.u hI_N_4 hM_N_8 kd_173 (a := 0) (b := 511) rfl rfl rfl (by omega)
  have hF_N_8 : Fr f_e_beginsWord3 M N_8 := Fr.u hF_N_4 hM_N_8 kd_173 rfl
  refine kx_aload_n 30 F 0 dX12_beginsWord_29 rfl rfl rfl ?_
  refine kx_getr 33 F fl_X12_53 kd_163 rfl rfl (j := 23) rfl dX12_beginsWord_30 (v := 174) (uq_174 (Inv.r hI_N_8 kd_163 rfl 23 rfl rfl)) rfl ?_
  refine kx_iconst 34 F dX12_beginsWord_33 rfl ?_
  refine kx_iconst 35 F dX12_beginsWord_34 rfl ?_
  refine kx_iast 36 F kd_174 rfl rfl (by omega) (by decide) dX12_beginsWord_35 rfl ?_
  intro N_9 hM_N_9
  have hI_N_9 : Inv true N_9 := Inv.u hI_N_8 hM_N_9 kd_174 (a := (-1)) (b := 19) rfl rfl rfl (by omega)
  have hF_N_9 : Fr f_e_beginsWord3 M N_9 := Fr.u hF_N_8 hM_N_9 kd_174 rfl
  have e_10 : (N_9 172 (21 * a2)) = (M 164 (85 * a1 + 102)) := by rw [hM_N_9, mu_k kd_172 kd_174 rfl, hM_N_8, mu_k kd_172 kd_173 rfl, hM_N_4, mu_s]
  have e_11 : (N_9 174 0) = -1 := by rw [hM_N_9, mu_s]
  have hB := hU.b (a := a1) (b := (85 * a1 + 100)) ⟨by omega, by omega, by omega⟩ rfl
  have hq2 : M 164 (85 * a1 + 102) = q (85 * a1 + 100 + 2) := by rw [show 85 * a1 + 102 = 85 * a1 + 100 + 2 by omega]; exact hB.n (d := 2) (by decide) rfl
  exact kx_vret F hQ ⟨hI_N_9, hF_N_9, ⟨WB.nil (by omega), fun w => zAL.beg (by omega) (by have h : N_9 173 (21 * a2) = r_5 := (by rw [hM_N_9, mu_k kd_173 kd_174 rfl, hM_N_8, mu_at, hM_N_4, mu_k kd_173 kd_172 rfl]; exact if_pos rfl); rw [h, hz_N_6, show N_4 164 = M 164 from (funext (fun j => by rw [hM_N_4, mu_k kd_164 kd_172 rfl])), show (100 : Int) + 85 * a1 = 85 * a1 + 100 by omega]; exact congrArg smeZ (hB.n (d := 0) (by decide) (by omega))) (by omega)⟩⟩ dX12_beginsWord_36
abbrev f_e_reads3 : List (Nat × Int) := [(73, -1), (74, -1), (75, -1), (76, -1)]
set_option maxHeartbeats 4000000 in
set_option maxRecDepth 100000 in
theorem e_reads3 (G : KG) (l : Launch) (M : Mem) (a1 : Int) (a2 : Int) (a3 : Int) (a4 : Int) (hI_M : Inv true M) (hpre : -2147483648 ≤ a1 ∧ a1 ≤ 2147483647 ∧ -2147483648 ≤ a2 ∧ a2 ≤ 2147483647 ∧ -2147483648 ≤ a3 ∧ a3 ≤ 2147483647 ∧ -2147483648 ≤ a4 ∧ a4 ≤ 2147483647 ∧ 0 ≤ a1 ∧ a1 ≤ 1 ∧ 0 ≤ a2 ∧ a2 ≤ 1 ∧ 0 ≤ a3 ∧ a3 ≤ 19 ∧ 0 ≤ a4 ∧ a4 ≤ 5) (hW : WB M a3) (q g : Int → Int) (hS : zRN (M 164) q) (hU : zRU (M 164) q) (hC : zQC q) (hD : LD M) (ha : a1 < q 3) (hG : zAL M a2 a3 g) : KC true G l yX12_reads cX12_reads 9 none (3, 75) [vR G 163, vI a1, vI a2, vI a3, vI a4] M (fun A => kQv true G A (fun (N : Mem) => Inv true N ∧ Fr f_e_reads3 M N ∧ ((WB N (a3 + 1)) ∧ (zAL N a2 (a3 + 1) (zse g (zst q (85 * a1 + 100)) (zks q (85 * a1 + 100)) (q (85 * a1 + 100)) a4 (zsr q a4)))))) := by
  refine kx_met (lo := [some (vR G 163), some (vI a1), some (vI a2), some (vI a3), some (vI a4), none, none, none, none]) (by decide) (Nat.le_of_ble_eq_true rfl) rfl ?_
  intro X F hQ
  have hF_M : Fr f_e_reads3 M M := Fr.rf _ _
  have hSn := hS.u
  have h_1 := Inv.g hI_M kd_164 rfl 0 (a := 0) (b := 2) (at_c 0 0 (o := 0) (lo := 0) (hi := 2) (by omega) (by decide) (by decide) (by decide)).1 (at_c 0 0 (o := 0) (lo := 0) (hi := 2) (by omega) (by decide) (by decide) (by decide)).2
  have h_2 := Inv.g hI_M kd_164 rfl 1 (a := 0) (b := 2) (at_c 1 0 (o := 1) (lo := 0) (hi := 2) (by omega) (by decide) (by decide) (by decide)).1 (at_c 1 0 (o := 1) (lo := 0) (hi := 2) (by omega) (by decide) (by decide) (by decide)).2
  have h_3 := Inv.g hI_M kd_164 rfl 2 (a := 0) (b := 2) (at_c 2 0 (o := 2) (lo := 0) (hi := 2) (by omega) (by decide) (by decide) (by decide)).1 (at_c 2 0 (o := 2) (lo := 0) (hi := 2) (by omega) (by decide) (by decide) (by decide)).2
  refine kx_bipush 2 F dX12_reads_0 (by decide) rfl ?_
  refine kx_iload_n 3 F 2 dX12_reads_2 rfl rfl rfl ?_
  refine kx_imul 4 F (v := 21 * a2) dX12_reads_3 (by omega) rfl ?_
  refine kx_iload_n 5 F 3 dX12_reads_4 rfl rfl rfl ?_
  refine kx_iadd 6 F (v := 21 * a2 + a3) dX12_reads_5 rfl rfl ?_
  refine kx_istore 8 F 5 (lo' := [some (vR G 163), some (vI a1), some (vI a2), some (vI a3), some (vI a4), some (vI (21 * a2 + a3)), none, none, none]) dX12_reads_6 (by decide) rfl rfl rfl ?_
  refine kx_aload_n 9 F 0 dX12_reads_8 rfl rfl rfl ?_
  refine kx_iload 11 F 4 dX12_reads_9 rfl rfl ?_
  refine kx_Vi 14 (ci := 0) F (As := [vI a4]) (st := []) vd_X12_297 (c_sortNowE G l M a4 hI_M (by omega)) kd_163 rfl rfl rfl ⟨by decide, by decide⟩ rfl rfl (Nat.le_of_ble_eq_true rfl) dX12_reads_11 rfl ?_
  intro r_4 N_5 q_6
  obtain ⟨rfl, q_6c⟩ := q_6
  rcases q_6c with q_6c | q_6c | q_6c
  · refine kx_istore 16 F 6 (lo' := [some (vR G 163), some (vI a1), some (vI a2), some (vI a3), some (vI a4), some (vI (21 * a2 + a3)), some (vI r_4), none, none]) dX12_reads_14 (by decide) rfl rfl rfl ?_
    have h_7 := WB.bel hW a3 (by omega)
    refine kx_aload_n 17 F 0 dX12_reads_16 rfl rfl rfl ?_
    refine kx_getr 20 F fl_X12_53 kd_163 rfl rfl (j := 23) rfl dX12_reads_17 (v := 174) (uq_174 (Inv.r hI_M kd_163 rfl 23 rfl rfl)) rfl ?_
    refine kx_iload_n 21 F 3 dX12_reads_20 rfl rfl rfl ?_
    refine kx_iald 22 F kd_174 rfl rfl (by omega) (by decide) dX12_reads_21 (v := (M 174 a3)) rfl rfl ?_
    have h_8 := Inv.g hI_M kd_174 rfl a3 (a := (-1)) (b := 19) rfl rfl
    refine kx_istore 24 F 7 (lo' := [some (vR G 163), some (vI a1), some (vI a2), some (vI a3), some (vI a4), some (vI (21 * a2 + a3)), some (vI r_4), some (vI (M 174 a3)), none]) dX12_reads_22 (by decide) rfl rfl rfl ?_
    refine kx_aload_n 25 F 0 dX12_reads_24 rfl rfl rfl ?_
    refine kx_getr 28 F fl_X12_56 kd_163 rfl rfl (j := 24) rfl dX12_reads_25 (v := 175) (uq_175 (Inv.r hI_M kd_163 rfl 24 rfl rfl)) rfl ?_
    refine kx_iload_n 29 F 3 dX12_reads_28 rfl rfl rfl ?_
    refine kx_iload 31 F 4 dX12_reads_29 rfl rfl ?_
    refine kx_iast 32 F kd_175 rfl rfl (by omega) (by decide) dX12_reads_31 rfl ?_
    intro N_9 hM_N_9
    have hI_N_9 : Inv true N_9 := Inv.u hI_M hM_N_9 kd_175 (a := 0) (b := 19) rfl rfl rfl (by omega)
    have hF_N_9 : Fr f_e_reads3 M N_9 := Fr.u hF_M hM_N_9 kd_175 rfl
    refine kx_aload_n 33 F 0 dX12_reads_32 rfl rfl rfl ?_
    refine kx_getr 36 F fl_X12_53 kd_163 rfl rfl (j := 23) rfl dX12_reads_33 (v := 174) (uq_174 (Inv.r hI_N_9 kd_163 rfl 23 rfl rfl)) rfl ?_
    refine kx_iload_n 37 F 3 dX12_reads_36 rfl rfl rfl ?_
    refine kx_iconst 38 F dX12_reads_37 rfl ?_
    refine kx_iadd 39 F (v := a3 + 1) dX12_reads_38 rfl rfl ?_
    refine kx_iload 41 F 6 dX12_reads_39 rfl rfl ?_
    refine kx_if_ne 44 F 48 dX12_reads_41 (by decide) rfl (by omega) (fun h_10 => (by exfalso; omega)) (fun h_10 => ?_)
    refine kx_iload_n 45 F 3 dX12_reads_44 rfl rfl rfl ?_
    refine kx_goto 72 F dX12_reads_45 (by decide) ?_
    refine kx_iast 73 F kd_174 rfl rfl (by omega) (by decide) dX12_reads_72 rfl ?_
    intro N_11 hM_N_11
    have hI_N_11 : Inv true N_11 := Inv.u hI_N_9 hM_N_11 kd_174 (a := (-1)) (b := 19) rfl rfl rfl (by omega)
    have hF_N_11 : Fr f_e_reads3 M N_11 := Fr.u hF_N_9 hM_N_11 kd_174 rfl
    refine kx_iload 75 F 6 dX12_reads_73 rfl rfl ?_
    refine kx_if_ne 78 F 121 dX12_reads_75 (by decide) rfl (by omega) (fun h_12 => (by exfalso; omega)) (fun h_12 => ?_)
    refine kx_aload_n 79 F 0 dX12_reads_78 rfl rfl rfl ?_
    refine kx_getr 82 F fl_X12_47 kd_163 rfl rfl (j := 21) rfl dX12_reads_79 (v := 172) (uq_172 (Inv.r hI_N_11 kd_163 rfl 21 rfl rfl)) rfl ?_
    refine kx_iload 84 F 5 dX12_reads_82 rfl rfl ?_
    refine kx_iconst 85 F dX12_reads_84 rfl ?_
    refine kx_iadd 86 F (v := 21 * a2 + a3 + 1) dX12_reads_85 rfl rfl ?_
    refine kx_aload_n 87 F 0 dX12_reads_86 rfl rfl rfl ?_
    refine kx_getr 90 F fl_X12_47 kd_163 rfl rfl (j := 21) rfl dX12_reads_87 (v := 172) (uq_172 (Inv.r hI_N_11 kd_163 rfl 21 rfl rfl)) rfl ?_
    refine kx_iload 92 F 5 dX12_reads_90 rfl rfl ?_
    refine kx_iald 93 F kd_172 rfl rfl (by omega) (by decide) dX12_reads_92 (v := (M 172 (21 * a2 + a3))) (by rw [hM_N_11, mu_k kd_172 kd_174 rfl, hM_N_9, mu_k kd_172 kd_175 rfl]) rfl ?_
    have h_13 := Inv.g hI_M kd_172 rfl (21 * a2 + a3) (a := 0) (b := 7) rfl rfl
    refine kx_aload_n 94 F 0 dX12_reads_93 rfl rfl rfl ?_
    refine kx_iload_n 95 F 1 dX12_reads_94 rfl rfl rfl ?_
    refine kx_iload 97 F 4 dX12_reads_95 rfl rfl ?_
    refine kx_bipush 99 F dX12_reads_97 (by decide) rfl ?_
    refine kx_Vi 102 (ci := 0) F (As := [vI a1, vI a4, vI 7]) (st := [vI (M 172 (21 * a2 + a3)), vI (21 * a2 + a3 + 1), vR G 172]) vd_X12_323 (e_leads G l N_11 a1 a4 7 hI_N_11 (by omega)) kd_163 rfl rfl rfl ⟨by decide, by decide⟩ rfl rfl (Nat.le_of_ble_eq_true rfl) dX12_reads_99 rfl ?_
    intro r_14 N_15 q_16
    obtain ⟨rfl, q_16c, hz_N_15⟩ := q_16
    refine kx_Si 105 F (As := [vI (M 172 (21 * a2 + a3)), vI r_14]) (st := [vI (21 * a2 + a3 + 1), vR G 172]) sd_X12_332 (e_image3m G l N_11 (M 172 (21 * a2 + a3)) r_14 hI_N_11 (by omega)) ⟨by decide, by decide⟩ rfl rfl (Nat.le_of_ble_eq_true rfl) dX12_reads_102 rfl ?_
    intro r_17 N_18 q_19
    obtain ⟨rfl, q_19c, hz_N_18⟩ := q_19
    refine kx_iast 106 F kd_172 rfl rfl (by omega) (by decide) dX12_reads_105 rfl ?_
    intro N_20 hM_N_20
    have hI_N_20 : Inv true N_20 := Inv.u hI_N_11 hM_N_20 kd_172 (a := 0) (b := 7) rfl rfl rfl (by omega)
    have hF_N_20 : Fr f_e_reads3 M N_20 := Fr.u hF_N_11 hM_N_20 kd_172 rfl
    refine kx_aload_n 107 F 0 dX12_reads_106 rfl rfl rfl ?_
    refine kx_getr 110 F fl_X12_50 kd_163 rfl rfl (j := 22) rfl dX12_reads_107 (v := 173) (uq_173 (Inv.r hI_N_20 kd_163 rfl 22 rfl rfl)) rfl ?_
    refine kx_iload 112 F 5 dX12_reads_110 rfl rfl ?_
    refine kx_iconst 113 F dX12_reads_112 rfl ?_
    refine kx_iadd 114 F (v := 21 * a2 + a3 + 1) dX12_reads_113 rfl rfl ?_
    refine kx_aload_n 115 F 0 dX12_reads_114 rfl rfl rfl ?_
    refine kx_iload_n 116 F 1 dX12_reads_115 rfl rfl rfl ?_
    refine kx_Vi 119 (ci := 0) F (As := [vI a1]) (st := [vI (21 * a2 + a3 + 1), vR G 173]) vd_X12_329 (e_same G l N_20 a1 hI_N_20 (by omega)) kd_163 rfl rfl rfl ⟨by decide, by decide⟩ rfl rfl (Nat.le_of_ble_eq_true rfl) dX12_reads_116 rfl ?_
    intro r_21 N_22 q_23
    obtain ⟨rfl, q_23c, hz_N_22⟩ := q_23
    refine kx_iast 120 F kd_173 rfl rfl (by omega) (by decide) dX12_reads_119 rfl ?_
    intro N_24 hM_N_24
    have hI_N_24 : Inv true N_24 := Inv.u hI_N_20 hM_N_24 kd_173 (a := 0) (b := 511) rfl rfl rfl (by omega)
    have hF_N_24 : Fr f_e_reads3 M N_24 := Fr.u hF_N_20 hM_N_24 kd_173 rfl
    have e_25 : (N_24 175 a3) = a4 := by rw [hM_N_24, mu_k kd_175 kd_173 rfl, hM_N_20, mu_k kd_175 kd_172 rfl, hM_N_11, mu_k kd_175 kd_174 rfl, hM_N_9, mu_s]
    have e_26 : (N_24 174 (a3 + 1)) = a3 := by rw [hM_N_24, mu_k kd_174 kd_173 rfl, hM_N_20, mu_k kd_174 kd_172 rfl, hM_N_11, mu_s]
    have hso : r_4 = zsr q a4 := zsr.of (by omega)
    have hl_27 : r_14 = zst q (85 * a1 + 100) a4 := hz_N_15.trans (by rw [show N_11 171 = M 171 from (funext (fun j => by rw [hM_N_11, mu_k kd_171 kd_174 rfl, hM_N_9, mu_k kd_171 kd_175 rfl]))]; exact zLK_s hI_M hD hS hU hC ⟨by omega, by omega⟩ ⟨by omega, by omega⟩ (by rw [if_pos (by omega)]))
    have hB := hU.b (a := a1) (b := (85 * a1 + 100)) ⟨by omega, by omega, by omega⟩ rfl
    exact kx_vret F hQ ⟨hI_N_24, hF_N_24, ⟨(WB.step hW (by omega) (fun j hj => by rw [hM_N_24, mu_k kd_175 kd_173 rfl, hM_N_20, mu_k kd_175 kd_172 rfl, hM_N_11, mu_k kd_175 kd_174 rfl, hM_N_9, mu_i (by omega)]) (by omega) (fun j hj => by rw [hM_N_24, mu_k kd_174 kd_173 rfl, hM_N_20, mu_k kd_174 kd_172 rfl, hM_N_11, mu_i (by omega), hM_N_9, mu_k kd_174 kd_175 rfl]) (by omega)), (zAL.call (y := (21 * a2 + a3 + 1)) (x := (a3 + 1)) (v2 := r_17) (v3 := r_21) (v4 := a3) (z := 21 * a2 + a3) hG (by omega) (by omega) (by omega) (by omega) (by omega) (fun j => by rw [hM_N_24, mu_k kd_172 kd_173 rfl, hM_N_20, mu_at, hM_N_11, mu_k kd_172 kd_174 rfl, hM_N_9, mu_k kd_172 kd_175 rfl]) (fun j => by rw [hM_N_24, mu_at, hM_N_20, mu_k kd_173 kd_172 rfl, hM_N_11, mu_k kd_173 kd_174 rfl, hM_N_9, mu_k kd_173 kd_175 rfl]) (fun j => by rw [hM_N_24, mu_k kd_174 kd_173 rfl, hM_N_20, mu_k kd_174 kd_172 rfl, hM_N_11, mu_at, hM_N_9, mu_k kd_174 kd_175 rfl]) (fun j => by rw [hM_N_24, mu_k kd_175 kd_173 rfl, hM_N_20, mu_k kd_175 kd_172 rfl, hM_N_11, mu_k kd_175 kd_174 rfl, hM_N_9, mu_at]) (hz_N_18.trans (by rw [hl_27])) (hz_N_22.trans (by rw [show N_20 164 = M 164 from (funext (fun j => by rw [hM_N_20, mu_k kd_164 kd_172 rfl, hM_N_11, mu_k kd_164 kd_174 rfl, hM_N_9, mu_k kd_164 kd_175 rfl])), show (100 : Int) + 85 * a1 = 85 * a1 + 100 by omega]; exact congrArg smeZ (hB.n (d := 0) (by decide) (by omega)))) (by omega))⟩⟩ dX12_reads_120
  · refine kx_istore 16 F 6 (lo' := [some (vR G 163), some (vI a1), some (vI a2), some (vI a3), some (vI a4), some (vI (21 * a2 + a3)), some (vI r_4), none, none]) dX12_reads_14 (by decide) rfl rfl rfl ?_
    have h_28 := WB.bel hW a3 (by omega)
    refine kx_aload_n 17 F 0 dX12_reads_16 rfl rfl rfl ?_
    refine kx_getr 20 F fl_X12_53 kd_163 rfl rfl (j := 23) rfl dX12_reads_17 (v := 174) (uq_174 (Inv.r hI_M kd_163 rfl 23 rfl rfl)) rfl ?_
    refine kx_iload_n 21 F 3 dX12_reads_20 rfl rfl rfl ?_
    refine kx_iald 22 F kd_174 rfl rfl (by omega) (by decide) dX12_reads_21 (v := (M 174 a3)) rfl rfl ?_
    have h_29 := Inv.g hI_M kd_174 rfl a3 (a := (-1)) (b := 19) rfl rfl
    refine kx_istore 24 F 7 (lo' := [some (vR G 163), some (vI a1), some (vI a2), some (vI a3), some (vI a4), some (vI (21 * a2 + a3)), some (vI r_4), some (vI (M 174 a3)), none]) dX12_reads_22 (by decide) rfl rfl rfl ?_
    refine kx_aload_n 25 F 0 dX12_reads_24 rfl rfl rfl ?_
    refine kx_getr 28 F fl_X12_56 kd_163 rfl rfl (j := 24) rfl dX12_reads_25 (v := 175) (uq_175 (Inv.r hI_M kd_163 rfl 24 rfl rfl)) rfl ?_
    refine kx_iload_n 29 F 3 dX12_reads_28 rfl rfl rfl ?_
    refine kx_iload 31 F 4 dX12_reads_29 rfl rfl ?_
    refine kx_iast 32 F kd_175 rfl rfl (by omega) (by decide) dX12_reads_31 rfl ?_
    intro N_30 hM_N_30
    have hI_N_30 : Inv true N_30 := Inv.u hI_M hM_N_30 kd_175 (a := 0) (b := 19) rfl rfl rfl (by omega)
    have hF_N_30 : Fr f_e_reads3 M N_30 := Fr.u hF_M hM_N_30 kd_175 rfl
    refine kx_aload_n 33 F 0 dX12_reads_32 rfl rfl rfl ?_
    refine kx_getr 36 F fl_X12_53 kd_163 rfl rfl (j := 23) rfl dX12_reads_33 (v := 174) (uq_174 (Inv.r hI_N_30 kd_163 rfl 23 rfl rfl)) rfl ?_
    refine kx_iload_n 37 F 3 dX12_reads_36 rfl rfl rfl ?_
    refine kx_iconst 38 F dX12_reads_37 rfl ?_
    refine kx_iadd 39 F (v := a3 + 1) dX12_reads_38 rfl rfl ?_
    refine kx_iload 41 F 6 dX12_reads_39 rfl rfl ?_
    refine kx_if_ne 44 F 48 dX12_reads_41 (by decide) rfl (by omega) (fun h_31 => ?_) (fun h_31 => (by exfalso; omega))
    refine kx_iload 50 F 6 dX12_reads_48 rfl rfl ?_
    refine kx_iconst 51 F dX12_reads_50 rfl ?_
    refine kx_icmp_ne 54 F 70 dX12_reads_51 (by decide) rfl (by omega) (by decide) (fun h_32 => (by exfalso; omega)) (fun h_32 => ?_)
    refine kx_iload 56 F 7 dX12_reads_54 rfl rfl ?_
    refine kx_iconst 57 F dX12_reads_56 rfl ?_
    refine kx_icmp_eq 60 F 70 dX12_reads_57 (by decide) rfl (by omega) (by decide) (fun h_33 => ?_) (fun h_33 => ?_)
    · refine kx_iload 72 F 7 dX12_reads_70 rfl rfl ?_
      refine kx_iast 73 F kd_174 rfl rfl (by omega) (by decide) dX12_reads_72 rfl ?_
      intro N_34 hM_N_34
      have hI_N_34 : Inv true N_34 := Inv.u hI_N_30 hM_N_34 kd_174 (a := (-1)) (b := 19) rfl rfl rfl (by omega)
      have hF_N_34 : Fr f_e_reads3 M N_34 := Fr.u hF_N_30 hM_N_34 kd_174 rfl
      refine kx_iload 75 F 6 dX12_reads_73 rfl rfl ?_
      refine kx_if_ne 78 F 121 dX12_reads_75 (by decide) rfl (by omega) (fun h_35 => ?_) (fun h_35 => (by exfalso; omega))
      refine kx_iload 123 F 6 dX12_reads_121 rfl rfl ?_
      refine kx_iconst 124 F dX12_reads_123 rfl ?_
      refine kx_icmp_ne 127 F 209 dX12_reads_124 (by decide) rfl (by omega) (by decide) (fun h_36 => (by exfalso; omega)) (fun h_36 => ?_)
      refine kx_iload 129 F 7 dX12_reads_127 rfl rfl ?_
      refine kx_iconst 130 F dX12_reads_129 rfl ?_
      refine kx_icmp_eq 133 F 209 dX12_reads_130 (by decide) rfl (by omega) (by decide) (fun h_37 => ?_) (fun h_37 => (by exfalso; omega))
      refine kx_aload_n 210 F 0 dX12_reads_209 rfl rfl rfl ?_
      refine kx_getr 213 F fl_X12_47 kd_163 rfl rfl (j := 21) rfl dX12_reads_210 (v := 172) (uq_172 (Inv.r hI_N_34 kd_163 rfl 21 rfl rfl)) rfl ?_
      refine kx_iload 215 F 5 dX12_reads_213 rfl rfl ?_
      refine kx_iconst 216 F dX12_reads_215 rfl ?_
      refine kx_iadd 217 F (v := 21 * a2 + a3 + 1) dX12_reads_216 rfl rfl ?_
      refine kx_aload_n 218 F 0 dX12_reads_217 rfl rfl rfl ?_
      refine kx_getr 221 F fl_X12_47 kd_163 rfl rfl (j := 21) rfl dX12_reads_218 (v := 172) (uq_172 (Inv.r hI_N_34 kd_163 rfl 21 rfl rfl)) rfl ?_
      refine kx_iload 223 F 5 dX12_reads_221 rfl rfl ?_
      refine kx_iald 224 F kd_172 rfl rfl (by omega) (by decide) dX12_reads_223 (v := (M 172 (21 * a2 + a3))) (by rw [hM_N_34, mu_k kd_172 kd_174 rfl, hM_N_30, mu_k kd_172 kd_175 rfl]) rfl ?_
      have h_38 := Inv.g hI_M kd_172 rfl (21 * a2 + a3) (a := 0) (b := 7) rfl rfl
      refine kx_aload_n 225 F 0 dX12_reads_224 rfl rfl rfl ?_
      refine kx_iload_n 226 F 1 dX12_reads_225 rfl rfl rfl ?_
      refine kx_iload 228 F 4 dX12_reads_226 rfl rfl ?_
      refine kx_bipush 230 F dX12_reads_228 (by decide) rfl ?_
      refine kx_Vi 233 (ci := 0) F (As := [vI a1, vI a4, vI 8]) (st := [vI (M 172 (21 * a2 + a3)), vI (21 * a2 + a3 + 1), vR G 172]) vd_X12_323 (e_leads G l N_34 a1 a4 8 hI_N_34 (by omega)) kd_163 rfl rfl rfl ⟨by decide, by decide⟩ rfl rfl (Nat.le_of_ble_eq_true rfl) dX12_reads_230 rfl ?_
      intro r_39 N_40 q_41
      obtain ⟨rfl, q_41c, hz_N_40⟩ := q_41
      refine kx_Si 236 F (As := [vI (M 172 (21 * a2 + a3)), vI r_39]) (st := [vI (21 * a2 + a3 + 1), vR G 172]) sd_X12_332 (e_image3m G l N_34 (M 172 (21 * a2 + a3)) r_39 hI_N_34 (by omega)) ⟨by decide, by decide⟩ rfl rfl (Nat.le_of_ble_eq_true rfl) dX12_reads_233 rfl ?_
      intro r_42 N_43 q_44
      obtain ⟨rfl, q_44c, hz_N_43⟩ := q_44
      refine kx_iast 237 F kd_172 rfl rfl (by omega) (by decide) dX12_reads_236 rfl ?_
      intro N_45 hM_N_45
      have hI_N_45 : Inv true N_45 := Inv.u hI_N_34 hM_N_45 kd_172 (a := 0) (b := 7) rfl rfl rfl (by omega)
      have hF_N_45 : Fr f_e_reads3 M N_45 := Fr.u hF_N_34 hM_N_45 kd_172 rfl
      refine kx_aload_n 238 F 0 dX12_reads_237 rfl rfl rfl ?_
      refine kx_getr 241 F fl_X12_50 kd_163 rfl rfl (j := 22) rfl dX12_reads_238 (v := 173) (uq_173 (Inv.r hI_N_45 kd_163 rfl 22 rfl rfl)) rfl ?_
      refine kx_iload 243 F 5 dX12_reads_241 rfl rfl ?_
      refine kx_iconst 244 F dX12_reads_243 rfl ?_
      refine kx_iadd 245 F (v := 21 * a2 + a3 + 1) dX12_reads_244 rfl rfl ?_
      refine kx_aload_n 246 F 0 dX12_reads_245 rfl rfl rfl ?_
      refine kx_getr 249 F fl_X12_50 kd_163 rfl rfl (j := 22) rfl dX12_reads_246 (v := 173) (uq_173 (Inv.r hI_N_45 kd_163 rfl 22 rfl rfl)) rfl ?_
      refine kx_iload 251 F 5 dX12_reads_249 rfl rfl ?_
      refine kx_iald 252 F kd_173 rfl rfl (by omega) (by decide) dX12_reads_251 (v := (M 173 (21 * a2 + a3))) (by rw [hM_N_45, mu_k kd_173 kd_172 rfl, hM_N_34, mu_k kd_173 kd_174 rfl, hM_N_30, mu_k kd_173 kd_175 rfl]) rfl ?_
      have h_46 := Inv.g hI_M kd_173 rfl (21 * a2 + a3) (a := 0) (b := 511) rfl rfl
      refine kx_aload_n 253 F 0 dX12_reads_252 rfl rfl rfl ?_
      refine kx_iload_n 254 F 1 dX12_reads_253 rfl rfl rfl ?_
      refine kx_iload 256 F 4 dX12_reads_254 rfl rfl ?_
      refine kx_bipush 258 F dX12_reads_256 (by decide) rfl ?_
      refine kx_Vi 261 (ci := 0) F (As := [vI a1, vI a4, vI 8]) (st := [vI (M 173 (21 * a2 + a3)), vI (21 * a2 + a3 + 1), vR G 173]) vd_X12_323 (e_leads G l N_45 a1 a4 8 hI_N_45 (by omega)) kd_163 rfl rfl rfl ⟨by decide, by decide⟩ rfl rfl (Nat.le_of_ble_eq_true rfl) dX12_reads_258 rfl ?_
      intro r_47 N_48 q_49
      obtain ⟨rfl, q_49c, hz_N_48⟩ := q_49
      refine kx_Si 264 F (As := [vI (M 173 (21 * a2 + a3)), vI r_47]) (st := [vI (21 * a2 + a3 + 1), vR G 173]) sd_X12_326 (e_then G l N_45 (M 173 (21 * a2 + a3)) r_47 hI_N_45 (by omega)) ⟨by decide, by decide⟩ rfl rfl (Nat.le_of_ble_eq_true rfl) dX12_reads_261 rfl ?_
      intro r_50 N_51 q_52
      obtain ⟨rfl, q_52c, hz_N_51⟩ := q_52
      refine kx_iast 265 F kd_173 rfl rfl (by omega) (by decide) dX12_reads_264 rfl ?_
      intro N_53 hM_N_53
      have hI_N_53 : Inv true N_53 := Inv.u hI_N_45 hM_N_53 kd_173 (a := 0) (b := 511) rfl rfl rfl (by omega)
      have hF_N_53 : Fr f_e_reads3 M N_53 := Fr.u hF_N_45 hM_N_53 kd_173 rfl
      have e_54 : (N_53 175 a3) = a4 := by rw [hM_N_53, mu_k kd_175 kd_173 rfl, hM_N_45, mu_k kd_175 kd_172 rfl, hM_N_34, mu_k kd_175 kd_174 rfl, hM_N_30, mu_s]
      have e_55 : (N_53 174 (a3 + 1)) = (M 174 a3) := by rw [hM_N_53, mu_k kd_174 kd_173 rfl, hM_N_45, mu_k kd_174 kd_172 rfl, hM_N_34, mu_s]
      have hso : r_4 = zsr q a4 := zsr.of (by omega)
      have hl_56 : r_39 = zst q (85 * a1 + 100) a4 := hz_N_40.trans (by rw [show N_34 171 = M 171 from (funext (fun j => by rw [hM_N_34, mu_k kd_171 kd_174 rfl, hM_N_30, mu_k kd_171 kd_175 rfl]))]; exact zLK_s hI_M hD hS hU hC ⟨by omega, by omega⟩ ⟨by omega, by omega⟩ (by rw [if_neg (by omega)]))
      have hl_57 : r_47 = zst q (85 * a1 + 100) a4 := hz_N_48.trans (by rw [show N_45 171 = M 171 from (funext (fun j => by rw [hM_N_45, mu_k kd_171 kd_172 rfl, hM_N_34, mu_k kd_171 kd_174 rfl, hM_N_30, mu_k kd_171 kd_175 rfl]))]; exact zLK_s hI_M hD hS hU hC ⟨by omega, by omega⟩ ⟨by omega, by omega⟩ (by rw [if_neg (by omega)]))
      exact kx_vret F hQ ⟨hI_N_53, hF_N_53, ⟨(WB.step hW (by omega) (fun j hj => by rw [hM_N_53, mu_k kd_175 kd_173 rfl, hM_N_45, mu_k kd_175 kd_172 rfl, hM_N_34, mu_k kd_175 kd_174 rfl, hM_N_30, mu_i (by omega)]) (by omega) (fun j hj => by rw [hM_N_53, mu_k kd_174 kd_173 rfl, hM_N_45, mu_k kd_174 kd_172 rfl, hM_N_34, mu_i (by omega), hM_N_30, mu_k kd_174 kd_175 rfl]) (by omega)), (zAL.one (y := (21 * a2 + a3 + 1)) (x := (a3 + 1)) (v2 := r_42) (v3 := r_50) (v4 := (M 174 a3)) (z := 21 * a2 + a3) hG (by omega) (fun _ => by omega) (by omega) (by omega) (by omega) (fun j => by rw [hM_N_53, mu_k kd_172 kd_173 rfl, hM_N_45, mu_at, hM_N_34, mu_k kd_172 kd_174 rfl, hM_N_30, mu_k kd_172 kd_175 rfl]) (fun j => by rw [hM_N_53, mu_at, hM_N_45, mu_k kd_173 kd_172 rfl, hM_N_34, mu_k kd_173 kd_174 rfl, hM_N_30, mu_k kd_173 kd_175 rfl]) (fun j => by rw [hM_N_53, mu_k kd_174 kd_173 rfl, hM_N_45, mu_k kd_174 kd_172 rfl, hM_N_34, mu_at, hM_N_30, mu_k kd_174 kd_175 rfl]) (fun j => by rw [hM_N_53, mu_k kd_175 kd_173 rfl, hM_N_45, mu_k kd_175 kd_172 rfl, hM_N_34, mu_k kd_175 kd_174 rfl, hM_N_30, mu_at]) (hz_N_43.trans (by rw [hl_56])) (hz_N_51.trans (by rw [hl_57])) (by omega))⟩⟩ dX12_reads_265
    · have h_58 := WB.bel hW (M 174 a3) (by omega)
      have h_59 := WB.let hW (M 174 a3) (by omega)
      refine kx_aload_n 61 F 0 dX12_reads_60 rfl rfl rfl ?_
      refine kx_getr 64 F fl_X12_53 kd_163 rfl rfl (j := 23) rfl dX12_reads_61 (v := 174) (uq_174 (Inv.r hI_N_30 kd_163 rfl 23 rfl rfl)) rfl ?_
      refine kx_iload 66 F 7 dX12_reads_64 rfl rfl ?_
      refine kx_iald 67 F kd_174 rfl rfl (by omega) (by decide) dX12_reads_66 (v := (M 174 (M 174 a3))) (by rw [hM_N_30, mu_k kd_174 kd_175 rfl]) rfl ?_
      have h_60 := Inv.g hI_M kd_174 rfl (M 174 a3) (a := (-1)) (b := 19) rfl rfl
      refine kx_goto 72 F dX12_reads_67 (by decide) ?_
      refine kx_iast 73 F kd_174 rfl rfl (by omega) (by decide) dX12_reads_72 rfl ?_
      intro N_61 hM_N_61
      have hI_N_61 : Inv true N_61 := Inv.u hI_N_30 hM_N_61 kd_174 (a := (-1)) (b := 19) rfl rfl rfl (by omega)
      have hF_N_61 : Fr f_e_reads3 M N_61 := Fr.u hF_N_30 hM_N_61 kd_174 rfl
      refine kx_iload 75 F 6 dX12_reads_73 rfl rfl ?_
      refine kx_if_ne 78 F 121 dX12_reads_75 (by decide) rfl (by omega) (fun h_62 => ?_) (fun h_62 => (by exfalso; omega))
      refine kx_iload 123 F 6 dX12_reads_121 rfl rfl ?_
      refine kx_iconst 124 F dX12_reads_123 rfl ?_
      refine kx_icmp_ne 127 F 209 dX12_reads_124 (by decide) rfl (by omega) (by decide) (fun h_63 => (by exfalso; omega)) (fun h_63 => ?_)
      refine kx_iload 129 F 7 dX12_reads_127 rfl rfl ?_
      refine kx_iconst 130 F dX12_reads_129 rfl ?_
      refine kx_icmp_eq 133 F 209 dX12_reads_130 (by decide) rfl (by omega) (by decide) (fun h_64 => (by exfalso; omega)) (fun h_64 => ?_)
      refine kx_aload_n 134 F 0 dX12_reads_133 rfl rfl rfl ?_
      refine kx_iload_n 135 F 1 dX12_reads_134 rfl rfl rfl ?_
      refine kx_aload_n 136 F 0 dX12_reads_135 rfl rfl rfl ?_
      refine kx_getr 139 F fl_X12_50 kd_163 rfl rfl (j := 22) rfl dX12_reads_136 (v := 173) (uq_173 (Inv.r hI_N_61 kd_163 rfl 22 rfl rfl)) rfl ?_
      refine kx_iload 141 F 5 dX12_reads_139 rfl rfl ?_
      refine kx_iald 142 F kd_173 rfl rfl (by omega) (by decide) dX12_reads_141 (v := (M 173 (21 * a2 + a3))) (by rw [hM_N_61, mu_k kd_173 kd_174 rfl, hM_N_30, mu_k kd_173 kd_175 rfl]) rfl ?_
      have h_67 := Inv.g hI_M kd_173 rfl (21 * a2 + a3) (a := 0) (b := 511) rfl rfl
      refine kx_aload_n 143 F 0 dX12_reads_142 rfl rfl rfl ?_
      refine kx_getr 146 F fl_X12_56 kd_163 rfl rfl (j := 24) rfl dX12_reads_143 (v := 175) (uq_175 (Inv.r hI_N_61 kd_163 rfl 24 rfl rfl)) rfl ?_
      refine kx_iload 148 F 7 dX12_reads_146 rfl rfl ?_
      refine kx_iald 149 F kd_175 rfl rfl (by omega) (by decide) dX12_reads_148 (v := (M 175 (M 174 a3))) (by rw [hM_N_61, mu_k kd_175 kd_174 rfl, hM_N_30, mu_i (by omega)]) rfl ?_
      have h_68 := Inv.g hI_M kd_175 rfl (M 174 a3) (a := 0) (b := 19) rfl rfl
      refine kx_iload 151 F 4 dX12_reads_149 rfl rfl ?_
      refine kx_Vi 154 (ci := 0) F (As := [vI a1, vI (M 173 (21 * a2 + a3)), vI (M 175 (M 174 a3)), vI a4]) (st := []) vd_X12_335 (e_over G l N_61 a1 (M 173 (21 * a2 + a3)) (M 175 (M 174 a3)) a4 hI_N_61 (by omega)) kd_163 rfl rfl rfl ⟨by decide, by decide⟩ rfl rfl (Nat.le_of_ble_eq_true rfl) dX12_reads_151 rfl ?_
      intro r_69 N_70 q_71
      obtain ⟨rfl, q_71c, hz_N_70⟩ := q_71
      refine kx_istore 156 F 8 (lo' := [some (vR G 163), some (vI a1), some (vI a2), some (vI a3), some (vI a4), some (vI (21 * a2 + a3)), some (vI r_4), some (vI (M 174 a3)), some (vI r_69)]) dX12_reads_154 (by decide) rfl rfl rfl ?_
      refine kx_aload_n 157 F 0 dX12_reads_156 rfl rfl rfl ?_
      refine kx_getr 160 F fl_X12_47 kd_163 rfl rfl (j := 21) rfl dX12_reads_157 (v := 172) (uq_172 (Inv.r hI_N_61 kd_163 rfl 21 rfl rfl)) rfl ?_
      refine kx_iload 162 F 5 dX12_reads_160 rfl rfl ?_
      refine kx_iconst 163 F dX12_reads_162 rfl ?_
      refine kx_iadd 164 F (v := 21 * a2 + a3 + 1) dX12_reads_163 rfl rfl ?_
      refine kx_aload_n 165 F 0 dX12_reads_164 rfl rfl rfl ?_
      refine kx_getr 168 F fl_X12_47 kd_163 rfl rfl (j := 21) rfl dX12_reads_165 (v := 172) (uq_172 (Inv.r hI_N_61 kd_163 rfl 21 rfl rfl)) rfl ?_
      refine kx_bipush 170 F dX12_reads_168 (by decide) rfl ?_
      refine kx_iload_n 171 F 2 dX12_reads_170 rfl rfl rfl ?_
      refine kx_imul 172 F (v := 21 * a2) dX12_reads_171 (by omega) rfl ?_
      refine kx_iload 174 F 7 dX12_reads_172 rfl rfl ?_
      refine kx_iadd 175 F (v := 21 * a2 + (M 174 a3)) dX12_reads_174 rfl rfl ?_
      refine kx_iald 176 F kd_172 rfl rfl (by omega) (by decide) dX12_reads_175 (v := (M 172 (21 * a2 + (M 174 a3)))) (by rw [hM_N_61, mu_k kd_172 kd_174 rfl, hM_N_30, mu_k kd_172 kd_175 rfl]) rfl ?_
      have h_72 := Inv.g hI_M kd_172 rfl (21 * a2 + (M 174 a3)) (a := 0) (b := 7) rfl rfl
      refine kx_iload 178 F 8 dX12_reads_176 rfl rfl ?_
      refine kx_Si 181 F (As := [vI (M 172 (21 * a2 + (M 174 a3))), vI r_69]) (st := [vI (21 * a2 + a3 + 1), vR G 172]) sd_X12_332 (e_image3m G l N_61 (M 172 (21 * a2 + (M 174 a3))) r_69 hI_N_61 (by omega)) ⟨by decide, by decide⟩ rfl rfl (Nat.le_of_ble_eq_true rfl) dX12_reads_178 rfl ?_
      intro r_73 N_74 q_75
      obtain ⟨rfl, q_75c, hz_N_74⟩ := q_75
      refine kx_iast 182 F kd_172 rfl rfl (by omega) (by decide) dX12_reads_181 rfl ?_
      intro N_76 hM_N_76
      have hI_N_76 : Inv true N_76 := Inv.u hI_N_61 hM_N_76 kd_172 (a := 0) (b := 7) rfl rfl rfl (by omega)
      have hF_N_76 : Fr f_e_reads3 M N_76 := Fr.u hF_N_61 hM_N_76 kd_172 rfl
      refine kx_aload_n 183 F 0 dX12_reads_182 rfl rfl rfl ?_
      refine kx_getr 186 F fl_X12_50 kd_163 rfl rfl (j := 22) rfl dX12_reads_183 (v := 173) (uq_173 (Inv.r hI_N_76 kd_163 rfl 22 rfl rfl)) rfl ?_
      refine kx_iload 188 F 5 dX12_reads_186 rfl rfl ?_
      refine kx_iconst 189 F dX12_reads_188 rfl ?_
      refine kx_iadd 190 F (v := 21 * a2 + a3 + 1) dX12_reads_189 rfl rfl ?_
      refine kx_aload_n 191 F 0 dX12_reads_190 rfl rfl rfl ?_
      refine kx_getr 194 F fl_X12_50 kd_163 rfl rfl (j := 22) rfl dX12_reads_191 (v := 173) (uq_173 (Inv.r hI_N_76 kd_163 rfl 22 rfl rfl)) rfl ?_
      refine kx_bipush 196 F dX12_reads_194 (by decide) rfl ?_
      refine kx_iload_n 197 F 2 dX12_reads_196 rfl rfl rfl ?_
      refine kx_imul 198 F (v := 21 * a2) dX12_reads_197 (by omega) rfl ?_
      refine kx_iload 200 F 7 dX12_reads_198 rfl rfl ?_
      refine kx_iadd 201 F (v := 21 * a2 + (M 174 a3)) dX12_reads_200 rfl rfl ?_
      refine kx_iald 202 F kd_173 rfl rfl (by omega) (by decide) dX12_reads_201 (v := (M 173 (21 * a2 + (M 174 a3)))) (by rw [hM_N_76, mu_k kd_173 kd_172 rfl, hM_N_61, mu_k kd_173 kd_174 rfl, hM_N_30, mu_k kd_173 kd_175 rfl]) rfl ?_
      have h_77 := Inv.g hI_M kd_173 rfl (21 * a2 + (M 174 a3)) (a := 0) (b := 511) rfl rfl
      refine kx_iload 204 F 8 dX12_reads_202 rfl rfl ?_
      refine kx_Si 207 F (As := [vI (M 173 (21 * a2 + (M 174 a3))), vI r_69]) (st := [vI (21 * a2 + a3 + 1), vR G 173]) sd_X12_326 (e_then G l N_76 (M 173 (21 * a2 + (M 174 a3))) r_69 hI_N_76 (by omega)) ⟨by decide, by decide⟩ rfl rfl (Nat.le_of_ble_eq_true rfl) dX12_reads_204 rfl ?_
      intro r_78 N_79 q_80
      obtain ⟨rfl, q_80c, hz_N_79⟩ := q_80
      refine kx_iast 208 F kd_173 rfl rfl (by omega) (by decide) dX12_reads_207 rfl ?_
      intro N_81 hM_N_81
      have hI_N_81 : Inv true N_81 := Inv.u hI_N_76 hM_N_81 kd_173 (a := 0) (b := 511) rfl rfl rfl (by omega)
      have hF_N_81 : Fr f_e_reads3 M N_81 := Fr.u hF_N_76 hM_N_81 kd_173 rfl
      have e_82 : (N_81 175 a3) = a4 := by rw [hM_N_81, mu_k kd_175 kd_173 rfl, hM_N_76, mu_k kd_175 kd_172 rfl, hM_N_61, mu_k kd_175 kd_174 rfl, hM_N_30, mu_s]
      have e_83 : (N_81 174 (a3 + 1)) = (M 174 (M 174 a3)) := by rw [hM_N_81, mu_k kd_174 kd_173 rfl, hM_N_76, mu_k kd_174 kd_172 rfl, hM_N_61, mu_s]
      have hso : r_4 = zsr q a4 := zsr.of (by omega)
      have ho_84 : r_69 = zovZ (zks q (85 * a1 + 100)) (M 175 (M 174 a3)) a4 (M 173 (21 * a2 + a3)) 3 := hz_N_70.trans (by rw [show N_61 171 = M 171 from (funext (fun j => by rw [hM_N_61, mu_k kd_171 kd_174 rfl, hM_N_30, mu_k kd_171 kd_175 rfl]))]; exact zLK_o hI_M hD hS hU ⟨by omega, by omega⟩ ⟨by omega, by omega⟩ ⟨by omega, by omega⟩)
      exact kx_vret F hQ ⟨hI_N_81, hF_N_81, ⟨(WB.step hW (by omega) (fun j hj => by rw [hM_N_81, mu_k kd_175 kd_173 rfl, hM_N_76, mu_k kd_175 kd_172 rfl, hM_N_61, mu_k kd_175 kd_174 rfl, hM_N_30, mu_i (by omega)]) (by omega) (fun j hj => by rw [hM_N_81, mu_k kd_174 kd_173 rfl, hM_N_76, mu_k kd_174 kd_172 rfl, hM_N_61, mu_i (by omega), hM_N_30, mu_k kd_174 kd_175 rfl]) (by omega)), (zAL.back (y := (21 * a2 + a3 + 1)) (x := (a3 + 1)) (v2 := r_73) (v3 := r_78) (v4 := (M 174 (M 174 a3))) (z := 21 * a2 + a3) (z2 := 21 * a2 + (M 174 a3)) hG (by omega) (by omega) (by omega) (by omega) (by omega) (by omega) (fun j => by rw [hM_N_81, mu_k kd_172 kd_173 rfl, hM_N_76, mu_at, hM_N_61, mu_k kd_172 kd_174 rfl, hM_N_30, mu_k kd_172 kd_175 rfl]) (fun j => by rw [hM_N_81, mu_at, hM_N_76, mu_k kd_173 kd_172 rfl, hM_N_61, mu_k kd_173 kd_174 rfl, hM_N_30, mu_k kd_173 kd_175 rfl]) (fun j => by rw [hM_N_81, mu_k kd_174 kd_173 rfl, hM_N_76, mu_k kd_174 kd_172 rfl, hM_N_61, mu_at, hM_N_30, mu_k kd_174 kd_175 rfl]) (fun j => by rw [hM_N_81, mu_k kd_175 kd_173 rfl, hM_N_76, mu_k kd_175 kd_172 rfl, hM_N_61, mu_k kd_175 kd_174 rfl, hM_N_30, mu_at]) ho_84 hz_N_74 hz_N_79 (by omega))⟩⟩ dX12_reads_208
  · refine kx_istore 16 F 6 (lo' := [some (vR G 163), some (vI a1), some (vI a2), some (vI a3), some (vI a4), some (vI (21 * a2 + a3)), some (vI r_4), none, none]) dX12_reads_14 (by decide) rfl rfl rfl ?_
    have h_85 := WB.bel hW a3 (by omega)
    refine kx_aload_n 17 F 0 dX12_reads_16 rfl rfl rfl ?_
    refine kx_getr 20 F fl_X12_53 kd_163 rfl rfl (j := 23) rfl dX12_reads_17 (v := 174) (uq_174 (Inv.r hI_M kd_163 rfl 23 rfl rfl)) rfl ?_
    refine kx_iload_n 21 F 3 dX12_reads_20 rfl rfl rfl ?_
    refine kx_iald 22 F kd_174 rfl rfl (by omega) (by decide) dX12_reads_21 (v := (M 174 a3)) rfl rfl ?_
    have h_86 := Inv.g hI_M kd_174 rfl a3 (a := (-1)) (b := 19) rfl rfl
    refine kx_istore 24 F 7 (lo' := [some (vR G 163), some (vI a1), some (vI a2), some (vI a3), some (vI a4), some (vI (21 * a2 + a3)), some (vI r_4), some (vI (M 174 a3)), none]) dX12_reads_22 (by decide) rfl rfl rfl ?_
    refine kx_aload_n 25 F 0 dX12_reads_24 rfl rfl rfl ?_
    refine kx_getr 28 F fl_X12_56 kd_163 rfl rfl (j := 24) rfl dX12_reads_25 (v := 175) (uq_175 (Inv.r hI_M kd_163 rfl 24 rfl rfl)) rfl ?_
    refine kx_iload_n 29 F 3 dX12_reads_28 rfl rfl rfl ?_
    refine kx_iload 31 F 4 dX12_reads_29 rfl rfl ?_
    refine kx_iast 32 F kd_175 rfl rfl (by omega) (by decide) dX12_reads_31 rfl ?_
    intro N_87 hM_N_87
    have hI_N_87 : Inv true N_87 := Inv.u hI_M hM_N_87 kd_175 (a := 0) (b := 19) rfl rfl rfl (by omega)
    have hF_N_87 : Fr f_e_reads3 M N_87 := Fr.u hF_M hM_N_87 kd_175 rfl
    refine kx_aload_n 33 F 0 dX12_reads_32 rfl rfl rfl ?_
    refine kx_getr 36 F fl_X12_53 kd_163 rfl rfl (j := 23) rfl dX12_reads_33 (v := 174) (uq_174 (Inv.r hI_N_87 kd_163 rfl 23 rfl rfl)) rfl ?_
    refine kx_iload_n 37 F 3 dX12_reads_36 rfl rfl rfl ?_
    refine kx_iconst 38 F dX12_reads_37 rfl ?_
    refine kx_iadd 39 F (v := a3 + 1) dX12_reads_38 rfl rfl ?_
    refine kx_iload 41 F 6 dX12_reads_39 rfl rfl ?_
    refine kx_if_ne 44 F 48 dX12_reads_41 (by decide) rfl (by omega) (fun h_88 => ?_) (fun h_88 => (by exfalso; omega))
    refine kx_iload 50 F 6 dX12_reads_48 rfl rfl ?_
    refine kx_iconst 51 F dX12_reads_50 rfl ?_
    refine kx_icmp_ne 54 F 70 dX12_reads_51 (by decide) rfl (by omega) (by decide) (fun h_89 => ?_) (fun h_89 => (by exfalso; omega))
    refine kx_iload 72 F 7 dX12_reads_70 rfl rfl ?_
    refine kx_iast 73 F kd_174 rfl rfl (by omega) (by decide) dX12_reads_72 rfl ?_
    intro N_90 hM_N_90
    have hI_N_90 : Inv true N_90 := Inv.u hI_N_87 hM_N_90 kd_174 (a := (-1)) (b := 19) rfl rfl rfl (by omega)
    have hF_N_90 : Fr f_e_reads3 M N_90 := Fr.u hF_N_87 hM_N_90 kd_174 rfl
    refine kx_iload 75 F 6 dX12_reads_73 rfl rfl ?_
    refine kx_if_ne 78 F 121 dX12_reads_75 (by decide) rfl (by omega) (fun h_91 => ?_) (fun h_91 => (by exfalso; omega))
    refine kx_iload 123 F 6 dX12_reads_121 rfl rfl ?_
    refine kx_iconst 124 F dX12_reads_123 rfl ?_
    refine kx_icmp_ne 127 F 209 dX12_reads_124 (by decide) rfl (by omega) (by decide) (fun h_92 => ?_) (fun h_92 => (by exfalso; omega))
    refine kx_aload_n 210 F 0 dX12_reads_209 rfl rfl rfl ?_
    refine kx_getr 213 F fl_X12_47 kd_163 rfl rfl (j := 21) rfl dX12_reads_210 (v := 172) (uq_172 (Inv.r hI_N_90 kd_163 rfl 21 rfl rfl)) rfl ?_
    refine kx_iload 215 F 5 dX12_reads_213 rfl rfl ?_
    refine kx_iconst 216 F dX12_reads_215 rfl ?_
    refine kx_iadd 217 F (v := 21 * a2 + a3 + 1) dX12_reads_216 rfl rfl ?_
    refine kx_aload_n 218 F 0 dX12_reads_217 rfl rfl rfl ?_
    refine kx_getr 221 F fl_X12_47 kd_163 rfl rfl (j := 21) rfl dX12_reads_218 (v := 172) (uq_172 (Inv.r hI_N_90 kd_163 rfl 21 rfl rfl)) rfl ?_
    refine kx_iload 223 F 5 dX12_reads_221 rfl rfl ?_
    refine kx_iald 224 F kd_172 rfl rfl (by omega) (by decide) dX12_reads_223 (v := (M 172 (21 * a2 + a3))) (by rw [hM_N_90, mu_k kd_172 kd_174 rfl, hM_N_87, mu_k kd_172 kd_175 rfl]) rfl ?_
    have h_93 := Inv.g hI_M kd_172 rfl (21 * a2 + a3) (a := 0) (b := 7) rfl rfl
    refine kx_aload_n 225 F 0 dX12_reads_224 rfl rfl rfl ?_
    refine kx_iload_n 226 F 1 dX12_reads_225 rfl rfl rfl ?_
    refine kx_iload 228 F 4 dX12_reads_226 rfl rfl ?_
    refine kx_bipush 230 F dX12_reads_228 (by decide) rfl ?_
    refine kx_Vi 233 (ci := 0) F (As := [vI a1, vI a4, vI 8]) (st := [vI (M 172 (21 * a2 + a3)), vI (21 * a2 + a3 + 1), vR G 172]) vd_X12_323 (e_leads G l N_90 a1 a4 8 hI_N_90 (by omega)) kd_163 rfl rfl rfl ⟨by decide, by decide⟩ rfl rfl (Nat.le_of_ble_eq_true rfl) dX12_reads_230 rfl ?_
    intro r_94 N_95 q_96
    obtain ⟨rfl, q_96c, hz_N_95⟩ := q_96
    refine kx_Si 236 F (As := [vI (M 172 (21 * a2 + a3)), vI r_94]) (st := [vI (21 * a2 + a3 + 1), vR G 172]) sd_X12_332 (e_image3m G l N_90 (M 172 (21 * a2 + a3)) r_94 hI_N_90 (by omega)) ⟨by decide, by decide⟩ rfl rfl (Nat.le_of_ble_eq_true rfl) dX12_reads_233 rfl ?_
    intro r_97 N_98 q_99
    obtain ⟨rfl, q_99c, hz_N_98⟩ := q_99
    refine kx_iast 237 F kd_172 rfl rfl (by omega) (by decide) dX12_reads_236 rfl ?_
    intro N_100 hM_N_100
    have hI_N_100 : Inv true N_100 := Inv.u hI_N_90 hM_N_100 kd_172 (a := 0) (b := 7) rfl rfl rfl (by omega)
    have hF_N_100 : Fr f_e_reads3 M N_100 := Fr.u hF_N_90 hM_N_100 kd_172 rfl
    refine kx_aload_n 238 F 0 dX12_reads_237 rfl rfl rfl ?_
    refine kx_getr 241 F fl_X12_50 kd_163 rfl rfl (j := 22) rfl dX12_reads_238 (v := 173) (uq_173 (Inv.r hI_N_100 kd_163 rfl 22 rfl rfl)) rfl ?_
    refine kx_iload 243 F 5 dX12_reads_241 rfl rfl ?_
    refine kx_iconst 244 F dX12_reads_243 rfl ?_
    refine kx_iadd 245 F (v := 21 * a2 + a3 + 1) dX12_reads_244 rfl rfl ?_
    refine kx_aload_n 246 F 0 dX12_reads_245 rfl rfl rfl ?_
    refine kx_getr 249 F fl_X12_50 kd_163 rfl rfl (j := 22) rfl dX12_reads_246 (v := 173) (uq_173 (Inv.r hI_N_100 kd_163 rfl 22 rfl rfl)) rfl ?_
    refine kx_iload 251 F 5 dX12_reads_249 rfl rfl ?_
    refine kx_iald 252 F kd_173 rfl rfl (by omega) (by decide) dX12_reads_251 (v := (M 173 (21 * a2 + a3))) (by rw [hM_N_100, mu_k kd_173 kd_172 rfl, hM_N_90, mu_k kd_173 kd_174 rfl, hM_N_87, mu_k kd_173 kd_175 rfl]) rfl ?_
    have h_101 := Inv.g hI_M kd_173 rfl (21 * a2 + a3) (a := 0) (b := 511) rfl rfl
    refine kx_aload_n 253 F 0 dX12_reads_252 rfl rfl rfl ?_
    refine kx_iload_n 254 F 1 dX12_reads_253 rfl rfl rfl ?_
    refine kx_iload 256 F 4 dX12_reads_254 rfl rfl ?_
    refine kx_bipush 258 F dX12_reads_256 (by decide) rfl ?_
    refine kx_Vi 261 (ci := 0) F (As := [vI a1, vI a4, vI 8]) (st := [vI (M 173 (21 * a2 + a3)), vI (21 * a2 + a3 + 1), vR G 173]) vd_X12_323 (e_leads G l N_100 a1 a4 8 hI_N_100 (by omega)) kd_163 rfl rfl rfl ⟨by decide, by decide⟩ rfl rfl (Nat.le_of_ble_eq_true rfl) dX12_reads_258 rfl ?_
    intro r_102 N_103 q_104
    obtain ⟨rfl, q_104c, hz_N_103⟩ := q_104
    refine kx_Si 264 F (As := [vI (M 173 (21 * a2 + a3)), vI r_102]) (st := [vI (21 * a2 + a3 + 1), vR G 173]) sd_X12_326 (e_then G l N_100 (M 173 (21 * a2 + a3)) r_102 hI_N_100 (by omega)) ⟨by decide, by decide⟩ rfl rfl (Nat.le_of_ble_eq_true rfl) dX12_reads_261 rfl ?_
    intro r_105 N_106 q_107
    obtain ⟨rfl, q_107c, hz_N_106⟩ := q_107
    refine kx_iast 265 F kd_173 rfl rfl (by omega) (by decide) dX12_reads_264 rfl ?_
    intro N_108 hM_N_108
    have hI_N_108 : Inv true N_108 := Inv.u hI_N_100 hM_N_108 kd_173 (a := 0) (b := 511) rfl rfl rfl (by omega)
    have hF_N_108 : Fr f_e_reads3 M N_108 := Fr.u hF_N_100 hM_N_108 kd_173 rfl
    have e_109 : (N_108 175 a3) = a4 := by rw [hM_N_108, mu_k kd_175 kd_173 rfl, hM_N_100, mu_k kd_175 kd_172 rfl, hM_N_90, mu_k kd_175 kd_174 rfl, hM_N_87, mu_s]
    have e_110 : (N_108 174 (a3 + 1)) = (M 174 a3) := by rw [hM_N_108, mu_k kd_174 kd_173 rfl, hM_N_100, mu_k kd_174 kd_172 rfl, hM_N_90, mu_s]
    have hso : r_4 = zsr q a4 := zsr.of (by omega)
    have hl_111 : r_94 = zst q (85 * a1 + 100) a4 := hz_N_95.trans (by rw [show N_90 171 = M 171 from (funext (fun j => by rw [hM_N_90, mu_k kd_171 kd_174 rfl, hM_N_87, mu_k kd_171 kd_175 rfl]))]; exact zLK_s hI_M hD hS hU hC ⟨by omega, by omega⟩ ⟨by omega, by omega⟩ (by rw [if_neg (by omega)]))
    have hl_112 : r_102 = zst q (85 * a1 + 100) a4 := hz_N_103.trans (by rw [show N_100 171 = M 171 from (funext (fun j => by rw [hM_N_100, mu_k kd_171 kd_172 rfl, hM_N_90, mu_k kd_171 kd_174 rfl, hM_N_87, mu_k kd_171 kd_175 rfl]))]; exact zLK_s hI_M hD hS hU hC ⟨by omega, by omega⟩ ⟨by omega, by omega⟩ (by rw [if_neg (by omega)]))
    exact kx_vret F hQ ⟨hI_N_108, hF_N_108, ⟨(WB.step hW (by omega) (fun j hj => by rw [hM_N_108, mu_k kd_175 kd_173 rfl, hM_N_100, mu_k kd_175 kd_172 rfl, hM_N_90, mu_k kd_175 kd_174 rfl, hM_N_87, mu_i (by omega)]) (by omega) (fun j hj => by rw [hM_N_108, mu_k kd_174 kd_173 rfl, hM_N_100, mu_k kd_174 kd_172 rfl, hM_N_90, mu_i (by omega), hM_N_87, mu_k kd_174 kd_175 rfl]) (by omega)), (zAL.one (y := (21 * a2 + a3 + 1)) (x := (a3 + 1)) (v2 := r_97) (v3 := r_105) (v4 := (M 174 a3)) (z := 21 * a2 + a3) hG (by omega) (fun _ => by omega) (by omega) (by omega) (by omega) (fun j => by rw [hM_N_108, mu_k kd_172 kd_173 rfl, hM_N_100, mu_at, hM_N_90, mu_k kd_172 kd_174 rfl, hM_N_87, mu_k kd_172 kd_175 rfl]) (fun j => by rw [hM_N_108, mu_at, hM_N_100, mu_k kd_173 kd_172 rfl, hM_N_90, mu_k kd_173 kd_174 rfl, hM_N_87, mu_k kd_173 kd_175 rfl]) (fun j => by rw [hM_N_108, mu_k kd_174 kd_173 rfl, hM_N_100, mu_k kd_174 kd_172 rfl, hM_N_90, mu_at, hM_N_87, mu_k kd_174 kd_175 rfl]) (fun j => by rw [hM_N_108, mu_k kd_175 kd_173 rfl, hM_N_100, mu_k kd_175 kd_172 rfl, hM_N_90, mu_k kd_175 kd_174 rfl, hM_N_87, mu_at]) (hz_N_98.trans (by rw [hl_111])) (hz_N_106.trans (by rw [hl_112])) (by omega))⟩⟩ dX12_reads_265
abbrev f_e_endsBy3 : List (Nat × Int) := [(72, -1), (73, -1), (74, -1), (75, -1), (76, -1)]
set_option maxHeartbeats 4000000 in
set_option maxRecDepth 100000 in
theorem e_endsBy3 (G : KG) (l : Launch) (M : Mem) (a1 : Int) (a2 : Int) (a3 : Int) (hI_M : Inv true M) (hpre : -2147483648 ≤ a1 ∧ a1 ≤ 2147483647 ∧ -2147483648 ≤ a2 ∧ a2 ≤ 2147483647 ∧ -2147483648 ≤ a3 ∧ a3 ≤ 2147483647 ∧ 0 ≤ a1 ∧ a1 ≤ 1 ∧ 0 ≤ a2 ∧ a2 ≤ 3 ∧ 0 ≤ a3 ∧ a3 ≤ 20) (hW : WT M a2 a3) (q : Int → Int) (hS : zRN (M 164) q) (hU : zRU (M 164) q) (hC : zQC q) (ha : a1 < q 3) : KC true G l yX12_endsBy cX12_endsBy 5 (some .int) (4, 103) [vR G 163, vI a1, vI a2, vI a3] M (fun A => kQi true G A (fun (r : Int) (N : Mem) => Inv true N ∧ Fr f_e_endsBy3 M N ∧ (0 ≤ r ∧ r ≤ 7) ∧ (r = zfo q (85 * a1 + 100) (fun j => M 168 (60 * a2 + j)) a3.toNat 7))) := by
  refine kx_met (lo := [some (vR G 163), some (vI a1), some (vI a2), some (vI a3), none]) (by decide) (Nat.le_of_ble_eq_true rfl) rfl ?_
  intro X F hQ
  have hF_M : Fr f_e_endsBy3 M M := Fr.rf _ _
  have hSn := hS.u
  refine kx_aload_n 1 F 0 dX12_endsBy_0 rfl rfl rfl ?_
  refine kx_Vv 4 (ci := 0) F (As := []) (st := []) vd_X12_342 (e_laysRules G l M  hI_M) kd_163 rfl rfl rfl ⟨by decide, by decide⟩ rfl rfl (Nat.le_of_ble_eq_true rfl) dX12_endsBy_1 rfl ?_
  intro N_1 q_2
  obtain ⟨hI_N_1, hG_N_1, hd_N_1⟩ := q_2
  have hF_N_1 : Fr f_e_endsBy3 M N_1 := Fr.c hF_M hG_N_1 rfl
  refine kx_aload_n 5 F 0 dX12_endsBy_4 rfl rfl rfl ?_
  refine kx_iload_n 6 F 1 dX12_endsBy_5 rfl rfl rfl ?_
  refine kx_iconst 7 F dX12_endsBy_6 rfl ?_
  refine kx_Vv 10 (ci := 0) F (As := [vI a1, vI 0]) (st := []) vd_X12_345 (e_beginsWord3 G l N_1 a1 0 hI_N_1 (by omega) q (by rw [show N_1 164 = M 164 from (funext (fun j => by rw [Fr.e hG_N_1 kd_164 _ rfl]))]; exact hS) (by rw [show N_1 164 = M 164 from (funext (fun j => by rw [Fr.e hG_N_1 kd_164 _ rfl]))]; exact hU) (by omega)) kd_163 rfl rfl rfl ⟨by decide, by decide⟩ rfl rfl (Nat.le_of_ble_eq_true rfl) dX12_endsBy_7 rfl ?_
  intro N_3 q_4
  obtain ⟨hI_N_3, hG_N_3, ⟨hw_N_3, hal_N_3⟩⟩ := q_4
  have hF_N_3 : Fr f_e_endsBy3 M N_3 := Fr.c hF_N_1 hG_N_3 rfl
  refine kx_iconst 11 F dX12_endsBy_10 rfl ?_
  refine kx_istore 13 F 4 (lo' := [some (vR G 163), some (vI a1), some (vI a2), some (vI a3), some (vI 0)]) dX12_endsBy_11 (by decide) rfl rfl rfl ?_
  have L_140 : ∀ (n_141 : Nat) (x4_138 : Int) (N_139 : Mem), Inv true N_139 → Fr f_e_endsBy3 M N_139 → WB N_139 x4_138 → LD N_139 → zAL N_139 0 x4_138 (zfo q (85 * a1 + 100) (fun j => M 168 (60 * a2 + j)) x4_138.toNat) → 0 ≤ x4_138 ∧ x4_138 ≤ 20 ∧ x4_138 ≤ a3 → (20 - (x4_138)).toNat = n_141 → KJ true G X N_139 13 [some (vR G 163), some (vI a1), some (vI a2), some (vI a3), some (vI x4_138)] [] := by
    intro n_141
    refine Nat.strongRecOn n_141 ?_
    intro n_141 ih_142 x4_138 N_139 hI_N_139 hF_N_139 hp_145 hp_146 hp_147 h_143 hm_144
    refine kx_iload 15 F 4 dX12_endsBy_13 rfl rfl ?_
    refine kx_iload_n 16 F 3 dX12_endsBy_15 rfl rfl rfl ?_
    refine kx_icmp_ge 19 F 40 dX12_endsBy_16 (by decide) rfl (by omega) (by omega) (fun h_148 => ?_) (fun h_148 => ?_)
    · refine kx_aload_n 41 F 0 dX12_endsBy_40 rfl rfl rfl ?_
      refine kx_getr 44 F fl_X12_47 kd_163 rfl rfl (j := 21) rfl dX12_endsBy_41 (v := 172) (uq_172 (Inv.r hI_N_139 kd_163 rfl 21 rfl rfl)) rfl ?_
      refine kx_iload_n 45 F 3 dX12_endsBy_44 rfl rfl rfl ?_
      refine kx_iald 46 F kd_172 rfl rfl (by omega) (by decide) dX12_endsBy_45 (v := (N_139 172 a3)) rfl rfl ?_
      have h_149 := Inv.g hI_N_139 kd_172 rfl a3 (a := 0) (b := 7) rfl rfl
      exact kx_iret F hQ ⟨hI_N_139, hF_N_139, (by omega), (by have h := zAL.r7 (n := a3) (y := a3) hp_147 (by omega) (by omega); omega)⟩ dX12_endsBy_46
    · have h_150 := hW x4_138 (by omega) (by omega)
      have h_151 := Inv.g hI_M kd_164 rfl 0 (a := 0) (b := 2) (at_c 0 0 (o := 0) (lo := 0) (hi := 2) (by omega) (by decide) (by decide) (by decide)).1 (at_c 0 0 (o := 0) (lo := 0) (hi := 2) (by omega) (by decide) (by decide) (by decide)).2
      have h_152 := Inv.g hI_M kd_164 rfl 1 (a := 0) (b := 2) (at_c 1 0 (o := 1) (lo := 0) (hi := 2) (by omega) (by decide) (by decide) (by decide)).1 (at_c 1 0 (o := 1) (lo := 0) (hi := 2) (by omega) (by decide) (by decide) (by decide)).2
      have h_153 := Inv.g hI_M kd_164 rfl 2 (a := 0) (b := 2) (at_c 2 0 (o := 2) (lo := 0) (hi := 2) (by omega) (by decide) (by decide) (by decide)).1 (at_c 2 0 (o := 2) (lo := 0) (hi := 2) (by omega) (by decide) (by decide) (by decide)).2
      refine kx_aload_n 20 F 0 dX12_endsBy_19 rfl rfl rfl ?_
      refine kx_iload_n 21 F 1 dX12_endsBy_20 rfl rfl rfl ?_
      refine kx_iconst 22 F dX12_endsBy_21 rfl ?_
      refine kx_iload 24 F 4 dX12_endsBy_22 rfl rfl ?_
      refine kx_aload_n 25 F 0 dX12_endsBy_24 rfl rfl rfl ?_
      refine kx_iload_n 26 F 2 dX12_endsBy_25 rfl rfl rfl ?_
      refine kx_iload 28 F 4 dX12_endsBy_26 rfl rfl ?_
      have e_154 : (N_139 168 (60 * a2 + x4_138)) = (M 168 (60 * a2 + x4_138)) := by rw [Fr.e hF_N_139 kd_168 _ rfl]
      refine kx_Vi 31 (ci := 0) F (As := [vI a2, vI x4_138]) (st := [vI x4_138, vI 0, vI a1, vR G 163]) vd_X12_349 (c_letterAtE G l N_139 a2 x4_138 hI_N_139 (by omega)) kd_163 rfl rfl rfl ⟨by decide, by decide⟩ rfl rfl (Nat.le_of_ble_eq_true rfl) dX12_endsBy_28 rfl ?_
      intro r_156 N_157 q_158
      obtain ⟨rfl, q_158c⟩ := q_158
      refine kx_topi (e' := (N_139 168 (60 * a2 + x4_138))) (by omega) ?_
      refine kx_Vv 34 (ci := 0) F (As := [vI a1, vI 0, vI x4_138, vI (N_139 168 (60 * a2 + x4_138))]) (st := []) vd_X12_352 (e_reads3 G l N_139 a1 0 x4_138 (N_139 168 (60 * a2 + x4_138)) hI_N_139 (by omega) (WB.mono hp_145 (by omega)) q (zfo q (85 * a1 + 100) (fun j => M 168 (60 * a2 + j)) x4_138.toNat) (by rw [show N_139 164 = M 164 from (funext (fun j => by rw [Fr.e hF_N_139 kd_164 _ rfl]))]; exact hS) (by rw [show N_139 164 = M 164 from (funext (fun j => by rw [Fr.e hF_N_139 kd_164 _ rfl]))]; exact hU) hC hp_146 ha hp_147) kd_163 rfl rfl rfl ⟨by decide, by decide⟩ rfl rfl (Nat.le_of_ble_eq_true rfl) dX12_endsBy_31 rfl ?_
      intro N_163 q_164
      obtain ⟨hI_N_163, hG_N_163, ⟨hw_N_163, hal_N_163⟩⟩ := q_164
      have hF_N_163 : Fr f_e_endsBy3 M N_163 := Fr.c hF_N_139 hG_N_163 rfl
      refine kx_iinc 37 F 4 (v := x4_138 + 1) (lo' := [some (vR G 163), some (vI a1), some (vI a2), some (vI a3), some (vI (x4_138 + 1))]) dX12_endsBy_34 rfl (by omega) (by decide) rfl rfl rfl ?_
      refine kx_goto 13 F dX12_endsBy_37 (by decide) ?_
      have hp_165 : LD N_163  := LD.fr hp_146 hG_N_163 rfl rfl
      exact ih_142 _ (by omega) (x4_138 + 1) N_163 hI_N_163 hF_N_163 (WB.mono hw_N_163 (by omega)) hp_165 (zAL.fo hal_N_163 (by omega) (by omega) (congrFun (Fr.fn hF_N_139 kd_168 rfl) _)) (by omega) rfl
  have hp_166 : LD N_3  := LD.fr hd_N_1 hG_N_3 rfl rfl
  exact L_140 _ 0 N_3 hI_N_3 hF_N_3 (WB.mono hw_N_3 (by omega)) hp_166 (hal_N_3 _) (by omega) rfl
abbrev f_e_ends3m : List (Nat × Int) := [(64, 2), (72, -1), (73, -1), (74, -1), (75, -1), (76, -1)]
set_option maxHeartbeats 4000000 in
set_option maxRecDepth 100000 in
theorem e_ends3m (G : KG) (l : Launch) (M : Mem) (a1 : Int) (a2 : Int) (a3 : Int) (hI_M : Inv true M) (hpre : -2147483648 ≤ a1 ∧ a1 ≤ 2147483647 ∧ -2147483648 ≤ a2 ∧ a2 ≤ 2147483647 ∧ -2147483648 ≤ a3 ∧ a3 ≤ 2147483647) (q : Int → Int) (hS : zRN (M 164) q) (hU : zRU (M 164) q) (hC : zQC q) : KC true G l yX12_ends cX12_ends 5 (some .int) (5, 127) [vR G 163, vI a1, vI a2, vI a3] M (fun A => kQi true G A (fun (r : Int) (N : Mem) => Inv true N ∧ Fr f_e_ends3m M N ∧ (r ≥ -1 ∧ r ≤ 7) ∧ (zEW (M 168) q a1 a2 a3 (M 167 a2) (M 164 0 + M 164 1 + M 164 2) r))) := by
  refine kx_met (lo := [some (vR G 163), some (vI a1), some (vI a2), some (vI a3), none]) (by decide) (Nat.le_of_ble_eq_true rfl) rfl ?_
  intro X F hQ
  have hF_M : Fr f_e_ends3m M M := Fr.rf _ _
  have hSn := hS.u
  have h_1 := Inv.g hI_M kd_164 rfl 0 (a := 0) (b := 2) (at_c 0 0 (o := 0) (lo := 0) (hi := 2) (by omega) (by decide) (by decide) (by decide)).1 (at_c 0 0 (o := 0) (lo := 0) (hi := 2) (by omega) (by decide) (by decide) (by decide)).2
  have h_2 := Inv.g hI_M kd_164 rfl 1 (a := 0) (b := 2) (at_c 1 0 (o := 1) (lo := 0) (hi := 2) (by omega) (by decide) (by decide) (by decide)).1 (at_c 1 0 (o := 1) (lo := 0) (hi := 2) (by omega) (by decide) (by decide) (by decide)).2
  have h_3 := Inv.g hI_M kd_164 rfl 2 (a := 0) (b := 2) (at_c 2 0 (o := 2) (lo := 0) (hi := 2) (by omega) (by decide) (by decide) (by decide)).1 (at_c 2 0 (o := 2) (lo := 0) (hi := 2) (by omega) (by decide) (by decide) (by decide)).2
  have ha_4 : atlo 3 = 0 ∧ athi 3 = 2 := at_c 3 0 (o := 3) (lo := 0) (hi := 2) (by omega) (by decide) (by decide) (by decide)
  have h_5 := Inv.g hI_M kd_164 rfl 3 (a := 0) (b := 2) ha_4.1 ha_4.2
  refine kx_aload_n 1 F 0 dX12_ends_0 rfl rfl rfl ?_
  refine kx_iload_n 2 F 1 dX12_ends_1 rfl rfl rfl ?_
  refine kx_Vi 5 (ci := 0) F (As := [vI a1]) (st := []) vd_X12_282 (e_X12_isAutomaton G l M a1 hI_M (by omega)) kd_163 rfl rfl rfl ⟨by decide, by decide⟩ rfl rfl (Nat.le_of_ble_eq_true rfl) dX12_ends_2 rfl ?_
  intro r_6 N_7 q_8
  obtain ⟨rfl, q_8c⟩ := q_8
  rcases q_8c with q_8c | q_8c | q_8c
  · refine kx_if_eq 8 F 17 dX12_ends_5 (by decide) rfl (by omega) (fun h_9 => (by exfalso; omega)) (fun h_9 => ?_)
    refine kx_aload_n 9 F 0 dX12_ends_8 rfl rfl rfl ?_
    refine kx_iload_n 10 F 2 dX12_ends_9 rfl rfl rfl ?_
    refine kx_iload_n 11 F 3 dX12_ends_10 rfl rfl rfl ?_
    refine kx_Vi 14 (ci := 0) F (As := [vI a2, vI a3]) (st := []) vd_X12_358 (e_isWordCall3 G l M a2 a3 hI_M (by omega)) kd_163 rfl rfl rfl ⟨by decide, by decide⟩ rfl rfl (Nat.le_of_ble_eq_true rfl) dX12_ends_11 rfl ?_
    intro r_10 N_11 q_12
    obtain ⟨rfl, q_12c⟩ := q_12
    rcases q_12c with q_12c | q_12c | q_12c | q_12c | q_12c
    · refine kx_if_ne 17 F 23 dX12_ends_14 (by decide) rfl (by omega) (fun h_13 => ?_) (fun h_13 => (by exfalso; omega))
      refine kx_aload_n 24 F 0 dX12_ends_23 rfl rfl rfl ?_
      refine kx_iload_n 25 F 2 dX12_ends_24 rfl rfl rfl ?_
      refine kx_iload_n 26 F 3 dX12_ends_25 rfl rfl rfl ?_
      refine kx_Vi 29 (ci := 0) F (As := [vI a2, vI a3]) (st := []) vd_X12_361 (e_wrongWord3 G l M a2 a3 hI_M (by omega)) kd_163 rfl rfl rfl ⟨by decide, by decide⟩ rfl rfl (Nat.le_of_ble_eq_true rfl) dX12_ends_26 rfl ?_
      intro r_14 N_15 q_16
      obtain ⟨rfl, q_16c, hz_N_15⟩ := q_16
      rcases q_16c with q_16c | q_16c
      · refine kx_istore 31 F 4 (lo' := [some (vR G 163), some (vI a1), some (vI a2), some (vI a3), some (vI r_14)]) dX12_ends_29 (by decide) rfl rfl rfl ?_
        refine kx_iload 33 F 4 dX12_ends_31 rfl rfl ?_
        refine kx_if_le 36 F 45 dX12_ends_33 (by decide) rfl (by omega) (fun h_17 => ?_) (fun h_17 => (by exfalso; omega))
        refine kx_aload_n 46 F 0 dX12_ends_45 rfl rfl rfl ?_
        refine kx_aload_n 47 F 0 dX12_ends_46 rfl rfl rfl ?_
        refine kx_iload_n 48 F 1 dX12_ends_47 rfl rfl rfl ?_
        refine kx_iload_n 49 F 2 dX12_ends_48 rfl rfl rfl ?_
        refine kx_iload_n 50 F 3 dX12_ends_49 rfl rfl rfl ?_
        refine kx_Vi 53 (ci := 0) F (As := [vI a1, vI a2, vI a3]) (st := [vR G 163]) vd_X12_364 (e_endsBy3 G l M a1 a2 a3 hI_M (by omega) (hz_N_15.1 (by omega)) q hS hU hC (by omega)) kd_163 rfl rfl rfl ⟨by decide, by decide⟩ rfl rfl (Nat.le_of_ble_eq_true rfl) dX12_ends_50 rfl ?_
        intro r_18 N_19 q_20
        obtain ⟨hI_N_19, hG_N_19, q_20c, heb_N_19⟩ := q_20
        have hF_N_19 : Fr f_e_ends3m M N_19 := Fr.c hF_M hG_N_19 rfl
        refine kx_Vi 56 (ci := 0) F (As := [vI r_18]) (st := []) vd_X12_127 (c_X12_gives G l N_19 r_18 hI_N_19 (by omega)) kd_163 rfl rfl rfl ⟨by decide, by decide⟩ rfl rfl (Nat.le_of_ble_eq_true rfl) dX12_ends_53 rfl ?_
        intro r_21 N_22 q_23
        obtain ⟨hI_N_22, hG_N_22, q_23c⟩ := q_23
        have hF_N_22 : Fr f_e_ends3m M N_22 := Fr.c hF_N_19 hG_N_22 rfl
        refine kx_topi (e' := r_18) (by omega) ?_
        exact kx_iret F hQ ⟨hI_N_22, hF_N_22, (by omega), (Or.inl ⟨⟨by omega, by omega, zWR.y hz_N_15.2 (by omega)⟩, by have h := heb_N_19; omega⟩)⟩ dX12_ends_56
      · refine kx_istore 31 F 4 (lo' := [some (vR G 163), some (vI a1), some (vI a2), some (vI a3), some (vI r_14)]) dX12_ends_29 (by decide) rfl rfl rfl ?_
        refine kx_iload 33 F 4 dX12_ends_31 rfl rfl ?_
        refine kx_if_le 36 F 45 dX12_ends_33 (by decide) rfl (by omega) (fun h_24 => (by exfalso; omega)) (fun h_24 => ?_)
        refine kx_aload_n 37 F 0 dX12_ends_36 rfl rfl rfl ?_
        refine kx_iload 39 F 4 dX12_ends_37 rfl rfl ?_
        refine kx_Vi 42 (ci := 0) F (As := [vI r_14]) (st := []) vd_X12_123 (c_X12_refuse G l M r_14 hI_M (by omega)) kd_163 rfl rfl rfl ⟨by decide, by decide⟩ rfl rfl (Nat.le_of_ble_eq_true rfl) dX12_ends_39 rfl ?_
        intro r_25 N_26 q_27
        obtain ⟨hI_N_26, hG_N_26, q_27c⟩ := q_27
        have hF_N_26 : Fr f_e_ends3m M N_26 := Fr.c hF_M hG_N_26 rfl
        subst q_27c
        refine kx_goto 56 F dX12_ends_42 (by decide) ?_
        exact kx_iret F hQ ⟨hI_N_26, hF_N_26, (by omega), (Or.inr ⟨fun h => (zWR.n hz_N_15.2 (by omega)) ⟨rfl, h.2.2⟩, by omega⟩)⟩ dX12_ends_56
    · refine kx_if_ne 17 F 23 dX12_ends_14 (by decide) rfl (by omega) (fun h_28 => (by exfalso; omega)) (fun h_28 => ?_)
      refine kx_aload_n 18 F 0 dX12_ends_17 rfl rfl rfl ?_
      refine kx_iconst 19 F dX12_ends_18 rfl ?_
      refine kx_Vi 22 (ci := 0) F (As := [vI 1]) (st := []) vd_X12_123 (c_X12_refuse G l M 1 hI_M (by omega)) kd_163 rfl rfl rfl ⟨by decide, by decide⟩ rfl rfl (Nat.le_of_ble_eq_true rfl) dX12_ends_19 rfl ?_
      intro r_29 N_30 q_31
      obtain ⟨hI_N_30, hG_N_30, q_31c⟩ := q_31
      have hF_N_30 : Fr f_e_ends3m M N_30 := Fr.c hF_M hG_N_30 rfl
      subst q_31c
      exact kx_iret F hQ ⟨hI_N_30, hF_N_30, (by omega), (Or.inr ⟨fun h => by have h1 := h.1; have h2 := h.2.1; have h3 := h.2.2.1; have h4 := h.2.2.2.1; have h5 := h.2.2.2.2.1; have h6 := h.2.2.2.2.2.1; clear h; omega, by omega⟩)⟩ dX12_ends_22
    · refine kx_if_ne 17 F 23 dX12_ends_14 (by decide) rfl (by omega) (fun h_32 => (by exfalso; omega)) (fun h_32 => ?_)
      refine kx_aload_n 18 F 0 dX12_ends_17 rfl rfl rfl ?_
      refine kx_iconst 19 F dX12_ends_18 rfl ?_
      refine kx_Vi 22 (ci := 0) F (As := [vI 1]) (st := []) vd_X12_123 (c_X12_refuse G l M 1 hI_M (by omega)) kd_163 rfl rfl rfl ⟨by decide, by decide⟩ rfl rfl (Nat.le_of_ble_eq_true rfl) dX12_ends_19 rfl ?_
      intro r_33 N_34 q_35
      obtain ⟨hI_N_34, hG_N_34, q_35c⟩ := q_35
      have hF_N_34 : Fr f_e_ends3m M N_34 := Fr.c hF_M hG_N_34 rfl
      subst q_35c
      exact kx_iret F hQ ⟨hI_N_34, hF_N_34, (by omega), (Or.inr ⟨fun h => by have h1 := h.1; have h2 := h.2.1; have h3 := h.2.2.1; have h4 := h.2.2.2.1; have h5 := h.2.2.2.2.1; have h6 := h.2.2.2.2.2.1; clear h; omega, by omega⟩)⟩ dX12_ends_22
    · refine kx_if_ne 17 F 23 dX12_ends_14 (by decide) rfl (by omega) (fun h_36 => (by exfalso; omega)) (fun h_36 => ?_)
      refine kx_aload_n 18 F 0 dX12_ends_17 rfl rfl rfl ?_
      refine kx_iconst 19 F dX12_ends_18 rfl ?_
      refine kx_Vi 22 (ci := 0) F (As := [vI 1]) (st := []) vd_X12_123 (c_X12_refuse G l M 1 hI_M (by omega)) kd_163 rfl rfl rfl ⟨by decide, by decide⟩ rfl rfl (Nat.le_of_ble_eq_true rfl) dX12_ends_19 rfl ?_
      intro r_37 N_38 q_39
      obtain ⟨hI_N_38, hG_N_38, q_39c⟩ := q_39
      have hF_N_38 : Fr f_e_ends3m M N_38 := Fr.c hF_M hG_N_38 rfl
      subst q_39c
      exact kx_iret F hQ ⟨hI_N_38, hF_N_38, (by omega), (Or.inr ⟨fun h => by have h1 := h.1; have h2 := h.2.1; have h3 := h.2.2.1; have h4 := h.2.2.2.1; have h5 := h.2.2.2.2.1; have h6 := h.2.2.2.2.2.1; clear h; omega, by omega⟩)⟩ dX12_ends_22
    · refine kx_if_ne 17 F 23 dX12_ends_14 (by decide) rfl (by omega) (fun h_40 => (by exfalso; omega)) (fun h_40 => ?_)
      refine kx_aload_n 18 F 0 dX12_ends_17 rfl rfl rfl ?_
      refine kx_iconst 19 F dX12_ends_18 rfl ?_
      refine kx_Vi 22 (ci := 0) F (As := [vI 1]) (st := []) vd_X12_123 (c_X12_refuse G l M 1 hI_M (by omega)) kd_163 rfl rfl rfl ⟨by decide, by decide⟩ rfl rfl (Nat.le_of_ble_eq_true rfl) dX12_ends_19 rfl ?_
      intro r_41 N_42 q_43
      obtain ⟨hI_N_42, hG_N_42, q_43c⟩ := q_43
      have hF_N_42 : Fr f_e_ends3m M N_42 := Fr.c hF_M hG_N_42 rfl
      subst q_43c
      exact kx_iret F hQ ⟨hI_N_42, hF_N_42, (by omega), (Or.inr ⟨fun h => by have h1 := h.1; have h2 := h.2.1; have h3 := h.2.2.1; have h4 := h.2.2.2.1; have h5 := h.2.2.2.2.1; have h6 := h.2.2.2.2.2.1; clear h; omega, by omega⟩)⟩ dX12_ends_22
  · refine kx_if_eq 8 F 17 dX12_ends_5 (by decide) rfl (by omega) (fun h_44 => ?_) (fun h_44 => (by exfalso; omega))
    refine kx_aload_n 18 F 0 dX12_ends_17 rfl rfl rfl ?_
    refine kx_iconst 19 F dX12_ends_18 rfl ?_
    refine kx_Vi 22 (ci := 0) F (As := [vI 1]) (st := []) vd_X12_123 (c_X12_refuse G l M 1 hI_M (by omega)) kd_163 rfl rfl rfl ⟨by decide, by decide⟩ rfl rfl (Nat.le_of_ble_eq_true rfl) dX12_ends_19 rfl ?_
    intro r_45 N_46 q_47
    obtain ⟨hI_N_46, hG_N_46, q_47c⟩ := q_47
    have hF_N_46 : Fr f_e_ends3m M N_46 := Fr.c hF_M hG_N_46 rfl
    subst q_47c
    exact kx_iret F hQ ⟨hI_N_46, hF_N_46, (by omega), (Or.inr ⟨fun h => by have h1 := h.1; have h2 := h.2.1; have h3 := h.2.2.1; have h4 := h.2.2.2.1; have h5 := h.2.2.2.2.1; have h6 := h.2.2.2.2.2.1; clear h; omega, by omega⟩)⟩ dX12_ends_22
  · refine kx_if_eq 8 F 17 dX12_ends_5 (by decide) rfl (by omega) (fun h_48 => ?_) (fun h_48 => (by exfalso; omega))
    refine kx_aload_n 18 F 0 dX12_ends_17 rfl rfl rfl ?_
    refine kx_iconst 19 F dX12_ends_18 rfl ?_
    refine kx_Vi 22 (ci := 0) F (As := [vI 1]) (st := []) vd_X12_123 (c_X12_refuse G l M 1 hI_M (by omega)) kd_163 rfl rfl rfl ⟨by decide, by decide⟩ rfl rfl (Nat.le_of_ble_eq_true rfl) dX12_ends_19 rfl ?_
    intro r_49 N_50 q_51
    obtain ⟨hI_N_50, hG_N_50, q_51c⟩ := q_51
    have hF_N_50 : Fr f_e_ends3m M N_50 := Fr.c hF_M hG_N_50 rfl
    subst q_51c
    exact kx_iret F hQ ⟨hI_N_50, hF_N_50, (by omega), (Or.inr ⟨fun h => by have h1 := h.1; have h2 := h.2.1; have h3 := h.2.2.1; have h4 := h.2.2.2.1; have h5 := h.2.2.2.2.1; have h6 := h.2.2.2.2.2.1; clear h; omega, by omega⟩)⟩ dX12_ends_22
abbrev f_e_takes3m : List (Nat × Int) := [(64, 2), (72, -1), (73, -1), (74, -1), (75, -1), (76, -1)]
set_option maxHeartbeats 4000000 in
set_option maxRecDepth 100000 in
theorem e_takes3m (G : KG) (l : Launch) (M : Mem) (a1 : Int) (a2 : Int) (a3 : Int) (hI_M : Inv true M) (hpre : -2147483648 ≤ a1 ∧ a1 ≤ 2147483647 ∧ -2147483648 ≤ a2 ∧ a2 ≤ 2147483647 ∧ -2147483648 ≤ a3 ∧ a3 ≤ 2147483647) (q : Int → Int) (hS : zRN (M 164) q) (hU : zRU (M 164) q) (hC : zQC q) : KC true G l yX12_takes cX12_takes 5 (some .int) (5, 127) [vR G 163, vI a1, vI a2, vI a3] M (fun A => kQi true G A (fun (r : Int) (N : Mem) => Inv true N ∧ Fr f_e_takes3m M N ∧ (r ≥ -1 ∧ r ≤ 1) ∧ (zTAK (M 168) q a1 a2 a3 (M 167 a2) (M 164 0 + M 164 1 + M 164 2) r))) := by
  refine kx_met (lo := [some (vR G 163), some (vI a1), some (vI a2), some (vI a3), none]) (by decide) (Nat.le_of_ble_eq_true rfl) rfl ?_
  intro X F hQ
  have hF_M : Fr f_e_takes3m M M := Fr.rf _ _
  have hSn := hS.u
  have h_1 := Inv.g hI_M kd_164 rfl 0 (a := 0) (b := 2) (at_c 0 0 (o := 0) (lo := 0) (hi := 2) (by omega) (by decide) (by decide) (by decide)).1 (at_c 0 0 (o := 0) (lo := 0) (hi := 2) (by omega) (by decide) (by decide) (by decide)).2
  have h_2 := Inv.g hI_M kd_164 rfl 1 (a := 0) (b := 2) (at_c 1 0 (o := 1) (lo := 0) (hi := 2) (by omega) (by decide) (by decide) (by decide)).1 (at_c 1 0 (o := 1) (lo := 0) (hi := 2) (by omega) (by decide) (by decide) (by decide)).2
  have h_3 := Inv.g hI_M kd_164 rfl 2 (a := 0) (b := 2) (at_c 2 0 (o := 2) (lo := 0) (hi := 2) (by omega) (by decide) (by decide) (by decide)).1 (at_c 2 0 (o := 2) (lo := 0) (hi := 2) (by omega) (by decide) (by decide) (by decide)).2
  have ha_4 : atlo 3 = 0 ∧ athi 3 = 2 := at_c 3 0 (o := 3) (lo := 0) (hi := 2) (by omega) (by decide) (by decide) (by decide)
  have h_5 := Inv.g hI_M kd_164 rfl 3 (a := 0) (b := 2) ha_4.1 ha_4.2
  refine kx_aload_n 1 F 0 dX12_takes_0 rfl rfl rfl ?_
  refine kx_iload_n 2 F 1 dX12_takes_1 rfl rfl rfl ?_
  refine kx_Vi 5 (ci := 0) F (As := [vI a1]) (st := []) vd_X12_282 (e_X12_isAutomaton G l M a1 hI_M (by omega)) kd_163 rfl rfl rfl ⟨by decide, by decide⟩ rfl rfl (Nat.le_of_ble_eq_true rfl) dX12_takes_2 rfl ?_
  intro r_6 N_7 q_8
  obtain ⟨rfl, q_8c⟩ := q_8
  rcases q_8c with q_8c | q_8c | q_8c
  · refine kx_if_eq 8 F 17 dX12_takes_5 (by decide) rfl (by omega) (fun h_9 => (by exfalso; omega)) (fun h_9 => ?_)
    refine kx_aload_n 9 F 0 dX12_takes_8 rfl rfl rfl ?_
    refine kx_iload_n 10 F 2 dX12_takes_9 rfl rfl rfl ?_
    refine kx_iload_n 11 F 3 dX12_takes_10 rfl rfl rfl ?_
    refine kx_Vi 14 (ci := 0) F (As := [vI a2, vI a3]) (st := []) vd_X12_358 (e_isWordCall3 G l M a2 a3 hI_M (by omega)) kd_163 rfl rfl rfl ⟨by decide, by decide⟩ rfl rfl (Nat.le_of_ble_eq_true rfl) dX12_takes_11 rfl ?_
    intro r_10 N_11 q_12
    obtain ⟨rfl, q_12c⟩ := q_12
    rcases q_12c with q_12c | q_12c | q_12c | q_12c | q_12c
    · refine kx_if_ne 17 F 23 dX12_takes_14 (by decide) rfl (by omega) (fun h_13 => ?_) (fun h_13 => (by exfalso; omega))
      refine kx_aload_n 24 F 0 dX12_takes_23 rfl rfl rfl ?_
      refine kx_iload_n 25 F 2 dX12_takes_24 rfl rfl rfl ?_
      refine kx_iload_n 26 F 3 dX12_takes_25 rfl rfl rfl ?_
      refine kx_Vi 29 (ci := 0) F (As := [vI a2, vI a3]) (st := []) vd_X12_361 (e_wrongWord3 G l M a2 a3 hI_M (by omega)) kd_163 rfl rfl rfl ⟨by decide, by decide⟩ rfl rfl (Nat.le_of_ble_eq_true rfl) dX12_takes_26 rfl ?_
      intro r_14 N_15 q_16
      obtain ⟨rfl, q_16c, hz_N_15⟩ := q_16
      rcases q_16c with q_16c | q_16c
      · refine kx_istore 31 F 4 (lo' := [some (vR G 163), some (vI a1), some (vI a2), some (vI a3), some (vI r_14)]) dX12_takes_29 (by decide) rfl rfl rfl ?_
        refine kx_iload 33 F 4 dX12_takes_31 rfl rfl ?_
        refine kx_if_le 36 F 43 dX12_takes_33 (by decide) rfl (by omega) (fun h_17 => ?_) (fun h_17 => (by exfalso; omega))
        refine kx_aload_n 44 F 0 dX12_takes_43 rfl rfl rfl ?_
        refine kx_aload_n 45 F 0 dX12_takes_44 rfl rfl rfl ?_
        refine kx_iload_n 46 F 1 dX12_takes_45 rfl rfl rfl ?_
        refine kx_iload_n 47 F 2 dX12_takes_46 rfl rfl rfl ?_
        refine kx_iload_n 48 F 3 dX12_takes_47 rfl rfl rfl ?_
        refine kx_Vi 51 (ci := 0) F (As := [vI a1, vI a2, vI a3]) (st := [vR G 163]) vd_X12_364 (e_endsBy3 G l M a1 a2 a3 hI_M (by omega) (hz_N_15.1 (by omega)) q hS hU hC (by omega)) kd_163 rfl rfl rfl ⟨by decide, by decide⟩ rfl rfl (Nat.le_of_ble_eq_true rfl) dX12_takes_48 rfl ?_
        intro r_18 N_19 q_20
        obtain ⟨hI_N_19, hG_N_19, q_20c, heb_N_19⟩ := q_20
        have hF_N_19 : Fr f_e_takes3m M N_19 := Fr.c hF_M hG_N_19 rfl
        refine kx_aload_n 52 F 0 dX12_takes_51 rfl rfl rfl ?_
        refine kx_iload_n 53 F 1 dX12_takes_52 rfl rfl rfl ?_
        refine kx_iconst 54 F dX12_takes_53 rfl ?_
        refine kx_Vi 57 (ci := 0) F (As := [vI a1, vI 3]) (st := [vI r_18, vR G 163]) vd_X12_288 (e_of3 G l N_19 a1 3 hI_N_19 (by omega)) kd_163 rfl rfl rfl ⟨by decide, by decide⟩ rfl rfl (Nat.le_of_ble_eq_true rfl) dX12_takes_54 rfl ?_
        intro r_21 N_22 q_23
        obtain ⟨rfl, q_23c⟩ := q_23
        have e_24 : (N_19 164 (85 * a1 + 103)) = (M 164 (85 * a1 + 103)) := by rw [Fr.e hG_N_19 kd_164 _ rfl]
        refine kx_topi (e' := (N_19 164 (85 * a1 + 103))) (by omega) ?_
        refine kx_iand 58 F (v := (zand r_18 (N_19 164 (85 * a1 + 103)))) dX12_takes_57 rfl rfl ?_
        have h_26 := zand_r (a := r_18) (b := (N_19 164 (85 * a1 + 103))) (by omega)
        refine kx_if_eq 61 F 65 dX12_takes_58 (by decide) rfl (by omega) (fun h_27 => ?_) (fun h_27 => ?_)
        · refine kx_iconst 66 F dX12_takes_65 rfl ?_
          refine kx_Vi 69 (ci := 0) F (As := [vI 0]) (st := []) vd_X12_127 (c_X12_gives G l N_19 0 hI_N_19 (by omega)) kd_163 rfl rfl rfl ⟨by decide, by decide⟩ rfl rfl (Nat.le_of_ble_eq_true rfl) dX12_takes_66 rfl ?_
          intro r_28 N_29 q_30
          obtain ⟨hI_N_29, hG_N_29, q_30c⟩ := q_30
          have hF_N_29 : Fr f_e_takes3m M N_29 := Fr.c hF_N_19 hG_N_29 rfl
          refine kx_topi (e' := 0) (by omega) ?_
          have hq3 : N_19 164 (85 * a1 + 103) = q (85 * a1 + 103) := by rw [show N_19 164 = M 164 from (funext (fun j => by rw [Fr.e hG_N_19 kd_164 _ rfl]))]; exact (hU.b (a := a1) (b := (85 * a1 + 100)) ⟨by omega, by omega, by omega⟩ rfl).n (d := 3) (by decide) (by omega)
          have hzw : (zand r_18 (N_19 164 (85 * a1 + 103))) = zand (zfo q (85 * a1 + 100) (fun j => M 168 (60 * a2 + j)) a3.toNat 7) (q (85 * a1 + 103)) := by rw [hq3, heb_N_19]
          exact kx_iret F hQ ⟨hI_N_29, hF_N_29, (by omega), (Or.inl ⟨⟨by omega, by omega, zWR.y hz_N_15.2 (by omega)⟩, Or.inr ⟨by omega, by omega⟩⟩)⟩ dX12_takes_69
        · refine kx_iconst 62 F dX12_takes_61 rfl ?_
          refine kx_goto 66 F dX12_takes_62 (by decide) ?_
          refine kx_Vi 69 (ci := 0) F (As := [vI 1]) (st := []) vd_X12_127 (c_X12_gives G l N_19 1 hI_N_19 (by omega)) kd_163 rfl rfl rfl ⟨by decide, by decide⟩ rfl rfl (Nat.le_of_ble_eq_true rfl) dX12_takes_66 rfl ?_
          intro r_31 N_32 q_33
          obtain ⟨hI_N_32, hG_N_32, q_33c⟩ := q_33
          have hF_N_32 : Fr f_e_takes3m M N_32 := Fr.c hF_N_19 hG_N_32 rfl
          refine kx_topi (e' := 1) (by omega) ?_
          have hq3 : N_19 164 (85 * a1 + 103) = q (85 * a1 + 103) := by rw [show N_19 164 = M 164 from (funext (fun j => by rw [Fr.e hG_N_19 kd_164 _ rfl]))]; exact (hU.b (a := a1) (b := (85 * a1 + 100)) ⟨by omega, by omega, by omega⟩ rfl).n (d := 3) (by decide) (by omega)
          have hzw : (zand r_18 (N_19 164 (85 * a1 + 103))) = zand (zfo q (85 * a1 + 100) (fun j => M 168 (60 * a2 + j)) a3.toNat 7) (q (85 * a1 + 103)) := by rw [hq3, heb_N_19]
          exact kx_iret F hQ ⟨hI_N_32, hF_N_32, (by omega), (Or.inl ⟨⟨by omega, by omega, zWR.y hz_N_15.2 (by omega)⟩, Or.inl ⟨by omega, by omega⟩⟩)⟩ dX12_takes_69
      · refine kx_istore 31 F 4 (lo' := [some (vR G 163), some (vI a1), some (vI a2), some (vI a3), some (vI r_14)]) dX12_takes_29 (by decide) rfl rfl rfl ?_
        refine kx_iload 33 F 4 dX12_takes_31 rfl rfl ?_
        refine kx_if_le 36 F 43 dX12_takes_33 (by decide) rfl (by omega) (fun h_34 => (by exfalso; omega)) (fun h_34 => ?_)
        refine kx_aload_n 37 F 0 dX12_takes_36 rfl rfl rfl ?_
        refine kx_iload 39 F 4 dX12_takes_37 rfl rfl ?_
        refine kx_Vi 42 (ci := 0) F (As := [vI r_14]) (st := []) vd_X12_123 (c_X12_refuse G l M r_14 hI_M (by omega)) kd_163 rfl rfl rfl ⟨by decide, by decide⟩ rfl rfl (Nat.le_of_ble_eq_true rfl) dX12_takes_39 rfl ?_
        intro r_35 N_36 q_37
        obtain ⟨hI_N_36, hG_N_36, q_37c⟩ := q_37
        have hF_N_36 : Fr f_e_takes3m M N_36 := Fr.c hF_M hG_N_36 rfl
        subst q_37c
        exact kx_iret F hQ ⟨hI_N_36, hF_N_36, (by omega), (Or.inr ⟨fun h => (zWR.n hz_N_15.2 (by omega)) ⟨rfl, h.2.2⟩, by omega⟩)⟩ dX12_takes_42
    · refine kx_if_ne 17 F 23 dX12_takes_14 (by decide) rfl (by omega) (fun h_38 => (by exfalso; omega)) (fun h_38 => ?_)
      refine kx_aload_n 18 F 0 dX12_takes_17 rfl rfl rfl ?_
      refine kx_iconst 19 F dX12_takes_18 rfl ?_
      refine kx_Vi 22 (ci := 0) F (As := [vI 1]) (st := []) vd_X12_123 (c_X12_refuse G l M 1 hI_M (by omega)) kd_163 rfl rfl rfl ⟨by decide, by decide⟩ rfl rfl (Nat.le_of_ble_eq_true rfl) dX12_takes_19 rfl ?_
      intro r_39 N_40 q_41
      obtain ⟨hI_N_40, hG_N_40, q_41c⟩ := q_41
      have hF_N_40 : Fr f_e_takes3m M N_40 := Fr.c hF_M hG_N_40 rfl
      subst q_41c
      exact kx_iret F hQ ⟨hI_N_40, hF_N_40, (by omega), (Or.inr ⟨fun h => by have h1 := h.1; have h2 := h.2.1; have h3 := h.2.2.1; have h4 := h.2.2.2.1; have h5 := h.2.2.2.2.1; have h6 := h.2.2.2.2.2.1; clear h; omega, by omega⟩)⟩ dX12_takes_22
    · refine kx_if_ne 17 F 23 dX12_takes_14 (by decide) rfl (by omega) (fun h_42 => (by exfalso; omega)) (fun h_42 => ?_)
      refine kx_aload_n 18 F 0 dX12_takes_17 rfl rfl rfl ?_
      refine kx_iconst 19 F dX12_takes_18 rfl ?_
      refine kx_Vi 22 (ci := 0) F (As := [vI 1]) (st := []) vd_X12_123 (c_X12_refuse G l M 1 hI_M (by omega)) kd_163 rfl rfl rfl ⟨by decide, by decide⟩ rfl rfl (Nat.le_of_ble_eq_true rfl) dX12_takes_19 rfl ?_
      intro r_43 N_44 q_45
      obtain ⟨hI_N_44, hG_N_44, q_45c⟩ := q_45
      have hF_N_44 : Fr f_e_takes3m M N_44 := Fr.c hF_M hG_N_44 rfl
      subst q_45c
      exact kx_iret F hQ ⟨hI_N_44, hF_N_44, (by omega), (Or.inr ⟨fun h => by have h1 := h.1; have h2 := h.2.1; have h3 := h.2.2.1; have h4 := h.2.2.2.1; have h5 := h.2.2.2.2.1; have h6 := h.2.2.2.2.2.1; clear h; omega, by omega⟩)⟩ dX12_takes_22
    · refine kx_if_ne 17 F 23 dX12_takes_14 (by decide) rfl (by omega) (fun h_46 => (by exfalso; omega)) (fun h_46 => ?_)
      refine kx_aload_n 18 F 0 dX12_takes_17 rfl rfl rfl ?_
      refine kx_iconst 19 F dX12_takes_18 rfl ?_
      refine kx_Vi 22 (ci := 0) F (As := [vI 1]) (st := []) vd_X12_123 (c_X12_refuse G l M 1 hI_M (by omega)) kd_163 rfl rfl rfl ⟨by decide, by decide⟩ rfl rfl (Nat.le_of_ble_eq_true rfl) dX12_takes_19 rfl ?_
      intro r_47 N_48 q_49
      obtain ⟨hI_N_48, hG_N_48, q_49c⟩ := q_49
      have hF_N_48 : Fr f_e_takes3m M N_48 := Fr.c hF_M hG_N_48 rfl
      subst q_49c
      exact kx_iret F hQ ⟨hI_N_48, hF_N_48, (by omega), (Or.inr ⟨fun h => by have h1 := h.1; have h2 := h.2.1; have h3 := h.2.2.1; have h4 := h.2.2.2.1; have h5 := h.2.2.2.2.1; have h6 := h.2.2.2.2.2.1; clear h; omega, by omega⟩)⟩ dX12_takes_22
    · refine kx_if_ne 17 F 23 dX12_takes_14 (by decide) rfl (by omega) (fun h_50 => (by exfalso; omega)) (fun h_50 => ?_)
      refine kx_aload_n 18 F 0 dX12_takes_17 rfl rfl rfl ?_
      refine kx_iconst 19 F dX12_takes_18 rfl ?_
      refine kx_Vi 22 (ci := 0) F (As := [vI 1]) (st := []) vd_X12_123 (c_X12_refuse G l M 1 hI_M (by omega)) kd_163 rfl rfl rfl ⟨by decide, by decide⟩ rfl rfl (Nat.le_of_ble_eq_true rfl) dX12_takes_19 rfl ?_
      intro r_51 N_52 q_53
      obtain ⟨hI_N_52, hG_N_52, q_53c⟩ := q_53
      have hF_N_52 : Fr f_e_takes3m M N_52 := Fr.c hF_M hG_N_52 rfl
      subst q_53c
      exact kx_iret F hQ ⟨hI_N_52, hF_N_52, (by omega), (Or.inr ⟨fun h => by have h1 := h.1; have h2 := h.2.1; have h3 := h.2.2.1; have h4 := h.2.2.2.1; have h5 := h.2.2.2.2.1; have h6 := h.2.2.2.2.2.1; clear h; omega, by omega⟩)⟩ dX12_takes_22
  · refine kx_if_eq 8 F 17 dX12_takes_5 (by decide) rfl (by omega) (fun h_54 => ?_) (fun h_54 => (by exfalso; omega))
    refine kx_aload_n 18 F 0 dX12_takes_17 rfl rfl rfl ?_
    refine kx_iconst 19 F dX12_takes_18 rfl ?_
    refine kx_Vi 22 (ci := 0) F (As := [vI 1]) (st := []) vd_X12_123 (c_X12_refuse G l M 1 hI_M (by omega)) kd_163 rfl rfl rfl ⟨by decide, by decide⟩ rfl rfl (Nat.le_of_ble_eq_true rfl) dX12_takes_19 rfl ?_
    intro r_55 N_56 q_57
    obtain ⟨hI_N_56, hG_N_56, q_57c⟩ := q_57
    have hF_N_56 : Fr f_e_takes3m M N_56 := Fr.c hF_M hG_N_56 rfl
    subst q_57c
    exact kx_iret F hQ ⟨hI_N_56, hF_N_56, (by omega), (Or.inr ⟨fun h => by have h1 := h.1; have h2 := h.2.1; have h3 := h.2.2.1; have h4 := h.2.2.2.1; have h5 := h.2.2.2.2.1; have h6 := h.2.2.2.2.2.1; clear h; omega, by omega⟩)⟩ dX12_takes_22
  · refine kx_if_eq 8 F 17 dX12_takes_5 (by decide) rfl (by omega) (fun h_58 => ?_) (fun h_58 => (by exfalso; omega))
    refine kx_aload_n 18 F 0 dX12_takes_17 rfl rfl rfl ?_
    refine kx_iconst 19 F dX12_takes_18 rfl ?_
    refine kx_Vi 22 (ci := 0) F (As := [vI 1]) (st := []) vd_X12_123 (c_X12_refuse G l M 1 hI_M (by omega)) kd_163 rfl rfl rfl ⟨by decide, by decide⟩ rfl rfl (Nat.le_of_ble_eq_true rfl) dX12_takes_19 rfl ?_
    intro r_59 N_60 q_61
    obtain ⟨hI_N_60, hG_N_60, q_61c⟩ := q_61
    have hF_N_60 : Fr f_e_takes3m M N_60 := Fr.c hF_M hG_N_60 rfl
    subst q_61c
    exact kx_iret F hQ ⟨hI_N_60, hF_N_60, (by omega), (Or.inr ⟨fun h => by have h1 := h.1; have h2 := h.2.1; have h3 := h.2.2.1; have h4 := h.2.2.2.1; have h5 := h.2.2.2.2.1; have h6 := h.2.2.2.2.2.1; clear h; omega, by omega⟩)⟩ dX12_takes_22
