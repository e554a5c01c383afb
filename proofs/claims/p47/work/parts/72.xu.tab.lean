abbrev f_e_forget3 : List (Nat × Int) := [(21, 0), (41, 2)]
set_option maxHeartbeats 4000000 in
set_option maxRecDepth 100000 in
theorem e_forget3 (G : KG) (l : Launch) (M : Mem) (c0 : Int) (hI_M : Inv false M) (hk_c0 : kd c0 = 62) : KC false G l yX11_forget cX11_forget 1 none (1, 20) [vR G c0] M (fun A => kQv false G A (fun (N : Mem) => Inv false N ∧ Fr f_e_forget3 M N ∧ (N (M c0 8) 0 = 0 ∧ N (M c0 9) 0 = 0))) := by
  refine kx_met (lo := [some (vR G c0)]) (by decide) (Nat.le_of_ble_eq_true rfl) rfl ?_
  intro X F hQ
  have hF_M : Fr f_e_forget3 M M := Fr.rf _ _
  have hk_1 : kd (M c0 8) = 21 := Inv.r hI_M hk_c0 rfl 8 rfl rfl
  have hk_2 : kd (M c0 9) = 21 := Inv.r hI_M hk_c0 rfl 9 rfl rfl
  refine kx_aload_n 1 F 0 dX11_forget_0 rfl rfl rfl ?_
  refine kx_getr 4 F fl_X11_37 hk_c0 rfl rfl (j := 8) rfl dX11_forget_1 (v := (M c0 8)) rfl rfl ?_
  refine kx_iconst 5 F dX11_forget_4 rfl ?_
  refine kx_putz 8 F fw_X11_393 rfl (by omega) hk_1 rfl rfl (j := 0) rfl dX11_forget_5 rfl ?_
  intro N_3 hM_N_3
  have hI_N_3 : Inv false N_3 := Inv.u hI_M hM_N_3 hk_1 (a := 0) (b := 1) rfl rfl rfl (by omega)
  have hF_N_3 : Fr f_e_forget3 M N_3 := Fr.u hF_M hM_N_3 hk_1 rfl
  refine kx_aload_n 9 F 0 dX11_forget_8 rfl rfl rfl ?_
  refine kx_getr 12 F fl_X11_41 hk_c0 rfl rfl (j := 9) rfl dX11_forget_9 (v := (M c0 9)) (by rw [hM_N_3, mu_k hk_c0 hk_1 rfl]) rfl ?_
  refine kx_iconst 13 F dX11_forget_12 rfl ?_
  refine kx_putz 16 F fw_X11_393 rfl (by omega) hk_2 rfl rfl (j := 0) rfl dX11_forget_13 rfl ?_
  intro N_4 hM_N_4
  have hI_N_4 : Inv false N_4 := Inv.u hI_N_3 hM_N_4 hk_2 (a := 0) (b := 1) rfl rfl rfl (by omega)
  have hF_N_4 : Fr f_e_forget3 M N_4 := Fr.u hF_N_3 hM_N_4 hk_2 rfl
  refine kx_aload_n 17 F 0 dX11_forget_16 rfl rfl rfl ?_
  refine kx_getr 20 F fl_X11_47 hk_c0 rfl rfl (j := 10) rfl dX11_forget_17 (v := (M c0 10)) (by rw [hM_N_4, mu_k hk_c0 hk_2 rfl, hM_N_3, mu_k hk_c0 hk_1 rfl]) rfl ?_
  have hk_5 : kd (M c0 10) = 41 := Inv.r hI_M hk_c0 rfl 10 rfl rfl
  refine kx_Vv 23 (ci := 0) F (As := []) (st := []) vd_X11_397 (c_X4_forgetFound G l N_4 (M c0 10) hI_N_4 hk_5) hk_5 rfl rfl rfl ⟨by decide, by decide⟩ rfl rfl (Nat.le_of_ble_eq_true rfl) dX11_forget_20 rfl ?_
  intro N_6 q_7
  obtain ⟨hI_N_6, hG_N_6⟩ := q_7
  have hF_N_6 : Fr f_e_forget3 M N_6 := Fr.c hF_N_4 hG_N_6 rfl
  exact kx_vret F hQ ⟨hI_N_6, hF_N_6, (by obtain ⟨ha, hb⟩ := fg1 hM_N_3 hM_N_4; exact ⟨((Fr.e hG_N_6 hk_1 0 rfl).trans ha), ((Fr.e hG_N_6 hk_2 0 rfl).trans hb)⟩)⟩ dX11_forget_23
abbrev f_e_add7 : List (Nat × Int) := [(1, 4), (2, -1), (3, -1), (4, -1), (5, -1), (6, -1), (7, -1), (21, 0), (41, 2), (62, 0)]
set_option maxHeartbeats 4000000 in
set_option maxRecDepth 100000 in
theorem e_add7 (G : KG) (l : Launch) (M : Mem) (c0 : Int) (a1 : Int) (a2 : Int) (a3 : Int) (a4 : Int) (a5 : Int) (hI_M : Inv false M) (hk_c0 : kd c0 = 62) (hpre : -2147483648 ≤ a1 ∧ a1 ≤ 2147483647 ∧ -2147483648 ≤ a2 ∧ a2 ≤ 2147483647 ∧ -2147483648 ≤ a3 ∧ a3 ≤ 2147483647 ∧ -2147483648 ≤ a4 ∧ a4 ≤ 2147483647 ∧ -2147483648 ≤ a5 ∧ a5 ≤ 2147483647) (q : Int → Int) (hS : zSN M (M c0 5) q) (hU : zSU M (M c0 5) q) (hZ : FZ M) (hV : zQV q) (hK : zTC M c0 q) : KC false G l yX11_add cX11_add 7 (some .int) (3, 68) [vR G c0, vI a1, vI a2, vI a3, vI a4, vI a5] M (fun A => kQi false G A (fun (r : Int) (N : Mem) => Inv false N ∧ Fr f_e_add7 M N ∧ (r ≥ -1 ∧ r ≤ 20) ∧ Cf (zRG (M c0 5) a1) M N ∧ (∃ q2, zAD q a1 a2 a3 a4 a5 r q2 ∧ zSN N (M c0 5) q2 ∧ zSU N (M c0 5) q2 ∧ zTC N c0 q2))) := by
  refine kx_met (lo := [some (vR G c0), some (vI a1), some (vI a2), some (vI a3), some (vI a4), some (vI a5), none]) (by decide) (Nat.le_of_ble_eq_true rfl) rfl ?_
  intro X F hQ
  have hF_M : Fr f_e_add7 M M := Fr.rf _ _
  have hE_M : Cf (zRG (M c0 5) a1) M M := Cf.rf _ _
  have hk_1 : kd (M c0 5) = 12 := Inv.r hI_M hk_c0 rfl 5 rfl rfl
  have hSn := hS.u
  have hVu := hV.u
  refine kx_aload_n 1 F 0 dX11_add_0 rfl rfl rfl ?_
  refine kx_getr 4 F fl_X11_26 hk_c0 rfl rfl (j := 5) rfl dX11_add_1 (v := (M c0 5)) rfl rfl ?_
  refine kx_iload_n 5 F 1 dX11_add_4 rfl rfl rfl ?_
  refine kx_Vi 8 (ci := 0) F (As := [vI a1]) (st := []) vd_X11_163 (e_X5_has G l M (M c0 5) a1 hI_M hk_1 (by omega)) hk_1 rfl rfl rfl ⟨by decide, by decide⟩ rfl rfl (Nat.le_of_ble_eq_true rfl) dX11_add_5 rfl ?_
  intro r_2 N_3 q_4
  obtain ⟨rfl, q_4c⟩ := q_4
  have h_5 := Inv.g hI_M hk_1 rfl 3 (a := 0) (b := 2) rfl rfl
  rcases q_4c with q_4c | q_4c | q_4c
  · refine kx_if_eq 11 F 35 dX11_add_8 (by decide) rfl (by omega) (fun h_7 => (by exfalso; omega)) (fun h_7 => ?_)
    refine kx_aload_n 12 F 0 dX11_add_11 rfl rfl rfl ?_
    refine kx_getr 15 F fl_X11_26 hk_c0 rfl rfl (j := 5) rfl dX11_add_12 (v := (M c0 5)) rfl rfl ?_
    refine kx_aload_n 16 F 0 dX11_add_15 rfl rfl rfl ?_
    refine kx_getr 19 F fl_X11_26 hk_c0 rfl rfl (j := 5) rfl dX11_add_16 (v := (M c0 5)) rfl rfl ?_
    refine kx_iload_n 20 F 1 dX11_add_19 rfl rfl rfl ?_
    refine kx_Vr 23 (ci := 0) F (As := [vI a1]) (st := [vR G (M c0 5)]) vd_X11_164 (c_X5_pickE G l M (M c0 5) a1 hI_M hk_1 (by omega)) hk_1 rfl rfl rfl ⟨by decide, by decide⟩ rfl rfl (Nat.le_of_ble_eq_true rfl) dX11_add_20 rfl ?_
    intro r_8 N_9 q_10
    obtain ⟨rfl, hk_11, q_10d⟩ := q_10
    rcases q_10d with ⟨q_10c, rfl⟩ | ⟨q_10c, rfl⟩
    · have hA := hU.1 (by omega)
      have hn0 : M (M (M c0 5) 4) 0 = q (85 * a1 + 100) := hA.n (by decide) (by omega)
      have hn1 : M (M (M c0 5) 4) 1 = q (85 * a1 + 101) := hA.n (by decide) (by omega)
      have hn2 : M (M (M c0 5) 4) 2 = q (85 * a1 + 102) := hA.n (by decide) (by omega)
      have hn3 : M (M (M c0 5) 4) 3 = q (85 * a1 + 103) := hA.n (by decide) (by omega)
      have hn4 : M (M (M c0 5) 4) 4 = q (85 * a1 + 104) := hA.n (by decide) (by omega)
      have hq44 : q (85 * a1 + 100 + 4) = q (85 * a1 + 104) := by rw [show 85 * a1 + 100 + 4 = 85 * a1 + 104 by omega]
      have hgx0 := Inv.g hI_M hk_11 rfl 0 (a := 0) (b := 3) rfl rfl
      have hgx1 := Inv.g hI_M hk_11 rfl 1 (a := 0) (b := 3) rfl rfl
      have hgx4 := Inv.g hI_M hk_11 rfl 4 (a := 0) (b := 20) rfl rfl
      have hxz := (hZ.2.1 (M c0 5) hk_1).1
      refine kx_iload_n 24 F 2 dX11_add_23 rfl rfl rfl ?_
      refine kx_iload_n 25 F 3 dX11_add_24 rfl rfl rfl ?_
      refine kx_iload 27 F 4 dX11_add_25 rfl rfl ?_
      refine kx_iload 29 F 5 dX11_add_27 rfl rfl ?_
      refine kx_Vi 32 (ci := 0) F (As := [vR G (M (M c0 5) 4), vI a2, vI a3, vI a4, vI a5]) (st := []) vd_X11_201 (e_X5_couldHave G l M (M c0 5) (M (M c0 5) 4) a2 a3 a4 a5 hI_M hk_1 hk_11 (by omega)) hk_1 rfl rfl rfl ⟨by decide, by decide⟩ rfl rfl (Nat.le_of_ble_eq_true rfl) dX11_add_29 rfl ?_
      intro r_12 N_13 q_14
      obtain ⟨rfl, q_14c, ho_N_13⟩ := q_14
      have hco : zCO (q 0) (q 0 + q 1) (q 0 + q 1 + q 2) (q (85 * a1 + 100)) (q (85 * a1 + 101)) a2 a3 a4 a5 r_12 := by have h := ho_N_13; rw [hSn.1, hSn.2.1, hSn.2.2.1, hn0, hn1] at h; exact h
      refine kx_if_ne 35 F 41 dX11_add_32 (by decide) rfl (by omega) (fun h_15 => ?_) (fun h_15 => ?_)
      · have hok := hco.y (by omega)
        have hadk : zADk q a1 a2 a3 a4 a5 := ⟨by omega, by omega, hok⟩
        have hk5 : 0 ≤ a2 ∧ a2 < q 0 + q 1 + q 2 ∧ 0 ≤ a3 ∧ a3 < q (85 * a1 + 100) ∧ 0 ≤ a4 ∧ a4 < q (85 * a1 + 100) ∧ -1 ≤ a5 ∧ a5 ≤ 2 := by have h := hok; unfold zCOk at h; omega
        refine kx_aload_n 42 F 0 dX11_add_41 rfl rfl rfl ?_
        refine kx_getr 45 F fl_X11_26 hk_c0 rfl rfl (j := 5) rfl dX11_add_42 (v := (M c0 5)) rfl rfl ?_
        refine kx_iload_n 46 F 1 dX11_add_45 rfl rfl rfl ?_
        refine kx_Vr 49 (ci := 0) F (As := [vI a1]) (st := []) vd_X11_164 (c_X5_pickE G l M (M c0 5) a1 hI_M hk_1 (by omega)) hk_1 rfl rfl rfl ⟨by decide, by decide⟩ rfl rfl (Nat.le_of_ble_eq_true rfl) dX11_add_46 rfl ?_
        intro r_16 N_17 q_18
        obtain ⟨rfl, hk_19, q_18d⟩ := q_18
        rcases q_18d with ⟨q_18c, rfl⟩ | ⟨q_18c, rfl⟩
        · have hA := hU.1 (by omega)
          have hn0 : M (M (M c0 5) 4) 0 = q (85 * a1 + 100) := hA.n (by decide) (by omega)
          have hn1 : M (M (M c0 5) 4) 1 = q (85 * a1 + 101) := hA.n (by decide) (by omega)
          have hn2 : M (M (M c0 5) 4) 2 = q (85 * a1 + 102) := hA.n (by decide) (by omega)
          have hn3 : M (M (M c0 5) 4) 3 = q (85 * a1 + 103) := hA.n (by decide) (by omega)
          have hn4 : M (M (M c0 5) 4) 4 = q (85 * a1 + 104) := hA.n (by decide) (by omega)
          have hq44 : q (85 * a1 + 100 + 4) = q (85 * a1 + 104) := by rw [show 85 * a1 + 100 + 4 = 85 * a1 + 104 by omega]
          have hgx0 := Inv.g hI_M hk_19 rfl 0 (a := 0) (b := 3) rfl rfl
          have hgx1 := Inv.g hI_M hk_19 rfl 1 (a := 0) (b := 3) rfl rfl
          have hgx4 := Inv.g hI_M hk_19 rfl 4 (a := 0) (b := 20) rfl rfl
          have hxz := (hZ.2.1 (M c0 5) hk_1).1
          refine kx_astore 51 F 6 (lo' := [some (vR G c0), some (vI a1), some (vI a2), some (vI a3), some (vI a4), some (vI a5), some (vR G (M (M c0 5) 4))]) dX11_add_49 (by decide) rfl rfl rfl ?_
          refine kx_aload 53 F 6 dX11_add_51 rfl rfl ?_
          refine kx_geti 56 F fl_X11_182 hk_19 rfl rfl (j := 4) rfl dX11_add_53 (v := (M (M (M c0 5) 4) 4)) rfl rfl ?_
          refine kx_bipush 58 F dX11_add_56 (by decide) rfl ?_
          refine kx_icmp_lt 61 F 67 dX11_add_58 (by decide) rfl (by omega) (by decide) (fun h_21 => ?_) (fun h_21 => ?_)
          · refine kx_aload 69 F 6 dX11_add_67 rfl rfl ?_
            refine kx_iload_n 70 F 2 dX11_add_69 rfl rfl rfl ?_
            refine kx_iload_n 71 F 3 dX11_add_70 rfl rfl rfl ?_
            refine kx_iload 73 F 4 dX11_add_71 rfl rfl ?_
            refine kx_iload 75 F 5 dX11_add_73 rfl rfl ?_
            refine kx_Vi 78 (ci := 0) F (As := [vI a2, vI a3, vI a4, vI a5]) (st := []) vd_X11_205 (e_X0_find G l M (M (M c0 5) 4) a2 a3 a4 a5 hI_M hk_19 (by omega) q (85 * a1 + 100) (by rw [show 85 * a1 + 100 = 100 by omega]; exact hA)) hk_19 rfl rfl rfl ⟨by decide, by decide⟩ rfl rfl (Nat.le_of_ble_eq_true rfl) dX11_add_75 rfl ?_
            intro r_22 N_23 q_24
            obtain ⟨rfl, q_24c⟩ := q_24
            rcases q_24c with q_24c | q_24c
            · refine kx_iconst 79 F dX11_add_78 rfl ?_
              refine kx_icmp_eq 82 F 89 dX11_add_79 (by decide) rfl (by omega) (by decide) (fun h_25 => (by exfalso; omega)) (fun h_25 => ?_)
              refine kx_aload_n 83 F 0 dX11_add_82 rfl rfl rfl ?_
              refine kx_bipush 85 F dX11_add_83 (by decide) rfl ?_
              refine kx_Vi 88 (ci := 0) F (As := [vI 7]) (st := []) vd_X11_110 (c_X11_refuse G l M c0 7 hI_M hk_c0 (by omega)) hk_c0 rfl rfl rfl ⟨by decide, by decide⟩ rfl rfl (Nat.le_of_ble_eq_true rfl) dX11_add_85 rfl ?_
              intro r_26 N_27 q_28
              obtain ⟨hI_N_27, hG_N_27, q_28c⟩ := q_28
              have hF_N_27 : Fr f_e_add7 M N_27 := Fr.c hF_M hG_N_27 rfl
              have hE_N_27 : Cf (zRG (M c0 5) a1) M N_27 := Cf.fr hE_M hG_N_27 rfl
              subst q_28c
              exact kx_iret F hQ ⟨hI_N_27, hF_N_27, (by omega), hE_N_27, ⟨q, Or.inr (Or.inr (Or.inl ⟨hadk, by omega, by omega, by omega, rfl⟩)), (zSN.fr hS hk_1 hG_N_27 rfl), (zSU.fr hU hI_M hk_1 hG_N_27 rfl), (zTC.fr hK hI_M hk_c0 hG_N_27 rfl)⟩⟩ dX11_add_88
            · refine kx_iconst 79 F dX11_add_78 rfl ?_
              refine kx_icmp_eq 82 F 89 dX11_add_79 (by decide) rfl (by omega) (by decide) (fun h_29 => ?_) (fun h_29 => (by exfalso; omega))
              refine kx_aload 91 F 6 dX11_add_89 rfl rfl ?_
              refine kx_iload_n 92 F 2 dX11_add_91 rfl rfl rfl ?_
              refine kx_iload_n 93 F 3 dX11_add_92 rfl rfl rfl ?_
              refine kx_iload 95 F 4 dX11_add_93 rfl rfl ?_
              refine kx_iload 97 F 5 dX11_add_95 rfl rfl ?_
              refine kx_Vv 100 (ci := 0) F (As := [vI a2, vI a3, vI a4, vI a5]) (st := []) vd_X11_209 (e_X0_append G l M (M (M c0 5) 4) a2 a3 a4 a5 hI_M hk_19 (by omega) q (85 * a1 + 100) (by rw [show 85 * a1 + 100 = 100 by omega]; exact hA) (by omega)) hk_19 rfl rfl rfl ⟨by decide, by decide⟩ rfl rfl (Nat.le_of_ble_eq_true rfl) dX11_add_97 rfl ?_
              intro N_30 q_31
              obtain ⟨hI_N_30, hG_N_30, hC_N_30, hA_N_30⟩ := q_31
              have hF_N_30 : Fr f_e_add7 M N_30 := Fr.c hF_M hG_N_30 rfl
              have hE_N_30 : Cf (zRG (M c0 5) a1) M N_30 := Cf.c hE_M hC_N_30 (fun y hy => by have a := SA.in hy hZ hk_19; have z := hZ.2.1 (M c0 5) hk_1; exact ⟨by omega, by omega, by omega, by omega⟩)
              refine kx_aload_n 101 F 0 dX11_add_100 rfl rfl rfl ?_
              refine kx_Vv 104 (ci := 0) F (As := []) (st := []) vd_X11_139 (e_forget3 G l N_30 c0 hI_N_30 hk_c0) hk_c0 rfl rfl rfl ⟨by decide, by decide⟩ rfl rfl (Nat.le_of_ble_eq_true rfl) dX11_add_101 rfl ?_
              intro N_32 q_33
              obtain ⟨hI_N_32, hG_N_32, hfg_N_32⟩ := q_33
              have hF_N_32 : Fr f_e_add7 M N_32 := Fr.c hF_N_30 hG_N_32 rfl
              have hE_N_32 : Cf (zRG (M c0 5) a1) M N_32 := Cf.fr hE_N_30 hG_N_32 rfl
              have htf_N_32 : ∀ q, zTC N_32 c0 q := fun q => zTC.no (by rw [show N_32 c0 8 = N_30 c0 8 from Fr.e hG_N_32 hk_c0 8 rfl]; exact hfg_N_32.1) (by rw [show N_32 c0 9 = N_30 c0 9 from Fr.e hG_N_32 hk_c0 9 rfl]; exact hfg_N_32.2)
              refine kx_aload_n 105 F 0 dX11_add_104 rfl rfl rfl ?_
              refine kx_aload 107 F 6 dX11_add_105 rfl rfl ?_
              refine kx_geti 110 F fl_X11_182 hk_19 rfl rfl (j := 4) rfl dX11_add_107 (v := (N_30 (M (M c0 5) 4) 4)) (by rw [Fr.e hG_N_32 hk_19 _ rfl]) rfl ?_
              have h_34 := Inv.g hI_N_30 hk_19 rfl 4 (a := 0) (b := 20) rfl rfl
              refine kx_Vi 113 (ci := 0) F (As := [vI (N_30 (M (M c0 5) 4) 4)]) (st := []) vd_X11_145 (c_X11_answer G l N_32 c0 (N_30 (M (M c0 5) 4) 4) hI_N_32 hk_c0 (by omega)) hk_c0 rfl rfl rfl ⟨by decide, by decide⟩ rfl rfl (Nat.le_of_ble_eq_true rfl) dX11_add_110 rfl ?_
              intro r_35 N_36 q_37
              obtain ⟨hI_N_36, hG_N_36, q_37c⟩ := q_37
              have hF_N_36 : Fr f_e_add7 M N_36 := Fr.c hF_N_32 hG_N_36 rfl
              have hE_N_36 : Cf (zRG (M c0 5) a1) M N_36 := Cf.fr hE_N_32 hG_N_36 rfl
              have hz4 := hA_N_30.n (d := 4) (y := 85 * a1 + 100 + 4) (by decide) rfl
              rw [uprul_4, hq44] at hz4
              have e_38 : (N_36 (M (M c0 5) 4) 4) = (N_30 (M (M c0 5) 4) 4) := by rw [Fr.e hG_N_36 hk_19 _ rfl, Fr.e hG_N_32 hk_19 _ rfl]
              exact kx_iret F hQ ⟨hI_N_36, hF_N_36, (by omega), hE_N_36, ⟨(uprul q (85 * a1 + 100) a2 a3 a4 a5), Or.inr (Or.inr (Or.inr ⟨hadk, by omega, by omega, by omega, rfl⟩)), zSN.cg hS (funext (fun j => by rw [Fr.e hG_N_36 hk_1 _ rfl, Fr.e hG_N_32 hk_1 _ rfl, Fr.e hG_N_30 hk_1 _ rfl])) (uprul_x (by omega) (by omega)) (uprul_x (by omega) (by omega)) (uprul_x (by omega) (by omega)) (uprul_x (by omega) (by omega)), zSU.set (a := a1) (x := (M (M c0 5) 4)) hU (by omega) rfl (by omega) hZ hI_M hk_1 hE_N_36 (funext (fun j => by rw [Fr.e hG_N_36 hk_1 _ rfl, Fr.e hG_N_32 hk_1 _ rfl, Fr.e hG_N_30 hk_1 _ rfl])) (by have h := (AT.fr (AT.fr hA_N_30 hI_N_30 hk_19 hG_N_32 rfl) hI_N_32 hk_19 hG_N_36 rfl); exact h) (uprul_x (by omega) (by omega)) (uprul_x (by omega) (by omega)) (fun i h1 h2 h3 => (uprul_x (by omega) (by omega))) hV, (zTC.fr (htf_N_32 _) hI_N_32 hk_c0 hG_N_36 rfl)⟩⟩ dX11_add_113
          · refine kx_aload_n 62 F 0 dX11_add_61 rfl rfl rfl ?_
            refine kx_iconst 63 F dX11_add_62 rfl ?_
            refine kx_Vi 66 (ci := 0) F (As := [vI 4]) (st := []) vd_X11_110 (c_X11_refuse G l M c0 4 hI_M hk_c0 (by omega)) hk_c0 rfl rfl rfl ⟨by decide, by decide⟩ rfl rfl (Nat.le_of_ble_eq_true rfl) dX11_add_63 rfl ?_
            intro r_39 N_40 q_41
            obtain ⟨hI_N_40, hG_N_40, q_41c⟩ := q_41
            have hF_N_40 : Fr f_e_add7 M N_40 := Fr.c hF_M hG_N_40 rfl
            have hE_N_40 : Cf (zRG (M c0 5) a1) M N_40 := Cf.fr hE_M hG_N_40 rfl
            subst q_41c
            exact kx_iret F hQ ⟨hI_N_40, hF_N_40, (by omega), hE_N_40, ⟨q, Or.inr (Or.inl ⟨hadk, by omega, by omega, rfl⟩), (zSN.fr hS hk_1 hG_N_40 rfl), (zSU.fr hU hI_M hk_1 hG_N_40 rfl), (zTC.fr hK hI_M hk_c0 hG_N_40 rfl)⟩⟩ dX11_add_66
        · exfalso; omega
      · refine kx_aload_n 36 F 0 dX11_add_35 rfl rfl rfl ?_
        refine kx_iconst 37 F dX11_add_36 rfl ?_
        refine kx_Vi 40 (ci := 0) F (As := [vI 1]) (st := []) vd_X11_110 (c_X11_refuse G l M c0 1 hI_M hk_c0 (by omega)) hk_c0 rfl rfl rfl ⟨by decide, by decide⟩ rfl rfl (Nat.le_of_ble_eq_true rfl) dX11_add_37 rfl ?_
        intro r_42 N_43 q_44
        obtain ⟨hI_N_43, hG_N_43, q_44c⟩ := q_44
        have hF_N_43 : Fr f_e_add7 M N_43 := Fr.c hF_M hG_N_43 rfl
        have hE_N_43 : Cf (zRG (M c0 5) a1) M N_43 := Cf.fr hE_M hG_N_43 rfl
        subst q_44c
        exact kx_iret F hQ ⟨hI_N_43, hF_N_43, (by omega), hE_N_43, ⟨q, Or.inl ⟨fun h => hco.n (by omega) h.2.2, by omega, rfl⟩, (zSN.fr hS hk_1 hG_N_43 rfl), (zSU.fr hU hI_M hk_1 hG_N_43 rfl), (zTC.fr hK hI_M hk_c0 hG_N_43 rfl)⟩⟩ dX11_add_40
    · have hA := hU.2 (by omega)
      have hn0 : M (M (M c0 5) 5) 0 = q (85 * a1 + 100) := hA.n (by decide) (by omega)
      have hn1 : M (M (M c0 5) 5) 1 = q (85 * a1 + 101) := hA.n (by decide) (by omega)
      have hn2 : M (M (M c0 5) 5) 2 = q (85 * a1 + 102) := hA.n (by decide) (by omega)
      have hn3 : M (M (M c0 5) 5) 3 = q (85 * a1 + 103) := hA.n (by decide) (by omega)
      have hn4 : M (M (M c0 5) 5) 4 = q (85 * a1 + 104) := hA.n (by decide) (by omega)
      have hq44 : q (85 * a1 + 100 + 4) = q (85 * a1 + 104) := by rw [show 85 * a1 + 100 + 4 = 85 * a1 + 104 by omega]
      have hgx0 := Inv.g hI_M hk_11 rfl 0 (a := 0) (b := 3) rfl rfl
      have hgx1 := Inv.g hI_M hk_11 rfl 1 (a := 0) (b := 3) rfl rfl
      have hgx4 := Inv.g hI_M hk_11 rfl 4 (a := 0) (b := 20) rfl rfl
      have hxz := (hZ.2.1 (M c0 5) hk_1).2.1
      refine kx_iload_n 24 F 2 dX11_add_23 rfl rfl rfl ?_
      refine kx_iload_n 25 F 3 dX11_add_24 rfl rfl rfl ?_
      refine kx_iload 27 F 4 dX11_add_25 rfl rfl ?_
      refine kx_iload 29 F 5 dX11_add_27 rfl rfl ?_
      refine kx_Vi 32 (ci := 0) F (As := [vR G (M (M c0 5) 5), vI a2, vI a3, vI a4, vI a5]) (st := []) vd_X11_201 (e_X5_couldHave G l M (M c0 5) (M (M c0 5) 5) a2 a3 a4 a5 hI_M hk_1 hk_11 (by omega)) hk_1 rfl rfl rfl ⟨by decide, by decide⟩ rfl rfl (Nat.le_of_ble_eq_true rfl) dX11_add_29 rfl ?_
      intro r_45 N_46 q_47
      obtain ⟨rfl, q_47c, ho_N_46⟩ := q_47
      have hco : zCO (q 0) (q 0 + q 1) (q 0 + q 1 + q 2) (q (85 * a1 + 100)) (q (85 * a1 + 101)) a2 a3 a4 a5 r_45 := by have h := ho_N_46; rw [hSn.1, hSn.2.1, hSn.2.2.1, hn0, hn1] at h; exact h
      refine kx_if_ne 35 F 41 dX11_add_32 (by decide) rfl (by omega) (fun h_48 => ?_) (fun h_48 => ?_)
      · have hok := hco.y (by omega)
        have hadk : zADk q a1 a2 a3 a4 a5 := ⟨by omega, by omega, hok⟩
        have hk5 : 0 ≤ a2 ∧ a2 < q 0 + q 1 + q 2 ∧ 0 ≤ a3 ∧ a3 < q (85 * a1 + 100) ∧ 0 ≤ a4 ∧ a4 < q (85 * a1 + 100) ∧ -1 ≤ a5 ∧ a5 ≤ 2 := by have h := hok; unfold zCOk at h; omega
        refine kx_aload_n 42 F 0 dX11_add_41 rfl rfl rfl ?_
        refine kx_getr 45 F fl_X11_26 hk_c0 rfl rfl (j := 5) rfl dX11_add_42 (v := (M c0 5)) rfl rfl ?_
        refine kx_iload_n 46 F 1 dX11_add_45 rfl rfl rfl ?_
        refine kx_Vr 49 (ci := 0) F (As := [vI a1]) (st := []) vd_X11_164 (c_X5_pickE G l M (M c0 5) a1 hI_M hk_1 (by omega)) hk_1 rfl rfl rfl ⟨by decide, by decide⟩ rfl rfl (Nat.le_of_ble_eq_true rfl) dX11_add_46 rfl ?_
        intro r_49 N_50 q_51
        obtain ⟨rfl, hk_52, q_51d⟩ := q_51
        rcases q_51d with ⟨q_51c, rfl⟩ | ⟨q_51c, rfl⟩
        · exfalso; omega
        · have hA := hU.2 (by omega)
          have hn0 : M (M (M c0 5) 5) 0 = q (85 * a1 + 100) := hA.n (by decide) (by omega)
          have hn1 : M (M (M c0 5) 5) 1 = q (85 * a1 + 101) := hA.n (by decide) (by omega)
          have hn2 : M (M (M c0 5) 5) 2 = q (85 * a1 + 102) := hA.n (by decide) (by omega)
          have hn3 : M (M (M c0 5) 5) 3 = q (85 * a1 + 103) := hA.n (by decide) (by omega)
          have hn4 : M (M (M c0 5) 5) 4 = q (85 * a1 + 104) := hA.n (by decide) (by omega)
          have hq44 : q (85 * a1 + 100 + 4) = q (85 * a1 + 104) := by rw [show 85 * a1 + 100 + 4 = 85 * a1 + 104 by omega]
          have hgx0 := Inv.g hI_M hk_52 rfl 0 (a := 0) (b := 3) rfl rfl
          have hgx1 := Inv.g hI_M hk_52 rfl 1 (a := 0) (b := 3) rfl rfl
          have hgx4 := Inv.g hI_M hk_52 rfl 4 (a := 0) (b := 20) rfl rfl
          have hxz := (hZ.2.1 (M c0 5) hk_1).2.1
          refine kx_astore 51 F 6 (lo' := [some (vR G c0), some (vI a1), some (vI a2), some (vI a3), some (vI a4), some (vI a5), some (vR G (M (M c0 5) 5))]) dX11_add_49 (by decide) rfl rfl rfl ?_
          refine kx_aload 53 F 6 dX11_add_51 rfl rfl ?_
          refine kx_geti 56 F fl_X11_182 hk_52 rfl rfl (j := 4) rfl dX11_add_53 (v := (M (M (M c0 5) 5) 4)) rfl rfl ?_
          refine kx_bipush 58 F dX11_add_56 (by decide) rfl ?_
          refine kx_icmp_lt 61 F 67 dX11_add_58 (by decide) rfl (by omega) (by decide) (fun h_54 => ?_) (fun h_54 => ?_)
          · refine kx_aload 69 F 6 dX11_add_67 rfl rfl ?_
            refine kx_iload_n 70 F 2 dX11_add_69 rfl rfl rfl ?_
            refine kx_iload_n 71 F 3 dX11_add_70 rfl rfl rfl ?_
            refine kx_iload 73 F 4 dX11_add_71 rfl rfl ?_
            refine kx_iload 75 F 5 dX11_add_73 rfl rfl ?_
            refine kx_Vi 78 (ci := 0) F (As := [vI a2, vI a3, vI a4, vI a5]) (st := []) vd_X11_205 (e_X0_find G l M (M (M c0 5) 5) a2 a3 a4 a5 hI_M hk_52 (by omega) q (85 * a1 + 100) (by rw [show 85 * a1 + 100 = 185 by omega]; exact hA)) hk_52 rfl rfl rfl ⟨by decide, by decide⟩ rfl rfl (Nat.le_of_ble_eq_true rfl) dX11_add_75 rfl ?_
            intro r_55 N_56 q_57
            obtain ⟨rfl, q_57c⟩ := q_57
            rcases q_57c with q_57c | q_57c
            · refine kx_iconst 79 F dX11_add_78 rfl ?_
              refine kx_icmp_eq 82 F 89 dX11_add_79 (by decide) rfl (by omega) (by decide) (fun h_58 => (by exfalso; omega)) (fun h_58 => ?_)
              refine kx_aload_n 83 F 0 dX11_add_82 rfl rfl rfl ?_
              refine kx_bipush 85 F dX11_add_83 (by decide) rfl ?_
              refine kx_Vi 88 (ci := 0) F (As := [vI 7]) (st := []) vd_X11_110 (c_X11_refuse G l M c0 7 hI_M hk_c0 (by omega)) hk_c0 rfl rfl rfl ⟨by decide, by decide⟩ rfl rfl (Nat.le_of_ble_eq_true rfl) dX11_add_85 rfl ?_
              intro r_59 N_60 q_61
              obtain ⟨hI_N_60, hG_N_60, q_61c⟩ := q_61
              have hF_N_60 : Fr f_e_add7 M N_60 := Fr.c hF_M hG_N_60 rfl
              have hE_N_60 : Cf (zRG (M c0 5) a1) M N_60 := Cf.fr hE_M hG_N_60 rfl
              subst q_61c
              exact kx_iret F hQ ⟨hI_N_60, hF_N_60, (by omega), hE_N_60, ⟨q, Or.inr (Or.inr (Or.inl ⟨hadk, by omega, by omega, by omega, rfl⟩)), (zSN.fr hS hk_1 hG_N_60 rfl), (zSU.fr hU hI_M hk_1 hG_N_60 rfl), (zTC.fr hK hI_M hk_c0 hG_N_60 rfl)⟩⟩ dX11_add_88
            · refine kx_iconst 79 F dX11_add_78 rfl ?_
              refine kx_icmp_eq 82 F 89 dX11_add_79 (by decide) rfl (by omega) (by decide) (fun h_62 => ?_) (fun h_62 => (by exfalso; omega))
              refine kx_aload 91 F 6 dX11_add_89 rfl rfl ?_
              refine kx_iload_n 92 F 2 dX11_add_91 rfl rfl rfl ?_
              refine kx_iload_n 93 F 3 dX11_add_92 rfl rfl rfl ?_
              refine kx_iload 95 F 4 dX11_add_93 rfl rfl ?_
              refine kx_iload 97 F 5 dX11_add_95 rfl rfl ?_
              refine kx_Vv 100 (ci := 0) F (As := [vI a2, vI a3, vI a4, vI a5]) (st := []) vd_X11_209 (e_X0_append G l M (M (M c0 5) 5) a2 a3 a4 a5 hI_M hk_52 (by omega) q (85 * a1 + 100) (by rw [show 85 * a1 + 100 = 185 by omega]; exact hA) (by omega)) hk_52 rfl rfl rfl ⟨by decide, by decide⟩ rfl rfl (Nat.le_of_ble_eq_true rfl) dX11_add_97 rfl ?_
              intro N_63 q_64
              obtain ⟨hI_N_63, hG_N_63, hC_N_63, hA_N_63⟩ := q_64
              have hF_N_63 : Fr f_e_add7 M N_63 := Fr.c hF_M hG_N_63 rfl
              have hE_N_63 : Cf (zRG (M c0 5) a1) M N_63 := Cf.c hE_M hC_N_63 (fun y hy => by have a := SA.in hy hZ hk_52; have z := hZ.2.1 (M c0 5) hk_1; exact ⟨by omega, by omega, by omega, by omega⟩)
              refine kx_aload_n 101 F 0 dX11_add_100 rfl rfl rfl ?_
              refine kx_Vv 104 (ci := 0) F (As := []) (st := []) vd_X11_139 (e_forget3 G l N_63 c0 hI_N_63 hk_c0) hk_c0 rfl rfl rfl ⟨by decide, by decide⟩ rfl rfl (Nat.le_of_ble_eq_true rfl) dX11_add_101 rfl ?_
              intro N_65 q_66
              obtain ⟨hI_N_65, hG_N_65, hfg_N_65⟩ := q_66
              have hF_N_65 : Fr f_e_add7 M N_65 := Fr.c hF_N_63 hG_N_65 rfl
              have hE_N_65 : Cf (zRG (M c0 5) a1) M N_65 := Cf.fr hE_N_63 hG_N_65 rfl
              have htf_N_65 : ∀ q, zTC N_65 c0 q := fun q => zTC.no (by rw [show N_65 c0 8 = N_63 c0 8 from Fr.e hG_N_65 hk_c0 8 rfl]; exact hfg_N_65.1) (by rw [show N_65 c0 9 = N_63 c0 9 from Fr.e hG_N_65 hk_c0 9 rfl]; exact hfg_N_65.2)
              refine kx_aload_n 105 F 0 dX11_add_104 rfl rfl rfl ?_
              refine kx_aload 107 F 6 dX11_add_105 rfl rfl ?_
              refine kx_geti 110 F fl_X11_182 hk_52 rfl rfl (j := 4) rfl dX11_add_107 (v := (N_63 (M (M c0 5) 5) 4)) (by rw [Fr.e hG_N_65 hk_52 _ rfl]) rfl ?_
              have h_67 := Inv.g hI_N_63 hk_52 rfl 4 (a := 0) (b := 20) rfl rfl
              refine kx_Vi 113 (ci := 0) F (As := [vI (N_63 (M (M c0 5) 5) 4)]) (st := []) vd_X11_145 (c_X11_answer G l N_65 c0 (N_63 (M (M c0 5) 5) 4) hI_N_65 hk_c0 (by omega)) hk_c0 rfl rfl rfl ⟨by decide, by decide⟩ rfl rfl (Nat.le_of_ble_eq_true rfl) dX11_add_110 rfl ?_
              intro r_68 N_69 q_70
              obtain ⟨hI_N_69, hG_N_69, q_70c⟩ := q_70
              have hF_N_69 : Fr f_e_add7 M N_69 := Fr.c hF_N_65 hG_N_69 rfl
              have hE_N_69 : Cf (zRG (M c0 5) a1) M N_69 := Cf.fr hE_N_65 hG_N_69 rfl
              have hz4 := hA_N_63.n (d := 4) (y := 85 * a1 + 100 + 4) (by decide) rfl
              rw [uprul_4, hq44] at hz4
              have e_71 : (N_69 (M (M c0 5) 5) 4) = (N_63 (M (M c0 5) 5) 4) := by rw [Fr.e hG_N_69 hk_52 _ rfl, Fr.e hG_N_65 hk_52 _ rfl]
              exact kx_iret F hQ ⟨hI_N_69, hF_N_69, (by omega), hE_N_69, ⟨(uprul q (85 * a1 + 100) a2 a3 a4 a5), Or.inr (Or.inr (Or.inr ⟨hadk, by omega, by omega, by omega, rfl⟩)), zSN.cg hS (funext (fun j => by rw [Fr.e hG_N_69 hk_1 _ rfl, Fr.e hG_N_65 hk_1 _ rfl, Fr.e hG_N_63 hk_1 _ rfl])) (uprul_x (by omega) (by omega)) (uprul_x (by omega) (by omega)) (uprul_x (by omega) (by omega)) (uprul_x (by omega) (by omega)), zSU.set (a := a1) (x := (M (M c0 5) 5)) hU (by omega) rfl (by omega) hZ hI_M hk_1 hE_N_69 (funext (fun j => by rw [Fr.e hG_N_69 hk_1 _ rfl, Fr.e hG_N_65 hk_1 _ rfl, Fr.e hG_N_63 hk_1 _ rfl])) (by have h := (AT.fr (AT.fr hA_N_63 hI_N_63 hk_52 hG_N_65 rfl) hI_N_65 hk_52 hG_N_69 rfl); exact h) (uprul_x (by omega) (by omega)) (uprul_x (by omega) (by omega)) (fun i h1 h2 h3 => (uprul_x (by omega) (by omega))) hV, (zTC.fr (htf_N_65 _) hI_N_65 hk_c0 hG_N_69 rfl)⟩⟩ dX11_add_113
          · refine kx_aload_n 62 F 0 dX11_add_61 rfl rfl rfl ?_
            refine kx_iconst 63 F dX11_add_62 rfl ?_
            refine kx_Vi 66 (ci := 0) F (As := [vI 4]) (st := []) vd_X11_110 (c_X11_refuse G l M c0 4 hI_M hk_c0 (by omega)) hk_c0 rfl rfl rfl ⟨by decide, by decide⟩ rfl rfl (Nat.le_of_ble_eq_true rfl) dX11_add_63 rfl ?_
            intro r_72 N_73 q_74
            obtain ⟨hI_N_73, hG_N_73, q_74c⟩ := q_74
            have hF_N_73 : Fr f_e_add7 M N_73 := Fr.c hF_M hG_N_73 rfl
            have hE_N_73 : Cf (zRG (M c0 5) a1) M N_73 := Cf.fr hE_M hG_N_73 rfl
            subst q_74c
            exact kx_iret F hQ ⟨hI_N_73, hF_N_73, (by omega), hE_N_73, ⟨q, Or.inr (Or.inl ⟨hadk, by omega, by omega, rfl⟩), (zSN.fr hS hk_1 hG_N_73 rfl), (zSU.fr hU hI_M hk_1 hG_N_73 rfl), (zTC.fr hK hI_M hk_c0 hG_N_73 rfl)⟩⟩ dX11_add_66
      · refine kx_aload_n 36 F 0 dX11_add_35 rfl rfl rfl ?_
        refine kx_iconst 37 F dX11_add_36 rfl ?_
        refine kx_Vi 40 (ci := 0) F (As := [vI 1]) (st := []) vd_X11_110 (c_X11_refuse G l M c0 1 hI_M hk_c0 (by omega)) hk_c0 rfl rfl rfl ⟨by decide, by decide⟩ rfl rfl (Nat.le_of_ble_eq_true rfl) dX11_add_37 rfl ?_
        intro r_75 N_76 q_77
        obtain ⟨hI_N_76, hG_N_76, q_77c⟩ := q_77
        have hF_N_76 : Fr f_e_add7 M N_76 := Fr.c hF_M hG_N_76 rfl
        have hE_N_76 : Cf (zRG (M c0 5) a1) M N_76 := Cf.fr hE_M hG_N_76 rfl
        subst q_77c
        exact kx_iret F hQ ⟨hI_N_76, hF_N_76, (by omega), hE_N_76, ⟨q, Or.inl ⟨fun h => hco.n (by omega) h.2.2, by omega, rfl⟩, (zSN.fr hS hk_1 hG_N_76 rfl), (zSU.fr hU hI_M hk_1 hG_N_76 rfl), (zTC.fr hK hI_M hk_c0 hG_N_76 rfl)⟩⟩ dX11_add_40
  · refine kx_if_eq 11 F 35 dX11_add_8 (by decide) rfl (by omega) (fun h_78 => ?_) (fun h_78 => (by exfalso; omega))
    refine kx_aload_n 36 F 0 dX11_add_35 rfl rfl rfl ?_
    refine kx_iconst 37 F dX11_add_36 rfl ?_
    refine kx_Vi 40 (ci := 0) F (As := [vI 1]) (st := []) vd_X11_110 (c_X11_refuse G l M c0 1 hI_M hk_c0 (by omega)) hk_c0 rfl rfl rfl ⟨by decide, by decide⟩ rfl rfl (Nat.le_of_ble_eq_true rfl) dX11_add_37 rfl ?_
    intro r_79 N_80 q_81
    obtain ⟨hI_N_80, hG_N_80, q_81c⟩ := q_81
    have hF_N_80 : Fr f_e_add7 M N_80 := Fr.c hF_M hG_N_80 rfl
    have hE_N_80 : Cf (zRG (M c0 5) a1) M N_80 := Cf.fr hE_M hG_N_80 rfl
    subst q_81c
    exact kx_iret F hQ ⟨hI_N_80, hF_N_80, (by omega), hE_N_80, ⟨q, Or.inl ⟨fun h => by have h1 := h.1; have h2 := h.2.1; omega, by omega, rfl⟩, (zSN.fr hS hk_1 hG_N_80 rfl), (zSU.fr hU hI_M hk_1 hG_N_80 rfl), (zTC.fr hK hI_M hk_c0 hG_N_80 rfl)⟩⟩ dX11_add_40
  · refine kx_if_eq 11 F 35 dX11_add_8 (by decide) rfl (by omega) (fun h_82 => ?_) (fun h_82 => (by exfalso; omega))
    refine kx_aload_n 36 F 0 dX11_add_35 rfl rfl rfl ?_
    refine kx_iconst 37 F dX11_add_36 rfl ?_
    refine kx_Vi 40 (ci := 0) F (As := [vI 1]) (st := []) vd_X11_110 (c_X11_refuse G l M c0 1 hI_M hk_c0 (by omega)) hk_c0 rfl rfl rfl ⟨by decide, by decide⟩ rfl rfl (Nat.le_of_ble_eq_true rfl) dX11_add_37 rfl ?_
    intro r_83 N_84 q_85
    obtain ⟨hI_N_84, hG_N_84, q_85c⟩ := q_85
    have hF_N_84 : Fr f_e_add7 M N_84 := Fr.c hF_M hG_N_84 rfl
    have hE_N_84 : Cf (zRG (M c0 5) a1) M N_84 := Cf.fr hE_M hG_N_84 rfl
    subst q_85c
    exact kx_iret F hQ ⟨hI_N_84, hF_N_84, (by omega), hE_N_84, ⟨q, Or.inl ⟨fun h => by have h1 := h.1; have h2 := h.2.1; omega, by omega, rfl⟩, (zSN.fr hS hk_1 hG_N_84 rfl), (zSU.fr hU hI_M hk_1 hG_N_84 rfl), (zTC.fr hK hI_M hk_c0 hG_N_84 rfl)⟩⟩ dX11_add_40
abbrev f_e_drop7 : List (Nat × Int) := [(1, 4), (2, -1), (3, -1), (4, -1), (5, -1), (6, -1), (7, -1), (21, 0), (41, 2), (62, 0)]
set_option maxHeartbeats 4000000 in
set_option maxRecDepth 100000 in
theorem e_drop7 (G : KG) (l : Launch) (M : Mem) (c0 : Int) (a1 : Int) (a2 : Int) (hI_M : Inv false M) (hk_c0 : kd c0 = 62) (hpre : -2147483648 ≤ a1 ∧ a1 ≤ 2147483647 ∧ -2147483648 ≤ a2 ∧ a2 ≤ 2147483647) (q : Int → Int) (hS : zSN M (M c0 5) q) (hU : zSU M (M c0 5) q) (hZ : FZ M) (hV : zQV q) (hK : zTC M c0 q) : KC false G l yX11_drop cX11_drop 4 (some .int) (4, 86) [vR G c0, vI a1, vI a2] M (fun A => kQi false G A (fun (r : Int) (N : Mem) => Inv false N ∧ Fr f_e_drop7 M N ∧ (r ≥ -1 ∧ r ≤ 20) ∧ Cf (zRG (M c0 5) a1) M N ∧ (∃ q2, zDR q a1 a2 r q2 ∧ zSN N (M c0 5) q2 ∧ zSU N (M c0 5) q2 ∧ zTC N c0 q2))) := by
  refine kx_met (lo := [some (vR G c0), some (vI a1), some (vI a2), none]) (by decide) (Nat.le_of_ble_eq_true rfl) rfl ?_
  intro X F hQ
  have hF_M : Fr f_e_drop7 M M := Fr.rf _ _
  have hE_M : Cf (zRG (M c0 5) a1) M M := Cf.rf _ _
  have hk_1 : kd (M c0 5) = 12 := Inv.r hI_M hk_c0 rfl 5 rfl rfl
  have hSn := hS.u
  have hVu := hV.u
  refine kx_aload_n 1 F 0 dX11_drop_0 rfl rfl rfl ?_
  refine kx_getr 4 F fl_X11_26 hk_c0 rfl rfl (j := 5) rfl dX11_drop_1 (v := (M c0 5)) rfl rfl ?_
  refine kx_iload_n 5 F 1 dX11_drop_4 rfl rfl rfl ?_
  refine kx_Vi 8 (ci := 0) F (As := [vI a1]) (st := []) vd_X11_163 (e_X5_has G l M (M c0 5) a1 hI_M hk_1 (by omega)) hk_1 rfl rfl rfl ⟨by decide, by decide⟩ rfl rfl (Nat.le_of_ble_eq_true rfl) dX11_drop_5 rfl ?_
  intro r_2 N_3 q_4
  obtain ⟨rfl, q_4c⟩ := q_4
  have h_5 := Inv.g hI_M hk_1 rfl 3 (a := 0) (b := 2) rfl rfl
  rcases q_4c with q_4c | q_4c | q_4c
  · refine kx_if_eq 11 F 26 dX11_drop_8 (by decide) rfl (by omega) (fun h_7 => (by exfalso; omega)) (fun h_7 => ?_)
    refine kx_aload_n 12 F 0 dX11_drop_11 rfl rfl rfl ?_
    refine kx_getr 15 F fl_X11_26 hk_c0 rfl rfl (j := 5) rfl dX11_drop_12 (v := (M c0 5)) rfl rfl ?_
    refine kx_iload_n 16 F 1 dX11_drop_15 rfl rfl rfl ?_
    refine kx_Vr 19 (ci := 0) F (As := [vI a1]) (st := []) vd_X11_164 (c_X5_pickE G l M (M c0 5) a1 hI_M hk_1 (by omega)) hk_1 rfl rfl rfl ⟨by decide, by decide⟩ rfl rfl (Nat.le_of_ble_eq_true rfl) dX11_drop_16 rfl ?_
    intro r_8 N_9 q_10
    obtain ⟨rfl, hk_11, q_10d⟩ := q_10
    rcases q_10d with ⟨q_10c, rfl⟩ | ⟨q_10c, rfl⟩
    · have hA := hU.1 (by omega)
      have hn0 : M (M (M c0 5) 4) 0 = q (85 * a1 + 100) := hA.n (by decide) (by omega)
      have hn1 : M (M (M c0 5) 4) 1 = q (85 * a1 + 101) := hA.n (by decide) (by omega)
      have hn2 : M (M (M c0 5) 4) 2 = q (85 * a1 + 102) := hA.n (by decide) (by omega)
      have hn3 : M (M (M c0 5) 4) 3 = q (85 * a1 + 103) := hA.n (by decide) (by omega)
      have hn4 : M (M (M c0 5) 4) 4 = q (85 * a1 + 104) := hA.n (by decide) (by omega)
      have hq44 : q (85 * a1 + 100 + 4) = q (85 * a1 + 104) := by rw [show 85 * a1 + 100 + 4 = 85 * a1 + 104 by omega]
      have hgx0 := Inv.g hI_M hk_11 rfl 0 (a := 0) (b := 3) rfl rfl
      have hgx1 := Inv.g hI_M hk_11 rfl 1 (a := 0) (b := 3) rfl rfl
      have hgx4 := Inv.g hI_M hk_11 rfl 4 (a := 0) (b := 20) rfl rfl
      have hxz := (hZ.2.1 (M c0 5) hk_1).1
      refine kx_iload_n 20 F 2 dX11_drop_19 rfl rfl rfl ?_
      refine kx_Vi 23 (ci := 0) F (As := [vI a2]) (st := []) vd_X11_185 (e_X0_hasRule G l M (M (M c0 5) 4) a2 hI_M hk_11 (by omega)) hk_11 rfl rfl rfl ⟨by decide, by decide⟩ rfl rfl (Nat.le_of_ble_eq_true rfl) dX11_drop_20 rfl ?_
      intro r_12 N_13 q_14
      obtain ⟨rfl, q_14c⟩ := q_14
      rcases q_14c with q_14c | q_14c | q_14c
      · refine kx_if_ne 26 F 32 dX11_drop_23 (by decide) rfl (by omega) (fun h_17 => ?_) (fun h_17 => (by exfalso; omega))
        refine kx_aload_n 33 F 0 dX11_drop_32 rfl rfl rfl ?_
        refine kx_getr 36 F fl_X11_26 hk_c0 rfl rfl (j := 5) rfl dX11_drop_33 (v := (M c0 5)) rfl rfl ?_
        refine kx_iload_n 37 F 1 dX11_drop_36 rfl rfl rfl ?_
        refine kx_Vr 40 (ci := 0) F (As := [vI a1]) (st := []) vd_X11_164 (c_X5_pickE G l M (M c0 5) a1 hI_M hk_1 (by omega)) hk_1 rfl rfl rfl ⟨by decide, by decide⟩ rfl rfl (Nat.le_of_ble_eq_true rfl) dX11_drop_37 rfl ?_
        intro r_18 N_19 q_20
        obtain ⟨rfl, hk_21, q_20d⟩ := q_20
        rcases q_20d with ⟨q_20c, rfl⟩ | ⟨q_20c, rfl⟩
        · have hA := hU.1 (by omega)
          have hn0 : M (M (M c0 5) 4) 0 = q (85 * a1 + 100) := hA.n (by decide) (by omega)
          have hn1 : M (M (M c0 5) 4) 1 = q (85 * a1 + 101) := hA.n (by decide) (by omega)
          have hn2 : M (M (M c0 5) 4) 2 = q (85 * a1 + 102) := hA.n (by decide) (by omega)
          have hn3 : M (M (M c0 5) 4) 3 = q (85 * a1 + 103) := hA.n (by decide) (by omega)
          have hn4 : M (M (M c0 5) 4) 4 = q (85 * a1 + 104) := hA.n (by decide) (by omega)
          have hq44 : q (85 * a1 + 100 + 4) = q (85 * a1 + 104) := by rw [show 85 * a1 + 100 + 4 = 85 * a1 + 104 by omega]
          have hgx0 := Inv.g hI_M hk_21 rfl 0 (a := 0) (b := 3) rfl rfl
          have hgx1 := Inv.g hI_M hk_21 rfl 1 (a := 0) (b := 3) rfl rfl
          have hgx4 := Inv.g hI_M hk_21 rfl 4 (a := 0) (b := 20) rfl rfl
          have hxz := (hZ.2.1 (M c0 5) hk_1).1
          refine kx_astore_n 41 F 3 (lo' := [some (vR G c0), some (vI a1), some (vI a2), some (vR G (M (M c0 5) 4))]) dX11_drop_40 rfl (by decide) rfl rfl rfl ?_
          refine kx_aload_n 42 F 3 dX11_drop_41 rfl rfl rfl ?_
          refine kx_iload_n 43 F 2 dX11_drop_42 rfl rfl rfl ?_
          refine kx_Vv 46 (ci := 0) F (As := [vI a2]) (st := []) vd_X11_212 (e_X0_remove G l M (M (M c0 5) 4) a2 hI_M hk_21 (by omega) q (85 * a1 + 100) (by rw [show 85 * a1 + 100 = 100 by omega]; exact hA) (by omega)) hk_21 rfl rfl rfl ⟨by decide, by decide⟩ rfl rfl (Nat.le_of_ble_eq_true rfl) dX11_drop_43 rfl ?_
          intro N_22 q_23
          obtain ⟨hI_N_22, hG_N_22, hC_N_22, hA_N_22⟩ := q_23
          have hF_N_22 : Fr f_e_drop7 M N_22 := Fr.c hF_M hG_N_22 rfl
          have hE_N_22 : Cf (zRG (M c0 5) a1) M N_22 := Cf.c hE_M hC_N_22 (fun y hy => by have a := SA.in hy hZ hk_21; have z := hZ.2.1 (M c0 5) hk_1; exact ⟨by omega, by omega, by omega, by omega⟩)
          refine kx_aload_n 47 F 0 dX11_drop_46 rfl rfl rfl ?_
          refine kx_Vv 50 (ci := 0) F (As := []) (st := []) vd_X11_139 (e_forget3 G l N_22 c0 hI_N_22 hk_c0) hk_c0 rfl rfl rfl ⟨by decide, by decide⟩ rfl rfl (Nat.le_of_ble_eq_true rfl) dX11_drop_47 rfl ?_
          intro N_24 q_25
          obtain ⟨hI_N_24, hG_N_24, hfg_N_24⟩ := q_25
          have hF_N_24 : Fr f_e_drop7 M N_24 := Fr.c hF_N_22 hG_N_24 rfl
          have hE_N_24 : Cf (zRG (M c0 5) a1) M N_24 := Cf.fr hE_N_22 hG_N_24 rfl
          have htf_N_24 : ∀ q, zTC N_24 c0 q := fun q => zTC.no (by rw [show N_24 c0 8 = N_22 c0 8 from Fr.e hG_N_24 hk_c0 8 rfl]; exact hfg_N_24.1) (by rw [show N_24 c0 9 = N_22 c0 9 from Fr.e hG_N_24 hk_c0 9 rfl]; exact hfg_N_24.2)
          refine kx_aload_n 51 F 0 dX11_drop_50 rfl rfl rfl ?_
          refine kx_aload_n 52 F 3 dX11_drop_51 rfl rfl rfl ?_
          refine kx_geti 55 F fl_X11_182 hk_21 rfl rfl (j := 4) rfl dX11_drop_52 (v := (N_22 (M (M c0 5) 4) 4)) (by rw [Fr.e hG_N_24 hk_21 _ rfl]) rfl ?_
          have h_26 := Inv.g hI_N_22 hk_21 rfl 4 (a := 0) (b := 20) rfl rfl
          refine kx_Vi 58 (ci := 0) F (As := [vI (N_22 (M (M c0 5) 4) 4)]) (st := []) vd_X11_145 (c_X11_answer G l N_24 c0 (N_22 (M (M c0 5) 4) 4) hI_N_24 hk_c0 (by omega)) hk_c0 rfl rfl rfl ⟨by decide, by decide⟩ rfl rfl (Nat.le_of_ble_eq_true rfl) dX11_drop_55 rfl ?_
          intro r_27 N_28 q_29
          obtain ⟨hI_N_28, hG_N_28, q_29c⟩ := q_29
          have hF_N_28 : Fr f_e_drop7 M N_28 := Fr.c hF_N_24 hG_N_28 rfl
          have hE_N_28 : Cf (zRG (M c0 5) a1) M N_28 := Cf.fr hE_N_24 hG_N_28 rfl
          have hz4 := hA_N_22.n (d := 4) (y := 85 * a1 + 100 + 4) (by decide) rfl
          rw [zdrop_4, hq44] at hz4
          have e_30 : (N_28 (M (M c0 5) 4) 4) = (N_22 (M (M c0 5) 4) 4) := by rw [Fr.e hG_N_28 hk_21 _ rfl, Fr.e hG_N_24 hk_21 _ rfl]
          exact kx_iret F hQ ⟨hI_N_28, hF_N_28, (by omega), hE_N_28, ⟨(zdrop q (85 * a1 + 100) a2), Or.inl ⟨by omega, by omega, rfl⟩, zSN.cg hS (funext (fun j => by rw [Fr.e hG_N_28 hk_1 _ rfl, Fr.e hG_N_24 hk_1 _ rfl, Fr.e hG_N_22 hk_1 _ rfl])) (by unfold zdrop; rw [if_neg (by omega), if_neg (by omega)]) (by unfold zdrop; rw [if_neg (by omega), if_neg (by omega)]) (by unfold zdrop; rw [if_neg (by omega), if_neg (by omega)]) (by unfold zdrop; rw [if_neg (by omega), if_neg (by omega)]), zSU.set (a := a1) (x := (M (M c0 5) 4)) hU (by omega) rfl (by omega) hZ hI_M hk_1 hE_N_28 (funext (fun j => by rw [Fr.e hG_N_28 hk_1 _ rfl, Fr.e hG_N_24 hk_1 _ rfl, Fr.e hG_N_22 hk_1 _ rfl])) (by have h := (AT.fr (AT.fr hA_N_22 hI_N_22 hk_21 hG_N_24 rfl) hI_N_24 hk_21 hG_N_28 rfl); exact h) (by unfold zdrop; rw [if_neg (by omega), if_neg (by omega)]) (by unfold zdrop; rw [if_neg (by omega), if_neg (by omega)]) (fun i h1 h2 h3 => (by unfold zdrop; rw [if_neg (by omega), if_neg (by omega)])) hV, (zTC.fr (htf_N_24 _) hI_N_24 hk_c0 hG_N_28 rfl)⟩⟩ dX11_drop_58
        · exfalso; omega
      · refine kx_if_ne 26 F 32 dX11_drop_23 (by decide) rfl (by omega) (fun h_31 => (by exfalso; omega)) (fun h_31 => ?_)
        refine kx_aload_n 27 F 0 dX11_drop_26 rfl rfl rfl ?_
        refine kx_iconst 28 F dX11_drop_27 rfl ?_
        refine kx_Vi 31 (ci := 0) F (As := [vI 1]) (st := []) vd_X11_110 (c_X11_refuse G l M c0 1 hI_M hk_c0 (by omega)) hk_c0 rfl rfl rfl ⟨by decide, by decide⟩ rfl rfl (Nat.le_of_ble_eq_true rfl) dX11_drop_28 rfl ?_
        intro r_32 N_33 q_34
        obtain ⟨hI_N_33, hG_N_33, q_34c⟩ := q_34
        have hF_N_33 : Fr f_e_drop7 M N_33 := Fr.c hF_M hG_N_33 rfl
        have hE_N_33 : Cf (zRG (M c0 5) a1) M N_33 := Cf.fr hE_M hG_N_33 rfl
        subst q_34c
        exact kx_iret F hQ ⟨hI_N_33, hF_N_33, (by omega), hE_N_33, ⟨q, Or.inr ⟨fun h => by omega, by omega, rfl⟩, (zSN.fr hS hk_1 hG_N_33 rfl), (zSU.fr hU hI_M hk_1 hG_N_33 rfl), (zTC.fr hK hI_M hk_c0 hG_N_33 rfl)⟩⟩ dX11_drop_31
      · refine kx_if_ne 26 F 32 dX11_drop_23 (by decide) rfl (by omega) (fun h_35 => (by exfalso; omega)) (fun h_35 => ?_)
        refine kx_aload_n 27 F 0 dX11_drop_26 rfl rfl rfl ?_
        refine kx_iconst 28 F dX11_drop_27 rfl ?_
        refine kx_Vi 31 (ci := 0) F (As := [vI 1]) (st := []) vd_X11_110 (c_X11_refuse G l M c0 1 hI_M hk_c0 (by omega)) hk_c0 rfl rfl rfl ⟨by decide, by decide⟩ rfl rfl (Nat.le_of_ble_eq_true rfl) dX11_drop_28 rfl ?_
        intro r_36 N_37 q_38
        obtain ⟨hI_N_37, hG_N_37, q_38c⟩ := q_38
        have hF_N_37 : Fr f_e_drop7 M N_37 := Fr.c hF_M hG_N_37 rfl
        have hE_N_37 : Cf (zRG (M c0 5) a1) M N_37 := Cf.fr hE_M hG_N_37 rfl
        subst q_38c
        exact kx_iret F hQ ⟨hI_N_37, hF_N_37, (by omega), hE_N_37, ⟨q, Or.inr ⟨fun h => by omega, by omega, rfl⟩, (zSN.fr hS hk_1 hG_N_37 rfl), (zSU.fr hU hI_M hk_1 hG_N_37 rfl), (zTC.fr hK hI_M hk_c0 hG_N_37 rfl)⟩⟩ dX11_drop_31
    · have hA := hU.2 (by omega)
      have hn0 : M (M (M c0 5) 5) 0 = q (85 * a1 + 100) := hA.n (by decide) (by omega)
      have hn1 : M (M (M c0 5) 5) 1 = q (85 * a1 + 101) := hA.n (by decide) (by omega)
      have hn2 : M (M (M c0 5) 5) 2 = q (85 * a1 + 102) := hA.n (by decide) (by omega)
      have hn3 : M (M (M c0 5) 5) 3 = q (85 * a1 + 103) := hA.n (by decide) (by omega)
      have hn4 : M (M (M c0 5) 5) 4 = q (85 * a1 + 104) := hA.n (by decide) (by omega)
      have hq44 : q (85 * a1 + 100 + 4) = q (85 * a1 + 104) := by rw [show 85 * a1 + 100 + 4 = 85 * a1 + 104 by omega]
      have hgx0 := Inv.g hI_M hk_11 rfl 0 (a := 0) (b := 3) rfl rfl
      have hgx1 := Inv.g hI_M hk_11 rfl 1 (a := 0) (b := 3) rfl rfl
      have hgx4 := Inv.g hI_M hk_11 rfl 4 (a := 0) (b := 20) rfl rfl
      have hxz := (hZ.2.1 (M c0 5) hk_1).2.1
      refine kx_iload_n 20 F 2 dX11_drop_19 rfl rfl rfl ?_
      refine kx_Vi 23 (ci := 0) F (As := [vI a2]) (st := []) vd_X11_185 (e_X0_hasRule G l M (M (M c0 5) 5) a2 hI_M hk_11 (by omega)) hk_11 rfl rfl rfl ⟨by decide, by decide⟩ rfl rfl (Nat.le_of_ble_eq_true rfl) dX11_drop_20 rfl ?_
      intro r_39 N_40 q_41
      obtain ⟨rfl, q_41c⟩ := q_41
      rcases q_41c with q_41c | q_41c | q_41c
      · refine kx_if_ne 26 F 32 dX11_drop_23 (by decide) rfl (by omega) (fun h_44 => ?_) (fun h_44 => (by exfalso; omega))
        refine kx_aload_n 33 F 0 dX11_drop_32 rfl rfl rfl ?_
        refine kx_getr 36 F fl_X11_26 hk_c0 rfl rfl (j := 5) rfl dX11_drop_33 (v := (M c0 5)) rfl rfl ?_
        refine kx_iload_n 37 F 1 dX11_drop_36 rfl rfl rfl ?_
        refine kx_Vr 40 (ci := 0) F (As := [vI a1]) (st := []) vd_X11_164 (c_X5_pickE G l M (M c0 5) a1 hI_M hk_1 (by omega)) hk_1 rfl rfl rfl ⟨by decide, by decide⟩ rfl rfl (Nat.le_of_ble_eq_true rfl) dX11_drop_37 rfl ?_
        intro r_45 N_46 q_47
        obtain ⟨rfl, hk_48, q_47d⟩ := q_47
        rcases q_47d with ⟨q_47c, rfl⟩ | ⟨q_47c, rfl⟩
        · exfalso; omega
        · have hA := hU.2 (by omega)
          have hn0 : M (M (M c0 5) 5) 0 = q (85 * a1 + 100) := hA.n (by decide) (by omega)
          have hn1 : M (M (M c0 5) 5) 1 = q (85 * a1 + 101) := hA.n (by decide) (by omega)
          have hn2 : M (M (M c0 5) 5) 2 = q (85 * a1 + 102) := hA.n (by decide) (by omega)
          have hn3 : M (M (M c0 5) 5) 3 = q (85 * a1 + 103) := hA.n (by decide) (by omega)
          have hn4 : M (M (M c0 5) 5) 4 = q (85 * a1 + 104) := hA.n (by decide) (by omega)
          have hq44 : q (85 * a1 + 100 + 4) = q (85 * a1 + 104) := by rw [show 85 * a1 + 100 + 4 = 85 * a1 + 104 by omega]
          have hgx0 := Inv.g hI_M hk_48 rfl 0 (a := 0) (b := 3) rfl rfl
          have hgx1 := Inv.g hI_M hk_48 rfl 1 (a := 0) (b := 3) rfl rfl
          have hgx4 := Inv.g hI_M hk_48 rfl 4 (a := 0) (b := 20) rfl rfl
          have hxz := (hZ.2.1 (M c0 5) hk_1).2.1
          refine kx_astore_n 41 F 3 (lo' := [some (vR G c0), some (vI a1), some (vI a2), some (vR G (M (M c0 5) 5))]) dX11_drop_40 rfl (by decide) rfl rfl rfl ?_
          refine kx_aload_n 42 F 3 dX11_drop_41 rfl rfl rfl ?_
          refine kx_iload_n 43 F 2 dX11_drop_42 rfl rfl rfl ?_
          refine kx_Vv 46 (ci := 0) F (As := [vI a2]) (st := []) vd_X11_212 (e_X0_remove G l M (M (M c0 5) 5) a2 hI_M hk_48 (by omega) q (85 * a1 + 100) (by rw [show 85 * a1 + 100 = 185 by omega]; exact hA) (by omega)) hk_48 rfl rfl rfl ⟨by decide, by decide⟩ rfl rfl (Nat.le_of_ble_eq_true rfl) dX11_drop_43 rfl ?_
          intro N_49 q_50
          obtain ⟨hI_N_49, hG_N_49, hC_N_49, hA_N_49⟩ := q_50
          have hF_N_49 : Fr f_e_drop7 M N_49 := Fr.c hF_M hG_N_49 rfl
          have hE_N_49 : Cf (zRG (M c0 5) a1) M N_49 := Cf.c hE_M hC_N_49 (fun y hy => by have a := SA.in hy hZ hk_48; have z := hZ.2.1 (M c0 5) hk_1; exact ⟨by omega, by omega, by omega, by omega⟩)
          refine kx_aload_n 47 F 0 dX11_drop_46 rfl rfl rfl ?_
          refine kx_Vv 50 (ci := 0) F (As := []) (st := []) vd_X11_139 (e_forget3 G l N_49 c0 hI_N_49 hk_c0) hk_c0 rfl rfl rfl ⟨by decide, by decide⟩ rfl rfl (Nat.le_of_ble_eq_true rfl) dX11_drop_47 rfl ?_
          intro N_51 q_52
          obtain ⟨hI_N_51, hG_N_51, hfg_N_51⟩ := q_52
          have hF_N_51 : Fr f_e_drop7 M N_51 := Fr.c hF_N_49 hG_N_51 rfl
          have hE_N_51 : Cf (zRG (M c0 5) a1) M N_51 := Cf.fr hE_N_49 hG_N_51 rfl
          have htf_N_51 : ∀ q, zTC N_51 c0 q := fun q => zTC.no (by rw [show N_51 c0 8 = N_49 c0 8 from Fr.e hG_N_51 hk_c0 8 rfl]; exact hfg_N_51.1) (by rw [show N_51 c0 9 = N_49 c0 9 from Fr.e hG_N_51 hk_c0 9 rfl]; exact hfg_N_51.2)
          refine kx_aload_n 51 F 0 dX11_drop_50 rfl rfl rfl ?_
          refine kx_aload_n 52 F 3 dX11_drop_51 rfl rfl rfl ?_
          refine kx_geti 55 F fl_X11_182 hk_48 rfl rfl (j := 4) rfl dX11_drop_52 (v := (N_49 (M (M c0 5) 5) 4)) (by rw [Fr.e hG_N_51 hk_48 _ rfl]) rfl ?_
          have h_53 := Inv.g hI_N_49 hk_48 rfl 4 (a := 0) (b := 20) rfl rfl
          refine kx_Vi 58 (ci := 0) F (As := [vI (N_49 (M (M c0 5) 5) 4)]) (st := []) vd_X11_145 (c_X11_answer G l N_51 c0 (N_49 (M (M c0 5) 5) 4) hI_N_51 hk_c0 (by omega)) hk_c0 rfl rfl rfl ⟨by decide, by decide⟩ rfl rfl (Nat.le_of_ble_eq_true rfl) dX11_drop_55 rfl ?_
          intro r_54 N_55 q_56
          obtain ⟨hI_N_55, hG_N_55, q_56c⟩ := q_56
          have hF_N_55 : Fr f_e_drop7 M N_55 := Fr.c hF_N_51 hG_N_55 rfl
          have hE_N_55 : Cf (zRG (M c0 5) a1) M N_55 := Cf.fr hE_N_51 hG_N_55 rfl
          have hz4 := hA_N_49.n (d := 4) (y := 85 * a1 + 100 + 4) (by decide) rfl
          rw [zdrop_4, hq44] at hz4
          have e_57 : (N_55 (M (M c0 5) 5) 4) = (N_49 (M (M c0 5) 5) 4) := by rw [Fr.e hG_N_55 hk_48 _ rfl, Fr.e hG_N_51 hk_48 _ rfl]
          exact kx_iret F hQ ⟨hI_N_55, hF_N_55, (by omega), hE_N_55, ⟨(zdrop q (85 * a1 + 100) a2), Or.inl ⟨by omega, by omega, rfl⟩, zSN.cg hS (funext (fun j => by rw [Fr.e hG_N_55 hk_1 _ rfl, Fr.e hG_N_51 hk_1 _ rfl, Fr.e hG_N_49 hk_1 _ rfl])) (by unfold zdrop; rw [if_neg (by omega), if_neg (by omega)]) (by unfold zdrop; rw [if_neg (by omega), if_neg (by omega)]) (by unfold zdrop; rw [if_neg (by omega), if_neg (by omega)]) (by unfold zdrop; rw [if_neg (by omega), if_neg (by omega)]), zSU.set (a := a1) (x := (M (M c0 5) 5)) hU (by omega) rfl (by omega) hZ hI_M hk_1 hE_N_55 (funext (fun j => by rw [Fr.e hG_N_55 hk_1 _ rfl, Fr.e hG_N_51 hk_1 _ rfl, Fr.e hG_N_49 hk_1 _ rfl])) (by have h := (AT.fr (AT.fr hA_N_49 hI_N_49 hk_48 hG_N_51 rfl) hI_N_51 hk_48 hG_N_55 rfl); exact h) (by unfold zdrop; rw [if_neg (by omega), if_neg (by omega)]) (by unfold zdrop; rw [if_neg (by omega), if_neg (by omega)]) (fun i h1 h2 h3 => (by unfold zdrop; rw [if_neg (by omega), if_neg (by omega)])) hV, (zTC.fr (htf_N_51 _) hI_N_51 hk_c0 hG_N_55 rfl)⟩⟩ dX11_drop_58
      · refine kx_if_ne 26 F 32 dX11_drop_23 (by decide) rfl (by omega) (fun h_58 => (by exfalso; omega)) (fun h_58 => ?_)
        refine kx_aload_n 27 F 0 dX11_drop_26 rfl rfl rfl ?_
        refine kx_iconst 28 F dX11_drop_27 rfl ?_
        refine kx_Vi 31 (ci := 0) F (As := [vI 1]) (st := []) vd_X11_110 (c_X11_refuse G l M c0 1 hI_M hk_c0 (by omega)) hk_c0 rfl rfl rfl ⟨by decide, by decide⟩ rfl rfl (Nat.le_of_ble_eq_true rfl) dX11_drop_28 rfl ?_
        intro r_59 N_60 q_61
        obtain ⟨hI_N_60, hG_N_60, q_61c⟩ := q_61
        have hF_N_60 : Fr f_e_drop7 M N_60 := Fr.c hF_M hG_N_60 rfl
        have hE_N_60 : Cf (zRG (M c0 5) a1) M N_60 := Cf.fr hE_M hG_N_60 rfl
        subst q_61c
        exact kx_iret F hQ ⟨hI_N_60, hF_N_60, (by omega), hE_N_60, ⟨q, Or.inr ⟨fun h => by omega, by omega, rfl⟩, (zSN.fr hS hk_1 hG_N_60 rfl), (zSU.fr hU hI_M hk_1 hG_N_60 rfl), (zTC.fr hK hI_M hk_c0 hG_N_60 rfl)⟩⟩ dX11_drop_31
      · refine kx_if_ne 26 F 32 dX11_drop_23 (by decide) rfl (by omega) (fun h_62 => (by exfalso; omega)) (fun h_62 => ?_)
        refine kx_aload_n 27 F 0 dX11_drop_26 rfl rfl rfl ?_
        refine kx_iconst 28 F dX11_drop_27 rfl ?_
        refine kx_Vi 31 (ci := 0) F (As := [vI 1]) (st := []) vd_X11_110 (c_X11_refuse G l M c0 1 hI_M hk_c0 (by omega)) hk_c0 rfl rfl rfl ⟨by decide, by decide⟩ rfl rfl (Nat.le_of_ble_eq_true rfl) dX11_drop_28 rfl ?_
        intro r_63 N_64 q_65
        obtain ⟨hI_N_64, hG_N_64, q_65c⟩ := q_65
        have hF_N_64 : Fr f_e_drop7 M N_64 := Fr.c hF_M hG_N_64 rfl
        have hE_N_64 : Cf (zRG (M c0 5) a1) M N_64 := Cf.fr hE_M hG_N_64 rfl
        subst q_65c
        exact kx_iret F hQ ⟨hI_N_64, hF_N_64, (by omega), hE_N_64, ⟨q, Or.inr ⟨fun h => by omega, by omega, rfl⟩, (zSN.fr hS hk_1 hG_N_64 rfl), (zSU.fr hU hI_M hk_1 hG_N_64 rfl), (zTC.fr hK hI_M hk_c0 hG_N_64 rfl)⟩⟩ dX11_drop_31
  · refine kx_if_eq 11 F 26 dX11_drop_8 (by decide) rfl (by omega) (fun h_66 => ?_) (fun h_66 => (by exfalso; omega))
    refine kx_aload_n 27 F 0 dX11_drop_26 rfl rfl rfl ?_
    refine kx_iconst 28 F dX11_drop_27 rfl ?_
    refine kx_Vi 31 (ci := 0) F (As := [vI 1]) (st := []) vd_X11_110 (c_X11_refuse G l M c0 1 hI_M hk_c0 (by omega)) hk_c0 rfl rfl rfl ⟨by decide, by decide⟩ rfl rfl (Nat.le_of_ble_eq_true rfl) dX11_drop_28 rfl ?_
    intro r_67 N_68 q_69
    obtain ⟨hI_N_68, hG_N_68, q_69c⟩ := q_69
    have hF_N_68 : Fr f_e_drop7 M N_68 := Fr.c hF_M hG_N_68 rfl
    have hE_N_68 : Cf (zRG (M c0 5) a1) M N_68 := Cf.fr hE_M hG_N_68 rfl
    subst q_69c
    exact kx_iret F hQ ⟨hI_N_68, hF_N_68, (by omega), hE_N_68, ⟨q, Or.inr ⟨fun h => by omega, by omega, rfl⟩, (zSN.fr hS hk_1 hG_N_68 rfl), (zSU.fr hU hI_M hk_1 hG_N_68 rfl), (zTC.fr hK hI_M hk_c0 hG_N_68 rfl)⟩⟩ dX11_drop_31
  · refine kx_if_eq 11 F 26 dX11_drop_8 (by decide) rfl (by omega) (fun h_70 => ?_) (fun h_70 => (by exfalso; omega))
    refine kx_aload_n 27 F 0 dX11_drop_26 rfl rfl rfl ?_
    refine kx_iconst 28 F dX11_drop_27 rfl ?_
    refine kx_Vi 31 (ci := 0) F (As := [vI 1]) (st := []) vd_X11_110 (c_X11_refuse G l M c0 1 hI_M hk_c0 (by omega)) hk_c0 rfl rfl rfl ⟨by decide, by decide⟩ rfl rfl (Nat.le_of_ble_eq_true rfl) dX11_drop_28 rfl ?_
    intro r_71 N_72 q_73
    obtain ⟨hI_N_72, hG_N_72, q_73c⟩ := q_73
    have hF_N_72 : Fr f_e_drop7 M N_72 := Fr.c hF_M hG_N_72 rfl
    have hE_N_72 : Cf (zRG (M c0 5) a1) M N_72 := Cf.fr hE_M hG_N_72 rfl
    subst q_73c
    exact kx_iret F hQ ⟨hI_N_72, hF_N_72, (by omega), hE_N_72, ⟨q, Or.inr ⟨fun h => by omega, by omega, rfl⟩, (zSN.fr hS hk_1 hG_N_72 rfl), (zSU.fr hU hI_M hk_1 hG_N_72 rfl), (zTC.fr hK hI_M hk_c0 hG_N_72 rfl)⟩⟩ dX11_drop_31
abbrev f_e_start7 : List (Nat × Int) := [(1, 2), (21, 0), (41, 2), (62, 0)]
set_option maxHeartbeats 4000000 in
set_option maxRecDepth 100000 in
theorem e_start7 (G : KG) (l : Launch) (M : Mem) (c0 : Int) (a1 : Int) (a2 : Int) (a3 : Int) (hI_M : Inv false M) (hk_c0 : kd c0 = 62) (hpre : -2147483648 ≤ a1 ∧ a1 ≤ 2147483647 ∧ -2147483648 ≤ a2 ∧ a2 ≤ 2147483647 ∧ 0 ≤ a3 ∧ a3 ≤ 1) (q : Int → Int) (hS : zSN M (M c0 5) q) (hU : zSU M (M c0 5) q) (hZ : FZ M) (hV : zQV q) (hK : zTC M c0 q) : KC false G l yX11_start cX11_start 6 (some .int) (2, 43) [vR G c0, vI a1, vI a2, vI a3] M (fun A => kQi false G A (fun (r : Int) (N : Mem) => Inv false N ∧ Fr f_e_start7 M N ∧ (r ≥ -2147483648 ∧ r ≤ 2147483647) ∧ Cf (zRG (M c0 5) a1) M N ∧ (∃ q2, zST q 2 a1 a2 a3 r q2 ∧ zSN N (M c0 5) q2 ∧ zSU N (M c0 5) q2 ∧ zTC N c0 q2))) := by
  refine kx_met (lo := [some (vR G c0), some (vI a1), some (vI a2), some (vI a3), none, none]) (by decide) (Nat.le_of_ble_eq_true rfl) rfl ?_
  intro X F hQ
  have hF_M : Fr f_e_start7 M M := Fr.rf _ _
  have hE_M : Cf (zRG (M c0 5) a1) M M := Cf.rf _ _
  have hk_1 : kd (M c0 5) = 12 := Inv.r hI_M hk_c0 rfl 5 rfl rfl
  have hSn := hS.u
  have hVu := hV.u
  refine kx_aload_n 1 F 0 dX11_start_0 rfl rfl rfl ?_
  refine kx_iload_n 2 F 1 dX11_start_1 rfl rfl rfl ?_
  refine kx_iload_n 3 F 2 dX11_start_2 rfl rfl rfl ?_
  have h_2 := Inv.g hI_M hk_1 rfl 3 (a := 0) (b := 2) rfl rfl
  refine kx_Vi 6 (ci := 0) F (As := [vI a1, vI a2]) (st := []) vd_X11_215 (e_X11_hasState G l M c0 a1 a2 hI_M hk_c0 (by omega)) hk_c0 rfl rfl rfl ⟨by decide, by decide⟩ rfl rfl (Nat.le_of_ble_eq_true rfl) dX11_start_3 rfl ?_
  intro r_3 N_4 q_5
  obtain ⟨rfl, q_5c⟩ := q_5
  have hk_6 : kd (M (M c0 5) 4) = 1 := Inv.r hI_M hk_1 rfl 4 rfl rfl
  have h_7 := Inv.g hI_M hk_6 rfl 0 (a := 0) (b := 3) rfl rfl
  have hk_8 : kd (M (M c0 5) 5) = 1 := Inv.r hI_M hk_1 rfl 5 rfl rfl
  have h_9 := Inv.g hI_M hk_8 rfl 0 (a := 0) (b := 3) rfl rfl
  have hk_10 : kd (M (M c0 5) 4) = 1 := Inv.r hI_M hk_1 rfl 4 rfl rfl
  have h_11 := Inv.g hI_M hk_10 rfl 0 (a := 0) (b := 3) rfl rfl
  have hk_12 : kd (M (M c0 5) 5) = 1 := Inv.r hI_M hk_1 rfl 5 rfl rfl
  have h_13 := Inv.g hI_M hk_12 rfl 0 (a := 0) (b := 3) rfl rfl
  rcases q_5c with q_5c | q_5c | q_5c | q_5c | q_5c | q_5c | q_5c | q_5c | q_5c
  · refine kx_if_ne 9 F 15 dX11_start_6 (by decide) rfl (by omega) (fun h_14 => ?_) (fun h_14 => (by exfalso; omega))
    refine kx_aload_n 16 F 0 dX11_start_15 rfl rfl rfl ?_
    refine kx_getr 19 F fl_X11_26 hk_c0 rfl rfl (j := 5) rfl dX11_start_16 (v := (M c0 5)) rfl rfl ?_
    refine kx_iload_n 20 F 1 dX11_start_19 rfl rfl rfl ?_
    refine kx_Vr 23 (ci := 0) F (As := [vI a1]) (st := []) vd_X11_164 (c_X5_pickE G l M (M c0 5) a1 hI_M hk_1 (by omega)) hk_1 rfl rfl rfl ⟨by decide, by decide⟩ rfl rfl (Nat.le_of_ble_eq_true rfl) dX11_start_20 rfl ?_
    intro r_15 N_16 q_17
    obtain ⟨rfl, hk_18, q_17d⟩ := q_17
    rcases q_17d with ⟨q_17c, rfl⟩ | ⟨q_17c, rfl⟩
    · have hA := hU.1 (by omega)
      have hn0 : M (M (M c0 5) 4) 0 = q (85 * a1 + 100) := hA.n (by decide) (by omega)
      have hn1 : M (M (M c0 5) 4) 1 = q (85 * a1 + 101) := hA.n (by decide) (by omega)
      have hn2 : M (M (M c0 5) 4) 2 = q (85 * a1 + 102) := hA.n (by decide) (by omega)
      have hn3 : M (M (M c0 5) 4) 3 = q (85 * a1 + 103) := hA.n (by decide) (by omega)
      have hn4 : M (M (M c0 5) 4) 4 = q (85 * a1 + 104) := hA.n (by decide) (by omega)
      have hq44 : q (85 * a1 + 100 + 4) = q (85 * a1 + 104) := by rw [show 85 * a1 + 100 + 4 = 85 * a1 + 104 by omega]
      have hgx0 := Inv.g hI_M hk_18 rfl 0 (a := 0) (b := 3) rfl rfl
      have hgx1 := Inv.g hI_M hk_18 rfl 1 (a := 0) (b := 3) rfl rfl
      have hgx4 := Inv.g hI_M hk_18 rfl 4 (a := 0) (b := 20) rfl rfl
      have hxz := (hZ.2.1 (M c0 5) hk_1).1
      refine kx_astore 25 F 4 (lo' := [some (vR G c0), some (vI a1), some (vI a2), some (vI a3), some (vR G (M (M c0 5) 4)), none]) dX11_start_23 (by decide) rfl rfl rfl ?_
      have hqw : q (85 * a1 + 100 + 2) = M (M (M c0 5) 4) 2 := by have h := hn2; rw [show 85 * a1 + 100 + 2 = 85 * a1 + 102 by omega]; exact h.symm
      have hsr := Inv.g hI_M hk_18 rfl 2 (a := 0) (b := 7) rfl rfl
      have hbit := bit_u (s := M (M (M c0 5) 4) 2) (k := a2) (by omega) (by omega)
      refine kx_iload_n 26 F 3 dX11_start_25 rfl rfl rfl ?_
      refine kx_if_eq 29 F 41 dX11_start_26 (by decide) rfl (by omega) (fun h_19 => ?_) (fun h_19 => ?_)
      · refine kx_aload 43 F 4 dX11_start_41 rfl rfl ?_
        refine kx_geti 46 F fl_X11_176 hk_18 rfl rfl (j := 2) rfl dX11_start_43 (v := (M (M (M c0 5) 4) 2)) rfl rfl ?_
        refine kx_iconst 47 F dX11_start_46 rfl ?_
        refine kx_iload_n 48 F 2 dX11_start_47 rfl rfl rfl ?_
        refine kx_ishl 49 F (v := (zshl 1 a2)) dX11_start_48 rfl rfl ?_
        have h_21 := zshl_1 (b := a2) 2 (by decide) (by omega)
        refine kx_iconst 50 F dX11_start_49 rfl ?_
        refine kx_ixor 51 F (v := (zxor (zshl 1 a2) (-1))) dX11_start_50 rfl rfl ?_
        have h_22 := zxor_rng (zshl 1 a2) (-1)
        refine kx_iand 52 F (v := (zand (M (M (M c0 5) 4) 2) (zxor (zshl 1 a2) (-1)))) dX11_start_51 rfl rfl ?_
        have h_23 := zand_l (a := (M (M (M c0 5) 4) 2)) (b := (zxor (zshl 1 a2) (-1))) (by omega)
        refine kx_istore 54 F 5 (lo' := [some (vR G c0), some (vI a1), some (vI a2), some (vI a3), some (vR G (M (M c0 5) 4)), some (vI (zand (M (M (M c0 5) 4) 2) (zxor (zshl 1 a2) (-1))))]) dX11_start_52 (by decide) rfl rfl rfl ?_
        refine kx_iload 56 F 5 dX11_start_54 rfl rfl ?_
        refine kx_aload 58 F 4 dX11_start_56 rfl rfl ?_
        refine kx_geti 61 F fl_X11_176 hk_18 rfl rfl (j := 2) rfl dX11_start_58 (v := (M (M (M c0 5) 4) 2)) rfl rfl ?_
        refine kx_icmp_ne 64 F 71 dX11_start_61 (by decide) rfl (by omega) (by omega) (fun h_24 => ?_) (fun h_24 => ?_)
        · refine kx_aload 73 F 4 dX11_start_71 rfl rfl ?_
          refine kx_iload 75 F 5 dX11_start_73 rfl rfl ?_
          refine kx_puti 78 F fw_X11_176 rfl hk_18 rfl rfl (j := 2) rfl dX11_start_75 rfl ?_
          intro N_25 hM_N_25
          have hI_N_25 : Inv false N_25 := Inv.u hI_M hM_N_25 hk_18 (a := 0) (b := 7) rfl rfl rfl (by omega)
          have hF_N_25 : Fr f_e_start7 M N_25 := Fr.u hF_M hM_N_25 hk_18 rfl
          have hE_N_25 : Cf (zRG (M c0 5) a1) M N_25 := Cf.st hE_M hM_N_25 ⟨by have z := hZ.2.1 (M c0 5) hk_1; omega, by have z := hZ.2.1 (M c0 5) hk_1; omega, by have z := hZ.2.1 (M c0 5) hk_1; omega, by have z := hZ.2.1 (M c0 5) hk_1; omega⟩
          refine kx_aload_n 79 F 0 dX11_start_78 rfl rfl rfl ?_
          refine kx_Vv 82 (ci := 0) F (As := []) (st := []) vd_X11_139 (e_forget3 G l N_25 c0 hI_N_25 hk_c0) hk_c0 rfl rfl rfl ⟨by decide, by decide⟩ rfl rfl (Nat.le_of_ble_eq_true rfl) dX11_start_79 rfl ?_
          intro N_26 q_27
          obtain ⟨hI_N_26, hG_N_26, hfg_N_26⟩ := q_27
          have hF_N_26 : Fr f_e_start7 M N_26 := Fr.c hF_N_25 hG_N_26 rfl
          have hE_N_26 : Cf (zRG (M c0 5) a1) M N_26 := Cf.fr hE_N_25 hG_N_26 rfl
          have htf_N_26 : ∀ q, zTC N_26 c0 q := fun q => zTC.no (by rw [show N_26 c0 8 = N_25 c0 8 from Fr.e hG_N_26 hk_c0 8 rfl]; exact hfg_N_26.1) (by rw [show N_26 c0 9 = N_25 c0 9 from Fr.e hG_N_26 hk_c0 9 rfl]; exact hfg_N_26.2)
          refine kx_aload_n 83 F 0 dX11_start_82 rfl rfl rfl ?_
          refine kx_iload 85 F 5 dX11_start_83 rfl rfl ?_
          refine kx_Vi 88 (ci := 0) F (As := [vI (zand (M (M (M c0 5) 4) 2) (zxor (zshl 1 a2) (-1)))]) (st := []) vd_X11_145 (c_X11_answer G l N_26 c0 (zand (M (M (M c0 5) 4) 2) (zxor (zshl 1 a2) (-1))) hI_N_26 hk_c0 (by omega)) hk_c0 rfl rfl rfl ⟨by decide, by decide⟩ rfl rfl (Nat.le_of_ble_eq_true rfl) dX11_start_85 rfl ?_
          intro r_28 N_29 q_30
          obtain ⟨hI_N_29, hG_N_29, q_30c⟩ := q_30
          have hF_N_29 : Fr f_e_start7 M N_29 := Fr.c hF_N_26 hG_N_29 rfl
          have hE_N_29 : Cf (zRG (M c0 5) a1) M N_29 := Cf.fr hE_N_26 hG_N_29 rfl
          have hAs : AT N_25 (M (M c0 5) 4) (upk q (85 * a1 + 100 + 2) (zxor (q (85 * a1 + 100 + 2)) (zshl 1 a2))) (85 * a1 + 100) := by have h0 : AT M (M (M c0 5) 4) q (85 * a1 + 100) := (by rw [show 85 * a1 + 100 = 100 by omega]; exact hA); exact AT.put h0 (Or.inl rfl) (by omega) hI_M hk_18 hM_N_25 (by rw [hqw]; omega)
          exact kx_iret F hQ ⟨hI_N_29, hF_N_29, (by omega), hE_N_29, ⟨(upk q (85 * a1 + 100 + 2) (zxor (q (85 * a1 + 100 + 2)) (zshl 1 a2))), Or.inl ⟨⟨by omega, by omega, by omega, by omega, by rw [hqw]; omega⟩, by rw [hqw]; omega, rfl⟩, zSN.cg hS (funext (fun j => by rw [Fr.e hG_N_29 hk_1 _ rfl, Fr.e hG_N_26 hk_1 _ rfl, hM_N_25, mu_k hk_1 hk_18 rfl])) (upk_o (by omega)) (upk_o (by omega)) (upk_o (by omega)) (upk_o (by omega)), zSU.set (a := a1) (x := (M (M c0 5) 4)) hU (by omega) rfl (by omega) hZ hI_M hk_1 hE_N_29 (funext (fun j => by rw [Fr.e hG_N_29 hk_1 _ rfl, Fr.e hG_N_26 hk_1 _ rfl, hM_N_25, mu_k hk_1 hk_18 rfl])) (AT.fr (AT.fr hAs hI_N_25 hk_18 hG_N_26 rfl) hI_N_26 hk_18 hG_N_29 rfl) (upk_o (by omega)) (upk_o (by omega)) (fun i h1 h2 h3 => (upk_o (by omega))) hV, (zTC.fr (htf_N_26 _) hI_N_26 hk_c0 hG_N_29 rfl)⟩⟩ dX11_start_88
        · refine kx_aload_n 65 F 0 dX11_start_64 rfl rfl rfl ?_
          refine kx_bipush 67 F dX11_start_65 (by decide) rfl ?_
          refine kx_Vi 70 (ci := 0) F (As := [vI 7]) (st := []) vd_X11_110 (c_X11_refuse G l M c0 7 hI_M hk_c0 (by omega)) hk_c0 rfl rfl rfl ⟨by decide, by decide⟩ rfl rfl (Nat.le_of_ble_eq_true rfl) dX11_start_67 rfl ?_
          intro r_31 N_32 q_33
          obtain ⟨hI_N_32, hG_N_32, q_33c⟩ := q_33
          have hF_N_32 : Fr f_e_start7 M N_32 := Fr.c hF_M hG_N_32 rfl
          have hE_N_32 : Cf (zRG (M c0 5) a1) M N_32 := Cf.fr hE_M hG_N_32 rfl
          subst q_33c
          exact kx_iret F hQ ⟨hI_N_32, hF_N_32, (by omega), hE_N_32, ⟨q, Or.inr ⟨fun h => by rw [hqw] at h; omega, by omega, rfl⟩, (zSN.fr hS hk_1 hG_N_32 rfl), (zSU.fr hU hI_M hk_1 hG_N_32 rfl), (zTC.fr hK hI_M hk_c0 hG_N_32 rfl)⟩⟩ dX11_start_70
      · refine kx_aload 31 F 4 dX11_start_29 rfl rfl ?_
        refine kx_geti 34 F fl_X11_176 hk_18 rfl rfl (j := 2) rfl dX11_start_31 (v := (M (M (M c0 5) 4) 2)) rfl rfl ?_
        refine kx_iconst 35 F dX11_start_34 rfl ?_
        refine kx_iload_n 36 F 2 dX11_start_35 rfl rfl rfl ?_
        refine kx_ishl 37 F (v := (zshl 1 a2)) dX11_start_36 rfl rfl ?_
        have h_35 := zshl_1 (b := a2) 2 (by decide) (by omega)
        refine kx_ior 38 F (v := (zor (M (M (M c0 5) 4) 2) (zshl 1 a2))) dX11_start_37 rfl rfl ?_
        have h_36 : 0 ≤ (zor (M (M (M c0 5) 4) 2) (zshl 1 a2)) ∧ (zor (M (M (M c0 5) 4) 2) (zshl 1 a2)) < 8 := zor_lt (a := (M (M (M c0 5) 4) 2)) (b := (zshl 1 a2)) 3 (by decide) (by omega) (by omega)
        refine kx_goto 52 F dX11_start_38 (by decide) ?_
        refine kx_istore 54 F 5 (lo' := [some (vR G c0), some (vI a1), some (vI a2), some (vI a3), some (vR G (M (M c0 5) 4)), some (vI (zor (M (M (M c0 5) 4) 2) (zshl 1 a2)))]) dX11_start_52 (by decide) rfl rfl rfl ?_
        refine kx_iload 56 F 5 dX11_start_54 rfl rfl ?_
        refine kx_aload 58 F 4 dX11_start_56 rfl rfl ?_
        refine kx_geti 61 F fl_X11_176 hk_18 rfl rfl (j := 2) rfl dX11_start_58 (v := (M (M (M c0 5) 4) 2)) rfl rfl ?_
        refine kx_icmp_ne 64 F 71 dX11_start_61 (by decide) rfl (by omega) (by omega) (fun h_37 => ?_) (fun h_37 => ?_)
        · refine kx_aload 73 F 4 dX11_start_71 rfl rfl ?_
          refine kx_iload 75 F 5 dX11_start_73 rfl rfl ?_
          refine kx_puti 78 F fw_X11_176 rfl hk_18 rfl rfl (j := 2) rfl dX11_start_75 rfl ?_
          intro N_38 hM_N_38
          have hI_N_38 : Inv false N_38 := Inv.u hI_M hM_N_38 hk_18 (a := 0) (b := 7) rfl rfl rfl (by omega)
          have hF_N_38 : Fr f_e_start7 M N_38 := Fr.u hF_M hM_N_38 hk_18 rfl
          have hE_N_38 : Cf (zRG (M c0 5) a1) M N_38 := Cf.st hE_M hM_N_38 ⟨by have z := hZ.2.1 (M c0 5) hk_1; omega, by have z := hZ.2.1 (M c0 5) hk_1; omega, by have z := hZ.2.1 (M c0 5) hk_1; omega, by have z := hZ.2.1 (M c0 5) hk_1; omega⟩
          refine kx_aload_n 79 F 0 dX11_start_78 rfl rfl rfl ?_
          refine kx_Vv 82 (ci := 0) F (As := []) (st := []) vd_X11_139 (e_forget3 G l N_38 c0 hI_N_38 hk_c0) hk_c0 rfl rfl rfl ⟨by decide, by decide⟩ rfl rfl (Nat.le_of_ble_eq_true rfl) dX11_start_79 rfl ?_
          intro N_39 q_40
          obtain ⟨hI_N_39, hG_N_39, hfg_N_39⟩ := q_40
          have hF_N_39 : Fr f_e_start7 M N_39 := Fr.c hF_N_38 hG_N_39 rfl
          have hE_N_39 : Cf (zRG (M c0 5) a1) M N_39 := Cf.fr hE_N_38 hG_N_39 rfl
          have htf_N_39 : ∀ q, zTC N_39 c0 q := fun q => zTC.no (by rw [show N_39 c0 8 = N_38 c0 8 from Fr.e hG_N_39 hk_c0 8 rfl]; exact hfg_N_39.1) (by rw [show N_39 c0 9 = N_38 c0 9 from Fr.e hG_N_39 hk_c0 9 rfl]; exact hfg_N_39.2)
          refine kx_aload_n 83 F 0 dX11_start_82 rfl rfl rfl ?_
          refine kx_iload 85 F 5 dX11_start_83 rfl rfl ?_
          refine kx_Vi 88 (ci := 0) F (As := [vI (zor (M (M (M c0 5) 4) 2) (zshl 1 a2))]) (st := []) vd_X11_145 (c_X11_answer G l N_39 c0 (zor (M (M (M c0 5) 4) 2) (zshl 1 a2)) hI_N_39 hk_c0 (by omega)) hk_c0 rfl rfl rfl ⟨by decide, by decide⟩ rfl rfl (Nat.le_of_ble_eq_true rfl) dX11_start_85 rfl ?_
          intro r_41 N_42 q_43
          obtain ⟨hI_N_42, hG_N_42, q_43c⟩ := q_43
          have hF_N_42 : Fr f_e_start7 M N_42 := Fr.c hF_N_39 hG_N_42 rfl
          have hE_N_42 : Cf (zRG (M c0 5) a1) M N_42 := Cf.fr hE_N_39 hG_N_42 rfl
          have hAs : AT N_38 (M (M c0 5) 4) (upk q (85 * a1 + 100 + 2) (zxor (q (85 * a1 + 100 + 2)) (zshl 1 a2))) (85 * a1 + 100) := by have h0 : AT M (M (M c0 5) 4) q (85 * a1 + 100) := (by rw [show 85 * a1 + 100 = 100 by omega]; exact hA); exact AT.put h0 (Or.inl rfl) (by omega) hI_M hk_18 hM_N_38 (by rw [hqw]; omega)
          exact kx_iret F hQ ⟨hI_N_42, hF_N_42, (by omega), hE_N_42, ⟨(upk q (85 * a1 + 100 + 2) (zxor (q (85 * a1 + 100 + 2)) (zshl 1 a2))), Or.inl ⟨⟨by omega, by omega, by omega, by omega, by rw [hqw]; omega⟩, by rw [hqw]; omega, rfl⟩, zSN.cg hS (funext (fun j => by rw [Fr.e hG_N_42 hk_1 _ rfl, Fr.e hG_N_39 hk_1 _ rfl, hM_N_38, mu_k hk_1 hk_18 rfl])) (upk_o (by omega)) (upk_o (by omega)) (upk_o (by omega)) (upk_o (by omega)), zSU.set (a := a1) (x := (M (M c0 5) 4)) hU (by omega) rfl (by omega) hZ hI_M hk_1 hE_N_42 (funext (fun j => by rw [Fr.e hG_N_42 hk_1 _ rfl, Fr.e hG_N_39 hk_1 _ rfl, hM_N_38, mu_k hk_1 hk_18 rfl])) (AT.fr (AT.fr hAs hI_N_38 hk_18 hG_N_39 rfl) hI_N_39 hk_18 hG_N_42 rfl) (upk_o (by omega)) (upk_o (by omega)) (fun i h1 h2 h3 => (upk_o (by omega))) hV, (zTC.fr (htf_N_39 _) hI_N_39 hk_c0 hG_N_42 rfl)⟩⟩ dX11_start_88
        · refine kx_aload_n 65 F 0 dX11_start_64 rfl rfl rfl ?_
          refine kx_bipush 67 F dX11_start_65 (by decide) rfl ?_
          refine kx_Vi 70 (ci := 0) F (As := [vI 7]) (st := []) vd_X11_110 (c_X11_refuse G l M c0 7 hI_M hk_c0 (by omega)) hk_c0 rfl rfl rfl ⟨by decide, by decide⟩ rfl rfl (Nat.le_of_ble_eq_true rfl) dX11_start_67 rfl ?_
          intro r_44 N_45 q_46
          obtain ⟨hI_N_45, hG_N_45, q_46c⟩ := q_46
          have hF_N_45 : Fr f_e_start7 M N_45 := Fr.c hF_M hG_N_45 rfl
          have hE_N_45 : Cf (zRG (M c0 5) a1) M N_45 := Cf.fr hE_M hG_N_45 rfl
          subst q_46c
          exact kx_iret F hQ ⟨hI_N_45, hF_N_45, (by omega), hE_N_45, ⟨q, Or.inr ⟨fun h => by rw [hqw] at h; omega, by omega, rfl⟩, (zSN.fr hS hk_1 hG_N_45 rfl), (zSU.fr hU hI_M hk_1 hG_N_45 rfl), (zTC.fr hK hI_M hk_c0 hG_N_45 rfl)⟩⟩ dX11_start_70
    · exfalso; omega
  · refine kx_if_ne 9 F 15 dX11_start_6 (by decide) rfl (by omega) (fun h_47 => ?_) (fun h_47 => (by exfalso; omega))
    refine kx_aload_n 16 F 0 dX11_start_15 rfl rfl rfl ?_
    refine kx_getr 19 F fl_X11_26 hk_c0 rfl rfl (j := 5) rfl dX11_start_16 (v := (M c0 5)) rfl rfl ?_
    refine kx_iload_n 20 F 1 dX11_start_19 rfl rfl rfl ?_
    refine kx_Vr 23 (ci := 0) F (As := [vI a1]) (st := []) vd_X11_164 (c_X5_pickE G l M (M c0 5) a1 hI_M hk_1 (by omega)) hk_1 rfl rfl rfl ⟨by decide, by decide⟩ rfl rfl (Nat.le_of_ble_eq_true rfl) dX11_start_20 rfl ?_
    intro r_48 N_49 q_50
    obtain ⟨rfl, hk_51, q_50d⟩ := q_50
    rcases q_50d with ⟨q_50c, rfl⟩ | ⟨q_50c, rfl⟩
    · exfalso; omega
    · have hA := hU.2 (by omega)
      have hn0 : M (M (M c0 5) 5) 0 = q (85 * a1 + 100) := hA.n (by decide) (by omega)
      have hn1 : M (M (M c0 5) 5) 1 = q (85 * a1 + 101) := hA.n (by decide) (by omega)
      have hn2 : M (M (M c0 5) 5) 2 = q (85 * a1 + 102) := hA.n (by decide) (by omega)
      have hn3 : M (M (M c0 5) 5) 3 = q (85 * a1 + 103) := hA.n (by decide) (by omega)
      have hn4 : M (M (M c0 5) 5) 4 = q (85 * a1 + 104) := hA.n (by decide) (by omega)
      have hq44 : q (85 * a1 + 100 + 4) = q (85 * a1 + 104) := by rw [show 85 * a1 + 100 + 4 = 85 * a1 + 104 by omega]
      have hgx0 := Inv.g hI_M hk_51 rfl 0 (a := 0) (b := 3) rfl rfl
      have hgx1 := Inv.g hI_M hk_51 rfl 1 (a := 0) (b := 3) rfl rfl
      have hgx4 := Inv.g hI_M hk_51 rfl 4 (a := 0) (b := 20) rfl rfl
      have hxz := (hZ.2.1 (M c0 5) hk_1).2.1
      refine kx_astore 25 F 4 (lo' := [some (vR G c0), some (vI a1), some (vI a2), some (vI a3), some (vR G (M (M c0 5) 5)), none]) dX11_start_23 (by decide) rfl rfl rfl ?_
      have hqw : q (85 * a1 + 100 + 2) = M (M (M c0 5) 5) 2 := by have h := hn2; rw [show 85 * a1 + 100 + 2 = 85 * a1 + 102 by omega]; exact h.symm
      have hsr := Inv.g hI_M hk_51 rfl 2 (a := 0) (b := 7) rfl rfl
      have hbit := bit_u (s := M (M (M c0 5) 5) 2) (k := a2) (by omega) (by omega)
      refine kx_iload_n 26 F 3 dX11_start_25 rfl rfl rfl ?_
      refine kx_if_eq 29 F 41 dX11_start_26 (by decide) rfl (by omega) (fun h_52 => ?_) (fun h_52 => ?_)
      · refine kx_aload 43 F 4 dX11_start_41 rfl rfl ?_
        refine kx_geti 46 F fl_X11_176 hk_51 rfl rfl (j := 2) rfl dX11_start_43 (v := (M (M (M c0 5) 5) 2)) rfl rfl ?_
        refine kx_iconst 47 F dX11_start_46 rfl ?_
        refine kx_iload_n 48 F 2 dX11_start_47 rfl rfl rfl ?_
        refine kx_ishl 49 F (v := (zshl 1 a2)) dX11_start_48 rfl rfl ?_
        have h_54 := zshl_1 (b := a2) 2 (by decide) (by omega)
        refine kx_iconst 50 F dX11_start_49 rfl ?_
        refine kx_ixor 51 F (v := (zxor (zshl 1 a2) (-1))) dX11_start_50 rfl rfl ?_
        have h_55 := zxor_rng (zshl 1 a2) (-1)
        refine kx_iand 52 F (v := (zand (M (M (M c0 5) 5) 2) (zxor (zshl 1 a2) (-1)))) dX11_start_51 rfl rfl ?_
        have h_56 := zand_l (a := (M (M (M c0 5) 5) 2)) (b := (zxor (zshl 1 a2) (-1))) (by omega)
        refine kx_istore 54 F 5 (lo' := [some (vR G c0), some (vI a1), some (vI a2), some (vI a3), some (vR G (M (M c0 5) 5)), some (vI (zand (M (M (M c0 5) 5) 2) (zxor (zshl 1 a2) (-1))))]) dX11_start_52 (by decide) rfl rfl rfl ?_
        refine kx_iload 56 F 5 dX11_start_54 rfl rfl ?_
        refine kx_aload 58 F 4 dX11_start_56 rfl rfl ?_
        refine kx_geti 61 F fl_X11_176 hk_51 rfl rfl (j := 2) rfl dX11_start_58 (v := (M (M (M c0 5) 5) 2)) rfl rfl ?_
        refine kx_icmp_ne 64 F 71 dX11_start_61 (by decide) rfl (by omega) (by omega) (fun h_57 => ?_) (fun h_57 => ?_)
        · refine kx_aload 73 F 4 dX11_start_71 rfl rfl ?_
          refine kx_iload 75 F 5 dX11_start_73 rfl rfl ?_
          refine kx_puti 78 F fw_X11_176 rfl hk_51 rfl rfl (j := 2) rfl dX11_start_75 rfl ?_
          intro N_58 hM_N_58
          have hI_N_58 : Inv false N_58 := Inv.u hI_M hM_N_58 hk_51 (a := 0) (b := 7) rfl rfl rfl (by omega)
          have hF_N_58 : Fr f_e_start7 M N_58 := Fr.u hF_M hM_N_58 hk_51 rfl
          have hE_N_58 : Cf (zRG (M c0 5) a1) M N_58 := Cf.st hE_M hM_N_58 ⟨by have z := hZ.2.1 (M c0 5) hk_1; omega, by have z := hZ.2.1 (M c0 5) hk_1; omega, by have z := hZ.2.1 (M c0 5) hk_1; omega, by have z := hZ.2.1 (M c0 5) hk_1; omega⟩
          refine kx_aload_n 79 F 0 dX11_start_78 rfl rfl rfl ?_
          refine kx_Vv 82 (ci := 0) F (As := []) (st := []) vd_X11_139 (e_forget3 G l N_58 c0 hI_N_58 hk_c0) hk_c0 rfl rfl rfl ⟨by decide, by decide⟩ rfl rfl (Nat.le_of_ble_eq_true rfl) dX11_start_79 rfl ?_
          intro N_59 q_60
          obtain ⟨hI_N_59, hG_N_59, hfg_N_59⟩ := q_60
          have hF_N_59 : Fr f_e_start7 M N_59 := Fr.c hF_N_58 hG_N_59 rfl
          have hE_N_59 : Cf (zRG (M c0 5) a1) M N_59 := Cf.fr hE_N_58 hG_N_59 rfl
          have htf_N_59 : ∀ q, zTC N_59 c0 q := fun q => zTC.no (by rw [show N_59 c0 8 = N_58 c0 8 from Fr.e hG_N_59 hk_c0 8 rfl]; exact hfg_N_59.1) (by rw [show N_59 c0 9 = N_58 c0 9 from Fr.e hG_N_59 hk_c0 9 rfl]; exact hfg_N_59.2)
          refine kx_aload_n 83 F 0 dX11_start_82 rfl rfl rfl ?_
          refine kx_iload 85 F 5 dX11_start_83 rfl rfl ?_
          refine kx_Vi 88 (ci := 0) F (As := [vI (zand (M (M (M c0 5) 5) 2) (zxor (zshl 1 a2) (-1)))]) (st := []) vd_X11_145 (c_X11_answer G l N_59 c0 (zand (M (M (M c0 5) 5) 2) (zxor (zshl 1 a2) (-1))) hI_N_59 hk_c0 (by omega)) hk_c0 rfl rfl rfl ⟨by decide, by decide⟩ rfl rfl (Nat.le_of_ble_eq_true rfl) dX11_start_85 rfl ?_
          intro r_61 N_62 q_63
          obtain ⟨hI_N_62, hG_N_62, q_63c⟩ := q_63
          have hF_N_62 : Fr f_e_start7 M N_62 := Fr.c hF_N_59 hG_N_62 rfl
          have hE_N_62 : Cf (zRG (M c0 5) a1) M N_62 := Cf.fr hE_N_59 hG_N_62 rfl
          have hAs : AT N_58 (M (M c0 5) 5) (upk q (85 * a1 + 100 + 2) (zxor (q (85 * a1 + 100 + 2)) (zshl 1 a2))) (85 * a1 + 100) := by have h0 : AT M (M (M c0 5) 5) q (85 * a1 + 100) := (by rw [show 85 * a1 + 100 = 185 by omega]; exact hA); exact AT.put h0 (Or.inl rfl) (by omega) hI_M hk_51 hM_N_58 (by rw [hqw]; omega)
          exact kx_iret F hQ ⟨hI_N_62, hF_N_62, (by omega), hE_N_62, ⟨(upk q (85 * a1 + 100 + 2) (zxor (q (85 * a1 + 100 + 2)) (zshl 1 a2))), Or.inl ⟨⟨by omega, by omega, by omega, by omega, by rw [hqw]; omega⟩, by rw [hqw]; omega, rfl⟩, zSN.cg hS (funext (fun j => by rw [Fr.e hG_N_62 hk_1 _ rfl, Fr.e hG_N_59 hk_1 _ rfl, hM_N_58, mu_k hk_1 hk_51 rfl])) (upk_o (by omega)) (upk_o (by omega)) (upk_o (by omega)) (upk_o (by omega)), zSU.set (a := a1) (x := (M (M c0 5) 5)) hU (by omega) rfl (by omega) hZ hI_M hk_1 hE_N_62 (funext (fun j => by rw [Fr.e hG_N_62 hk_1 _ rfl, Fr.e hG_N_59 hk_1 _ rfl, hM_N_58, mu_k hk_1 hk_51 rfl])) (AT.fr (AT.fr hAs hI_N_58 hk_51 hG_N_59 rfl) hI_N_59 hk_51 hG_N_62 rfl) (upk_o (by omega)) (upk_o (by omega)) (fun i h1 h2 h3 => (upk_o (by omega))) hV, (zTC.fr (htf_N_59 _) hI_N_59 hk_c0 hG_N_62 rfl)⟩⟩ dX11_start_88
        · refine kx_aload_n 65 F 0 dX11_start_64 rfl rfl rfl ?_
          refine kx_bipush 67 F dX11_start_65 (by decide) rfl ?_
          refine kx_Vi 70 (ci := 0) F (As := [vI 7]) (st := []) vd_X11_110 (c_X11_refuse G l M c0 7 hI_M hk_c0 (by omega)) hk_c0 rfl rfl rfl ⟨by decide, by decide⟩ rfl rfl (Nat.le_of_ble_eq_true rfl) dX11_start_67 rfl ?_
          intro r_64 N_65 q_66
          obtain ⟨hI_N_65, hG_N_65, q_66c⟩ := q_66
          have hF_N_65 : Fr f_e_start7 M N_65 := Fr.c hF_M hG_N_65 rfl
          have hE_N_65 : Cf (zRG (M c0 5) a1) M N_65 := Cf.fr hE_M hG_N_65 rfl
          subst q_66c
          exact kx_iret F hQ ⟨hI_N_65, hF_N_65, (by omega), hE_N_65, ⟨q, Or.inr ⟨fun h => by rw [hqw] at h; omega, by omega, rfl⟩, (zSN.fr hS hk_1 hG_N_65 rfl), (zSU.fr hU hI_M hk_1 hG_N_65 rfl), (zTC.fr hK hI_M hk_c0 hG_N_65 rfl)⟩⟩ dX11_start_70
      · refine kx_aload 31 F 4 dX11_start_29 rfl rfl ?_
        refine kx_geti 34 F fl_X11_176 hk_51 rfl rfl (j := 2) rfl dX11_start_31 (v := (M (M (M c0 5) 5) 2)) rfl rfl ?_
        refine kx_iconst 35 F dX11_start_34 rfl ?_
        refine kx_iload_n 36 F 2 dX11_start_35 rfl rfl rfl ?_
        refine kx_ishl 37 F (v := (zshl 1 a2)) dX11_start_36 rfl rfl ?_
        have h_68 := zshl_1 (b := a2) 2 (by decide) (by omega)
        refine kx_ior 38 F (v := (zor (M (M (M c0 5) 5) 2) (zshl 1 a2))) dX11_start_37 rfl rfl ?_
        have h_69 : 0 ≤ (zor (M (M (M c0 5) 5) 2) (zshl 1 a2)) ∧ (zor (M (M (M c0 5) 5) 2) (zshl 1 a2)) < 8 := zor_lt (a := (M (M (M c0 5) 5) 2)) (b := (zshl 1 a2)) 3 (by decide) (by omega) (by omega)
        refine kx_goto 52 F dX11_start_38 (by decide) ?_
        refine kx_istore 54 F 5 (lo' := [some (vR G c0), some (vI a1), some (vI a2), some (vI a3), some (vR G (M (M c0 5) 5)), some (vI (zor (M (M (M c0 5) 5) 2) (zshl 1 a2)))]) dX11_start_52 (by decide) rfl rfl rfl ?_
        refine kx_iload 56 F 5 dX11_start_54 rfl rfl ?_
        refine kx_aload 58 F 4 dX11_start_56 rfl rfl ?_
        refine kx_geti 61 F fl_X11_176 hk_51 rfl rfl (j := 2) rfl dX11_start_58 (v := (M (M (M c0 5) 5) 2)) rfl rfl ?_
        refine kx_icmp_ne 64 F 71 dX11_start_61 (by decide) rfl (by omega) (by omega) (fun h_70 => ?_) (fun h_70 => ?_)
        · refine kx_aload 73 F 4 dX11_start_71 rfl rfl ?_
          refine kx_iload 75 F 5 dX11_start_73 rfl rfl ?_
          refine kx_puti 78 F fw_X11_176 rfl hk_51 rfl rfl (j := 2) rfl dX11_start_75 rfl ?_
          intro N_71 hM_N_71
          have hI_N_71 : Inv false N_71 := Inv.u hI_M hM_N_71 hk_51 (a := 0) (b := 7) rfl rfl rfl (by omega)
          have hF_N_71 : Fr f_e_start7 M N_71 := Fr.u hF_M hM_N_71 hk_51 rfl
          have hE_N_71 : Cf (zRG (M c0 5) a1) M N_71 := Cf.st hE_M hM_N_71 ⟨by have z := hZ.2.1 (M c0 5) hk_1; omega, by have z := hZ.2.1 (M c0 5) hk_1; omega, by have z := hZ.2.1 (M c0 5) hk_1; omega, by have z := hZ.2.1 (M c0 5) hk_1; omega⟩
          refine kx_aload_n 79 F 0 dX11_start_78 rfl rfl rfl ?_
          refine kx_Vv 82 (ci := 0) F (As := []) (st := []) vd_X11_139 (e_forget3 G l N_71 c0 hI_N_71 hk_c0) hk_c0 rfl rfl rfl ⟨by decide, by decide⟩ rfl rfl (Nat.le_of_ble_eq_true rfl) dX11_start_79 rfl ?_
          intro N_72 q_73
          obtain ⟨hI_N_72, hG_N_72, hfg_N_72⟩ := q_73
          have hF_N_72 : Fr f_e_start7 M N_72 := Fr.c hF_N_71 hG_N_72 rfl
          have hE_N_72 : Cf (zRG (M c0 5) a1) M N_72 := Cf.fr hE_N_71 hG_N_72 rfl
          have htf_N_72 : ∀ q, zTC N_72 c0 q := fun q => zTC.no (by rw [show N_72 c0 8 = N_71 c0 8 from Fr.e hG_N_72 hk_c0 8 rfl]; exact hfg_N_72.1) (by rw [show N_72 c0 9 = N_71 c0 9 from Fr.e hG_N_72 hk_c0 9 rfl]; exact hfg_N_72.2)
          refine kx_aload_n 83 F 0 dX11_start_82 rfl rfl rfl ?_
          refine kx_iload 85 F 5 dX11_start_83 rfl rfl ?_
          refine kx_Vi 88 (ci := 0) F (As := [vI (zor (M (M (M c0 5) 5) 2) (zshl 1 a2))]) (st := []) vd_X11_145 (c_X11_answer G l N_72 c0 (zor (M (M (M c0 5) 5) 2) (zshl 1 a2)) hI_N_72 hk_c0 (by omega)) hk_c0 rfl rfl rfl ⟨by decide, by decide⟩ rfl rfl (Nat.le_of_ble_eq_true rfl) dX11_start_85 rfl ?_
          intro r_74 N_75 q_76
          obtain ⟨hI_N_75, hG_N_75, q_76c⟩ := q_76
          have hF_N_75 : Fr f_e_start7 M N_75 := Fr.c hF_N_72 hG_N_75 rfl
          have hE_N_75 : Cf (zRG (M c0 5) a1) M N_75 := Cf.fr hE_N_72 hG_N_75 rfl
          have hAs : AT N_71 (M (M c0 5) 5) (upk q (85 * a1 + 100 + 2) (zxor (q (85 * a1 + 100 + 2)) (zshl 1 a2))) (85 * a1 + 100) := by have h0 : AT M (M (M c0 5) 5) q (85 * a1 + 100) := (by rw [show 85 * a1 + 100 = 185 by omega]; exact hA); exact AT.put h0 (Or.inl rfl) (by omega) hI_M hk_51 hM_N_71 (by rw [hqw]; omega)
          exact kx_iret F hQ ⟨hI_N_75, hF_N_75, (by omega), hE_N_75, ⟨(upk q (85 * a1 + 100 + 2) (zxor (q (85 * a1 + 100 + 2)) (zshl 1 a2))), Or.inl ⟨⟨by omega, by omega, by omega, by omega, by rw [hqw]; omega⟩, by rw [hqw]; omega, rfl⟩, zSN.cg hS (funext (fun j => by rw [Fr.e hG_N_75 hk_1 _ rfl, Fr.e hG_N_72 hk_1 _ rfl, hM_N_71, mu_k hk_1 hk_51 rfl])) (upk_o (by omega)) (upk_o (by omega)) (upk_o (by omega)) (upk_o (by omega)), zSU.set (a := a1) (x := (M (M c0 5) 5)) hU (by omega) rfl (by omega) hZ hI_M hk_1 hE_N_75 (funext (fun j => by rw [Fr.e hG_N_75 hk_1 _ rfl, Fr.e hG_N_72 hk_1 _ rfl, hM_N_71, mu_k hk_1 hk_51 rfl])) (AT.fr (AT.fr hAs hI_N_71 hk_51 hG_N_72 rfl) hI_N_72 hk_51 hG_N_75 rfl) (upk_o (by omega)) (upk_o (by omega)) (fun i h1 h2 h3 => (upk_o (by omega))) hV, (zTC.fr (htf_N_72 _) hI_N_72 hk_c0 hG_N_75 rfl)⟩⟩ dX11_start_88
        · refine kx_aload_n 65 F 0 dX11_start_64 rfl rfl rfl ?_
          refine kx_bipush 67 F dX11_start_65 (by decide) rfl ?_
          refine kx_Vi 70 (ci := 0) F (As := [vI 7]) (st := []) vd_X11_110 (c_X11_refuse G l M c0 7 hI_M hk_c0 (by omega)) hk_c0 rfl rfl rfl ⟨by decide, by decide⟩ rfl rfl (Nat.le_of_ble_eq_true rfl) dX11_start_67 rfl ?_
          intro r_77 N_78 q_79
          obtain ⟨hI_N_78, hG_N_78, q_79c⟩ := q_79
          have hF_N_78 : Fr f_e_start7 M N_78 := Fr.c hF_M hG_N_78 rfl
          have hE_N_78 : Cf (zRG (M c0 5) a1) M N_78 := Cf.fr hE_M hG_N_78 rfl
          subst q_79c
          exact kx_iret F hQ ⟨hI_N_78, hF_N_78, (by omega), hE_N_78, ⟨q, Or.inr ⟨fun h => by rw [hqw] at h; omega, by omega, rfl⟩, (zSN.fr hS hk_1 hG_N_78 rfl), (zSU.fr hU hI_M hk_1 hG_N_78 rfl), (zTC.fr hK hI_M hk_c0 hG_N_78 rfl)⟩⟩ dX11_start_70
  · refine kx_if_ne 9 F 15 dX11_start_6 (by decide) rfl (by omega) (fun h_80 => (by exfalso; omega)) (fun h_80 => ?_)
    have hst0 : 0 < q 3 → M (M (M c0 5) 4) 0 = q 100 := fun h => (hU.1 h).n (d := 0) (by decide) (by decide)
    have hst1 : 1 < q 3 → M (M (M c0 5) 5) 0 = q 185 := fun h => (hU.2 h).n (d := 0) (by decide) (by decide)
    have hq0 : a1 = 0 → q (85 * a1 + 100) = q 100 := fun h => by rw [h]; rfl
    have hq1 : a1 = 1 → q (85 * a1 + 100) = q 185 := fun h => by rw [h]; rfl
    refine kx_aload_n 10 F 0 dX11_start_9 rfl rfl rfl ?_
    refine kx_iconst 11 F dX11_start_10 rfl ?_
    refine kx_Vi 14 (ci := 0) F (As := [vI 1]) (st := []) vd_X11_110 (c_X11_refuse G l M c0 1 hI_M hk_c0 (by omega)) hk_c0 rfl rfl rfl ⟨by decide, by decide⟩ rfl rfl (Nat.le_of_ble_eq_true rfl) dX11_start_11 rfl ?_
    intro r_81 N_82 q_83
    obtain ⟨hI_N_82, hG_N_82, q_83c⟩ := q_83
    have hF_N_82 : Fr f_e_start7 M N_82 := Fr.c hF_M hG_N_82 rfl
    have hE_N_82 : Cf (zRG (M c0 5) a1) M N_82 := Cf.fr hE_M hG_N_82 rfl
    subst q_83c
    exact kx_iret F hQ ⟨hI_N_82, hF_N_82, (by omega), hE_N_82, ⟨q, Or.inr ⟨fun h => by omega, by omega, rfl⟩, (zSN.fr hS hk_1 hG_N_82 rfl), (zSU.fr hU hI_M hk_1 hG_N_82 rfl), (zTC.fr hK hI_M hk_c0 hG_N_82 rfl)⟩⟩ dX11_start_14
  · refine kx_if_ne 9 F 15 dX11_start_6 (by decide) rfl (by omega) (fun h_84 => (by exfalso; omega)) (fun h_84 => ?_)
    have hst0 : 0 < q 3 → M (M (M c0 5) 4) 0 = q 100 := fun h => (hU.1 h).n (d := 0) (by decide) (by decide)
    have hst1 : 1 < q 3 → M (M (M c0 5) 5) 0 = q 185 := fun h => (hU.2 h).n (d := 0) (by decide) (by decide)
    have hq0 : a1 = 0 → q (85 * a1 + 100) = q 100 := fun h => by rw [h]; rfl
    have hq1 : a1 = 1 → q (85 * a1 + 100) = q 185 := fun h => by rw [h]; rfl
    refine kx_aload_n 10 F 0 dX11_start_9 rfl rfl rfl ?_
    refine kx_iconst 11 F dX11_start_10 rfl ?_
    refine kx_Vi 14 (ci := 0) F (As := [vI 1]) (st := []) vd_X11_110 (c_X11_refuse G l M c0 1 hI_M hk_c0 (by omega)) hk_c0 rfl rfl rfl ⟨by decide, by decide⟩ rfl rfl (Nat.le_of_ble_eq_true rfl) dX11_start_11 rfl ?_
    intro r_85 N_86 q_87
    obtain ⟨hI_N_86, hG_N_86, q_87c⟩ := q_87
    have hF_N_86 : Fr f_e_start7 M N_86 := Fr.c hF_M hG_N_86 rfl
    have hE_N_86 : Cf (zRG (M c0 5) a1) M N_86 := Cf.fr hE_M hG_N_86 rfl
    subst q_87c
    exact kx_iret F hQ ⟨hI_N_86, hF_N_86, (by omega), hE_N_86, ⟨q, Or.inr ⟨fun h => by omega, by omega, rfl⟩, (zSN.fr hS hk_1 hG_N_86 rfl), (zSU.fr hU hI_M hk_1 hG_N_86 rfl), (zTC.fr hK hI_M hk_c0 hG_N_86 rfl)⟩⟩ dX11_start_14
  · refine kx_if_ne 9 F 15 dX11_start_6 (by decide) rfl (by omega) (fun h_88 => (by exfalso; omega)) (fun h_88 => ?_)
    have hst0 : 0 < q 3 → M (M (M c0 5) 4) 0 = q 100 := fun h => (hU.1 h).n (d := 0) (by decide) (by decide)
    have hst1 : 1 < q 3 → M (M (M c0 5) 5) 0 = q 185 := fun h => (hU.2 h).n (d := 0) (by decide) (by decide)
    have hq0 : a1 = 0 → q (85 * a1 + 100) = q 100 := fun h => by rw [h]; rfl
    have hq1 : a1 = 1 → q (85 * a1 + 100) = q 185 := fun h => by rw [h]; rfl
    refine kx_aload_n 10 F 0 dX11_start_9 rfl rfl rfl ?_
    refine kx_iconst 11 F dX11_start_10 rfl ?_
    refine kx_Vi 14 (ci := 0) F (As := [vI 1]) (st := []) vd_X11_110 (c_X11_refuse G l M c0 1 hI_M hk_c0 (by omega)) hk_c0 rfl rfl rfl ⟨by decide, by decide⟩ rfl rfl (Nat.le_of_ble_eq_true rfl) dX11_start_11 rfl ?_
    intro r_89 N_90 q_91
    obtain ⟨hI_N_90, hG_N_90, q_91c⟩ := q_91
    have hF_N_90 : Fr f_e_start7 M N_90 := Fr.c hF_M hG_N_90 rfl
    have hE_N_90 : Cf (zRG (M c0 5) a1) M N_90 := Cf.fr hE_M hG_N_90 rfl
    subst q_91c
    exact kx_iret F hQ ⟨hI_N_90, hF_N_90, (by omega), hE_N_90, ⟨q, Or.inr ⟨fun h => by omega, by omega, rfl⟩, (zSN.fr hS hk_1 hG_N_90 rfl), (zSU.fr hU hI_M hk_1 hG_N_90 rfl), (zTC.fr hK hI_M hk_c0 hG_N_90 rfl)⟩⟩ dX11_start_14
  · refine kx_if_ne 9 F 15 dX11_start_6 (by decide) rfl (by omega) (fun h_92 => (by exfalso; omega)) (fun h_92 => ?_)
    have hst0 : 0 < q 3 → M (M (M c0 5) 4) 0 = q 100 := fun h => (hU.1 h).n (d := 0) (by decide) (by decide)
    have hst1 : 1 < q 3 → M (M (M c0 5) 5) 0 = q 185 := fun h => (hU.2 h).n (d := 0) (by decide) (by decide)
    have hq0 : a1 = 0 → q (85 * a1 + 100) = q 100 := fun h => by rw [h]; rfl
    have hq1 : a1 = 1 → q (85 * a1 + 100) = q 185 := fun h => by rw [h]; rfl
    refine kx_aload_n 10 F 0 dX11_start_9 rfl rfl rfl ?_
    refine kx_iconst 11 F dX11_start_10 rfl ?_
    refine kx_Vi 14 (ci := 0) F (As := [vI 1]) (st := []) vd_X11_110 (c_X11_refuse G l M c0 1 hI_M hk_c0 (by omega)) hk_c0 rfl rfl rfl ⟨by decide, by decide⟩ rfl rfl (Nat.le_of_ble_eq_true rfl) dX11_start_11 rfl ?_
    intro r_93 N_94 q_95
    obtain ⟨hI_N_94, hG_N_94, q_95c⟩ := q_95
    have hF_N_94 : Fr f_e_start7 M N_94 := Fr.c hF_M hG_N_94 rfl
    have hE_N_94 : Cf (zRG (M c0 5) a1) M N_94 := Cf.fr hE_M hG_N_94 rfl
    subst q_95c
    exact kx_iret F hQ ⟨hI_N_94, hF_N_94, (by omega), hE_N_94, ⟨q, Or.inr ⟨fun h => by omega, by omega, rfl⟩, (zSN.fr hS hk_1 hG_N_94 rfl), (zSU.fr hU hI_M hk_1 hG_N_94 rfl), (zTC.fr hK hI_M hk_c0 hG_N_94 rfl)⟩⟩ dX11_start_14
  · refine kx_if_ne 9 F 15 dX11_start_6 (by decide) rfl (by omega) (fun h_96 => (by exfalso; omega)) (fun h_96 => ?_)
    have hst0 : 0 < q 3 → M (M (M c0 5) 4) 0 = q 100 := fun h => (hU.1 h).n (d := 0) (by decide) (by decide)
    have hst1 : 1 < q 3 → M (M (M c0 5) 5) 0 = q 185 := fun h => (hU.2 h).n (d := 0) (by decide) (by decide)
    have hq0 : a1 = 0 → q (85 * a1 + 100) = q 100 := fun h => by rw [h]; rfl
    have hq1 : a1 = 1 → q (85 * a1 + 100) = q 185 := fun h => by rw [h]; rfl
    refine kx_aload_n 10 F 0 dX11_start_9 rfl rfl rfl ?_
    refine kx_iconst 11 F dX11_start_10 rfl ?_
    refine kx_Vi 14 (ci := 0) F (As := [vI 1]) (st := []) vd_X11_110 (c_X11_refuse G l M c0 1 hI_M hk_c0 (by omega)) hk_c0 rfl rfl rfl ⟨by decide, by decide⟩ rfl rfl (Nat.le_of_ble_eq_true rfl) dX11_start_11 rfl ?_
    intro r_97 N_98 q_99
    obtain ⟨hI_N_98, hG_N_98, q_99c⟩ := q_99
    have hF_N_98 : Fr f_e_start7 M N_98 := Fr.c hF_M hG_N_98 rfl
    have hE_N_98 : Cf (zRG (M c0 5) a1) M N_98 := Cf.fr hE_M hG_N_98 rfl
    subst q_99c
    exact kx_iret F hQ ⟨hI_N_98, hF_N_98, (by omega), hE_N_98, ⟨q, Or.inr ⟨fun h => by omega, by omega, rfl⟩, (zSN.fr hS hk_1 hG_N_98 rfl), (zSU.fr hU hI_M hk_1 hG_N_98 rfl), (zTC.fr hK hI_M hk_c0 hG_N_98 rfl)⟩⟩ dX11_start_14
  · refine kx_if_ne 9 F 15 dX11_start_6 (by decide) rfl (by omega) (fun h_100 => (by exfalso; omega)) (fun h_100 => ?_)
    have hst0 : 0 < q 3 → M (M (M c0 5) 4) 0 = q 100 := fun h => (hU.1 h).n (d := 0) (by decide) (by decide)
    have hst1 : 1 < q 3 → M (M (M c0 5) 5) 0 = q 185 := fun h => (hU.2 h).n (d := 0) (by decide) (by decide)
    have hq0 : a1 = 0 → q (85 * a1 + 100) = q 100 := fun h => by rw [h]; rfl
    have hq1 : a1 = 1 → q (85 * a1 + 100) = q 185 := fun h => by rw [h]; rfl
    refine kx_aload_n 10 F 0 dX11_start_9 rfl rfl rfl ?_
    refine kx_iconst 11 F dX11_start_10 rfl ?_
    refine kx_Vi 14 (ci := 0) F (As := [vI 1]) (st := []) vd_X11_110 (c_X11_refuse G l M c0 1 hI_M hk_c0 (by omega)) hk_c0 rfl rfl rfl ⟨by decide, by decide⟩ rfl rfl (Nat.le_of_ble_eq_true rfl) dX11_start_11 rfl ?_
    intro r_101 N_102 q_103
    obtain ⟨hI_N_102, hG_N_102, q_103c⟩ := q_103
    have hF_N_102 : Fr f_e_start7 M N_102 := Fr.c hF_M hG_N_102 rfl
    have hE_N_102 : Cf (zRG (M c0 5) a1) M N_102 := Cf.fr hE_M hG_N_102 rfl
    subst q_103c
    exact kx_iret F hQ ⟨hI_N_102, hF_N_102, (by omega), hE_N_102, ⟨q, Or.inr ⟨fun h => by omega, by omega, rfl⟩, (zSN.fr hS hk_1 hG_N_102 rfl), (zSU.fr hU hI_M hk_1 hG_N_102 rfl), (zTC.fr hK hI_M hk_c0 hG_N_102 rfl)⟩⟩ dX11_start_14
  · refine kx_if_ne 9 F 15 dX11_start_6 (by decide) rfl (by omega) (fun h_104 => (by exfalso; omega)) (fun h_104 => ?_)
    have hst0 : 0 < q 3 → M (M (M c0 5) 4) 0 = q 100 := fun h => (hU.1 h).n (d := 0) (by decide) (by decide)
    have hst1 : 1 < q 3 → M (M (M c0 5) 5) 0 = q 185 := fun h => (hU.2 h).n (d := 0) (by decide) (by decide)
    have hq0 : a1 = 0 → q (85 * a1 + 100) = q 100 := fun h => by rw [h]; rfl
    have hq1 : a1 = 1 → q (85 * a1 + 100) = q 185 := fun h => by rw [h]; rfl
    refine kx_aload_n 10 F 0 dX11_start_9 rfl rfl rfl ?_
    refine kx_iconst 11 F dX11_start_10 rfl ?_
    refine kx_Vi 14 (ci := 0) F (As := [vI 1]) (st := []) vd_X11_110 (c_X11_refuse G l M c0 1 hI_M hk_c0 (by omega)) hk_c0 rfl rfl rfl ⟨by decide, by decide⟩ rfl rfl (Nat.le_of_ble_eq_true rfl) dX11_start_11 rfl ?_
    intro r_105 N_106 q_107
    obtain ⟨hI_N_106, hG_N_106, q_107c⟩ := q_107
    have hF_N_106 : Fr f_e_start7 M N_106 := Fr.c hF_M hG_N_106 rfl
    have hE_N_106 : Cf (zRG (M c0 5) a1) M N_106 := Cf.fr hE_M hG_N_106 rfl
    subst q_107c
    exact kx_iret F hQ ⟨hI_N_106, hF_N_106, (by omega), hE_N_106, ⟨q, Or.inr ⟨fun h => by omega, by omega, rfl⟩, (zSN.fr hS hk_1 hG_N_106 rfl), (zSU.fr hU hI_M hk_1 hG_N_106 rfl), (zTC.fr hK hI_M hk_c0 hG_N_106 rfl)⟩⟩ dX11_start_14
abbrev f_e_accept7 : List (Nat × Int) := [(1, 3), (21, 0), (41, 2), (62, 0)]
set_option maxHeartbeats 4000000 in
set_option maxRecDepth 100000 in
theorem e_accept7 (G : KG) (l : Launch) (M : Mem) (c0 : Int) (a1 : Int) (a2 : Int) (a3 : Int) (hI_M : Inv false M) (hk_c0 : kd c0 = 62) (hpre : -2147483648 ≤ a1 ∧ a1 ≤ 2147483647 ∧ -2147483648 ≤ a2 ∧ a2 ≤ 2147483647 ∧ 0 ≤ a3 ∧ a3 ≤ 1) (q : Int → Int) (hS : zSN M (M c0 5) q) (hU : zSU M (M c0 5) q) (hZ : FZ M) (hV : zQV q) (hK : zTC M c0 q) : KC false G l yX11_accept cX11_accept 6 (some .int) (2, 43) [vR G c0, vI a1, vI a2, vI a3] M (fun A => kQi false G A (fun (r : Int) (N : Mem) => Inv false N ∧ Fr f_e_accept7 M N ∧ (r ≥ -2147483648 ∧ r ≤ 2147483647) ∧ Cf (zRG (M c0 5) a1) M N ∧ (∃ q2, zST q 3 a1 a2 a3 r q2 ∧ zSN N (M c0 5) q2 ∧ zSU N (M c0 5) q2 ∧ zTC N c0 q2))) := by
  refine kx_met (lo := [some (vR G c0), some (vI a1), some (vI a2), some (vI a3), none, none]) (by decide) (Nat.le_of_ble_eq_true rfl) rfl ?_
  intro X F hQ
  have hF_M : Fr f_e_accept7 M M := Fr.rf _ _
  have hE_M : Cf (zRG (M c0 5) a1) M M := Cf.rf _ _
  have hk_1 : kd (M c0 5) = 12 := Inv.r hI_M hk_c0 rfl 5 rfl rfl
  have hSn := hS.u
  have hVu := hV.u
  refine kx_aload_n 1 F 0 dX11_accept_0 rfl rfl rfl ?_
  refine kx_iload_n 2 F 1 dX11_accept_1 rfl rfl rfl ?_
  refine kx_iload_n 3 F 2 dX11_accept_2 rfl rfl rfl ?_
  have h_2 := Inv.g hI_M hk_1 rfl 3 (a := 0) (b := 2) rfl rfl
  refine kx_Vi 6 (ci := 0) F (As := [vI a1, vI a2]) (st := []) vd_X11_215 (e_X11_hasState G l M c0 a1 a2 hI_M hk_c0 (by omega)) hk_c0 rfl rfl rfl ⟨by decide, by decide⟩ rfl rfl (Nat.le_of_ble_eq_true rfl) dX11_accept_3 rfl ?_
  intro r_3 N_4 q_5
  obtain ⟨rfl, q_5c⟩ := q_5
  have hk_6 : kd (M (M c0 5) 4) = 1 := Inv.r hI_M hk_1 rfl 4 rfl rfl
  have h_7 := Inv.g hI_M hk_6 rfl 0 (a := 0) (b := 3) rfl rfl
  have hk_8 : kd (M (M c0 5) 5) = 1 := Inv.r hI_M hk_1 rfl 5 rfl rfl
  have h_9 := Inv.g hI_M hk_8 rfl 0 (a := 0) (b := 3) rfl rfl
  have hk_10 : kd (M (M c0 5) 4) = 1 := Inv.r hI_M hk_1 rfl 4 rfl rfl
  have h_11 := Inv.g hI_M hk_10 rfl 0 (a := 0) (b := 3) rfl rfl
  have hk_12 : kd (M (M c0 5) 5) = 1 := Inv.r hI_M hk_1 rfl 5 rfl rfl
  have h_13 := Inv.g hI_M hk_12 rfl 0 (a := 0) (b := 3) rfl rfl
  rcases q_5c with q_5c | q_5c | q_5c | q_5c | q_5c | q_5c | q_5c | q_5c | q_5c
  · refine kx_if_ne 9 F 15 dX11_accept_6 (by decide) rfl (by omega) (fun h_14 => ?_) (fun h_14 => (by exfalso; omega))
    refine kx_aload_n 16 F 0 dX11_accept_15 rfl rfl rfl ?_
    refine kx_getr 19 F fl_X11_26 hk_c0 rfl rfl (j := 5) rfl dX11_accept_16 (v := (M c0 5)) rfl rfl ?_
    refine kx_iload_n 20 F 1 dX11_accept_19 rfl rfl rfl ?_
    refine kx_Vr 23 (ci := 0) F (As := [vI a1]) (st := []) vd_X11_164 (c_X5_pickE G l M (M c0 5) a1 hI_M hk_1 (by omega)) hk_1 rfl rfl rfl ⟨by decide, by decide⟩ rfl rfl (Nat.le_of_ble_eq_true rfl) dX11_accept_20 rfl ?_
    intro r_15 N_16 q_17
    obtain ⟨rfl, hk_18, q_17d⟩ := q_17
    rcases q_17d with ⟨q_17c, rfl⟩ | ⟨q_17c, rfl⟩
    · have hA := hU.1 (by omega)
      have hn0 : M (M (M c0 5) 4) 0 = q (85 * a1 + 100) := hA.n (by decide) (by omega)
      have hn1 : M (M (M c0 5) 4) 1 = q (85 * a1 + 101) := hA.n (by decide) (by omega)
      have hn2 : M (M (M c0 5) 4) 2 = q (85 * a1 + 102) := hA.n (by decide) (by omega)
      have hn3 : M (M (M c0 5) 4) 3 = q (85 * a1 + 103) := hA.n (by decide) (by omega)
      have hn4 : M (M (M c0 5) 4) 4 = q (85 * a1 + 104) := hA.n (by decide) (by omega)
      have hq44 : q (85 * a1 + 100 + 4) = q (85 * a1 + 104) := by rw [show 85 * a1 + 100 + 4 = 85 * a1 + 104 by omega]
      have hgx0 := Inv.g hI_M hk_18 rfl 0 (a := 0) (b := 3) rfl rfl
      have hgx1 := Inv.g hI_M hk_18 rfl 1 (a := 0) (b := 3) rfl rfl
      have hgx4 := Inv.g hI_M hk_18 rfl 4 (a := 0) (b := 20) rfl rfl
      have hxz := (hZ.2.1 (M c0 5) hk_1).1
      refine kx_astore 25 F 4 (lo' := [some (vR G c0), some (vI a1), some (vI a2), some (vI a3), some (vR G (M (M c0 5) 4)), none]) dX11_accept_23 (by decide) rfl rfl rfl ?_
      have hqw : q (85 * a1 + 100 + 3) = M (M (M c0 5) 4) 3 := by have h := hn3; rw [show 85 * a1 + 100 + 3 = 85 * a1 + 103 by omega]; exact h.symm
      have hsr := Inv.g hI_M hk_18 rfl 3 (a := 0) (b := 7) rfl rfl
      have hbit := bit_u (s := M (M (M c0 5) 4) 3) (k := a2) (by omega) (by omega)
      refine kx_iload_n 26 F 3 dX11_accept_25 rfl rfl rfl ?_
      refine kx_if_eq 29 F 41 dX11_accept_26 (by decide) rfl (by omega) (fun h_19 => ?_) (fun h_19 => ?_)
      · refine kx_aload 43 F 4 dX11_accept_41 rfl rfl ?_
        refine kx_geti 46 F fl_X11_179 hk_18 rfl rfl (j := 3) rfl dX11_accept_43 (v := (M (M (M c0 5) 4) 3)) rfl rfl ?_
        refine kx_iconst 47 F dX11_accept_46 rfl ?_
        refine kx_iload_n 48 F 2 dX11_accept_47 rfl rfl rfl ?_
        refine kx_ishl 49 F (v := (zshl 1 a2)) dX11_accept_48 rfl rfl ?_
        have h_21 := zshl_1 (b := a2) 2 (by decide) (by omega)
        refine kx_iconst 50 F dX11_accept_49 rfl ?_
        refine kx_ixor 51 F (v := (zxor (zshl 1 a2) (-1))) dX11_accept_50 rfl rfl ?_
        have h_22 := zxor_rng (zshl 1 a2) (-1)
        refine kx_iand 52 F (v := (zand (M (M (M c0 5) 4) 3) (zxor (zshl 1 a2) (-1)))) dX11_accept_51 rfl rfl ?_
        have h_23 := zand_l (a := (M (M (M c0 5) 4) 3)) (b := (zxor (zshl 1 a2) (-1))) (by omega)
        refine kx_istore 54 F 5 (lo' := [some (vR G c0), some (vI a1), some (vI a2), some (vI a3), some (vR G (M (M c0 5) 4)), some (vI (zand (M (M (M c0 5) 4) 3) (zxor (zshl 1 a2) (-1))))]) dX11_accept_52 (by decide) rfl rfl rfl ?_
        refine kx_iload 56 F 5 dX11_accept_54 rfl rfl ?_
        refine kx_aload 58 F 4 dX11_accept_56 rfl rfl ?_
        refine kx_geti 61 F fl_X11_179 hk_18 rfl rfl (j := 3) rfl dX11_accept_58 (v := (M (M (M c0 5) 4) 3)) rfl rfl ?_
        refine kx_icmp_ne 64 F 71 dX11_accept_61 (by decide) rfl (by omega) (by omega) (fun h_24 => ?_) (fun h_24 => ?_)
        · refine kx_aload 73 F 4 dX11_accept_71 rfl rfl ?_
          refine kx_iload 75 F 5 dX11_accept_73 rfl rfl ?_
          refine kx_puti 78 F fw_X11_179 rfl hk_18 rfl rfl (j := 3) rfl dX11_accept_75 rfl ?_
          intro N_25 hM_N_25
          have hI_N_25 : Inv false N_25 := Inv.u hI_M hM_N_25 hk_18 (a := 0) (b := 7) rfl rfl rfl (by omega)
          have hF_N_25 : Fr f_e_accept7 M N_25 := Fr.u hF_M hM_N_25 hk_18 rfl
          have hE_N_25 : Cf (zRG (M c0 5) a1) M N_25 := Cf.st hE_M hM_N_25 ⟨by have z := hZ.2.1 (M c0 5) hk_1; omega, by have z := hZ.2.1 (M c0 5) hk_1; omega, by have z := hZ.2.1 (M c0 5) hk_1; omega, by have z := hZ.2.1 (M c0 5) hk_1; omega⟩
          refine kx_aload_n 79 F 0 dX11_accept_78 rfl rfl rfl ?_
          refine kx_Vv 82 (ci := 0) F (As := []) (st := []) vd_X11_139 (e_forget3 G l N_25 c0 hI_N_25 hk_c0) hk_c0 rfl rfl rfl ⟨by decide, by decide⟩ rfl rfl (Nat.le_of_ble_eq_true rfl) dX11_accept_79 rfl ?_
          intro N_26 q_27
          obtain ⟨hI_N_26, hG_N_26, hfg_N_26⟩ := q_27
          have hF_N_26 : Fr f_e_accept7 M N_26 := Fr.c hF_N_25 hG_N_26 rfl
          have hE_N_26 : Cf (zRG (M c0 5) a1) M N_26 := Cf.fr hE_N_25 hG_N_26 rfl
          have htf_N_26 : ∀ q, zTC N_26 c0 q := fun q => zTC.no (by rw [show N_26 c0 8 = N_25 c0 8 from Fr.e hG_N_26 hk_c0 8 rfl]; exact hfg_N_26.1) (by rw [show N_26 c0 9 = N_25 c0 9 from Fr.e hG_N_26 hk_c0 9 rfl]; exact hfg_N_26.2)
          refine kx_aload_n 83 F 0 dX11_accept_82 rfl rfl rfl ?_
          refine kx_iload 85 F 5 dX11_accept_83 rfl rfl ?_
          refine kx_Vi 88 (ci := 0) F (As := [vI (zand (M (M (M c0 5) 4) 3) (zxor (zshl 1 a2) (-1)))]) (st := []) vd_X11_145 (c_X11_answer G l N_26 c0 (zand (M (M (M c0 5) 4) 3) (zxor (zshl 1 a2) (-1))) hI_N_26 hk_c0 (by omega)) hk_c0 rfl rfl rfl ⟨by decide, by decide⟩ rfl rfl (Nat.le_of_ble_eq_true rfl) dX11_accept_85 rfl ?_
          intro r_28 N_29 q_30
          obtain ⟨hI_N_29, hG_N_29, q_30c⟩ := q_30
          have hF_N_29 : Fr f_e_accept7 M N_29 := Fr.c hF_N_26 hG_N_29 rfl
          have hE_N_29 : Cf (zRG (M c0 5) a1) M N_29 := Cf.fr hE_N_26 hG_N_29 rfl
          have hAs : AT N_25 (M (M c0 5) 4) (upk q (85 * a1 + 100 + 3) (zxor (q (85 * a1 + 100 + 3)) (zshl 1 a2))) (85 * a1 + 100) := by have h0 : AT M (M (M c0 5) 4) q (85 * a1 + 100) := (by rw [show 85 * a1 + 100 = 100 by omega]; exact hA); exact AT.put h0 (Or.inr rfl) (by omega) hI_M hk_18 hM_N_25 (by rw [hqw]; omega)
          exact kx_iret F hQ ⟨hI_N_29, hF_N_29, (by omega), hE_N_29, ⟨(upk q (85 * a1 + 100 + 3) (zxor (q (85 * a1 + 100 + 3)) (zshl 1 a2))), Or.inl ⟨⟨by omega, by omega, by omega, by omega, by rw [hqw]; omega⟩, by rw [hqw]; omega, rfl⟩, zSN.cg hS (funext (fun j => by rw [Fr.e hG_N_29 hk_1 _ rfl, Fr.e hG_N_26 hk_1 _ rfl, hM_N_25, mu_k hk_1 hk_18 rfl])) (upk_o (by omega)) (upk_o (by omega)) (upk_o (by omega)) (upk_o (by omega)), zSU.set (a := a1) (x := (M (M c0 5) 4)) hU (by omega) rfl (by omega) hZ hI_M hk_1 hE_N_29 (funext (fun j => by rw [Fr.e hG_N_29 hk_1 _ rfl, Fr.e hG_N_26 hk_1 _ rfl, hM_N_25, mu_k hk_1 hk_18 rfl])) (AT.fr (AT.fr hAs hI_N_25 hk_18 hG_N_26 rfl) hI_N_26 hk_18 hG_N_29 rfl) (upk_o (by omega)) (upk_o (by omega)) (fun i h1 h2 h3 => (upk_o (by omega))) hV, (zTC.fr (htf_N_26 _) hI_N_26 hk_c0 hG_N_29 rfl)⟩⟩ dX11_accept_88
        · refine kx_aload_n 65 F 0 dX11_accept_64 rfl rfl rfl ?_
          refine kx_bipush 67 F dX11_accept_65 (by decide) rfl ?_
          refine kx_Vi 70 (ci := 0) F (As := [vI 7]) (st := []) vd_X11_110 (c_X11_refuse G l M c0 7 hI_M hk_c0 (by omega)) hk_c0 rfl rfl rfl ⟨by decide, by decide⟩ rfl rfl (Nat.le_of_ble_eq_true rfl) dX11_accept_67 rfl ?_
          intro r_31 N_32 q_33
          obtain ⟨hI_N_32, hG_N_32, q_33c⟩ := q_33
          have hF_N_32 : Fr f_e_accept7 M N_32 := Fr.c hF_M hG_N_32 rfl
          have hE_N_32 : Cf (zRG (M c0 5) a1) M N_32 := Cf.fr hE_M hG_N_32 rfl
          subst q_33c
          exact kx_iret F hQ ⟨hI_N_32, hF_N_32, (by omega), hE_N_32, ⟨q, Or.inr ⟨fun h => by rw [hqw] at h; omega, by omega, rfl⟩, (zSN.fr hS hk_1 hG_N_32 rfl), (zSU.fr hU hI_M hk_1 hG_N_32 rfl), (zTC.fr hK hI_M hk_c0 hG_N_32 rfl)⟩⟩ dX11_accept_70
      · refine kx_aload 31 F 4 dX11_accept_29 rfl rfl ?_
        refine kx_geti 34 F fl_X11_179 hk_18 rfl rfl (j := 3) rfl dX11_accept_31 (v := (M (M (M c0 5) 4) 3)) rfl rfl ?_
        refine kx_iconst 35 F dX11_accept_34 rfl ?_
        refine kx_iload_n 36 F 2 dX11_accept_35 rfl rfl rfl ?_
        refine kx_ishl 37 F (v := (zshl 1 a2)) dX11_accept_36 rfl rfl ?_
        have h_35 := zshl_1 (b := a2) 2 (by decide) (by omega)
        refine kx_ior 38 F (v := (zor (M (M (M c0 5) 4) 3) (zshl 1 a2))) dX11_accept_37 rfl rfl ?_
        have h_36 : 0 ≤ (zor (M (M (M c0 5) 4) 3) (zshl 1 a2)) ∧ (zor (M (M (M c0 5) 4) 3) (zshl 1 a2)) < 8 := zor_lt (a := (M (M (M c0 5) 4) 3)) (b := (zshl 1 a2)) 3 (by decide) (by omega) (by omega)
        refine kx_goto 52 F dX11_accept_38 (by decide) ?_
        refine kx_istore 54 F 5 (lo' := [some (vR G c0), some (vI a1), some (vI a2), some (vI a3), some (vR G (M (M c0 5) 4)), some (vI (zor (M (M (M c0 5) 4) 3) (zshl 1 a2)))]) dX11_accept_52 (by decide) rfl rfl rfl ?_
        refine kx_iload 56 F 5 dX11_accept_54 rfl rfl ?_
        refine kx_aload 58 F 4 dX11_accept_56 rfl rfl ?_
        refine kx_geti 61 F fl_X11_179 hk_18 rfl rfl (j := 3) rfl dX11_accept_58 (v := (M (M (M c0 5) 4) 3)) rfl rfl ?_
        refine kx_icmp_ne 64 F 71 dX11_accept_61 (by decide) rfl (by omega) (by omega) (fun h_37 => ?_) (fun h_37 => ?_)
        · refine kx_aload 73 F 4 dX11_accept_71 rfl rfl ?_
          refine kx_iload 75 F 5 dX11_accept_73 rfl rfl ?_
          refine kx_puti 78 F fw_X11_179 rfl hk_18 rfl rfl (j := 3) rfl dX11_accept_75 rfl ?_
          intro N_38 hM_N_38
          have hI_N_38 : Inv false N_38 := Inv.u hI_M hM_N_38 hk_18 (a := 0) (b := 7) rfl rfl rfl (by omega)
          have hF_N_38 : Fr f_e_accept7 M N_38 := Fr.u hF_M hM_N_38 hk_18 rfl
          have hE_N_38 : Cf (zRG (M c0 5) a1) M N_38 := Cf.st hE_M hM_N_38 ⟨by have z := hZ.2.1 (M c0 5) hk_1; omega, by have z := hZ.2.1 (M c0 5) hk_1; omega, by have z := hZ.2.1 (M c0 5) hk_1; omega, by have z := hZ.2.1 (M c0 5) hk_1; omega⟩
          refine kx_aload_n 79 F 0 dX11_accept_78 rfl rfl rfl ?_
          refine kx_Vv 82 (ci := 0) F (As := []) (st := []) vd_X11_139 (e_forget3 G l N_38 c0 hI_N_38 hk_c0) hk_c0 rfl rfl rfl ⟨by decide, by decide⟩ rfl rfl (Nat.le_of_ble_eq_true rfl) dX11_accept_79 rfl ?_
          intro N_39 q_40
          obtain ⟨hI_N_39, hG_N_39, hfg_N_39⟩ := q_40
          have hF_N_39 : Fr f_e_accept7 M N_39 := Fr.c hF_N_38 hG_N_39 rfl
          have hE_N_39 : Cf (zRG (M c0 5) a1) M N_39 := Cf.fr hE_N_38 hG_N_39 rfl
          have htf_N_39 : ∀ q, zTC N_39 c0 q := fun q => zTC.no (by rw [show N_39 c0 8 = N_38 c0 8 from Fr.e hG_N_39 hk_c0 8 rfl]; exact hfg_N_39.1) (by rw [show N_39 c0 9 = N_38 c0 9 from Fr.e hG_N_39 hk_c0 9 rfl]; exact hfg_N_39.2)
          refine kx_aload_n 83 F 0 dX11_accept_82 rfl rfl rfl ?_
          refine kx_iload 85 F 5 dX11_accept_83 rfl rfl ?_
          refine kx_Vi 88 (ci := 0) F (As := [vI (zor (M (M (M c0 5) 4) 3) (zshl 1 a2))]) (st := []) vd_X11_145 (c_X11_answer G l N_39 c0 (zor (M (M (M c0 5) 4) 3) (zshl 1 a2)) hI_N_39 hk_c0 (by omega)) hk_c0 rfl rfl rfl ⟨by decide, by decide⟩ rfl rfl (Nat.le_of_ble_eq_true rfl) dX11_accept_85 rfl ?_
          intro r_41 N_42 q_43
          obtain ⟨hI_N_42, hG_N_42, q_43c⟩ := q_43
          have hF_N_42 : Fr f_e_accept7 M N_42 := Fr.c hF_N_39 hG_N_42 rfl
          have hE_N_42 : Cf (zRG (M c0 5) a1) M N_42 := Cf.fr hE_N_39 hG_N_42 rfl
          have hAs : AT N_38 (M (M c0 5) 4) (upk q (85 * a1 + 100 + 3) (zxor (q (85 * a1 + 100 + 3)) (zshl 1 a2))) (85 * a1 + 100) := by have h0 : AT M (M (M c0 5) 4) q (85 * a1 + 100) := (by rw [show 85 * a1 + 100 = 100 by omega]; exact hA); exact AT.put h0 (Or.inr rfl) (by omega) hI_M hk_18 hM_N_38 (by rw [hqw]; omega)
          exact kx_iret F hQ ⟨hI_N_42, hF_N_42, (by omega), hE_N_42, ⟨(upk q (85 * a1 + 100 + 3) (zxor (q (85 * a1 + 100 + 3)) (zshl 1 a2))), Or.inl ⟨⟨by omega, by omega, by omega, by omega, by rw [hqw]; omega⟩, by rw [hqw]; omega, rfl⟩, zSN.cg hS (funext (fun j => by rw [Fr.e hG_N_42 hk_1 _ rfl, Fr.e hG_N_39 hk_1 _ rfl, hM_N_38, mu_k hk_1 hk_18 rfl])) (upk_o (by omega)) (upk_o (by omega)) (upk_o (by omega)) (upk_o (by omega)), zSU.set (a := a1) (x := (M (M c0 5) 4)) hU (by omega) rfl (by omega) hZ hI_M hk_1 hE_N_42 (funext (fun j => by rw [Fr.e hG_N_42 hk_1 _ rfl, Fr.e hG_N_39 hk_1 _ rfl, hM_N_38, mu_k hk_1 hk_18 rfl])) (AT.fr (AT.fr hAs hI_N_38 hk_18 hG_N_39 rfl) hI_N_39 hk_18 hG_N_42 rfl) (upk_o (by omega)) (upk_o (by omega)) (fun i h1 h2 h3 => (upk_o (by omega))) hV, (zTC.fr (htf_N_39 _) hI_N_39 hk_c0 hG_N_42 rfl)⟩⟩ dX11_accept_88
        · refine kx_aload_n 65 F 0 dX11_accept_64 rfl rfl rfl ?_
          refine kx_bipush 67 F dX11_accept_65 (by decide) rfl ?_
          refine kx_Vi 70 (ci := 0) F (As := [vI 7]) (st := []) vd_X11_110 (c_X11_refuse G l M c0 7 hI_M hk_c0 (by omega)) hk_c0 rfl rfl rfl ⟨by decide, by decide⟩ rfl rfl (Nat.le_of_ble_eq_true rfl) dX11_accept_67 rfl ?_
          intro r_44 N_45 q_46
          obtain ⟨hI_N_45, hG_N_45, q_46c⟩ := q_46
          have hF_N_45 : Fr f_e_accept7 M N_45 := Fr.c hF_M hG_N_45 rfl
          have hE_N_45 : Cf (zRG (M c0 5) a1) M N_45 := Cf.fr hE_M hG_N_45 rfl
          subst q_46c
          exact kx_iret F hQ ⟨hI_N_45, hF_N_45, (by omega), hE_N_45, ⟨q, Or.inr ⟨fun h => by rw [hqw] at h; omega, by omega, rfl⟩, (zSN.fr hS hk_1 hG_N_45 rfl), (zSU.fr hU hI_M hk_1 hG_N_45 rfl), (zTC.fr hK hI_M hk_c0 hG_N_45 rfl)⟩⟩ dX11_accept_70
    · exfalso; omega
  · refine kx_if_ne 9 F 15 dX11_accept_6 (by decide) rfl (by omega) (fun h_47 => ?_) (fun h_47 => (by exfalso; omega))
    refine kx_aload_n 16 F 0 dX11_accept_15 rfl rfl rfl ?_
    refine kx_getr 19 F fl_X11_26 hk_c0 rfl rfl (j := 5) rfl dX11_accept_16 (v := (M c0 5)) rfl rfl ?_
    refine kx_iload_n 20 F 1 dX11_accept_19 rfl rfl rfl ?_
    refine kx_Vr 23 (ci := 0) F (As := [vI a1]) (st := []) vd_X11_164 (c_X5_pickE G l M (M c0 5) a1 hI_M hk_1 (by omega)) hk_1 rfl rfl rfl ⟨by decide, by decide⟩ rfl rfl (Nat.le_of_ble_eq_true rfl) dX11_accept_20 rfl ?_
    intro r_48 N_49 q_50
    obtain ⟨rfl, hk_51, q_50d⟩ := q_50
    rcases q_50d with ⟨q_50c, rfl⟩ | ⟨q_50c, rfl⟩
    · exfalso; omega
    · have hA := hU.2 (by omega)
      have hn0 : M (M (M c0 5) 5) 0 = q (85 * a1 + 100) := hA.n (by decide) (by omega)
      have hn1 : M (M (M c0 5) 5) 1 = q (85 * a1 + 101) := hA.n (by decide) (by omega)
      have hn2 : M (M (M c0 5) 5) 2 = q (85 * a1 + 102) := hA.n (by decide) (by omega)
      have hn3 : M (M (M c0 5) 5) 3 = q (85 * a1 + 103) := hA.n (by decide) (by omega)
      have hn4 : M (M (M c0 5) 5) 4 = q (85 * a1 + 104) := hA.n (by decide) (by omega)
      have hq44 : q (85 * a1 + 100 + 4) = q (85 * a1 + 104) := by rw [show 85 * a1 + 100 + 4 = 85 * a1 + 104 by omega]
      have hgx0 := Inv.g hI_M hk_51 rfl 0 (a := 0) (b := 3) rfl rfl
      have hgx1 := Inv.g hI_M hk_51 rfl 1 (a := 0) (b := 3) rfl rfl
      have hgx4 := Inv.g hI_M hk_51 rfl 4 (a := 0) (b := 20) rfl rfl
      have hxz := (hZ.2.1 (M c0 5) hk_1).2.1
      refine kx_astore 25 F 4 (lo' := [some (vR G c0), some (vI a1), some (vI a2), some (vI a3), some (vR G (M (M c0 5) 5)), none]) dX11_accept_23 (by decide) rfl rfl rfl ?_
      have hqw : q (85 * a1 + 100 + 3) = M (M (M c0 5) 5) 3 := by have h := hn3; rw [show 85 * a1 + 100 + 3 = 85 * a1 + 103 by omega]; exact h.symm
      have hsr := Inv.g hI_M hk_51 rfl 3 (a := 0) (b := 7) rfl rfl
      have hbit := bit_u (s := M (M (M c0 5) 5) 3) (k := a2) (by omega) (by omega)
      refine kx_iload_n 26 F 3 dX11_accept_25 rfl rfl rfl ?_
      refine kx_if_eq 29 F 41 dX11_accept_26 (by decide) rfl (by omega) (fun h_52 => ?_) (fun h_52 => ?_)
      · refine kx_aload 43 F 4 dX11_accept_41 rfl rfl ?_
        refine kx_geti 46 F fl_X11_179 hk_51 rfl rfl (j := 3) rfl dX11_accept_43 (v := (M (M (M c0 5) 5) 3)) rfl rfl ?_
        refine kx_iconst 47 F dX11_accept_46 rfl ?_
        refine kx_iload_n 48 F 2 dX11_accept_47 rfl rfl rfl ?_
        refine kx_ishl 49 F (v := (zshl 1 a2)) dX11_accept_48 rfl rfl ?_
        have h_54 := zshl_1 (b := a2) 2 (by decide) (by omega)
        refine kx_iconst 50 F dX11_accept_49 rfl ?_
        refine kx_ixor 51 F (v := (zxor (zshl 1 a2) (-1))) dX11_accept_50 rfl rfl ?_
        have h_55 := zxor_rng (zshl 1 a2) (-1)
        refine kx_iand 52 F (v := (zand (M (M (M c0 5) 5) 3) (zxor (zshl 1 a2) (-1)))) dX11_accept_51 rfl rfl ?_
        have h_56 := zand_l (a := (M (M (M c0 5) 5) 3)) (b := (zxor (zshl 1 a2) (-1))) (by omega)
        refine kx_istore 54 F 5 (lo' := [some (vR G c0), some (vI a1), some (vI a2), some (vI a3), some (vR G (M (M c0 5) 5)), some (vI (zand (M (M (M c0 5) 5) 3) (zxor (zshl 1 a2) (-1))))]) dX11_accept_52 (by decide) rfl rfl rfl ?_
        refine kx_iload 56 F 5 dX11_accept_54 rfl rfl ?_
        refine kx_aload 58 F 4 dX11_accept_56 rfl rfl ?_
        refine kx_geti 61 F fl_X11_179 hk_51 rfl rfl (j := 3) rfl dX11_accept_58 (v := (M (M (M c0 5) 5) 3)) rfl rfl ?_
        refine kx_icmp_ne 64 F 71 dX11_accept_61 (by decide) rfl (by omega) (by omega) (fun h_57 => ?_) (fun h_57 => ?_)
        · refine kx_aload 73 F 4 dX11_accept_71 rfl rfl ?_
          refine kx_iload 75 F 5 dX11_accept_73 rfl rfl ?_
          refine kx_puti 78 F fw_X11_179 rfl hk_51 rfl rfl (j := 3) rfl dX11_accept_75 rfl ?_
          intro N_58 hM_N_58
          have hI_N_58 : Inv false N_58 := Inv.u hI_M hM_N_58 hk_51 (a := 0) (b := 7) rfl rfl rfl (by omega)
          have hF_N_58 : Fr f_e_accept7 M N_58 := Fr.u hF_M hM_N_58 hk_51 rfl
          have hE_N_58 : Cf (zRG (M c0 5) a1) M N_58 := Cf.st hE_M hM_N_58 ⟨by have z := hZ.2.1 (M c0 5) hk_1; omega, by have z := hZ.2.1 (M c0 5) hk_1; omega, by have z := hZ.2.1 (M c0 5) hk_1; omega, by have z := hZ.2.1 (M c0 5) hk_1; omega⟩
          refine kx_aload_n 79 F 0 dX11_accept_78 rfl rfl rfl ?_
          refine kx_Vv 82 (ci := 0) F (As := []) (st := []) vd_X11_139 (e_forget3 G l N_58 c0 hI_N_58 hk_c0) hk_c0 rfl rfl rfl ⟨by decide, by decide⟩ rfl rfl (Nat.le_of_ble_eq_true rfl) dX11_accept_79 rfl ?_
          intro N_59 q_60
          obtain ⟨hI_N_59, hG_N_59, hfg_N_59⟩ := q_60
          have hF_N_59 : Fr f_e_accept7 M N_59 := Fr.c hF_N_58 hG_N_59 rfl
          have hE_N_59 : Cf (zRG (M c0 5) a1) M N_59 := Cf.fr hE_N_58 hG_N_59 rfl
          have htf_N_59 : ∀ q, zTC N_59 c0 q := fun q => zTC.no (by rw [show N_59 c0 8 = N_58 c0 8 from Fr.e hG_N_59 hk_c0 8 rfl]; exact hfg_N_59.1) (by rw [show N_59 c0 9 = N_58 c0 9 from Fr.e hG_N_59 hk_c0 9 rfl]; exact hfg_N_59.2)
          refine kx_aload_n 83 F 0 dX11_accept_82 rfl rfl rfl ?_
          refine kx_iload 85 F 5 dX11_accept_83 rfl rfl ?_
          refine kx_Vi 88 (ci := 0) F (As := [vI (zand (M (M (M c0 5) 5) 3) (zxor (zshl 1 a2) (-1)))]) (st := []) vd_X11_145 (c_X11_answer G l N_59 c0 (zand (M (M (M c0 5) 5) 3) (zxor (zshl 1 a2) (-1))) hI_N_59 hk_c0 (by omega)) hk_c0 rfl rfl rfl ⟨by decide, by decide⟩ rfl rfl (Nat.le_of_ble_eq_true rfl) dX11_accept_85 rfl ?_
          intro r_61 N_62 q_63
          obtain ⟨hI_N_62, hG_N_62, q_63c⟩ := q_63
          have hF_N_62 : Fr f_e_accept7 M N_62 := Fr.c hF_N_59 hG_N_62 rfl
          have hE_N_62 : Cf (zRG (M c0 5) a1) M N_62 := Cf.fr hE_N_59 hG_N_62 rfl
          have hAs : AT N_58 (M (M c0 5) 5) (upk q (85 * a1 + 100 + 3) (zxor (q (85 * a1 + 100 + 3)) (zshl 1 a2))) (85 * a1 + 100) := by have h0 : AT M (M (M c0 5) 5) q (85 * a1 + 100) := (by rw [show 85 * a1 + 100 = 185 by omega]; exact hA); exact AT.put h0 (Or.inr rfl) (by omega) hI_M hk_51 hM_N_58 (by rw [hqw]; omega)
          exact kx_iret F hQ ⟨hI_N_62, hF_N_62, (by omega), hE_N_62, ⟨(upk q (85 * a1 + 100 + 3) (zxor (q (85 * a1 + 100 + 3)) (zshl 1 a2))), Or.inl ⟨⟨by omega, by omega, by omega, by omega, by rw [hqw]; omega⟩, by rw [hqw]; omega, rfl⟩, zSN.cg hS (funext (fun j => by rw [Fr.e hG_N_62 hk_1 _ rfl, Fr.e hG_N_59 hk_1 _ rfl, hM_N_58, mu_k hk_1 hk_51 rfl])) (upk_o (by omega)) (upk_o (by omega)) (upk_o (by omega)) (upk_o (by omega)), zSU.set (a := a1) (x := (M (M c0 5) 5)) hU (by omega) rfl (by omega) hZ hI_M hk_1 hE_N_62 (funext (fun j => by rw [Fr.e hG_N_62 hk_1 _ rfl, Fr.e hG_N_59 hk_1 _ rfl, hM_N_58, mu_k hk_1 hk_51 rfl])) (AT.fr (AT.fr hAs hI_N_58 hk_51 hG_N_59 rfl) hI_N_59 hk_51 hG_N_62 rfl) (upk_o (by omega)) (upk_o (by omega)) (fun i h1 h2 h3 => (upk_o (by omega))) hV, (zTC.fr (htf_N_59 _) hI_N_59 hk_c0 hG_N_62 rfl)⟩⟩ dX11_accept_88
        · refine kx_aload_n 65 F 0 dX11_accept_64 rfl rfl rfl ?_
          refine kx_bipush 67 F dX11_accept_65 (by decide) rfl ?_
          refine kx_Vi 70 (ci := 0) F (As := [vI 7]) (st := []) vd_X11_110 (c_X11_refuse G l M c0 7 hI_M hk_c0 (by omega)) hk_c0 rfl rfl rfl ⟨by decide, by decide⟩ rfl rfl (Nat.le_of_ble_eq_true rfl) dX11_accept_67 rfl ?_
          intro r_64 N_65 q_66
          obtain ⟨hI_N_65, hG_N_65, q_66c⟩ := q_66
          have hF_N_65 : Fr f_e_accept7 M N_65 := Fr.c hF_M hG_N_65 rfl
          have hE_N_65 : Cf (zRG (M c0 5) a1) M N_65 := Cf.fr hE_M hG_N_65 rfl
          subst q_66c
          exact kx_iret F hQ ⟨hI_N_65, hF_N_65, (by omega), hE_N_65, ⟨q, Or.inr ⟨fun h => by rw [hqw] at h; omega, by omega, rfl⟩, (zSN.fr hS hk_1 hG_N_65 rfl), (zSU.fr hU hI_M hk_1 hG_N_65 rfl), (zTC.fr hK hI_M hk_c0 hG_N_65 rfl)⟩⟩ dX11_accept_70
      · refine kx_aload 31 F 4 dX11_accept_29 rfl rfl ?_
        refine kx_geti 34 F fl_X11_179 hk_51 rfl rfl (j := 3) rfl dX11_accept_31 (v := (M (M (M c0 5) 5) 3)) rfl rfl ?_
        refine kx_iconst 35 F dX11_accept_34 rfl ?_
        refine kx_iload_n 36 F 2 dX11_accept_35 rfl rfl rfl ?_
        refine kx_ishl 37 F (v := (zshl 1 a2)) dX11_accept_36 rfl rfl ?_
        have h_68 := zshl_1 (b := a2) 2 (by decide) (by omega)
        refine kx_ior 38 F (v := (zor (M (M (M c0 5) 5) 3) (zshl 1 a2))) dX11_accept_37 rfl rfl ?_
        have h_69 : 0 ≤ (zor (M (M (M c0 5) 5) 3) (zshl 1 a2)) ∧ (zor (M (M (M c0 5) 5) 3) (zshl 1 a2)) < 8 := zor_lt (a := (M (M (M c0 5) 5) 3)) (b := (zshl 1 a2)) 3 (by decide) (by omega) (by omega)
        refine kx_goto 52 F dX11_accept_38 (by decide) ?_
        refine kx_istore 54 F 5 (lo' := [some (vR G c0), some (vI a1), some (vI a2), some (vI a3), some (vR G (M (M c0 5) 5)), some (vI (zor (M (M (M c0 5) 5) 3) (zshl 1 a2)))]) dX11_accept_52 (by decide) rfl rfl rfl ?_
        refine kx_iload 56 F 5 dX11_accept_54 rfl rfl ?_
        refine kx_aload 58 F 4 dX11_accept_56 rfl rfl ?_
        refine kx_geti 61 F fl_X11_179 hk_51 rfl rfl (j := 3) rfl dX11_accept_58 (v := (M (M (M c0 5) 5) 3)) rfl rfl ?_
        refine kx_icmp_ne 64 F 71 dX11_accept_61 (by decide) rfl (by omega) (by omega) (fun h_70 => ?_) (fun h_70 => ?_)
        · refine kx_aload 73 F 4 dX11_accept_71 rfl rfl ?_
          refine kx_iload 75 F 5 dX11_accept_73 rfl rfl ?_
          refine kx_puti 78 F fw_X11_179 rfl hk_51 rfl rfl (j := 3) rfl dX11_accept_75 rfl ?_
          intro N_71 hM_N_71
          have hI_N_71 : Inv false N_71 := Inv.u hI_M hM_N_71 hk_51 (a := 0) (b := 7) rfl rfl rfl (by omega)
          have hF_N_71 : Fr f_e_accept7 M N_71 := Fr.u hF_M hM_N_71 hk_51 rfl
          have hE_N_71 : Cf (zRG (M c0 5) a1) M N_71 := Cf.st hE_M hM_N_71 ⟨by have z := hZ.2.1 (M c0 5) hk_1; omega, by have z := hZ.2.1 (M c0 5) hk_1; omega, by have z := hZ.2.1 (M c0 5) hk_1; omega, by have z := hZ.2.1 (M c0 5) hk_1; omega⟩
          refine kx_aload_n 79 F 0 dX11_accept_78 rfl rfl rfl ?_
          refine kx_Vv 82 (ci := 0) F (As := []) (st := []) vd_X11_139 (e_forget3 G l N_71 c0 hI_N_71 hk_c0) hk_c0 rfl rfl rfl ⟨by decide, by decide⟩ rfl rfl (Nat.le_of_ble_eq_true rfl) dX11_accept_79 rfl ?_
          intro N_72 q_73
          obtain ⟨hI_N_72, hG_N_72, hfg_N_72⟩ := q_73
          have hF_N_72 : Fr f_e_accept7 M N_72 := Fr.c hF_N_71 hG_N_72 rfl
          have hE_N_72 : Cf (zRG (M c0 5) a1) M N_72 := Cf.fr hE_N_71 hG_N_72 rfl
          have htf_N_72 : ∀ q, zTC N_72 c0 q := fun q => zTC.no (by rw [show N_72 c0 8 = N_71 c0 8 from Fr.e hG_N_72 hk_c0 8 rfl]; exact hfg_N_72.1) (by rw [show N_72 c0 9 = N_71 c0 9 from Fr.e hG_N_72 hk_c0 9 rfl]; exact hfg_N_72.2)
          refine kx_aload_n 83 F 0 dX11_accept_82 rfl rfl rfl ?_
          refine kx_iload 85 F 5 dX11_accept_83 rfl rfl ?_
          refine kx_Vi 88 (ci := 0) F (As := [vI (zor (M (M (M c0 5) 5) 3) (zshl 1 a2))]) (st := []) vd_X11_145 (c_X11_answer G l N_72 c0 (zor (M (M (M c0 5) 5) 3) (zshl 1 a2)) hI_N_72 hk_c0 (by omega)) hk_c0 rfl rfl rfl ⟨by decide, by decide⟩ rfl rfl (Nat.le_of_ble_eq_true rfl) dX11_accept_85 rfl ?_
          intro r_74 N_75 q_76
          obtain ⟨hI_N_75, hG_N_75, q_76c⟩ := q_76
          have hF_N_75 : Fr f_e_accept7 M N_75 := Fr.c hF_N_72 hG_N_75 rfl
          have hE_N_75 : Cf (zRG (M c0 5) a1) M N_75 := Cf.fr hE_N_72 hG_N_75 rfl
          have hAs : AT N_71 (M (M c0 5) 5) (upk q (85 * a1 + 100 + 3) (zxor (q (85 * a1 + 100 + 3)) (zshl 1 a2))) (85 * a1 + 100) := by have h0 : AT M (M (M c0 5) 5) q (85 * a1 + 100) := (by rw [show 85 * a1 + 100 = 185 by omega]; exact hA); exact AT.put h0 (Or.inr rfl) (by omega) hI_M hk_51 hM_N_71 (by rw [hqw]; omega)
          exact kx_iret F hQ ⟨hI_N_75, hF_N_75, (by omega), hE_N_75, ⟨(upk q (85 * a1 + 100 + 3) (zxor (q (85 * a1 + 100 + 3)) (zshl 1 a2))), Or.inl ⟨⟨by omega, by omega, by omega, by omega, by rw [hqw]; omega⟩, by rw [hqw]; omega, rfl⟩, zSN.cg hS (funext (fun j => by rw [Fr.e hG_N_75 hk_1 _ rfl, Fr.e hG_N_72 hk_1 _ rfl, hM_N_71, mu_k hk_1 hk_51 rfl])) (upk_o (by omega)) (upk_o (by omega)) (upk_o (by omega)) (upk_o (by omega)), zSU.set (a := a1) (x := (M (M c0 5) 5)) hU (by omega) rfl (by omega) hZ hI_M hk_1 hE_N_75 (funext (fun j => by rw [Fr.e hG_N_75 hk_1 _ rfl, Fr.e hG_N_72 hk_1 _ rfl, hM_N_71, mu_k hk_1 hk_51 rfl])) (AT.fr (AT.fr hAs hI_N_71 hk_51 hG_N_72 rfl) hI_N_72 hk_51 hG_N_75 rfl) (upk_o (by omega)) (upk_o (by omega)) (fun i h1 h2 h3 => (upk_o (by omega))) hV, (zTC.fr (htf_N_72 _) hI_N_72 hk_c0 hG_N_75 rfl)⟩⟩ dX11_accept_88
        · refine kx_aload_n 65 F 0 dX11_accept_64 rfl rfl rfl ?_
          refine kx_bipush 67 F dX11_accept_65 (by decide) rfl ?_
          refine kx_Vi 70 (ci := 0) F (As := [vI 7]) (st := []) vd_X11_110 (c_X11_refuse G l M c0 7 hI_M hk_c0 (by omega)) hk_c0 rfl rfl rfl ⟨by decide, by decide⟩ rfl rfl (Nat.le_of_ble_eq_true rfl) dX11_accept_67 rfl ?_
          intro r_77 N_78 q_79
          obtain ⟨hI_N_78, hG_N_78, q_79c⟩ := q_79
          have hF_N_78 : Fr f_e_accept7 M N_78 := Fr.c hF_M hG_N_78 rfl
          have hE_N_78 : Cf (zRG (M c0 5) a1) M N_78 := Cf.fr hE_M hG_N_78 rfl
          subst q_79c
          exact kx_iret F hQ ⟨hI_N_78, hF_N_78, (by omega), hE_N_78, ⟨q, Or.inr ⟨fun h => by rw [hqw] at h; omega, by omega, rfl⟩, (zSN.fr hS hk_1 hG_N_78 rfl), (zSU.fr hU hI_M hk_1 hG_N_78 rfl), (zTC.fr hK hI_M hk_c0 hG_N_78 rfl)⟩⟩ dX11_accept_70
  · refine kx_if_ne 9 F 15 dX11_accept_6 (by decide) rfl (by omega) (fun h_80 => (by exfalso; omega)) (fun h_80 => ?_)
    have hst0 : 0 < q 3 → M (M (M c0 5) 4) 0 = q 100 := fun h => (hU.1 h).n (d := 0) (by decide) (by decide)
    have hst1 : 1 < q 3 → M (M (M c0 5) 5) 0 = q 185 := fun h => (hU.2 h).n (d := 0) (by decide) (by decide)
    have hq0 : a1 = 0 → q (85 * a1 + 100) = q 100 := fun h => by rw [h]; rfl
    have hq1 : a1 = 1 → q (85 * a1 + 100) = q 185 := fun h => by rw [h]; rfl
    refine kx_aload_n 10 F 0 dX11_accept_9 rfl rfl rfl ?_
    refine kx_iconst 11 F dX11_accept_10 rfl ?_
    refine kx_Vi 14 (ci := 0) F (As := [vI 1]) (st := []) vd_X11_110 (c_X11_refuse G l M c0 1 hI_M hk_c0 (by omega)) hk_c0 rfl rfl rfl ⟨by decide, by decide⟩ rfl rfl (Nat.le_of_ble_eq_true rfl) dX11_accept_11 rfl ?_
    intro r_81 N_82 q_83
    obtain ⟨hI_N_82, hG_N_82, q_83c⟩ := q_83
    have hF_N_82 : Fr f_e_accept7 M N_82 := Fr.c hF_M hG_N_82 rfl
    have hE_N_82 : Cf (zRG (M c0 5) a1) M N_82 := Cf.fr hE_M hG_N_82 rfl
    subst q_83c
    exact kx_iret F hQ ⟨hI_N_82, hF_N_82, (by omega), hE_N_82, ⟨q, Or.inr ⟨fun h => by omega, by omega, rfl⟩, (zSN.fr hS hk_1 hG_N_82 rfl), (zSU.fr hU hI_M hk_1 hG_N_82 rfl), (zTC.fr hK hI_M hk_c0 hG_N_82 rfl)⟩⟩ dX11_accept_14
  · refine kx_if_ne 9 F 15 dX11_accept_6 (by decide) rfl (by omega) (fun h_84 => (by exfalso; omega)) (fun h_84 => ?_)
    have hst0 : 0 < q 3 → M (M (M c0 5) 4) 0 = q 100 := fun h => (hU.1 h).n (d := 0) (by decide) (by decide)
    have hst1 : 1 < q 3 → M (M (M c0 5) 5) 0 = q 185 := fun h => (hU.2 h).n (d := 0) (by decide) (by decide)
    have hq0 : a1 = 0 → q (85 * a1 + 100) = q 100 := fun h => by rw [h]; rfl
    have hq1 : a1 = 1 → q (85 * a1 + 100) = q 185 := fun h => by rw [h]; rfl
    refine kx_aload_n 10 F 0 dX11_accept_9 rfl rfl rfl ?_
    refine kx_iconst 11 F dX11_accept_10 rfl ?_
    refine kx_Vi 14 (ci := 0) F (As := [vI 1]) (st := []) vd_X11_110 (c_X11_refuse G l M c0 1 hI_M hk_c0 (by omega)) hk_c0 rfl rfl rfl ⟨by decide, by decide⟩ rfl rfl (Nat.le_of_ble_eq_true rfl) dX11_accept_11 rfl ?_
    intro r_85 N_86 q_87
    obtain ⟨hI_N_86, hG_N_86, q_87c⟩ := q_87
    have hF_N_86 : Fr f_e_accept7 M N_86 := Fr.c hF_M hG_N_86 rfl
    have hE_N_86 : Cf (zRG (M c0 5) a1) M N_86 := Cf.fr hE_M hG_N_86 rfl
    subst q_87c
    exact kx_iret F hQ ⟨hI_N_86, hF_N_86, (by omega), hE_N_86, ⟨q, Or.inr ⟨fun h => by omega, by omega, rfl⟩, (zSN.fr hS hk_1 hG_N_86 rfl), (zSU.fr hU hI_M hk_1 hG_N_86 rfl), (zTC.fr hK hI_M hk_c0 hG_N_86 rfl)⟩⟩ dX11_accept_14
  · refine kx_if_ne 9 F 15 dX11_accept_6 (by decide) rfl (by omega) (fun h_88 => (by exfalso; omega)) (fun h_88 => ?_)
    have hst0 : 0 < q 3 → M (M (M c0 5) 4) 0 = q 100 := fun h => (hU.1 h).n (d := 0) (by decide) (by decide)
    have hst1 : 1 < q 3 → M (M (M c0 5) 5) 0 = q 185 := fun h => (hU.2 h).n (d := 0) (by decide) (by decide)
    have hq0 : a1 = 0 → q (85 * a1 + 100) = q 100 := fun h => by rw [h]; rfl
    have hq1 : a1 = 1 → q (85 * a1 + 100) = q 185 := fun h => by rw [h]; rfl
    refine kx_aload_n 10 F 0 dX11_accept_9 rfl rfl rfl ?_
    refine kx_iconst 11 F dX11_accept_10 rfl ?_
    refine kx_Vi 14 (ci := 0) F (As := [vI 1]) (st := []) vd_X11_110 (c_X11_refuse G l M c0 1 hI_M hk_c0 (by omega)) hk_c0 rfl rfl rfl ⟨by decide, by decide⟩ rfl rfl (Nat.le_of_ble_eq_true rfl) dX11_accept_11 rfl ?_
    intro r_89 N_90 q_91
    obtain ⟨hI_N_90, hG_N_90, q_91c⟩ := q_91
    have hF_N_90 : Fr f_e_accept7 M N_90 := Fr.c hF_M hG_N_90 rfl
    have hE_N_90 : Cf (zRG (M c0 5) a1) M N_90 := Cf.fr hE_M hG_N_90 rfl
    subst q_91c
    exact kx_iret F hQ ⟨hI_N_90, hF_N_90, (by omega), hE_N_90, ⟨q, Or.inr ⟨fun h => by omega, by omega, rfl⟩, (zSN.fr hS hk_1 hG_N_90 rfl), (zSU.fr hU hI_M hk_1 hG_N_90 rfl), (zTC.fr hK hI_M hk_c0 hG_N_90 rfl)⟩⟩ dX11_accept_14
  · refine kx_if_ne 9 F 15 dX11_accept_6 (by decide) rfl (by omega) (fun h_92 => (by exfalso; omega)) (fun h_92 => ?_)
    have hst0 : 0 < q 3 → M (M (M c0 5) 4) 0 = q 100 := fun h => (hU.1 h).n (d := 0) (by decide) (by decide)
    have hst1 : 1 < q 3 → M (M (M c0 5) 5) 0 = q 185 := fun h => (hU.2 h).n (d := 0) (by decide) (by decide)
    have hq0 : a1 = 0 → q (85 * a1 + 100) = q 100 := fun h => by rw [h]; rfl
    have hq1 : a1 = 1 → q (85 * a1 + 100) = q 185 := fun h => by rw [h]; rfl
    refine kx_aload_n 10 F 0 dX11_accept_9 rfl rfl rfl ?_
    refine kx_iconst 11 F dX11_accept_10 rfl ?_
    refine kx_Vi 14 (ci := 0) F (As := [vI 1]) (st := []) vd_X11_110 (c_X11_refuse G l M c0 1 hI_M hk_c0 (by omega)) hk_c0 rfl rfl rfl ⟨by decide, by decide⟩ rfl rfl (Nat.le_of_ble_eq_true rfl) dX11_accept_11 rfl ?_
    intro r_93 N_94 q_95
    obtain ⟨hI_N_94, hG_N_94, q_95c⟩ := q_95
    have hF_N_94 : Fr f_e_accept7 M N_94 := Fr.c hF_M hG_N_94 rfl
    have hE_N_94 : Cf (zRG (M c0 5) a1) M N_94 := Cf.fr hE_M hG_N_94 rfl
    subst q_95c
    exact kx_iret F hQ ⟨hI_N_94, hF_N_94, (by omega), hE_N_94, ⟨q, Or.inr ⟨fun h => by omega, by omega, rfl⟩, (zSN.fr hS hk_1 hG_N_94 rfl), (zSU.fr hU hI_M hk_1 hG_N_94 rfl), (zTC.fr hK hI_M hk_c0 hG_N_94 rfl)⟩⟩ dX11_accept_14
  · refine kx_if_ne 9 F 15 dX11_accept_6 (by decide) rfl (by omega) (fun h_96 => (by exfalso; omega)) (fun h_96 => ?_)
    have hst0 : 0 < q 3 → M (M (M c0 5) 4) 0 = q 100 := fun h => (hU.1 h).n (d := 0) (by decide) (by decide)
    have hst1 : 1 < q 3 → M (M (M c0 5) 5) 0 = q 185 := fun h => (hU.2 h).n (d := 0) (by decide) (by decide)
    have hq0 : a1 = 0 → q (85 * a1 + 100) = q 100 := fun h => by rw [h]; rfl
    have hq1 : a1 = 1 → q (85 * a1 + 100) = q 185 := fun h => by rw [h]; rfl
    refine kx_aload_n 10 F 0 dX11_accept_9 rfl rfl rfl ?_
    refine kx_iconst 11 F dX11_accept_10 rfl ?_
    refine kx_Vi 14 (ci := 0) F (As := [vI 1]) (st := []) vd_X11_110 (c_X11_refuse G l M c0 1 hI_M hk_c0 (by omega)) hk_c0 rfl rfl rfl ⟨by decide, by decide⟩ rfl rfl (Nat.le_of_ble_eq_true rfl) dX11_accept_11 rfl ?_
    intro r_97 N_98 q_99
    obtain ⟨hI_N_98, hG_N_98, q_99c⟩ := q_99
    have hF_N_98 : Fr f_e_accept7 M N_98 := Fr.c hF_M hG_N_98 rfl
    have hE_N_98 : Cf (zRG (M c0 5) a1) M N_98 := Cf.fr hE_M hG_N_98 rfl
    subst q_99c
    exact kx_iret F hQ ⟨hI_N_98, hF_N_98, (by omega), hE_N_98, ⟨q, Or.inr ⟨fun h => by omega, by omega, rfl⟩, (zSN.fr hS hk_1 hG_N_98 rfl), (zSU.fr hU hI_M hk_1 hG_N_98 rfl), (zTC.fr hK hI_M hk_c0 hG_N_98 rfl)⟩⟩ dX11_accept_14
  · refine kx_if_ne 9 F 15 dX11_accept_6 (by decide) rfl (by omega) (fun h_100 => (by exfalso; omega)) (fun h_100 => ?_)
    have hst0 : 0 < q 3 → M (M (M c0 5) 4) 0 = q 100 := fun h => (hU.1 h).n (d := 0) (by decide) (by decide)
    have hst1 : 1 < q 3 → M (M (M c0 5) 5) 0 = q 185 := fun h => (hU.2 h).n (d := 0) (by decide) (by decide)
    have hq0 : a1 = 0 → q (85 * a1 + 100) = q 100 := fun h => by rw [h]; rfl
    have hq1 : a1 = 1 → q (85 * a1 + 100) = q 185 := fun h => by rw [h]; rfl
    refine kx_aload_n 10 F 0 dX11_accept_9 rfl rfl rfl ?_
    refine kx_iconst 11 F dX11_accept_10 rfl ?_
    refine kx_Vi 14 (ci := 0) F (As := [vI 1]) (st := []) vd_X11_110 (c_X11_refuse G l M c0 1 hI_M hk_c0 (by omega)) hk_c0 rfl rfl rfl ⟨by decide, by decide⟩ rfl rfl (Nat.le_of_ble_eq_true rfl) dX11_accept_11 rfl ?_
    intro r_101 N_102 q_103
    obtain ⟨hI_N_102, hG_N_102, q_103c⟩ := q_103
    have hF_N_102 : Fr f_e_accept7 M N_102 := Fr.c hF_M hG_N_102 rfl
    have hE_N_102 : Cf (zRG (M c0 5) a1) M N_102 := Cf.fr hE_M hG_N_102 rfl
    subst q_103c
    exact kx_iret F hQ ⟨hI_N_102, hF_N_102, (by omega), hE_N_102, ⟨q, Or.inr ⟨fun h => by omega, by omega, rfl⟩, (zSN.fr hS hk_1 hG_N_102 rfl), (zSU.fr hU hI_M hk_1 hG_N_102 rfl), (zTC.fr hK hI_M hk_c0 hG_N_102 rfl)⟩⟩ dX11_accept_14
  · refine kx_if_ne 9 F 15 dX11_accept_6 (by decide) rfl (by omega) (fun h_104 => (by exfalso; omega)) (fun h_104 => ?_)
    have hst0 : 0 < q 3 → M (M (M c0 5) 4) 0 = q 100 := fun h => (hU.1 h).n (d := 0) (by decide) (by decide)
    have hst1 : 1 < q 3 → M (M (M c0 5) 5) 0 = q 185 := fun h => (hU.2 h).n (d := 0) (by decide) (by decide)
    have hq0 : a1 = 0 → q (85 * a1 + 100) = q 100 := fun h => by rw [h]; rfl
    have hq1 : a1 = 1 → q (85 * a1 + 100) = q 185 := fun h => by rw [h]; rfl
    refine kx_aload_n 10 F 0 dX11_accept_9 rfl rfl rfl ?_
    refine kx_iconst 11 F dX11_accept_10 rfl ?_
    refine kx_Vi 14 (ci := 0) F (As := [vI 1]) (st := []) vd_X11_110 (c_X11_refuse G l M c0 1 hI_M hk_c0 (by omega)) hk_c0 rfl rfl rfl ⟨by decide, by decide⟩ rfl rfl (Nat.le_of_ble_eq_true rfl) dX11_accept_11 rfl ?_
    intro r_105 N_106 q_107
    obtain ⟨hI_N_106, hG_N_106, q_107c⟩ := q_107
    have hF_N_106 : Fr f_e_accept7 M N_106 := Fr.c hF_M hG_N_106 rfl
    have hE_N_106 : Cf (zRG (M c0 5) a1) M N_106 := Cf.fr hE_M hG_N_106 rfl
    subst q_107c
    exact kx_iret F hQ ⟨hI_N_106, hF_N_106, (by omega), hE_N_106, ⟨q, Or.inr ⟨fun h => by omega, by omega, rfl⟩, (zSN.fr hS hk_1 hG_N_106 rfl), (zSU.fr hU hI_M hk_1 hG_N_106 rfl), (zTC.fr hK hI_M hk_c0 hG_N_106 rfl)⟩⟩ dX11_accept_14
abbrev f_e_copy7 : List (Nat × Int) := [(1, 0), (1, 1), (1, 2), (1, 3), (1, 4), (1, 5), (2, -1), (3, -1), (4, -1), (5, -1), (6, -1), (7, -1), (21, 0), (41, 2), (62, 0)]
set_option maxHeartbeats 4000000 in
set_option maxRecDepth 100000 in
theorem e_copy7 (G : KG) (l : Launch) (M : Mem) (c0 : Int) (a1 : Int) (a2 : Int) (hI_M : Inv false M) (hk_c0 : kd c0 = 62) (hpre : -2147483648 ≤ a1 ∧ a1 ≤ 2147483647 ∧ -2147483648 ≤ a2 ∧ a2 ≤ 2147483647) (q : Int → Int) (hS : zSN M (M c0 5) q) (hU : zSU M (M c0 5) q) (hZ : FZ M) (hV : zQV q) (hK : zTC M c0 q) : KC false G l yX11_copy cX11_copy 3 (some .boolean) (2, 43) [vR G c0, vI a1, vI a2] M (fun A => kQi false G A (fun (r : Int) (N : Mem) => Inv false N ∧ Fr f_e_copy7 M N ∧ (r ≥ 0 ∧ r ≤ 1) ∧ Cf (zRG (M c0 5) a2) M N ∧ (∃ q2, zCY q a1 a2 r q2 ∧ zSN N (M c0 5) q2 ∧ zSU N (M c0 5) q2 ∧ zTC N c0 q2))) := by
  refine kx_met (lo := [some (vR G c0), some (vI a1), some (vI a2)]) (by decide) (Nat.le_of_ble_eq_true rfl) rfl ?_
  intro X F hQ
  have hF_M : Fr f_e_copy7 M M := Fr.rf _ _
  have hE_M : Cf (zRG (M c0 5) a2) M M := Cf.rf _ _
  have hk_1 : kd (M c0 5) = 12 := Inv.r hI_M hk_c0 rfl 5 rfl rfl
  have hSn := hS.u
  have hVu := hV.u
  refine kx_aload_n 1 F 0 dX11_copy_0 rfl rfl rfl ?_
  refine kx_iload_n 2 F 1 dX11_copy_1 rfl rfl rfl ?_
  refine kx_iload_n 3 F 2 dX11_copy_2 rfl rfl rfl ?_
  refine kx_Vi 6 (ci := 0) F (As := [vI a1, vI a2]) (st := []) vd_X11_219 (e_X11_areTwo G l M c0 a1 a2 hI_M hk_c0 (by omega)) hk_c0 rfl rfl rfl ⟨by decide, by decide⟩ rfl rfl (Nat.le_of_ble_eq_true rfl) dX11_copy_3 rfl ?_
  intro r_2 N_3 q_4
  obtain ⟨rfl, q_4c⟩ := q_4
  have h_5 := Inv.g hI_M hk_1 rfl 3 (a := 0) (b := 2) rfl rfl
  rcases q_4c with q_4c | q_4c | q_4c | q_4c | q_4c | q_4c
  · refine kx_if_ne 9 F 15 dX11_copy_6 (by decide) rfl (by omega) (fun h_8 => ?_) (fun h_8 => (by exfalso; omega))
    refine kx_aload_n 16 F 0 dX11_copy_15 rfl rfl rfl ?_
    refine kx_getr 19 F fl_X11_26 hk_c0 rfl rfl (j := 5) rfl dX11_copy_16 (v := (M c0 5)) rfl rfl ?_
    refine kx_iload_n 20 F 2 dX11_copy_19 rfl rfl rfl ?_
    refine kx_Vr 23 (ci := 0) F (As := [vI a2]) (st := []) vd_X11_164 (c_X5_pickE G l M (M c0 5) a2 hI_M hk_1 (by omega)) hk_1 rfl rfl rfl ⟨by decide, by decide⟩ rfl rfl (Nat.le_of_ble_eq_true rfl) dX11_copy_20 rfl ?_
    intro r_9 N_10 q_11
    obtain ⟨rfl, hk_12, q_11d⟩ := q_11
    rcases q_11d with ⟨q_11c, rfl⟩ | ⟨q_11c, rfl⟩
    · have hA_a2 := hU.1 (by omega)
      have hxz_a2 := (hZ.2.1 (M c0 5) hk_1).1
      refine kx_aload_n 24 F 0 dX11_copy_23 rfl rfl rfl ?_
      refine kx_getr 27 F fl_X11_26 hk_c0 rfl rfl (j := 5) rfl dX11_copy_24 (v := (M c0 5)) rfl rfl ?_
      refine kx_iload_n 28 F 1 dX11_copy_27 rfl rfl rfl ?_
      refine kx_Vr 31 (ci := 0) F (As := [vI a1]) (st := [vR G (M (M c0 5) 4)]) vd_X11_164 (c_X5_pickE G l M (M c0 5) a1 hI_M hk_1 (by omega)) hk_1 rfl rfl rfl ⟨by decide, by decide⟩ rfl rfl (Nat.le_of_ble_eq_true rfl) dX11_copy_28 rfl ?_
      intro r_13 N_14 q_15
      obtain ⟨rfl, hk_16, q_15d⟩ := q_15
      rcases q_15d with ⟨q_15c, rfl⟩ | ⟨q_15c, rfl⟩
      · have hA_a1 := hU.1 (by omega)
        have hxz_a1 := (hZ.2.1 (M c0 5) hk_1).1
        refine kx_Vv 34 (ci := 0) F (As := [vR G (M (M c0 5) 4)]) (st := []) vd_X11_222 (e_X0_become G l M (M (M c0 5) 4) (M (M c0 5) 4) hI_M hk_16 hk_16) hk_16 rfl rfl rfl ⟨by decide, by decide⟩ rfl rfl (Nat.le_of_ble_eq_true rfl) dX11_copy_31 rfl ?_
        intro N_17 q_18
        obtain ⟨hI_N_17, hG_N_17, q_18c, hC_N_17, hbe_N_17⟩ := q_18
        have hF_N_17 : Fr f_e_copy7 M N_17 := Fr.c hF_M hG_N_17 rfl
        have hE_N_17 : Cf (zRG (M c0 5) a2) M N_17 := Cf.c hE_M hC_N_17 (fun y hy => by have a := SA.in hy hZ hk_16; have z := hZ.2.1 (M c0 5) hk_1; exact ⟨by omega, by omega, by omega, by omega⟩)
        have h_19 := Inv.g hI_M hk_16 rfl 0 (a := 0) (b := 3) rfl rfl
        have h_20 := Inv.g hI_N_17 hk_16 rfl 0 (a := 0) (b := 3) rfl rfl
        have h_21 := Inv.g hI_M hk_16 rfl 1 (a := 0) (b := 3) rfl rfl
        have h_22 := Inv.g hI_N_17 hk_16 rfl 1 (a := 0) (b := 3) rfl rfl
        have h_23 := Inv.g hI_M hk_16 rfl 2 (a := 0) (b := 7) rfl rfl
        have h_24 := Inv.g hI_N_17 hk_16 rfl 2 (a := 0) (b := 7) rfl rfl
        have h_25 := Inv.g hI_M hk_16 rfl 3 (a := 0) (b := 7) rfl rfl
        have h_26 := Inv.g hI_N_17 hk_16 rfl 3 (a := 0) (b := 7) rfl rfl
        have h_27 := Inv.g hI_M hk_16 rfl 4 (a := 0) (b := 20) rfl rfl
        have h_28 := Inv.g hI_N_17 hk_16 rfl 4 (a := 0) (b := 20) rfl rfl
        have h_29 := Inv.g hI_M hk_16 rfl 5 (a := 0) (b := 2) rfl rfl
        have h_30 := Inv.g hI_N_17 hk_16 rfl 5 (a := 0) (b := 2) rfl rfl
        refine kx_aload_n 35 F 0 dX11_copy_34 rfl rfl rfl ?_
        refine kx_Vv 38 (ci := 0) F (As := []) (st := []) vd_X11_139 (e_forget3 G l N_17 c0 hI_N_17 hk_c0) hk_c0 rfl rfl rfl ⟨by decide, by decide⟩ rfl rfl (Nat.le_of_ble_eq_true rfl) dX11_copy_35 rfl ?_
        intro N_31 q_32
        obtain ⟨hI_N_31, hG_N_31, hfg_N_31⟩ := q_32
        have hF_N_31 : Fr f_e_copy7 M N_31 := Fr.c hF_N_17 hG_N_31 rfl
        have hE_N_31 : Cf (zRG (M c0 5) a2) M N_31 := Cf.fr hE_N_17 hG_N_31 rfl
        have htf_N_31 : ∀ q, zTC N_31 c0 q := fun q => zTC.no (by rw [show N_31 c0 8 = N_17 c0 8 from Fr.e hG_N_31 hk_c0 8 rfl]; exact hfg_N_31.1) (by rw [show N_31 c0 9 = N_17 c0 9 from Fr.e hG_N_31 hk_c0 9 rfl]; exact hfg_N_31.2)
        refine kx_aload_n 39 F 0 dX11_copy_38 rfl rfl rfl ?_
        refine kx_Vi 42 (ci := 0) F (As := []) (st := []) vd_X11_98 (c_X11_agree G l N_31 c0 hI_N_31 hk_c0) hk_c0 rfl rfl rfl ⟨by decide, by decide⟩ rfl rfl (Nat.le_of_ble_eq_true rfl) dX11_copy_39 rfl ?_
        intro r_33 N_34 q_35
        obtain ⟨hI_N_34, hG_N_34, q_35c⟩ := q_35
        have hF_N_34 : Fr f_e_copy7 M N_34 := Fr.c hF_N_31 hG_N_34 rfl
        have hE_N_34 : Cf (zRG (M c0 5) a2) M N_34 := Cf.fr hE_N_31 hG_N_34 rfl
        subst q_35c
        have hAn : AT N_17 (M (M c0 5) 4) (zcopy q a1 a2) (85 * a2 + 100) := AT.bec (b := 100) hA_a1 (by omega) (by omega) (by omega) (by omega) (by omega) (by omega) (Fr.e hG_N_17 hk_16 _ rfl) (Fr.e hG_N_17 hk_16 _ rfl) (Fr.e hG_N_17 hk_16 _ rfl) (Fr.e hG_N_17 hk_16 _ rfl) (Fr.e hG_N_17 hk_16 _ rfl) (Fr.e hG_N_17 hk_16 _ rfl) hbe_N_17.1 hbe_N_17.2 (by unfold zcopy; rw [if_neg (by omega)]) (fun i h0 h1 => by unfold zcopy; rw [if_pos (by omega), show 85 * a2 + 100 + i - 85 * a2 + 85 * a1 = 100 + i by omega]) (by have h := hV.u; exact h.2.2.2.1)
        exact kx_zret F hQ (by omega) ⟨hI_N_34, hF_N_34, (by omega), hE_N_34, ⟨(zcopy q a1 a2), Or.inl ⟨by omega, by omega, rfl⟩, zSN.cg hS (funext (fun j => by rw [Fr.e hG_N_34 hk_1 _ rfl, Fr.e hG_N_31 hk_1 _ rfl, Fr.e hG_N_17 hk_1 _ rfl])) (by unfold zcopy; rw [if_neg (by omega)]) (by unfold zcopy; rw [if_neg (by omega)]) (by unfold zcopy; rw [if_neg (by omega)]) (by unfold zcopy; rw [if_neg (by omega)]), zSU.set (a := a2) (x := (M (M c0 5) 4)) hU (by omega) rfl (by omega) hZ hI_M hk_1 hE_N_34 (funext (fun j => by rw [Fr.e hG_N_34 hk_1 _ rfl, Fr.e hG_N_31 hk_1 _ rfl, Fr.e hG_N_17 hk_1 _ rfl])) (AT.fr (AT.fr hAn hI_N_17 hk_16 hG_N_31 rfl) hI_N_31 hk_16 hG_N_34 rfl) (by unfold zcopy; rw [if_neg (by omega)]) (by unfold zcopy; rw [if_neg (by omega)]) (fun i h1 h2 h3 => (by unfold zcopy; rw [if_neg (by omega)])) hV, (zTC.fr (htf_N_31 _) hI_N_31 hk_c0 hG_N_34 rfl)⟩⟩ dX11_copy_42
      · have hA_a1 := hU.2 (by omega)
        have hxz_a1 := (hZ.2.1 (M c0 5) hk_1).2.1
        refine kx_Vv 34 (ci := 0) F (As := [vR G (M (M c0 5) 5)]) (st := []) vd_X11_222 (e_X0_become G l M (M (M c0 5) 4) (M (M c0 5) 5) hI_M hk_12 hk_16) hk_12 rfl rfl rfl ⟨by decide, by decide⟩ rfl rfl (Nat.le_of_ble_eq_true rfl) dX11_copy_31 rfl ?_
        intro N_36 q_37
        obtain ⟨hI_N_36, hG_N_36, q_37c, hC_N_36, hbe_N_36⟩ := q_37
        have hF_N_36 : Fr f_e_copy7 M N_36 := Fr.c hF_M hG_N_36 rfl
        have hE_N_36 : Cf (zRG (M c0 5) a2) M N_36 := Cf.c hE_M hC_N_36 (fun y hy => by have a := SA.in hy hZ hk_12; have z := hZ.2.1 (M c0 5) hk_1; exact ⟨by omega, by omega, by omega, by omega⟩)
        have h_38 := Inv.g hI_M hk_16 rfl 0 (a := 0) (b := 3) rfl rfl
        have h_39 := Inv.g hI_N_36 hk_12 rfl 0 (a := 0) (b := 3) rfl rfl
        have h_40 := Inv.g hI_M hk_16 rfl 1 (a := 0) (b := 3) rfl rfl
        have h_41 := Inv.g hI_N_36 hk_12 rfl 1 (a := 0) (b := 3) rfl rfl
        have h_42 := Inv.g hI_M hk_16 rfl 2 (a := 0) (b := 7) rfl rfl
        have h_43 := Inv.g hI_N_36 hk_12 rfl 2 (a := 0) (b := 7) rfl rfl
        have h_44 := Inv.g hI_M hk_16 rfl 3 (a := 0) (b := 7) rfl rfl
        have h_45 := Inv.g hI_N_36 hk_12 rfl 3 (a := 0) (b := 7) rfl rfl
        have h_46 := Inv.g hI_M hk_16 rfl 4 (a := 0) (b := 20) rfl rfl
        have h_47 := Inv.g hI_N_36 hk_12 rfl 4 (a := 0) (b := 20) rfl rfl
        have h_48 := Inv.g hI_M hk_16 rfl 5 (a := 0) (b := 2) rfl rfl
        have h_49 := Inv.g hI_N_36 hk_12 rfl 5 (a := 0) (b := 2) rfl rfl
        refine kx_aload_n 35 F 0 dX11_copy_34 rfl rfl rfl ?_
        refine kx_Vv 38 (ci := 0) F (As := []) (st := []) vd_X11_139 (e_forget3 G l N_36 c0 hI_N_36 hk_c0) hk_c0 rfl rfl rfl ⟨by decide, by decide⟩ rfl rfl (Nat.le_of_ble_eq_true rfl) dX11_copy_35 rfl ?_
        intro N_50 q_51
        obtain ⟨hI_N_50, hG_N_50, hfg_N_50⟩ := q_51
        have hF_N_50 : Fr f_e_copy7 M N_50 := Fr.c hF_N_36 hG_N_50 rfl
        have hE_N_50 : Cf (zRG (M c0 5) a2) M N_50 := Cf.fr hE_N_36 hG_N_50 rfl
        have htf_N_50 : ∀ q, zTC N_50 c0 q := fun q => zTC.no (by rw [show N_50 c0 8 = N_36 c0 8 from Fr.e hG_N_50 hk_c0 8 rfl]; exact hfg_N_50.1) (by rw [show N_50 c0 9 = N_36 c0 9 from Fr.e hG_N_50 hk_c0 9 rfl]; exact hfg_N_50.2)
        refine kx_aload_n 39 F 0 dX11_copy_38 rfl rfl rfl ?_
        refine kx_Vi 42 (ci := 0) F (As := []) (st := []) vd_X11_98 (c_X11_agree G l N_50 c0 hI_N_50 hk_c0) hk_c0 rfl rfl rfl ⟨by decide, by decide⟩ rfl rfl (Nat.le_of_ble_eq_true rfl) dX11_copy_39 rfl ?_
        intro r_52 N_53 q_54
        obtain ⟨hI_N_53, hG_N_53, q_54c⟩ := q_54
        have hF_N_53 : Fr f_e_copy7 M N_53 := Fr.c hF_N_50 hG_N_53 rfl
        have hE_N_53 : Cf (zRG (M c0 5) a2) M N_53 := Cf.fr hE_N_50 hG_N_53 rfl
        subst q_54c
        have hAn : AT N_36 (M (M c0 5) 4) (zcopy q a1 a2) (85 * a2 + 100) := AT.bec (b := 185) hA_a1 (by omega) (by omega) (by omega) (by omega) (by omega) (by omega) (Fr.e hG_N_36 hk_12 _ rfl) (Fr.e hG_N_36 hk_12 _ rfl) (Fr.e hG_N_36 hk_12 _ rfl) (Fr.e hG_N_36 hk_12 _ rfl) (Fr.e hG_N_36 hk_12 _ rfl) (Fr.e hG_N_36 hk_12 _ rfl) hbe_N_36.1 hbe_N_36.2 (by unfold zcopy; rw [if_neg (by omega)]) (fun i h0 h1 => by unfold zcopy; rw [if_pos (by omega), show 85 * a2 + 100 + i - 85 * a2 + 85 * a1 = 185 + i by omega]) (by have h := hV.u; exact h.2.2.2.2.2)
        exact kx_zret F hQ (by omega) ⟨hI_N_53, hF_N_53, (by omega), hE_N_53, ⟨(zcopy q a1 a2), Or.inl ⟨by omega, by omega, rfl⟩, zSN.cg hS (funext (fun j => by rw [Fr.e hG_N_53 hk_1 _ rfl, Fr.e hG_N_50 hk_1 _ rfl, Fr.e hG_N_36 hk_1 _ rfl])) (by unfold zcopy; rw [if_neg (by omega)]) (by unfold zcopy; rw [if_neg (by omega)]) (by unfold zcopy; rw [if_neg (by omega)]) (by unfold zcopy; rw [if_neg (by omega)]), zSU.set (a := a2) (x := (M (M c0 5) 4)) hU (by omega) rfl (by omega) hZ hI_M hk_1 hE_N_53 (funext (fun j => by rw [Fr.e hG_N_53 hk_1 _ rfl, Fr.e hG_N_50 hk_1 _ rfl, Fr.e hG_N_36 hk_1 _ rfl])) (AT.fr (AT.fr hAn hI_N_36 hk_12 hG_N_50 rfl) hI_N_50 hk_12 hG_N_53 rfl) (by unfold zcopy; rw [if_neg (by omega)]) (by unfold zcopy; rw [if_neg (by omega)]) (fun i h1 h2 h3 => (by unfold zcopy; rw [if_neg (by omega)])) hV, (zTC.fr (htf_N_50 _) hI_N_50 hk_c0 hG_N_53 rfl)⟩⟩ dX11_copy_42
    · have hA_a2 := hU.2 (by omega)
      have hxz_a2 := (hZ.2.1 (M c0 5) hk_1).2.1
      refine kx_aload_n 24 F 0 dX11_copy_23 rfl rfl rfl ?_
      refine kx_getr 27 F fl_X11_26 hk_c0 rfl rfl (j := 5) rfl dX11_copy_24 (v := (M c0 5)) rfl rfl ?_
      refine kx_iload_n 28 F 1 dX11_copy_27 rfl rfl rfl ?_
      refine kx_Vr 31 (ci := 0) F (As := [vI a1]) (st := [vR G (M (M c0 5) 5)]) vd_X11_164 (c_X5_pickE G l M (M c0 5) a1 hI_M hk_1 (by omega)) hk_1 rfl rfl rfl ⟨by decide, by decide⟩ rfl rfl (Nat.le_of_ble_eq_true rfl) dX11_copy_28 rfl ?_
      intro r_55 N_56 q_57
      obtain ⟨rfl, hk_58, q_57d⟩ := q_57
      rcases q_57d with ⟨q_57c, rfl⟩ | ⟨q_57c, rfl⟩
      · have hA_a1 := hU.1 (by omega)
        have hxz_a1 := (hZ.2.1 (M c0 5) hk_1).1
        refine kx_Vv 34 (ci := 0) F (As := [vR G (M (M c0 5) 4)]) (st := []) vd_X11_222 (e_X0_become G l M (M (M c0 5) 5) (M (M c0 5) 4) hI_M hk_12 hk_58) hk_12 rfl rfl rfl ⟨by decide, by decide⟩ rfl rfl (Nat.le_of_ble_eq_true rfl) dX11_copy_31 rfl ?_
        intro N_59 q_60
        obtain ⟨hI_N_59, hG_N_59, q_60c, hC_N_59, hbe_N_59⟩ := q_60
        have hF_N_59 : Fr f_e_copy7 M N_59 := Fr.c hF_M hG_N_59 rfl
        have hE_N_59 : Cf (zRG (M c0 5) a2) M N_59 := Cf.c hE_M hC_N_59 (fun y hy => by have a := SA.in hy hZ hk_12; have z := hZ.2.1 (M c0 5) hk_1; exact ⟨by omega, by omega, by omega, by omega⟩)
        have h_61 := Inv.g hI_M hk_58 rfl 0 (a := 0) (b := 3) rfl rfl
        have h_62 := Inv.g hI_N_59 hk_12 rfl 0 (a := 0) (b := 3) rfl rfl
        have h_63 := Inv.g hI_M hk_58 rfl 1 (a := 0) (b := 3) rfl rfl
        have h_64 := Inv.g hI_N_59 hk_12 rfl 1 (a := 0) (b := 3) rfl rfl
        have h_65 := Inv.g hI_M hk_58 rfl 2 (a := 0) (b := 7) rfl rfl
        have h_66 := Inv.g hI_N_59 hk_12 rfl 2 (a := 0) (b := 7) rfl rfl
        have h_67 := Inv.g hI_M hk_58 rfl 3 (a := 0) (b := 7) rfl rfl
        have h_68 := Inv.g hI_N_59 hk_12 rfl 3 (a := 0) (b := 7) rfl rfl
        have h_69 := Inv.g hI_M hk_58 rfl 4 (a := 0) (b := 20) rfl rfl
        have h_70 := Inv.g hI_N_59 hk_12 rfl 4 (a := 0) (b := 20) rfl rfl
        have h_71 := Inv.g hI_M hk_58 rfl 5 (a := 0) (b := 2) rfl rfl
        have h_72 := Inv.g hI_N_59 hk_12 rfl 5 (a := 0) (b := 2) rfl rfl
        refine kx_aload_n 35 F 0 dX11_copy_34 rfl rfl rfl ?_
        refine kx_Vv 38 (ci := 0) F (As := []) (st := []) vd_X11_139 (e_forget3 G l N_59 c0 hI_N_59 hk_c0) hk_c0 rfl rfl rfl ⟨by decide, by decide⟩ rfl rfl (Nat.le_of_ble_eq_true rfl) dX11_copy_35 rfl ?_
        intro N_73 q_74
        obtain ⟨hI_N_73, hG_N_73, hfg_N_73⟩ := q_74
        have hF_N_73 : Fr f_e_copy7 M N_73 := Fr.c hF_N_59 hG_N_73 rfl
        have hE_N_73 : Cf (zRG (M c0 5) a2) M N_73 := Cf.fr hE_N_59 hG_N_73 rfl
        have htf_N_73 : ∀ q, zTC N_73 c0 q := fun q => zTC.no (by rw [show N_73 c0 8 = N_59 c0 8 from Fr.e hG_N_73 hk_c0 8 rfl]; exact hfg_N_73.1) (by rw [show N_73 c0 9 = N_59 c0 9 from Fr.e hG_N_73 hk_c0 9 rfl]; exact hfg_N_73.2)
        refine kx_aload_n 39 F 0 dX11_copy_38 rfl rfl rfl ?_
        refine kx_Vi 42 (ci := 0) F (As := []) (st := []) vd_X11_98 (c_X11_agree G l N_73 c0 hI_N_73 hk_c0) hk_c0 rfl rfl rfl ⟨by decide, by decide⟩ rfl rfl (Nat.le_of_ble_eq_true rfl) dX11_copy_39 rfl ?_
        intro r_75 N_76 q_77
        obtain ⟨hI_N_76, hG_N_76, q_77c⟩ := q_77
        have hF_N_76 : Fr f_e_copy7 M N_76 := Fr.c hF_N_73 hG_N_76 rfl
        have hE_N_76 : Cf (zRG (M c0 5) a2) M N_76 := Cf.fr hE_N_73 hG_N_76 rfl
        subst q_77c
        have hAn : AT N_59 (M (M c0 5) 5) (zcopy q a1 a2) (85 * a2 + 100) := AT.bec (b := 100) hA_a1 (by omega) (by omega) (by omega) (by omega) (by omega) (by omega) (Fr.e hG_N_59 hk_12 _ rfl) (Fr.e hG_N_59 hk_12 _ rfl) (Fr.e hG_N_59 hk_12 _ rfl) (Fr.e hG_N_59 hk_12 _ rfl) (Fr.e hG_N_59 hk_12 _ rfl) (Fr.e hG_N_59 hk_12 _ rfl) hbe_N_59.1 hbe_N_59.2 (by unfold zcopy; rw [if_neg (by omega)]) (fun i h0 h1 => by unfold zcopy; rw [if_pos (by omega), show 85 * a2 + 100 + i - 85 * a2 + 85 * a1 = 100 + i by omega]) (by have h := hV.u; exact h.2.2.2.1)
        exact kx_zret F hQ (by omega) ⟨hI_N_76, hF_N_76, (by omega), hE_N_76, ⟨(zcopy q a1 a2), Or.inl ⟨by omega, by omega, rfl⟩, zSN.cg hS (funext (fun j => by rw [Fr.e hG_N_76 hk_1 _ rfl, Fr.e hG_N_73 hk_1 _ rfl, Fr.e hG_N_59 hk_1 _ rfl])) (by unfold zcopy; rw [if_neg (by omega)]) (by unfold zcopy; rw [if_neg (by omega)]) (by unfold zcopy; rw [if_neg (by omega)]) (by unfold zcopy; rw [if_neg (by omega)]), zSU.set (a := a2) (x := (M (M c0 5) 5)) hU (by omega) rfl (by omega) hZ hI_M hk_1 hE_N_76 (funext (fun j => by rw [Fr.e hG_N_76 hk_1 _ rfl, Fr.e hG_N_73 hk_1 _ rfl, Fr.e hG_N_59 hk_1 _ rfl])) (AT.fr (AT.fr hAn hI_N_59 hk_12 hG_N_73 rfl) hI_N_73 hk_12 hG_N_76 rfl) (by unfold zcopy; rw [if_neg (by omega)]) (by unfold zcopy; rw [if_neg (by omega)]) (fun i h1 h2 h3 => (by unfold zcopy; rw [if_neg (by omega)])) hV, (zTC.fr (htf_N_73 _) hI_N_73 hk_c0 hG_N_76 rfl)⟩⟩ dX11_copy_42
      · have hA_a1 := hU.2 (by omega)
        have hxz_a1 := (hZ.2.1 (M c0 5) hk_1).2.1
        refine kx_Vv 34 (ci := 0) F (As := [vR G (M (M c0 5) 5)]) (st := []) vd_X11_222 (e_X0_become G l M (M (M c0 5) 5) (M (M c0 5) 5) hI_M hk_58 hk_58) hk_58 rfl rfl rfl ⟨by decide, by decide⟩ rfl rfl (Nat.le_of_ble_eq_true rfl) dX11_copy_31 rfl ?_
        intro N_78 q_79
        obtain ⟨hI_N_78, hG_N_78, q_79c, hC_N_78, hbe_N_78⟩ := q_79
        have hF_N_78 : Fr f_e_copy7 M N_78 := Fr.c hF_M hG_N_78 rfl
        have hE_N_78 : Cf (zRG (M c0 5) a2) M N_78 := Cf.c hE_M hC_N_78 (fun y hy => by have a := SA.in hy hZ hk_58; have z := hZ.2.1 (M c0 5) hk_1; exact ⟨by omega, by omega, by omega, by omega⟩)
        have h_80 := Inv.g hI_M hk_58 rfl 0 (a := 0) (b := 3) rfl rfl
        have h_81 := Inv.g hI_N_78 hk_58 rfl 0 (a := 0) (b := 3) rfl rfl
        have h_82 := Inv.g hI_M hk_58 rfl 1 (a := 0) (b := 3) rfl rfl
        have h_83 := Inv.g hI_N_78 hk_58 rfl 1 (a := 0) (b := 3) rfl rfl
        have h_84 := Inv.g hI_M hk_58 rfl 2 (a := 0) (b := 7) rfl rfl
        have h_85 := Inv.g hI_N_78 hk_58 rfl 2 (a := 0) (b := 7) rfl rfl
        have h_86 := Inv.g hI_M hk_58 rfl 3 (a := 0) (b := 7) rfl rfl
        have h_87 := Inv.g hI_N_78 hk_58 rfl 3 (a := 0) (b := 7) rfl rfl
        have h_88 := Inv.g hI_M hk_58 rfl 4 (a := 0) (b := 20) rfl rfl
        have h_89 := Inv.g hI_N_78 hk_58 rfl 4 (a := 0) (b := 20) rfl rfl
        have h_90 := Inv.g hI_M hk_58 rfl 5 (a := 0) (b := 2) rfl rfl
        have h_91 := Inv.g hI_N_78 hk_58 rfl 5 (a := 0) (b := 2) rfl rfl
        refine kx_aload_n 35 F 0 dX11_copy_34 rfl rfl rfl ?_
        refine kx_Vv 38 (ci := 0) F (As := []) (st := []) vd_X11_139 (e_forget3 G l N_78 c0 hI_N_78 hk_c0) hk_c0 rfl rfl rfl ⟨by decide, by decide⟩ rfl rfl (Nat.le_of_ble_eq_true rfl) dX11_copy_35 rfl ?_
        intro N_92 q_93
        obtain ⟨hI_N_92, hG_N_92, hfg_N_92⟩ := q_93
        have hF_N_92 : Fr f_e_copy7 M N_92 := Fr.c hF_N_78 hG_N_92 rfl
        have hE_N_92 : Cf (zRG (M c0 5) a2) M N_92 := Cf.fr hE_N_78 hG_N_92 rfl
        have htf_N_92 : ∀ q, zTC N_92 c0 q := fun q => zTC.no (by rw [show N_92 c0 8 = N_78 c0 8 from Fr.e hG_N_92 hk_c0 8 rfl]; exact hfg_N_92.1) (by rw [show N_92 c0 9 = N_78 c0 9 from Fr.e hG_N_92 hk_c0 9 rfl]; exact hfg_N_92.2)
        refine kx_aload_n 39 F 0 dX11_copy_38 rfl rfl rfl ?_
        refine kx_Vi 42 (ci := 0) F (As := []) (st := []) vd_X11_98 (c_X11_agree G l N_92 c0 hI_N_92 hk_c0) hk_c0 rfl rfl rfl ⟨by decide, by decide⟩ rfl rfl (Nat.le_of_ble_eq_true rfl) dX11_copy_39 rfl ?_
        intro r_94 N_95 q_96
        obtain ⟨hI_N_95, hG_N_95, q_96c⟩ := q_96
        have hF_N_95 : Fr f_e_copy7 M N_95 := Fr.c hF_N_92 hG_N_95 rfl
        have hE_N_95 : Cf (zRG (M c0 5) a2) M N_95 := Cf.fr hE_N_92 hG_N_95 rfl
        subst q_96c
        have hAn : AT N_78 (M (M c0 5) 5) (zcopy q a1 a2) (85 * a2 + 100) := AT.bec (b := 185) hA_a1 (by omega) (by omega) (by omega) (by omega) (by omega) (by omega) (Fr.e hG_N_78 hk_58 _ rfl) (Fr.e hG_N_78 hk_58 _ rfl) (Fr.e hG_N_78 hk_58 _ rfl) (Fr.e hG_N_78 hk_58 _ rfl) (Fr.e hG_N_78 hk_58 _ rfl) (Fr.e hG_N_78 hk_58 _ rfl) hbe_N_78.1 hbe_N_78.2 (by unfold zcopy; rw [if_neg (by omega)]) (fun i h0 h1 => by unfold zcopy; rw [if_pos (by omega), show 85 * a2 + 100 + i - 85 * a2 + 85 * a1 = 185 + i by omega]) (by have h := hV.u; exact h.2.2.2.2.2)
        exact kx_zret F hQ (by omega) ⟨hI_N_95, hF_N_95, (by omega), hE_N_95, ⟨(zcopy q a1 a2), Or.inl ⟨by omega, by omega, rfl⟩, zSN.cg hS (funext (fun j => by rw [Fr.e hG_N_95 hk_1 _ rfl, Fr.e hG_N_92 hk_1 _ rfl, Fr.e hG_N_78 hk_1 _ rfl])) (by unfold zcopy; rw [if_neg (by omega)]) (by unfold zcopy; rw [if_neg (by omega)]) (by unfold zcopy; rw [if_neg (by omega)]) (by unfold zcopy; rw [if_neg (by omega)]), zSU.set (a := a2) (x := (M (M c0 5) 5)) hU (by omega) rfl (by omega) hZ hI_M hk_1 hE_N_95 (funext (fun j => by rw [Fr.e hG_N_95 hk_1 _ rfl, Fr.e hG_N_92 hk_1 _ rfl, Fr.e hG_N_78 hk_1 _ rfl])) (AT.fr (AT.fr hAn hI_N_78 hk_58 hG_N_92 rfl) hI_N_92 hk_58 hG_N_95 rfl) (by unfold zcopy; rw [if_neg (by omega)]) (by unfold zcopy; rw [if_neg (by omega)]) (fun i h1 h2 h3 => (by unfold zcopy; rw [if_neg (by omega)])) hV, (zTC.fr (htf_N_92 _) hI_N_92 hk_c0 hG_N_95 rfl)⟩⟩ dX11_copy_42
  · refine kx_if_ne 9 F 15 dX11_copy_6 (by decide) rfl (by omega) (fun h_97 => (by exfalso; omega)) (fun h_97 => ?_)
    refine kx_aload_n 10 F 0 dX11_copy_9 rfl rfl rfl ?_
    refine kx_iconst 11 F dX11_copy_10 rfl ?_
    refine kx_Vi 14 (ci := 0) F (As := [vI 1]) (st := []) vd_X11_91 (c_X11_deny G l M c0 1 hI_M hk_c0 (by omega)) hk_c0 rfl rfl rfl ⟨by decide, by decide⟩ rfl rfl (Nat.le_of_ble_eq_true rfl) dX11_copy_11 rfl ?_
    intro r_98 N_99 q_100
    obtain ⟨hI_N_99, hG_N_99, q_100c⟩ := q_100
    have hF_N_99 : Fr f_e_copy7 M N_99 := Fr.c hF_M hG_N_99 rfl
    have hE_N_99 : Cf (zRG (M c0 5) a2) M N_99 := Cf.fr hE_M hG_N_99 rfl
    subst q_100c
    exact kx_zret F hQ (by omega) ⟨hI_N_99, hF_N_99, (by omega), hE_N_99, ⟨q, Or.inr ⟨fun h => by omega, by omega, rfl⟩, (zSN.fr hS hk_1 hG_N_99 rfl), (zSU.fr hU hI_M hk_1 hG_N_99 rfl), (zTC.fr hK hI_M hk_c0 hG_N_99 rfl)⟩⟩ dX11_copy_14
  · refine kx_if_ne 9 F 15 dX11_copy_6 (by decide) rfl (by omega) (fun h_101 => (by exfalso; omega)) (fun h_101 => ?_)
    refine kx_aload_n 10 F 0 dX11_copy_9 rfl rfl rfl ?_
    refine kx_iconst 11 F dX11_copy_10 rfl ?_
    refine kx_Vi 14 (ci := 0) F (As := [vI 1]) (st := []) vd_X11_91 (c_X11_deny G l M c0 1 hI_M hk_c0 (by omega)) hk_c0 rfl rfl rfl ⟨by decide, by decide⟩ rfl rfl (Nat.le_of_ble_eq_true rfl) dX11_copy_11 rfl ?_
    intro r_102 N_103 q_104
    obtain ⟨hI_N_103, hG_N_103, q_104c⟩ := q_104
    have hF_N_103 : Fr f_e_copy7 M N_103 := Fr.c hF_M hG_N_103 rfl
    have hE_N_103 : Cf (zRG (M c0 5) a2) M N_103 := Cf.fr hE_M hG_N_103 rfl
    subst q_104c
    exact kx_zret F hQ (by omega) ⟨hI_N_103, hF_N_103, (by omega), hE_N_103, ⟨q, Or.inr ⟨fun h => by omega, by omega, rfl⟩, (zSN.fr hS hk_1 hG_N_103 rfl), (zSU.fr hU hI_M hk_1 hG_N_103 rfl), (zTC.fr hK hI_M hk_c0 hG_N_103 rfl)⟩⟩ dX11_copy_14
  · refine kx_if_ne 9 F 15 dX11_copy_6 (by decide) rfl (by omega) (fun h_105 => (by exfalso; omega)) (fun h_105 => ?_)
    refine kx_aload_n 10 F 0 dX11_copy_9 rfl rfl rfl ?_
    refine kx_iconst 11 F dX11_copy_10 rfl ?_
    refine kx_Vi 14 (ci := 0) F (As := [vI 1]) (st := []) vd_X11_91 (c_X11_deny G l M c0 1 hI_M hk_c0 (by omega)) hk_c0 rfl rfl rfl ⟨by decide, by decide⟩ rfl rfl (Nat.le_of_ble_eq_true rfl) dX11_copy_11 rfl ?_
    intro r_106 N_107 q_108
    obtain ⟨hI_N_107, hG_N_107, q_108c⟩ := q_108
    have hF_N_107 : Fr f_e_copy7 M N_107 := Fr.c hF_M hG_N_107 rfl
    have hE_N_107 : Cf (zRG (M c0 5) a2) M N_107 := Cf.fr hE_M hG_N_107 rfl
    subst q_108c
    exact kx_zret F hQ (by omega) ⟨hI_N_107, hF_N_107, (by omega), hE_N_107, ⟨q, Or.inr ⟨fun h => by omega, by omega, rfl⟩, (zSN.fr hS hk_1 hG_N_107 rfl), (zSU.fr hU hI_M hk_1 hG_N_107 rfl), (zTC.fr hK hI_M hk_c0 hG_N_107 rfl)⟩⟩ dX11_copy_14
  · refine kx_if_ne 9 F 15 dX11_copy_6 (by decide) rfl (by omega) (fun h_109 => (by exfalso; omega)) (fun h_109 => ?_)
    refine kx_aload_n 10 F 0 dX11_copy_9 rfl rfl rfl ?_
    refine kx_iconst 11 F dX11_copy_10 rfl ?_
    refine kx_Vi 14 (ci := 0) F (As := [vI 1]) (st := []) vd_X11_91 (c_X11_deny G l M c0 1 hI_M hk_c0 (by omega)) hk_c0 rfl rfl rfl ⟨by decide, by decide⟩ rfl rfl (Nat.le_of_ble_eq_true rfl) dX11_copy_11 rfl ?_
    intro r_110 N_111 q_112
    obtain ⟨hI_N_111, hG_N_111, q_112c⟩ := q_112
    have hF_N_111 : Fr f_e_copy7 M N_111 := Fr.c hF_M hG_N_111 rfl
    have hE_N_111 : Cf (zRG (M c0 5) a2) M N_111 := Cf.fr hE_M hG_N_111 rfl
    subst q_112c
    exact kx_zret F hQ (by omega) ⟨hI_N_111, hF_N_111, (by omega), hE_N_111, ⟨q, Or.inr ⟨fun h => by omega, by omega, rfl⟩, (zSN.fr hS hk_1 hG_N_111 rfl), (zSU.fr hU hI_M hk_1 hG_N_111 rfl), (zTC.fr hK hI_M hk_c0 hG_N_111 rfl)⟩⟩ dX11_copy_14
  · refine kx_if_ne 9 F 15 dX11_copy_6 (by decide) rfl (by omega) (fun h_113 => (by exfalso; omega)) (fun h_113 => ?_)
    refine kx_aload_n 10 F 0 dX11_copy_9 rfl rfl rfl ?_
    refine kx_iconst 11 F dX11_copy_10 rfl ?_
    refine kx_Vi 14 (ci := 0) F (As := [vI 1]) (st := []) vd_X11_91 (c_X11_deny G l M c0 1 hI_M hk_c0 (by omega)) hk_c0 rfl rfl rfl ⟨by decide, by decide⟩ rfl rfl (Nat.le_of_ble_eq_true rfl) dX11_copy_11 rfl ?_
    intro r_114 N_115 q_116
    obtain ⟨hI_N_115, hG_N_115, q_116c⟩ := q_116
    have hF_N_115 : Fr f_e_copy7 M N_115 := Fr.c hF_M hG_N_115 rfl
    have hE_N_115 : Cf (zRG (M c0 5) a2) M N_115 := Cf.fr hE_M hG_N_115 rfl
    subst q_116c
    exact kx_zret F hQ (by omega) ⟨hI_N_115, hF_N_115, (by omega), hE_N_115, ⟨q, Or.inr ⟨fun h => by omega, by omega, rfl⟩, (zSN.fr hS hk_1 hG_N_115 rfl), (zSU.fr hU hI_M hk_1 hG_N_115 rfl), (zTC.fr hK hI_M hk_c0 hG_N_115 rfl)⟩⟩ dX11_copy_14
abbrev f_e_undo7 : List (Nat × Int) := [(21, 0), (41, 2), (62, 0), (62, 5), (62, 7), (63, -1)]
set_option maxHeartbeats 4000000 in
set_option maxRecDepth 100000 in
theorem e_undo7 (G : KG) (l : Launch) (M : Mem) (c0 : Int) (hI_M : Inv false M) (hk_c0 : kd c0 = 62) : KC false G l yX11_undo cX11_undo 2 (some .int) (2, 40) [vR G c0] M (fun A => kQi false G A (fun (r : Int) (N : Mem) => Inv false N ∧ Fr f_e_undo7 M N ∧ (((M c0 7) = 0 ∧ r = -1 ∧ (N c0 7) = 0) ∨ ((M c0 7) ≥ 1 ∧ (N c0 7) = (M c0 7) - 1 ∧ r = (M c0 7) - 1)) ∧ (((1 ≤ M c0 7 → N c0 5 = M (M c0 6) (M c0 7 - 1) ∧ ∀ i, N (M c0 6) i = if i = M c0 7 - 1 then M c0 5 else M (M c0 6) i) ∧ (M c0 7 ≤ 0 → N c0 5 = M c0 5 ∧ N (M c0 6) = M (M c0 6))) ∧ (1 ≤ M c0 7 → ∀ q, zTC N c0 q) ∧ (M c0 7 ≤ 0 → ∀ q, zTC M c0 q → zTC N c0 q)))) := by
  refine kx_met (lo := [some (vR G c0), none]) (by decide) (Nat.le_of_ble_eq_true rfl) rfl ?_
  intro X F hQ
  have hF_M : Fr f_e_undo7 M M := Fr.rf _ _
  have hk_1 : kd (M c0 5) = 12 := Inv.r hI_M hk_c0 rfl 5 rfl rfl
  have hk_2 : kd (M c0 6) = 63 := Inv.r hI_M hk_c0 rfl 6 rfl rfl
  refine kx_aload_n 1 F 0 dX11_undo_0 rfl rfl rfl ?_
  refine kx_geti 4 F fl_X11_385 hk_c0 rfl rfl (j := 7) rfl dX11_undo_1 (v := (M c0 7)) rfl rfl ?_
  have h_3 := Inv.g hI_M hk_c0 rfl 7 (a := 0) (b := 3) rfl rfl
  refine kx_if_gt 7 F 14 dX11_undo_4 (by decide) rfl (by omega) (fun h_4 => ?_) (fun h_4 => ?_)
  · refine kx_aload_n 15 F 0 dX11_undo_14 rfl rfl rfl ?_
    refine kx_dup 16 F dX11_undo_15 rfl rfl ?_
    refine kx_geti 19 F fl_X11_385 hk_c0 rfl rfl (j := 7) rfl dX11_undo_16 (v := (M c0 7)) rfl rfl ?_
    refine kx_iconst 20 F dX11_undo_19 rfl ?_
    refine kx_isub 21 F (v := (M c0 7) - 1) dX11_undo_20 rfl rfl ?_
    refine kx_puti 24 F fw_X11_385 rfl hk_c0 rfl rfl (j := 7) rfl dX11_undo_21 rfl ?_
    intro N_5 hM_N_5
    have hI_N_5 : Inv false N_5 := Inv.u hI_M hM_N_5 hk_c0 (a := 0) (b := 3) rfl rfl rfl (by omega)
    have hF_N_5 : Fr f_e_undo7 M N_5 := Fr.u hF_M hM_N_5 hk_c0 rfl
    refine kx_aload_n 25 F 0 dX11_undo_24 rfl rfl rfl ?_
    refine kx_getr 28 F fl_X11_26 hk_c0 rfl rfl (j := 5) rfl dX11_undo_25 (v := (M c0 5)) (by rw [hM_N_5, mu_i (by omega)]) rfl ?_
    refine kx_astore_n 29 F 1 (lo' := [some (vR G c0), some (vR G (M c0 5))]) dX11_undo_28 rfl (by decide) rfl rfl rfl ?_
    refine kx_aload_n 30 F 0 dX11_undo_29 rfl rfl rfl ?_
    refine kx_aload_n 31 F 0 dX11_undo_30 rfl rfl rfl ?_
    refine kx_getr 34 F fl_X11_30 hk_c0 rfl rfl (j := 6) rfl dX11_undo_31 (v := (M c0 6)) (by rw [hM_N_5, mu_i (by omega)]) rfl ?_
    refine kx_aload_n 35 F 0 dX11_undo_34 rfl rfl rfl ?_
    refine kx_geti 38 F fl_X11_385 hk_c0 rfl rfl (j := 7) rfl dX11_undo_35 (v := (M c0 7) - 1) (by rw [hM_N_5, mu_s]) rfl ?_
    refine kx_aald 39 F hk_2 rfl rfl (by omega) (by decide) dX11_undo_38 (v := (M (M c0 6) ((M c0 7) - 1))) (by rw [hM_N_5, mu_k hk_2 hk_c0 rfl]) rfl ?_
    have hk_6 : kd (M (M c0 6) ((M c0 7) - 1)) = 12 := Inv.r hI_M hk_2 rfl ((M c0 7) - 1) rfl rfl
    refine kx_putr 42 F fw_X11_26 (Or.inl ⟨_, rfl⟩) hk_c0 rfl rfl (j := 5) rfl dX11_undo_39 rfl ?_
    intro N_7 hM_N_7
    have hI_N_7 : Inv false N_7 := Inv.ur hI_N_5 hM_N_7 hk_c0 rfl rfl rfl hk_6 rfl rfl rfl
    have hF_N_7 : Fr f_e_undo7 M N_7 := Fr.u hF_N_5 hM_N_7 hk_c0 rfl
    refine kx_aload_n 43 F 0 dX11_undo_42 rfl rfl rfl ?_
    refine kx_getr 46 F fl_X11_30 hk_c0 rfl rfl (j := 6) rfl dX11_undo_43 (v := (M c0 6)) (by rw [hM_N_7, mu_i (by omega), hM_N_5, mu_i (by omega)]) rfl ?_
    refine kx_aload_n 47 F 0 dX11_undo_46 rfl rfl rfl ?_
    refine kx_geti 50 F fl_X11_385 hk_c0 rfl rfl (j := 7) rfl dX11_undo_47 (v := (M c0 7) - 1) (by rw [hM_N_7, mu_i (by omega), hM_N_5, mu_s]) rfl ?_
    refine kx_aload_n 51 F 1 dX11_undo_50 rfl rfl rfl ?_
    refine kx_aast 52 F hk_1 rfl rfl rfl hk_2 rfl rfl (by omega) (by decide) dX11_undo_51 rfl ?_
    intro N_8 hM_N_8
    have hI_N_8 : Inv false N_8 := Inv.ur hI_N_7 hM_N_8 hk_2 rfl rfl rfl hk_1 rfl rfl rfl
    have hF_N_8 : Fr f_e_undo7 M N_8 := Fr.u hF_N_7 hM_N_8 hk_2 rfl
    refine kx_aload_n 53 F 0 dX11_undo_52 rfl rfl rfl ?_
    refine kx_Vv 56 (ci := 0) F (As := []) (st := []) vd_X11_139 (e_forget3 G l N_8 c0 hI_N_8 hk_c0) hk_c0 rfl rfl rfl ⟨by decide, by decide⟩ rfl rfl (Nat.le_of_ble_eq_true rfl) dX11_undo_53 rfl ?_
    intro N_9 q_10
    obtain ⟨hI_N_9, hG_N_9, hfg_N_9⟩ := q_10
    have hF_N_9 : Fr f_e_undo7 M N_9 := Fr.c hF_N_8 hG_N_9 rfl
    have htf_N_9 : ∀ q, zTC N_9 c0 q := fun q => zTC.no (by rw [show N_9 c0 8 = N_8 c0 8 from Fr.e hG_N_9 hk_c0 8 rfl]; exact hfg_N_9.1) (by rw [show N_9 c0 9 = N_8 c0 9 from Fr.e hG_N_9 hk_c0 9 rfl]; exact hfg_N_9.2)
    refine kx_aload_n 57 F 0 dX11_undo_56 rfl rfl rfl ?_
    refine kx_aload_n 58 F 0 dX11_undo_57 rfl rfl rfl ?_
    refine kx_geti 61 F fl_X11_385 hk_c0 rfl rfl (j := 7) rfl dX11_undo_58 (v := (M c0 7) - 1) (by rw [Fr.e hG_N_9 hk_c0 _ rfl, hM_N_8, mu_k hk_c0 hk_2 rfl, hM_N_7, mu_i (by omega), hM_N_5, mu_s]) rfl ?_
    refine kx_Vi 64 (ci := 0) F (As := [vI ((M c0 7) - 1)]) (st := []) vd_X11_145 (c_X11_answer G l N_9 c0 ((M c0 7) - 1) hI_N_9 hk_c0 (by omega)) hk_c0 rfl rfl rfl ⟨by decide, by decide⟩ rfl rfl (Nat.le_of_ble_eq_true rfl) dX11_undo_61 rfl ?_
    intro r_11 N_12 q_13
    obtain ⟨hI_N_12, hG_N_12, q_13c⟩ := q_13
    have hF_N_12 : Fr f_e_undo7 M N_12 := Fr.c hF_N_9 hG_N_12 rfl
    have e_14 : (N_12 c0 7) = (M c0 7) - 1 := by rw [Fr.e hG_N_12 hk_c0 _ rfl, Fr.e hG_N_9 hk_c0 _ rfl, hM_N_8, mu_k hk_c0 hk_2 rfl, hM_N_7, mu_i (by omega), hM_N_5, mu_s]
    exact kx_iret F hQ ⟨hI_N_12, hF_N_12, (by omega), ⟨⟨fun _ => ⟨(by rw [Fr.e hG_N_12 hk_c0 _ rfl, Fr.e hG_N_9 hk_c0 _ rfl, hM_N_8, mu_k hk_c0 hk_2 rfl, hM_N_7, mu_s]), fun i => by rw [Fr.e hG_N_12 hk_2 _ rfl, Fr.e hG_N_9 hk_2 _ rfl, hM_N_8, mu_at]; by_cases e : i = M c0 7 - 1; rw [if_pos e, if_pos e]; rw [if_neg e, if_neg e, hM_N_7, mu_k hk_2 hk_c0 rfl, hM_N_5, mu_k hk_2 hk_c0 rfl]⟩, fun h => by exfalso; omega⟩, fun _ q => (zTC.fr (htf_N_9 _) hI_N_9 hk_c0 hG_N_12 rfl), fun h => by exfalso; omega⟩⟩ dX11_undo_64
  · refine kx_aload_n 8 F 0 dX11_undo_7 rfl rfl rfl ?_
    refine kx_bipush 10 F dX11_undo_8 (by decide) rfl ?_
    refine kx_Vi 13 (ci := 0) F (As := [vI 6]) (st := []) vd_X11_110 (c_X11_refuse G l M c0 6 hI_M hk_c0 (by omega)) hk_c0 rfl rfl rfl ⟨by decide, by decide⟩ rfl rfl (Nat.le_of_ble_eq_true rfl) dX11_undo_10 rfl ?_
    intro r_16 N_17 q_18
    obtain ⟨hI_N_17, hG_N_17, q_18c⟩ := q_18
    have hF_N_17 : Fr f_e_undo7 M N_17 := Fr.c hF_M hG_N_17 rfl
    subst q_18c
    have e_19 : (N_17 c0 7) = (M c0 7) := by rw [Fr.e hG_N_17 hk_c0 _ rfl]
    exact kx_iret F hQ ⟨hI_N_17, hF_N_17, (by omega), ⟨⟨fun h => by exfalso; omega, fun _ => ⟨(by rw [Fr.e hG_N_17 hk_c0 _ rfl]), (funext (fun i => by rw [Fr.e hG_N_17 hk_2 _ rfl]))⟩⟩, fun h => by exfalso; omega, fun _ q hK => (zTC.fr hK hI_M hk_c0 hG_N_17 rfl)⟩⟩ dX11_undo_13
abbrev f_e_checker7c : List (Nat × Int) := [(1, 0), (1, 1), (1, 2), (1, 3), (1, 4), (1, 5), (2, -1), (3, -1), (4, -1), (5, -1), (6, -1), (7, -1), (8, 0), (12, 0), (12, 1), (12, 2), (12, 3), (17, 0), (17, 1), (17, 2), (17, 3), (17, 5), (17, 6), (17, 7), (17, 8), (17, 9), (19, -1), (20, -1), (21, 0), (41, 2), (62, 0), (62, 5)]
set_option maxHeartbeats 4000000 in
set_option maxRecDepth 100000 in
theorem e_checker7c (G : KG) (l : Launch) (M : Mem) (c0 : Int) (a1 : Int) (hI_M : Inv false M) (hk_c0 : kd c0 = 62) (hpre : -2147483648 ≤ a1 ∧ a1 ≤ 2147483647) (hX_M : XX M) (Bt : Int → Int) (hT : zTB M (M (M c0 4) 4) a1 Bt) (hZ : FZ M) : KC false G l yX11_checker cX11_checker 3 (some .int) (10, 218) [vR G c0, vI a1] M (fun A => kQi false G A (fun (r : Int) (N : Mem) => Inv false N ∧ Fr f_e_checker7c M N ∧ ((a1 < 0 ∧ r = -1 ∧ (N (M c0 4) 2) = (M (M c0 4) 2) ∧ (N (M c0 4) 3) = (M (M c0 4) 3) ∧ (N (M c0 4) 1) = (M (M c0 4) 1)) ∨ (a1 > (M (M c0 4) 1) ∧ r = -1 ∧ (N (M c0 4) 2) = (M (M c0 4) 2) ∧ (N (M c0 4) 3) = (M (M c0 4) 3) ∧ (N (M c0 4) 1) = (M (M c0 4) 1)) ∨ (a1 ≥ 0 ∧ a1 ≤ (M (M c0 4) 1) ∧ (N (M c0 4) 1) = 0 ∧ (N (M (M (M c0 4) 0) 6) 0) = -1)) ∧ XX N ∧ Cf (fun x => M (M c0 4) 0 ≤ x ∧ x < M (M c0 4) 0 + 19) M N ∧ (((0 ≤ a1 → a1 ≤ M (M c0 4) 1 → ∃ q t, zOUT Bt (N (M c0 4) 2) (N (M c0 4) 3) q t ∧ ((N (M c0 4) 2 = 0 ∧ r = q 3 ∧ N c0 5 = M (M c0 4) 0 ∧ N (M c0 4) 0 = M c0 5 ∧ zSN N (M (M c0 4) 0) q ∧ zSU N (M (M c0 4) 0) q) ∨ (¬ N (M c0 4) 2 = 0 ∧ r = -1 ∧ N c0 5 = M c0 5 ∧ N (M c0 4) 0 = M (M c0 4) 0))) ∧ (¬ (0 ≤ a1 ∧ a1 ≤ M (M c0 4) 1) → N c0 5 = M c0 5 ∧ N (M c0 4) 0 = M (M c0 4) 0)) ∧ (0 ≤ r → ∀ q, zTC N c0 q) ∧ (r < 0 → ∀ q, zTC M c0 q → zTC N c0 q)))) := by
  refine kx_met (lo := [some (vR G c0), some (vI a1), none]) (by decide) (Nat.le_of_ble_eq_true rfl) rfl ?_
  intro X F hQ
  have hF_M : Fr f_e_checker7c M M := Fr.rf _ _
  have hE_M : Cf (fun x => M (M c0 4) 0 ≤ x ∧ x < M (M c0 4) 0 + 19) M M := Cf.rf _ _
  have hk_Mc04 : kd (M c0 4) = 17 := Inv.r hI_M hk_c0 rfl 4 rfl rfl
  have h_1 := Inv.g hI_M hk_Mc04 rfl 1 (a := 0) (b := 900) rfl rfl
  have hk_MMc040 : kd (M (M c0 4) 0) = 12 := Inv.r hI_M hk_Mc04 rfl 0 rfl rfl
  have hk_MMMc0406 : kd (M (M (M c0 4) 0) 6) = 8 := Inv.r hI_M hk_MMc040 rfl 6 rfl rfl
  refine kx_iload_n 1 F 1 dX11_checker_0 rfl rfl rfl ?_
  refine kx_if_lt 4 F 15 dX11_checker_1 (by decide) rfl (by omega) (fun h_2 => ?_) (fun h_2 => ?_)
  · refine kx_aload_n 16 F 0 dX11_checker_15 rfl rfl rfl ?_
    refine kx_iconst 17 F dX11_checker_16 rfl ?_
    refine kx_Vi 20 (ci := 0) F (As := [vI 1]) (st := []) vd_X11_110 (c_X11_refuse G l M c0 1 hI_M hk_c0 (by omega)) hk_c0 rfl rfl rfl ⟨by decide, by decide⟩ rfl rfl (Nat.le_of_ble_eq_true rfl) dX11_checker_17 rfl ?_
    intro r_3 N_4 q_5
    obtain ⟨hI_N_4, hG_N_4, q_5c⟩ := q_5
    have hF_N_4 : Fr f_e_checker7c M N_4 := Fr.c hF_M hG_N_4 rfl
    have hE_N_4 : Cf (fun x => M (M c0 4) 0 ≤ x ∧ x < M (M c0 4) 0 + 19) M N_4 := Cf.fr hE_M hG_N_4 rfl
    have hX_N_4 : XX N_4 := XX.fr hX_M hI_M hG_N_4 rfl
    subst q_5c
    have e_6 : (N_4 (M c0 4) 2) = (M (M c0 4) 2) := by rw [Fr.e hG_N_4 hk_Mc04 _ rfl]
    have h_7 := Inv.g hI_M hk_Mc04 rfl 2 (a := (-2147483648)) (b := 2147483647) rfl rfl
    have e_8 : (N_4 (M c0 4) 3) = (M (M c0 4) 3) := by rw [Fr.e hG_N_4 hk_Mc04 _ rfl]
    have h_9 := Inv.g hI_M hk_Mc04 rfl 3 (a := (-2147483648)) (b := 2147483647) rfl rfl
    have e_10 : (N_4 (M c0 4) 1) = (M (M c0 4) 1) := by rw [Fr.e hG_N_4 hk_Mc04 _ rfl]
    have e_15 : (N_4 (M (M (M c0 4) 0) 6) 0) = (M (M (M (M c0 4) 0) 6) 0) := by rw [Fr.e hG_N_4 hk_MMMc0406 _ rfl]
    have h_16 := Inv.g hI_M hk_MMMc0406 rfl 0 (a := (-1)) (b := 1) rfl rfl
    exact kx_iret F hQ ⟨hI_N_4, hF_N_4, (Or.inl (by omega)), hX_N_4, hE_N_4, ⟨⟨fun h1 h2 => by exfalso; omega, fun _ => ⟨(by rw [Fr.e hG_N_4 hk_c0 _ rfl]), (by rw [Fr.e hG_N_4 hk_Mc04 _ rfl])⟩⟩, fun h => by exfalso; omega, fun _ q hK => (zTC.fr hK hI_M hk_c0 hG_N_4 rfl)⟩⟩ dX11_checker_20
  · refine kx_iload_n 5 F 1 dX11_checker_4 rfl rfl rfl ?_
    refine kx_aload_n 6 F 0 dX11_checker_5 rfl rfl rfl ?_
    refine kx_getr 9 F fl_X11_19 hk_c0 rfl rfl (j := 4) rfl dX11_checker_6 (v := (M c0 4)) rfl rfl ?_
    refine kx_geti 12 F fl_X11_126 hk_Mc04 rfl rfl (j := 1) rfl dX11_checker_9 (v := (M (M c0 4) 1)) rfl rfl ?_
    refine kx_icmp_le 15 F 21 dX11_checker_12 (by decide) rfl (by omega) (by omega) (fun h_17 => ?_) (fun h_17 => ?_)
    · refine kx_aload_n 22 F 0 dX11_checker_21 rfl rfl rfl ?_
      refine kx_getr 25 F fl_X11_19 hk_c0 rfl rfl (j := 4) rfl dX11_checker_22 (v := (M c0 4)) rfl rfl ?_
      refine kx_iload_n 26 F 1 dX11_checker_25 rfl rfl rfl ?_
      refine kx_Vi 29 (ci := 0) F (As := [vI a1]) (st := []) vd_X11_133 (e_take5 G l M (M c0 4) a1 hI_M hk_Mc04 (by omega) hX_M Bt hT hZ) hk_Mc04 rfl rfl rfl ⟨by decide, by decide⟩ rfl rfl (Nat.le_of_ble_eq_true rfl) dX11_checker_26 rfl ?_
      intro r_18 N_19 q_20
      obtain ⟨hI_N_19, hG_N_19, q_20c, hX_N_19, hC_N_19, hw_N_19⟩ := q_20
      have hF_N_19 : Fr f_e_checker7c M N_19 := Fr.c hF_M hG_N_19 rfl
      have hE_N_19 : Cf (fun x => M (M c0 4) 0 ≤ x ∧ x < M (M c0 4) 0 + 19) M N_19 := Cf.c hE_M hC_N_19 (fun _ hx => hx)
      have h_21 := Inv.g hI_N_19 hk_Mc04 rfl 1 (a := 0) (b := 900) rfl rfl
      have h_22 := Inv.g hI_N_19 hk_MMMc0406 rfl 0 (a := (-1)) (b := 1) rfl rfl
      refine kx_if_ne 32 F 39 dX11_checker_29 (by decide) rfl (by omega) (fun h_23 => ?_) (fun h_23 => ?_)
      · refine kx_aload_n 40 F 0 dX11_checker_39 rfl rfl rfl ?_
        refine kx_getr 43 F fl_X11_26 hk_c0 rfl rfl (j := 5) rfl dX11_checker_40 (v := (M c0 5)) (by rw [Fr.e hG_N_19 hk_c0 _ rfl]) rfl ?_
        have hk_24 : kd (M c0 5) = 12 := Inv.r hI_M hk_c0 rfl 5 rfl rfl
        refine kx_astore_n 44 F 2 (lo' := [some (vR G c0), some (vI a1), some (vR G (M c0 5))]) dX11_checker_43 rfl (by decide) rfl rfl rfl ?_
        refine kx_aload_n 45 F 0 dX11_checker_44 rfl rfl rfl ?_
        refine kx_aload_n 46 F 0 dX11_checker_45 rfl rfl rfl ?_
        refine kx_getr 49 F fl_X11_19 hk_c0 rfl rfl (j := 4) rfl dX11_checker_46 (v := (M c0 4)) (by rw [Fr.e hG_N_19 hk_c0 _ rfl]) rfl ?_
        refine kx_getr 52 F fl_X11_136 hk_Mc04 rfl rfl (j := 0) rfl dX11_checker_49 (v := (M (M c0 4) 0)) (by rw [Fr.e hG_N_19 hk_Mc04 _ rfl]) rfl ?_
        refine kx_putr 55 F fw_X11_26 (Or.inl ⟨_, rfl⟩) hk_c0 rfl rfl (j := 5) rfl dX11_checker_52 rfl ?_
        intro N_25 hM_N_25
        have hI_N_25 : Inv false N_25 := Inv.ur hI_N_19 hM_N_25 hk_c0 rfl rfl rfl hk_MMc040 rfl rfl rfl
        have hF_N_25 : Fr f_e_checker7c M N_25 := Fr.u hF_N_19 hM_N_25 hk_c0 rfl
        have hX_N_25 : XX N_25 := XX.st hX_N_19 hI_N_19 hM_N_25 hk_c0 rfl
        have hE_N_25 : Cf (fun x => M (M c0 4) 0 ≤ x ∧ x < M (M c0 4) 0 + 19) M N_25 := Cf.sk hE_N_19 hM_N_25 hk_c0 rfl
        refine kx_aload_n 56 F 0 dX11_checker_55 rfl rfl rfl ?_
        refine kx_getr 59 F fl_X11_19 hk_c0 rfl rfl (j := 4) rfl dX11_checker_56 (v := (M c0 4)) (by rw [hM_N_25, mu_i (by omega), Fr.e hG_N_19 hk_c0 _ rfl]) rfl ?_
        refine kx_aload_n 60 F 2 dX11_checker_59 rfl rfl rfl ?_
        refine kx_putr 63 F fw_X11_136 (Or.inl ⟨_, rfl⟩) hk_Mc04 rfl rfl (j := 0) rfl dX11_checker_60 rfl ?_
        intro N_26 hM_N_26
        have hI_N_26 : Inv false N_26 := Inv.ur hI_N_25 hM_N_26 hk_Mc04 rfl rfl rfl hk_24 rfl rfl rfl
        have hF_N_26 : Fr f_e_checker7c M N_26 := Fr.u hF_N_25 hM_N_26 hk_Mc04 rfl
        have hX_N_26 : XX N_26 := XX.st hX_N_25 hI_N_25 hM_N_26 hk_Mc04 rfl
        have hE_N_26 : Cf (fun x => M (M c0 4) 0 ≤ x ∧ x < M (M c0 4) 0 + 19) M N_26 := Cf.sk hE_N_25 hM_N_26 hk_Mc04 rfl
        refine kx_aload_n 64 F 0 dX11_checker_63 rfl rfl rfl ?_
        refine kx_Vv 67 (ci := 0) F (As := []) (st := []) vd_X11_139 (e_forget3 G l N_26 c0 hI_N_26 hk_c0) hk_c0 rfl rfl rfl ⟨by decide, by decide⟩ rfl rfl (Nat.le_of_ble_eq_true rfl) dX11_checker_64 rfl ?_
        intro N_27 q_28
        obtain ⟨hI_N_27, hG_N_27, hfg_N_27⟩ := q_28
        have hF_N_27 : Fr f_e_checker7c M N_27 := Fr.c hF_N_26 hG_N_27 rfl
        have hE_N_27 : Cf (fun x => M (M c0 4) 0 ≤ x ∧ x < M (M c0 4) 0 + 19) M N_27 := Cf.fr hE_N_26 hG_N_27 rfl
        have hX_N_27 : XX N_27 := XX.fr hX_N_26 hI_N_26 hG_N_27 rfl
        have htf_N_27 : ∀ q, zTC N_27 c0 q := fun q => zTC.no (by rw [show N_27 c0 8 = N_26 c0 8 from Fr.e hG_N_27 hk_c0 8 rfl]; exact hfg_N_27.1) (by rw [show N_27 c0 9 = N_26 c0 9 from Fr.e hG_N_27 hk_c0 9 rfl]; exact hfg_N_27.2)
        refine kx_aload_n 68 F 0 dX11_checker_67 rfl rfl rfl ?_
        refine kx_aload_n 69 F 0 dX11_checker_68 rfl rfl rfl ?_
        refine kx_getr 72 F fl_X11_26 hk_c0 rfl rfl (j := 5) rfl dX11_checker_69 (v := (M (M c0 4) 0)) (by rw [Fr.e hG_N_27 hk_c0 _ rfl, hM_N_26, mu_k hk_c0 hk_Mc04 rfl, hM_N_25, mu_s]) rfl ?_
        refine kx_geti 75 F fl_X11_142 hk_MMc040 rfl rfl (j := 3) rfl dX11_checker_72 (v := (N_19 (M (M c0 4) 0) 3)) (by rw [Fr.e hG_N_27 hk_MMc040 _ rfl, hM_N_26, mu_k hk_MMc040 hk_Mc04 rfl, hM_N_25, mu_k hk_MMc040 hk_c0 rfl]) rfl ?_
        have h_29 := Inv.g hI_N_19 hk_MMc040 rfl 3 (a := 0) (b := 2) rfl rfl
        refine kx_Vi 78 (ci := 0) F (As := [vI (N_19 (M (M c0 4) 0) 3)]) (st := []) vd_X11_145 (c_X11_answer G l N_27 c0 (N_19 (M (M c0 4) 0) 3) hI_N_27 hk_c0 (by omega)) hk_c0 rfl rfl rfl ⟨by decide, by decide⟩ rfl rfl (Nat.le_of_ble_eq_true rfl) dX11_checker_75 rfl ?_
        intro r_30 N_31 q_32
        obtain ⟨hI_N_31, hG_N_31, q_32c⟩ := q_32
        have hF_N_31 : Fr f_e_checker7c M N_31 := Fr.c hF_N_27 hG_N_31 rfl
        have hE_N_31 : Cf (fun x => M (M c0 4) 0 ≤ x ∧ x < M (M c0 4) 0 + 19) M N_31 := Cf.fr hE_N_27 hG_N_31 rfl
        have hX_N_31 : XX N_31 := XX.fr hX_N_27 hI_N_27 hG_N_31 rfl
        have e_33 : (N_31 (M c0 4) 2) = (N_19 (M c0 4) 2) := by rw [Fr.e hG_N_31 hk_Mc04 _ rfl, Fr.e hG_N_27 hk_Mc04 _ rfl, hM_N_26, mu_i (by omega), hM_N_25, mu_k hk_Mc04 hk_c0 rfl]
        have h_34 := Inv.g hI_N_19 hk_Mc04 rfl 2 (a := (-2147483648)) (b := 2147483647) rfl rfl
        have e_35 : (N_31 (M c0 4) 3) = (N_19 (M c0 4) 3) := by rw [Fr.e hG_N_31 hk_Mc04 _ rfl, Fr.e hG_N_27 hk_Mc04 _ rfl, hM_N_26, mu_i (by omega), hM_N_25, mu_k hk_Mc04 hk_c0 rfl]
        have h_36 := Inv.g hI_N_19 hk_Mc04 rfl 3 (a := (-2147483648)) (b := 2147483647) rfl rfl
        have e_37 : (N_31 (M c0 4) 1) = (N_19 (M c0 4) 1) := by rw [Fr.e hG_N_31 hk_Mc04 _ rfl, Fr.e hG_N_27 hk_Mc04 _ rfl, hM_N_26, mu_i (by omega), hM_N_25, mu_k hk_Mc04 hk_c0 rfl]
        have e_42 : (N_31 (M (M (M c0 4) 0) 6) 0) = (N_19 (M (M (M c0 4) 0) 6) 0) := by rw [Fr.e hG_N_31 hk_MMMc0406 _ rfl, Fr.e hG_N_27 hk_MMMc0406 _ rfl, hM_N_26, mu_k hk_MMMc0406 hk_Mc04 rfl, hM_N_25, mu_k hk_MMMc0406 hk_c0 rfl]
        exact kx_iret F hQ ⟨hI_N_31, hF_N_31, (Or.inr (Or.inr (by omega))), hX_N_31, hE_N_31, ⟨⟨fun _ _ => by obtain ⟨q, t, ho, hc⟩ := hw_N_19; rw [show N_31 (M c0 4) 2 = N_19 (M c0 4) 2 by omega, show N_31 (M c0 4) 3 = N_19 (M c0 4) 3 by omega]; rcases hc with hc | hc; have e0 : N_19 (M c0 4) 0 = M (M c0 4) 0 := (Fr.e hG_N_19 hk_Mc04 0 rfl); have hsn : zSN N_19 (M (M c0 4) 0) q := (by have h := hc.2.2.1.sn; rw [e0] at h; exact h); have hsu : zSU N_19 (M (M c0 4) 0) q := (by have h := hc.2.2.2.su; rw [e0] at h; exact h); have h4 := hsn.u.2.2.2.1; exact ⟨q, t, ho, Or.inl ⟨by omega, by omega, (by rw [Fr.e hG_N_31 hk_c0 _ rfl, Fr.e hG_N_27 hk_c0 _ rfl, hM_N_26, mu_k hk_c0 hk_Mc04 rfl, hM_N_25, mu_s]), (by rw [Fr.e hG_N_31 hk_Mc04 _ rfl, Fr.e hG_N_27 hk_Mc04 _ rfl, hM_N_26, mu_s]), (zSN.fr (zSN.fr (zSN.fr (zSN.fr hsn hk_MMc040 (Fr.u (Fr.rf [(62, 5)] _) hM_N_25 hk_c0 rfl) rfl) hk_MMc040 (Fr.u (Fr.rf [(17, 0)] _) hM_N_26 hk_Mc04 rfl) rfl) hk_MMc040 hG_N_27 rfl) hk_MMc040 hG_N_31 rfl), (zSU.fr (zSU.fr (zSU.fr (zSU.fr hsu hI_N_19 hk_MMc040 (Fr.u (Fr.rf [(62, 5)] _) hM_N_25 hk_c0 rfl) rfl) hI_N_25 hk_MMc040 (Fr.u (Fr.rf [(17, 0)] _) hM_N_26 hk_Mc04 rfl) rfl) hI_N_26 hk_MMc040 hG_N_27 rfl) hI_N_27 hk_MMc040 hG_N_31 rfl)⟩⟩; exact absurd hc.1 (by omega), fun h => absurd (And.intro (by omega) (by omega)) h⟩, fun _ q => (zTC.fr (htf_N_27 _) hI_N_27 hk_c0 hG_N_31 rfl), fun h => by exfalso; omega⟩⟩ dX11_checker_78
      · refine kx_aload_n 33 F 0 dX11_checker_32 rfl rfl rfl ?_
        refine kx_bipush 35 F dX11_checker_33 (by decide) rfl ?_
        refine kx_Vi 38 (ci := 0) F (As := [vI 9]) (st := []) vd_X11_110 (c_X11_refuse G l N_19 c0 9 hI_N_19 hk_c0 (by omega)) hk_c0 rfl rfl rfl ⟨by decide, by decide⟩ rfl rfl (Nat.le_of_ble_eq_true rfl) dX11_checker_35 rfl ?_
        intro r_45 N_46 q_47
        obtain ⟨hI_N_46, hG_N_46, q_47c⟩ := q_47
        have hF_N_46 : Fr f_e_checker7c M N_46 := Fr.c hF_N_19 hG_N_46 rfl
        have hE_N_46 : Cf (fun x => M (M c0 4) 0 ≤ x ∧ x < M (M c0 4) 0 + 19) M N_46 := Cf.fr hE_N_19 hG_N_46 rfl
        have hX_N_46 : XX N_46 := XX.fr hX_N_19 hI_N_19 hG_N_46 rfl
        subst q_47c
        have e_48 : (N_46 (M c0 4) 2) = (N_19 (M c0 4) 2) := by rw [Fr.e hG_N_46 hk_Mc04 _ rfl]
        have h_49 := Inv.g hI_N_19 hk_Mc04 rfl 2 (a := (-2147483648)) (b := 2147483647) rfl rfl
        have e_50 : (N_46 (M c0 4) 3) = (N_19 (M c0 4) 3) := by rw [Fr.e hG_N_46 hk_Mc04 _ rfl]
        have h_51 := Inv.g hI_N_19 hk_Mc04 rfl 3 (a := (-2147483648)) (b := 2147483647) rfl rfl
        have e_52 : (N_46 (M c0 4) 1) = (N_19 (M c0 4) 1) := by rw [Fr.e hG_N_46 hk_Mc04 _ rfl]
        have e_57 : (N_46 (M (M (M c0 4) 0) 6) 0) = (N_19 (M (M (M c0 4) 0) 6) 0) := by rw [Fr.e hG_N_46 hk_MMMc0406 _ rfl]
        exact kx_iret F hQ ⟨hI_N_46, hF_N_46, (Or.inr (Or.inr (by omega))), hX_N_46, hE_N_46, ⟨⟨fun _ _ => by obtain ⟨q, t, ho, hc⟩ := hw_N_19; rw [show N_46 (M c0 4) 2 = N_19 (M c0 4) 2 by omega, show N_46 (M c0 4) 3 = N_19 (M c0 4) 3 by omega]; exact ⟨q, t, ho, Or.inr ⟨by omega, by omega, (by rw [Fr.e hG_N_46 hk_c0 _ rfl, Fr.e hG_N_19 hk_c0 _ rfl]), (by rw [Fr.e hG_N_46 hk_Mc04 _ rfl, Fr.e hG_N_19 hk_Mc04 _ rfl])⟩⟩, fun h => absurd (And.intro (by omega) (by omega)) h⟩, fun h => by exfalso; omega, fun _ q hK => (zTC.fr (zTC.fr hK hI_M hk_c0 hG_N_19 rfl) hI_N_19 hk_c0 hG_N_46 rfl)⟩⟩ dX11_checker_38
    · refine kx_aload_n 16 F 0 dX11_checker_15 rfl rfl rfl ?_
      refine kx_iconst 17 F dX11_checker_16 rfl ?_
      refine kx_Vi 20 (ci := 0) F (As := [vI 1]) (st := []) vd_X11_110 (c_X11_refuse G l M c0 1 hI_M hk_c0 (by omega)) hk_c0 rfl rfl rfl ⟨by decide, by decide⟩ rfl rfl (Nat.le_of_ble_eq_true rfl) dX11_checker_17 rfl ?_
      intro r_60 N_61 q_62
      obtain ⟨hI_N_61, hG_N_61, q_62c⟩ := q_62
      have hF_N_61 : Fr f_e_checker7c M N_61 := Fr.c hF_M hG_N_61 rfl
      have hE_N_61 : Cf (fun x => M (M c0 4) 0 ≤ x ∧ x < M (M c0 4) 0 + 19) M N_61 := Cf.fr hE_M hG_N_61 rfl
      have hX_N_61 : XX N_61 := XX.fr hX_M hI_M hG_N_61 rfl
      subst q_62c
      have e_63 : (N_61 (M c0 4) 2) = (M (M c0 4) 2) := by rw [Fr.e hG_N_61 hk_Mc04 _ rfl]
      have h_64 := Inv.g hI_M hk_Mc04 rfl 2 (a := (-2147483648)) (b := 2147483647) rfl rfl
      have e_65 : (N_61 (M c0 4) 3) = (M (M c0 4) 3) := by rw [Fr.e hG_N_61 hk_Mc04 _ rfl]
      have h_66 := Inv.g hI_M hk_Mc04 rfl 3 (a := (-2147483648)) (b := 2147483647) rfl rfl
      have e_67 : (N_61 (M c0 4) 1) = (M (M c0 4) 1) := by rw [Fr.e hG_N_61 hk_Mc04 _ rfl]
      have e_72 : (N_61 (M (M (M c0 4) 0) 6) 0) = (M (M (M (M c0 4) 0) 6) 0) := by rw [Fr.e hG_N_61 hk_MMMc0406 _ rfl]
      have h_73 := Inv.g hI_M hk_MMMc0406 rfl 0 (a := (-1)) (b := 1) rfl rfl
      exact kx_iret F hQ ⟨hI_N_61, hF_N_61, (Or.inr (Or.inl (by omega))), hX_N_61, hE_N_61, ⟨⟨fun h1 h2 => by exfalso; omega, fun _ => ⟨(by rw [Fr.e hG_N_61 hk_c0 _ rfl]), (by rw [Fr.e hG_N_61 hk_Mc04 _ rfl])⟩⟩, fun h => by exfalso; omega, fun _ q hK => (zTC.fr hK hI_M hk_c0 hG_N_61 rfl)⟩⟩ dX11_checker_20
