abbrev f_e_tableOf3 : List (Nat × Int) := [(21, 0), (21, 1), (22, -1), (23, -1), (24, -1), (25, -1)]
set_option maxHeartbeats 4000000 in
set_option maxRecDepth 100000 in
theorem e_tableOf3 (G : KG) (l : Launch) (M : Mem) (c0 : Int) (a1 : Int) (hI_M : Inv false M) (hk_c0 : kd c0 = 62) (hpre : -2147483648 ≤ a1 ∧ a1 ≤ 2147483647) (hX_M : XX M) (q : Int → Int) (hS : zSN M (M c0 5) q) (hU : zSU M (M c0 5) q) (hF : zTF M c0) (hK : zTC M c0 q) (ha : 0 ≤ a1 ∧ a1 < q 3) : KC false G l yX11_tableOf cX11_tableOf 3 (some (.object "NestedChecker$SummaryTable")) (4, 97) [vR G c0, vI a1] M (fun A => kQr false G A (fun (r : Int) (N : Mem) => Inv false N ∧ Fr f_e_tableOf3 M N ∧ kd r = 21 ∧ XX N ∧ (zTV N r (zTQA q (85 * a1 + 100)) ∧ zTC N c0 q))) := by
  refine kx_met (lo := [some (vR G c0), some (vI a1), none]) (by decide) (Nat.le_of_ble_eq_true rfl) rfl ?_
  intro X F hQ
  have hF_M : Fr f_e_tableOf3 M M := Fr.rf _ _
  have hk_1 : kd (M c0 5) = 12 := Inv.r hI_M hk_c0 rfl 5 rfl rfl
  have hSn := hS.u
  have hk_2 : kd (M c0 8) = 21 := Inv.r hI_M hk_c0 rfl 8 rfl rfl
  have hk_3 : kd (M c0 9) = 21 := Inv.r hI_M hk_c0 rfl 9 rfl rfl
  refine kx_iload_n 1 F 1 dX11_tableOf_0 rfl rfl rfl ?_
  refine kx_if_ne 4 F 11 dX11_tableOf_1 (by decide) rfl (by omega) (fun h_4 => ?_) (fun h_4 => ?_)
  · refine kx_aload_n 12 F 0 dX11_tableOf_11 rfl rfl rfl ?_
    refine kx_getr 15 F fl_X11_41 hk_c0 rfl rfl (j := 9) rfl dX11_tableOf_12 (v := (M c0 9)) rfl rfl ?_
    refine kx_astore_n 16 F 2 (lo' := [some (vR G c0), some (vI a1), some (vR G (M c0 9))]) dX11_tableOf_15 rfl (by decide) rfl rfl rfl ?_
    refine kx_aload_n 17 F 2 dX11_tableOf_16 rfl rfl rfl ?_
    refine kx_geti 20 F fl_X11_393 hk_3 rfl rfl (j := 0) rfl dX11_tableOf_17 (v := (M (M c0 9) 0)) rfl rfl ?_
    have h_5 := Inv.g hI_M hk_3 rfl 0 (a := 0) (b := 1) rfl rfl
    refine kx_if_ne 23 F 39 dX11_tableOf_20 (by decide) rfl (by omega) (fun h_6 => ?_) (fun h_6 => ?_)
    · refine kx_aload_n 40 F 2 dX11_tableOf_39 rfl rfl rfl ?_
      exact kx_aret F hQ ⟨hI_M, hF_M, hk_3, hX_M, ⟨by have h := hK.2 (by omega) (by omega); rw [show 85 * a1 + 100 = 185 by omega]; exact h, hK⟩⟩ dX11_tableOf_40
    · refine kx_aload_n 24 F 2 dX11_tableOf_23 rfl rfl rfl ?_
      refine kx_aload_n 25 F 0 dX11_tableOf_24 rfl rfl rfl ?_
      refine kx_getr 28 F fl_X11_26 hk_c0 rfl rfl (j := 5) rfl dX11_tableOf_25 (v := (M c0 5)) rfl rfl ?_
      refine kx_aload_n 29 F 0 dX11_tableOf_28 rfl rfl rfl ?_
      refine kx_getr 32 F fl_X11_26 hk_c0 rfl rfl (j := 5) rfl dX11_tableOf_29 (v := (M c0 5)) rfl rfl ?_
      refine kx_iload_n 33 F 1 dX11_tableOf_32 rfl rfl rfl ?_
      refine kx_Vr 36 (ci := 0) F (As := [vI a1]) (st := [vR G (M c0 5), vR G (M c0 9)]) vd_X11_164 (c_X5_pickE G l M (M c0 5) a1 hI_M hk_1 (by omega)) hk_1 rfl rfl rfl ⟨by decide, by decide⟩ rfl rfl (Nat.le_of_ble_eq_true rfl) dX11_tableOf_33 rfl ?_
      intro r_7 N_8 q_9
      obtain ⟨rfl, hk_10, q_9d⟩ := q_9
      rcases q_9d with ⟨q_9c, rfl⟩ | ⟨q_9c, rfl⟩
      · exfalso; omega
      · have h_11 := hX_M.1 (M c0 5) hk_1
        have h_12 := Inv.g hI_M hk_1 rfl 0 (a := 0) (b := 2) rfl rfl
        have h_13 := Inv.g hI_M hk_1 rfl 1 (a := 0) (b := 4) rfl rfl
        have h_14 := Inv.g hI_M hk_1 rfl 2 (a := 0) (b := 6) rfl rfl
        refine kx_Vv 39 (ci := 0) F (As := [vR G (M c0 5), vR G (M (M c0 5) 5)]) (st := []) vd_X11_400 (e_build3 G l M (M c0 9) (M c0 5) (M (M c0 5) 5) hI_M hk_3 hk_1 hk_10 (by omega) q 185 hS (hU.2 (by omega))) hk_3 rfl rfl rfl ⟨by decide, by decide⟩ rfl rfl (Nat.le_of_ble_eq_true rfl) dX11_tableOf_36 rfl ?_
        intro N_15 q_16
        obtain ⟨hI_N_15, hG_N_15, q_16c, hC_N_15, hbt_N_15⟩ := q_16
        have hF_N_15 : Fr f_e_tableOf3 M N_15 := Fr.c hF_M hG_N_15 rfl
        have hX_N_15 : XX N_15 := XX.fr hX_M hI_M hG_N_15 rfl
        have h_17 := Inv.g hI_N_15 hk_3 rfl 0 (a := 0) (b := 1) rfl rfl
        refine kx_aload_n 40 F 2 dX11_tableOf_39 rfl rfl rfl ?_
        exact kx_aret F hQ ⟨hI_N_15, hF_N_15, hk_3, hX_N_15, ⟨by rw [show 85 * a1 + 100 = 185 by omega]; exact hbt_N_15.v, zTC.b2 hK hF hI_M hC_N_15 (Fr.e hF_N_15 hk_c0 8 rfl) (Fr.e hF_N_15 hk_c0 9 rfl) hbt_N_15.v⟩⟩ dX11_tableOf_40
  · refine kx_aload_n 5 F 0 dX11_tableOf_4 rfl rfl rfl ?_
    refine kx_getr 8 F fl_X11_37 hk_c0 rfl rfl (j := 8) rfl dX11_tableOf_5 (v := (M c0 8)) rfl rfl ?_
    refine kx_goto 15 F dX11_tableOf_8 (by decide) ?_
    refine kx_astore_n 16 F 2 (lo' := [some (vR G c0), some (vI a1), some (vR G (M c0 8))]) dX11_tableOf_15 rfl (by decide) rfl rfl rfl ?_
    refine kx_aload_n 17 F 2 dX11_tableOf_16 rfl rfl rfl ?_
    refine kx_geti 20 F fl_X11_393 hk_2 rfl rfl (j := 0) rfl dX11_tableOf_17 (v := (M (M c0 8) 0)) rfl rfl ?_
    have h_18 := Inv.g hI_M hk_2 rfl 0 (a := 0) (b := 1) rfl rfl
    refine kx_if_ne 23 F 39 dX11_tableOf_20 (by decide) rfl (by omega) (fun h_19 => ?_) (fun h_19 => ?_)
    · refine kx_aload_n 40 F 2 dX11_tableOf_39 rfl rfl rfl ?_
      exact kx_aret F hQ ⟨hI_M, hF_M, hk_2, hX_M, ⟨by have h := hK.1 (by omega) (by omega); rw [show 85 * a1 + 100 = 100 by omega]; exact h, hK⟩⟩ dX11_tableOf_40
    · refine kx_aload_n 24 F 2 dX11_tableOf_23 rfl rfl rfl ?_
      refine kx_aload_n 25 F 0 dX11_tableOf_24 rfl rfl rfl ?_
      refine kx_getr 28 F fl_X11_26 hk_c0 rfl rfl (j := 5) rfl dX11_tableOf_25 (v := (M c0 5)) rfl rfl ?_
      refine kx_aload_n 29 F 0 dX11_tableOf_28 rfl rfl rfl ?_
      refine kx_getr 32 F fl_X11_26 hk_c0 rfl rfl (j := 5) rfl dX11_tableOf_29 (v := (M c0 5)) rfl rfl ?_
      refine kx_iload_n 33 F 1 dX11_tableOf_32 rfl rfl rfl ?_
      refine kx_Vr 36 (ci := 0) F (As := [vI a1]) (st := [vR G (M c0 5), vR G (M c0 8)]) vd_X11_164 (c_X5_pickE G l M (M c0 5) a1 hI_M hk_1 (by omega)) hk_1 rfl rfl rfl ⟨by decide, by decide⟩ rfl rfl (Nat.le_of_ble_eq_true rfl) dX11_tableOf_33 rfl ?_
      intro r_20 N_21 q_22
      obtain ⟨rfl, hk_23, q_22d⟩ := q_22
      rcases q_22d with ⟨q_22c, rfl⟩ | ⟨q_22c, rfl⟩
      · have h_24 := hX_M.1 (M c0 5) hk_1
        have h_25 := Inv.g hI_M hk_1 rfl 0 (a := 0) (b := 2) rfl rfl
        have h_26 := Inv.g hI_M hk_1 rfl 1 (a := 0) (b := 4) rfl rfl
        have h_27 := Inv.g hI_M hk_1 rfl 2 (a := 0) (b := 6) rfl rfl
        refine kx_Vv 39 (ci := 0) F (As := [vR G (M c0 5), vR G (M (M c0 5) 4)]) (st := []) vd_X11_400 (e_build3 G l M (M c0 8) (M c0 5) (M (M c0 5) 4) hI_M hk_2 hk_1 hk_23 (by omega) q 100 hS (hU.1 (by omega))) hk_2 rfl rfl rfl ⟨by decide, by decide⟩ rfl rfl (Nat.le_of_ble_eq_true rfl) dX11_tableOf_36 rfl ?_
        intro N_28 q_29
        obtain ⟨hI_N_28, hG_N_28, q_29c, hC_N_28, hbt_N_28⟩ := q_29
        have hF_N_28 : Fr f_e_tableOf3 M N_28 := Fr.c hF_M hG_N_28 rfl
        have hX_N_28 : XX N_28 := XX.fr hX_M hI_M hG_N_28 rfl
        have h_30 := Inv.g hI_N_28 hk_2 rfl 0 (a := 0) (b := 1) rfl rfl
        refine kx_aload_n 40 F 2 dX11_tableOf_39 rfl rfl rfl ?_
        exact kx_aret F hQ ⟨hI_N_28, hF_N_28, hk_2, hX_N_28, ⟨by rw [show 85 * a1 + 100 = 100 by omega]; exact hbt_N_28.v, zTC.b1 hK hF hI_M hC_N_28 (Fr.e hF_N_28 hk_c0 8 rfl) (Fr.e hF_N_28 hk_c0 9 rfl) hbt_N_28.v⟩⟩ dX11_tableOf_40
      · exfalso; omega
