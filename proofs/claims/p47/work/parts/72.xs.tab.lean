abbrev f_e_summaryRefusal3 : List (Nat × Int) := [(21, 0), (21, 1), (22, -1), (23, -1), (24, -1), (25, -1)]
set_option maxHeartbeats 4000000 in
set_option maxRecDepth 100000 in
theorem e_summaryRefusal3 (G : KG) (l : Launch) (M : Mem) (c0 : Int) (a1 : Int) (a2 : Int) (a3 : Int) (hI_M : Inv false M) (hk_c0 : kd c0 = 62) (hpre : 0 ≤ a1 ∧ a1 ≤ 1 ∧ -2147483648 ≤ a2 ∧ a2 ≤ 2147483647 ∧ -2147483648 ≤ a3 ∧ a3 ≤ 2147483647) (hX_M : XX M) (q : Int → Int) (hS : zSN M (M c0 5) q) (hU : zSU M (M c0 5) q) (hF : zTF M c0) (hK : zTC M c0 q) (ha : a1 = 1 → 0 ≤ a2 ∧ a2 < q 3) : KC false G l yX11_summaryRefusal cX11_summaryRefusal 5 (some .int) (5, 119) [vR G c0, vI a1, vI a2, vI a3] M (fun A => kQi false G A (fun (r : Int) (N : Mem) => Inv false N ∧ Fr f_e_summaryRefusal3 M N ∧ ((r = 0 ∧ a1 = 1 ∧ 0 ≤ a3 ∧ a3 ≤ 39) ∨ (r ≥ 1 ∧ r ≤ 7)) ∧ XX N ∧ (zSR a1 (zTQA q (85 * a2 + 100)).1 a3 r ∧ zTC N c0 q))) := by
  refine kx_met (lo := [some (vR G c0), some (vI a1), some (vI a2), some (vI a3), none]) (by decide) (Nat.le_of_ble_eq_true rfl) rfl ?_
  intro X F hQ
  have hF_M : Fr f_e_summaryRefusal3 M M := Fr.rf _ _
  have hk_1 : kd (M c0 5) = 12 := Inv.r hI_M hk_c0 rfl 5 rfl rfl
  have hSn := hS.u
  have hk_2 : kd (M c0 8) = 21 := Inv.r hI_M hk_c0 rfl 8 rfl rfl
  have hk_3 : kd (M c0 9) = 21 := Inv.r hI_M hk_c0 rfl 9 rfl rfl
  refine kx_iload_n 1 F 1 dX11_summaryRefusal_0 rfl rfl rfl ?_
  refine kx_if_ne 4 F 6 dX11_summaryRefusal_1 (by decide) rfl (by omega) (fun h_4 => ?_) (fun h_4 => ?_)
  · have ha1 := ha (by omega)
    refine kx_aload_n 7 F 0 dX11_summaryRefusal_6 rfl rfl rfl ?_
    refine kx_iload_n 8 F 2 dX11_summaryRefusal_7 rfl rfl rfl ?_
    refine kx_Vr 11 (ci := 0) F (As := [vI a2]) (st := []) vd_X11_268 (e_tableOf3 G l M c0 a2 hI_M hk_c0 (by omega) hX_M q hS hU hF hK ⟨by omega, by omega⟩) hk_c0 rfl rfl rfl ⟨by decide, by decide⟩ rfl rfl (Nat.le_of_ble_eq_true rfl) dX11_summaryRefusal_8 rfl ?_
    intro r_5 N_6 q_7
    obtain ⟨hI_N_6, hG_N_6, hk_8, hX_N_6, ⟨hto_N_6, htc_N_6⟩⟩ := q_7
    have hF_N_6 : Fr f_e_summaryRefusal3 M N_6 := Fr.c hF_M hG_N_6 rfl
    refine kx_astore 13 F 4 (lo' := [some (vR G c0), some (vI a1), some (vI a2), some (vI a3), some (vR G r_5)]) dX11_summaryRefusal_11 (by decide) rfl rfl rfl ?_
    refine kx_aload 15 F 4 dX11_summaryRefusal_13 rfl rfl ?_
    refine kx_Vi 18 (ci := 0) F (As := []) (st := []) vd_X11_272 (e_stands3 G l N_6 r_5 hI_N_6 hk_8) hk_8 rfl rfl rfl ⟨by decide, by decide⟩ rfl rfl (Nat.le_of_ble_eq_true rfl) dX11_summaryRefusal_15 rfl ?_
    intro r_9 N_10 q_11
    obtain ⟨rfl, q_11c⟩ := q_11
    have h_12 := Inv.g hI_N_6 hk_8 rfl 1 (a := 0) (b := 41) rfl rfl
    rcases q_11c with q_11c | q_11c
    · refine kx_if_ne 21 F 24 dX11_summaryRefusal_18 (by decide) rfl (by omega) (fun h_14 => ?_) (fun h_14 => (by exfalso; omega))
      refine kx_iload_n 25 F 3 dX11_summaryRefusal_24 rfl rfl rfl ?_
      refine kx_if_lt 28 F 41 dX11_summaryRefusal_25 (by decide) rfl (by omega) (fun h_15 => ?_) (fun h_15 => ?_)
      · refine kx_bipush 43 F dX11_summaryRefusal_41 (by decide) rfl ?_
        have hn1 := hto_N_6.1
        exact kx_iret F hQ ⟨hI_N_6, hF_N_6, (by omega), hX_N_6, ⟨Or.inr ⟨by omega, fun h => by have h1 := h.2.1; have h2 := h.2.2.1; have h3 := h.2.2.2; omega⟩, htc_N_6⟩⟩ dX11_summaryRefusal_43
      · refine kx_iload_n 29 F 3 dX11_summaryRefusal_28 rfl rfl rfl ?_
        refine kx_aload 31 F 4 dX11_summaryRefusal_29 rfl rfl ?_
        refine kx_geti 34 F fl_X11_275 hk_8 rfl rfl (j := 1) rfl dX11_summaryRefusal_31 (v := (N_6 r_5 1)) rfl rfl ?_
        refine kx_icmp_ge 37 F 41 dX11_summaryRefusal_34 (by decide) rfl (by omega) (by omega) (fun h_16 => ?_) (fun h_16 => ?_)
        · refine kx_bipush 43 F dX11_summaryRefusal_41 (by decide) rfl ?_
          have hn1 := hto_N_6.1
          exact kx_iret F hQ ⟨hI_N_6, hF_N_6, (by omega), hX_N_6, ⟨Or.inr ⟨by omega, fun h => by have h1 := h.2.1; have h2 := h.2.2.1; have h3 := h.2.2.2; omega⟩, htc_N_6⟩⟩ dX11_summaryRefusal_43
        · refine kx_iconst 38 F dX11_summaryRefusal_37 rfl ?_
          refine kx_goto 43 F dX11_summaryRefusal_38 (by decide) ?_
          have hn1 := hto_N_6.1
          exact kx_iret F hQ ⟨hI_N_6, hF_N_6, (by omega), hX_N_6, ⟨Or.inl ⟨by omega, by omega, by omega, by omega, by omega⟩, htc_N_6⟩⟩ dX11_summaryRefusal_43
    · refine kx_if_ne 21 F 24 dX11_summaryRefusal_18 (by decide) rfl (by omega) (fun h_17 => (by exfalso; omega)) (fun h_17 => ?_)
      refine kx_bipush 23 F dX11_summaryRefusal_21 (by decide) rfl ?_
      have hn1 := hto_N_6.1
      exact kx_iret F hQ ⟨hI_N_6, hF_N_6, (by omega), hX_N_6, ⟨Or.inr ⟨by omega, fun h => by have h1 := h.2.1; have h2 := h.2.2.1; have h3 := h.2.2.2; omega⟩, htc_N_6⟩⟩ dX11_summaryRefusal_23
  · refine kx_iconst 5 F dX11_summaryRefusal_4 rfl ?_
    exact kx_iret F hQ ⟨hI_M, hF_M, (by omega), hX_M, ⟨Or.inr ⟨by omega, fun h => by have h1 := h.1; omega⟩, hK⟩⟩ dX11_summaryRefusal_5
abbrev f_e_tableRefusal3 : List (Nat × Int) := [(21, 0), (21, 1), (22, -1), (23, -1), (24, -1), (25, -1)]
set_option maxHeartbeats 4000000 in
set_option maxRecDepth 100000 in
theorem e_tableRefusal3 (G : KG) (l : Launch) (M : Mem) (c0 : Int) (a1 : Int) (a2 : Int) (hI_M : Inv false M) (hk_c0 : kd c0 = 62) (hpre : 0 ≤ a1 ∧ a1 ≤ 1 ∧ -2147483648 ≤ a2 ∧ a2 ≤ 2147483647) (hX_M : XX M) (q : Int → Int) (hS : zSN M (M c0 5) q) (hU : zSU M (M c0 5) q) (hF : zTF M c0) (hK : zTC M c0 q) (ha : a1 = 1 → 0 ≤ a2 ∧ a2 < q 3) : KC false G l yX11_tableRefusal cX11_tableRefusal 3 (some .int) (5, 119) [vR G c0, vI a1, vI a2] M (fun A => kQi false G A (fun (r : Int) (N : Mem) => Inv false N ∧ Fr f_e_tableRefusal3 M N ∧ ((r = 0 ∧ a1 ≠ 0) ∨ (r ≥ 1 ∧ r ≤ 7)) ∧ XX N ∧ (zTRf a1 (zTQA q (85 * a2 + 100)).1 r ∧ zTC N c0 q))) := by
  refine kx_met (lo := [some (vR G c0), some (vI a1), some (vI a2)]) (by decide) (Nat.le_of_ble_eq_true rfl) rfl ?_
  intro X F hQ
  have hF_M : Fr f_e_tableRefusal3 M M := Fr.rf _ _
  have hk_1 : kd (M c0 5) = 12 := Inv.r hI_M hk_c0 rfl 5 rfl rfl
  have hSn := hS.u
  have hk_2 : kd (M c0 8) = 21 := Inv.r hI_M hk_c0 rfl 8 rfl rfl
  have hk_3 : kd (M c0 9) = 21 := Inv.r hI_M hk_c0 rfl 9 rfl rfl
  refine kx_iload_n 1 F 1 dX11_tableRefusal_0 rfl rfl rfl ?_
  refine kx_if_ne 4 F 6 dX11_tableRefusal_1 (by decide) rfl (by omega) (fun h_4 => ?_) (fun h_4 => ?_)
  · have ha1 := ha (by omega)
    refine kx_aload_n 7 F 0 dX11_tableRefusal_6 rfl rfl rfl ?_
    refine kx_iload_n 8 F 2 dX11_tableRefusal_7 rfl rfl rfl ?_
    refine kx_Vr 11 (ci := 0) F (As := [vI a2]) (st := []) vd_X11_268 (e_tableOf3 G l M c0 a2 hI_M hk_c0 (by omega) hX_M q hS hU hF hK ⟨by omega, by omega⟩) hk_c0 rfl rfl rfl ⟨by decide, by decide⟩ rfl rfl (Nat.le_of_ble_eq_true rfl) dX11_tableRefusal_8 rfl ?_
    intro r_5 N_6 q_7
    obtain ⟨hI_N_6, hG_N_6, hk_8, hX_N_6, ⟨hto_N_6, htc_N_6⟩⟩ := q_7
    have hF_N_6 : Fr f_e_tableRefusal3 M N_6 := Fr.c hF_M hG_N_6 rfl
    refine kx_Vi 14 (ci := 0) F (As := []) (st := []) vd_X11_272 (e_stands3 G l N_6 r_5 hI_N_6 hk_8) hk_8 rfl rfl rfl ⟨by decide, by decide⟩ rfl rfl (Nat.le_of_ble_eq_true rfl) dX11_tableRefusal_11 rfl ?_
    intro r_9 N_10 q_11
    obtain ⟨rfl, q_11c⟩ := q_11
    have h_12 := Inv.g hI_N_6 hk_8 rfl 1 (a := 0) (b := 41) rfl rfl
    rcases q_11c with q_11c | q_11c
    · refine kx_if_eq 17 F 21 dX11_tableRefusal_14 (by decide) rfl (by omega) (fun h_14 => (by exfalso; omega)) (fun h_14 => ?_)
      refine kx_iconst 18 F dX11_tableRefusal_17 rfl ?_
      refine kx_goto 23 F dX11_tableRefusal_18 (by decide) ?_
      have hn1 := hto_N_6.1
      exact kx_iret F hQ ⟨hI_N_6, hF_N_6, (by omega), hX_N_6, ⟨Or.inl ⟨by omega, by omega, by omega⟩, htc_N_6⟩⟩ dX11_tableRefusal_23
    · refine kx_if_eq 17 F 21 dX11_tableRefusal_14 (by decide) rfl (by omega) (fun h_15 => ?_) (fun h_15 => (by exfalso; omega))
      refine kx_bipush 23 F dX11_tableRefusal_21 (by decide) rfl ?_
      have hn1 := hto_N_6.1
      exact kx_iret F hQ ⟨hI_N_6, hF_N_6, (by omega), hX_N_6, ⟨Or.inr ⟨by omega, fun h => by have h1 := h.2; omega⟩, htc_N_6⟩⟩ dX11_tableRefusal_23
  · refine kx_iconst 5 F dX11_tableRefusal_4 rfl ?_
    exact kx_iret F hQ ⟨hI_M, hF_M, (by omega), hX_M, ⟨Or.inr ⟨by omega, fun h => by have h1 := h.1; omega⟩, hK⟩⟩ dX11_tableRefusal_5
abbrev f_e_table3 : List (Nat × Int) := [(21, 0), (21, 1), (22, -1), (23, -1), (24, -1), (25, -1), (62, 0)]
set_option maxHeartbeats 4000000 in
set_option maxRecDepth 100000 in
theorem e_table3 (G : KG) (l : Launch) (M : Mem) (c0 : Int) (a1 : Int) (hI_M : Inv false M) (hk_c0 : kd c0 = 62) (hpre : -2147483648 ≤ a1 ∧ a1 ≤ 2147483647) (hX_M : XX M) (q : Int → Int) (hS : zSN M (M c0 5) q) (hU : zSU M (M c0 5) q) (hF : zTF M c0) (hK : zTC M c0 q) : KC false G l yX11_table cX11_table 3 (some .int) (5, 119) [vR G c0, vI a1] M (fun A => kQi false G A (fun (r : Int) (N : Mem) => Inv false N ∧ Fr f_e_table3 M N ∧ (r ≥ -1 ∧ r ≤ 41) ∧ XX N ∧ ((zTBL q a1 r) ∧ zTC N c0 q))) := by
  refine kx_met (lo := [some (vR G c0), some (vI a1), none]) (by decide) (Nat.le_of_ble_eq_true rfl) rfl ?_
  intro X F hQ
  have hF_M : Fr f_e_table3 M M := Fr.rf _ _
  have hk_1 : kd (M c0 5) = 12 := Inv.r hI_M hk_c0 rfl 5 rfl rfl
  have hSn := hS.u
  have hk_2 : kd (M c0 8) = 21 := Inv.r hI_M hk_c0 rfl 8 rfl rfl
  have hk_3 : kd (M c0 9) = 21 := Inv.r hI_M hk_c0 rfl 9 rfl rfl
  refine kx_aload_n 1 F 0 dX11_table_0 rfl rfl rfl ?_
  refine kx_getr 4 F fl_X11_26 hk_c0 rfl rfl (j := 5) rfl dX11_table_1 (v := (M c0 5)) rfl rfl ?_
  refine kx_iload_n 5 F 1 dX11_table_4 rfl rfl rfl ?_
  refine kx_Vi 8 (ci := 0) F (As := [vI a1]) (st := []) vd_X11_163 (e_X5_has G l M (M c0 5) a1 hI_M hk_1 (by omega)) hk_1 rfl rfl rfl ⟨by decide, by decide⟩ rfl rfl (Nat.le_of_ble_eq_true rfl) dX11_table_5 rfl ?_
  intro r_4 N_5 q_6
  obtain ⟨rfl, q_6c⟩ := q_6
  have h_7 := Inv.g hI_M hk_1 rfl 3 (a := 0) (b := 2) rfl rfl
  rcases q_6c with q_6c | q_6c | q_6c
  · refine kx_if_ne 11 F 17 dX11_table_8 (by decide) rfl (by omega) (fun h_9 => ?_) (fun h_9 => (by exfalso; omega))
    refine kx_aload_n 18 F 0 dX11_table_17 rfl rfl rfl ?_
    refine kx_iload_n 19 F 1 dX11_table_18 rfl rfl rfl ?_
    refine kx_Vr 22 (ci := 0) F (As := [vI a1]) (st := []) vd_X11_268 (e_tableOf3 G l M c0 a1 hI_M hk_c0 (by omega) hX_M q hS hU hF hK ⟨by omega, by omega⟩) hk_c0 rfl rfl rfl ⟨by decide, by decide⟩ rfl rfl (Nat.le_of_ble_eq_true rfl) dX11_table_19 rfl ?_
    intro r_10 N_11 q_12
    obtain ⟨hI_N_11, hG_N_11, hk_13, hX_N_11, ⟨hto_N_11, htc_N_11⟩⟩ := q_12
    have hF_N_11 : Fr f_e_table3 M N_11 := Fr.c hF_M hG_N_11 rfl
    refine kx_astore_n 23 F 2 (lo' := [some (vR G c0), some (vI a1), some (vR G r_10)]) dX11_table_22 rfl (by decide) rfl rfl rfl ?_
    refine kx_aload_n 24 F 2 dX11_table_23 rfl rfl rfl ?_
    refine kx_Vi 27 (ci := 0) F (As := []) (st := []) vd_X11_272 (e_stands3 G l N_11 r_10 hI_N_11 hk_13) hk_13 rfl rfl rfl ⟨by decide, by decide⟩ rfl rfl (Nat.le_of_ble_eq_true rfl) dX11_table_24 rfl ?_
    intro r_14 N_15 q_16
    obtain ⟨rfl, q_16c⟩ := q_16
    have h_17 := Inv.g hI_N_11 hk_13 rfl 1 (a := 0) (b := 41) rfl rfl
    rcases q_16c with q_16c | q_16c
    · refine kx_if_eq 30 F 41 dX11_table_27 (by decide) rfl (by omega) (fun h_19 => (by exfalso; omega)) (fun h_19 => ?_)
      refine kx_aload_n 31 F 0 dX11_table_30 rfl rfl rfl ?_
      refine kx_aload_n 32 F 2 dX11_table_31 rfl rfl rfl ?_
      refine kx_geti 35 F fl_X11_275 hk_13 rfl rfl (j := 1) rfl dX11_table_32 (v := (N_11 r_10 1)) rfl rfl ?_
      refine kx_Vi 38 (ci := 0) F (As := [vI (N_11 r_10 1)]) (st := []) vd_X11_145 (c_X11_answer G l N_11 c0 (N_11 r_10 1) hI_N_11 hk_c0 (by omega)) hk_c0 rfl rfl rfl ⟨by decide, by decide⟩ rfl rfl (Nat.le_of_ble_eq_true rfl) dX11_table_35 rfl ?_
      intro r_20 N_21 q_22
      obtain ⟨hI_N_21, hG_N_21, q_22c⟩ := q_22
      have hF_N_21 : Fr f_e_table3 M N_21 := Fr.c hF_N_11 hG_N_21 rfl
      have hX_N_21 : XX N_21 := XX.fr hX_N_11 hI_N_11 hG_N_21 rfl
      refine kx_goto 47 F dX11_table_38 (by decide) ?_
      have hn1 := hto_N_11.1
      exact kx_iret F hQ ⟨hI_N_21, hF_N_21, (by omega), hX_N_21, ⟨(Or.inl ⟨⟨by omega, by omega, by omega⟩, by omega⟩), (zTC.fr htc_N_11 hI_N_11 hk_c0 hG_N_21 rfl)⟩⟩ dX11_table_47
    · refine kx_if_eq 30 F 41 dX11_table_27 (by decide) rfl (by omega) (fun h_23 => ?_) (fun h_23 => (by exfalso; omega))
      refine kx_aload_n 42 F 0 dX11_table_41 rfl rfl rfl ?_
      refine kx_bipush 44 F dX11_table_42 (by decide) rfl ?_
      refine kx_Vi 47 (ci := 0) F (As := [vI 7]) (st := []) vd_X11_110 (c_X11_refuse G l N_11 c0 7 hI_N_11 hk_c0 (by omega)) hk_c0 rfl rfl rfl ⟨by decide, by decide⟩ rfl rfl (Nat.le_of_ble_eq_true rfl) dX11_table_44 rfl ?_
      intro r_24 N_25 q_26
      obtain ⟨hI_N_25, hG_N_25, q_26c⟩ := q_26
      have hF_N_25 : Fr f_e_table3 M N_25 := Fr.c hF_N_11 hG_N_25 rfl
      have hX_N_25 : XX N_25 := XX.fr hX_N_11 hI_N_11 hG_N_25 rfl
      subst q_26c
      have hn1 := hto_N_11.1
      exact kx_iret F hQ ⟨hI_N_25, hF_N_25, (by omega), hX_N_25, ⟨(Or.inr ⟨fun h => by have h3 := h.2.2; omega, by omega⟩), (zTC.fr htc_N_11 hI_N_11 hk_c0 hG_N_25 rfl)⟩⟩ dX11_table_47
  · refine kx_if_ne 11 F 17 dX11_table_8 (by decide) rfl (by omega) (fun h_27 => (by exfalso; omega)) (fun h_27 => ?_)
    refine kx_aload_n 12 F 0 dX11_table_11 rfl rfl rfl ?_
    refine kx_iconst 13 F dX11_table_12 rfl ?_
    refine kx_Vi 16 (ci := 0) F (As := [vI 1]) (st := []) vd_X11_110 (c_X11_refuse G l M c0 1 hI_M hk_c0 (by omega)) hk_c0 rfl rfl rfl ⟨by decide, by decide⟩ rfl rfl (Nat.le_of_ble_eq_true rfl) dX11_table_13 rfl ?_
    intro r_28 N_29 q_30
    obtain ⟨hI_N_29, hG_N_29, q_30c⟩ := q_30
    have hF_N_29 : Fr f_e_table3 M N_29 := Fr.c hF_M hG_N_29 rfl
    have hX_N_29 : XX N_29 := XX.fr hX_M hI_M hG_N_29 rfl
    subst q_30c
    exact kx_iret F hQ ⟨hI_N_29, hF_N_29, (by omega), hX_N_29, ⟨(Or.inr ⟨fun h => by have h1 := h.1; have h2 := h.2.1; omega, by omega⟩), (zTC.fr hK hI_M hk_c0 hG_N_29 rfl)⟩⟩ dX11_table_16
  · refine kx_if_ne 11 F 17 dX11_table_8 (by decide) rfl (by omega) (fun h_31 => (by exfalso; omega)) (fun h_31 => ?_)
    refine kx_aload_n 12 F 0 dX11_table_11 rfl rfl rfl ?_
    refine kx_iconst 13 F dX11_table_12 rfl ?_
    refine kx_Vi 16 (ci := 0) F (As := [vI 1]) (st := []) vd_X11_110 (c_X11_refuse G l M c0 1 hI_M hk_c0 (by omega)) hk_c0 rfl rfl rfl ⟨by decide, by decide⟩ rfl rfl (Nat.le_of_ble_eq_true rfl) dX11_table_13 rfl ?_
    intro r_32 N_33 q_34
    obtain ⟨hI_N_33, hG_N_33, q_34c⟩ := q_34
    have hF_N_33 : Fr f_e_table3 M N_33 := Fr.c hF_M hG_N_33 rfl
    have hX_N_33 : XX N_33 := XX.fr hX_M hI_M hG_N_33 rfl
    subst q_34c
    exact kx_iret F hQ ⟨hI_N_33, hF_N_33, (by omega), hX_N_33, ⟨(Or.inr ⟨fun h => by have h1 := h.1; have h2 := h.2.1; omega, by omega⟩), (zTC.fr hK hI_M hk_c0 hG_N_33 rfl)⟩⟩ dX11_table_16
abbrev f_e_summary3 : List (Nat × Int) := [(21, 0), (21, 1), (22, -1), (23, -1), (24, -1), (25, -1), (62, 0)]
set_option maxHeartbeats 4000000 in
set_option maxRecDepth 100000 in
theorem e_summary3 (G : KG) (l : Launch) (M : Mem) (c0 : Int) (a1 : Int) (a2 : Int) (a3 : Int) (hI_M : Inv false M) (hk_c0 : kd c0 = 62) (hpre : -2147483648 ≤ a1 ∧ a1 ≤ 2147483647 ∧ -2147483648 ≤ a2 ∧ a2 ≤ 2147483647 ∧ -2147483648 ≤ a3 ∧ a3 ≤ 2147483647) (hX_M : XX M) (q : Int → Int) (hS : zSN M (M c0 5) q) (hU : zSU M (M c0 5) q) (hF : zTF M c0) (hK : zTC M c0 q) : KC false G l yX11_summary cX11_summary 6 (some .int) (6, 143) [vR G c0, vI a1, vI a2, vI a3] M (fun A => kQi false G A (fun (r : Int) (N : Mem) => Inv false N ∧ Fr f_e_summary3 M N ∧ (r ≥ -2147483648 ∧ r ≤ 2147483647) ∧ XX N ∧ ((zSUM q a1 a2 a3 r) ∧ zTC N c0 q))) := by
  refine kx_met (lo := [some (vR G c0), some (vI a1), some (vI a2), some (vI a3), none, none]) (by decide) (Nat.le_of_ble_eq_true rfl) rfl ?_
  intro X F hQ
  have hF_M : Fr f_e_summary3 M M := Fr.rf _ _
  have hk_1 : kd (M c0 5) = 12 := Inv.r hI_M hk_c0 rfl 5 rfl rfl
  have hSn := hS.u
  have hk_2 : kd (M c0 8) = 21 := Inv.r hI_M hk_c0 rfl 8 rfl rfl
  have hk_3 : kd (M c0 9) = 21 := Inv.r hI_M hk_c0 rfl 9 rfl rfl
  refine kx_aload_n 1 F 0 dX11_summary_0 rfl rfl rfl ?_
  refine kx_aload_n 2 F 0 dX11_summary_1 rfl rfl rfl ?_
  refine kx_getr 5 F fl_X11_26 hk_c0 rfl rfl (j := 5) rfl dX11_summary_2 (v := (M c0 5)) rfl rfl ?_
  refine kx_iload_n 6 F 1 dX11_summary_5 rfl rfl rfl ?_
  refine kx_Vi 9 (ci := 0) F (As := [vI a1]) (st := [vR G c0]) vd_X11_163 (e_X5_has G l M (M c0 5) a1 hI_M hk_1 (by omega)) hk_1 rfl rfl rfl ⟨by decide, by decide⟩ rfl rfl (Nat.le_of_ble_eq_true rfl) dX11_summary_6 rfl ?_
  intro r_4 N_5 q_6
  obtain ⟨rfl, q_6c⟩ := q_6
  have h_7 := Inv.g hI_M hk_1 rfl 3 (a := 0) (b := 2) rfl rfl
  rcases q_6c with q_6c | q_6c | q_6c
  · refine kx_if_eq 12 F 25 dX11_summary_9 (by decide) rfl (by omega) (fun h_9 => (by exfalso; omega)) (fun h_9 => ?_)
    refine kx_iload_n 13 F 3 dX11_summary_12 rfl rfl rfl ?_
    refine kx_iconst 14 F dX11_summary_13 rfl ?_
    refine kx_iconst 15 F dX11_summary_14 rfl ?_
    refine kx_Si 18 F (As := [vI a3, vI 0, vI 2]) (st := [vR G c0]) sd_X11_87 (e_X11_within G l M a3 0 2 hI_M (by omega)) ⟨by decide, by decide⟩ rfl rfl (Nat.le_of_ble_eq_true rfl) dX11_summary_15 rfl ?_
    intro r_10 N_11 q_12
    obtain ⟨rfl, q_12c⟩ := q_12
    rcases q_12c with q_12c | q_12c | q_12c
    · refine kx_if_eq 21 F 25 dX11_summary_18 (by decide) rfl (by omega) (fun h_13 => (by exfalso; omega)) (fun h_13 => ?_)
      refine kx_iconst 22 F dX11_summary_21 rfl ?_
      refine kx_goto 26 F dX11_summary_22 (by decide) ?_
      refine kx_iload_n 27 F 1 dX11_summary_26 rfl rfl rfl ?_
      refine kx_iload_n 28 F 2 dX11_summary_27 rfl rfl rfl ?_
      refine kx_Vi 31 (ci := 0) F (As := [vI 1, vI a1, vI a2]) (st := []) vd_X11_278 (e_summaryRefusal3 G l M c0 1 a1 a2 hI_M hk_c0 (by omega) hX_M q hS hU hF hK (fun h => ⟨by omega, by omega⟩)) hk_c0 rfl rfl rfl ⟨by decide, by decide⟩ rfl rfl (Nat.le_of_ble_eq_true rfl) dX11_summary_28 rfl ?_
      intro r_14 N_15 q_16
      obtain ⟨hI_N_15, hG_N_15, q_16c, hX_N_15, ⟨hsr_N_15, htc_N_15⟩⟩ := q_16
      have hF_N_15 : Fr f_e_summary3 M N_15 := Fr.c hF_M hG_N_15 rfl
      rcases q_16c with q_16c | q_16c
      · refine kx_istore 33 F 4 (lo' := [some (vR G c0), some (vI a1), some (vI a2), some (vI a3), some (vI r_14), none]) dX11_summary_31 (by decide) rfl rfl rfl ?_
        refine kx_iload 35 F 4 dX11_summary_33 rfl rfl ?_
        refine kx_if_eq 38 F 45 dX11_summary_35 (by decide) rfl (by omega) (fun h_17 => ?_) (fun h_17 => (by exfalso; omega))
        refine kx_aload_n 46 F 0 dX11_summary_45 rfl rfl rfl ?_
        refine kx_iload_n 47 F 1 dX11_summary_46 rfl rfl rfl ?_
        refine kx_Vr 50 (ci := 0) F (As := [vI a1]) (st := []) vd_X11_268 (e_tableOf3 G l N_15 c0 a1 hI_N_15 hk_c0 (by omega) hX_N_15 q (by rw [show N_15 c0 5 = M c0 5 from (Fr.e hF_N_15 hk_c0 5 rfl)]; exact zSN.fr hS hk_1 hF_N_15 rfl) (by rw [show N_15 c0 5 = M c0 5 from (Fr.e hF_N_15 hk_c0 5 rfl)]; exact zSU.fr2 hU hI_M hk_1 hF_N_15 rfl rfl) (zTF.fr hF hk_c0 hF_N_15 rfl) htc_N_15 ⟨by omega, by omega⟩) hk_c0 rfl rfl rfl ⟨by decide, by decide⟩ rfl rfl (Nat.le_of_ble_eq_true rfl) dX11_summary_47 rfl ?_
        intro r_18 N_19 q_20
        obtain ⟨hI_N_19, hG_N_19, hk_21, hX_N_19, ⟨hto_N_19, htc_N_19⟩⟩ := q_20
        have hF_N_19 : Fr f_e_summary3 M N_19 := Fr.c hF_N_15 hG_N_19 rfl
        refine kx_astore 52 F 5 (lo' := [some (vR G c0), some (vI a1), some (vI a2), some (vI a3), some (vI r_14), some (vR G r_18)]) dX11_summary_50 (by decide) rfl rfl rfl ?_
        refine kx_iload_n 53 F 3 dX11_summary_52 rfl rfl rfl ?_
        refine kx_if_ne 56 F 68 dX11_summary_53 (by decide) rfl (by omega) (fun h_22 => ?_) (fun h_22 => ?_)
        · refine kx_iload_n 69 F 3 dX11_summary_68 rfl rfl rfl ?_
          refine kx_iconst 70 F dX11_summary_69 rfl ?_
          refine kx_icmp_ne 73 F 85 dX11_summary_70 (by decide) rfl (by omega) (by decide) (fun h_23 => ?_) (fun h_23 => ?_)
          · refine kx_aload_n 86 F 0 dX11_summary_85 rfl rfl rfl ?_
            refine kx_aload 88 F 5 dX11_summary_86 rfl rfl ?_
            refine kx_getr 91 F fl_X11_281 hk_21 rfl rfl (j := 2) rfl dX11_summary_88 (v := (M r_18 2)) (by rw [Fr.e hG_N_19 hk_21 _ rfl, Fr.e hG_N_15 hk_21 _ rfl]) rfl ?_
            have hk_24 : kd (M r_18 2) = 22 := Inv.r hI_M hk_21 rfl 2 rfl rfl
            refine kx_iload_n 92 F 2 dX11_summary_91 rfl rfl rfl ?_
            refine kx_iald 93 F hk_24 rfl rfl (by omega) (by decide) dX11_summary_92 (v := (N_19 (M r_18 2) a2)) rfl rfl ?_
            have h_25 := Inv.g hI_N_19 hk_24 rfl a2 (a := 0) (b := 7) rfl rfl
            refine kx_aload_n 94 F 0 dX11_summary_93 rfl rfl rfl ?_
            refine kx_getr 97 F fl_X11_26 hk_c0 rfl rfl (j := 5) rfl dX11_summary_94 (v := (M c0 5)) (by rw [Fr.e hG_N_19 hk_c0 _ rfl, Fr.e hG_N_15 hk_c0 _ rfl]) rfl ?_
            refine kx_iload_n 98 F 1 dX11_summary_97 rfl rfl rfl ?_
            refine kx_Vr 101 (ci := 0) F (As := [vI a1]) (st := [vI (N_19 (M r_18 2) a2), vR G c0]) vd_X11_164 (c_X5_pickE G l N_19 (M c0 5) a1 hI_N_19 hk_1 (by omega)) hk_1 rfl rfl rfl ⟨by decide, by decide⟩ rfl rfl (Nat.le_of_ble_eq_true rfl) dX11_summary_98 rfl ?_
            intro r_26 N_27 q_28
            obtain ⟨rfl, hk_29, q_28d⟩ := q_28
            rcases q_28d with ⟨q_28c, rfl⟩ | ⟨q_28c, rfl⟩
            · have hxA : (N_19 (M c0 5) 4) = (M (M c0 5) 4) := Fr.e hF_N_19 hk_1 4 rfl
              have hA : AT M (N_19 (M c0 5) 4) q 100 := by rw [hxA]; exact hU.1 (by omega)
              have hn3 : M (N_19 (M c0 5) 4) 3 = q (85 * a1 + 103) := hA.n (d := 3) (by decide) (by omega)
              refine kx_geti 104 F fl_X11_179 hk_29 rfl rfl (j := 3) rfl dX11_summary_101 (v := (M (N_19 (M c0 5) 4) 3)) (by rw [Fr.e hG_N_19 hk_29 _ rfl, Fr.e hG_N_15 hk_29 _ rfl]) rfl ?_
              have h_30 := Inv.g hI_M hk_29 rfl 3 (a := 0) (b := 7) rfl rfl
              refine kx_iand 105 F (v := (zand (N_19 (M r_18 2) a2) (M (N_19 (M c0 5) 4) 3))) dX11_summary_104 rfl rfl ?_
              have h_31 := zand_r (a := (N_19 (M r_18 2) a2)) (b := (M (N_19 (M c0 5) 4) 3)) (by omega)
              refine kx_if_eq 108 F 112 dX11_summary_105 (by decide) rfl (by omega) (fun h_32 => ?_) (fun h_32 => ?_)
              · refine kx_iconst 113 F dX11_summary_112 rfl ?_
                refine kx_Vi 116 (ci := 0) F (As := [vI 0]) (st := []) vd_X11_145 (c_X11_answer G l N_19 c0 0 hI_N_19 hk_c0 (by omega)) hk_c0 rfl rfl rfl ⟨by decide, by decide⟩ rfl rfl (Nat.le_of_ble_eq_true rfl) dX11_summary_113 rfl ?_
                intro r_33 N_34 q_35
                obtain ⟨hI_N_34, hG_N_34, q_35c⟩ := q_35
                have hF_N_34 : Fr f_e_summary3 M N_34 := Fr.c hF_N_19 hG_N_34 rfl
                have hX_N_34 : XX N_34 := XX.fr hX_N_19 hI_N_19 hG_N_34 rfl
                have hsy := zSR.y hsr_N_15 (by omega)
                have hat : N_19 (M r_18 2) a2 = (zTQA q (85 * a1 + 100)).2.1 a2 ∧ N_19 (M r_18 3) a2 = (zTQA q (85 * a1 + 100)).2.2 a2 := by have h := hto_N_19.2 a2 hsy.2.2.1 hsy.2.2.2 (by omega); rw [show N_19 r_18 2 = M r_18 2 from Fr.e hF_N_19 hk_21 2 rfl, show N_19 r_18 3 = M r_18 3 from Fr.e hF_N_19 hk_21 3 rfl] at h; exact h
                have hzw : (zand (N_19 (M r_18 2) a2) (M (N_19 (M c0 5) 4) 3)) = zand ((zTQA q (85 * a1 + 100)).2.1 a2) (q (85 * a1 + 103)) := by rw [hat.1, hn3]
                exact kx_iret F hQ ⟨hI_N_34, hF_N_34, (by omega), hX_N_34, ⟨(Or.inl ⟨⟨by omega, by omega, ⟨by omega, by omega, hsy.2.1⟩, hsy.2.2⟩, Or.inr (Or.inr ⟨by omega, Or.inr ⟨by omega, by omega⟩⟩)⟩), (zTC.fr htc_N_19 hI_N_19 hk_c0 hG_N_34 rfl)⟩⟩ dX11_summary_116
              · refine kx_iconst 109 F dX11_summary_108 rfl ?_
                refine kx_goto 113 F dX11_summary_109 (by decide) ?_
                refine kx_Vi 116 (ci := 0) F (As := [vI 1]) (st := []) vd_X11_145 (c_X11_answer G l N_19 c0 1 hI_N_19 hk_c0 (by omega)) hk_c0 rfl rfl rfl ⟨by decide, by decide⟩ rfl rfl (Nat.le_of_ble_eq_true rfl) dX11_summary_113 rfl ?_
                intro r_36 N_37 q_38
                obtain ⟨hI_N_37, hG_N_37, q_38c⟩ := q_38
                have hF_N_37 : Fr f_e_summary3 M N_37 := Fr.c hF_N_19 hG_N_37 rfl
                have hX_N_37 : XX N_37 := XX.fr hX_N_19 hI_N_19 hG_N_37 rfl
                have hsy := zSR.y hsr_N_15 (by omega)
                have hat : N_19 (M r_18 2) a2 = (zTQA q (85 * a1 + 100)).2.1 a2 ∧ N_19 (M r_18 3) a2 = (zTQA q (85 * a1 + 100)).2.2 a2 := by have h := hto_N_19.2 a2 hsy.2.2.1 hsy.2.2.2 (by omega); rw [show N_19 r_18 2 = M r_18 2 from Fr.e hF_N_19 hk_21 2 rfl, show N_19 r_18 3 = M r_18 3 from Fr.e hF_N_19 hk_21 3 rfl] at h; exact h
                have hzw : (zand (N_19 (M r_18 2) a2) (M (N_19 (M c0 5) 4) 3)) = zand ((zTQA q (85 * a1 + 100)).2.1 a2) (q (85 * a1 + 103)) := by rw [hat.1, hn3]
                exact kx_iret F hQ ⟨hI_N_37, hF_N_37, (by omega), hX_N_37, ⟨(Or.inl ⟨⟨by omega, by omega, ⟨by omega, by omega, hsy.2.1⟩, hsy.2.2⟩, Or.inr (Or.inr ⟨by omega, Or.inl ⟨by omega, by omega⟩⟩)⟩), (zTC.fr htc_N_19 hI_N_19 hk_c0 hG_N_37 rfl)⟩⟩ dX11_summary_116
            · have hxA : (N_19 (M c0 5) 5) = (M (M c0 5) 5) := Fr.e hF_N_19 hk_1 5 rfl
              have hA : AT M (N_19 (M c0 5) 5) q 185 := by rw [hxA]; exact hU.2 (by omega)
              have hn3 : M (N_19 (M c0 5) 5) 3 = q (85 * a1 + 103) := hA.n (d := 3) (by decide) (by omega)
              refine kx_geti 104 F fl_X11_179 hk_29 rfl rfl (j := 3) rfl dX11_summary_101 (v := (M (N_19 (M c0 5) 5) 3)) (by rw [Fr.e hG_N_19 hk_29 _ rfl, Fr.e hG_N_15 hk_29 _ rfl]) rfl ?_
              have h_39 := Inv.g hI_M hk_29 rfl 3 (a := 0) (b := 7) rfl rfl
              refine kx_iand 105 F (v := (zand (N_19 (M r_18 2) a2) (M (N_19 (M c0 5) 5) 3))) dX11_summary_104 rfl rfl ?_
              have h_40 := zand_r (a := (N_19 (M r_18 2) a2)) (b := (M (N_19 (M c0 5) 5) 3)) (by omega)
              refine kx_if_eq 108 F 112 dX11_summary_105 (by decide) rfl (by omega) (fun h_41 => ?_) (fun h_41 => ?_)
              · refine kx_iconst 113 F dX11_summary_112 rfl ?_
                refine kx_Vi 116 (ci := 0) F (As := [vI 0]) (st := []) vd_X11_145 (c_X11_answer G l N_19 c0 0 hI_N_19 hk_c0 (by omega)) hk_c0 rfl rfl rfl ⟨by decide, by decide⟩ rfl rfl (Nat.le_of_ble_eq_true rfl) dX11_summary_113 rfl ?_
                intro r_42 N_43 q_44
                obtain ⟨hI_N_43, hG_N_43, q_44c⟩ := q_44
                have hF_N_43 : Fr f_e_summary3 M N_43 := Fr.c hF_N_19 hG_N_43 rfl
                have hX_N_43 : XX N_43 := XX.fr hX_N_19 hI_N_19 hG_N_43 rfl
                have hsy := zSR.y hsr_N_15 (by omega)
                have hat : N_19 (M r_18 2) a2 = (zTQA q (85 * a1 + 100)).2.1 a2 ∧ N_19 (M r_18 3) a2 = (zTQA q (85 * a1 + 100)).2.2 a2 := by have h := hto_N_19.2 a2 hsy.2.2.1 hsy.2.2.2 (by omega); rw [show N_19 r_18 2 = M r_18 2 from Fr.e hF_N_19 hk_21 2 rfl, show N_19 r_18 3 = M r_18 3 from Fr.e hF_N_19 hk_21 3 rfl] at h; exact h
                have hzw : (zand (N_19 (M r_18 2) a2) (M (N_19 (M c0 5) 5) 3)) = zand ((zTQA q (85 * a1 + 100)).2.1 a2) (q (85 * a1 + 103)) := by rw [hat.1, hn3]
                exact kx_iret F hQ ⟨hI_N_43, hF_N_43, (by omega), hX_N_43, ⟨(Or.inl ⟨⟨by omega, by omega, ⟨by omega, by omega, hsy.2.1⟩, hsy.2.2⟩, Or.inr (Or.inr ⟨by omega, Or.inr ⟨by omega, by omega⟩⟩)⟩), (zTC.fr htc_N_19 hI_N_19 hk_c0 hG_N_43 rfl)⟩⟩ dX11_summary_116
              · refine kx_iconst 109 F dX11_summary_108 rfl ?_
                refine kx_goto 113 F dX11_summary_109 (by decide) ?_
                refine kx_Vi 116 (ci := 0) F (As := [vI 1]) (st := []) vd_X11_145 (c_X11_answer G l N_19 c0 1 hI_N_19 hk_c0 (by omega)) hk_c0 rfl rfl rfl ⟨by decide, by decide⟩ rfl rfl (Nat.le_of_ble_eq_true rfl) dX11_summary_113 rfl ?_
                intro r_45 N_46 q_47
                obtain ⟨hI_N_46, hG_N_46, q_47c⟩ := q_47
                have hF_N_46 : Fr f_e_summary3 M N_46 := Fr.c hF_N_19 hG_N_46 rfl
                have hX_N_46 : XX N_46 := XX.fr hX_N_19 hI_N_19 hG_N_46 rfl
                have hsy := zSR.y hsr_N_15 (by omega)
                have hat : N_19 (M r_18 2) a2 = (zTQA q (85 * a1 + 100)).2.1 a2 ∧ N_19 (M r_18 3) a2 = (zTQA q (85 * a1 + 100)).2.2 a2 := by have h := hto_N_19.2 a2 hsy.2.2.1 hsy.2.2.2 (by omega); rw [show N_19 r_18 2 = M r_18 2 from Fr.e hF_N_19 hk_21 2 rfl, show N_19 r_18 3 = M r_18 3 from Fr.e hF_N_19 hk_21 3 rfl] at h; exact h
                have hzw : (zand (N_19 (M r_18 2) a2) (M (N_19 (M c0 5) 5) 3)) = zand ((zTQA q (85 * a1 + 100)).2.1 a2) (q (85 * a1 + 103)) := by rw [hat.1, hn3]
                exact kx_iret F hQ ⟨hI_N_46, hF_N_46, (by omega), hX_N_46, ⟨(Or.inl ⟨⟨by omega, by omega, ⟨by omega, by omega, hsy.2.1⟩, hsy.2.2⟩, Or.inr (Or.inr ⟨by omega, Or.inl ⟨by omega, by omega⟩⟩)⟩), (zTC.fr htc_N_19 hI_N_19 hk_c0 hG_N_46 rfl)⟩⟩ dX11_summary_116
          · refine kx_aload_n 74 F 0 dX11_summary_73 rfl rfl rfl ?_
            refine kx_aload 76 F 5 dX11_summary_74 rfl rfl ?_
            refine kx_getr 79 F fl_X11_283 hk_21 rfl rfl (j := 3) rfl dX11_summary_76 (v := (M r_18 3)) (by rw [Fr.e hG_N_19 hk_21 _ rfl, Fr.e hG_N_15 hk_21 _ rfl]) rfl ?_
            have hk_48 : kd (M r_18 3) = 23 := Inv.r hI_M hk_21 rfl 3 rfl rfl
            refine kx_iload_n 80 F 2 dX11_summary_79 rfl rfl rfl ?_
            refine kx_iald 81 F hk_48 rfl rfl (by omega) (by decide) dX11_summary_80 (v := (N_19 (M r_18 3) a2)) rfl rfl ?_
            have h_49 := Inv.g hI_N_19 hk_48 rfl a2 (a := 0) (b := 511) rfl rfl
            refine kx_Vi 84 (ci := 0) F (As := [vI (N_19 (M r_18 3) a2)]) (st := []) vd_X11_145 (c_X11_answer G l N_19 c0 (N_19 (M r_18 3) a2) hI_N_19 hk_c0 (by omega)) hk_c0 rfl rfl rfl ⟨by decide, by decide⟩ rfl rfl (Nat.le_of_ble_eq_true rfl) dX11_summary_81 rfl ?_
            intro r_50 N_51 q_52
            obtain ⟨hI_N_51, hG_N_51, q_52c⟩ := q_52
            have hF_N_51 : Fr f_e_summary3 M N_51 := Fr.c hF_N_19 hG_N_51 rfl
            have hX_N_51 : XX N_51 := XX.fr hX_N_19 hI_N_19 hG_N_51 rfl
            have hsy := zSR.y hsr_N_15 (by omega)
            have hat : N_19 (M r_18 2) a2 = (zTQA q (85 * a1 + 100)).2.1 a2 ∧ N_19 (M r_18 3) a2 = (zTQA q (85 * a1 + 100)).2.2 a2 := by have h := hto_N_19.2 a2 hsy.2.2.1 hsy.2.2.2 (by omega); rw [show N_19 r_18 2 = M r_18 2 from Fr.e hF_N_19 hk_21 2 rfl, show N_19 r_18 3 = M r_18 3 from Fr.e hF_N_19 hk_21 3 rfl] at h; exact h
            exact kx_iret F hQ ⟨hI_N_51, hF_N_51, (by omega), hX_N_51, ⟨(Or.inl ⟨⟨by omega, by omega, ⟨by omega, by omega, hsy.2.1⟩, hsy.2.2⟩, Or.inr (Or.inl ⟨by omega, by omega⟩)⟩), (zTC.fr htc_N_19 hI_N_19 hk_c0 hG_N_51 rfl)⟩⟩ dX11_summary_84
        · refine kx_aload_n 57 F 0 dX11_summary_56 rfl rfl rfl ?_
          refine kx_aload 59 F 5 dX11_summary_57 rfl rfl ?_
          refine kx_getr 62 F fl_X11_281 hk_21 rfl rfl (j := 2) rfl dX11_summary_59 (v := (M r_18 2)) (by rw [Fr.e hG_N_19 hk_21 _ rfl, Fr.e hG_N_15 hk_21 _ rfl]) rfl ?_
          have hk_53 : kd (M r_18 2) = 22 := Inv.r hI_M hk_21 rfl 2 rfl rfl
          refine kx_iload_n 63 F 2 dX11_summary_62 rfl rfl rfl ?_
          refine kx_iald 64 F hk_53 rfl rfl (by omega) (by decide) dX11_summary_63 (v := (N_19 (M r_18 2) a2)) rfl rfl ?_
          have h_54 := Inv.g hI_N_19 hk_53 rfl a2 (a := 0) (b := 7) rfl rfl
          refine kx_Vi 67 (ci := 0) F (As := [vI (N_19 (M r_18 2) a2)]) (st := []) vd_X11_145 (c_X11_answer G l N_19 c0 (N_19 (M r_18 2) a2) hI_N_19 hk_c0 (by omega)) hk_c0 rfl rfl rfl ⟨by decide, by decide⟩ rfl rfl (Nat.le_of_ble_eq_true rfl) dX11_summary_64 rfl ?_
          intro r_55 N_56 q_57
          obtain ⟨hI_N_56, hG_N_56, q_57c⟩ := q_57
          have hF_N_56 : Fr f_e_summary3 M N_56 := Fr.c hF_N_19 hG_N_56 rfl
          have hX_N_56 : XX N_56 := XX.fr hX_N_19 hI_N_19 hG_N_56 rfl
          have hsy := zSR.y hsr_N_15 (by omega)
          have hat : N_19 (M r_18 2) a2 = (zTQA q (85 * a1 + 100)).2.1 a2 ∧ N_19 (M r_18 3) a2 = (zTQA q (85 * a1 + 100)).2.2 a2 := by have h := hto_N_19.2 a2 hsy.2.2.1 hsy.2.2.2 (by omega); rw [show N_19 r_18 2 = M r_18 2 from Fr.e hF_N_19 hk_21 2 rfl, show N_19 r_18 3 = M r_18 3 from Fr.e hF_N_19 hk_21 3 rfl] at h; exact h
          exact kx_iret F hQ ⟨hI_N_56, hF_N_56, (by omega), hX_N_56, ⟨(Or.inl ⟨⟨by omega, by omega, ⟨by omega, by omega, hsy.2.1⟩, hsy.2.2⟩, Or.inl ⟨by omega, by omega⟩⟩), (zTC.fr htc_N_19 hI_N_19 hk_c0 hG_N_56 rfl)⟩⟩ dX11_summary_67
      · refine kx_istore 33 F 4 (lo' := [some (vR G c0), some (vI a1), some (vI a2), some (vI a3), some (vI r_14), none]) dX11_summary_31 (by decide) rfl rfl rfl ?_
        refine kx_iload 35 F 4 dX11_summary_33 rfl rfl ?_
        refine kx_if_eq 38 F 45 dX11_summary_35 (by decide) rfl (by omega) (fun h_58 => (by exfalso; omega)) (fun h_58 => ?_)
        refine kx_aload_n 39 F 0 dX11_summary_38 rfl rfl rfl ?_
        refine kx_iload 41 F 4 dX11_summary_39 rfl rfl ?_
        refine kx_Vi 44 (ci := 0) F (As := [vI r_14]) (st := []) vd_X11_110 (c_X11_refuse G l N_15 c0 r_14 hI_N_15 hk_c0 (by omega)) hk_c0 rfl rfl rfl ⟨by decide, by decide⟩ rfl rfl (Nat.le_of_ble_eq_true rfl) dX11_summary_41 rfl ?_
        intro r_59 N_60 q_61
        obtain ⟨hI_N_60, hG_N_60, q_61c⟩ := q_61
        have hF_N_60 : Fr f_e_summary3 M N_60 := Fr.c hF_N_15 hG_N_60 rfl
        have hX_N_60 : XX N_60 := XX.fr hX_N_15 hI_N_15 hG_N_60 rfl
        subst q_61c
        exact kx_iret F hQ ⟨hI_N_60, hF_N_60, (by omega), hX_N_60, ⟨(Or.inr ⟨fun h => (zSR.n hsr_N_15 (by omega)) ⟨by have h1 := h.1; have h2 := h.2.1; have h3 := h.2.2.1.1; have h4 := h.2.2.1.2.1; clear h; omega, h.2.2.1.2.2, h.2.2.2.1, h.2.2.2.2⟩, by omega⟩), (zTC.fr htc_N_15 hI_N_15 hk_c0 hG_N_60 rfl)⟩⟩ dX11_summary_44
    · refine kx_if_eq 21 F 25 dX11_summary_18 (by decide) rfl (by omega) (fun h_62 => ?_) (fun h_62 => (by exfalso; omega))
      refine kx_iconst 26 F dX11_summary_25 rfl ?_
      refine kx_iload_n 27 F 1 dX11_summary_26 rfl rfl rfl ?_
      refine kx_iload_n 28 F 2 dX11_summary_27 rfl rfl rfl ?_
      refine kx_Vi 31 (ci := 0) F (As := [vI 0, vI a1, vI a2]) (st := []) vd_X11_278 (e_summaryRefusal3 G l M c0 0 a1 a2 hI_M hk_c0 (by omega) hX_M q hS hU hF hK (fun h => ⟨by omega, by omega⟩)) hk_c0 rfl rfl rfl ⟨by decide, by decide⟩ rfl rfl (Nat.le_of_ble_eq_true rfl) dX11_summary_28 rfl ?_
      intro r_63 N_64 q_65
      obtain ⟨hI_N_64, hG_N_64, q_65c, hX_N_64, ⟨hsr_N_64, htc_N_64⟩⟩ := q_65
      have hF_N_64 : Fr f_e_summary3 M N_64 := Fr.c hF_M hG_N_64 rfl
      rcases q_65c with q_65c | q_65c
      · exfalso; omega
      · refine kx_istore 33 F 4 (lo' := [some (vR G c0), some (vI a1), some (vI a2), some (vI a3), some (vI r_63), none]) dX11_summary_31 (by decide) rfl rfl rfl ?_
        refine kx_iload 35 F 4 dX11_summary_33 rfl rfl ?_
        refine kx_if_eq 38 F 45 dX11_summary_35 (by decide) rfl (by omega) (fun h_66 => (by exfalso; omega)) (fun h_66 => ?_)
        refine kx_aload_n 39 F 0 dX11_summary_38 rfl rfl rfl ?_
        refine kx_iload 41 F 4 dX11_summary_39 rfl rfl ?_
        refine kx_Vi 44 (ci := 0) F (As := [vI r_63]) (st := []) vd_X11_110 (c_X11_refuse G l N_64 c0 r_63 hI_N_64 hk_c0 (by omega)) hk_c0 rfl rfl rfl ⟨by decide, by decide⟩ rfl rfl (Nat.le_of_ble_eq_true rfl) dX11_summary_41 rfl ?_
        intro r_67 N_68 q_69
        obtain ⟨hI_N_68, hG_N_68, q_69c⟩ := q_69
        have hF_N_68 : Fr f_e_summary3 M N_68 := Fr.c hF_N_64 hG_N_68 rfl
        have hX_N_68 : XX N_68 := XX.fr hX_N_64 hI_N_64 hG_N_68 rfl
        subst q_69c
        exact kx_iret F hQ ⟨hI_N_68, hF_N_68, (by omega), hX_N_68, ⟨(Or.inr ⟨fun h => (zSR.n hsr_N_64 (by omega)) ⟨by have h1 := h.1; have h2 := h.2.1; have h3 := h.2.2.1.1; have h4 := h.2.2.1.2.1; clear h; omega, h.2.2.1.2.2, h.2.2.2.1, h.2.2.2.2⟩, by omega⟩), (zTC.fr htc_N_64 hI_N_64 hk_c0 hG_N_68 rfl)⟩⟩ dX11_summary_44
    · refine kx_if_eq 21 F 25 dX11_summary_18 (by decide) rfl (by omega) (fun h_70 => ?_) (fun h_70 => (by exfalso; omega))
      refine kx_iconst 26 F dX11_summary_25 rfl ?_
      refine kx_iload_n 27 F 1 dX11_summary_26 rfl rfl rfl ?_
      refine kx_iload_n 28 F 2 dX11_summary_27 rfl rfl rfl ?_
      refine kx_Vi 31 (ci := 0) F (As := [vI 0, vI a1, vI a2]) (st := []) vd_X11_278 (e_summaryRefusal3 G l M c0 0 a1 a2 hI_M hk_c0 (by omega) hX_M q hS hU hF hK (fun h => ⟨by omega, by omega⟩)) hk_c0 rfl rfl rfl ⟨by decide, by decide⟩ rfl rfl (Nat.le_of_ble_eq_true rfl) dX11_summary_28 rfl ?_
      intro r_71 N_72 q_73
      obtain ⟨hI_N_72, hG_N_72, q_73c, hX_N_72, ⟨hsr_N_72, htc_N_72⟩⟩ := q_73
      have hF_N_72 : Fr f_e_summary3 M N_72 := Fr.c hF_M hG_N_72 rfl
      rcases q_73c with q_73c | q_73c
      · exfalso; omega
      · refine kx_istore 33 F 4 (lo' := [some (vR G c0), some (vI a1), some (vI a2), some (vI a3), some (vI r_71), none]) dX11_summary_31 (by decide) rfl rfl rfl ?_
        refine kx_iload 35 F 4 dX11_summary_33 rfl rfl ?_
        refine kx_if_eq 38 F 45 dX11_summary_35 (by decide) rfl (by omega) (fun h_74 => (by exfalso; omega)) (fun h_74 => ?_)
        refine kx_aload_n 39 F 0 dX11_summary_38 rfl rfl rfl ?_
        refine kx_iload 41 F 4 dX11_summary_39 rfl rfl ?_
        refine kx_Vi 44 (ci := 0) F (As := [vI r_71]) (st := []) vd_X11_110 (c_X11_refuse G l N_72 c0 r_71 hI_N_72 hk_c0 (by omega)) hk_c0 rfl rfl rfl ⟨by decide, by decide⟩ rfl rfl (Nat.le_of_ble_eq_true rfl) dX11_summary_41 rfl ?_
        intro r_75 N_76 q_77
        obtain ⟨hI_N_76, hG_N_76, q_77c⟩ := q_77
        have hF_N_76 : Fr f_e_summary3 M N_76 := Fr.c hF_N_72 hG_N_76 rfl
        have hX_N_76 : XX N_76 := XX.fr hX_N_72 hI_N_72 hG_N_76 rfl
        subst q_77c
        exact kx_iret F hQ ⟨hI_N_76, hF_N_76, (by omega), hX_N_76, ⟨(Or.inr ⟨fun h => (zSR.n hsr_N_72 (by omega)) ⟨by have h1 := h.1; have h2 := h.2.1; have h3 := h.2.2.1.1; have h4 := h.2.2.1.2.1; clear h; omega, h.2.2.1.2.2, h.2.2.2.1, h.2.2.2.2⟩, by omega⟩), (zTC.fr htc_N_72 hI_N_72 hk_c0 hG_N_76 rfl)⟩⟩ dX11_summary_44
  · refine kx_if_eq 12 F 25 dX11_summary_9 (by decide) rfl (by omega) (fun h_78 => ?_) (fun h_78 => (by exfalso; omega))
    refine kx_iconst 26 F dX11_summary_25 rfl ?_
    refine kx_iload_n 27 F 1 dX11_summary_26 rfl rfl rfl ?_
    refine kx_iload_n 28 F 2 dX11_summary_27 rfl rfl rfl ?_
    refine kx_Vi 31 (ci := 0) F (As := [vI 0, vI a1, vI a2]) (st := []) vd_X11_278 (e_summaryRefusal3 G l M c0 0 a1 a2 hI_M hk_c0 (by omega) hX_M q hS hU hF hK (fun h => ⟨by omega, by omega⟩)) hk_c0 rfl rfl rfl ⟨by decide, by decide⟩ rfl rfl (Nat.le_of_ble_eq_true rfl) dX11_summary_28 rfl ?_
    intro r_79 N_80 q_81
    obtain ⟨hI_N_80, hG_N_80, q_81c, hX_N_80, ⟨hsr_N_80, htc_N_80⟩⟩ := q_81
    have hF_N_80 : Fr f_e_summary3 M N_80 := Fr.c hF_M hG_N_80 rfl
    rcases q_81c with q_81c | q_81c
    · exfalso; omega
    · refine kx_istore 33 F 4 (lo' := [some (vR G c0), some (vI a1), some (vI a2), some (vI a3), some (vI r_79), none]) dX11_summary_31 (by decide) rfl rfl rfl ?_
      refine kx_iload 35 F 4 dX11_summary_33 rfl rfl ?_
      refine kx_if_eq 38 F 45 dX11_summary_35 (by decide) rfl (by omega) (fun h_82 => (by exfalso; omega)) (fun h_82 => ?_)
      refine kx_aload_n 39 F 0 dX11_summary_38 rfl rfl rfl ?_
      refine kx_iload 41 F 4 dX11_summary_39 rfl rfl ?_
      refine kx_Vi 44 (ci := 0) F (As := [vI r_79]) (st := []) vd_X11_110 (c_X11_refuse G l N_80 c0 r_79 hI_N_80 hk_c0 (by omega)) hk_c0 rfl rfl rfl ⟨by decide, by decide⟩ rfl rfl (Nat.le_of_ble_eq_true rfl) dX11_summary_41 rfl ?_
      intro r_83 N_84 q_85
      obtain ⟨hI_N_84, hG_N_84, q_85c⟩ := q_85
      have hF_N_84 : Fr f_e_summary3 M N_84 := Fr.c hF_N_80 hG_N_84 rfl
      have hX_N_84 : XX N_84 := XX.fr hX_N_80 hI_N_80 hG_N_84 rfl
      subst q_85c
      exact kx_iret F hQ ⟨hI_N_84, hF_N_84, (by omega), hX_N_84, ⟨(Or.inr ⟨fun h => (zSR.n hsr_N_80 (by omega)) ⟨by have h1 := h.1; have h2 := h.2.1; have h3 := h.2.2.1.1; have h4 := h.2.2.1.2.1; clear h; omega, h.2.2.1.2.2, h.2.2.2.1, h.2.2.2.2⟩, by omega⟩), (zTC.fr htc_N_80 hI_N_80 hk_c0 hG_N_84 rfl)⟩⟩ dX11_summary_44
  · refine kx_if_eq 12 F 25 dX11_summary_9 (by decide) rfl (by omega) (fun h_86 => ?_) (fun h_86 => (by exfalso; omega))
    refine kx_iconst 26 F dX11_summary_25 rfl ?_
    refine kx_iload_n 27 F 1 dX11_summary_26 rfl rfl rfl ?_
    refine kx_iload_n 28 F 2 dX11_summary_27 rfl rfl rfl ?_
    refine kx_Vi 31 (ci := 0) F (As := [vI 0, vI a1, vI a2]) (st := []) vd_X11_278 (e_summaryRefusal3 G l M c0 0 a1 a2 hI_M hk_c0 (by omega) hX_M q hS hU hF hK (fun h => ⟨by omega, by omega⟩)) hk_c0 rfl rfl rfl ⟨by decide, by decide⟩ rfl rfl (Nat.le_of_ble_eq_true rfl) dX11_summary_28 rfl ?_
    intro r_87 N_88 q_89
    obtain ⟨hI_N_88, hG_N_88, q_89c, hX_N_88, ⟨hsr_N_88, htc_N_88⟩⟩ := q_89
    have hF_N_88 : Fr f_e_summary3 M N_88 := Fr.c hF_M hG_N_88 rfl
    rcases q_89c with q_89c | q_89c
    · exfalso; omega
    · refine kx_istore 33 F 4 (lo' := [some (vR G c0), some (vI a1), some (vI a2), some (vI a3), some (vI r_87), none]) dX11_summary_31 (by decide) rfl rfl rfl ?_
      refine kx_iload 35 F 4 dX11_summary_33 rfl rfl ?_
      refine kx_if_eq 38 F 45 dX11_summary_35 (by decide) rfl (by omega) (fun h_90 => (by exfalso; omega)) (fun h_90 => ?_)
      refine kx_aload_n 39 F 0 dX11_summary_38 rfl rfl rfl ?_
      refine kx_iload 41 F 4 dX11_summary_39 rfl rfl ?_
      refine kx_Vi 44 (ci := 0) F (As := [vI r_87]) (st := []) vd_X11_110 (c_X11_refuse G l N_88 c0 r_87 hI_N_88 hk_c0 (by omega)) hk_c0 rfl rfl rfl ⟨by decide, by decide⟩ rfl rfl (Nat.le_of_ble_eq_true rfl) dX11_summary_41 rfl ?_
      intro r_91 N_92 q_93
      obtain ⟨hI_N_92, hG_N_92, q_93c⟩ := q_93
      have hF_N_92 : Fr f_e_summary3 M N_92 := Fr.c hF_N_88 hG_N_92 rfl
      have hX_N_92 : XX N_92 := XX.fr hX_N_88 hI_N_88 hG_N_92 rfl
      subst q_93c
      exact kx_iret F hQ ⟨hI_N_92, hF_N_92, (by omega), hX_N_92, ⟨(Or.inr ⟨fun h => (zSR.n hsr_N_88 (by omega)) ⟨by have h1 := h.1; have h2 := h.2.1; have h3 := h.2.2.1.1; have h4 := h.2.2.1.2.1; clear h; omega, h.2.2.1.2.2, h.2.2.2.1, h.2.2.2.2⟩, by omega⟩), (zTC.fr htc_N_88 hI_N_88 hk_c0 hG_N_92 rfl)⟩⟩ dX11_summary_44
abbrev f_e_next3 : List (Nat × Int) := [(21, 0), (21, 1), (22, -1), (23, -1), (24, -1), (25, -1), (62, 0)]
set_option maxHeartbeats 4000000 in
set_option maxRecDepth 100000 in
theorem e_next3 (G : KG) (l : Launch) (M : Mem) (c0 : Int) (a1 : Int) (a2 : Int) (a3 : Int) (hI_M : Inv false M) (hk_c0 : kd c0 = 62) (hpre : -2147483648 ≤ a1 ∧ a1 ≤ 2147483647 ∧ -2147483648 ≤ a2 ∧ a2 ≤ 2147483647 ∧ -2147483648 ≤ a3 ∧ a3 ≤ 2147483647) (hX_M : XX M) (q : Int → Int) (hS : zSN M (M c0 5) q) (hU : zSU M (M c0 5) q) (hF : zTF M c0) (hK : zTC M c0 q) : KC false G l yX11_next cX11_next 5 (some .int) (6, 143) [vR G c0, vI a1, vI a2, vI a3] M (fun A => kQi false G A (fun (r : Int) (N : Mem) => Inv false N ∧ Fr f_e_next3 M N ∧ (r ≥ -2147483648 ∧ r ≤ 2147483647) ∧ XX N ∧ ((zNXT q a1 a2 a3 r) ∧ zTC N c0 q))) := by
  refine kx_met (lo := [some (vR G c0), some (vI a1), some (vI a2), some (vI a3), none]) (by decide) (Nat.le_of_ble_eq_true rfl) rfl ?_
  intro X F hQ
  have hF_M : Fr f_e_next3 M M := Fr.rf _ _
  have hk_1 : kd (M c0 5) = 12 := Inv.r hI_M hk_c0 rfl 5 rfl rfl
  have hSn := hS.u
  have hk_2 : kd (M c0 8) = 21 := Inv.r hI_M hk_c0 rfl 8 rfl rfl
  have hk_3 : kd (M c0 9) = 21 := Inv.r hI_M hk_c0 rfl 9 rfl rfl
  refine kx_aload_n 1 F 0 dX11_next_0 rfl rfl rfl ?_
  refine kx_aload_n 2 F 0 dX11_next_1 rfl rfl rfl ?_
  refine kx_getr 5 F fl_X11_26 hk_c0 rfl rfl (j := 5) rfl dX11_next_2 (v := (M c0 5)) rfl rfl ?_
  refine kx_iload_n 6 F 1 dX11_next_5 rfl rfl rfl ?_
  refine kx_Vi 9 (ci := 0) F (As := [vI a1]) (st := [vR G c0]) vd_X11_163 (e_X5_has G l M (M c0 5) a1 hI_M hk_1 (by omega)) hk_1 rfl rfl rfl ⟨by decide, by decide⟩ rfl rfl (Nat.le_of_ble_eq_true rfl) dX11_next_6 rfl ?_
  intro r_4 N_5 q_6
  obtain ⟨rfl, q_6c⟩ := q_6
  have h_7 := Inv.g hI_M hk_1 rfl 3 (a := 0) (b := 2) rfl rfl
  rcases q_6c with q_6c | q_6c | q_6c
  · refine kx_if_eq 12 F 27 dX11_next_9 (by decide) rfl (by omega) (fun h_9 => (by exfalso; omega)) (fun h_9 => ?_)
    refine kx_aload_n 13 F 0 dX11_next_12 rfl rfl rfl ?_
    refine kx_getr 16 F fl_X11_26 hk_c0 rfl rfl (j := 5) rfl dX11_next_13 (v := (M c0 5)) rfl rfl ?_
    refine kx_iload_n 17 F 3 dX11_next_16 rfl rfl rfl ?_
    refine kx_Vi 20 (ci := 0) F (As := [vI a3]) (st := [vR G c0]) vd_X11_286 (e_X5_hasLetter G l M (M c0 5) a3 hI_M hk_1 (by omega)) hk_1 rfl rfl rfl ⟨by decide, by decide⟩ rfl rfl (Nat.le_of_ble_eq_true rfl) dX11_next_17 rfl ?_
    intro r_10 N_11 q_12
    obtain ⟨rfl, q_12c⟩ := q_12
    have h_13 := Inv.g hI_M hk_1 rfl 2 (a := 0) (b := 6) rfl rfl
    rcases q_12c with q_12c | q_12c | q_12c
    · refine kx_if_eq 23 F 27 dX11_next_20 (by decide) rfl (by omega) (fun h_15 => (by exfalso; omega)) (fun h_15 => ?_)
      refine kx_iconst 24 F dX11_next_23 rfl ?_
      refine kx_goto 28 F dX11_next_24 (by decide) ?_
      refine kx_iload_n 29 F 1 dX11_next_28 rfl rfl rfl ?_
      refine kx_iload_n 30 F 2 dX11_next_29 rfl rfl rfl ?_
      refine kx_Vi 33 (ci := 0) F (As := [vI 1, vI a1, vI a2]) (st := []) vd_X11_278 (e_summaryRefusal3 G l M c0 1 a1 a2 hI_M hk_c0 (by omega) hX_M q hS hU hF hK (fun h => ⟨by omega, by omega⟩)) hk_c0 rfl rfl rfl ⟨by decide, by decide⟩ rfl rfl (Nat.le_of_ble_eq_true rfl) dX11_next_30 rfl ?_
      intro r_16 N_17 q_18
      obtain ⟨hI_N_17, hG_N_17, q_18c, hX_N_17, ⟨hsr_N_17, htc_N_17⟩⟩ := q_18
      have hF_N_17 : Fr f_e_next3 M N_17 := Fr.c hF_M hG_N_17 rfl
      rcases q_18c with q_18c | q_18c
      · refine kx_istore 35 F 4 (lo' := [some (vR G c0), some (vI a1), some (vI a2), some (vI a3), some (vI r_16)]) dX11_next_33 (by decide) rfl rfl rfl ?_
        refine kx_iload 37 F 4 dX11_next_35 rfl rfl ?_
        refine kx_if_eq 40 F 47 dX11_next_37 (by decide) rfl (by omega) (fun h_19 => ?_) (fun h_19 => (by exfalso; omega))
        refine kx_aload_n 48 F 0 dX11_next_47 rfl rfl rfl ?_
        refine kx_aload_n 49 F 0 dX11_next_48 rfl rfl rfl ?_
        refine kx_iload_n 50 F 1 dX11_next_49 rfl rfl rfl ?_
        refine kx_Vr 53 (ci := 0) F (As := [vI a1]) (st := [vR G c0]) vd_X11_268 (e_tableOf3 G l N_17 c0 a1 hI_N_17 hk_c0 (by omega) hX_N_17 q (by rw [show N_17 c0 5 = M c0 5 from (Fr.e hF_N_17 hk_c0 5 rfl)]; exact zSN.fr hS hk_1 hF_N_17 rfl) (by rw [show N_17 c0 5 = M c0 5 from (Fr.e hF_N_17 hk_c0 5 rfl)]; exact zSU.fr2 hU hI_M hk_1 hF_N_17 rfl rfl) (zTF.fr hF hk_c0 hF_N_17 rfl) htc_N_17 ⟨by omega, by omega⟩) hk_c0 rfl rfl rfl ⟨by decide, by decide⟩ rfl rfl (Nat.le_of_ble_eq_true rfl) dX11_next_50 rfl ?_
        intro r_20 N_21 q_22
        obtain ⟨hI_N_21, hG_N_21, hk_23, hX_N_21, ⟨hto_N_21, htc_N_21⟩⟩ := q_22
        have hF_N_21 : Fr f_e_next3 M N_21 := Fr.c hF_N_17 hG_N_21 rfl
        refine kx_aload_n 54 F 0 dX11_next_53 rfl rfl rfl ?_
        refine kx_getr 57 F fl_X11_26 hk_c0 rfl rfl (j := 5) rfl dX11_next_54 (v := (M c0 5)) (by rw [Fr.e hG_N_21 hk_c0 _ rfl, Fr.e hG_N_17 hk_c0 _ rfl]) rfl ?_
        refine kx_aload_n 58 F 0 dX11_next_57 rfl rfl rfl ?_
        refine kx_getr 61 F fl_X11_26 hk_c0 rfl rfl (j := 5) rfl dX11_next_58 (v := (M c0 5)) (by rw [Fr.e hG_N_21 hk_c0 _ rfl, Fr.e hG_N_17 hk_c0 _ rfl]) rfl ?_
        refine kx_iload_n 62 F 1 dX11_next_61 rfl rfl rfl ?_
        refine kx_Vr 65 (ci := 0) F (As := [vI a1]) (st := [vR G (M c0 5), vR G r_20, vR G c0]) vd_X11_164 (c_X5_pickE G l N_21 (M c0 5) a1 hI_N_21 hk_1 (by omega)) hk_1 rfl rfl rfl ⟨by decide, by decide⟩ rfl rfl (Nat.le_of_ble_eq_true rfl) dX11_next_62 rfl ?_
        intro r_24 N_25 q_26
        obtain ⟨rfl, hk_27, q_26d⟩ := q_26
        rcases q_26d with ⟨q_26c, rfl⟩ | ⟨q_26c, rfl⟩
        · have hxA : (N_21 (M c0 5) 4) = (M (M c0 5) 4) := Fr.e hF_N_21 hk_1 4 rfl
          have hA : AT M (N_21 (M c0 5) 4) q 100 := by rw [hxA]; exact hU.1 (by omega)
          have hn3 : M (N_21 (M c0 5) 4) 3 = q (85 * a1 + 103) := hA.n (d := 3) (by decide) (by omega)
          have hsy := zSR.y hsr_N_17 (by omega)
          refine kx_iload_n 66 F 2 dX11_next_65 rfl rfl rfl ?_
          refine kx_iload_n 67 F 3 dX11_next_66 rfl rfl rfl ?_
          refine kx_Vi 70 (ci := 0) F (As := [vR G (M c0 5), vR G (N_21 (M c0 5) 4), vI a2, vI a3]) (st := [vR G c0]) vd_X11_289 (e_after3 G l N_21 r_20 (M c0 5) (N_21 (M c0 5) 4) a2 a3 hI_N_21 hk_23 hk_1 hk_27 (by omega) q (85 * a1 + 100) (zTQA q (85 * a1 + 100)) (zSN.fr hS hk_1 hF_N_21 rfl) (by rw [show 85 * a1 + 100 = 100 by omega]; exact AT.fr2 hA hI_M hk_27 hF_N_21 rfl) hto_N_21 hsy.2.1 hsy.2.2.2) hk_23 rfl rfl rfl ⟨by decide, by decide⟩ rfl rfl (Nat.le_of_ble_eq_true rfl) dX11_next_67 rfl ?_
          intro r_28 N_29 q_30
          obtain ⟨rfl, q_30c, haf_N_29⟩ := q_30
          refine kx_Vi 73 (ci := 0) F (As := [vI r_28]) (st := []) vd_X11_145 (c_X11_answer G l N_21 c0 r_28 hI_N_21 hk_c0 (by omega)) hk_c0 rfl rfl rfl ⟨by decide, by decide⟩ rfl rfl (Nat.le_of_ble_eq_true rfl) dX11_next_70 rfl ?_
          intro r_31 N_32 q_33
          obtain ⟨hI_N_32, hG_N_32, q_33c⟩ := q_33
          have hF_N_32 : Fr f_e_next3 M N_32 := Fr.c hF_N_21 hG_N_32 rfl
          have hX_N_32 : XX N_32 := XX.fr hX_N_21 hI_N_21 hG_N_32 rfl
          exact kx_iret F hQ ⟨hI_N_32, hF_N_32, (by omega), hX_N_32, ⟨(Or.inl ⟨⟨by omega, by omega, ⟨by omega, by omega, hsy.2.1⟩, hsy.2.2⟩, zFI.cv haf_N_29 (by omega)⟩), (zTC.fr htc_N_21 hI_N_21 hk_c0 hG_N_32 rfl)⟩⟩ dX11_next_73
        · have hxA : (N_21 (M c0 5) 5) = (M (M c0 5) 5) := Fr.e hF_N_21 hk_1 5 rfl
          have hA : AT M (N_21 (M c0 5) 5) q 185 := by rw [hxA]; exact hU.2 (by omega)
          have hn3 : M (N_21 (M c0 5) 5) 3 = q (85 * a1 + 103) := hA.n (d := 3) (by decide) (by omega)
          have hsy := zSR.y hsr_N_17 (by omega)
          refine kx_iload_n 66 F 2 dX11_next_65 rfl rfl rfl ?_
          refine kx_iload_n 67 F 3 dX11_next_66 rfl rfl rfl ?_
          refine kx_Vi 70 (ci := 0) F (As := [vR G (M c0 5), vR G (N_21 (M c0 5) 5), vI a2, vI a3]) (st := [vR G c0]) vd_X11_289 (e_after3 G l N_21 r_20 (M c0 5) (N_21 (M c0 5) 5) a2 a3 hI_N_21 hk_23 hk_1 hk_27 (by omega) q (85 * a1 + 100) (zTQA q (85 * a1 + 100)) (zSN.fr hS hk_1 hF_N_21 rfl) (by rw [show 85 * a1 + 100 = 185 by omega]; exact AT.fr2 hA hI_M hk_27 hF_N_21 rfl) hto_N_21 hsy.2.1 hsy.2.2.2) hk_23 rfl rfl rfl ⟨by decide, by decide⟩ rfl rfl (Nat.le_of_ble_eq_true rfl) dX11_next_67 rfl ?_
          intro r_34 N_35 q_36
          obtain ⟨rfl, q_36c, haf_N_35⟩ := q_36
          refine kx_Vi 73 (ci := 0) F (As := [vI r_34]) (st := []) vd_X11_145 (c_X11_answer G l N_21 c0 r_34 hI_N_21 hk_c0 (by omega)) hk_c0 rfl rfl rfl ⟨by decide, by decide⟩ rfl rfl (Nat.le_of_ble_eq_true rfl) dX11_next_70 rfl ?_
          intro r_37 N_38 q_39
          obtain ⟨hI_N_38, hG_N_38, q_39c⟩ := q_39
          have hF_N_38 : Fr f_e_next3 M N_38 := Fr.c hF_N_21 hG_N_38 rfl
          have hX_N_38 : XX N_38 := XX.fr hX_N_21 hI_N_21 hG_N_38 rfl
          exact kx_iret F hQ ⟨hI_N_38, hF_N_38, (by omega), hX_N_38, ⟨(Or.inl ⟨⟨by omega, by omega, ⟨by omega, by omega, hsy.2.1⟩, hsy.2.2⟩, zFI.cv haf_N_35 (by omega)⟩), (zTC.fr htc_N_21 hI_N_21 hk_c0 hG_N_38 rfl)⟩⟩ dX11_next_73
      · refine kx_istore 35 F 4 (lo' := [some (vR G c0), some (vI a1), some (vI a2), some (vI a3), some (vI r_16)]) dX11_next_33 (by decide) rfl rfl rfl ?_
        refine kx_iload 37 F 4 dX11_next_35 rfl rfl ?_
        refine kx_if_eq 40 F 47 dX11_next_37 (by decide) rfl (by omega) (fun h_40 => (by exfalso; omega)) (fun h_40 => ?_)
        refine kx_aload_n 41 F 0 dX11_next_40 rfl rfl rfl ?_
        refine kx_iload 43 F 4 dX11_next_41 rfl rfl ?_
        refine kx_Vi 46 (ci := 0) F (As := [vI r_16]) (st := []) vd_X11_110 (c_X11_refuse G l N_17 c0 r_16 hI_N_17 hk_c0 (by omega)) hk_c0 rfl rfl rfl ⟨by decide, by decide⟩ rfl rfl (Nat.le_of_ble_eq_true rfl) dX11_next_43 rfl ?_
        intro r_41 N_42 q_43
        obtain ⟨hI_N_42, hG_N_42, q_43c⟩ := q_43
        have hF_N_42 : Fr f_e_next3 M N_42 := Fr.c hF_N_17 hG_N_42 rfl
        have hX_N_42 : XX N_42 := XX.fr hX_N_17 hI_N_17 hG_N_42 rfl
        subst q_43c
        exact kx_iret F hQ ⟨hI_N_42, hF_N_42, (by omega), hX_N_42, ⟨(Or.inr ⟨fun h => (zSR.n hsr_N_17 (by omega)) ⟨by have h1 := h.1; have h2 := h.2.1; have h3 := h.2.2.1.1; have h4 := h.2.2.1.2.1; clear h; omega, h.2.2.1.2.2, h.2.2.2.1, h.2.2.2.2⟩, by omega⟩), (zTC.fr htc_N_17 hI_N_17 hk_c0 hG_N_42 rfl)⟩⟩ dX11_next_46
    · refine kx_if_eq 23 F 27 dX11_next_20 (by decide) rfl (by omega) (fun h_44 => ?_) (fun h_44 => (by exfalso; omega))
      refine kx_iconst 28 F dX11_next_27 rfl ?_
      refine kx_iload_n 29 F 1 dX11_next_28 rfl rfl rfl ?_
      refine kx_iload_n 30 F 2 dX11_next_29 rfl rfl rfl ?_
      refine kx_Vi 33 (ci := 0) F (As := [vI 0, vI a1, vI a2]) (st := []) vd_X11_278 (e_summaryRefusal3 G l M c0 0 a1 a2 hI_M hk_c0 (by omega) hX_M q hS hU hF hK (fun h => ⟨by omega, by omega⟩)) hk_c0 rfl rfl rfl ⟨by decide, by decide⟩ rfl rfl (Nat.le_of_ble_eq_true rfl) dX11_next_30 rfl ?_
      intro r_45 N_46 q_47
      obtain ⟨hI_N_46, hG_N_46, q_47c, hX_N_46, ⟨hsr_N_46, htc_N_46⟩⟩ := q_47
      have hF_N_46 : Fr f_e_next3 M N_46 := Fr.c hF_M hG_N_46 rfl
      rcases q_47c with q_47c | q_47c
      · exfalso; omega
      · refine kx_istore 35 F 4 (lo' := [some (vR G c0), some (vI a1), some (vI a2), some (vI a3), some (vI r_45)]) dX11_next_33 (by decide) rfl rfl rfl ?_
        refine kx_iload 37 F 4 dX11_next_35 rfl rfl ?_
        refine kx_if_eq 40 F 47 dX11_next_37 (by decide) rfl (by omega) (fun h_48 => (by exfalso; omega)) (fun h_48 => ?_)
        refine kx_aload_n 41 F 0 dX11_next_40 rfl rfl rfl ?_
        refine kx_iload 43 F 4 dX11_next_41 rfl rfl ?_
        refine kx_Vi 46 (ci := 0) F (As := [vI r_45]) (st := []) vd_X11_110 (c_X11_refuse G l N_46 c0 r_45 hI_N_46 hk_c0 (by omega)) hk_c0 rfl rfl rfl ⟨by decide, by decide⟩ rfl rfl (Nat.le_of_ble_eq_true rfl) dX11_next_43 rfl ?_
        intro r_49 N_50 q_51
        obtain ⟨hI_N_50, hG_N_50, q_51c⟩ := q_51
        have hF_N_50 : Fr f_e_next3 M N_50 := Fr.c hF_N_46 hG_N_50 rfl
        have hX_N_50 : XX N_50 := XX.fr hX_N_46 hI_N_46 hG_N_50 rfl
        subst q_51c
        exact kx_iret F hQ ⟨hI_N_50, hF_N_50, (by omega), hX_N_50, ⟨(Or.inr ⟨fun h => (zSR.n hsr_N_46 (by omega)) ⟨by have h1 := h.1; have h2 := h.2.1; have h3 := h.2.2.1.1; have h4 := h.2.2.1.2.1; clear h; omega, h.2.2.1.2.2, h.2.2.2.1, h.2.2.2.2⟩, by omega⟩), (zTC.fr htc_N_46 hI_N_46 hk_c0 hG_N_50 rfl)⟩⟩ dX11_next_46
    · refine kx_if_eq 23 F 27 dX11_next_20 (by decide) rfl (by omega) (fun h_52 => ?_) (fun h_52 => (by exfalso; omega))
      refine kx_iconst 28 F dX11_next_27 rfl ?_
      refine kx_iload_n 29 F 1 dX11_next_28 rfl rfl rfl ?_
      refine kx_iload_n 30 F 2 dX11_next_29 rfl rfl rfl ?_
      refine kx_Vi 33 (ci := 0) F (As := [vI 0, vI a1, vI a2]) (st := []) vd_X11_278 (e_summaryRefusal3 G l M c0 0 a1 a2 hI_M hk_c0 (by omega) hX_M q hS hU hF hK (fun h => ⟨by omega, by omega⟩)) hk_c0 rfl rfl rfl ⟨by decide, by decide⟩ rfl rfl (Nat.le_of_ble_eq_true rfl) dX11_next_30 rfl ?_
      intro r_53 N_54 q_55
      obtain ⟨hI_N_54, hG_N_54, q_55c, hX_N_54, ⟨hsr_N_54, htc_N_54⟩⟩ := q_55
      have hF_N_54 : Fr f_e_next3 M N_54 := Fr.c hF_M hG_N_54 rfl
      rcases q_55c with q_55c | q_55c
      · exfalso; omega
      · refine kx_istore 35 F 4 (lo' := [some (vR G c0), some (vI a1), some (vI a2), some (vI a3), some (vI r_53)]) dX11_next_33 (by decide) rfl rfl rfl ?_
        refine kx_iload 37 F 4 dX11_next_35 rfl rfl ?_
        refine kx_if_eq 40 F 47 dX11_next_37 (by decide) rfl (by omega) (fun h_56 => (by exfalso; omega)) (fun h_56 => ?_)
        refine kx_aload_n 41 F 0 dX11_next_40 rfl rfl rfl ?_
        refine kx_iload 43 F 4 dX11_next_41 rfl rfl ?_
        refine kx_Vi 46 (ci := 0) F (As := [vI r_53]) (st := []) vd_X11_110 (c_X11_refuse G l N_54 c0 r_53 hI_N_54 hk_c0 (by omega)) hk_c0 rfl rfl rfl ⟨by decide, by decide⟩ rfl rfl (Nat.le_of_ble_eq_true rfl) dX11_next_43 rfl ?_
        intro r_57 N_58 q_59
        obtain ⟨hI_N_58, hG_N_58, q_59c⟩ := q_59
        have hF_N_58 : Fr f_e_next3 M N_58 := Fr.c hF_N_54 hG_N_58 rfl
        have hX_N_58 : XX N_58 := XX.fr hX_N_54 hI_N_54 hG_N_58 rfl
        subst q_59c
        exact kx_iret F hQ ⟨hI_N_58, hF_N_58, (by omega), hX_N_58, ⟨(Or.inr ⟨fun h => (zSR.n hsr_N_54 (by omega)) ⟨by have h1 := h.1; have h2 := h.2.1; have h3 := h.2.2.1.1; have h4 := h.2.2.1.2.1; clear h; omega, h.2.2.1.2.2, h.2.2.2.1, h.2.2.2.2⟩, by omega⟩), (zTC.fr htc_N_54 hI_N_54 hk_c0 hG_N_58 rfl)⟩⟩ dX11_next_46
  · refine kx_if_eq 12 F 27 dX11_next_9 (by decide) rfl (by omega) (fun h_60 => ?_) (fun h_60 => (by exfalso; omega))
    refine kx_iconst 28 F dX11_next_27 rfl ?_
    refine kx_iload_n 29 F 1 dX11_next_28 rfl rfl rfl ?_
    refine kx_iload_n 30 F 2 dX11_next_29 rfl rfl rfl ?_
    refine kx_Vi 33 (ci := 0) F (As := [vI 0, vI a1, vI a2]) (st := []) vd_X11_278 (e_summaryRefusal3 G l M c0 0 a1 a2 hI_M hk_c0 (by omega) hX_M q hS hU hF hK (fun h => ⟨by omega, by omega⟩)) hk_c0 rfl rfl rfl ⟨by decide, by decide⟩ rfl rfl (Nat.le_of_ble_eq_true rfl) dX11_next_30 rfl ?_
    intro r_61 N_62 q_63
    obtain ⟨hI_N_62, hG_N_62, q_63c, hX_N_62, ⟨hsr_N_62, htc_N_62⟩⟩ := q_63
    have hF_N_62 : Fr f_e_next3 M N_62 := Fr.c hF_M hG_N_62 rfl
    rcases q_63c with q_63c | q_63c
    · exfalso; omega
    · refine kx_istore 35 F 4 (lo' := [some (vR G c0), some (vI a1), some (vI a2), some (vI a3), some (vI r_61)]) dX11_next_33 (by decide) rfl rfl rfl ?_
      refine kx_iload 37 F 4 dX11_next_35 rfl rfl ?_
      refine kx_if_eq 40 F 47 dX11_next_37 (by decide) rfl (by omega) (fun h_64 => (by exfalso; omega)) (fun h_64 => ?_)
      refine kx_aload_n 41 F 0 dX11_next_40 rfl rfl rfl ?_
      refine kx_iload 43 F 4 dX11_next_41 rfl rfl ?_
      refine kx_Vi 46 (ci := 0) F (As := [vI r_61]) (st := []) vd_X11_110 (c_X11_refuse G l N_62 c0 r_61 hI_N_62 hk_c0 (by omega)) hk_c0 rfl rfl rfl ⟨by decide, by decide⟩ rfl rfl (Nat.le_of_ble_eq_true rfl) dX11_next_43 rfl ?_
      intro r_65 N_66 q_67
      obtain ⟨hI_N_66, hG_N_66, q_67c⟩ := q_67
      have hF_N_66 : Fr f_e_next3 M N_66 := Fr.c hF_N_62 hG_N_66 rfl
      have hX_N_66 : XX N_66 := XX.fr hX_N_62 hI_N_62 hG_N_66 rfl
      subst q_67c
      exact kx_iret F hQ ⟨hI_N_66, hF_N_66, (by omega), hX_N_66, ⟨(Or.inr ⟨fun h => (zSR.n hsr_N_62 (by omega)) ⟨by have h1 := h.1; have h2 := h.2.1; have h3 := h.2.2.1.1; have h4 := h.2.2.1.2.1; clear h; omega, h.2.2.1.2.2, h.2.2.2.1, h.2.2.2.2⟩, by omega⟩), (zTC.fr htc_N_62 hI_N_62 hk_c0 hG_N_66 rfl)⟩⟩ dX11_next_46
  · refine kx_if_eq 12 F 27 dX11_next_9 (by decide) rfl (by omega) (fun h_68 => ?_) (fun h_68 => (by exfalso; omega))
    refine kx_iconst 28 F dX11_next_27 rfl ?_
    refine kx_iload_n 29 F 1 dX11_next_28 rfl rfl rfl ?_
    refine kx_iload_n 30 F 2 dX11_next_29 rfl rfl rfl ?_
    refine kx_Vi 33 (ci := 0) F (As := [vI 0, vI a1, vI a2]) (st := []) vd_X11_278 (e_summaryRefusal3 G l M c0 0 a1 a2 hI_M hk_c0 (by omega) hX_M q hS hU hF hK (fun h => ⟨by omega, by omega⟩)) hk_c0 rfl rfl rfl ⟨by decide, by decide⟩ rfl rfl (Nat.le_of_ble_eq_true rfl) dX11_next_30 rfl ?_
    intro r_69 N_70 q_71
    obtain ⟨hI_N_70, hG_N_70, q_71c, hX_N_70, ⟨hsr_N_70, htc_N_70⟩⟩ := q_71
    have hF_N_70 : Fr f_e_next3 M N_70 := Fr.c hF_M hG_N_70 rfl
    rcases q_71c with q_71c | q_71c
    · exfalso; omega
    · refine kx_istore 35 F 4 (lo' := [some (vR G c0), some (vI a1), some (vI a2), some (vI a3), some (vI r_69)]) dX11_next_33 (by decide) rfl rfl rfl ?_
      refine kx_iload 37 F 4 dX11_next_35 rfl rfl ?_
      refine kx_if_eq 40 F 47 dX11_next_37 (by decide) rfl (by omega) (fun h_72 => (by exfalso; omega)) (fun h_72 => ?_)
      refine kx_aload_n 41 F 0 dX11_next_40 rfl rfl rfl ?_
      refine kx_iload 43 F 4 dX11_next_41 rfl rfl ?_
      refine kx_Vi 46 (ci := 0) F (As := [vI r_69]) (st := []) vd_X11_110 (c_X11_refuse G l N_70 c0 r_69 hI_N_70 hk_c0 (by omega)) hk_c0 rfl rfl rfl ⟨by decide, by decide⟩ rfl rfl (Nat.le_of_ble_eq_true rfl) dX11_next_43 rfl ?_
      intro r_73 N_74 q_75
      obtain ⟨hI_N_74, hG_N_74, q_75c⟩ := q_75
      have hF_N_74 : Fr f_e_next3 M N_74 := Fr.c hF_N_70 hG_N_74 rfl
      have hX_N_74 : XX N_74 := XX.fr hX_N_70 hI_N_70 hG_N_74 rfl
      subst q_75c
      exact kx_iret F hQ ⟨hI_N_74, hF_N_74, (by omega), hX_N_74, ⟨(Or.inr ⟨fun h => (zSR.n hsr_N_70 (by omega)) ⟨by have h1 := h.1; have h2 := h.2.1; have h3 := h.2.2.1.1; have h4 := h.2.2.1.2.1; clear h; omega, h.2.2.1.2.2, h.2.2.2.1, h.2.2.2.2⟩, by omega⟩), (zTC.fr htc_N_70 hI_N_70 hk_c0 hG_N_74 rfl)⟩⟩ dX11_next_46
abbrev f_e_nextBack3 : List (Nat × Int) := [(21, 0), (21, 1), (22, -1), (23, -1), (24, -1), (25, -1), (62, 0)]
set_option maxHeartbeats 4000000 in
set_option maxRecDepth 100000 in
theorem e_nextBack3 (G : KG) (l : Launch) (M : Mem) (c0 : Int) (a1 : Int) (a2 : Int) (a3 : Int) (a4 : Int) (a5 : Int) (hI_M : Inv false M) (hk_c0 : kd c0 = 62) (hpre : -2147483648 ≤ a1 ∧ a1 ≤ 2147483647 ∧ -2147483648 ≤ a2 ∧ a2 ≤ 2147483647 ∧ -2147483648 ≤ a3 ∧ a3 ≤ 2147483647 ∧ -2147483648 ≤ a4 ∧ a4 ≤ 2147483647 ∧ -2147483648 ≤ a5 ∧ a5 ≤ 2147483647) (hX_M : XX M) (q : Int → Int) (hS : zSN M (M c0 5) q) (hU : zSU M (M c0 5) q) (hF : zTF M c0) (hK : zTC M c0 q) : KC false G l yX11_nextBack cX11_nextBack 10 (some .int) (6, 143) [vR G c0, vI a1, vI a2, vI a3, vI a4, vI a5] M (fun A => kQi false G A (fun (r : Int) (N : Mem) => Inv false N ∧ Fr f_e_nextBack3 M N ∧ (r ≥ -2147483648 ∧ r ≤ 2147483647) ∧ XX N ∧ ((zNBK q a1 a2 a3 a4 a5 r) ∧ zTC N c0 q))) := by
  refine kx_met (lo := [some (vR G c0), some (vI a1), some (vI a2), some (vI a3), some (vI a4), some (vI a5), none, none, none, none]) (by decide) (Nat.le_of_ble_eq_true rfl) rfl ?_
  intro X F hQ
  have hF_M : Fr f_e_nextBack3 M M := Fr.rf _ _
  have hk_1 : kd (M c0 5) = 12 := Inv.r hI_M hk_c0 rfl 5 rfl rfl
  have hSn := hS.u
  have hk_2 : kd (M c0 8) = 21 := Inv.r hI_M hk_c0 rfl 8 rfl rfl
  have hk_3 : kd (M c0 9) = 21 := Inv.r hI_M hk_c0 rfl 9 rfl rfl
  refine kx_aload_n 1 F 0 dX11_nextBack_0 rfl rfl rfl ?_
  refine kx_getr 4 F fl_X11_26 hk_c0 rfl rfl (j := 5) rfl dX11_nextBack_1 (v := (M c0 5)) rfl rfl ?_
  refine kx_iload_n 5 F 1 dX11_nextBack_4 rfl rfl rfl ?_
  refine kx_Vi 8 (ci := 0) F (As := [vI a1]) (st := []) vd_X11_163 (e_X5_has G l M (M c0 5) a1 hI_M hk_1 (by omega)) hk_1 rfl rfl rfl ⟨by decide, by decide⟩ rfl rfl (Nat.le_of_ble_eq_true rfl) dX11_nextBack_5 rfl ?_
  intro r_4 N_5 q_6
  obtain ⟨rfl, q_6c⟩ := q_6
  have h_7 := Inv.g hI_M hk_1 rfl 3 (a := 0) (b := 2) rfl rfl
  rcases q_6c with q_6c | q_6c | q_6c
  · refine kx_if_eq 11 F 39 dX11_nextBack_8 (by decide) rfl (by omega) (fun h_9 => (by exfalso; omega)) (fun h_9 => ?_)
    refine kx_aload_n 12 F 0 dX11_nextBack_11 rfl rfl rfl ?_
    refine kx_getr 15 F fl_X11_26 hk_c0 rfl rfl (j := 5) rfl dX11_nextBack_12 (v := (M c0 5)) rfl rfl ?_
    refine kx_iload_n 16 F 3 dX11_nextBack_15 rfl rfl rfl ?_
    refine kx_Vi 19 (ci := 0) F (As := [vI a3]) (st := []) vd_X11_242 (e_X5_sortOf G l M (M c0 5) a3 hI_M hk_1 (by omega)) hk_1 rfl rfl rfl ⟨by decide, by decide⟩ rfl rfl (Nat.le_of_ble_eq_true rfl) dX11_nextBack_16 rfl ?_
    intro r_10 N_11 q_12
    obtain ⟨rfl, q_12c⟩ := q_12
    have h_13 := Inv.g hI_M hk_1 rfl 2 (a := 0) (b := 6) rfl rfl
    have h_14 := Inv.g hI_M hk_1 rfl 0 (a := 0) (b := 2) rfl rfl
    have h_17 := Inv.g hI_M hk_1 rfl 1 (a := 0) (b := 4) rfl rfl
    rcases q_12c with q_12c | q_12c | q_12c | q_12c | q_12c
    · refine kx_iconst 20 F dX11_nextBack_19 rfl ?_
      refine kx_icmp_ne 23 F 39 dX11_nextBack_20 (by decide) rfl (by omega) (by decide) (fun h_22 => ?_) (fun h_22 => (by exfalso; omega))
      refine kx_iconst 40 F dX11_nextBack_39 rfl ?_
      refine kx_istore 42 F 6 (lo' := [some (vR G c0), some (vI a1), some (vI a2), some (vI a3), some (vI a4), some (vI a5), some (vI 0), none, none, none]) dX11_nextBack_40 (by decide) rfl rfl rfl ?_
      refine kx_aload_n 43 F 0 dX11_nextBack_42 rfl rfl rfl ?_
      refine kx_iload 45 F 6 dX11_nextBack_43 rfl rfl ?_
      refine kx_iload_n 46 F 1 dX11_nextBack_45 rfl rfl rfl ?_
      refine kx_iload_n 47 F 2 dX11_nextBack_46 rfl rfl rfl ?_
      refine kx_Vi 50 (ci := 0) F (As := [vI 0, vI a1, vI a2]) (st := []) vd_X11_278 (e_summaryRefusal3 G l M c0 0 a1 a2 hI_M hk_c0 (by omega) hX_M q hS hU hF hK (fun h => ⟨by omega, by omega⟩)) hk_c0 rfl rfl rfl ⟨by decide, by decide⟩ rfl rfl (Nat.le_of_ble_eq_true rfl) dX11_nextBack_47 rfl ?_
      intro r_23 N_24 q_25
      obtain ⟨hI_N_24, hG_N_24, q_25c, hX_N_24, ⟨hsr_N_24, htc_N_24⟩⟩ := q_25
      have hF_N_24 : Fr f_e_nextBack3 M N_24 := Fr.c hF_M hG_N_24 rfl
      rcases q_25c with q_25c | q_25c
      · exfalso; omega
      · refine kx_istore 52 F 7 (lo' := [some (vR G c0), some (vI a1), some (vI a2), some (vI a3), some (vI a4), some (vI a5), some (vI 0), some (vI r_23), none, none]) dX11_nextBack_50 (by decide) rfl rfl rfl ?_
        refine kx_iload 54 F 7 dX11_nextBack_52 rfl rfl ?_
        refine kx_if_ne 57 F 67 dX11_nextBack_54 (by decide) rfl (by omega) (fun h_26 => ?_) (fun h_26 => (by exfalso; omega))
        refine kx_iload 69 F 7 dX11_nextBack_67 rfl rfl ?_
        refine kx_if_eq 72 F 79 dX11_nextBack_69 (by decide) rfl (by omega) (fun h_27 => (by exfalso; omega)) (fun h_27 => ?_)
        refine kx_aload_n 73 F 0 dX11_nextBack_72 rfl rfl rfl ?_
        refine kx_iload 75 F 7 dX11_nextBack_73 rfl rfl ?_
        refine kx_Vi 78 (ci := 0) F (As := [vI r_23]) (st := []) vd_X11_110 (c_X11_refuse G l N_24 c0 r_23 hI_N_24 hk_c0 (by omega)) hk_c0 rfl rfl rfl ⟨by decide, by decide⟩ rfl rfl (Nat.le_of_ble_eq_true rfl) dX11_nextBack_75 rfl ?_
        intro r_28 N_29 q_30
        obtain ⟨hI_N_29, hG_N_29, q_30c⟩ := q_30
        have hF_N_29 : Fr f_e_nextBack3 M N_29 := Fr.c hF_N_24 hG_N_29 rfl
        have hX_N_29 : XX N_29 := XX.fr hX_N_24 hI_N_24 hG_N_29 rfl
        subst q_30c
        exact kx_iret F hQ ⟨hI_N_29, hF_N_29, (by omega), hX_N_29, ⟨(Or.inr ⟨fun h => (zSR.n hsr_N_24 (by omega)) ⟨by have h1 := h.1; have h2 := h.2.1; have h3 := h.2.2.1; have h4 := h.2.2.2.1; have h5 := h.2.2.2.2.1.1.1; have h6 := h.2.2.2.2.1.1.2.1; clear h; omega, h.2.2.2.2.1.1.2.2, h.2.2.2.2.1.2.1, h.2.2.2.2.1.2.2⟩, by omega⟩), (zTC.fr htc_N_24 hI_N_24 hk_c0 hG_N_29 rfl)⟩⟩ dX11_nextBack_78
    · refine kx_iconst 20 F dX11_nextBack_19 rfl ?_
      refine kx_icmp_ne 23 F 39 dX11_nextBack_20 (by decide) rfl (by omega) (by decide) (fun h_31 => ?_) (fun h_31 => (by exfalso; omega))
      refine kx_iconst 40 F dX11_nextBack_39 rfl ?_
      refine kx_istore 42 F 6 (lo' := [some (vR G c0), some (vI a1), some (vI a2), some (vI a3), some (vI a4), some (vI a5), some (vI 0), none, none, none]) dX11_nextBack_40 (by decide) rfl rfl rfl ?_
      refine kx_aload_n 43 F 0 dX11_nextBack_42 rfl rfl rfl ?_
      refine kx_iload 45 F 6 dX11_nextBack_43 rfl rfl ?_
      refine kx_iload_n 46 F 1 dX11_nextBack_45 rfl rfl rfl ?_
      refine kx_iload_n 47 F 2 dX11_nextBack_46 rfl rfl rfl ?_
      refine kx_Vi 50 (ci := 0) F (As := [vI 0, vI a1, vI a2]) (st := []) vd_X11_278 (e_summaryRefusal3 G l M c0 0 a1 a2 hI_M hk_c0 (by omega) hX_M q hS hU hF hK (fun h => ⟨by omega, by omega⟩)) hk_c0 rfl rfl rfl ⟨by decide, by decide⟩ rfl rfl (Nat.le_of_ble_eq_true rfl) dX11_nextBack_47 rfl ?_
      intro r_32 N_33 q_34
      obtain ⟨hI_N_33, hG_N_33, q_34c, hX_N_33, ⟨hsr_N_33, htc_N_33⟩⟩ := q_34
      have hF_N_33 : Fr f_e_nextBack3 M N_33 := Fr.c hF_M hG_N_33 rfl
      rcases q_34c with q_34c | q_34c
      · exfalso; omega
      · refine kx_istore 52 F 7 (lo' := [some (vR G c0), some (vI a1), some (vI a2), some (vI a3), some (vI a4), some (vI a5), some (vI 0), some (vI r_32), none, none]) dX11_nextBack_50 (by decide) rfl rfl rfl ?_
        refine kx_iload 54 F 7 dX11_nextBack_52 rfl rfl ?_
        refine kx_if_ne 57 F 67 dX11_nextBack_54 (by decide) rfl (by omega) (fun h_35 => ?_) (fun h_35 => (by exfalso; omega))
        refine kx_iload 69 F 7 dX11_nextBack_67 rfl rfl ?_
        refine kx_if_eq 72 F 79 dX11_nextBack_69 (by decide) rfl (by omega) (fun h_36 => (by exfalso; omega)) (fun h_36 => ?_)
        refine kx_aload_n 73 F 0 dX11_nextBack_72 rfl rfl rfl ?_
        refine kx_iload 75 F 7 dX11_nextBack_73 rfl rfl ?_
        refine kx_Vi 78 (ci := 0) F (As := [vI r_32]) (st := []) vd_X11_110 (c_X11_refuse G l N_33 c0 r_32 hI_N_33 hk_c0 (by omega)) hk_c0 rfl rfl rfl ⟨by decide, by decide⟩ rfl rfl (Nat.le_of_ble_eq_true rfl) dX11_nextBack_75 rfl ?_
        intro r_37 N_38 q_39
        obtain ⟨hI_N_38, hG_N_38, q_39c⟩ := q_39
        have hF_N_38 : Fr f_e_nextBack3 M N_38 := Fr.c hF_N_33 hG_N_38 rfl
        have hX_N_38 : XX N_38 := XX.fr hX_N_33 hI_N_33 hG_N_38 rfl
        subst q_39c
        exact kx_iret F hQ ⟨hI_N_38, hF_N_38, (by omega), hX_N_38, ⟨(Or.inr ⟨fun h => (zSR.n hsr_N_33 (by omega)) ⟨by have h1 := h.1; have h2 := h.2.1; have h3 := h.2.2.1; have h4 := h.2.2.2.1; have h5 := h.2.2.2.2.1.1.1; have h6 := h.2.2.2.2.1.1.2.1; clear h; omega, h.2.2.2.2.1.1.2.2, h.2.2.2.2.1.2.1, h.2.2.2.2.1.2.2⟩, by omega⟩), (zTC.fr htc_N_33 hI_N_33 hk_c0 hG_N_38 rfl)⟩⟩ dX11_nextBack_78
    · refine kx_iconst 20 F dX11_nextBack_19 rfl ?_
      refine kx_icmp_ne 23 F 39 dX11_nextBack_20 (by decide) rfl (by omega) (by decide) (fun h_40 => ?_) (fun h_40 => (by exfalso; omega))
      refine kx_iconst 40 F dX11_nextBack_39 rfl ?_
      refine kx_istore 42 F 6 (lo' := [some (vR G c0), some (vI a1), some (vI a2), some (vI a3), some (vI a4), some (vI a5), some (vI 0), none, none, none]) dX11_nextBack_40 (by decide) rfl rfl rfl ?_
      refine kx_aload_n 43 F 0 dX11_nextBack_42 rfl rfl rfl ?_
      refine kx_iload 45 F 6 dX11_nextBack_43 rfl rfl ?_
      refine kx_iload_n 46 F 1 dX11_nextBack_45 rfl rfl rfl ?_
      refine kx_iload_n 47 F 2 dX11_nextBack_46 rfl rfl rfl ?_
      refine kx_Vi 50 (ci := 0) F (As := [vI 0, vI a1, vI a2]) (st := []) vd_X11_278 (e_summaryRefusal3 G l M c0 0 a1 a2 hI_M hk_c0 (by omega) hX_M q hS hU hF hK (fun h => ⟨by omega, by omega⟩)) hk_c0 rfl rfl rfl ⟨by decide, by decide⟩ rfl rfl (Nat.le_of_ble_eq_true rfl) dX11_nextBack_47 rfl ?_
      intro r_41 N_42 q_43
      obtain ⟨hI_N_42, hG_N_42, q_43c, hX_N_42, ⟨hsr_N_42, htc_N_42⟩⟩ := q_43
      have hF_N_42 : Fr f_e_nextBack3 M N_42 := Fr.c hF_M hG_N_42 rfl
      rcases q_43c with q_43c | q_43c
      · exfalso; omega
      · refine kx_istore 52 F 7 (lo' := [some (vR G c0), some (vI a1), some (vI a2), some (vI a3), some (vI a4), some (vI a5), some (vI 0), some (vI r_41), none, none]) dX11_nextBack_50 (by decide) rfl rfl rfl ?_
        refine kx_iload 54 F 7 dX11_nextBack_52 rfl rfl ?_
        refine kx_if_ne 57 F 67 dX11_nextBack_54 (by decide) rfl (by omega) (fun h_44 => ?_) (fun h_44 => (by exfalso; omega))
        refine kx_iload 69 F 7 dX11_nextBack_67 rfl rfl ?_
        refine kx_if_eq 72 F 79 dX11_nextBack_69 (by decide) rfl (by omega) (fun h_45 => (by exfalso; omega)) (fun h_45 => ?_)
        refine kx_aload_n 73 F 0 dX11_nextBack_72 rfl rfl rfl ?_
        refine kx_iload 75 F 7 dX11_nextBack_73 rfl rfl ?_
        refine kx_Vi 78 (ci := 0) F (As := [vI r_41]) (st := []) vd_X11_110 (c_X11_refuse G l N_42 c0 r_41 hI_N_42 hk_c0 (by omega)) hk_c0 rfl rfl rfl ⟨by decide, by decide⟩ rfl rfl (Nat.le_of_ble_eq_true rfl) dX11_nextBack_75 rfl ?_
        intro r_46 N_47 q_48
        obtain ⟨hI_N_47, hG_N_47, q_48c⟩ := q_48
        have hF_N_47 : Fr f_e_nextBack3 M N_47 := Fr.c hF_N_42 hG_N_47 rfl
        have hX_N_47 : XX N_47 := XX.fr hX_N_42 hI_N_42 hG_N_47 rfl
        subst q_48c
        exact kx_iret F hQ ⟨hI_N_47, hF_N_47, (by omega), hX_N_47, ⟨(Or.inr ⟨fun h => (zSR.n hsr_N_42 (by omega)) ⟨by have h1 := h.1; have h2 := h.2.1; have h3 := h.2.2.1; have h4 := h.2.2.2.1; have h5 := h.2.2.2.2.1.1.1; have h6 := h.2.2.2.2.1.1.2.1; clear h; omega, h.2.2.2.2.1.1.2.2, h.2.2.2.2.1.2.1, h.2.2.2.2.1.2.2⟩, by omega⟩), (zTC.fr htc_N_42 hI_N_42 hk_c0 hG_N_47 rfl)⟩⟩ dX11_nextBack_78
    · refine kx_iconst 20 F dX11_nextBack_19 rfl ?_
      refine kx_icmp_ne 23 F 39 dX11_nextBack_20 (by decide) rfl (by omega) (by decide) (fun h_49 => (by exfalso; omega)) (fun h_49 => ?_)
      refine kx_aload_n 24 F 0 dX11_nextBack_23 rfl rfl rfl ?_
      refine kx_getr 27 F fl_X11_26 hk_c0 rfl rfl (j := 5) rfl dX11_nextBack_24 (v := (M c0 5)) rfl rfl ?_
      refine kx_iload 29 F 5 dX11_nextBack_27 rfl rfl ?_
      refine kx_Vi 32 (ci := 0) F (As := [vI a5]) (st := []) vd_X11_242 (e_X5_sortOf G l M (M c0 5) a5 hI_M hk_1 (by omega)) hk_1 rfl rfl rfl ⟨by decide, by decide⟩ rfl rfl (Nat.le_of_ble_eq_true rfl) dX11_nextBack_29 rfl ?_
      intro r_50 N_51 q_52
      obtain ⟨rfl, q_52c⟩ := q_52
      rcases q_52c with q_52c | q_52c | q_52c | q_52c | q_52c
      · refine kx_if_ne 35 F 39 dX11_nextBack_32 (by decide) rfl (by omega) (fun h_53 => ?_) (fun h_53 => (by exfalso; omega))
        refine kx_iconst 40 F dX11_nextBack_39 rfl ?_
        refine kx_istore 42 F 6 (lo' := [some (vR G c0), some (vI a1), some (vI a2), some (vI a3), some (vI a4), some (vI a5), some (vI 0), none, none, none]) dX11_nextBack_40 (by decide) rfl rfl rfl ?_
        refine kx_aload_n 43 F 0 dX11_nextBack_42 rfl rfl rfl ?_
        refine kx_iload 45 F 6 dX11_nextBack_43 rfl rfl ?_
        refine kx_iload_n 46 F 1 dX11_nextBack_45 rfl rfl rfl ?_
        refine kx_iload_n 47 F 2 dX11_nextBack_46 rfl rfl rfl ?_
        refine kx_Vi 50 (ci := 0) F (As := [vI 0, vI a1, vI a2]) (st := []) vd_X11_278 (e_summaryRefusal3 G l M c0 0 a1 a2 hI_M hk_c0 (by omega) hX_M q hS hU hF hK (fun h => ⟨by omega, by omega⟩)) hk_c0 rfl rfl rfl ⟨by decide, by decide⟩ rfl rfl (Nat.le_of_ble_eq_true rfl) dX11_nextBack_47 rfl ?_
        intro r_54 N_55 q_56
        obtain ⟨hI_N_55, hG_N_55, q_56c, hX_N_55, ⟨hsr_N_55, htc_N_55⟩⟩ := q_56
        have hF_N_55 : Fr f_e_nextBack3 M N_55 := Fr.c hF_M hG_N_55 rfl
        rcases q_56c with q_56c | q_56c
        · exfalso; omega
        · refine kx_istore 52 F 7 (lo' := [some (vR G c0), some (vI a1), some (vI a2), some (vI a3), some (vI a4), some (vI a5), some (vI 0), some (vI r_54), none, none]) dX11_nextBack_50 (by decide) rfl rfl rfl ?_
          refine kx_iload 54 F 7 dX11_nextBack_52 rfl rfl ?_
          refine kx_if_ne 57 F 67 dX11_nextBack_54 (by decide) rfl (by omega) (fun h_57 => ?_) (fun h_57 => (by exfalso; omega))
          refine kx_iload 69 F 7 dX11_nextBack_67 rfl rfl ?_
          refine kx_if_eq 72 F 79 dX11_nextBack_69 (by decide) rfl (by omega) (fun h_58 => (by exfalso; omega)) (fun h_58 => ?_)
          refine kx_aload_n 73 F 0 dX11_nextBack_72 rfl rfl rfl ?_
          refine kx_iload 75 F 7 dX11_nextBack_73 rfl rfl ?_
          refine kx_Vi 78 (ci := 0) F (As := [vI r_54]) (st := []) vd_X11_110 (c_X11_refuse G l N_55 c0 r_54 hI_N_55 hk_c0 (by omega)) hk_c0 rfl rfl rfl ⟨by decide, by decide⟩ rfl rfl (Nat.le_of_ble_eq_true rfl) dX11_nextBack_75 rfl ?_
          intro r_59 N_60 q_61
          obtain ⟨hI_N_60, hG_N_60, q_61c⟩ := q_61
          have hF_N_60 : Fr f_e_nextBack3 M N_60 := Fr.c hF_N_55 hG_N_60 rfl
          have hX_N_60 : XX N_60 := XX.fr hX_N_55 hI_N_55 hG_N_60 rfl
          subst q_61c
          exact kx_iret F hQ ⟨hI_N_60, hF_N_60, (by omega), hX_N_60, ⟨(Or.inr ⟨fun h => (zSR.n hsr_N_55 (by omega)) ⟨by have h1 := h.1; have h2 := h.2.1; have h3 := h.2.2.1; have h4 := h.2.2.2.1; have h5 := h.2.2.2.2.1.1.1; have h6 := h.2.2.2.2.1.1.2.1; clear h; omega, h.2.2.2.2.1.1.2.2, h.2.2.2.2.1.2.1, h.2.2.2.2.1.2.2⟩, by omega⟩), (zTC.fr htc_N_55 hI_N_55 hk_c0 hG_N_60 rfl)⟩⟩ dX11_nextBack_78
      · refine kx_if_ne 35 F 39 dX11_nextBack_32 (by decide) rfl (by omega) (fun h_62 => ?_) (fun h_62 => (by exfalso; omega))
        refine kx_iconst 40 F dX11_nextBack_39 rfl ?_
        refine kx_istore 42 F 6 (lo' := [some (vR G c0), some (vI a1), some (vI a2), some (vI a3), some (vI a4), some (vI a5), some (vI 0), none, none, none]) dX11_nextBack_40 (by decide) rfl rfl rfl ?_
        refine kx_aload_n 43 F 0 dX11_nextBack_42 rfl rfl rfl ?_
        refine kx_iload 45 F 6 dX11_nextBack_43 rfl rfl ?_
        refine kx_iload_n 46 F 1 dX11_nextBack_45 rfl rfl rfl ?_
        refine kx_iload_n 47 F 2 dX11_nextBack_46 rfl rfl rfl ?_
        refine kx_Vi 50 (ci := 0) F (As := [vI 0, vI a1, vI a2]) (st := []) vd_X11_278 (e_summaryRefusal3 G l M c0 0 a1 a2 hI_M hk_c0 (by omega) hX_M q hS hU hF hK (fun h => ⟨by omega, by omega⟩)) hk_c0 rfl rfl rfl ⟨by decide, by decide⟩ rfl rfl (Nat.le_of_ble_eq_true rfl) dX11_nextBack_47 rfl ?_
        intro r_63 N_64 q_65
        obtain ⟨hI_N_64, hG_N_64, q_65c, hX_N_64, ⟨hsr_N_64, htc_N_64⟩⟩ := q_65
        have hF_N_64 : Fr f_e_nextBack3 M N_64 := Fr.c hF_M hG_N_64 rfl
        rcases q_65c with q_65c | q_65c
        · exfalso; omega
        · refine kx_istore 52 F 7 (lo' := [some (vR G c0), some (vI a1), some (vI a2), some (vI a3), some (vI a4), some (vI a5), some (vI 0), some (vI r_63), none, none]) dX11_nextBack_50 (by decide) rfl rfl rfl ?_
          refine kx_iload 54 F 7 dX11_nextBack_52 rfl rfl ?_
          refine kx_if_ne 57 F 67 dX11_nextBack_54 (by decide) rfl (by omega) (fun h_66 => ?_) (fun h_66 => (by exfalso; omega))
          refine kx_iload 69 F 7 dX11_nextBack_67 rfl rfl ?_
          refine kx_if_eq 72 F 79 dX11_nextBack_69 (by decide) rfl (by omega) (fun h_67 => (by exfalso; omega)) (fun h_67 => ?_)
          refine kx_aload_n 73 F 0 dX11_nextBack_72 rfl rfl rfl ?_
          refine kx_iload 75 F 7 dX11_nextBack_73 rfl rfl ?_
          refine kx_Vi 78 (ci := 0) F (As := [vI r_63]) (st := []) vd_X11_110 (c_X11_refuse G l N_64 c0 r_63 hI_N_64 hk_c0 (by omega)) hk_c0 rfl rfl rfl ⟨by decide, by decide⟩ rfl rfl (Nat.le_of_ble_eq_true rfl) dX11_nextBack_75 rfl ?_
          intro r_68 N_69 q_70
          obtain ⟨hI_N_69, hG_N_69, q_70c⟩ := q_70
          have hF_N_69 : Fr f_e_nextBack3 M N_69 := Fr.c hF_N_64 hG_N_69 rfl
          have hX_N_69 : XX N_69 := XX.fr hX_N_64 hI_N_64 hG_N_69 rfl
          subst q_70c
          exact kx_iret F hQ ⟨hI_N_69, hF_N_69, (by omega), hX_N_69, ⟨(Or.inr ⟨fun h => (zSR.n hsr_N_64 (by omega)) ⟨by have h1 := h.1; have h2 := h.2.1; have h3 := h.2.2.1; have h4 := h.2.2.2.1; have h5 := h.2.2.2.2.1.1.1; have h6 := h.2.2.2.2.1.1.2.1; clear h; omega, h.2.2.2.2.1.1.2.2, h.2.2.2.2.1.2.1, h.2.2.2.2.1.2.2⟩, by omega⟩), (zTC.fr htc_N_64 hI_N_64 hk_c0 hG_N_69 rfl)⟩⟩ dX11_nextBack_78
      · refine kx_if_ne 35 F 39 dX11_nextBack_32 (by decide) rfl (by omega) (fun h_71 => (by exfalso; omega)) (fun h_71 => ?_)
        refine kx_iconst 36 F dX11_nextBack_35 rfl ?_
        refine kx_goto 40 F dX11_nextBack_36 (by decide) ?_
        refine kx_istore 42 F 6 (lo' := [some (vR G c0), some (vI a1), some (vI a2), some (vI a3), some (vI a4), some (vI a5), some (vI 1), none, none, none]) dX11_nextBack_40 (by decide) rfl rfl rfl ?_
        refine kx_aload_n 43 F 0 dX11_nextBack_42 rfl rfl rfl ?_
        refine kx_iload 45 F 6 dX11_nextBack_43 rfl rfl ?_
        refine kx_iload_n 46 F 1 dX11_nextBack_45 rfl rfl rfl ?_
        refine kx_iload_n 47 F 2 dX11_nextBack_46 rfl rfl rfl ?_
        refine kx_Vi 50 (ci := 0) F (As := [vI 1, vI a1, vI a2]) (st := []) vd_X11_278 (e_summaryRefusal3 G l M c0 1 a1 a2 hI_M hk_c0 (by omega) hX_M q hS hU hF hK (fun h => ⟨by omega, by omega⟩)) hk_c0 rfl rfl rfl ⟨by decide, by decide⟩ rfl rfl (Nat.le_of_ble_eq_true rfl) dX11_nextBack_47 rfl ?_
        intro r_72 N_73 q_74
        obtain ⟨hI_N_73, hG_N_73, q_74c, hX_N_73, ⟨hsr_N_73, htc_N_73⟩⟩ := q_74
        have hF_N_73 : Fr f_e_nextBack3 M N_73 := Fr.c hF_M hG_N_73 rfl
        rcases q_74c with q_74c | q_74c
        · refine kx_istore 52 F 7 (lo' := [some (vR G c0), some (vI a1), some (vI a2), some (vI a3), some (vI a4), some (vI a5), some (vI 1), some (vI r_72), none, none]) dX11_nextBack_50 (by decide) rfl rfl rfl ?_
          refine kx_iload 54 F 7 dX11_nextBack_52 rfl rfl ?_
          refine kx_if_ne 57 F 67 dX11_nextBack_54 (by decide) rfl (by omega) (fun h_75 => (by exfalso; omega)) (fun h_75 => ?_)
          refine kx_aload_n 58 F 0 dX11_nextBack_57 rfl rfl rfl ?_
          refine kx_iconst 59 F dX11_nextBack_58 rfl ?_
          refine kx_iload_n 60 F 1 dX11_nextBack_59 rfl rfl rfl ?_
          refine kx_iload 62 F 4 dX11_nextBack_60 rfl rfl ?_
          refine kx_Vi 65 (ci := 0) F (As := [vI 1, vI a1, vI a4]) (st := []) vd_X11_278 (e_summaryRefusal3 G l N_73 c0 1 a1 a4 hI_N_73 hk_c0 (by omega) hX_N_73 q (by rw [show N_73 c0 5 = M c0 5 from (Fr.e hF_N_73 hk_c0 5 rfl)]; exact zSN.fr hS hk_1 hF_N_73 rfl) (by rw [show N_73 c0 5 = M c0 5 from (Fr.e hF_N_73 hk_c0 5 rfl)]; exact zSU.fr2 hU hI_M hk_1 hF_N_73 rfl rfl) (zTF.fr hF hk_c0 hF_N_73 rfl) htc_N_73 (fun h => ⟨by omega, by omega⟩)) hk_c0 rfl rfl rfl ⟨by decide, by decide⟩ rfl rfl (Nat.le_of_ble_eq_true rfl) dX11_nextBack_62 rfl ?_
          intro r_76 N_77 q_78
          obtain ⟨hI_N_77, hG_N_77, q_78c, hX_N_77, ⟨hsr_N_77, htc_N_77⟩⟩ := q_78
          have hF_N_77 : Fr f_e_nextBack3 M N_77 := Fr.c hF_N_73 hG_N_77 rfl
          rcases q_78c with q_78c | q_78c
          · refine kx_istore 67 F 7 (lo' := [some (vR G c0), some (vI a1), some (vI a2), some (vI a3), some (vI a4), some (vI a5), some (vI 1), some (vI r_76), none, none]) dX11_nextBack_65 (by decide) rfl rfl rfl ?_
            refine kx_iload 69 F 7 dX11_nextBack_67 rfl rfl ?_
            refine kx_if_eq 72 F 79 dX11_nextBack_69 (by decide) rfl (by omega) (fun h_79 => ?_) (fun h_79 => (by exfalso; omega))
            refine kx_aload_n 80 F 0 dX11_nextBack_79 rfl rfl rfl ?_
            refine kx_iload_n 81 F 1 dX11_nextBack_80 rfl rfl rfl ?_
            refine kx_Vr 84 (ci := 0) F (As := [vI a1]) (st := []) vd_X11_268 (e_tableOf3 G l N_77 c0 a1 hI_N_77 hk_c0 (by omega) hX_N_77 q (by rw [show N_77 c0 5 = M c0 5 from (Fr.e hF_N_77 hk_c0 5 rfl)]; exact zSN.fr hS hk_1 hF_N_77 rfl) (by rw [show N_77 c0 5 = M c0 5 from (Fr.e hF_N_77 hk_c0 5 rfl)]; exact zSU.fr2 hU hI_M hk_1 hF_N_77 rfl rfl) (zTF.fr hF hk_c0 hF_N_77 rfl) htc_N_77 ⟨by omega, by omega⟩) hk_c0 rfl rfl rfl ⟨by decide, by decide⟩ rfl rfl (Nat.le_of_ble_eq_true rfl) dX11_nextBack_81 rfl ?_
            intro r_80 N_81 q_82
            obtain ⟨hI_N_81, hG_N_81, hk_83, hX_N_81, ⟨hto_N_81, htc_N_81⟩⟩ := q_82
            have hF_N_81 : Fr f_e_nextBack3 M N_81 := Fr.c hF_N_77 hG_N_81 rfl
            refine kx_astore 86 F 8 (lo' := [some (vR G c0), some (vI a1), some (vI a2), some (vI a3), some (vI a4), some (vI a5), some (vI 1), some (vI r_76), some (vR G r_80), none]) dX11_nextBack_84 (by decide) rfl rfl rfl ?_
            refine kx_aload_n 87 F 0 dX11_nextBack_86 rfl rfl rfl ?_
            refine kx_getr 90 F fl_X11_26 hk_c0 rfl rfl (j := 5) rfl dX11_nextBack_87 (v := (M c0 5)) (by rw [Fr.e hG_N_81 hk_c0 _ rfl, Fr.e hG_N_77 hk_c0 _ rfl, Fr.e hG_N_73 hk_c0 _ rfl]) rfl ?_
            refine kx_iload_n 91 F 1 dX11_nextBack_90 rfl rfl rfl ?_
            refine kx_Vr 94 (ci := 0) F (As := [vI a1]) (st := []) vd_X11_164 (c_X5_pickE G l N_81 (M c0 5) a1 hI_N_81 hk_1 (by omega)) hk_1 rfl rfl rfl ⟨by decide, by decide⟩ rfl rfl (Nat.le_of_ble_eq_true rfl) dX11_nextBack_91 rfl ?_
            intro r_84 N_85 q_86
            obtain ⟨rfl, hk_87, q_86d⟩ := q_86
            rcases q_86d with ⟨q_86c, rfl⟩ | ⟨q_86c, rfl⟩
            · have hxA : (N_81 (M c0 5) 4) = (M (M c0 5) 4) := Fr.e hF_N_81 hk_1 4 rfl
              have hA : AT M (N_81 (M c0 5) 4) q 100 := by rw [hxA]; exact hU.1 (by omega)
              have hn3 : M (N_81 (M c0 5) 4) 3 = q (85 * a1 + 103) := hA.n (d := 3) (by decide) (by omega)
              have hsk := zSR.y hsr_N_73 (by omega)
              have hsj := zSR.y hsr_N_77 (by omega)
              have hatk : N_81 (M r_80 2) a2 = (zTQA q (85 * a1 + 100)).2.1 a2 ∧ N_81 (M r_80 3) a2 = (zTQA q (85 * a1 + 100)).2.2 a2 := by have h := hto_N_81.2 a2 hsk.2.2.1 hsk.2.2.2 (by omega); rw [show N_81 r_80 2 = M r_80 2 from Fr.e hF_N_81 hk_83 2 rfl, show N_81 r_80 3 = M r_80 3 from Fr.e hF_N_81 hk_83 3 rfl] at h; exact h
              have hatj : N_81 (M r_80 2) a4 = (zTQA q (85 * a1 + 100)).2.1 a4 ∧ N_81 (M r_80 3) a4 = (zTQA q (85 * a1 + 100)).2.2 a4 := by have h := hto_N_81.2 a4 hsj.2.2.1 hsj.2.2.2 (by omega); rw [show N_81 r_80 2 = M r_80 2 from Fr.e hF_N_81 hk_83 2 rfl, show N_81 r_80 3 = M r_80 3 from Fr.e hF_N_81 hk_83 3 rfl] at h; exact h
              refine kx_iload 96 F 5 dX11_nextBack_94 rfl rfl ?_
              refine kx_iload_n 97 F 3 dX11_nextBack_96 rfl rfl rfl ?_
              refine kx_aload 99 F 8 dX11_nextBack_97 rfl rfl ?_
              refine kx_getr 102 F fl_X11_283 hk_83 rfl rfl (j := 3) rfl dX11_nextBack_99 (v := (M r_80 3)) (by rw [Fr.e hG_N_81 hk_83 _ rfl, Fr.e hG_N_77 hk_83 _ rfl, Fr.e hG_N_73 hk_83 _ rfl]) rfl ?_
              have hk_88 : kd (M r_80 3) = 23 := Inv.r hI_M hk_83 rfl 3 rfl rfl
              refine kx_iload_n 103 F 2 dX11_nextBack_102 rfl rfl rfl ?_
              refine kx_iald 104 F hk_88 rfl rfl (by omega) (by decide) dX11_nextBack_103 (v := (N_81 (M r_80 3) a2)) rfl rfl ?_
              have h_89 := Inv.g hI_N_81 hk_88 rfl a2 (a := 0) (b := 511) rfl rfl
              refine kx_Vi 107 (ci := 0) F (As := [vI a5, vI a3, vI (N_81 (M r_80 3) a2)]) (st := []) vd_X11_293 (e_over3 G l N_81 (N_81 (M c0 5) 4) a5 a3 (N_81 (M r_80 3) a2) hI_N_81 hk_87 (by omega)) hk_87 rfl rfl rfl ⟨by decide, by decide⟩ rfl rfl (Nat.le_of_ble_eq_true rfl) dX11_nextBack_104 rfl ?_
              intro r_90 N_91 q_92
              obtain ⟨rfl, q_92c, hz_N_91⟩ := q_92
              refine kx_istore 109 F 9 (lo' := [some (vR G c0), some (vI a1), some (vI a2), some (vI a3), some (vI a4), some (vI a5), some (vI 1), some (vI r_76), some (vR G r_80), some (vI r_90)]) dX11_nextBack_107 (by decide) rfl rfl rfl ?_
              refine kx_aload_n 110 F 0 dX11_nextBack_109 rfl rfl rfl ?_
              refine kx_aload 112 F 8 dX11_nextBack_110 rfl rfl ?_
              refine kx_aload 114 F 8 dX11_nextBack_112 rfl rfl ?_
              refine kx_getr 117 F fl_X11_281 hk_83 rfl rfl (j := 2) rfl dX11_nextBack_114 (v := (M r_80 2)) (by rw [Fr.e hG_N_81 hk_83 _ rfl, Fr.e hG_N_77 hk_83 _ rfl, Fr.e hG_N_73 hk_83 _ rfl]) rfl ?_
              have hk_93 : kd (M r_80 2) = 22 := Inv.r hI_M hk_83 rfl 2 rfl rfl
              refine kx_iload 119 F 4 dX11_nextBack_117 rfl rfl ?_
              refine kx_iald 120 F hk_93 rfl rfl (by omega) (by decide) dX11_nextBack_119 (v := (N_81 (M r_80 2) a4)) rfl rfl ?_
              have h_94 := Inv.g hI_N_81 hk_93 rfl a4 (a := 0) (b := 7) rfl rfl
              refine kx_iload 122 F 9 dX11_nextBack_120 rfl rfl ?_
              refine kx_Si 125 F (As := [vI (N_81 (M r_80 2) a4), vI r_90]) (st := [vR G r_80, vR G c0]) sd_X11_296 (e_image3 G l N_81 (N_81 (M r_80 2) a4) r_90 hI_N_81 (by omega)) ⟨by decide, by decide⟩ rfl rfl (Nat.le_of_ble_eq_true rfl) dX11_nextBack_122 rfl ?_
              intro r_95 N_96 q_97
              obtain ⟨rfl, q_97c, hz_N_96⟩ := q_97
              refine kx_aload 127 F 8 dX11_nextBack_125 rfl rfl ?_
              refine kx_getr 130 F fl_X11_283 hk_83 rfl rfl (j := 3) rfl dX11_nextBack_127 (v := (M r_80 3)) (by rw [Fr.e hG_N_81 hk_83 _ rfl, Fr.e hG_N_77 hk_83 _ rfl, Fr.e hG_N_73 hk_83 _ rfl]) rfl ?_
              refine kx_iload 132 F 4 dX11_nextBack_130 rfl rfl ?_
              refine kx_iald 133 F hk_88 rfl rfl (by omega) (by decide) dX11_nextBack_132 (v := (N_81 (M r_80 3) a4)) rfl rfl ?_
              have h_98 := Inv.g hI_N_81 hk_88 rfl a4 (a := 0) (b := 511) rfl rfl
              refine kx_iload 135 F 9 dX11_nextBack_133 rfl rfl ?_
              refine kx_Si 138 F (As := [vI (N_81 (M r_80 3) a4), vI r_90]) (st := [vI r_95, vR G r_80, vR G c0]) sd_X11_301 (e_compose3 G l N_81 (N_81 (M r_80 3) a4) r_90 hI_N_81 (by omega)) ⟨by decide, by decide⟩ rfl rfl (Nat.le_of_ble_eq_true rfl) dX11_nextBack_135 rfl ?_
              intro r_99 N_100 q_101
              obtain ⟨rfl, q_101c, hz_N_100⟩ := q_101
              refine kx_Vi 141 (ci := 0) F (As := [vI r_95, vI r_99]) (st := [vR G c0]) vd_X11_304 (e_find3 G l N_81 r_80 r_95 r_99 hI_N_81 hk_83 (by omega)) hk_83 rfl rfl rfl ⟨by decide, by decide⟩ rfl rfl (Nat.le_of_ble_eq_true rfl) dX11_nextBack_138 rfl ?_
              intro r_102 N_103 q_104
              obtain ⟨rfl, q_104c, hfi_N_103⟩ := q_104
              refine kx_Vi 144 (ci := 0) F (As := [vI r_102]) (st := []) vd_X11_145 (c_X11_answer G l N_81 c0 r_102 hI_N_81 hk_c0 (by omega)) hk_c0 rfl rfl rfl ⟨by decide, by decide⟩ rfl rfl (Nat.le_of_ble_eq_true rfl) dX11_nextBack_141 rfl ?_
              intro r_105 N_106 q_107
              obtain ⟨hI_N_106, hG_N_106, q_107c⟩ := q_107
              have hF_N_106 : Fr f_e_nextBack3 M N_106 := Fr.c hF_N_81 hG_N_106 rfl
              have hX_N_106 : XX N_106 := XX.fr hX_N_81 hI_N_81 hG_N_106 rfl
              have hk11 : kd (M (N_81 (M c0 5) 4) 11) = 7 := Inv.r hI_M hk_87 rfl 11 rfl rfl
              have ho_108 : r_90 = zovZ (zks q (85 * a1 + 100)) a5 a3 ((zTQA q (85 * a1 + 100)).2.2 a2) 3 := hz_N_91.trans (by rw [show N_81 (N_81 (M c0 5) 4) 11 = M (N_81 (M c0 5) 4) 11 from Fr.e hF_N_81 hk_87 11 rfl, show N_81 (M (N_81 (M c0 5) 4) 11) = M (M (N_81 (M c0 5) 4) 11) from Fr.fn hF_N_81 hk11 rfl, hatk.2, show 85 * a1 + 100 = 100 by omega]; exact zovA hA ⟨by omega, by omega⟩ ⟨by omega, by omega⟩)
              exact kx_iret F hQ ⟨hI_N_106, hF_N_106, (by omega), hX_N_106, ⟨(Or.inl ⟨⟨by omega, by omega, by omega, by omega, ⟨⟨by omega, by omega, hsk.2.1⟩, hsk.2.2⟩, ⟨⟨by omega, by omega, hsj.2.1⟩, hsj.2.2⟩⟩, zTV.fit hto_N_81 hsk.2.1 hfi_N_103 (hz_N_96.trans (by rw [hatj.1, ho_108])) (hz_N_100.trans (by rw [hatj.2, ho_108])) (by omega)⟩), (zTC.fr htc_N_81 hI_N_81 hk_c0 hG_N_106 rfl)⟩⟩ dX11_nextBack_144
            · have hxA : (N_81 (M c0 5) 5) = (M (M c0 5) 5) := Fr.e hF_N_81 hk_1 5 rfl
              have hA : AT M (N_81 (M c0 5) 5) q 185 := by rw [hxA]; exact hU.2 (by omega)
              have hn3 : M (N_81 (M c0 5) 5) 3 = q (85 * a1 + 103) := hA.n (d := 3) (by decide) (by omega)
              have hsk := zSR.y hsr_N_73 (by omega)
              have hsj := zSR.y hsr_N_77 (by omega)
              have hatk : N_81 (M r_80 2) a2 = (zTQA q (85 * a1 + 100)).2.1 a2 ∧ N_81 (M r_80 3) a2 = (zTQA q (85 * a1 + 100)).2.2 a2 := by have h := hto_N_81.2 a2 hsk.2.2.1 hsk.2.2.2 (by omega); rw [show N_81 r_80 2 = M r_80 2 from Fr.e hF_N_81 hk_83 2 rfl, show N_81 r_80 3 = M r_80 3 from Fr.e hF_N_81 hk_83 3 rfl] at h; exact h
              have hatj : N_81 (M r_80 2) a4 = (zTQA q (85 * a1 + 100)).2.1 a4 ∧ N_81 (M r_80 3) a4 = (zTQA q (85 * a1 + 100)).2.2 a4 := by have h := hto_N_81.2 a4 hsj.2.2.1 hsj.2.2.2 (by omega); rw [show N_81 r_80 2 = M r_80 2 from Fr.e hF_N_81 hk_83 2 rfl, show N_81 r_80 3 = M r_80 3 from Fr.e hF_N_81 hk_83 3 rfl] at h; exact h
              refine kx_iload 96 F 5 dX11_nextBack_94 rfl rfl ?_
              refine kx_iload_n 97 F 3 dX11_nextBack_96 rfl rfl rfl ?_
              refine kx_aload 99 F 8 dX11_nextBack_97 rfl rfl ?_
              refine kx_getr 102 F fl_X11_283 hk_83 rfl rfl (j := 3) rfl dX11_nextBack_99 (v := (M r_80 3)) (by rw [Fr.e hG_N_81 hk_83 _ rfl, Fr.e hG_N_77 hk_83 _ rfl, Fr.e hG_N_73 hk_83 _ rfl]) rfl ?_
              have hk_109 : kd (M r_80 3) = 23 := Inv.r hI_M hk_83 rfl 3 rfl rfl
              refine kx_iload_n 103 F 2 dX11_nextBack_102 rfl rfl rfl ?_
              refine kx_iald 104 F hk_109 rfl rfl (by omega) (by decide) dX11_nextBack_103 (v := (N_81 (M r_80 3) a2)) rfl rfl ?_
              have h_110 := Inv.g hI_N_81 hk_109 rfl a2 (a := 0) (b := 511) rfl rfl
              refine kx_Vi 107 (ci := 0) F (As := [vI a5, vI a3, vI (N_81 (M r_80 3) a2)]) (st := []) vd_X11_293 (e_over3 G l N_81 (N_81 (M c0 5) 5) a5 a3 (N_81 (M r_80 3) a2) hI_N_81 hk_87 (by omega)) hk_87 rfl rfl rfl ⟨by decide, by decide⟩ rfl rfl (Nat.le_of_ble_eq_true rfl) dX11_nextBack_104 rfl ?_
              intro r_111 N_112 q_113
              obtain ⟨rfl, q_113c, hz_N_112⟩ := q_113
              refine kx_istore 109 F 9 (lo' := [some (vR G c0), some (vI a1), some (vI a2), some (vI a3), some (vI a4), some (vI a5), some (vI 1), some (vI r_76), some (vR G r_80), some (vI r_111)]) dX11_nextBack_107 (by decide) rfl rfl rfl ?_
              refine kx_aload_n 110 F 0 dX11_nextBack_109 rfl rfl rfl ?_
              refine kx_aload 112 F 8 dX11_nextBack_110 rfl rfl ?_
              refine kx_aload 114 F 8 dX11_nextBack_112 rfl rfl ?_
              refine kx_getr 117 F fl_X11_281 hk_83 rfl rfl (j := 2) rfl dX11_nextBack_114 (v := (M r_80 2)) (by rw [Fr.e hG_N_81 hk_83 _ rfl, Fr.e hG_N_77 hk_83 _ rfl, Fr.e hG_N_73 hk_83 _ rfl]) rfl ?_
              have hk_114 : kd (M r_80 2) = 22 := Inv.r hI_M hk_83 rfl 2 rfl rfl
              refine kx_iload 119 F 4 dX11_nextBack_117 rfl rfl ?_
              refine kx_iald 120 F hk_114 rfl rfl (by omega) (by decide) dX11_nextBack_119 (v := (N_81 (M r_80 2) a4)) rfl rfl ?_
              have h_115 := Inv.g hI_N_81 hk_114 rfl a4 (a := 0) (b := 7) rfl rfl
              refine kx_iload 122 F 9 dX11_nextBack_120 rfl rfl ?_
              refine kx_Si 125 F (As := [vI (N_81 (M r_80 2) a4), vI r_111]) (st := [vR G r_80, vR G c0]) sd_X11_296 (e_image3 G l N_81 (N_81 (M r_80 2) a4) r_111 hI_N_81 (by omega)) ⟨by decide, by decide⟩ rfl rfl (Nat.le_of_ble_eq_true rfl) dX11_nextBack_122 rfl ?_
              intro r_116 N_117 q_118
              obtain ⟨rfl, q_118c, hz_N_117⟩ := q_118
              refine kx_aload 127 F 8 dX11_nextBack_125 rfl rfl ?_
              refine kx_getr 130 F fl_X11_283 hk_83 rfl rfl (j := 3) rfl dX11_nextBack_127 (v := (M r_80 3)) (by rw [Fr.e hG_N_81 hk_83 _ rfl, Fr.e hG_N_77 hk_83 _ rfl, Fr.e hG_N_73 hk_83 _ rfl]) rfl ?_
              refine kx_iload 132 F 4 dX11_nextBack_130 rfl rfl ?_
              refine kx_iald 133 F hk_109 rfl rfl (by omega) (by decide) dX11_nextBack_132 (v := (N_81 (M r_80 3) a4)) rfl rfl ?_
              have h_119 := Inv.g hI_N_81 hk_109 rfl a4 (a := 0) (b := 511) rfl rfl
              refine kx_iload 135 F 9 dX11_nextBack_133 rfl rfl ?_
              refine kx_Si 138 F (As := [vI (N_81 (M r_80 3) a4), vI r_111]) (st := [vI r_116, vR G r_80, vR G c0]) sd_X11_301 (e_compose3 G l N_81 (N_81 (M r_80 3) a4) r_111 hI_N_81 (by omega)) ⟨by decide, by decide⟩ rfl rfl (Nat.le_of_ble_eq_true rfl) dX11_nextBack_135 rfl ?_
              intro r_120 N_121 q_122
              obtain ⟨rfl, q_122c, hz_N_121⟩ := q_122
              refine kx_Vi 141 (ci := 0) F (As := [vI r_116, vI r_120]) (st := [vR G c0]) vd_X11_304 (e_find3 G l N_81 r_80 r_116 r_120 hI_N_81 hk_83 (by omega)) hk_83 rfl rfl rfl ⟨by decide, by decide⟩ rfl rfl (Nat.le_of_ble_eq_true rfl) dX11_nextBack_138 rfl ?_
              intro r_123 N_124 q_125
              obtain ⟨rfl, q_125c, hfi_N_124⟩ := q_125
              refine kx_Vi 144 (ci := 0) F (As := [vI r_123]) (st := []) vd_X11_145 (c_X11_answer G l N_81 c0 r_123 hI_N_81 hk_c0 (by omega)) hk_c0 rfl rfl rfl ⟨by decide, by decide⟩ rfl rfl (Nat.le_of_ble_eq_true rfl) dX11_nextBack_141 rfl ?_
              intro r_126 N_127 q_128
              obtain ⟨hI_N_127, hG_N_127, q_128c⟩ := q_128
              have hF_N_127 : Fr f_e_nextBack3 M N_127 := Fr.c hF_N_81 hG_N_127 rfl
              have hX_N_127 : XX N_127 := XX.fr hX_N_81 hI_N_81 hG_N_127 rfl
              have hk11 : kd (M (N_81 (M c0 5) 5) 11) = 7 := Inv.r hI_M hk_87 rfl 11 rfl rfl
              have ho_129 : r_111 = zovZ (zks q (85 * a1 + 100)) a5 a3 ((zTQA q (85 * a1 + 100)).2.2 a2) 3 := hz_N_112.trans (by rw [show N_81 (N_81 (M c0 5) 5) 11 = M (N_81 (M c0 5) 5) 11 from Fr.e hF_N_81 hk_87 11 rfl, show N_81 (M (N_81 (M c0 5) 5) 11) = M (M (N_81 (M c0 5) 5) 11) from Fr.fn hF_N_81 hk11 rfl, hatk.2, show 85 * a1 + 100 = 185 by omega]; exact zovA hA ⟨by omega, by omega⟩ ⟨by omega, by omega⟩)
              exact kx_iret F hQ ⟨hI_N_127, hF_N_127, (by omega), hX_N_127, ⟨(Or.inl ⟨⟨by omega, by omega, by omega, by omega, ⟨⟨by omega, by omega, hsk.2.1⟩, hsk.2.2⟩, ⟨⟨by omega, by omega, hsj.2.1⟩, hsj.2.2⟩⟩, zTV.fit hto_N_81 hsk.2.1 hfi_N_124 (hz_N_117.trans (by rw [hatj.1, ho_129])) (hz_N_121.trans (by rw [hatj.2, ho_129])) (by omega)⟩), (zTC.fr htc_N_81 hI_N_81 hk_c0 hG_N_127 rfl)⟩⟩ dX11_nextBack_144
          · refine kx_istore 67 F 7 (lo' := [some (vR G c0), some (vI a1), some (vI a2), some (vI a3), some (vI a4), some (vI a5), some (vI 1), some (vI r_76), none, none]) dX11_nextBack_65 (by decide) rfl rfl rfl ?_
            refine kx_iload 69 F 7 dX11_nextBack_67 rfl rfl ?_
            refine kx_if_eq 72 F 79 dX11_nextBack_69 (by decide) rfl (by omega) (fun h_130 => (by exfalso; omega)) (fun h_130 => ?_)
            refine kx_aload_n 73 F 0 dX11_nextBack_72 rfl rfl rfl ?_
            refine kx_iload 75 F 7 dX11_nextBack_73 rfl rfl ?_
            refine kx_Vi 78 (ci := 0) F (As := [vI r_76]) (st := []) vd_X11_110 (c_X11_refuse G l N_77 c0 r_76 hI_N_77 hk_c0 (by omega)) hk_c0 rfl rfl rfl ⟨by decide, by decide⟩ rfl rfl (Nat.le_of_ble_eq_true rfl) dX11_nextBack_75 rfl ?_
            intro r_131 N_132 q_133
            obtain ⟨hI_N_132, hG_N_132, q_133c⟩ := q_133
            have hF_N_132 : Fr f_e_nextBack3 M N_132 := Fr.c hF_N_77 hG_N_132 rfl
            have hX_N_132 : XX N_132 := XX.fr hX_N_77 hI_N_77 hG_N_132 rfl
            subst q_133c
            exact kx_iret F hQ ⟨hI_N_132, hF_N_132, (by omega), hX_N_132, ⟨(Or.inr ⟨fun h => (zSR.n hsr_N_77 (by omega)) ⟨rfl, h.2.2.2.2.2.1.2.2, h.2.2.2.2.2.2.1, h.2.2.2.2.2.2.2⟩, by omega⟩), (zTC.fr htc_N_77 hI_N_77 hk_c0 hG_N_132 rfl)⟩⟩ dX11_nextBack_78
        · refine kx_istore 52 F 7 (lo' := [some (vR G c0), some (vI a1), some (vI a2), some (vI a3), some (vI a4), some (vI a5), some (vI 1), some (vI r_72), none, none]) dX11_nextBack_50 (by decide) rfl rfl rfl ?_
          refine kx_iload 54 F 7 dX11_nextBack_52 rfl rfl ?_
          refine kx_if_ne 57 F 67 dX11_nextBack_54 (by decide) rfl (by omega) (fun h_134 => ?_) (fun h_134 => (by exfalso; omega))
          refine kx_iload 69 F 7 dX11_nextBack_67 rfl rfl ?_
          refine kx_if_eq 72 F 79 dX11_nextBack_69 (by decide) rfl (by omega) (fun h_135 => (by exfalso; omega)) (fun h_135 => ?_)
          refine kx_aload_n 73 F 0 dX11_nextBack_72 rfl rfl rfl ?_
          refine kx_iload 75 F 7 dX11_nextBack_73 rfl rfl ?_
          refine kx_Vi 78 (ci := 0) F (As := [vI r_72]) (st := []) vd_X11_110 (c_X11_refuse G l N_73 c0 r_72 hI_N_73 hk_c0 (by omega)) hk_c0 rfl rfl rfl ⟨by decide, by decide⟩ rfl rfl (Nat.le_of_ble_eq_true rfl) dX11_nextBack_75 rfl ?_
          intro r_136 N_137 q_138
          obtain ⟨hI_N_137, hG_N_137, q_138c⟩ := q_138
          have hF_N_137 : Fr f_e_nextBack3 M N_137 := Fr.c hF_N_73 hG_N_137 rfl
          have hX_N_137 : XX N_137 := XX.fr hX_N_73 hI_N_73 hG_N_137 rfl
          subst q_138c
          exact kx_iret F hQ ⟨hI_N_137, hF_N_137, (by omega), hX_N_137, ⟨(Or.inr ⟨fun h => (zSR.n hsr_N_73 (by omega)) ⟨by have h1 := h.1; have h2 := h.2.1; have h3 := h.2.2.1; have h4 := h.2.2.2.1; have h5 := h.2.2.2.2.1.1.1; have h6 := h.2.2.2.2.1.1.2.1; clear h; omega, h.2.2.2.2.1.1.2.2, h.2.2.2.2.1.2.1, h.2.2.2.2.1.2.2⟩, by omega⟩), (zTC.fr htc_N_73 hI_N_73 hk_c0 hG_N_137 rfl)⟩⟩ dX11_nextBack_78
      · refine kx_if_ne 35 F 39 dX11_nextBack_32 (by decide) rfl (by omega) (fun h_139 => ?_) (fun h_139 => (by exfalso; omega))
        refine kx_iconst 40 F dX11_nextBack_39 rfl ?_
        refine kx_istore 42 F 6 (lo' := [some (vR G c0), some (vI a1), some (vI a2), some (vI a3), some (vI a4), some (vI a5), some (vI 0), none, none, none]) dX11_nextBack_40 (by decide) rfl rfl rfl ?_
        refine kx_aload_n 43 F 0 dX11_nextBack_42 rfl rfl rfl ?_
        refine kx_iload 45 F 6 dX11_nextBack_43 rfl rfl ?_
        refine kx_iload_n 46 F 1 dX11_nextBack_45 rfl rfl rfl ?_
        refine kx_iload_n 47 F 2 dX11_nextBack_46 rfl rfl rfl ?_
        refine kx_Vi 50 (ci := 0) F (As := [vI 0, vI a1, vI a2]) (st := []) vd_X11_278 (e_summaryRefusal3 G l M c0 0 a1 a2 hI_M hk_c0 (by omega) hX_M q hS hU hF hK (fun h => ⟨by omega, by omega⟩)) hk_c0 rfl rfl rfl ⟨by decide, by decide⟩ rfl rfl (Nat.le_of_ble_eq_true rfl) dX11_nextBack_47 rfl ?_
        intro r_140 N_141 q_142
        obtain ⟨hI_N_141, hG_N_141, q_142c, hX_N_141, ⟨hsr_N_141, htc_N_141⟩⟩ := q_142
        have hF_N_141 : Fr f_e_nextBack3 M N_141 := Fr.c hF_M hG_N_141 rfl
        rcases q_142c with q_142c | q_142c
        · exfalso; omega
        · refine kx_istore 52 F 7 (lo' := [some (vR G c0), some (vI a1), some (vI a2), some (vI a3), some (vI a4), some (vI a5), some (vI 0), some (vI r_140), none, none]) dX11_nextBack_50 (by decide) rfl rfl rfl ?_
          refine kx_iload 54 F 7 dX11_nextBack_52 rfl rfl ?_
          refine kx_if_ne 57 F 67 dX11_nextBack_54 (by decide) rfl (by omega) (fun h_143 => ?_) (fun h_143 => (by exfalso; omega))
          refine kx_iload 69 F 7 dX11_nextBack_67 rfl rfl ?_
          refine kx_if_eq 72 F 79 dX11_nextBack_69 (by decide) rfl (by omega) (fun h_144 => (by exfalso; omega)) (fun h_144 => ?_)
          refine kx_aload_n 73 F 0 dX11_nextBack_72 rfl rfl rfl ?_
          refine kx_iload 75 F 7 dX11_nextBack_73 rfl rfl ?_
          refine kx_Vi 78 (ci := 0) F (As := [vI r_140]) (st := []) vd_X11_110 (c_X11_refuse G l N_141 c0 r_140 hI_N_141 hk_c0 (by omega)) hk_c0 rfl rfl rfl ⟨by decide, by decide⟩ rfl rfl (Nat.le_of_ble_eq_true rfl) dX11_nextBack_75 rfl ?_
          intro r_145 N_146 q_147
          obtain ⟨hI_N_146, hG_N_146, q_147c⟩ := q_147
          have hF_N_146 : Fr f_e_nextBack3 M N_146 := Fr.c hF_N_141 hG_N_146 rfl
          have hX_N_146 : XX N_146 := XX.fr hX_N_141 hI_N_141 hG_N_146 rfl
          subst q_147c
          exact kx_iret F hQ ⟨hI_N_146, hF_N_146, (by omega), hX_N_146, ⟨(Or.inr ⟨fun h => (zSR.n hsr_N_141 (by omega)) ⟨by have h1 := h.1; have h2 := h.2.1; have h3 := h.2.2.1; have h4 := h.2.2.2.1; have h5 := h.2.2.2.2.1.1.1; have h6 := h.2.2.2.2.1.1.2.1; clear h; omega, h.2.2.2.2.1.1.2.2, h.2.2.2.2.1.2.1, h.2.2.2.2.1.2.2⟩, by omega⟩), (zTC.fr htc_N_141 hI_N_141 hk_c0 hG_N_146 rfl)⟩⟩ dX11_nextBack_78
      · refine kx_if_ne 35 F 39 dX11_nextBack_32 (by decide) rfl (by omega) (fun h_148 => ?_) (fun h_148 => (by exfalso; omega))
        refine kx_iconst 40 F dX11_nextBack_39 rfl ?_
        refine kx_istore 42 F 6 (lo' := [some (vR G c0), some (vI a1), some (vI a2), some (vI a3), some (vI a4), some (vI a5), some (vI 0), none, none, none]) dX11_nextBack_40 (by decide) rfl rfl rfl ?_
        refine kx_aload_n 43 F 0 dX11_nextBack_42 rfl rfl rfl ?_
        refine kx_iload 45 F 6 dX11_nextBack_43 rfl rfl ?_
        refine kx_iload_n 46 F 1 dX11_nextBack_45 rfl rfl rfl ?_
        refine kx_iload_n 47 F 2 dX11_nextBack_46 rfl rfl rfl ?_
        refine kx_Vi 50 (ci := 0) F (As := [vI 0, vI a1, vI a2]) (st := []) vd_X11_278 (e_summaryRefusal3 G l M c0 0 a1 a2 hI_M hk_c0 (by omega) hX_M q hS hU hF hK (fun h => ⟨by omega, by omega⟩)) hk_c0 rfl rfl rfl ⟨by decide, by decide⟩ rfl rfl (Nat.le_of_ble_eq_true rfl) dX11_nextBack_47 rfl ?_
        intro r_149 N_150 q_151
        obtain ⟨hI_N_150, hG_N_150, q_151c, hX_N_150, ⟨hsr_N_150, htc_N_150⟩⟩ := q_151
        have hF_N_150 : Fr f_e_nextBack3 M N_150 := Fr.c hF_M hG_N_150 rfl
        rcases q_151c with q_151c | q_151c
        · exfalso; omega
        · refine kx_istore 52 F 7 (lo' := [some (vR G c0), some (vI a1), some (vI a2), some (vI a3), some (vI a4), some (vI a5), some (vI 0), some (vI r_149), none, none]) dX11_nextBack_50 (by decide) rfl rfl rfl ?_
          refine kx_iload 54 F 7 dX11_nextBack_52 rfl rfl ?_
          refine kx_if_ne 57 F 67 dX11_nextBack_54 (by decide) rfl (by omega) (fun h_152 => ?_) (fun h_152 => (by exfalso; omega))
          refine kx_iload 69 F 7 dX11_nextBack_67 rfl rfl ?_
          refine kx_if_eq 72 F 79 dX11_nextBack_69 (by decide) rfl (by omega) (fun h_153 => (by exfalso; omega)) (fun h_153 => ?_)
          refine kx_aload_n 73 F 0 dX11_nextBack_72 rfl rfl rfl ?_
          refine kx_iload 75 F 7 dX11_nextBack_73 rfl rfl ?_
          refine kx_Vi 78 (ci := 0) F (As := [vI r_149]) (st := []) vd_X11_110 (c_X11_refuse G l N_150 c0 r_149 hI_N_150 hk_c0 (by omega)) hk_c0 rfl rfl rfl ⟨by decide, by decide⟩ rfl rfl (Nat.le_of_ble_eq_true rfl) dX11_nextBack_75 rfl ?_
          intro r_154 N_155 q_156
          obtain ⟨hI_N_155, hG_N_155, q_156c⟩ := q_156
          have hF_N_155 : Fr f_e_nextBack3 M N_155 := Fr.c hF_N_150 hG_N_155 rfl
          have hX_N_155 : XX N_155 := XX.fr hX_N_150 hI_N_150 hG_N_155 rfl
          subst q_156c
          exact kx_iret F hQ ⟨hI_N_155, hF_N_155, (by omega), hX_N_155, ⟨(Or.inr ⟨fun h => (zSR.n hsr_N_150 (by omega)) ⟨by have h1 := h.1; have h2 := h.2.1; have h3 := h.2.2.1; have h4 := h.2.2.2.1; have h5 := h.2.2.2.2.1.1.1; have h6 := h.2.2.2.2.1.1.2.1; clear h; omega, h.2.2.2.2.1.1.2.2, h.2.2.2.2.1.2.1, h.2.2.2.2.1.2.2⟩, by omega⟩), (zTC.fr htc_N_150 hI_N_150 hk_c0 hG_N_155 rfl)⟩⟩ dX11_nextBack_78
    · refine kx_iconst 20 F dX11_nextBack_19 rfl ?_
      refine kx_icmp_ne 23 F 39 dX11_nextBack_20 (by decide) rfl (by omega) (by decide) (fun h_157 => ?_) (fun h_157 => (by exfalso; omega))
      refine kx_iconst 40 F dX11_nextBack_39 rfl ?_
      refine kx_istore 42 F 6 (lo' := [some (vR G c0), some (vI a1), some (vI a2), some (vI a3), some (vI a4), some (vI a5), some (vI 0), none, none, none]) dX11_nextBack_40 (by decide) rfl rfl rfl ?_
      refine kx_aload_n 43 F 0 dX11_nextBack_42 rfl rfl rfl ?_
      refine kx_iload 45 F 6 dX11_nextBack_43 rfl rfl ?_
      refine kx_iload_n 46 F 1 dX11_nextBack_45 rfl rfl rfl ?_
      refine kx_iload_n 47 F 2 dX11_nextBack_46 rfl rfl rfl ?_
      refine kx_Vi 50 (ci := 0) F (As := [vI 0, vI a1, vI a2]) (st := []) vd_X11_278 (e_summaryRefusal3 G l M c0 0 a1 a2 hI_M hk_c0 (by omega) hX_M q hS hU hF hK (fun h => ⟨by omega, by omega⟩)) hk_c0 rfl rfl rfl ⟨by decide, by decide⟩ rfl rfl (Nat.le_of_ble_eq_true rfl) dX11_nextBack_47 rfl ?_
      intro r_158 N_159 q_160
      obtain ⟨hI_N_159, hG_N_159, q_160c, hX_N_159, ⟨hsr_N_159, htc_N_159⟩⟩ := q_160
      have hF_N_159 : Fr f_e_nextBack3 M N_159 := Fr.c hF_M hG_N_159 rfl
      rcases q_160c with q_160c | q_160c
      · exfalso; omega
      · refine kx_istore 52 F 7 (lo' := [some (vR G c0), some (vI a1), some (vI a2), some (vI a3), some (vI a4), some (vI a5), some (vI 0), some (vI r_158), none, none]) dX11_nextBack_50 (by decide) rfl rfl rfl ?_
        refine kx_iload 54 F 7 dX11_nextBack_52 rfl rfl ?_
        refine kx_if_ne 57 F 67 dX11_nextBack_54 (by decide) rfl (by omega) (fun h_161 => ?_) (fun h_161 => (by exfalso; omega))
        refine kx_iload 69 F 7 dX11_nextBack_67 rfl rfl ?_
        refine kx_if_eq 72 F 79 dX11_nextBack_69 (by decide) rfl (by omega) (fun h_162 => (by exfalso; omega)) (fun h_162 => ?_)
        refine kx_aload_n 73 F 0 dX11_nextBack_72 rfl rfl rfl ?_
        refine kx_iload 75 F 7 dX11_nextBack_73 rfl rfl ?_
        refine kx_Vi 78 (ci := 0) F (As := [vI r_158]) (st := []) vd_X11_110 (c_X11_refuse G l N_159 c0 r_158 hI_N_159 hk_c0 (by omega)) hk_c0 rfl rfl rfl ⟨by decide, by decide⟩ rfl rfl (Nat.le_of_ble_eq_true rfl) dX11_nextBack_75 rfl ?_
        intro r_163 N_164 q_165
        obtain ⟨hI_N_164, hG_N_164, q_165c⟩ := q_165
        have hF_N_164 : Fr f_e_nextBack3 M N_164 := Fr.c hF_N_159 hG_N_164 rfl
        have hX_N_164 : XX N_164 := XX.fr hX_N_159 hI_N_159 hG_N_164 rfl
        subst q_165c
        exact kx_iret F hQ ⟨hI_N_164, hF_N_164, (by omega), hX_N_164, ⟨(Or.inr ⟨fun h => (zSR.n hsr_N_159 (by omega)) ⟨by have h1 := h.1; have h2 := h.2.1; have h3 := h.2.2.1; have h4 := h.2.2.2.1; have h5 := h.2.2.2.2.1.1.1; have h6 := h.2.2.2.2.1.1.2.1; clear h; omega, h.2.2.2.2.1.1.2.2, h.2.2.2.2.1.2.1, h.2.2.2.2.1.2.2⟩, by omega⟩), (zTC.fr htc_N_159 hI_N_159 hk_c0 hG_N_164 rfl)⟩⟩ dX11_nextBack_78
  · refine kx_if_eq 11 F 39 dX11_nextBack_8 (by decide) rfl (by omega) (fun h_166 => ?_) (fun h_166 => (by exfalso; omega))
    refine kx_iconst 40 F dX11_nextBack_39 rfl ?_
    refine kx_istore 42 F 6 (lo' := [some (vR G c0), some (vI a1), some (vI a2), some (vI a3), some (vI a4), some (vI a5), some (vI 0), none, none, none]) dX11_nextBack_40 (by decide) rfl rfl rfl ?_
    refine kx_aload_n 43 F 0 dX11_nextBack_42 rfl rfl rfl ?_
    refine kx_iload 45 F 6 dX11_nextBack_43 rfl rfl ?_
    refine kx_iload_n 46 F 1 dX11_nextBack_45 rfl rfl rfl ?_
    refine kx_iload_n 47 F 2 dX11_nextBack_46 rfl rfl rfl ?_
    refine kx_Vi 50 (ci := 0) F (As := [vI 0, vI a1, vI a2]) (st := []) vd_X11_278 (e_summaryRefusal3 G l M c0 0 a1 a2 hI_M hk_c0 (by omega) hX_M q hS hU hF hK (fun h => ⟨by omega, by omega⟩)) hk_c0 rfl rfl rfl ⟨by decide, by decide⟩ rfl rfl (Nat.le_of_ble_eq_true rfl) dX11_nextBack_47 rfl ?_
    intro r_167 N_168 q_169
    obtain ⟨hI_N_168, hG_N_168, q_169c, hX_N_168, ⟨hsr_N_168, htc_N_168⟩⟩ := q_169
    have hF_N_168 : Fr f_e_nextBack3 M N_168 := Fr.c hF_M hG_N_168 rfl
    rcases q_169c with q_169c | q_169c
    · exfalso; omega
    · refine kx_istore 52 F 7 (lo' := [some (vR G c0), some (vI a1), some (vI a2), some (vI a3), some (vI a4), some (vI a5), some (vI 0), some (vI r_167), none, none]) dX11_nextBack_50 (by decide) rfl rfl rfl ?_
      refine kx_iload 54 F 7 dX11_nextBack_52 rfl rfl ?_
      refine kx_if_ne 57 F 67 dX11_nextBack_54 (by decide) rfl (by omega) (fun h_170 => ?_) (fun h_170 => (by exfalso; omega))
      refine kx_iload 69 F 7 dX11_nextBack_67 rfl rfl ?_
      refine kx_if_eq 72 F 79 dX11_nextBack_69 (by decide) rfl (by omega) (fun h_171 => (by exfalso; omega)) (fun h_171 => ?_)
      refine kx_aload_n 73 F 0 dX11_nextBack_72 rfl rfl rfl ?_
      refine kx_iload 75 F 7 dX11_nextBack_73 rfl rfl ?_
      refine kx_Vi 78 (ci := 0) F (As := [vI r_167]) (st := []) vd_X11_110 (c_X11_refuse G l N_168 c0 r_167 hI_N_168 hk_c0 (by omega)) hk_c0 rfl rfl rfl ⟨by decide, by decide⟩ rfl rfl (Nat.le_of_ble_eq_true rfl) dX11_nextBack_75 rfl ?_
      intro r_172 N_173 q_174
      obtain ⟨hI_N_173, hG_N_173, q_174c⟩ := q_174
      have hF_N_173 : Fr f_e_nextBack3 M N_173 := Fr.c hF_N_168 hG_N_173 rfl
      have hX_N_173 : XX N_173 := XX.fr hX_N_168 hI_N_168 hG_N_173 rfl
      subst q_174c
      exact kx_iret F hQ ⟨hI_N_173, hF_N_173, (by omega), hX_N_173, ⟨(Or.inr ⟨fun h => (zSR.n hsr_N_168 (by omega)) ⟨by have h1 := h.1; have h2 := h.2.1; have h3 := h.2.2.1; have h4 := h.2.2.2.1; have h5 := h.2.2.2.2.1.1.1; have h6 := h.2.2.2.2.1.1.2.1; clear h; omega, h.2.2.2.2.1.1.2.2, h.2.2.2.2.1.2.1, h.2.2.2.2.1.2.2⟩, by omega⟩), (zTC.fr htc_N_168 hI_N_168 hk_c0 hG_N_173 rfl)⟩⟩ dX11_nextBack_78
  · refine kx_if_eq 11 F 39 dX11_nextBack_8 (by decide) rfl (by omega) (fun h_175 => ?_) (fun h_175 => (by exfalso; omega))
    refine kx_iconst 40 F dX11_nextBack_39 rfl ?_
    refine kx_istore 42 F 6 (lo' := [some (vR G c0), some (vI a1), some (vI a2), some (vI a3), some (vI a4), some (vI a5), some (vI 0), none, none, none]) dX11_nextBack_40 (by decide) rfl rfl rfl ?_
    refine kx_aload_n 43 F 0 dX11_nextBack_42 rfl rfl rfl ?_
    refine kx_iload 45 F 6 dX11_nextBack_43 rfl rfl ?_
    refine kx_iload_n 46 F 1 dX11_nextBack_45 rfl rfl rfl ?_
    refine kx_iload_n 47 F 2 dX11_nextBack_46 rfl rfl rfl ?_
    refine kx_Vi 50 (ci := 0) F (As := [vI 0, vI a1, vI a2]) (st := []) vd_X11_278 (e_summaryRefusal3 G l M c0 0 a1 a2 hI_M hk_c0 (by omega) hX_M q hS hU hF hK (fun h => ⟨by omega, by omega⟩)) hk_c0 rfl rfl rfl ⟨by decide, by decide⟩ rfl rfl (Nat.le_of_ble_eq_true rfl) dX11_nextBack_47 rfl ?_
    intro r_176 N_177 q_178
    obtain ⟨hI_N_177, hG_N_177, q_178c, hX_N_177, ⟨hsr_N_177, htc_N_177⟩⟩ := q_178
    have hF_N_177 : Fr f_e_nextBack3 M N_177 := Fr.c hF_M hG_N_177 rfl
    rcases q_178c with q_178c | q_178c
    · exfalso; omega
    · refine kx_istore 52 F 7 (lo' := [some (vR G c0), some (vI a1), some (vI a2), some (vI a3), some (vI a4), some (vI a5), some (vI 0), some (vI r_176), none, none]) dX11_nextBack_50 (by decide) rfl rfl rfl ?_
      refine kx_iload 54 F 7 dX11_nextBack_52 rfl rfl ?_
      refine kx_if_ne 57 F 67 dX11_nextBack_54 (by decide) rfl (by omega) (fun h_179 => ?_) (fun h_179 => (by exfalso; omega))
      refine kx_iload 69 F 7 dX11_nextBack_67 rfl rfl ?_
      refine kx_if_eq 72 F 79 dX11_nextBack_69 (by decide) rfl (by omega) (fun h_180 => (by exfalso; omega)) (fun h_180 => ?_)
      refine kx_aload_n 73 F 0 dX11_nextBack_72 rfl rfl rfl ?_
      refine kx_iload 75 F 7 dX11_nextBack_73 rfl rfl ?_
      refine kx_Vi 78 (ci := 0) F (As := [vI r_176]) (st := []) vd_X11_110 (c_X11_refuse G l N_177 c0 r_176 hI_N_177 hk_c0 (by omega)) hk_c0 rfl rfl rfl ⟨by decide, by decide⟩ rfl rfl (Nat.le_of_ble_eq_true rfl) dX11_nextBack_75 rfl ?_
      intro r_181 N_182 q_183
      obtain ⟨hI_N_182, hG_N_182, q_183c⟩ := q_183
      have hF_N_182 : Fr f_e_nextBack3 M N_182 := Fr.c hF_N_177 hG_N_182 rfl
      have hX_N_182 : XX N_182 := XX.fr hX_N_177 hI_N_177 hG_N_182 rfl
      subst q_183c
      exact kx_iret F hQ ⟨hI_N_182, hF_N_182, (by omega), hX_N_182, ⟨(Or.inr ⟨fun h => (zSR.n hsr_N_177 (by omega)) ⟨by have h1 := h.1; have h2 := h.2.1; have h3 := h.2.2.1; have h4 := h.2.2.2.1; have h5 := h.2.2.2.2.1.1.1; have h6 := h.2.2.2.2.1.1.2.1; clear h; omega, h.2.2.2.2.1.1.2.2, h.2.2.2.2.1.2.1, h.2.2.2.2.1.2.2⟩, by omega⟩), (zTC.fr htc_N_177 hI_N_177 hk_c0 hG_N_182 rfl)⟩⟩ dX11_nextBack_78
abbrev f_e_parting3 : List (Nat × Int) := [(21, 0), (21, 1), (22, -1), (23, -1), (24, -1), (25, -1), (26, 0), (27, -1), (28, -1), (29, -1), (30, -1), (31, 0), (32, -1), (33, -1), (34, -1), (35, -1), (36, 0), (37, -1), (38, -1), (39, -1), (40, -1), (41, 2), (41, 3), (41, 4), (41, 5), (41, 7), (41, 8), (41, 9), (41, 13), (42, -1), (43, -1), (44, -1), (45, -1), (46, -1), (62, 0)]
set_option maxHeartbeats 4000000 in
set_option maxRecDepth 100000 in
theorem e_parting3 (G : KG) (l : Launch) (M : Mem) (c0 : Int) (a1 : Int) (a2 : Int) (hI_M : Inv false M) (hk_c0 : kd c0 = 62) (hpre : -2147483648 ≤ a1 ∧ a1 ≤ 2147483647 ∧ -2147483648 ≤ a2 ∧ a2 ≤ 2147483647) (hX_M : XX M) (q : Int → Int) (hS : zSN M (M c0 5) q) (hU : zSU M (M c0 5) q) (hF : zTF M c0) (hK : zTC M c0 q) : KC false G l yX11_parting cX11_parting 4 (some .int) (7, 173) [vR G c0, vI a1, vI a2] M (fun A => kQi false G A (fun (r : Int) (N : Mem) => Inv false N ∧ Fr f_e_parting3 M N ∧ (r ≥ -1 ∧ r ≤ 1000000000) ∧ XX N ∧ (zTC N c0 q))) := by
  refine kx_met (lo := [some (vR G c0), some (vI a1), some (vI a2), none]) (by decide) (Nat.le_of_ble_eq_true rfl) rfl ?_
  intro X F hQ
  have hF_M : Fr f_e_parting3 M M := Fr.rf _ _
  have hk_1 : kd (M c0 5) = 12 := Inv.r hI_M hk_c0 rfl 5 rfl rfl
  have hSn := hS.u
  have hk_2 : kd (M c0 8) = 21 := Inv.r hI_M hk_c0 rfl 8 rfl rfl
  have hk_3 : kd (M c0 9) = 21 := Inv.r hI_M hk_c0 rfl 9 rfl rfl
  refine kx_aload_n 1 F 0 dX11_parting_0 rfl rfl rfl ?_
  refine kx_aload_n 2 F 0 dX11_parting_1 rfl rfl rfl ?_
  refine kx_iload_n 3 F 1 dX11_parting_2 rfl rfl rfl ?_
  refine kx_iload_n 4 F 2 dX11_parting_3 rfl rfl rfl ?_
  refine kx_Vi 7 (ci := 0) F (As := [vI a1, vI a2]) (st := [vR G c0]) vd_X11_219 (e_X11_areTwo G l M c0 a1 a2 hI_M hk_c0 (by omega)) hk_c0 rfl rfl rfl ⟨by decide, by decide⟩ rfl rfl (Nat.le_of_ble_eq_true rfl) dX11_parting_4 rfl ?_
  intro r_4 N_5 q_6
  obtain ⟨rfl, q_6c⟩ := q_6
  have h_7 := Inv.g hI_M hk_1 rfl 3 (a := 0) (b := 2) rfl rfl
  rcases q_6c with q_6c | q_6c | q_6c | q_6c | q_6c | q_6c
  · refine kx_iload_n 8 F 2 dX11_parting_7 rfl rfl rfl ?_
    refine kx_Vi 11 (ci := 0) F (As := [vI r_4, vI a2]) (st := []) vd_X11_327 (e_tableRefusal3 G l M c0 r_4 a2 hI_M hk_c0 (by omega) hX_M q hS hU hF hK (fun h => ⟨by omega, by omega⟩)) hk_c0 rfl rfl rfl ⟨by decide, by decide⟩ rfl rfl (Nat.le_of_ble_eq_true rfl) dX11_parting_8 rfl ?_
    intro r_10 N_11 q_12
    obtain ⟨hI_N_11, hG_N_11, q_12c, hX_N_11, ⟨hsr_N_11, htc_N_11⟩⟩ := q_12
    have hF_N_11 : Fr f_e_parting3 M N_11 := Fr.c hF_M hG_N_11 rfl
    rcases q_12c with q_12c | q_12c
    · refine kx_istore_n 12 F 3 (lo' := [some (vR G c0), some (vI a1), some (vI a2), some (vI r_10)]) dX11_parting_11 rfl (by decide) rfl rfl rfl ?_
      refine kx_iload_n 13 F 3 dX11_parting_12 rfl rfl rfl ?_
      refine kx_if_eq 16 F 22 dX11_parting_13 (by decide) rfl (by omega) (fun h_13 => ?_) (fun h_13 => (by exfalso; omega))
      refine kx_aload_n 23 F 0 dX11_parting_22 rfl rfl rfl ?_
      refine kx_aload_n 24 F 0 dX11_parting_23 rfl rfl rfl ?_
      refine kx_getr 27 F fl_X11_47 hk_c0 rfl rfl (j := 10) rfl dX11_parting_24 (v := (M c0 10)) (by rw [Fr.e hG_N_11 hk_c0 _ rfl]) rfl ?_
      have hk_14 : kd (M c0 10) = 41 := Inv.r hI_M hk_c0 rfl 10 rfl rfl
      refine kx_aload_n 28 F 0 dX11_parting_27 rfl rfl rfl ?_
      refine kx_getr 31 F fl_X11_26 hk_c0 rfl rfl (j := 5) rfl dX11_parting_28 (v := (M c0 5)) (by rw [Fr.e hG_N_11 hk_c0 _ rfl]) rfl ?_
      refine kx_iconst 32 F dX11_parting_31 rfl ?_
      refine kx_iload_n 33 F 1 dX11_parting_32 rfl rfl rfl ?_
      refine kx_iload_n 34 F 2 dX11_parting_33 rfl rfl rfl ?_
      refine kx_Vi 37 (ci := 0) F (As := [vR G (M c0 5), vI 2, vI a1, vI a2]) (st := [vR G c0]) vd_X11_317 (c_X4_slotOf G l N_11 (M c0 10) (M c0 5) 2 a1 a2 hI_N_11 hk_14 hk_1 (by omega) hX_N_11) hk_14 rfl rfl rfl ⟨by decide, by decide⟩ rfl rfl (Nat.le_of_ble_eq_true rfl) dX11_parting_34 rfl ?_
      intro r_15 N_16 q_17
      obtain ⟨hI_N_16, hG_N_16, q_17c, hX_N_16⟩ := q_17
      have hF_N_16 : Fr f_e_parting3 M N_16 := Fr.c hF_N_11 hG_N_16 rfl
      refine kx_Vi 40 (ci := 0) F (As := [vI r_15]) (st := []) vd_X11_321 (c_X11_tellLength G l N_16 c0 r_15 hI_N_16 hk_c0 (by omega)) hk_c0 rfl rfl rfl ⟨by decide, by decide⟩ rfl rfl (Nat.le_of_ble_eq_true rfl) dX11_parting_37 rfl ?_
      intro r_18 N_19 q_20
      obtain ⟨hI_N_19, hG_N_19, q_20c⟩ := q_20
      have hF_N_19 : Fr f_e_parting3 M N_19 := Fr.c hF_N_16 hG_N_19 rfl
      have hX_N_19 : XX N_19 := XX.fr hX_N_16 hI_N_16 hG_N_19 rfl
      exact kx_iret F hQ ⟨hI_N_19, hF_N_19, (by omega), hX_N_19, (zTC.fr (zTC.fr htc_N_11 hI_N_11 hk_c0 hG_N_16 rfl) hI_N_16 hk_c0 hG_N_19 rfl)⟩ dX11_parting_40
    · refine kx_istore_n 12 F 3 (lo' := [some (vR G c0), some (vI a1), some (vI a2), some (vI r_10)]) dX11_parting_11 rfl (by decide) rfl rfl rfl ?_
      refine kx_iload_n 13 F 3 dX11_parting_12 rfl rfl rfl ?_
      refine kx_if_eq 16 F 22 dX11_parting_13 (by decide) rfl (by omega) (fun h_21 => (by exfalso; omega)) (fun h_21 => ?_)
      refine kx_aload_n 17 F 0 dX11_parting_16 rfl rfl rfl ?_
      refine kx_iload_n 18 F 3 dX11_parting_17 rfl rfl rfl ?_
      refine kx_Vi 21 (ci := 0) F (As := [vI r_10]) (st := []) vd_X11_110 (c_X11_refuse G l N_11 c0 r_10 hI_N_11 hk_c0 (by omega)) hk_c0 rfl rfl rfl ⟨by decide, by decide⟩ rfl rfl (Nat.le_of_ble_eq_true rfl) dX11_parting_18 rfl ?_
      intro r_22 N_23 q_24
      obtain ⟨hI_N_23, hG_N_23, q_24c⟩ := q_24
      have hF_N_23 : Fr f_e_parting3 M N_23 := Fr.c hF_N_11 hG_N_23 rfl
      have hX_N_23 : XX N_23 := XX.fr hX_N_11 hI_N_11 hG_N_23 rfl
      subst q_24c
      exact kx_iret F hQ ⟨hI_N_23, hF_N_23, (by omega), hX_N_23, (zTC.fr htc_N_11 hI_N_11 hk_c0 hG_N_23 rfl)⟩ dX11_parting_21
  · refine kx_iload_n 8 F 2 dX11_parting_7 rfl rfl rfl ?_
    refine kx_Vi 11 (ci := 0) F (As := [vI r_4, vI a2]) (st := []) vd_X11_327 (e_tableRefusal3 G l M c0 r_4 a2 hI_M hk_c0 (by omega) hX_M q hS hU hF hK (fun h => ⟨by omega, by omega⟩)) hk_c0 rfl rfl rfl ⟨by decide, by decide⟩ rfl rfl (Nat.le_of_ble_eq_true rfl) dX11_parting_8 rfl ?_
    intro r_25 N_26 q_27
    obtain ⟨hI_N_26, hG_N_26, q_27c, hX_N_26, ⟨hsr_N_26, htc_N_26⟩⟩ := q_27
    have hF_N_26 : Fr f_e_parting3 M N_26 := Fr.c hF_M hG_N_26 rfl
    rcases q_27c with q_27c | q_27c
    · exfalso; omega
    · refine kx_istore_n 12 F 3 (lo' := [some (vR G c0), some (vI a1), some (vI a2), some (vI r_25)]) dX11_parting_11 rfl (by decide) rfl rfl rfl ?_
      refine kx_iload_n 13 F 3 dX11_parting_12 rfl rfl rfl ?_
      refine kx_if_eq 16 F 22 dX11_parting_13 (by decide) rfl (by omega) (fun h_28 => (by exfalso; omega)) (fun h_28 => ?_)
      refine kx_aload_n 17 F 0 dX11_parting_16 rfl rfl rfl ?_
      refine kx_iload_n 18 F 3 dX11_parting_17 rfl rfl rfl ?_
      refine kx_Vi 21 (ci := 0) F (As := [vI r_25]) (st := []) vd_X11_110 (c_X11_refuse G l N_26 c0 r_25 hI_N_26 hk_c0 (by omega)) hk_c0 rfl rfl rfl ⟨by decide, by decide⟩ rfl rfl (Nat.le_of_ble_eq_true rfl) dX11_parting_18 rfl ?_
      intro r_29 N_30 q_31
      obtain ⟨hI_N_30, hG_N_30, q_31c⟩ := q_31
      have hF_N_30 : Fr f_e_parting3 M N_30 := Fr.c hF_N_26 hG_N_30 rfl
      have hX_N_30 : XX N_30 := XX.fr hX_N_26 hI_N_26 hG_N_30 rfl
      subst q_31c
      exact kx_iret F hQ ⟨hI_N_30, hF_N_30, (by omega), hX_N_30, (zTC.fr htc_N_26 hI_N_26 hk_c0 hG_N_30 rfl)⟩ dX11_parting_21
  · refine kx_iload_n 8 F 2 dX11_parting_7 rfl rfl rfl ?_
    refine kx_Vi 11 (ci := 0) F (As := [vI r_4, vI a2]) (st := []) vd_X11_327 (e_tableRefusal3 G l M c0 r_4 a2 hI_M hk_c0 (by omega) hX_M q hS hU hF hK (fun h => ⟨by omega, by omega⟩)) hk_c0 rfl rfl rfl ⟨by decide, by decide⟩ rfl rfl (Nat.le_of_ble_eq_true rfl) dX11_parting_8 rfl ?_
    intro r_32 N_33 q_34
    obtain ⟨hI_N_33, hG_N_33, q_34c, hX_N_33, ⟨hsr_N_33, htc_N_33⟩⟩ := q_34
    have hF_N_33 : Fr f_e_parting3 M N_33 := Fr.c hF_M hG_N_33 rfl
    rcases q_34c with q_34c | q_34c
    · exfalso; omega
    · refine kx_istore_n 12 F 3 (lo' := [some (vR G c0), some (vI a1), some (vI a2), some (vI r_32)]) dX11_parting_11 rfl (by decide) rfl rfl rfl ?_
      refine kx_iload_n 13 F 3 dX11_parting_12 rfl rfl rfl ?_
      refine kx_if_eq 16 F 22 dX11_parting_13 (by decide) rfl (by omega) (fun h_35 => (by exfalso; omega)) (fun h_35 => ?_)
      refine kx_aload_n 17 F 0 dX11_parting_16 rfl rfl rfl ?_
      refine kx_iload_n 18 F 3 dX11_parting_17 rfl rfl rfl ?_
      refine kx_Vi 21 (ci := 0) F (As := [vI r_32]) (st := []) vd_X11_110 (c_X11_refuse G l N_33 c0 r_32 hI_N_33 hk_c0 (by omega)) hk_c0 rfl rfl rfl ⟨by decide, by decide⟩ rfl rfl (Nat.le_of_ble_eq_true rfl) dX11_parting_18 rfl ?_
      intro r_36 N_37 q_38
      obtain ⟨hI_N_37, hG_N_37, q_38c⟩ := q_38
      have hF_N_37 : Fr f_e_parting3 M N_37 := Fr.c hF_N_33 hG_N_37 rfl
      have hX_N_37 : XX N_37 := XX.fr hX_N_33 hI_N_33 hG_N_37 rfl
      subst q_38c
      exact kx_iret F hQ ⟨hI_N_37, hF_N_37, (by omega), hX_N_37, (zTC.fr htc_N_33 hI_N_33 hk_c0 hG_N_37 rfl)⟩ dX11_parting_21
  · refine kx_iload_n 8 F 2 dX11_parting_7 rfl rfl rfl ?_
    refine kx_Vi 11 (ci := 0) F (As := [vI r_4, vI a2]) (st := []) vd_X11_327 (e_tableRefusal3 G l M c0 r_4 a2 hI_M hk_c0 (by omega) hX_M q hS hU hF hK (fun h => ⟨by omega, by omega⟩)) hk_c0 rfl rfl rfl ⟨by decide, by decide⟩ rfl rfl (Nat.le_of_ble_eq_true rfl) dX11_parting_8 rfl ?_
    intro r_39 N_40 q_41
    obtain ⟨hI_N_40, hG_N_40, q_41c, hX_N_40, ⟨hsr_N_40, htc_N_40⟩⟩ := q_41
    have hF_N_40 : Fr f_e_parting3 M N_40 := Fr.c hF_M hG_N_40 rfl
    rcases q_41c with q_41c | q_41c
    · exfalso; omega
    · refine kx_istore_n 12 F 3 (lo' := [some (vR G c0), some (vI a1), some (vI a2), some (vI r_39)]) dX11_parting_11 rfl (by decide) rfl rfl rfl ?_
      refine kx_iload_n 13 F 3 dX11_parting_12 rfl rfl rfl ?_
      refine kx_if_eq 16 F 22 dX11_parting_13 (by decide) rfl (by omega) (fun h_42 => (by exfalso; omega)) (fun h_42 => ?_)
      refine kx_aload_n 17 F 0 dX11_parting_16 rfl rfl rfl ?_
      refine kx_iload_n 18 F 3 dX11_parting_17 rfl rfl rfl ?_
      refine kx_Vi 21 (ci := 0) F (As := [vI r_39]) (st := []) vd_X11_110 (c_X11_refuse G l N_40 c0 r_39 hI_N_40 hk_c0 (by omega)) hk_c0 rfl rfl rfl ⟨by decide, by decide⟩ rfl rfl (Nat.le_of_ble_eq_true rfl) dX11_parting_18 rfl ?_
      intro r_43 N_44 q_45
      obtain ⟨hI_N_44, hG_N_44, q_45c⟩ := q_45
      have hF_N_44 : Fr f_e_parting3 M N_44 := Fr.c hF_N_40 hG_N_44 rfl
      have hX_N_44 : XX N_44 := XX.fr hX_N_40 hI_N_40 hG_N_44 rfl
      subst q_45c
      exact kx_iret F hQ ⟨hI_N_44, hF_N_44, (by omega), hX_N_44, (zTC.fr htc_N_40 hI_N_40 hk_c0 hG_N_44 rfl)⟩ dX11_parting_21
  · refine kx_iload_n 8 F 2 dX11_parting_7 rfl rfl rfl ?_
    refine kx_Vi 11 (ci := 0) F (As := [vI r_4, vI a2]) (st := []) vd_X11_327 (e_tableRefusal3 G l M c0 r_4 a2 hI_M hk_c0 (by omega) hX_M q hS hU hF hK (fun h => ⟨by omega, by omega⟩)) hk_c0 rfl rfl rfl ⟨by decide, by decide⟩ rfl rfl (Nat.le_of_ble_eq_true rfl) dX11_parting_8 rfl ?_
    intro r_46 N_47 q_48
    obtain ⟨hI_N_47, hG_N_47, q_48c, hX_N_47, ⟨hsr_N_47, htc_N_47⟩⟩ := q_48
    have hF_N_47 : Fr f_e_parting3 M N_47 := Fr.c hF_M hG_N_47 rfl
    rcases q_48c with q_48c | q_48c
    · exfalso; omega
    · refine kx_istore_n 12 F 3 (lo' := [some (vR G c0), some (vI a1), some (vI a2), some (vI r_46)]) dX11_parting_11 rfl (by decide) rfl rfl rfl ?_
      refine kx_iload_n 13 F 3 dX11_parting_12 rfl rfl rfl ?_
      refine kx_if_eq 16 F 22 dX11_parting_13 (by decide) rfl (by omega) (fun h_49 => (by exfalso; omega)) (fun h_49 => ?_)
      refine kx_aload_n 17 F 0 dX11_parting_16 rfl rfl rfl ?_
      refine kx_iload_n 18 F 3 dX11_parting_17 rfl rfl rfl ?_
      refine kx_Vi 21 (ci := 0) F (As := [vI r_46]) (st := []) vd_X11_110 (c_X11_refuse G l N_47 c0 r_46 hI_N_47 hk_c0 (by omega)) hk_c0 rfl rfl rfl ⟨by decide, by decide⟩ rfl rfl (Nat.le_of_ble_eq_true rfl) dX11_parting_18 rfl ?_
      intro r_50 N_51 q_52
      obtain ⟨hI_N_51, hG_N_51, q_52c⟩ := q_52
      have hF_N_51 : Fr f_e_parting3 M N_51 := Fr.c hF_N_47 hG_N_51 rfl
      have hX_N_51 : XX N_51 := XX.fr hX_N_47 hI_N_47 hG_N_51 rfl
      subst q_52c
      exact kx_iret F hQ ⟨hI_N_51, hF_N_51, (by omega), hX_N_51, (zTC.fr htc_N_47 hI_N_47 hk_c0 hG_N_51 rfl)⟩ dX11_parting_21
  · refine kx_iload_n 8 F 2 dX11_parting_7 rfl rfl rfl ?_
    refine kx_Vi 11 (ci := 0) F (As := [vI r_4, vI a2]) (st := []) vd_X11_327 (e_tableRefusal3 G l M c0 r_4 a2 hI_M hk_c0 (by omega) hX_M q hS hU hF hK (fun h => ⟨by omega, by omega⟩)) hk_c0 rfl rfl rfl ⟨by decide, by decide⟩ rfl rfl (Nat.le_of_ble_eq_true rfl) dX11_parting_8 rfl ?_
    intro r_53 N_54 q_55
    obtain ⟨hI_N_54, hG_N_54, q_55c, hX_N_54, ⟨hsr_N_54, htc_N_54⟩⟩ := q_55
    have hF_N_54 : Fr f_e_parting3 M N_54 := Fr.c hF_M hG_N_54 rfl
    rcases q_55c with q_55c | q_55c
    · exfalso; omega
    · refine kx_istore_n 12 F 3 (lo' := [some (vR G c0), some (vI a1), some (vI a2), some (vI r_53)]) dX11_parting_11 rfl (by decide) rfl rfl rfl ?_
      refine kx_iload_n 13 F 3 dX11_parting_12 rfl rfl rfl ?_
      refine kx_if_eq 16 F 22 dX11_parting_13 (by decide) rfl (by omega) (fun h_56 => (by exfalso; omega)) (fun h_56 => ?_)
      refine kx_aload_n 17 F 0 dX11_parting_16 rfl rfl rfl ?_
      refine kx_iload_n 18 F 3 dX11_parting_17 rfl rfl rfl ?_
      refine kx_Vi 21 (ci := 0) F (As := [vI r_53]) (st := []) vd_X11_110 (c_X11_refuse G l N_54 c0 r_53 hI_N_54 hk_c0 (by omega)) hk_c0 rfl rfl rfl ⟨by decide, by decide⟩ rfl rfl (Nat.le_of_ble_eq_true rfl) dX11_parting_18 rfl ?_
      intro r_57 N_58 q_59
      obtain ⟨hI_N_58, hG_N_58, q_59c⟩ := q_59
      have hF_N_58 : Fr f_e_parting3 M N_58 := Fr.c hF_N_54 hG_N_58 rfl
      have hX_N_58 : XX N_58 := XX.fr hX_N_54 hI_N_54 hG_N_58 rfl
      subst q_59c
      exact kx_iret F hQ ⟨hI_N_58, hF_N_58, (by omega), hX_N_58, (zTC.fr htc_N_54 hI_N_54 hk_c0 hG_N_58 rfl)⟩ dX11_parting_21
abbrev f_e_partingAt3 : List (Nat × Int) := [(21, 0), (21, 1), (22, -1), (23, -1), (24, -1), (25, -1), (26, 0), (27, -1), (28, -1), (29, -1), (30, -1), (31, 0), (32, -1), (33, -1), (34, -1), (35, -1), (36, 0), (37, -1), (38, -1), (39, -1), (40, -1), (41, 2), (41, 3), (41, 4), (41, 5), (41, 7), (41, 8), (41, 9), (41, 13), (42, -1), (43, -1), (44, -1), (45, -1), (46, -1), (62, 0)]
set_option maxHeartbeats 4000000 in
set_option maxRecDepth 100000 in
theorem e_partingAt3 (G : KG) (l : Launch) (M : Mem) (c0 : Int) (a1 : Int) (a2 : Int) (a3 : Int) (hI_M : Inv false M) (hk_c0 : kd c0 = 62) (hpre : -2147483648 ≤ a1 ∧ a1 ≤ 2147483647 ∧ -2147483648 ≤ a2 ∧ a2 ≤ 2147483647 ∧ -2147483648 ≤ a3 ∧ a3 ≤ 2147483647) (hX_M : XX M) (q : Int → Int) (hS : zSN M (M c0 5) q) (hU : zSU M (M c0 5) q) (hF : zTF M c0) (hK : zTC M c0 q) : KC false G l yX11_partingAt cX11_partingAt 5 (some .int) (7, 173) [vR G c0, vI a1, vI a2, vI a3] M (fun A => kQi false G A (fun (r : Int) (N : Mem) => Inv false N ∧ Fr f_e_partingAt3 M N ∧ (r ≥ -2147483646 ∧ r ≤ 2147483646) ∧ XX N ∧ (zTC N c0 q))) := by
  refine kx_met (lo := [some (vR G c0), some (vI a1), some (vI a2), some (vI a3), none]) (by decide) (Nat.le_of_ble_eq_true rfl) rfl ?_
  intro X F hQ
  have hF_M : Fr f_e_partingAt3 M M := Fr.rf _ _
  have hk_1 : kd (M c0 5) = 12 := Inv.r hI_M hk_c0 rfl 5 rfl rfl
  have hSn := hS.u
  have hk_2 : kd (M c0 8) = 21 := Inv.r hI_M hk_c0 rfl 8 rfl rfl
  have hk_3 : kd (M c0 9) = 21 := Inv.r hI_M hk_c0 rfl 9 rfl rfl
  refine kx_aload_n 1 F 0 dX11_partingAt_0 rfl rfl rfl ?_
  refine kx_aload_n 2 F 0 dX11_partingAt_1 rfl rfl rfl ?_
  refine kx_iload_n 3 F 1 dX11_partingAt_2 rfl rfl rfl ?_
  refine kx_iload_n 4 F 2 dX11_partingAt_3 rfl rfl rfl ?_
  refine kx_Vi 7 (ci := 0) F (As := [vI a1, vI a2]) (st := [vR G c0]) vd_X11_219 (e_X11_areTwo G l M c0 a1 a2 hI_M hk_c0 (by omega)) hk_c0 rfl rfl rfl ⟨by decide, by decide⟩ rfl rfl (Nat.le_of_ble_eq_true rfl) dX11_partingAt_4 rfl ?_
  intro r_4 N_5 q_6
  obtain ⟨rfl, q_6c⟩ := q_6
  have h_7 := Inv.g hI_M hk_1 rfl 3 (a := 0) (b := 2) rfl rfl
  rcases q_6c with q_6c | q_6c | q_6c | q_6c | q_6c | q_6c
  · refine kx_if_eq 10 F 18 dX11_partingAt_7 (by decide) rfl (by omega) (fun h_10 => (by exfalso; omega)) (fun h_10 => ?_)
    refine kx_iload_n 11 F 3 dX11_partingAt_10 rfl rfl rfl ?_
    refine kx_if_lt 14 F 18 dX11_partingAt_11 (by decide) rfl (by omega) (fun h_11 => ?_) (fun h_11 => ?_)
    · refine kx_iconst 19 F dX11_partingAt_18 rfl ?_
      refine kx_iload_n 20 F 2 dX11_partingAt_19 rfl rfl rfl ?_
      refine kx_Vi 23 (ci := 0) F (As := [vI 0, vI a2]) (st := []) vd_X11_327 (e_tableRefusal3 G l M c0 0 a2 hI_M hk_c0 (by omega) hX_M q hS hU hF hK (fun h => ⟨by omega, by omega⟩)) hk_c0 rfl rfl rfl ⟨by decide, by decide⟩ rfl rfl (Nat.le_of_ble_eq_true rfl) dX11_partingAt_20 rfl ?_
      intro r_12 N_13 q_14
      obtain ⟨hI_N_13, hG_N_13, q_14c, hX_N_13, ⟨hsr_N_13, htc_N_13⟩⟩ := q_14
      have hF_N_13 : Fr f_e_partingAt3 M N_13 := Fr.c hF_M hG_N_13 rfl
      rcases q_14c with q_14c | q_14c
      · exfalso; omega
      · refine kx_istore 25 F 4 (lo' := [some (vR G c0), some (vI a1), some (vI a2), some (vI a3), some (vI r_12)]) dX11_partingAt_23 (by decide) rfl rfl rfl ?_
        refine kx_iload 27 F 4 dX11_partingAt_25 rfl rfl ?_
        refine kx_if_eq 30 F 37 dX11_partingAt_27 (by decide) rfl (by omega) (fun h_15 => (by exfalso; omega)) (fun h_15 => ?_)
        refine kx_aload_n 31 F 0 dX11_partingAt_30 rfl rfl rfl ?_
        refine kx_iload 33 F 4 dX11_partingAt_31 rfl rfl ?_
        refine kx_Vi 36 (ci := 0) F (As := [vI r_12]) (st := []) vd_X11_110 (c_X11_refuse G l N_13 c0 r_12 hI_N_13 hk_c0 (by omega)) hk_c0 rfl rfl rfl ⟨by decide, by decide⟩ rfl rfl (Nat.le_of_ble_eq_true rfl) dX11_partingAt_33 rfl ?_
        intro r_16 N_17 q_18
        obtain ⟨hI_N_17, hG_N_17, q_18c⟩ := q_18
        have hF_N_17 : Fr f_e_partingAt3 M N_17 := Fr.c hF_N_13 hG_N_17 rfl
        have hX_N_17 : XX N_17 := XX.fr hX_N_13 hI_N_13 hG_N_17 rfl
        subst q_18c
        exact kx_iret F hQ ⟨hI_N_17, hF_N_17, (by omega), hX_N_17, (zTC.fr htc_N_13 hI_N_13 hk_c0 hG_N_17 rfl)⟩ dX11_partingAt_36
    · refine kx_iconst 15 F dX11_partingAt_14 rfl ?_
      refine kx_goto 19 F dX11_partingAt_15 (by decide) ?_
      refine kx_iload_n 20 F 2 dX11_partingAt_19 rfl rfl rfl ?_
      refine kx_Vi 23 (ci := 0) F (As := [vI 1, vI a2]) (st := []) vd_X11_327 (e_tableRefusal3 G l M c0 1 a2 hI_M hk_c0 (by omega) hX_M q hS hU hF hK (fun h => ⟨by omega, by omega⟩)) hk_c0 rfl rfl rfl ⟨by decide, by decide⟩ rfl rfl (Nat.le_of_ble_eq_true rfl) dX11_partingAt_20 rfl ?_
      intro r_19 N_20 q_21
      obtain ⟨hI_N_20, hG_N_20, q_21c, hX_N_20, ⟨hsr_N_20, htc_N_20⟩⟩ := q_21
      have hF_N_20 : Fr f_e_partingAt3 M N_20 := Fr.c hF_M hG_N_20 rfl
      rcases q_21c with q_21c | q_21c
      · refine kx_istore 25 F 4 (lo' := [some (vR G c0), some (vI a1), some (vI a2), some (vI a3), some (vI r_19)]) dX11_partingAt_23 (by decide) rfl rfl rfl ?_
        refine kx_iload 27 F 4 dX11_partingAt_25 rfl rfl ?_
        refine kx_if_eq 30 F 37 dX11_partingAt_27 (by decide) rfl (by omega) (fun h_22 => ?_) (fun h_22 => (by exfalso; omega))
        refine kx_aload_n 38 F 0 dX11_partingAt_37 rfl rfl rfl ?_
        refine kx_aload_n 39 F 0 dX11_partingAt_38 rfl rfl rfl ?_
        refine kx_getr 42 F fl_X11_47 hk_c0 rfl rfl (j := 10) rfl dX11_partingAt_39 (v := (M c0 10)) (by rw [Fr.e hG_N_20 hk_c0 _ rfl]) rfl ?_
        have hk_23 : kd (M c0 10) = 41 := Inv.r hI_M hk_c0 rfl 10 rfl rfl
        refine kx_aload_n 43 F 0 dX11_partingAt_42 rfl rfl rfl ?_
        refine kx_getr 46 F fl_X11_26 hk_c0 rfl rfl (j := 5) rfl dX11_partingAt_43 (v := (M c0 5)) (by rw [Fr.e hG_N_20 hk_c0 _ rfl]) rfl ?_
        refine kx_iconst 47 F dX11_partingAt_46 rfl ?_
        refine kx_iload_n 48 F 1 dX11_partingAt_47 rfl rfl rfl ?_
        refine kx_iload_n 49 F 2 dX11_partingAt_48 rfl rfl rfl ?_
        refine kx_Vi 52 (ci := 0) F (As := [vR G (M c0 5), vI 2, vI a1, vI a2]) (st := [vR G c0]) vd_X11_317 (c_X4_slotOf G l N_20 (M c0 10) (M c0 5) 2 a1 a2 hI_N_20 hk_23 hk_1 (by omega) hX_N_20) hk_23 rfl rfl rfl ⟨by decide, by decide⟩ rfl rfl (Nat.le_of_ble_eq_true rfl) dX11_partingAt_49 rfl ?_
        intro r_24 N_25 q_26
        obtain ⟨hI_N_25, hG_N_25, q_26c, hX_N_25⟩ := q_26
        have hF_N_25 : Fr f_e_partingAt3 M N_25 := Fr.c hF_N_20 hG_N_25 rfl
        refine kx_iload_n 53 F 3 dX11_partingAt_52 rfl rfl rfl ?_
        refine kx_Vi 56 (ci := 0) F (As := [vI r_24, vI a3]) (st := []) vd_X11_324 (c_X11_tellLetter G l N_25 c0 r_24 a3 hI_N_25 hk_c0 (by omega)) hk_c0 rfl rfl rfl ⟨by decide, by decide⟩ rfl rfl (Nat.le_of_ble_eq_true rfl) dX11_partingAt_53 rfl ?_
        intro r_27 N_28 q_29
        obtain ⟨hI_N_28, hG_N_28, q_29c⟩ := q_29
        have hF_N_28 : Fr f_e_partingAt3 M N_28 := Fr.c hF_N_25 hG_N_28 rfl
        have hX_N_28 : XX N_28 := XX.fr hX_N_25 hI_N_25 hG_N_28 rfl
        exact kx_iret F hQ ⟨hI_N_28, hF_N_28, (by omega), hX_N_28, (zTC.fr (zTC.fr htc_N_20 hI_N_20 hk_c0 hG_N_25 rfl) hI_N_25 hk_c0 hG_N_28 rfl)⟩ dX11_partingAt_56
      · refine kx_istore 25 F 4 (lo' := [some (vR G c0), some (vI a1), some (vI a2), some (vI a3), some (vI r_19)]) dX11_partingAt_23 (by decide) rfl rfl rfl ?_
        refine kx_iload 27 F 4 dX11_partingAt_25 rfl rfl ?_
        refine kx_if_eq 30 F 37 dX11_partingAt_27 (by decide) rfl (by omega) (fun h_30 => (by exfalso; omega)) (fun h_30 => ?_)
        refine kx_aload_n 31 F 0 dX11_partingAt_30 rfl rfl rfl ?_
        refine kx_iload 33 F 4 dX11_partingAt_31 rfl rfl ?_
        refine kx_Vi 36 (ci := 0) F (As := [vI r_19]) (st := []) vd_X11_110 (c_X11_refuse G l N_20 c0 r_19 hI_N_20 hk_c0 (by omega)) hk_c0 rfl rfl rfl ⟨by decide, by decide⟩ rfl rfl (Nat.le_of_ble_eq_true rfl) dX11_partingAt_33 rfl ?_
        intro r_31 N_32 q_33
        obtain ⟨hI_N_32, hG_N_32, q_33c⟩ := q_33
        have hF_N_32 : Fr f_e_partingAt3 M N_32 := Fr.c hF_N_20 hG_N_32 rfl
        have hX_N_32 : XX N_32 := XX.fr hX_N_20 hI_N_20 hG_N_32 rfl
        subst q_33c
        exact kx_iret F hQ ⟨hI_N_32, hF_N_32, (by omega), hX_N_32, (zTC.fr htc_N_20 hI_N_20 hk_c0 hG_N_32 rfl)⟩ dX11_partingAt_36
  · refine kx_if_eq 10 F 18 dX11_partingAt_7 (by decide) rfl (by omega) (fun h_34 => ?_) (fun h_34 => (by exfalso; omega))
    refine kx_iconst 19 F dX11_partingAt_18 rfl ?_
    refine kx_iload_n 20 F 2 dX11_partingAt_19 rfl rfl rfl ?_
    refine kx_Vi 23 (ci := 0) F (As := [vI 0, vI a2]) (st := []) vd_X11_327 (e_tableRefusal3 G l M c0 0 a2 hI_M hk_c0 (by omega) hX_M q hS hU hF hK (fun h => ⟨by omega, by omega⟩)) hk_c0 rfl rfl rfl ⟨by decide, by decide⟩ rfl rfl (Nat.le_of_ble_eq_true rfl) dX11_partingAt_20 rfl ?_
    intro r_35 N_36 q_37
    obtain ⟨hI_N_36, hG_N_36, q_37c, hX_N_36, ⟨hsr_N_36, htc_N_36⟩⟩ := q_37
    have hF_N_36 : Fr f_e_partingAt3 M N_36 := Fr.c hF_M hG_N_36 rfl
    rcases q_37c with q_37c | q_37c
    · exfalso; omega
    · refine kx_istore 25 F 4 (lo' := [some (vR G c0), some (vI a1), some (vI a2), some (vI a3), some (vI r_35)]) dX11_partingAt_23 (by decide) rfl rfl rfl ?_
      refine kx_iload 27 F 4 dX11_partingAt_25 rfl rfl ?_
      refine kx_if_eq 30 F 37 dX11_partingAt_27 (by decide) rfl (by omega) (fun h_38 => (by exfalso; omega)) (fun h_38 => ?_)
      refine kx_aload_n 31 F 0 dX11_partingAt_30 rfl rfl rfl ?_
      refine kx_iload 33 F 4 dX11_partingAt_31 rfl rfl ?_
      refine kx_Vi 36 (ci := 0) F (As := [vI r_35]) (st := []) vd_X11_110 (c_X11_refuse G l N_36 c0 r_35 hI_N_36 hk_c0 (by omega)) hk_c0 rfl rfl rfl ⟨by decide, by decide⟩ rfl rfl (Nat.le_of_ble_eq_true rfl) dX11_partingAt_33 rfl ?_
      intro r_39 N_40 q_41
      obtain ⟨hI_N_40, hG_N_40, q_41c⟩ := q_41
      have hF_N_40 : Fr f_e_partingAt3 M N_40 := Fr.c hF_N_36 hG_N_40 rfl
      have hX_N_40 : XX N_40 := XX.fr hX_N_36 hI_N_36 hG_N_40 rfl
      subst q_41c
      exact kx_iret F hQ ⟨hI_N_40, hF_N_40, (by omega), hX_N_40, (zTC.fr htc_N_36 hI_N_36 hk_c0 hG_N_40 rfl)⟩ dX11_partingAt_36
  · refine kx_if_eq 10 F 18 dX11_partingAt_7 (by decide) rfl (by omega) (fun h_42 => ?_) (fun h_42 => (by exfalso; omega))
    refine kx_iconst 19 F dX11_partingAt_18 rfl ?_
    refine kx_iload_n 20 F 2 dX11_partingAt_19 rfl rfl rfl ?_
    refine kx_Vi 23 (ci := 0) F (As := [vI 0, vI a2]) (st := []) vd_X11_327 (e_tableRefusal3 G l M c0 0 a2 hI_M hk_c0 (by omega) hX_M q hS hU hF hK (fun h => ⟨by omega, by omega⟩)) hk_c0 rfl rfl rfl ⟨by decide, by decide⟩ rfl rfl (Nat.le_of_ble_eq_true rfl) dX11_partingAt_20 rfl ?_
    intro r_43 N_44 q_45
    obtain ⟨hI_N_44, hG_N_44, q_45c, hX_N_44, ⟨hsr_N_44, htc_N_44⟩⟩ := q_45
    have hF_N_44 : Fr f_e_partingAt3 M N_44 := Fr.c hF_M hG_N_44 rfl
    rcases q_45c with q_45c | q_45c
    · exfalso; omega
    · refine kx_istore 25 F 4 (lo' := [some (vR G c0), some (vI a1), some (vI a2), some (vI a3), some (vI r_43)]) dX11_partingAt_23 (by decide) rfl rfl rfl ?_
      refine kx_iload 27 F 4 dX11_partingAt_25 rfl rfl ?_
      refine kx_if_eq 30 F 37 dX11_partingAt_27 (by decide) rfl (by omega) (fun h_46 => (by exfalso; omega)) (fun h_46 => ?_)
      refine kx_aload_n 31 F 0 dX11_partingAt_30 rfl rfl rfl ?_
      refine kx_iload 33 F 4 dX11_partingAt_31 rfl rfl ?_
      refine kx_Vi 36 (ci := 0) F (As := [vI r_43]) (st := []) vd_X11_110 (c_X11_refuse G l N_44 c0 r_43 hI_N_44 hk_c0 (by omega)) hk_c0 rfl rfl rfl ⟨by decide, by decide⟩ rfl rfl (Nat.le_of_ble_eq_true rfl) dX11_partingAt_33 rfl ?_
      intro r_47 N_48 q_49
      obtain ⟨hI_N_48, hG_N_48, q_49c⟩ := q_49
      have hF_N_48 : Fr f_e_partingAt3 M N_48 := Fr.c hF_N_44 hG_N_48 rfl
      have hX_N_48 : XX N_48 := XX.fr hX_N_44 hI_N_44 hG_N_48 rfl
      subst q_49c
      exact kx_iret F hQ ⟨hI_N_48, hF_N_48, (by omega), hX_N_48, (zTC.fr htc_N_44 hI_N_44 hk_c0 hG_N_48 rfl)⟩ dX11_partingAt_36
  · refine kx_if_eq 10 F 18 dX11_partingAt_7 (by decide) rfl (by omega) (fun h_50 => ?_) (fun h_50 => (by exfalso; omega))
    refine kx_iconst 19 F dX11_partingAt_18 rfl ?_
    refine kx_iload_n 20 F 2 dX11_partingAt_19 rfl rfl rfl ?_
    refine kx_Vi 23 (ci := 0) F (As := [vI 0, vI a2]) (st := []) vd_X11_327 (e_tableRefusal3 G l M c0 0 a2 hI_M hk_c0 (by omega) hX_M q hS hU hF hK (fun h => ⟨by omega, by omega⟩)) hk_c0 rfl rfl rfl ⟨by decide, by decide⟩ rfl rfl (Nat.le_of_ble_eq_true rfl) dX11_partingAt_20 rfl ?_
    intro r_51 N_52 q_53
    obtain ⟨hI_N_52, hG_N_52, q_53c, hX_N_52, ⟨hsr_N_52, htc_N_52⟩⟩ := q_53
    have hF_N_52 : Fr f_e_partingAt3 M N_52 := Fr.c hF_M hG_N_52 rfl
    rcases q_53c with q_53c | q_53c
    · exfalso; omega
    · refine kx_istore 25 F 4 (lo' := [some (vR G c0), some (vI a1), some (vI a2), some (vI a3), some (vI r_51)]) dX11_partingAt_23 (by decide) rfl rfl rfl ?_
      refine kx_iload 27 F 4 dX11_partingAt_25 rfl rfl ?_
      refine kx_if_eq 30 F 37 dX11_partingAt_27 (by decide) rfl (by omega) (fun h_54 => (by exfalso; omega)) (fun h_54 => ?_)
      refine kx_aload_n 31 F 0 dX11_partingAt_30 rfl rfl rfl ?_
      refine kx_iload 33 F 4 dX11_partingAt_31 rfl rfl ?_
      refine kx_Vi 36 (ci := 0) F (As := [vI r_51]) (st := []) vd_X11_110 (c_X11_refuse G l N_52 c0 r_51 hI_N_52 hk_c0 (by omega)) hk_c0 rfl rfl rfl ⟨by decide, by decide⟩ rfl rfl (Nat.le_of_ble_eq_true rfl) dX11_partingAt_33 rfl ?_
      intro r_55 N_56 q_57
      obtain ⟨hI_N_56, hG_N_56, q_57c⟩ := q_57
      have hF_N_56 : Fr f_e_partingAt3 M N_56 := Fr.c hF_N_52 hG_N_56 rfl
      have hX_N_56 : XX N_56 := XX.fr hX_N_52 hI_N_52 hG_N_56 rfl
      subst q_57c
      exact kx_iret F hQ ⟨hI_N_56, hF_N_56, (by omega), hX_N_56, (zTC.fr htc_N_52 hI_N_52 hk_c0 hG_N_56 rfl)⟩ dX11_partingAt_36
  · refine kx_if_eq 10 F 18 dX11_partingAt_7 (by decide) rfl (by omega) (fun h_58 => ?_) (fun h_58 => (by exfalso; omega))
    refine kx_iconst 19 F dX11_partingAt_18 rfl ?_
    refine kx_iload_n 20 F 2 dX11_partingAt_19 rfl rfl rfl ?_
    refine kx_Vi 23 (ci := 0) F (As := [vI 0, vI a2]) (st := []) vd_X11_327 (e_tableRefusal3 G l M c0 0 a2 hI_M hk_c0 (by omega) hX_M q hS hU hF hK (fun h => ⟨by omega, by omega⟩)) hk_c0 rfl rfl rfl ⟨by decide, by decide⟩ rfl rfl (Nat.le_of_ble_eq_true rfl) dX11_partingAt_20 rfl ?_
    intro r_59 N_60 q_61
    obtain ⟨hI_N_60, hG_N_60, q_61c, hX_N_60, ⟨hsr_N_60, htc_N_60⟩⟩ := q_61
    have hF_N_60 : Fr f_e_partingAt3 M N_60 := Fr.c hF_M hG_N_60 rfl
    rcases q_61c with q_61c | q_61c
    · exfalso; omega
    · refine kx_istore 25 F 4 (lo' := [some (vR G c0), some (vI a1), some (vI a2), some (vI a3), some (vI r_59)]) dX11_partingAt_23 (by decide) rfl rfl rfl ?_
      refine kx_iload 27 F 4 dX11_partingAt_25 rfl rfl ?_
      refine kx_if_eq 30 F 37 dX11_partingAt_27 (by decide) rfl (by omega) (fun h_62 => (by exfalso; omega)) (fun h_62 => ?_)
      refine kx_aload_n 31 F 0 dX11_partingAt_30 rfl rfl rfl ?_
      refine kx_iload 33 F 4 dX11_partingAt_31 rfl rfl ?_
      refine kx_Vi 36 (ci := 0) F (As := [vI r_59]) (st := []) vd_X11_110 (c_X11_refuse G l N_60 c0 r_59 hI_N_60 hk_c0 (by omega)) hk_c0 rfl rfl rfl ⟨by decide, by decide⟩ rfl rfl (Nat.le_of_ble_eq_true rfl) dX11_partingAt_33 rfl ?_
      intro r_63 N_64 q_65
      obtain ⟨hI_N_64, hG_N_64, q_65c⟩ := q_65
      have hF_N_64 : Fr f_e_partingAt3 M N_64 := Fr.c hF_N_60 hG_N_64 rfl
      have hX_N_64 : XX N_64 := XX.fr hX_N_60 hI_N_60 hG_N_64 rfl
      subst q_65c
      exact kx_iret F hQ ⟨hI_N_64, hF_N_64, (by omega), hX_N_64, (zTC.fr htc_N_60 hI_N_60 hk_c0 hG_N_64 rfl)⟩ dX11_partingAt_36
  · refine kx_if_eq 10 F 18 dX11_partingAt_7 (by decide) rfl (by omega) (fun h_66 => ?_) (fun h_66 => (by exfalso; omega))
    refine kx_iconst 19 F dX11_partingAt_18 rfl ?_
    refine kx_iload_n 20 F 2 dX11_partingAt_19 rfl rfl rfl ?_
    refine kx_Vi 23 (ci := 0) F (As := [vI 0, vI a2]) (st := []) vd_X11_327 (e_tableRefusal3 G l M c0 0 a2 hI_M hk_c0 (by omega) hX_M q hS hU hF hK (fun h => ⟨by omega, by omega⟩)) hk_c0 rfl rfl rfl ⟨by decide, by decide⟩ rfl rfl (Nat.le_of_ble_eq_true rfl) dX11_partingAt_20 rfl ?_
    intro r_67 N_68 q_69
    obtain ⟨hI_N_68, hG_N_68, q_69c, hX_N_68, ⟨hsr_N_68, htc_N_68⟩⟩ := q_69
    have hF_N_68 : Fr f_e_partingAt3 M N_68 := Fr.c hF_M hG_N_68 rfl
    rcases q_69c with q_69c | q_69c
    · exfalso; omega
    · refine kx_istore 25 F 4 (lo' := [some (vR G c0), some (vI a1), some (vI a2), some (vI a3), some (vI r_67)]) dX11_partingAt_23 (by decide) rfl rfl rfl ?_
      refine kx_iload 27 F 4 dX11_partingAt_25 rfl rfl ?_
      refine kx_if_eq 30 F 37 dX11_partingAt_27 (by decide) rfl (by omega) (fun h_70 => (by exfalso; omega)) (fun h_70 => ?_)
      refine kx_aload_n 31 F 0 dX11_partingAt_30 rfl rfl rfl ?_
      refine kx_iload 33 F 4 dX11_partingAt_31 rfl rfl ?_
      refine kx_Vi 36 (ci := 0) F (As := [vI r_67]) (st := []) vd_X11_110 (c_X11_refuse G l N_68 c0 r_67 hI_N_68 hk_c0 (by omega)) hk_c0 rfl rfl rfl ⟨by decide, by decide⟩ rfl rfl (Nat.le_of_ble_eq_true rfl) dX11_partingAt_33 rfl ?_
      intro r_71 N_72 q_73
      obtain ⟨hI_N_72, hG_N_72, q_73c⟩ := q_73
      have hF_N_72 : Fr f_e_partingAt3 M N_72 := Fr.c hF_N_68 hG_N_72 rfl
      have hX_N_72 : XX N_72 := XX.fr hX_N_68 hI_N_68 hG_N_72 rfl
      subst q_73c
      exact kx_iret F hQ ⟨hI_N_72, hF_N_72, (by omega), hX_N_72, (zTC.fr htc_N_68 hI_N_68 hk_c0 hG_N_72 rfl)⟩ dX11_partingAt_36
abbrev f_e_missing3 : List (Nat × Int) := [(21, 0), (21, 1), (22, -1), (23, -1), (24, -1), (25, -1), (26, 0), (27, -1), (28, -1), (29, -1), (30, -1), (31, 0), (32, -1), (33, -1), (34, -1), (35, -1), (36, 0), (37, -1), (38, -1), (39, -1), (40, -1), (41, 2), (41, 3), (41, 4), (41, 5), (41, 7), (41, 8), (41, 9), (41, 13), (42, -1), (43, -1), (44, -1), (45, -1), (46, -1), (62, 0)]
set_option maxHeartbeats 4000000 in
set_option maxRecDepth 100000 in
theorem e_missing3 (G : KG) (l : Launch) (M : Mem) (c0 : Int) (a1 : Int) (hI_M : Inv false M) (hk_c0 : kd c0 = 62) (hpre : -2147483648 ≤ a1 ∧ a1 ≤ 2147483647) (hX_M : XX M) (q : Int → Int) (hS : zSN M (M c0 5) q) (hU : zSU M (M c0 5) q) (hF : zTF M c0) (hK : zTC M c0 q) : KC false G l yX11_missing cX11_missing 3 (some .int) (7, 173) [vR G c0, vI a1] M (fun A => kQi false G A (fun (r : Int) (N : Mem) => Inv false N ∧ Fr f_e_missing3 M N ∧ (r ≥ -1 ∧ r ≤ 1000000000) ∧ XX N ∧ (zTC N c0 q))) := by
  refine kx_met (lo := [some (vR G c0), some (vI a1), none]) (by decide) (Nat.le_of_ble_eq_true rfl) rfl ?_
  intro X F hQ
  have hF_M : Fr f_e_missing3 M M := Fr.rf _ _
  have hk_1 : kd (M c0 5) = 12 := Inv.r hI_M hk_c0 rfl 5 rfl rfl
  have hSn := hS.u
  have hk_2 : kd (M c0 8) = 21 := Inv.r hI_M hk_c0 rfl 8 rfl rfl
  have hk_3 : kd (M c0 9) = 21 := Inv.r hI_M hk_c0 rfl 9 rfl rfl
  refine kx_aload_n 1 F 0 dX11_missing_0 rfl rfl rfl ?_
  refine kx_aload_n 2 F 0 dX11_missing_1 rfl rfl rfl ?_
  refine kx_getr 5 F fl_X11_26 hk_c0 rfl rfl (j := 5) rfl dX11_missing_2 (v := (M c0 5)) rfl rfl ?_
  refine kx_iload_n 6 F 1 dX11_missing_5 rfl rfl rfl ?_
  refine kx_Vi 9 (ci := 0) F (As := [vI a1]) (st := [vR G c0]) vd_X11_163 (e_X5_has G l M (M c0 5) a1 hI_M hk_1 (by omega)) hk_1 rfl rfl rfl ⟨by decide, by decide⟩ rfl rfl (Nat.le_of_ble_eq_true rfl) dX11_missing_6 rfl ?_
  intro r_4 N_5 q_6
  obtain ⟨rfl, q_6c⟩ := q_6
  have h_7 := Inv.g hI_M hk_1 rfl 3 (a := 0) (b := 2) rfl rfl
  rcases q_6c with q_6c | q_6c | q_6c
  · refine kx_iload_n 10 F 1 dX11_missing_9 rfl rfl rfl ?_
    refine kx_Vi 13 (ci := 0) F (As := [vI r_4, vI a1]) (st := []) vd_X11_327 (e_tableRefusal3 G l M c0 r_4 a1 hI_M hk_c0 (by omega) hX_M q hS hU hF hK (fun h => ⟨by omega, by omega⟩)) hk_c0 rfl rfl rfl ⟨by decide, by decide⟩ rfl rfl (Nat.le_of_ble_eq_true rfl) dX11_missing_10 rfl ?_
    intro r_9 N_10 q_11
    obtain ⟨hI_N_10, hG_N_10, q_11c, hX_N_10, ⟨hsr_N_10, htc_N_10⟩⟩ := q_11
    have hF_N_10 : Fr f_e_missing3 M N_10 := Fr.c hF_M hG_N_10 rfl
    rcases q_11c with q_11c | q_11c
    · refine kx_istore_n 14 F 2 (lo' := [some (vR G c0), some (vI a1), some (vI r_9)]) dX11_missing_13 rfl (by decide) rfl rfl rfl ?_
      refine kx_iload_n 15 F 2 dX11_missing_14 rfl rfl rfl ?_
      refine kx_if_eq 18 F 24 dX11_missing_15 (by decide) rfl (by omega) (fun h_12 => ?_) (fun h_12 => (by exfalso; omega))
      refine kx_aload_n 25 F 0 dX11_missing_24 rfl rfl rfl ?_
      refine kx_aload_n 26 F 0 dX11_missing_25 rfl rfl rfl ?_
      refine kx_getr 29 F fl_X11_47 hk_c0 rfl rfl (j := 10) rfl dX11_missing_26 (v := (M c0 10)) (by rw [Fr.e hG_N_10 hk_c0 _ rfl]) rfl ?_
      have hk_13 : kd (M c0 10) = 41 := Inv.r hI_M hk_c0 rfl 10 rfl rfl
      refine kx_aload_n 30 F 0 dX11_missing_29 rfl rfl rfl ?_
      refine kx_getr 33 F fl_X11_26 hk_c0 rfl rfl (j := 5) rfl dX11_missing_30 (v := (M c0 5)) (by rw [Fr.e hG_N_10 hk_c0 _ rfl]) rfl ?_
      refine kx_iconst 34 F dX11_missing_33 rfl ?_
      refine kx_iload_n 35 F 1 dX11_missing_34 rfl rfl rfl ?_
      refine kx_iload_n 36 F 1 dX11_missing_35 rfl rfl rfl ?_
      refine kx_Vi 39 (ci := 0) F (As := [vR G (M c0 5), vI 3, vI a1, vI a1]) (st := [vR G c0]) vd_X11_317 (c_X4_slotOf G l N_10 (M c0 10) (M c0 5) 3 a1 a1 hI_N_10 hk_13 hk_1 (by omega) hX_N_10) hk_13 rfl rfl rfl ⟨by decide, by decide⟩ rfl rfl (Nat.le_of_ble_eq_true rfl) dX11_missing_36 rfl ?_
      intro r_14 N_15 q_16
      obtain ⟨hI_N_15, hG_N_15, q_16c, hX_N_15⟩ := q_16
      have hF_N_15 : Fr f_e_missing3 M N_15 := Fr.c hF_N_10 hG_N_15 rfl
      refine kx_Vi 42 (ci := 0) F (As := [vI r_14]) (st := []) vd_X11_321 (c_X11_tellLength G l N_15 c0 r_14 hI_N_15 hk_c0 (by omega)) hk_c0 rfl rfl rfl ⟨by decide, by decide⟩ rfl rfl (Nat.le_of_ble_eq_true rfl) dX11_missing_39 rfl ?_
      intro r_17 N_18 q_19
      obtain ⟨hI_N_18, hG_N_18, q_19c⟩ := q_19
      have hF_N_18 : Fr f_e_missing3 M N_18 := Fr.c hF_N_15 hG_N_18 rfl
      have hX_N_18 : XX N_18 := XX.fr hX_N_15 hI_N_15 hG_N_18 rfl
      exact kx_iret F hQ ⟨hI_N_18, hF_N_18, (by omega), hX_N_18, (zTC.fr (zTC.fr htc_N_10 hI_N_10 hk_c0 hG_N_15 rfl) hI_N_15 hk_c0 hG_N_18 rfl)⟩ dX11_missing_42
    · refine kx_istore_n 14 F 2 (lo' := [some (vR G c0), some (vI a1), some (vI r_9)]) dX11_missing_13 rfl (by decide) rfl rfl rfl ?_
      refine kx_iload_n 15 F 2 dX11_missing_14 rfl rfl rfl ?_
      refine kx_if_eq 18 F 24 dX11_missing_15 (by decide) rfl (by omega) (fun h_20 => (by exfalso; omega)) (fun h_20 => ?_)
      refine kx_aload_n 19 F 0 dX11_missing_18 rfl rfl rfl ?_
      refine kx_iload_n 20 F 2 dX11_missing_19 rfl rfl rfl ?_
      refine kx_Vi 23 (ci := 0) F (As := [vI r_9]) (st := []) vd_X11_110 (c_X11_refuse G l N_10 c0 r_9 hI_N_10 hk_c0 (by omega)) hk_c0 rfl rfl rfl ⟨by decide, by decide⟩ rfl rfl (Nat.le_of_ble_eq_true rfl) dX11_missing_20 rfl ?_
      intro r_21 N_22 q_23
      obtain ⟨hI_N_22, hG_N_22, q_23c⟩ := q_23
      have hF_N_22 : Fr f_e_missing3 M N_22 := Fr.c hF_N_10 hG_N_22 rfl
      have hX_N_22 : XX N_22 := XX.fr hX_N_10 hI_N_10 hG_N_22 rfl
      subst q_23c
      exact kx_iret F hQ ⟨hI_N_22, hF_N_22, (by omega), hX_N_22, (zTC.fr htc_N_10 hI_N_10 hk_c0 hG_N_22 rfl)⟩ dX11_missing_23
  · refine kx_iload_n 10 F 1 dX11_missing_9 rfl rfl rfl ?_
    refine kx_Vi 13 (ci := 0) F (As := [vI r_4, vI a1]) (st := []) vd_X11_327 (e_tableRefusal3 G l M c0 r_4 a1 hI_M hk_c0 (by omega) hX_M q hS hU hF hK (fun h => ⟨by omega, by omega⟩)) hk_c0 rfl rfl rfl ⟨by decide, by decide⟩ rfl rfl (Nat.le_of_ble_eq_true rfl) dX11_missing_10 rfl ?_
    intro r_24 N_25 q_26
    obtain ⟨hI_N_25, hG_N_25, q_26c, hX_N_25, ⟨hsr_N_25, htc_N_25⟩⟩ := q_26
    have hF_N_25 : Fr f_e_missing3 M N_25 := Fr.c hF_M hG_N_25 rfl
    rcases q_26c with q_26c | q_26c
    · exfalso; omega
    · refine kx_istore_n 14 F 2 (lo' := [some (vR G c0), some (vI a1), some (vI r_24)]) dX11_missing_13 rfl (by decide) rfl rfl rfl ?_
      refine kx_iload_n 15 F 2 dX11_missing_14 rfl rfl rfl ?_
      refine kx_if_eq 18 F 24 dX11_missing_15 (by decide) rfl (by omega) (fun h_27 => (by exfalso; omega)) (fun h_27 => ?_)
      refine kx_aload_n 19 F 0 dX11_missing_18 rfl rfl rfl ?_
      refine kx_iload_n 20 F 2 dX11_missing_19 rfl rfl rfl ?_
      refine kx_Vi 23 (ci := 0) F (As := [vI r_24]) (st := []) vd_X11_110 (c_X11_refuse G l N_25 c0 r_24 hI_N_25 hk_c0 (by omega)) hk_c0 rfl rfl rfl ⟨by decide, by decide⟩ rfl rfl (Nat.le_of_ble_eq_true rfl) dX11_missing_20 rfl ?_
      intro r_28 N_29 q_30
      obtain ⟨hI_N_29, hG_N_29, q_30c⟩ := q_30
      have hF_N_29 : Fr f_e_missing3 M N_29 := Fr.c hF_N_25 hG_N_29 rfl
      have hX_N_29 : XX N_29 := XX.fr hX_N_25 hI_N_25 hG_N_29 rfl
      subst q_30c
      exact kx_iret F hQ ⟨hI_N_29, hF_N_29, (by omega), hX_N_29, (zTC.fr htc_N_25 hI_N_25 hk_c0 hG_N_29 rfl)⟩ dX11_missing_23
  · refine kx_iload_n 10 F 1 dX11_missing_9 rfl rfl rfl ?_
    refine kx_Vi 13 (ci := 0) F (As := [vI r_4, vI a1]) (st := []) vd_X11_327 (e_tableRefusal3 G l M c0 r_4 a1 hI_M hk_c0 (by omega) hX_M q hS hU hF hK (fun h => ⟨by omega, by omega⟩)) hk_c0 rfl rfl rfl ⟨by decide, by decide⟩ rfl rfl (Nat.le_of_ble_eq_true rfl) dX11_missing_10 rfl ?_
    intro r_31 N_32 q_33
    obtain ⟨hI_N_32, hG_N_32, q_33c, hX_N_32, ⟨hsr_N_32, htc_N_32⟩⟩ := q_33
    have hF_N_32 : Fr f_e_missing3 M N_32 := Fr.c hF_M hG_N_32 rfl
    rcases q_33c with q_33c | q_33c
    · exfalso; omega
    · refine kx_istore_n 14 F 2 (lo' := [some (vR G c0), some (vI a1), some (vI r_31)]) dX11_missing_13 rfl (by decide) rfl rfl rfl ?_
      refine kx_iload_n 15 F 2 dX11_missing_14 rfl rfl rfl ?_
      refine kx_if_eq 18 F 24 dX11_missing_15 (by decide) rfl (by omega) (fun h_34 => (by exfalso; omega)) (fun h_34 => ?_)
      refine kx_aload_n 19 F 0 dX11_missing_18 rfl rfl rfl ?_
      refine kx_iload_n 20 F 2 dX11_missing_19 rfl rfl rfl ?_
      refine kx_Vi 23 (ci := 0) F (As := [vI r_31]) (st := []) vd_X11_110 (c_X11_refuse G l N_32 c0 r_31 hI_N_32 hk_c0 (by omega)) hk_c0 rfl rfl rfl ⟨by decide, by decide⟩ rfl rfl (Nat.le_of_ble_eq_true rfl) dX11_missing_20 rfl ?_
      intro r_35 N_36 q_37
      obtain ⟨hI_N_36, hG_N_36, q_37c⟩ := q_37
      have hF_N_36 : Fr f_e_missing3 M N_36 := Fr.c hF_N_32 hG_N_36 rfl
      have hX_N_36 : XX N_36 := XX.fr hX_N_32 hI_N_32 hG_N_36 rfl
      subst q_37c
      exact kx_iret F hQ ⟨hI_N_36, hF_N_36, (by omega), hX_N_36, (zTC.fr htc_N_32 hI_N_32 hk_c0 hG_N_36 rfl)⟩ dX11_missing_23
abbrev f_e_missingAt3 : List (Nat × Int) := [(21, 0), (21, 1), (22, -1), (23, -1), (24, -1), (25, -1), (26, 0), (27, -1), (28, -1), (29, -1), (30, -1), (31, 0), (32, -1), (33, -1), (34, -1), (35, -1), (36, 0), (37, -1), (38, -1), (39, -1), (40, -1), (41, 2), (41, 3), (41, 4), (41, 5), (41, 7), (41, 8), (41, 9), (41, 13), (42, -1), (43, -1), (44, -1), (45, -1), (46, -1), (62, 0)]
set_option maxHeartbeats 4000000 in
set_option maxRecDepth 100000 in
theorem e_missingAt3 (G : KG) (l : Launch) (M : Mem) (c0 : Int) (a1 : Int) (a2 : Int) (hI_M : Inv false M) (hk_c0 : kd c0 = 62) (hpre : -2147483648 ≤ a1 ∧ a1 ≤ 2147483647 ∧ -2147483648 ≤ a2 ∧ a2 ≤ 2147483647) (hX_M : XX M) (q : Int → Int) (hS : zSN M (M c0 5) q) (hU : zSU M (M c0 5) q) (hF : zTF M c0) (hK : zTC M c0 q) : KC false G l yX11_missingAt cX11_missingAt 4 (some .int) (7, 173) [vR G c0, vI a1, vI a2] M (fun A => kQi false G A (fun (r : Int) (N : Mem) => Inv false N ∧ Fr f_e_missingAt3 M N ∧ (r ≥ -2147483646 ∧ r ≤ 2147483646) ∧ XX N ∧ (zTC N c0 q))) := by
  refine kx_met (lo := [some (vR G c0), some (vI a1), some (vI a2), none]) (by decide) (Nat.le_of_ble_eq_true rfl) rfl ?_
  intro X F hQ
  have hF_M : Fr f_e_missingAt3 M M := Fr.rf _ _
  have hk_1 : kd (M c0 5) = 12 := Inv.r hI_M hk_c0 rfl 5 rfl rfl
  have hSn := hS.u
  have hk_2 : kd (M c0 8) = 21 := Inv.r hI_M hk_c0 rfl 8 rfl rfl
  have hk_3 : kd (M c0 9) = 21 := Inv.r hI_M hk_c0 rfl 9 rfl rfl
  refine kx_aload_n 1 F 0 dX11_missingAt_0 rfl rfl rfl ?_
  refine kx_aload_n 2 F 0 dX11_missingAt_1 rfl rfl rfl ?_
  refine kx_getr 5 F fl_X11_26 hk_c0 rfl rfl (j := 5) rfl dX11_missingAt_2 (v := (M c0 5)) rfl rfl ?_
  refine kx_iload_n 6 F 1 dX11_missingAt_5 rfl rfl rfl ?_
  refine kx_Vi 9 (ci := 0) F (As := [vI a1]) (st := [vR G c0]) vd_X11_163 (e_X5_has G l M (M c0 5) a1 hI_M hk_1 (by omega)) hk_1 rfl rfl rfl ⟨by decide, by decide⟩ rfl rfl (Nat.le_of_ble_eq_true rfl) dX11_missingAt_6 rfl ?_
  intro r_4 N_5 q_6
  obtain ⟨rfl, q_6c⟩ := q_6
  have h_7 := Inv.g hI_M hk_1 rfl 3 (a := 0) (b := 2) rfl rfl
  rcases q_6c with q_6c | q_6c | q_6c
  · refine kx_if_eq 12 F 20 dX11_missingAt_9 (by decide) rfl (by omega) (fun h_9 => (by exfalso; omega)) (fun h_9 => ?_)
    refine kx_iload_n 13 F 2 dX11_missingAt_12 rfl rfl rfl ?_
    refine kx_if_lt 16 F 20 dX11_missingAt_13 (by decide) rfl (by omega) (fun h_10 => ?_) (fun h_10 => ?_)
    · refine kx_iconst 21 F dX11_missingAt_20 rfl ?_
      refine kx_iload_n 22 F 1 dX11_missingAt_21 rfl rfl rfl ?_
      refine kx_Vi 25 (ci := 0) F (As := [vI 0, vI a1]) (st := []) vd_X11_327 (e_tableRefusal3 G l M c0 0 a1 hI_M hk_c0 (by omega) hX_M q hS hU hF hK (fun h => ⟨by omega, by omega⟩)) hk_c0 rfl rfl rfl ⟨by decide, by decide⟩ rfl rfl (Nat.le_of_ble_eq_true rfl) dX11_missingAt_22 rfl ?_
      intro r_11 N_12 q_13
      obtain ⟨hI_N_12, hG_N_12, q_13c, hX_N_12, ⟨hsr_N_12, htc_N_12⟩⟩ := q_13
      have hF_N_12 : Fr f_e_missingAt3 M N_12 := Fr.c hF_M hG_N_12 rfl
      rcases q_13c with q_13c | q_13c
      · exfalso; omega
      · refine kx_istore_n 26 F 3 (lo' := [some (vR G c0), some (vI a1), some (vI a2), some (vI r_11)]) dX11_missingAt_25 rfl (by decide) rfl rfl rfl ?_
        refine kx_iload_n 27 F 3 dX11_missingAt_26 rfl rfl rfl ?_
        refine kx_if_eq 30 F 36 dX11_missingAt_27 (by decide) rfl (by omega) (fun h_14 => (by exfalso; omega)) (fun h_14 => ?_)
        refine kx_aload_n 31 F 0 dX11_missingAt_30 rfl rfl rfl ?_
        refine kx_iload_n 32 F 3 dX11_missingAt_31 rfl rfl rfl ?_
        refine kx_Vi 35 (ci := 0) F (As := [vI r_11]) (st := []) vd_X11_110 (c_X11_refuse G l N_12 c0 r_11 hI_N_12 hk_c0 (by omega)) hk_c0 rfl rfl rfl ⟨by decide, by decide⟩ rfl rfl (Nat.le_of_ble_eq_true rfl) dX11_missingAt_32 rfl ?_
        intro r_15 N_16 q_17
        obtain ⟨hI_N_16, hG_N_16, q_17c⟩ := q_17
        have hF_N_16 : Fr f_e_missingAt3 M N_16 := Fr.c hF_N_12 hG_N_16 rfl
        have hX_N_16 : XX N_16 := XX.fr hX_N_12 hI_N_12 hG_N_16 rfl
        subst q_17c
        exact kx_iret F hQ ⟨hI_N_16, hF_N_16, (by omega), hX_N_16, (zTC.fr htc_N_12 hI_N_12 hk_c0 hG_N_16 rfl)⟩ dX11_missingAt_35
    · refine kx_iconst 17 F dX11_missingAt_16 rfl ?_
      refine kx_goto 21 F dX11_missingAt_17 (by decide) ?_
      refine kx_iload_n 22 F 1 dX11_missingAt_21 rfl rfl rfl ?_
      refine kx_Vi 25 (ci := 0) F (As := [vI 1, vI a1]) (st := []) vd_X11_327 (e_tableRefusal3 G l M c0 1 a1 hI_M hk_c0 (by omega) hX_M q hS hU hF hK (fun h => ⟨by omega, by omega⟩)) hk_c0 rfl rfl rfl ⟨by decide, by decide⟩ rfl rfl (Nat.le_of_ble_eq_true rfl) dX11_missingAt_22 rfl ?_
      intro r_18 N_19 q_20
      obtain ⟨hI_N_19, hG_N_19, q_20c, hX_N_19, ⟨hsr_N_19, htc_N_19⟩⟩ := q_20
      have hF_N_19 : Fr f_e_missingAt3 M N_19 := Fr.c hF_M hG_N_19 rfl
      rcases q_20c with q_20c | q_20c
      · refine kx_istore_n 26 F 3 (lo' := [some (vR G c0), some (vI a1), some (vI a2), some (vI r_18)]) dX11_missingAt_25 rfl (by decide) rfl rfl rfl ?_
        refine kx_iload_n 27 F 3 dX11_missingAt_26 rfl rfl rfl ?_
        refine kx_if_eq 30 F 36 dX11_missingAt_27 (by decide) rfl (by omega) (fun h_21 => ?_) (fun h_21 => (by exfalso; omega))
        refine kx_aload_n 37 F 0 dX11_missingAt_36 rfl rfl rfl ?_
        refine kx_aload_n 38 F 0 dX11_missingAt_37 rfl rfl rfl ?_
        refine kx_getr 41 F fl_X11_47 hk_c0 rfl rfl (j := 10) rfl dX11_missingAt_38 (v := (M c0 10)) (by rw [Fr.e hG_N_19 hk_c0 _ rfl]) rfl ?_
        have hk_22 : kd (M c0 10) = 41 := Inv.r hI_M hk_c0 rfl 10 rfl rfl
        refine kx_aload_n 42 F 0 dX11_missingAt_41 rfl rfl rfl ?_
        refine kx_getr 45 F fl_X11_26 hk_c0 rfl rfl (j := 5) rfl dX11_missingAt_42 (v := (M c0 5)) (by rw [Fr.e hG_N_19 hk_c0 _ rfl]) rfl ?_
        refine kx_iconst 46 F dX11_missingAt_45 rfl ?_
        refine kx_iload_n 47 F 1 dX11_missingAt_46 rfl rfl rfl ?_
        refine kx_iload_n 48 F 1 dX11_missingAt_47 rfl rfl rfl ?_
        refine kx_Vi 51 (ci := 0) F (As := [vR G (M c0 5), vI 3, vI a1, vI a1]) (st := [vR G c0]) vd_X11_317 (c_X4_slotOf G l N_19 (M c0 10) (M c0 5) 3 a1 a1 hI_N_19 hk_22 hk_1 (by omega) hX_N_19) hk_22 rfl rfl rfl ⟨by decide, by decide⟩ rfl rfl (Nat.le_of_ble_eq_true rfl) dX11_missingAt_48 rfl ?_
        intro r_23 N_24 q_25
        obtain ⟨hI_N_24, hG_N_24, q_25c, hX_N_24⟩ := q_25
        have hF_N_24 : Fr f_e_missingAt3 M N_24 := Fr.c hF_N_19 hG_N_24 rfl
        refine kx_iload_n 52 F 2 dX11_missingAt_51 rfl rfl rfl ?_
        refine kx_Vi 55 (ci := 0) F (As := [vI r_23, vI a2]) (st := []) vd_X11_324 (c_X11_tellLetter G l N_24 c0 r_23 a2 hI_N_24 hk_c0 (by omega)) hk_c0 rfl rfl rfl ⟨by decide, by decide⟩ rfl rfl (Nat.le_of_ble_eq_true rfl) dX11_missingAt_52 rfl ?_
        intro r_26 N_27 q_28
        obtain ⟨hI_N_27, hG_N_27, q_28c⟩ := q_28
        have hF_N_27 : Fr f_e_missingAt3 M N_27 := Fr.c hF_N_24 hG_N_27 rfl
        have hX_N_27 : XX N_27 := XX.fr hX_N_24 hI_N_24 hG_N_27 rfl
        exact kx_iret F hQ ⟨hI_N_27, hF_N_27, (by omega), hX_N_27, (zTC.fr (zTC.fr htc_N_19 hI_N_19 hk_c0 hG_N_24 rfl) hI_N_24 hk_c0 hG_N_27 rfl)⟩ dX11_missingAt_55
      · refine kx_istore_n 26 F 3 (lo' := [some (vR G c0), some (vI a1), some (vI a2), some (vI r_18)]) dX11_missingAt_25 rfl (by decide) rfl rfl rfl ?_
        refine kx_iload_n 27 F 3 dX11_missingAt_26 rfl rfl rfl ?_
        refine kx_if_eq 30 F 36 dX11_missingAt_27 (by decide) rfl (by omega) (fun h_29 => (by exfalso; omega)) (fun h_29 => ?_)
        refine kx_aload_n 31 F 0 dX11_missingAt_30 rfl rfl rfl ?_
        refine kx_iload_n 32 F 3 dX11_missingAt_31 rfl rfl rfl ?_
        refine kx_Vi 35 (ci := 0) F (As := [vI r_18]) (st := []) vd_X11_110 (c_X11_refuse G l N_19 c0 r_18 hI_N_19 hk_c0 (by omega)) hk_c0 rfl rfl rfl ⟨by decide, by decide⟩ rfl rfl (Nat.le_of_ble_eq_true rfl) dX11_missingAt_32 rfl ?_
        intro r_30 N_31 q_32
        obtain ⟨hI_N_31, hG_N_31, q_32c⟩ := q_32
        have hF_N_31 : Fr f_e_missingAt3 M N_31 := Fr.c hF_N_19 hG_N_31 rfl
        have hX_N_31 : XX N_31 := XX.fr hX_N_19 hI_N_19 hG_N_31 rfl
        subst q_32c
        exact kx_iret F hQ ⟨hI_N_31, hF_N_31, (by omega), hX_N_31, (zTC.fr htc_N_19 hI_N_19 hk_c0 hG_N_31 rfl)⟩ dX11_missingAt_35
  · refine kx_if_eq 12 F 20 dX11_missingAt_9 (by decide) rfl (by omega) (fun h_33 => ?_) (fun h_33 => (by exfalso; omega))
    refine kx_iconst 21 F dX11_missingAt_20 rfl ?_
    refine kx_iload_n 22 F 1 dX11_missingAt_21 rfl rfl rfl ?_
    refine kx_Vi 25 (ci := 0) F (As := [vI 0, vI a1]) (st := []) vd_X11_327 (e_tableRefusal3 G l M c0 0 a1 hI_M hk_c0 (by omega) hX_M q hS hU hF hK (fun h => ⟨by omega, by omega⟩)) hk_c0 rfl rfl rfl ⟨by decide, by decide⟩ rfl rfl (Nat.le_of_ble_eq_true rfl) dX11_missingAt_22 rfl ?_
    intro r_34 N_35 q_36
    obtain ⟨hI_N_35, hG_N_35, q_36c, hX_N_35, ⟨hsr_N_35, htc_N_35⟩⟩ := q_36
    have hF_N_35 : Fr f_e_missingAt3 M N_35 := Fr.c hF_M hG_N_35 rfl
    rcases q_36c with q_36c | q_36c
    · exfalso; omega
    · refine kx_istore_n 26 F 3 (lo' := [some (vR G c0), some (vI a1), some (vI a2), some (vI r_34)]) dX11_missingAt_25 rfl (by decide) rfl rfl rfl ?_
      refine kx_iload_n 27 F 3 dX11_missingAt_26 rfl rfl rfl ?_
      refine kx_if_eq 30 F 36 dX11_missingAt_27 (by decide) rfl (by omega) (fun h_37 => (by exfalso; omega)) (fun h_37 => ?_)
      refine kx_aload_n 31 F 0 dX11_missingAt_30 rfl rfl rfl ?_
      refine kx_iload_n 32 F 3 dX11_missingAt_31 rfl rfl rfl ?_
      refine kx_Vi 35 (ci := 0) F (As := [vI r_34]) (st := []) vd_X11_110 (c_X11_refuse G l N_35 c0 r_34 hI_N_35 hk_c0 (by omega)) hk_c0 rfl rfl rfl ⟨by decide, by decide⟩ rfl rfl (Nat.le_of_ble_eq_true rfl) dX11_missingAt_32 rfl ?_
      intro r_38 N_39 q_40
      obtain ⟨hI_N_39, hG_N_39, q_40c⟩ := q_40
      have hF_N_39 : Fr f_e_missingAt3 M N_39 := Fr.c hF_N_35 hG_N_39 rfl
      have hX_N_39 : XX N_39 := XX.fr hX_N_35 hI_N_35 hG_N_39 rfl
      subst q_40c
      exact kx_iret F hQ ⟨hI_N_39, hF_N_39, (by omega), hX_N_39, (zTC.fr htc_N_35 hI_N_35 hk_c0 hG_N_39 rfl)⟩ dX11_missingAt_35
  · refine kx_if_eq 12 F 20 dX11_missingAt_9 (by decide) rfl (by omega) (fun h_41 => ?_) (fun h_41 => (by exfalso; omega))
    refine kx_iconst 21 F dX11_missingAt_20 rfl ?_
    refine kx_iload_n 22 F 1 dX11_missingAt_21 rfl rfl rfl ?_
    refine kx_Vi 25 (ci := 0) F (As := [vI 0, vI a1]) (st := []) vd_X11_327 (e_tableRefusal3 G l M c0 0 a1 hI_M hk_c0 (by omega) hX_M q hS hU hF hK (fun h => ⟨by omega, by omega⟩)) hk_c0 rfl rfl rfl ⟨by decide, by decide⟩ rfl rfl (Nat.le_of_ble_eq_true rfl) dX11_missingAt_22 rfl ?_
    intro r_42 N_43 q_44
    obtain ⟨hI_N_43, hG_N_43, q_44c, hX_N_43, ⟨hsr_N_43, htc_N_43⟩⟩ := q_44
    have hF_N_43 : Fr f_e_missingAt3 M N_43 := Fr.c hF_M hG_N_43 rfl
    rcases q_44c with q_44c | q_44c
    · exfalso; omega
    · refine kx_istore_n 26 F 3 (lo' := [some (vR G c0), some (vI a1), some (vI a2), some (vI r_42)]) dX11_missingAt_25 rfl (by decide) rfl rfl rfl ?_
      refine kx_iload_n 27 F 3 dX11_missingAt_26 rfl rfl rfl ?_
      refine kx_if_eq 30 F 36 dX11_missingAt_27 (by decide) rfl (by omega) (fun h_45 => (by exfalso; omega)) (fun h_45 => ?_)
      refine kx_aload_n 31 F 0 dX11_missingAt_30 rfl rfl rfl ?_
      refine kx_iload_n 32 F 3 dX11_missingAt_31 rfl rfl rfl ?_
      refine kx_Vi 35 (ci := 0) F (As := [vI r_42]) (st := []) vd_X11_110 (c_X11_refuse G l N_43 c0 r_42 hI_N_43 hk_c0 (by omega)) hk_c0 rfl rfl rfl ⟨by decide, by decide⟩ rfl rfl (Nat.le_of_ble_eq_true rfl) dX11_missingAt_32 rfl ?_
      intro r_46 N_47 q_48
      obtain ⟨hI_N_47, hG_N_47, q_48c⟩ := q_48
      have hF_N_47 : Fr f_e_missingAt3 M N_47 := Fr.c hF_N_43 hG_N_47 rfl
      have hX_N_47 : XX N_47 := XX.fr hX_N_43 hI_N_43 hG_N_47 rfl
      subst q_48c
      exact kx_iret F hQ ⟨hI_N_47, hF_N_47, (by omega), hX_N_47, (zTC.fr htc_N_43 hI_N_43 hk_c0 hG_N_47 rfl)⟩ dX11_missingAt_35
abbrev f_e_includes3 : List (Nat × Int) := [(21, 0), (21, 1), (22, -1), (23, -1), (24, -1), (25, -1), (26, 0), (27, -1), (28, -1), (29, -1), (30, -1), (31, 0), (32, -1), (33, -1), (34, -1), (35, -1), (36, 0), (37, -1), (38, -1), (39, -1), (40, -1), (41, 2), (41, 3), (41, 4), (41, 5), (41, 7), (41, 8), (41, 9), (41, 13), (42, -1), (43, -1), (44, -1), (45, -1), (46, -1), (62, 0)]
set_option maxHeartbeats 4000000 in
set_option maxRecDepth 100000 in
theorem e_includes3 (G : KG) (l : Launch) (M : Mem) (c0 : Int) (a1 : Int) (a2 : Int) (hI_M : Inv false M) (hk_c0 : kd c0 = 62) (hpre : -2147483648 ≤ a1 ∧ a1 ≤ 2147483647 ∧ -2147483648 ≤ a2 ∧ a2 ≤ 2147483647) (hX_M : XX M) (q : Int → Int) (hS : zSN M (M c0 5) q) (hU : zSU M (M c0 5) q) (hF : zTF M c0) (hK : zTC M c0 q) : KC false G l yX11_includes cX11_includes 5 (some .int) (7, 173) [vR G c0, vI a1, vI a2] M (fun A => kQi false G A (fun (r : Int) (N : Mem) => Inv false N ∧ Fr f_e_includes3 M N ∧ (r ≥ -1 ∧ r ≤ 1) ∧ XX N ∧ (zTC N c0 q))) := by
  refine kx_met (lo := [some (vR G c0), some (vI a1), some (vI a2), none, none]) (by decide) (Nat.le_of_ble_eq_true rfl) rfl ?_
  intro X F hQ
  have hF_M : Fr f_e_includes3 M M := Fr.rf _ _
  have hk_1 : kd (M c0 5) = 12 := Inv.r hI_M hk_c0 rfl 5 rfl rfl
  have hSn := hS.u
  have hk_2 : kd (M c0 8) = 21 := Inv.r hI_M hk_c0 rfl 8 rfl rfl
  have hk_3 : kd (M c0 9) = 21 := Inv.r hI_M hk_c0 rfl 9 rfl rfl
  refine kx_aload_n 1 F 0 dX11_includes_0 rfl rfl rfl ?_
  refine kx_aload_n 2 F 0 dX11_includes_1 rfl rfl rfl ?_
  refine kx_iload_n 3 F 1 dX11_includes_2 rfl rfl rfl ?_
  refine kx_iload_n 4 F 2 dX11_includes_3 rfl rfl rfl ?_
  refine kx_Vi 7 (ci := 0) F (As := [vI a1, vI a2]) (st := [vR G c0]) vd_X11_219 (e_X11_areTwo G l M c0 a1 a2 hI_M hk_c0 (by omega)) hk_c0 rfl rfl rfl ⟨by decide, by decide⟩ rfl rfl (Nat.le_of_ble_eq_true rfl) dX11_includes_4 rfl ?_
  intro r_4 N_5 q_6
  obtain ⟨rfl, q_6c⟩ := q_6
  have h_7 := Inv.g hI_M hk_1 rfl 3 (a := 0) (b := 2) rfl rfl
  rcases q_6c with q_6c | q_6c | q_6c | q_6c | q_6c | q_6c
  · refine kx_iload_n 8 F 2 dX11_includes_7 rfl rfl rfl ?_
    refine kx_Vi 11 (ci := 0) F (As := [vI r_4, vI a2]) (st := []) vd_X11_327 (e_tableRefusal3 G l M c0 r_4 a2 hI_M hk_c0 (by omega) hX_M q hS hU hF hK (fun h => ⟨by omega, by omega⟩)) hk_c0 rfl rfl rfl ⟨by decide, by decide⟩ rfl rfl (Nat.le_of_ble_eq_true rfl) dX11_includes_8 rfl ?_
    intro r_10 N_11 q_12
    obtain ⟨hI_N_11, hG_N_11, q_12c, hX_N_11, ⟨hsr_N_11, htc_N_11⟩⟩ := q_12
    have hF_N_11 : Fr f_e_includes3 M N_11 := Fr.c hF_M hG_N_11 rfl
    rcases q_12c with q_12c | q_12c
    · refine kx_istore_n 12 F 3 (lo' := [some (vR G c0), some (vI a1), some (vI a2), some (vI r_10), none]) dX11_includes_11 rfl (by decide) rfl rfl rfl ?_
      refine kx_iload_n 13 F 3 dX11_includes_12 rfl rfl rfl ?_
      refine kx_if_eq 16 F 22 dX11_includes_13 (by decide) rfl (by omega) (fun h_13 => ?_) (fun h_13 => (by exfalso; omega))
      refine kx_aload_n 23 F 0 dX11_includes_22 rfl rfl rfl ?_
      refine kx_getr 26 F fl_X11_47 hk_c0 rfl rfl (j := 10) rfl dX11_includes_23 (v := (M c0 10)) (by rw [Fr.e hG_N_11 hk_c0 _ rfl]) rfl ?_
      have hk_14 : kd (M c0 10) = 41 := Inv.r hI_M hk_c0 rfl 10 rfl rfl
      refine kx_aload_n 27 F 0 dX11_includes_26 rfl rfl rfl ?_
      refine kx_getr 30 F fl_X11_26 hk_c0 rfl rfl (j := 5) rfl dX11_includes_27 (v := (M c0 5)) (by rw [Fr.e hG_N_11 hk_c0 _ rfl]) rfl ?_
      refine kx_iconst 31 F dX11_includes_30 rfl ?_
      refine kx_iload_n 32 F 1 dX11_includes_31 rfl rfl rfl ?_
      refine kx_iload_n 33 F 2 dX11_includes_32 rfl rfl rfl ?_
      refine kx_Vi 36 (ci := 0) F (As := [vR G (M c0 5), vI 2, vI a1, vI a2]) (st := []) vd_X11_317 (c_X4_slotOf G l N_11 (M c0 10) (M c0 5) 2 a1 a2 hI_N_11 hk_14 hk_1 (by omega) hX_N_11) hk_14 rfl rfl rfl ⟨by decide, by decide⟩ rfl rfl (Nat.le_of_ble_eq_true rfl) dX11_includes_33 rfl ?_
      intro r_15 N_16 q_17
      obtain ⟨hI_N_16, hG_N_16, q_17c, hX_N_16⟩ := q_17
      have hF_N_16 : Fr f_e_includes3 M N_16 := Fr.c hF_N_11 hG_N_16 rfl
      refine kx_istore 38 F 4 (lo' := [some (vR G c0), some (vI a1), some (vI a2), some (vI r_10), some (vI r_15)]) dX11_includes_36 (by decide) rfl rfl rfl ?_
      refine kx_aload_n 39 F 0 dX11_includes_38 rfl rfl rfl ?_
      refine kx_aload_n 40 F 0 dX11_includes_39 rfl rfl rfl ?_
      refine kx_getr 43 F fl_X11_47 hk_c0 rfl rfl (j := 10) rfl dX11_includes_40 (v := (M c0 10)) (by rw [Fr.e hG_N_16 hk_c0 _ rfl, Fr.e hG_N_11 hk_c0 _ rfl]) rfl ?_
      refine kx_getr 46 F fl_X11_331 hk_14 rfl rfl (j := 0) rfl dX11_includes_43 (v := (M (M c0 10) 0)) (by rw [Fr.e hG_N_16 hk_14 _ rfl, Fr.e hG_N_11 hk_14 _ rfl]) rfl ?_
      have hk_18 : kd (M (M c0 10) 0) = 42 := Inv.r hI_M hk_14 rfl 0 rfl rfl
      refine kx_iload 48 F 4 dX11_includes_46 rfl rfl ?_
      refine kx_iald 49 F hk_18 rfl rfl (by omega) (by decide) dX11_includes_48 (v := (N_16 (M (M c0 10) 0) r_15)) rfl rfl ?_
      have h_19 := Inv.g hI_N_16 hk_18 rfl r_15 (a := (-1)) (b := 1000000000) rfl rfl
      refine kx_iconst 50 F dX11_includes_49 rfl ?_
      refine kx_icmp_ne 53 F 57 dX11_includes_50 (by decide) rfl (by omega) (by decide) (fun h_20 => ?_) (fun h_20 => ?_)
      · refine kx_iconst 58 F dX11_includes_57 rfl ?_
        refine kx_Vi 61 (ci := 0) F (As := [vI 0]) (st := []) vd_X11_145 (c_X11_answer G l N_16 c0 0 hI_N_16 hk_c0 (by omega)) hk_c0 rfl rfl rfl ⟨by decide, by decide⟩ rfl rfl (Nat.le_of_ble_eq_true rfl) dX11_includes_58 rfl ?_
        intro r_21 N_22 q_23
        obtain ⟨hI_N_22, hG_N_22, q_23c⟩ := q_23
        have hF_N_22 : Fr f_e_includes3 M N_22 := Fr.c hF_N_16 hG_N_22 rfl
        have hX_N_22 : XX N_22 := XX.fr hX_N_16 hI_N_16 hG_N_22 rfl
        exact kx_iret F hQ ⟨hI_N_22, hF_N_22, (by omega), hX_N_22, (zTC.fr (zTC.fr htc_N_11 hI_N_11 hk_c0 hG_N_16 rfl) hI_N_16 hk_c0 hG_N_22 rfl)⟩ dX11_includes_61
      · refine kx_iconst 54 F dX11_includes_53 rfl ?_
        refine kx_goto 58 F dX11_includes_54 (by decide) ?_
        refine kx_Vi 61 (ci := 0) F (As := [vI 1]) (st := []) vd_X11_145 (c_X11_answer G l N_16 c0 1 hI_N_16 hk_c0 (by omega)) hk_c0 rfl rfl rfl ⟨by decide, by decide⟩ rfl rfl (Nat.le_of_ble_eq_true rfl) dX11_includes_58 rfl ?_
        intro r_24 N_25 q_26
        obtain ⟨hI_N_25, hG_N_25, q_26c⟩ := q_26
        have hF_N_25 : Fr f_e_includes3 M N_25 := Fr.c hF_N_16 hG_N_25 rfl
        have hX_N_25 : XX N_25 := XX.fr hX_N_16 hI_N_16 hG_N_25 rfl
        exact kx_iret F hQ ⟨hI_N_25, hF_N_25, (by omega), hX_N_25, (zTC.fr (zTC.fr htc_N_11 hI_N_11 hk_c0 hG_N_16 rfl) hI_N_16 hk_c0 hG_N_25 rfl)⟩ dX11_includes_61
    · refine kx_istore_n 12 F 3 (lo' := [some (vR G c0), some (vI a1), some (vI a2), some (vI r_10), none]) dX11_includes_11 rfl (by decide) rfl rfl rfl ?_
      refine kx_iload_n 13 F 3 dX11_includes_12 rfl rfl rfl ?_
      refine kx_if_eq 16 F 22 dX11_includes_13 (by decide) rfl (by omega) (fun h_27 => (by exfalso; omega)) (fun h_27 => ?_)
      refine kx_aload_n 17 F 0 dX11_includes_16 rfl rfl rfl ?_
      refine kx_iload_n 18 F 3 dX11_includes_17 rfl rfl rfl ?_
      refine kx_Vi 21 (ci := 0) F (As := [vI r_10]) (st := []) vd_X11_110 (c_X11_refuse G l N_11 c0 r_10 hI_N_11 hk_c0 (by omega)) hk_c0 rfl rfl rfl ⟨by decide, by decide⟩ rfl rfl (Nat.le_of_ble_eq_true rfl) dX11_includes_18 rfl ?_
      intro r_28 N_29 q_30
      obtain ⟨hI_N_29, hG_N_29, q_30c⟩ := q_30
      have hF_N_29 : Fr f_e_includes3 M N_29 := Fr.c hF_N_11 hG_N_29 rfl
      have hX_N_29 : XX N_29 := XX.fr hX_N_11 hI_N_11 hG_N_29 rfl
      subst q_30c
      exact kx_iret F hQ ⟨hI_N_29, hF_N_29, (by omega), hX_N_29, (zTC.fr htc_N_11 hI_N_11 hk_c0 hG_N_29 rfl)⟩ dX11_includes_21
  · refine kx_iload_n 8 F 2 dX11_includes_7 rfl rfl rfl ?_
    refine kx_Vi 11 (ci := 0) F (As := [vI r_4, vI a2]) (st := []) vd_X11_327 (e_tableRefusal3 G l M c0 r_4 a2 hI_M hk_c0 (by omega) hX_M q hS hU hF hK (fun h => ⟨by omega, by omega⟩)) hk_c0 rfl rfl rfl ⟨by decide, by decide⟩ rfl rfl (Nat.le_of_ble_eq_true rfl) dX11_includes_8 rfl ?_
    intro r_31 N_32 q_33
    obtain ⟨hI_N_32, hG_N_32, q_33c, hX_N_32, ⟨hsr_N_32, htc_N_32⟩⟩ := q_33
    have hF_N_32 : Fr f_e_includes3 M N_32 := Fr.c hF_M hG_N_32 rfl
    rcases q_33c with q_33c | q_33c
    · exfalso; omega
    · refine kx_istore_n 12 F 3 (lo' := [some (vR G c0), some (vI a1), some (vI a2), some (vI r_31), none]) dX11_includes_11 rfl (by decide) rfl rfl rfl ?_
      refine kx_iload_n 13 F 3 dX11_includes_12 rfl rfl rfl ?_
      refine kx_if_eq 16 F 22 dX11_includes_13 (by decide) rfl (by omega) (fun h_34 => (by exfalso; omega)) (fun h_34 => ?_)
      refine kx_aload_n 17 F 0 dX11_includes_16 rfl rfl rfl ?_
      refine kx_iload_n 18 F 3 dX11_includes_17 rfl rfl rfl ?_
      refine kx_Vi 21 (ci := 0) F (As := [vI r_31]) (st := []) vd_X11_110 (c_X11_refuse G l N_32 c0 r_31 hI_N_32 hk_c0 (by omega)) hk_c0 rfl rfl rfl ⟨by decide, by decide⟩ rfl rfl (Nat.le_of_ble_eq_true rfl) dX11_includes_18 rfl ?_
      intro r_35 N_36 q_37
      obtain ⟨hI_N_36, hG_N_36, q_37c⟩ := q_37
      have hF_N_36 : Fr f_e_includes3 M N_36 := Fr.c hF_N_32 hG_N_36 rfl
      have hX_N_36 : XX N_36 := XX.fr hX_N_32 hI_N_32 hG_N_36 rfl
      subst q_37c
      exact kx_iret F hQ ⟨hI_N_36, hF_N_36, (by omega), hX_N_36, (zTC.fr htc_N_32 hI_N_32 hk_c0 hG_N_36 rfl)⟩ dX11_includes_21
  · refine kx_iload_n 8 F 2 dX11_includes_7 rfl rfl rfl ?_
    refine kx_Vi 11 (ci := 0) F (As := [vI r_4, vI a2]) (st := []) vd_X11_327 (e_tableRefusal3 G l M c0 r_4 a2 hI_M hk_c0 (by omega) hX_M q hS hU hF hK (fun h => ⟨by omega, by omega⟩)) hk_c0 rfl rfl rfl ⟨by decide, by decide⟩ rfl rfl (Nat.le_of_ble_eq_true rfl) dX11_includes_8 rfl ?_
    intro r_38 N_39 q_40
    obtain ⟨hI_N_39, hG_N_39, q_40c, hX_N_39, ⟨hsr_N_39, htc_N_39⟩⟩ := q_40
    have hF_N_39 : Fr f_e_includes3 M N_39 := Fr.c hF_M hG_N_39 rfl
    rcases q_40c with q_40c | q_40c
    · exfalso; omega
    · refine kx_istore_n 12 F 3 (lo' := [some (vR G c0), some (vI a1), some (vI a2), some (vI r_38), none]) dX11_includes_11 rfl (by decide) rfl rfl rfl ?_
      refine kx_iload_n 13 F 3 dX11_includes_12 rfl rfl rfl ?_
      refine kx_if_eq 16 F 22 dX11_includes_13 (by decide) rfl (by omega) (fun h_41 => (by exfalso; omega)) (fun h_41 => ?_)
      refine kx_aload_n 17 F 0 dX11_includes_16 rfl rfl rfl ?_
      refine kx_iload_n 18 F 3 dX11_includes_17 rfl rfl rfl ?_
      refine kx_Vi 21 (ci := 0) F (As := [vI r_38]) (st := []) vd_X11_110 (c_X11_refuse G l N_39 c0 r_38 hI_N_39 hk_c0 (by omega)) hk_c0 rfl rfl rfl ⟨by decide, by decide⟩ rfl rfl (Nat.le_of_ble_eq_true rfl) dX11_includes_18 rfl ?_
      intro r_42 N_43 q_44
      obtain ⟨hI_N_43, hG_N_43, q_44c⟩ := q_44
      have hF_N_43 : Fr f_e_includes3 M N_43 := Fr.c hF_N_39 hG_N_43 rfl
      have hX_N_43 : XX N_43 := XX.fr hX_N_39 hI_N_39 hG_N_43 rfl
      subst q_44c
      exact kx_iret F hQ ⟨hI_N_43, hF_N_43, (by omega), hX_N_43, (zTC.fr htc_N_39 hI_N_39 hk_c0 hG_N_43 rfl)⟩ dX11_includes_21
  · refine kx_iload_n 8 F 2 dX11_includes_7 rfl rfl rfl ?_
    refine kx_Vi 11 (ci := 0) F (As := [vI r_4, vI a2]) (st := []) vd_X11_327 (e_tableRefusal3 G l M c0 r_4 a2 hI_M hk_c0 (by omega) hX_M q hS hU hF hK (fun h => ⟨by omega, by omega⟩)) hk_c0 rfl rfl rfl ⟨by decide, by decide⟩ rfl rfl (Nat.le_of_ble_eq_true rfl) dX11_includes_8 rfl ?_
    intro r_45 N_46 q_47
    obtain ⟨hI_N_46, hG_N_46, q_47c, hX_N_46, ⟨hsr_N_46, htc_N_46⟩⟩ := q_47
    have hF_N_46 : Fr f_e_includes3 M N_46 := Fr.c hF_M hG_N_46 rfl
    rcases q_47c with q_47c | q_47c
    · exfalso; omega
    · refine kx_istore_n 12 F 3 (lo' := [some (vR G c0), some (vI a1), some (vI a2), some (vI r_45), none]) dX11_includes_11 rfl (by decide) rfl rfl rfl ?_
      refine kx_iload_n 13 F 3 dX11_includes_12 rfl rfl rfl ?_
      refine kx_if_eq 16 F 22 dX11_includes_13 (by decide) rfl (by omega) (fun h_48 => (by exfalso; omega)) (fun h_48 => ?_)
      refine kx_aload_n 17 F 0 dX11_includes_16 rfl rfl rfl ?_
      refine kx_iload_n 18 F 3 dX11_includes_17 rfl rfl rfl ?_
      refine kx_Vi 21 (ci := 0) F (As := [vI r_45]) (st := []) vd_X11_110 (c_X11_refuse G l N_46 c0 r_45 hI_N_46 hk_c0 (by omega)) hk_c0 rfl rfl rfl ⟨by decide, by decide⟩ rfl rfl (Nat.le_of_ble_eq_true rfl) dX11_includes_18 rfl ?_
      intro r_49 N_50 q_51
      obtain ⟨hI_N_50, hG_N_50, q_51c⟩ := q_51
      have hF_N_50 : Fr f_e_includes3 M N_50 := Fr.c hF_N_46 hG_N_50 rfl
      have hX_N_50 : XX N_50 := XX.fr hX_N_46 hI_N_46 hG_N_50 rfl
      subst q_51c
      exact kx_iret F hQ ⟨hI_N_50, hF_N_50, (by omega), hX_N_50, (zTC.fr htc_N_46 hI_N_46 hk_c0 hG_N_50 rfl)⟩ dX11_includes_21
  · refine kx_iload_n 8 F 2 dX11_includes_7 rfl rfl rfl ?_
    refine kx_Vi 11 (ci := 0) F (As := [vI r_4, vI a2]) (st := []) vd_X11_327 (e_tableRefusal3 G l M c0 r_4 a2 hI_M hk_c0 (by omega) hX_M q hS hU hF hK (fun h => ⟨by omega, by omega⟩)) hk_c0 rfl rfl rfl ⟨by decide, by decide⟩ rfl rfl (Nat.le_of_ble_eq_true rfl) dX11_includes_8 rfl ?_
    intro r_52 N_53 q_54
    obtain ⟨hI_N_53, hG_N_53, q_54c, hX_N_53, ⟨hsr_N_53, htc_N_53⟩⟩ := q_54
    have hF_N_53 : Fr f_e_includes3 M N_53 := Fr.c hF_M hG_N_53 rfl
    rcases q_54c with q_54c | q_54c
    · exfalso; omega
    · refine kx_istore_n 12 F 3 (lo' := [some (vR G c0), some (vI a1), some (vI a2), some (vI r_52), none]) dX11_includes_11 rfl (by decide) rfl rfl rfl ?_
      refine kx_iload_n 13 F 3 dX11_includes_12 rfl rfl rfl ?_
      refine kx_if_eq 16 F 22 dX11_includes_13 (by decide) rfl (by omega) (fun h_55 => (by exfalso; omega)) (fun h_55 => ?_)
      refine kx_aload_n 17 F 0 dX11_includes_16 rfl rfl rfl ?_
      refine kx_iload_n 18 F 3 dX11_includes_17 rfl rfl rfl ?_
      refine kx_Vi 21 (ci := 0) F (As := [vI r_52]) (st := []) vd_X11_110 (c_X11_refuse G l N_53 c0 r_52 hI_N_53 hk_c0 (by omega)) hk_c0 rfl rfl rfl ⟨by decide, by decide⟩ rfl rfl (Nat.le_of_ble_eq_true rfl) dX11_includes_18 rfl ?_
      intro r_56 N_57 q_58
      obtain ⟨hI_N_57, hG_N_57, q_58c⟩ := q_58
      have hF_N_57 : Fr f_e_includes3 M N_57 := Fr.c hF_N_53 hG_N_57 rfl
      have hX_N_57 : XX N_57 := XX.fr hX_N_53 hI_N_53 hG_N_57 rfl
      subst q_58c
      exact kx_iret F hQ ⟨hI_N_57, hF_N_57, (by omega), hX_N_57, (zTC.fr htc_N_53 hI_N_53 hk_c0 hG_N_57 rfl)⟩ dX11_includes_21
  · refine kx_iload_n 8 F 2 dX11_includes_7 rfl rfl rfl ?_
    refine kx_Vi 11 (ci := 0) F (As := [vI r_4, vI a2]) (st := []) vd_X11_327 (e_tableRefusal3 G l M c0 r_4 a2 hI_M hk_c0 (by omega) hX_M q hS hU hF hK (fun h => ⟨by omega, by omega⟩)) hk_c0 rfl rfl rfl ⟨by decide, by decide⟩ rfl rfl (Nat.le_of_ble_eq_true rfl) dX11_includes_8 rfl ?_
    intro r_59 N_60 q_61
    obtain ⟨hI_N_60, hG_N_60, q_61c, hX_N_60, ⟨hsr_N_60, htc_N_60⟩⟩ := q_61
    have hF_N_60 : Fr f_e_includes3 M N_60 := Fr.c hF_M hG_N_60 rfl
    rcases q_61c with q_61c | q_61c
    · exfalso; omega
    · refine kx_istore_n 12 F 3 (lo' := [some (vR G c0), some (vI a1), some (vI a2), some (vI r_59), none]) dX11_includes_11 rfl (by decide) rfl rfl rfl ?_
      refine kx_iload_n 13 F 3 dX11_includes_12 rfl rfl rfl ?_
      refine kx_if_eq 16 F 22 dX11_includes_13 (by decide) rfl (by omega) (fun h_62 => (by exfalso; omega)) (fun h_62 => ?_)
      refine kx_aload_n 17 F 0 dX11_includes_16 rfl rfl rfl ?_
      refine kx_iload_n 18 F 3 dX11_includes_17 rfl rfl rfl ?_
      refine kx_Vi 21 (ci := 0) F (As := [vI r_59]) (st := []) vd_X11_110 (c_X11_refuse G l N_60 c0 r_59 hI_N_60 hk_c0 (by omega)) hk_c0 rfl rfl rfl ⟨by decide, by decide⟩ rfl rfl (Nat.le_of_ble_eq_true rfl) dX11_includes_18 rfl ?_
      intro r_63 N_64 q_65
      obtain ⟨hI_N_64, hG_N_64, q_65c⟩ := q_65
      have hF_N_64 : Fr f_e_includes3 M N_64 := Fr.c hF_N_60 hG_N_64 rfl
      have hX_N_64 : XX N_64 := XX.fr hX_N_60 hI_N_60 hG_N_64 rfl
      subst q_65c
      exact kx_iret F hQ ⟨hI_N_64, hF_N_64, (by omega), hX_N_64, (zTC.fr htc_N_60 hI_N_60 hk_c0 hG_N_64 rfl)⟩ dX11_includes_21
abbrev f_e_equal3 : List (Nat × Int) := [(21, 0), (21, 1), (22, -1), (23, -1), (24, -1), (25, -1), (26, 0), (27, -1), (28, -1), (29, -1), (30, -1), (31, 0), (32, -1), (33, -1), (34, -1), (35, -1), (36, 0), (37, -1), (38, -1), (39, -1), (40, -1), (41, 2), (41, 3), (41, 4), (41, 5), (41, 7), (41, 8), (41, 9), (41, 13), (42, -1), (43, -1), (44, -1), (45, -1), (46, -1), (62, 0)]
set_option maxHeartbeats 4000000 in
set_option maxRecDepth 100000 in
theorem e_equal3 (G : KG) (l : Launch) (M : Mem) (c0 : Int) (a1 : Int) (a2 : Int) (hI_M : Inv false M) (hk_c0 : kd c0 = 62) (hpre : -2147483648 ≤ a1 ∧ a1 ≤ 2147483647 ∧ -2147483648 ≤ a2 ∧ a2 ≤ 2147483647) (hX_M : XX M) (q : Int → Int) (hS : zSN M (M c0 5) q) (hU : zSU M (M c0 5) q) (hF : zTF M c0) (hK : zTC M c0 q) : KC false G l yX11_equal cX11_equal 6 (some .int) (7, 173) [vR G c0, vI a1, vI a2] M (fun A => kQi false G A (fun (r : Int) (N : Mem) => Inv false N ∧ Fr f_e_equal3 M N ∧ (r ≥ -1 ∧ r ≤ 1) ∧ XX N ∧ (zTC N c0 q))) := by
  refine kx_met (lo := [some (vR G c0), some (vI a1), some (vI a2), none, none, none]) (by decide) (Nat.le_of_ble_eq_true rfl) rfl ?_
  intro X F hQ
  have hF_M : Fr f_e_equal3 M M := Fr.rf _ _
  have hk_1 : kd (M c0 5) = 12 := Inv.r hI_M hk_c0 rfl 5 rfl rfl
  have hSn := hS.u
  have hk_2 : kd (M c0 8) = 21 := Inv.r hI_M hk_c0 rfl 8 rfl rfl
  have hk_3 : kd (M c0 9) = 21 := Inv.r hI_M hk_c0 rfl 9 rfl rfl
  refine kx_aload_n 1 F 0 dX11_equal_0 rfl rfl rfl ?_
  refine kx_aload_n 2 F 0 dX11_equal_1 rfl rfl rfl ?_
  refine kx_iload_n 3 F 1 dX11_equal_2 rfl rfl rfl ?_
  refine kx_iload_n 4 F 2 dX11_equal_3 rfl rfl rfl ?_
  refine kx_Vi 7 (ci := 0) F (As := [vI a1, vI a2]) (st := [vR G c0]) vd_X11_219 (e_X11_areTwo G l M c0 a1 a2 hI_M hk_c0 (by omega)) hk_c0 rfl rfl rfl ⟨by decide, by decide⟩ rfl rfl (Nat.le_of_ble_eq_true rfl) dX11_equal_4 rfl ?_
  intro r_4 N_5 q_6
  obtain ⟨rfl, q_6c⟩ := q_6
  have h_7 := Inv.g hI_M hk_1 rfl 3 (a := 0) (b := 2) rfl rfl
  rcases q_6c with q_6c | q_6c | q_6c | q_6c | q_6c | q_6c
  · refine kx_iload_n 8 F 2 dX11_equal_7 rfl rfl rfl ?_
    refine kx_Vi 11 (ci := 0) F (As := [vI r_4, vI a2]) (st := []) vd_X11_327 (e_tableRefusal3 G l M c0 r_4 a2 hI_M hk_c0 (by omega) hX_M q hS hU hF hK (fun h => ⟨by omega, by omega⟩)) hk_c0 rfl rfl rfl ⟨by decide, by decide⟩ rfl rfl (Nat.le_of_ble_eq_true rfl) dX11_equal_8 rfl ?_
    intro r_10 N_11 q_12
    obtain ⟨hI_N_11, hG_N_11, q_12c, hX_N_11, ⟨hsr_N_11, htc_N_11⟩⟩ := q_12
    have hF_N_11 : Fr f_e_equal3 M N_11 := Fr.c hF_M hG_N_11 rfl
    rcases q_12c with q_12c | q_12c
    · refine kx_istore_n 12 F 3 (lo' := [some (vR G c0), some (vI a1), some (vI a2), some (vI r_10), none, none]) dX11_equal_11 rfl (by decide) rfl rfl rfl ?_
      refine kx_iload_n 13 F 3 dX11_equal_12 rfl rfl rfl ?_
      refine kx_if_ne 16 F 23 dX11_equal_13 (by decide) rfl (by omega) (fun h_13 => (by exfalso; omega)) (fun h_13 => ?_)
      refine kx_aload_n 17 F 0 dX11_equal_16 rfl rfl rfl ?_
      refine kx_iconst 18 F dX11_equal_17 rfl ?_
      refine kx_iload_n 19 F 1 dX11_equal_18 rfl rfl rfl ?_
      refine kx_Vi 22 (ci := 0) F (As := [vI 1, vI a1]) (st := []) vd_X11_327 (e_tableRefusal3 G l N_11 c0 1 a1 hI_N_11 hk_c0 (by omega) hX_N_11 q (by rw [show N_11 c0 5 = M c0 5 from (Fr.e hF_N_11 hk_c0 5 rfl)]; exact zSN.fr hS hk_1 hF_N_11 rfl) (by rw [show N_11 c0 5 = M c0 5 from (Fr.e hF_N_11 hk_c0 5 rfl)]; exact zSU.fr2 hU hI_M hk_1 hF_N_11 rfl rfl) (zTF.fr hF hk_c0 hF_N_11 rfl) htc_N_11 (fun h => ⟨by omega, by omega⟩)) hk_c0 rfl rfl rfl ⟨by decide, by decide⟩ rfl rfl (Nat.le_of_ble_eq_true rfl) dX11_equal_19 rfl ?_
      intro r_14 N_15 q_16
      obtain ⟨hI_N_15, hG_N_15, q_16c, hX_N_15, ⟨hsr_N_15, htc_N_15⟩⟩ := q_16
      have hF_N_15 : Fr f_e_equal3 M N_15 := Fr.c hF_N_11 hG_N_15 rfl
      rcases q_16c with q_16c | q_16c
      · refine kx_istore_n 23 F 3 (lo' := [some (vR G c0), some (vI a1), some (vI a2), some (vI r_14), none, none]) dX11_equal_22 rfl (by decide) rfl rfl rfl ?_
        refine kx_iload_n 24 F 3 dX11_equal_23 rfl rfl rfl ?_
        refine kx_if_eq 27 F 33 dX11_equal_24 (by decide) rfl (by omega) (fun h_17 => ?_) (fun h_17 => (by exfalso; omega))
        refine kx_aload_n 34 F 0 dX11_equal_33 rfl rfl rfl ?_
        refine kx_getr 37 F fl_X11_47 hk_c0 rfl rfl (j := 10) rfl dX11_equal_34 (v := (M c0 10)) (by rw [Fr.e hG_N_15 hk_c0 _ rfl, Fr.e hG_N_11 hk_c0 _ rfl]) rfl ?_
        have hk_18 : kd (M c0 10) = 41 := Inv.r hI_M hk_c0 rfl 10 rfl rfl
        refine kx_aload_n 38 F 0 dX11_equal_37 rfl rfl rfl ?_
        refine kx_getr 41 F fl_X11_26 hk_c0 rfl rfl (j := 5) rfl dX11_equal_38 (v := (M c0 5)) (by rw [Fr.e hG_N_15 hk_c0 _ rfl, Fr.e hG_N_11 hk_c0 _ rfl]) rfl ?_
        refine kx_iconst 42 F dX11_equal_41 rfl ?_
        refine kx_iload_n 43 F 1 dX11_equal_42 rfl rfl rfl ?_
        refine kx_iload_n 44 F 2 dX11_equal_43 rfl rfl rfl ?_
        refine kx_Vi 47 (ci := 0) F (As := [vR G (M c0 5), vI 2, vI a1, vI a2]) (st := []) vd_X11_317 (c_X4_slotOf G l N_15 (M c0 10) (M c0 5) 2 a1 a2 hI_N_15 hk_18 hk_1 (by omega) hX_N_15) hk_18 rfl rfl rfl ⟨by decide, by decide⟩ rfl rfl (Nat.le_of_ble_eq_true rfl) dX11_equal_44 rfl ?_
        intro r_19 N_20 q_21
        obtain ⟨hI_N_20, hG_N_20, q_21c, hX_N_20⟩ := q_21
        have hF_N_20 : Fr f_e_equal3 M N_20 := Fr.c hF_N_15 hG_N_20 rfl
        refine kx_istore 49 F 4 (lo' := [some (vR G c0), some (vI a1), some (vI a2), some (vI r_14), some (vI r_19), none]) dX11_equal_47 (by decide) rfl rfl rfl ?_
        refine kx_aload_n 50 F 0 dX11_equal_49 rfl rfl rfl ?_
        refine kx_getr 53 F fl_X11_47 hk_c0 rfl rfl (j := 10) rfl dX11_equal_50 (v := (M c0 10)) (by rw [Fr.e hG_N_20 hk_c0 _ rfl, Fr.e hG_N_15 hk_c0 _ rfl, Fr.e hG_N_11 hk_c0 _ rfl]) rfl ?_
        refine kx_aload_n 54 F 0 dX11_equal_53 rfl rfl rfl ?_
        refine kx_getr 57 F fl_X11_26 hk_c0 rfl rfl (j := 5) rfl dX11_equal_54 (v := (M c0 5)) (by rw [Fr.e hG_N_20 hk_c0 _ rfl, Fr.e hG_N_15 hk_c0 _ rfl, Fr.e hG_N_11 hk_c0 _ rfl]) rfl ?_
        refine kx_iconst 58 F dX11_equal_57 rfl ?_
        refine kx_iload_n 59 F 2 dX11_equal_58 rfl rfl rfl ?_
        refine kx_iload_n 60 F 1 dX11_equal_59 rfl rfl rfl ?_
        refine kx_Vi 63 (ci := 0) F (As := [vR G (M c0 5), vI 2, vI a2, vI a1]) (st := []) vd_X11_317 (c_X4_slotOf G l N_20 (M c0 10) (M c0 5) 2 a2 a1 hI_N_20 hk_18 hk_1 (by omega) hX_N_20) hk_18 rfl rfl rfl ⟨by decide, by decide⟩ rfl rfl (Nat.le_of_ble_eq_true rfl) dX11_equal_60 rfl ?_
        intro r_22 N_23 q_24
        obtain ⟨hI_N_23, hG_N_23, q_24c, hX_N_23⟩ := q_24
        have hF_N_23 : Fr f_e_equal3 M N_23 := Fr.c hF_N_20 hG_N_23 rfl
        refine kx_istore 65 F 5 (lo' := [some (vR G c0), some (vI a1), some (vI a2), some (vI r_14), some (vI r_19), some (vI r_22)]) dX11_equal_63 (by decide) rfl rfl rfl ?_
        refine kx_aload_n 66 F 0 dX11_equal_65 rfl rfl rfl ?_
        refine kx_aload_n 67 F 0 dX11_equal_66 rfl rfl rfl ?_
        refine kx_getr 70 F fl_X11_47 hk_c0 rfl rfl (j := 10) rfl dX11_equal_67 (v := (M c0 10)) (by rw [Fr.e hG_N_23 hk_c0 _ rfl, Fr.e hG_N_20 hk_c0 _ rfl, Fr.e hG_N_15 hk_c0 _ rfl, Fr.e hG_N_11 hk_c0 _ rfl]) rfl ?_
        refine kx_getr 73 F fl_X11_331 hk_18 rfl rfl (j := 0) rfl dX11_equal_70 (v := (M (M c0 10) 0)) (by rw [Fr.e hG_N_23 hk_18 _ rfl, Fr.e hG_N_20 hk_18 _ rfl, Fr.e hG_N_15 hk_18 _ rfl, Fr.e hG_N_11 hk_18 _ rfl]) rfl ?_
        have hk_25 : kd (M (M c0 10) 0) = 42 := Inv.r hI_M hk_18 rfl 0 rfl rfl
        refine kx_iload 75 F 4 dX11_equal_73 rfl rfl ?_
        refine kx_iald 76 F hk_25 rfl rfl (by omega) (by decide) dX11_equal_75 (v := (N_23 (M (M c0 10) 0) r_19)) rfl rfl ?_
        have h_26 := Inv.g hI_N_23 hk_25 rfl r_19 (a := (-1)) (b := 1000000000) rfl rfl
        refine kx_iconst 77 F dX11_equal_76 rfl ?_
        refine kx_icmp_ne 80 F 98 dX11_equal_77 (by decide) rfl (by omega) (by decide) (fun h_27 => ?_) (fun h_27 => ?_)
        · refine kx_iconst 99 F dX11_equal_98 rfl ?_
          refine kx_Vi 102 (ci := 0) F (As := [vI 0]) (st := []) vd_X11_145 (c_X11_answer G l N_23 c0 0 hI_N_23 hk_c0 (by omega)) hk_c0 rfl rfl rfl ⟨by decide, by decide⟩ rfl rfl (Nat.le_of_ble_eq_true rfl) dX11_equal_99 rfl ?_
          intro r_28 N_29 q_30
          obtain ⟨hI_N_29, hG_N_29, q_30c⟩ := q_30
          have hF_N_29 : Fr f_e_equal3 M N_29 := Fr.c hF_N_23 hG_N_29 rfl
          have hX_N_29 : XX N_29 := XX.fr hX_N_23 hI_N_23 hG_N_29 rfl
          exact kx_iret F hQ ⟨hI_N_29, hF_N_29, (by omega), hX_N_29, (zTC.fr (zTC.fr (zTC.fr htc_N_15 hI_N_15 hk_c0 hG_N_20 rfl) hI_N_20 hk_c0 hG_N_23 rfl) hI_N_23 hk_c0 hG_N_29 rfl)⟩ dX11_equal_102
        · refine kx_aload_n 81 F 0 dX11_equal_80 rfl rfl rfl ?_
          refine kx_getr 84 F fl_X11_47 hk_c0 rfl rfl (j := 10) rfl dX11_equal_81 (v := (M c0 10)) (by rw [Fr.e hG_N_23 hk_c0 _ rfl, Fr.e hG_N_20 hk_c0 _ rfl, Fr.e hG_N_15 hk_c0 _ rfl, Fr.e hG_N_11 hk_c0 _ rfl]) rfl ?_
          refine kx_getr 87 F fl_X11_331 hk_18 rfl rfl (j := 0) rfl dX11_equal_84 (v := (M (M c0 10) 0)) (by rw [Fr.e hG_N_23 hk_18 _ rfl, Fr.e hG_N_20 hk_18 _ rfl, Fr.e hG_N_15 hk_18 _ rfl, Fr.e hG_N_11 hk_18 _ rfl]) rfl ?_
          refine kx_iload 89 F 5 dX11_equal_87 rfl rfl ?_
          refine kx_iald 90 F hk_25 rfl rfl (by omega) (by decide) dX11_equal_89 (v := (N_23 (M (M c0 10) 0) r_22)) rfl rfl ?_
          have h_31 := Inv.g hI_N_23 hk_25 rfl r_22 (a := (-1)) (b := 1000000000) rfl rfl
          refine kx_iconst 91 F dX11_equal_90 rfl ?_
          refine kx_icmp_ne 94 F 98 dX11_equal_91 (by decide) rfl (by omega) (by decide) (fun h_32 => ?_) (fun h_32 => ?_)
          · refine kx_iconst 99 F dX11_equal_98 rfl ?_
            refine kx_Vi 102 (ci := 0) F (As := [vI 0]) (st := []) vd_X11_145 (c_X11_answer G l N_23 c0 0 hI_N_23 hk_c0 (by omega)) hk_c0 rfl rfl rfl ⟨by decide, by decide⟩ rfl rfl (Nat.le_of_ble_eq_true rfl) dX11_equal_99 rfl ?_
            intro r_33 N_34 q_35
            obtain ⟨hI_N_34, hG_N_34, q_35c⟩ := q_35
            have hF_N_34 : Fr f_e_equal3 M N_34 := Fr.c hF_N_23 hG_N_34 rfl
            have hX_N_34 : XX N_34 := XX.fr hX_N_23 hI_N_23 hG_N_34 rfl
            exact kx_iret F hQ ⟨hI_N_34, hF_N_34, (by omega), hX_N_34, (zTC.fr (zTC.fr (zTC.fr htc_N_15 hI_N_15 hk_c0 hG_N_20 rfl) hI_N_20 hk_c0 hG_N_23 rfl) hI_N_23 hk_c0 hG_N_34 rfl)⟩ dX11_equal_102
          · refine kx_iconst 95 F dX11_equal_94 rfl ?_
            refine kx_goto 99 F dX11_equal_95 (by decide) ?_
            refine kx_Vi 102 (ci := 0) F (As := [vI 1]) (st := []) vd_X11_145 (c_X11_answer G l N_23 c0 1 hI_N_23 hk_c0 (by omega)) hk_c0 rfl rfl rfl ⟨by decide, by decide⟩ rfl rfl (Nat.le_of_ble_eq_true rfl) dX11_equal_99 rfl ?_
            intro r_36 N_37 q_38
            obtain ⟨hI_N_37, hG_N_37, q_38c⟩ := q_38
            have hF_N_37 : Fr f_e_equal3 M N_37 := Fr.c hF_N_23 hG_N_37 rfl
            have hX_N_37 : XX N_37 := XX.fr hX_N_23 hI_N_23 hG_N_37 rfl
            exact kx_iret F hQ ⟨hI_N_37, hF_N_37, (by omega), hX_N_37, (zTC.fr (zTC.fr (zTC.fr htc_N_15 hI_N_15 hk_c0 hG_N_20 rfl) hI_N_20 hk_c0 hG_N_23 rfl) hI_N_23 hk_c0 hG_N_37 rfl)⟩ dX11_equal_102
      · refine kx_istore_n 23 F 3 (lo' := [some (vR G c0), some (vI a1), some (vI a2), some (vI r_14), none, none]) dX11_equal_22 rfl (by decide) rfl rfl rfl ?_
        refine kx_iload_n 24 F 3 dX11_equal_23 rfl rfl rfl ?_
        refine kx_if_eq 27 F 33 dX11_equal_24 (by decide) rfl (by omega) (fun h_39 => (by exfalso; omega)) (fun h_39 => ?_)
        refine kx_aload_n 28 F 0 dX11_equal_27 rfl rfl rfl ?_
        refine kx_iload_n 29 F 3 dX11_equal_28 rfl rfl rfl ?_
        refine kx_Vi 32 (ci := 0) F (As := [vI r_14]) (st := []) vd_X11_110 (c_X11_refuse G l N_15 c0 r_14 hI_N_15 hk_c0 (by omega)) hk_c0 rfl rfl rfl ⟨by decide, by decide⟩ rfl rfl (Nat.le_of_ble_eq_true rfl) dX11_equal_29 rfl ?_
        intro r_40 N_41 q_42
        obtain ⟨hI_N_41, hG_N_41, q_42c⟩ := q_42
        have hF_N_41 : Fr f_e_equal3 M N_41 := Fr.c hF_N_15 hG_N_41 rfl
        have hX_N_41 : XX N_41 := XX.fr hX_N_15 hI_N_15 hG_N_41 rfl
        subst q_42c
        exact kx_iret F hQ ⟨hI_N_41, hF_N_41, (by omega), hX_N_41, (zTC.fr htc_N_15 hI_N_15 hk_c0 hG_N_41 rfl)⟩ dX11_equal_32
    · refine kx_istore_n 12 F 3 (lo' := [some (vR G c0), some (vI a1), some (vI a2), some (vI r_10), none, none]) dX11_equal_11 rfl (by decide) rfl rfl rfl ?_
      refine kx_iload_n 13 F 3 dX11_equal_12 rfl rfl rfl ?_
      refine kx_if_ne 16 F 23 dX11_equal_13 (by decide) rfl (by omega) (fun h_43 => ?_) (fun h_43 => (by exfalso; omega))
      refine kx_iload_n 24 F 3 dX11_equal_23 rfl rfl rfl ?_
      refine kx_if_eq 27 F 33 dX11_equal_24 (by decide) rfl (by omega) (fun h_44 => (by exfalso; omega)) (fun h_44 => ?_)
      refine kx_aload_n 28 F 0 dX11_equal_27 rfl rfl rfl ?_
      refine kx_iload_n 29 F 3 dX11_equal_28 rfl rfl rfl ?_
      refine kx_Vi 32 (ci := 0) F (As := [vI r_10]) (st := []) vd_X11_110 (c_X11_refuse G l N_11 c0 r_10 hI_N_11 hk_c0 (by omega)) hk_c0 rfl rfl rfl ⟨by decide, by decide⟩ rfl rfl (Nat.le_of_ble_eq_true rfl) dX11_equal_29 rfl ?_
      intro r_45 N_46 q_47
      obtain ⟨hI_N_46, hG_N_46, q_47c⟩ := q_47
      have hF_N_46 : Fr f_e_equal3 M N_46 := Fr.c hF_N_11 hG_N_46 rfl
      have hX_N_46 : XX N_46 := XX.fr hX_N_11 hI_N_11 hG_N_46 rfl
      subst q_47c
      exact kx_iret F hQ ⟨hI_N_46, hF_N_46, (by omega), hX_N_46, (zTC.fr htc_N_11 hI_N_11 hk_c0 hG_N_46 rfl)⟩ dX11_equal_32
  · refine kx_iload_n 8 F 2 dX11_equal_7 rfl rfl rfl ?_
    refine kx_Vi 11 (ci := 0) F (As := [vI r_4, vI a2]) (st := []) vd_X11_327 (e_tableRefusal3 G l M c0 r_4 a2 hI_M hk_c0 (by omega) hX_M q hS hU hF hK (fun h => ⟨by omega, by omega⟩)) hk_c0 rfl rfl rfl ⟨by decide, by decide⟩ rfl rfl (Nat.le_of_ble_eq_true rfl) dX11_equal_8 rfl ?_
    intro r_48 N_49 q_50
    obtain ⟨hI_N_49, hG_N_49, q_50c, hX_N_49, ⟨hsr_N_49, htc_N_49⟩⟩ := q_50
    have hF_N_49 : Fr f_e_equal3 M N_49 := Fr.c hF_M hG_N_49 rfl
    rcases q_50c with q_50c | q_50c
    · exfalso; omega
    · refine kx_istore_n 12 F 3 (lo' := [some (vR G c0), some (vI a1), some (vI a2), some (vI r_48), none, none]) dX11_equal_11 rfl (by decide) rfl rfl rfl ?_
      refine kx_iload_n 13 F 3 dX11_equal_12 rfl rfl rfl ?_
      refine kx_if_ne 16 F 23 dX11_equal_13 (by decide) rfl (by omega) (fun h_51 => ?_) (fun h_51 => (by exfalso; omega))
      refine kx_iload_n 24 F 3 dX11_equal_23 rfl rfl rfl ?_
      refine kx_if_eq 27 F 33 dX11_equal_24 (by decide) rfl (by omega) (fun h_52 => (by exfalso; omega)) (fun h_52 => ?_)
      refine kx_aload_n 28 F 0 dX11_equal_27 rfl rfl rfl ?_
      refine kx_iload_n 29 F 3 dX11_equal_28 rfl rfl rfl ?_
      refine kx_Vi 32 (ci := 0) F (As := [vI r_48]) (st := []) vd_X11_110 (c_X11_refuse G l N_49 c0 r_48 hI_N_49 hk_c0 (by omega)) hk_c0 rfl rfl rfl ⟨by decide, by decide⟩ rfl rfl (Nat.le_of_ble_eq_true rfl) dX11_equal_29 rfl ?_
      intro r_53 N_54 q_55
      obtain ⟨hI_N_54, hG_N_54, q_55c⟩ := q_55
      have hF_N_54 : Fr f_e_equal3 M N_54 := Fr.c hF_N_49 hG_N_54 rfl
      have hX_N_54 : XX N_54 := XX.fr hX_N_49 hI_N_49 hG_N_54 rfl
      subst q_55c
      exact kx_iret F hQ ⟨hI_N_54, hF_N_54, (by omega), hX_N_54, (zTC.fr htc_N_49 hI_N_49 hk_c0 hG_N_54 rfl)⟩ dX11_equal_32
  · refine kx_iload_n 8 F 2 dX11_equal_7 rfl rfl rfl ?_
    refine kx_Vi 11 (ci := 0) F (As := [vI r_4, vI a2]) (st := []) vd_X11_327 (e_tableRefusal3 G l M c0 r_4 a2 hI_M hk_c0 (by omega) hX_M q hS hU hF hK (fun h => ⟨by omega, by omega⟩)) hk_c0 rfl rfl rfl ⟨by decide, by decide⟩ rfl rfl (Nat.le_of_ble_eq_true rfl) dX11_equal_8 rfl ?_
    intro r_56 N_57 q_58
    obtain ⟨hI_N_57, hG_N_57, q_58c, hX_N_57, ⟨hsr_N_57, htc_N_57⟩⟩ := q_58
    have hF_N_57 : Fr f_e_equal3 M N_57 := Fr.c hF_M hG_N_57 rfl
    rcases q_58c with q_58c | q_58c
    · exfalso; omega
    · refine kx_istore_n 12 F 3 (lo' := [some (vR G c0), some (vI a1), some (vI a2), some (vI r_56), none, none]) dX11_equal_11 rfl (by decide) rfl rfl rfl ?_
      refine kx_iload_n 13 F 3 dX11_equal_12 rfl rfl rfl ?_
      refine kx_if_ne 16 F 23 dX11_equal_13 (by decide) rfl (by omega) (fun h_59 => ?_) (fun h_59 => (by exfalso; omega))
      refine kx_iload_n 24 F 3 dX11_equal_23 rfl rfl rfl ?_
      refine kx_if_eq 27 F 33 dX11_equal_24 (by decide) rfl (by omega) (fun h_60 => (by exfalso; omega)) (fun h_60 => ?_)
      refine kx_aload_n 28 F 0 dX11_equal_27 rfl rfl rfl ?_
      refine kx_iload_n 29 F 3 dX11_equal_28 rfl rfl rfl ?_
      refine kx_Vi 32 (ci := 0) F (As := [vI r_56]) (st := []) vd_X11_110 (c_X11_refuse G l N_57 c0 r_56 hI_N_57 hk_c0 (by omega)) hk_c0 rfl rfl rfl ⟨by decide, by decide⟩ rfl rfl (Nat.le_of_ble_eq_true rfl) dX11_equal_29 rfl ?_
      intro r_61 N_62 q_63
      obtain ⟨hI_N_62, hG_N_62, q_63c⟩ := q_63
      have hF_N_62 : Fr f_e_equal3 M N_62 := Fr.c hF_N_57 hG_N_62 rfl
      have hX_N_62 : XX N_62 := XX.fr hX_N_57 hI_N_57 hG_N_62 rfl
      subst q_63c
      exact kx_iret F hQ ⟨hI_N_62, hF_N_62, (by omega), hX_N_62, (zTC.fr htc_N_57 hI_N_57 hk_c0 hG_N_62 rfl)⟩ dX11_equal_32
  · refine kx_iload_n 8 F 2 dX11_equal_7 rfl rfl rfl ?_
    refine kx_Vi 11 (ci := 0) F (As := [vI r_4, vI a2]) (st := []) vd_X11_327 (e_tableRefusal3 G l M c0 r_4 a2 hI_M hk_c0 (by omega) hX_M q hS hU hF hK (fun h => ⟨by omega, by omega⟩)) hk_c0 rfl rfl rfl ⟨by decide, by decide⟩ rfl rfl (Nat.le_of_ble_eq_true rfl) dX11_equal_8 rfl ?_
    intro r_64 N_65 q_66
    obtain ⟨hI_N_65, hG_N_65, q_66c, hX_N_65, ⟨hsr_N_65, htc_N_65⟩⟩ := q_66
    have hF_N_65 : Fr f_e_equal3 M N_65 := Fr.c hF_M hG_N_65 rfl
    rcases q_66c with q_66c | q_66c
    · exfalso; omega
    · refine kx_istore_n 12 F 3 (lo' := [some (vR G c0), some (vI a1), some (vI a2), some (vI r_64), none, none]) dX11_equal_11 rfl (by decide) rfl rfl rfl ?_
      refine kx_iload_n 13 F 3 dX11_equal_12 rfl rfl rfl ?_
      refine kx_if_ne 16 F 23 dX11_equal_13 (by decide) rfl (by omega) (fun h_67 => ?_) (fun h_67 => (by exfalso; omega))
      refine kx_iload_n 24 F 3 dX11_equal_23 rfl rfl rfl ?_
      refine kx_if_eq 27 F 33 dX11_equal_24 (by decide) rfl (by omega) (fun h_68 => (by exfalso; omega)) (fun h_68 => ?_)
      refine kx_aload_n 28 F 0 dX11_equal_27 rfl rfl rfl ?_
      refine kx_iload_n 29 F 3 dX11_equal_28 rfl rfl rfl ?_
      refine kx_Vi 32 (ci := 0) F (As := [vI r_64]) (st := []) vd_X11_110 (c_X11_refuse G l N_65 c0 r_64 hI_N_65 hk_c0 (by omega)) hk_c0 rfl rfl rfl ⟨by decide, by decide⟩ rfl rfl (Nat.le_of_ble_eq_true rfl) dX11_equal_29 rfl ?_
      intro r_69 N_70 q_71
      obtain ⟨hI_N_70, hG_N_70, q_71c⟩ := q_71
      have hF_N_70 : Fr f_e_equal3 M N_70 := Fr.c hF_N_65 hG_N_70 rfl
      have hX_N_70 : XX N_70 := XX.fr hX_N_65 hI_N_65 hG_N_70 rfl
      subst q_71c
      exact kx_iret F hQ ⟨hI_N_70, hF_N_70, (by omega), hX_N_70, (zTC.fr htc_N_65 hI_N_65 hk_c0 hG_N_70 rfl)⟩ dX11_equal_32
  · refine kx_iload_n 8 F 2 dX11_equal_7 rfl rfl rfl ?_
    refine kx_Vi 11 (ci := 0) F (As := [vI r_4, vI a2]) (st := []) vd_X11_327 (e_tableRefusal3 G l M c0 r_4 a2 hI_M hk_c0 (by omega) hX_M q hS hU hF hK (fun h => ⟨by omega, by omega⟩)) hk_c0 rfl rfl rfl ⟨by decide, by decide⟩ rfl rfl (Nat.le_of_ble_eq_true rfl) dX11_equal_8 rfl ?_
    intro r_72 N_73 q_74
    obtain ⟨hI_N_73, hG_N_73, q_74c, hX_N_73, ⟨hsr_N_73, htc_N_73⟩⟩ := q_74
    have hF_N_73 : Fr f_e_equal3 M N_73 := Fr.c hF_M hG_N_73 rfl
    rcases q_74c with q_74c | q_74c
    · exfalso; omega
    · refine kx_istore_n 12 F 3 (lo' := [some (vR G c0), some (vI a1), some (vI a2), some (vI r_72), none, none]) dX11_equal_11 rfl (by decide) rfl rfl rfl ?_
      refine kx_iload_n 13 F 3 dX11_equal_12 rfl rfl rfl ?_
      refine kx_if_ne 16 F 23 dX11_equal_13 (by decide) rfl (by omega) (fun h_75 => ?_) (fun h_75 => (by exfalso; omega))
      refine kx_iload_n 24 F 3 dX11_equal_23 rfl rfl rfl ?_
      refine kx_if_eq 27 F 33 dX11_equal_24 (by decide) rfl (by omega) (fun h_76 => (by exfalso; omega)) (fun h_76 => ?_)
      refine kx_aload_n 28 F 0 dX11_equal_27 rfl rfl rfl ?_
      refine kx_iload_n 29 F 3 dX11_equal_28 rfl rfl rfl ?_
      refine kx_Vi 32 (ci := 0) F (As := [vI r_72]) (st := []) vd_X11_110 (c_X11_refuse G l N_73 c0 r_72 hI_N_73 hk_c0 (by omega)) hk_c0 rfl rfl rfl ⟨by decide, by decide⟩ rfl rfl (Nat.le_of_ble_eq_true rfl) dX11_equal_29 rfl ?_
      intro r_77 N_78 q_79
      obtain ⟨hI_N_78, hG_N_78, q_79c⟩ := q_79
      have hF_N_78 : Fr f_e_equal3 M N_78 := Fr.c hF_N_73 hG_N_78 rfl
      have hX_N_78 : XX N_78 := XX.fr hX_N_73 hI_N_73 hG_N_78 rfl
      subst q_79c
      exact kx_iret F hQ ⟨hI_N_78, hF_N_78, (by omega), hX_N_78, (zTC.fr htc_N_73 hI_N_73 hk_c0 hG_N_78 rfl)⟩ dX11_equal_32
  · refine kx_iload_n 8 F 2 dX11_equal_7 rfl rfl rfl ?_
    refine kx_Vi 11 (ci := 0) F (As := [vI r_4, vI a2]) (st := []) vd_X11_327 (e_tableRefusal3 G l M c0 r_4 a2 hI_M hk_c0 (by omega) hX_M q hS hU hF hK (fun h => ⟨by omega, by omega⟩)) hk_c0 rfl rfl rfl ⟨by decide, by decide⟩ rfl rfl (Nat.le_of_ble_eq_true rfl) dX11_equal_8 rfl ?_
    intro r_80 N_81 q_82
    obtain ⟨hI_N_81, hG_N_81, q_82c, hX_N_81, ⟨hsr_N_81, htc_N_81⟩⟩ := q_82
    have hF_N_81 : Fr f_e_equal3 M N_81 := Fr.c hF_M hG_N_81 rfl
    rcases q_82c with q_82c | q_82c
    · exfalso; omega
    · refine kx_istore_n 12 F 3 (lo' := [some (vR G c0), some (vI a1), some (vI a2), some (vI r_80), none, none]) dX11_equal_11 rfl (by decide) rfl rfl rfl ?_
      refine kx_iload_n 13 F 3 dX11_equal_12 rfl rfl rfl ?_
      refine kx_if_ne 16 F 23 dX11_equal_13 (by decide) rfl (by omega) (fun h_83 => ?_) (fun h_83 => (by exfalso; omega))
      refine kx_iload_n 24 F 3 dX11_equal_23 rfl rfl rfl ?_
      refine kx_if_eq 27 F 33 dX11_equal_24 (by decide) rfl (by omega) (fun h_84 => (by exfalso; omega)) (fun h_84 => ?_)
      refine kx_aload_n 28 F 0 dX11_equal_27 rfl rfl rfl ?_
      refine kx_iload_n 29 F 3 dX11_equal_28 rfl rfl rfl ?_
      refine kx_Vi 32 (ci := 0) F (As := [vI r_80]) (st := []) vd_X11_110 (c_X11_refuse G l N_81 c0 r_80 hI_N_81 hk_c0 (by omega)) hk_c0 rfl rfl rfl ⟨by decide, by decide⟩ rfl rfl (Nat.le_of_ble_eq_true rfl) dX11_equal_29 rfl ?_
      intro r_85 N_86 q_87
      obtain ⟨hI_N_86, hG_N_86, q_87c⟩ := q_87
      have hF_N_86 : Fr f_e_equal3 M N_86 := Fr.c hF_N_81 hG_N_86 rfl
      have hX_N_86 : XX N_86 := XX.fr hX_N_81 hI_N_81 hG_N_86 rfl
      subst q_87c
      exact kx_iret F hQ ⟨hI_N_86, hF_N_86, (by omega), hX_N_86, (zTC.fr htc_N_81 hI_N_81 hk_c0 hG_N_86 rfl)⟩ dX11_equal_32
