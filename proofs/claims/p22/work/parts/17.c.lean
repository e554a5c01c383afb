theorem dX11_missingAt_0 : decode cX11_missingAt 0 = .ok (.aload_n 0, 1) := by decide +kernel
theorem dX11_missingAt_1 : decode cX11_missingAt 1 = .ok (.aload_n 0, 1) := by decide +kernel
theorem dX11_missingAt_2 : decode cX11_missingAt 2 = .ok (.getfield 26, 3) := by decide +kernel
theorem dX11_missingAt_5 : decode cX11_missingAt 5 = .ok (.iload_n 1, 1) := by decide +kernel
theorem dX11_missingAt_6 : decode cX11_missingAt 6 = .ok (.invokevirtual 163, 3) := by decide +kernel
theorem dX11_missingAt_9 : decode cX11_missingAt 9 = .ok (.ifCond .eq 11, 3) := by decide +kernel
theorem dX11_missingAt_12 : decode cX11_missingAt 12 = .ok (.iload_n 2, 1) := by decide +kernel
theorem dX11_missingAt_13 : decode cX11_missingAt 13 = .ok (.ifCond .lt 7, 3) := by decide +kernel
theorem dX11_missingAt_16 : decode cX11_missingAt 16 = .ok (.iconst 1, 1) := by decide +kernel
theorem dX11_missingAt_17 : decode cX11_missingAt 17 = .ok (.goto 4, 3) := by decide +kernel
theorem dX11_missingAt_20 : decode cX11_missingAt 20 = .ok (.iconst 0, 1) := by decide +kernel
theorem dX11_missingAt_21 : decode cX11_missingAt 21 = .ok (.iload_n 1, 1) := by decide +kernel
theorem dX11_missingAt_22 : decode cX11_missingAt 22 = .ok (.invokevirtual 327, 3) := by decide +kernel
theorem dX11_missingAt_25 : decode cX11_missingAt 25 = .ok (.istore_n 3, 1) := by decide +kernel
theorem dX11_missingAt_26 : decode cX11_missingAt 26 = .ok (.iload_n 3, 1) := by decide +kernel
theorem dX11_missingAt_27 : decode cX11_missingAt 27 = .ok (.ifCond .eq 9, 3) := by decide +kernel
theorem dX11_missingAt_30 : decode cX11_missingAt 30 = .ok (.aload_n 0, 1) := by decide +kernel
theorem dX11_missingAt_31 : decode cX11_missingAt 31 = .ok (.iload_n 3, 1) := by decide +kernel
theorem dX11_missingAt_32 : decode cX11_missingAt 32 = .ok (.invokevirtual 110, 3) := by decide +kernel
theorem dX11_missingAt_35 : decode cX11_missingAt 35 = .ok (.ireturn, 1) := by decide +kernel
theorem dX11_missingAt_36 : decode cX11_missingAt 36 = .ok (.aload_n 0, 1) := by decide +kernel
theorem dX11_missingAt_37 : decode cX11_missingAt 37 = .ok (.aload_n 0, 1) := by decide +kernel
theorem dX11_missingAt_38 : decode cX11_missingAt 38 = .ok (.getfield 47, 3) := by decide +kernel
theorem dX11_missingAt_41 : decode cX11_missingAt 41 = .ok (.aload_n 0, 1) := by decide +kernel
theorem dX11_missingAt_42 : decode cX11_missingAt 42 = .ok (.getfield 26, 3) := by decide +kernel
theorem dX11_missingAt_45 : decode cX11_missingAt 45 = .ok (.iconst 3, 1) := by decide +kernel
theorem dX11_missingAt_46 : decode cX11_missingAt 46 = .ok (.iload_n 1, 1) := by decide +kernel
theorem dX11_missingAt_47 : decode cX11_missingAt 47 = .ok (.iload_n 1, 1) := by decide +kernel
theorem dX11_missingAt_48 : decode cX11_missingAt 48 = .ok (.invokevirtual 317, 3) := by decide +kernel
theorem dX11_missingAt_51 : decode cX11_missingAt 51 = .ok (.iload_n 2, 1) := by decide +kernel
theorem dX11_missingAt_52 : decode cX11_missingAt 52 = .ok (.invokevirtual 324, 3) := by decide +kernel
theorem dX11_missingAt_55 : decode cX11_missingAt 55 = .ok (.ireturn, 1) := by decide +kernel
abbrev f_c_X11_missingAt : List (Nat × Int) := [(21, 0), (21, 1), (22, -1), (23, -1), (24, -1), (25, -1), (26, 0), (27, -1), (28, -1), (29, -1), (30, -1), (31, 0), (32, -1), (33, -1), (34, -1), (35, -1), (36, 0), (37, -1), (38, -1), (39, -1), (40, -1), (41, 2), (41, 3), (41, 4), (41, 5), (41, 7), (41, 8), (41, 9), (41, 13), (42, -1), (43, -1), (44, -1), (45, -1), (46, -1), (62, 0)]
set_option maxHeartbeats 4000000 in
set_option maxRecDepth 100000 in
theorem c_X11_missingAt (G : KG) (l : Launch) (M : Mem) (c0 : Int) (a1 : Int) (a2 : Int) (hI_M : Inv false M) (hk_c0 : kd c0 = 62) (hpre : -2147483648 ≤ a1 ∧ a1 ≤ 2147483647 ∧ -2147483648 ≤ a2 ∧ a2 ≤ 2147483647) (hX_M : XX M) : KC false G l yX11_missingAt cX11_missingAt 4 (some .int) (7, 173) [vR G c0, vI a1, vI a2] M (fun A => kQi false G A (fun (r : Int) (N : Mem) => Inv false N ∧ Fr f_c_X11_missingAt M N ∧ (r ≥ -2147483646 ∧ r ≤ 2147483646) ∧ XX N)) := by
  refine kx_met (lo := [some (vR G c0), some (vI a1), some (vI a2), none]) (by decide) (Nat.le_of_ble_eq_true rfl) rfl ?_
  intro X F hQ
  have hF_M : Fr f_c_X11_missingAt M M := Fr.rf _ _
  refine kx_aload_n 1 F 0 dX11_missingAt_0 rfl rfl rfl ?_
  refine kx_aload_n 2 F 0 dX11_missingAt_1 rfl rfl rfl ?_
  refine kx_getr 5 F fl_X11_26 hk_c0 rfl rfl (j := 5) rfl dX11_missingAt_2 (v := (M c0 5)) rfl rfl ?_
  have hk_1 : kd (M c0 5) = 12 := Inv.r hI_M hk_c0 rfl 5 rfl rfl
  refine kx_iload_n 6 F 1 dX11_missingAt_5 rfl rfl rfl ?_
  refine kx_Vi 9 (ci := 0) F (As := [vI a1]) (st := [vR G c0]) vd_X11_163 (c_X5_has G l M (M c0 5) a1 hI_M hk_1 (by omega)) hk_1 rfl rfl rfl ⟨by decide, by decide⟩ rfl rfl (Nat.le_of_ble_eq_true rfl) dX11_missingAt_6 rfl ?_
  intro r_2 N_3 q_4
  obtain ⟨rfl, q_4c⟩ := q_4
  have h_5 := Inv.g hI_M hk_1 rfl 3 (a := 0) (b := 2) rfl rfl
  rcases q_4c with q_4c | q_4c
  · have J_11 : ∀ (y0_10 : Int), 0 ≤ y0_10 ∧ y0_10 ≤ 1 → KJ false G X M 21 [some (vR G c0), some (vI a1), some (vI a2), none] [vI y0_10, vR G c0] := by
      intro y0_10 h_12
      refine kx_iload_n 22 F 1 dX11_missingAt_21 rfl rfl rfl ?_
      refine kx_Vi 25 (ci := 0) F (As := [vI y0_10, vI a1]) (st := []) vd_X11_327 (c_X11_tableRefusal G l M c0 y0_10 a1 hI_M hk_c0 (by omega) hX_M) hk_c0 rfl rfl rfl ⟨by decide, by decide⟩ rfl rfl (Nat.le_of_ble_eq_true rfl) dX11_missingAt_22 rfl ?_
      intro r_13 N_14 q_15
      obtain ⟨hI_N_14, hG_N_14, q_15c, hX_N_14⟩ := q_15
      have hF_N_14 : Fr f_c_X11_missingAt M N_14 := Fr.c hF_M hG_N_14 rfl
      rcases q_15c with q_15c | q_15c
      · refine kx_istore_n 26 F 3 (lo' := [some (vR G c0), some (vI a1), some (vI a2), some (vI r_13)]) dX11_missingAt_25 rfl (by decide) rfl rfl rfl ?_
        refine kx_iload_n 27 F 3 dX11_missingAt_26 rfl rfl rfl ?_
        refine kx_if_eq 30 F 36 dX11_missingAt_27 (by decide) rfl (by omega) (fun h_16 => ?_) (fun h_16 => (by exfalso; omega))
        refine kx_aload_n 37 F 0 dX11_missingAt_36 rfl rfl rfl ?_
        refine kx_aload_n 38 F 0 dX11_missingAt_37 rfl rfl rfl ?_
        refine kx_getr 41 F fl_X11_47 hk_c0 rfl rfl (j := 10) rfl dX11_missingAt_38 (v := (M c0 10)) (by rw [Fr.e hG_N_14 hk_c0 _ rfl]) rfl ?_
        have hk_17 : kd (M c0 10) = 41 := Inv.r hI_M hk_c0 rfl 10 rfl rfl
        refine kx_aload_n 42 F 0 dX11_missingAt_41 rfl rfl rfl ?_
        refine kx_getr 45 F fl_X11_26 hk_c0 rfl rfl (j := 5) rfl dX11_missingAt_42 (v := (M c0 5)) (by rw [Fr.e hG_N_14 hk_c0 _ rfl]) rfl ?_
        refine kx_iconst 46 F dX11_missingAt_45 rfl ?_
        refine kx_iload_n 47 F 1 dX11_missingAt_46 rfl rfl rfl ?_
        refine kx_iload_n 48 F 1 dX11_missingAt_47 rfl rfl rfl ?_
        refine kx_Vi 51 (ci := 0) F (As := [vR G (M c0 5), vI 3, vI a1, vI a1]) (st := [vR G c0]) vd_X11_317 (c_X4_slotOf G l N_14 (M c0 10) (M c0 5) 3 a1 a1 hI_N_14 hk_17 hk_1 (by omega) hX_N_14) hk_17 rfl rfl rfl ⟨by decide, by decide⟩ rfl rfl (Nat.le_of_ble_eq_true rfl) dX11_missingAt_48 rfl ?_
        intro r_18 N_19 q_20
        obtain ⟨hI_N_19, hG_N_19, q_20c, hX_N_19⟩ := q_20
        have hF_N_19 : Fr f_c_X11_missingAt M N_19 := Fr.c hF_N_14 hG_N_19 rfl
        refine kx_iload_n 52 F 2 dX11_missingAt_51 rfl rfl rfl ?_
        refine kx_Vi 55 (ci := 0) F (As := [vI r_18, vI a2]) (st := []) vd_X11_324 (c_X11_tellLetter G l N_19 c0 r_18 a2 hI_N_19 hk_c0 (by omega)) hk_c0 rfl rfl rfl ⟨by decide, by decide⟩ rfl rfl (Nat.le_of_ble_eq_true rfl) dX11_missingAt_52 rfl ?_
        intro r_21 N_22 q_23
        obtain ⟨hI_N_22, hG_N_22, q_23c⟩ := q_23
        have hF_N_22 : Fr f_c_X11_missingAt M N_22 := Fr.c hF_N_19 hG_N_22 rfl
        have hX_N_22 : XX N_22 := XX.fr hX_N_19 hI_N_19 hG_N_22 rfl
        exact kx_iret F hQ ⟨hI_N_22, hF_N_22, (by omega), hX_N_22⟩ dX11_missingAt_55
      · refine kx_istore_n 26 F 3 (lo' := [some (vR G c0), some (vI a1), some (vI a2), some (vI r_13)]) dX11_missingAt_25 rfl (by decide) rfl rfl rfl ?_
        refine kx_iload_n 27 F 3 dX11_missingAt_26 rfl rfl rfl ?_
        refine kx_if_eq 30 F 36 dX11_missingAt_27 (by decide) rfl (by omega) (fun h_24 => (by exfalso; omega)) (fun h_24 => ?_)
        refine kx_aload_n 31 F 0 dX11_missingAt_30 rfl rfl rfl ?_
        refine kx_iload_n 32 F 3 dX11_missingAt_31 rfl rfl rfl ?_
        refine kx_Vi 35 (ci := 0) F (As := [vI r_13]) (st := []) vd_X11_110 (c_X11_refuse G l N_14 c0 r_13 hI_N_14 hk_c0 (by omega)) hk_c0 rfl rfl rfl ⟨by decide, by decide⟩ rfl rfl (Nat.le_of_ble_eq_true rfl) dX11_missingAt_32 rfl ?_
        intro r_25 N_26 q_27
        obtain ⟨hI_N_26, hG_N_26, q_27c⟩ := q_27
        have hF_N_26 : Fr f_c_X11_missingAt M N_26 := Fr.c hF_N_14 hG_N_26 rfl
        have hX_N_26 : XX N_26 := XX.fr hX_N_14 hI_N_14 hG_N_26 rfl
        subst q_27c
        exact kx_iret F hQ ⟨hI_N_26, hF_N_26, (by omega), hX_N_26⟩ dX11_missingAt_35
    have J_45 : KJ false G X M 20 [some (vR G c0), some (vI a1), some (vI a2), none] [vR G c0] := by
      refine kx_iconst 21 F dX11_missingAt_20 rfl ?_
      exact J_11 0 (by omega)
    refine kx_if_eq 12 F 20 dX11_missingAt_9 (by decide) rfl (by omega) (fun h_47 => (by exfalso; omega)) (fun h_47 => ?_)
    refine kx_iload_n 13 F 2 dX11_missingAt_12 rfl rfl rfl ?_
    refine kx_if_lt 16 F 20 dX11_missingAt_13 (by decide) rfl (by omega) (fun h_48 => ?_) (fun h_48 => ?_)
    · exact J_45
    · refine kx_iconst 17 F dX11_missingAt_16 rfl ?_
      refine kx_goto 21 F dX11_missingAt_17 (by decide) ?_
      exact J_11 1 (by omega)
  · have J_52 : ∀ (y0_51 : Int), 0 ≤ y0_51 ∧ y0_51 ≤ 0 → KJ false G X M 21 [some (vR G c0), some (vI a1), some (vI a2), none] [vI y0_51, vR G c0] := by
      intro y0_51 h_53
      refine kx_iload_n 22 F 1 dX11_missingAt_21 rfl rfl rfl ?_
      refine kx_Vi 25 (ci := 0) F (As := [vI y0_51, vI a1]) (st := []) vd_X11_327 (c_X11_tableRefusal G l M c0 y0_51 a1 hI_M hk_c0 (by omega) hX_M) hk_c0 rfl rfl rfl ⟨by decide, by decide⟩ rfl rfl (Nat.le_of_ble_eq_true rfl) dX11_missingAt_22 rfl ?_
      intro r_54 N_55 q_56
      obtain ⟨hI_N_55, hG_N_55, q_56c, hX_N_55⟩ := q_56
      have hF_N_55 : Fr f_c_X11_missingAt M N_55 := Fr.c hF_M hG_N_55 rfl
      rcases q_56c with q_56c | q_56c
      · refine kx_istore_n 26 F 3 (lo' := [some (vR G c0), some (vI a1), some (vI a2), some (vI r_54)]) dX11_missingAt_25 rfl (by decide) rfl rfl rfl ?_
        refine kx_iload_n 27 F 3 dX11_missingAt_26 rfl rfl rfl ?_
        refine kx_if_eq 30 F 36 dX11_missingAt_27 (by decide) rfl (by omega) (fun h_57 => ?_) (fun h_57 => (by exfalso; omega))
        refine kx_aload_n 37 F 0 dX11_missingAt_36 rfl rfl rfl ?_
        refine kx_aload_n 38 F 0 dX11_missingAt_37 rfl rfl rfl ?_
        refine kx_getr 41 F fl_X11_47 hk_c0 rfl rfl (j := 10) rfl dX11_missingAt_38 (v := (M c0 10)) (by rw [Fr.e hG_N_55 hk_c0 _ rfl]) rfl ?_
        have hk_58 : kd (M c0 10) = 41 := Inv.r hI_M hk_c0 rfl 10 rfl rfl
        refine kx_aload_n 42 F 0 dX11_missingAt_41 rfl rfl rfl ?_
        refine kx_getr 45 F fl_X11_26 hk_c0 rfl rfl (j := 5) rfl dX11_missingAt_42 (v := (M c0 5)) (by rw [Fr.e hG_N_55 hk_c0 _ rfl]) rfl ?_
        refine kx_iconst 46 F dX11_missingAt_45 rfl ?_
        refine kx_iload_n 47 F 1 dX11_missingAt_46 rfl rfl rfl ?_
        refine kx_iload_n 48 F 1 dX11_missingAt_47 rfl rfl rfl ?_
        refine kx_Vi 51 (ci := 0) F (As := [vR G (M c0 5), vI 3, vI a1, vI a1]) (st := [vR G c0]) vd_X11_317 (c_X4_slotOf G l N_55 (M c0 10) (M c0 5) 3 a1 a1 hI_N_55 hk_58 hk_1 (by omega) hX_N_55) hk_58 rfl rfl rfl ⟨by decide, by decide⟩ rfl rfl (Nat.le_of_ble_eq_true rfl) dX11_missingAt_48 rfl ?_
        intro r_59 N_60 q_61
        obtain ⟨hI_N_60, hG_N_60, q_61c, hX_N_60⟩ := q_61
        have hF_N_60 : Fr f_c_X11_missingAt M N_60 := Fr.c hF_N_55 hG_N_60 rfl
        refine kx_iload_n 52 F 2 dX11_missingAt_51 rfl rfl rfl ?_
        refine kx_Vi 55 (ci := 0) F (As := [vI r_59, vI a2]) (st := []) vd_X11_324 (c_X11_tellLetter G l N_60 c0 r_59 a2 hI_N_60 hk_c0 (by omega)) hk_c0 rfl rfl rfl ⟨by decide, by decide⟩ rfl rfl (Nat.le_of_ble_eq_true rfl) dX11_missingAt_52 rfl ?_
        intro r_62 N_63 q_64
        obtain ⟨hI_N_63, hG_N_63, q_64c⟩ := q_64
        have hF_N_63 : Fr f_c_X11_missingAt M N_63 := Fr.c hF_N_60 hG_N_63 rfl
        have hX_N_63 : XX N_63 := XX.fr hX_N_60 hI_N_60 hG_N_63 rfl
        exact kx_iret F hQ ⟨hI_N_63, hF_N_63, (by omega), hX_N_63⟩ dX11_missingAt_55
      · refine kx_istore_n 26 F 3 (lo' := [some (vR G c0), some (vI a1), some (vI a2), some (vI r_54)]) dX11_missingAt_25 rfl (by decide) rfl rfl rfl ?_
        refine kx_iload_n 27 F 3 dX11_missingAt_26 rfl rfl rfl ?_
        refine kx_if_eq 30 F 36 dX11_missingAt_27 (by decide) rfl (by omega) (fun h_65 => (by exfalso; omega)) (fun h_65 => ?_)
        refine kx_aload_n 31 F 0 dX11_missingAt_30 rfl rfl rfl ?_
        refine kx_iload_n 32 F 3 dX11_missingAt_31 rfl rfl rfl ?_
        refine kx_Vi 35 (ci := 0) F (As := [vI r_54]) (st := []) vd_X11_110 (c_X11_refuse G l N_55 c0 r_54 hI_N_55 hk_c0 (by omega)) hk_c0 rfl rfl rfl ⟨by decide, by decide⟩ rfl rfl (Nat.le_of_ble_eq_true rfl) dX11_missingAt_32 rfl ?_
        intro r_66 N_67 q_68
        obtain ⟨hI_N_67, hG_N_67, q_68c⟩ := q_68
        have hF_N_67 : Fr f_c_X11_missingAt M N_67 := Fr.c hF_N_55 hG_N_67 rfl
        have hX_N_67 : XX N_67 := XX.fr hX_N_55 hI_N_55 hG_N_67 rfl
        subst q_68c
        exact kx_iret F hQ ⟨hI_N_67, hF_N_67, (by omega), hX_N_67⟩ dX11_missingAt_35
    have J_70 : KJ false G X M 20 [some (vR G c0), some (vI a1), some (vI a2), none] [vR G c0] := by
      refine kx_iconst 21 F dX11_missingAt_20 rfl ?_
      exact J_52 0 (by omega)
    refine kx_if_eq 12 F 20 dX11_missingAt_9 (by decide) rfl (by omega) (fun h_72 => ?_) (fun h_72 => (by exfalso; omega))
    exact J_70 
theorem dX11_includes_0 : decode cX11_includes 0 = .ok (.aload_n 0, 1) := by decide +kernel
theorem dX11_includes_1 : decode cX11_includes 1 = .ok (.aload_n 0, 1) := by decide +kernel
theorem dX11_includes_2 : decode cX11_includes 2 = .ok (.iload_n 1, 1) := by decide +kernel
theorem dX11_includes_3 : decode cX11_includes 3 = .ok (.iload_n 2, 1) := by decide +kernel
theorem dX11_includes_4 : decode cX11_includes 4 = .ok (.invokevirtual 219, 3) := by decide +kernel
theorem dX11_includes_7 : decode cX11_includes 7 = .ok (.iload_n 2, 1) := by decide +kernel
theorem dX11_includes_8 : decode cX11_includes 8 = .ok (.invokevirtual 327, 3) := by decide +kernel
theorem dX11_includes_11 : decode cX11_includes 11 = .ok (.istore_n 3, 1) := by decide +kernel
theorem dX11_includes_12 : decode cX11_includes 12 = .ok (.iload_n 3, 1) := by decide +kernel
theorem dX11_includes_13 : decode cX11_includes 13 = .ok (.ifCond .eq 9, 3) := by decide +kernel
theorem dX11_includes_16 : decode cX11_includes 16 = .ok (.aload_n 0, 1) := by decide +kernel
theorem dX11_includes_17 : decode cX11_includes 17 = .ok (.iload_n 3, 1) := by decide +kernel
theorem dX11_includes_18 : decode cX11_includes 18 = .ok (.invokevirtual 110, 3) := by decide +kernel
theorem dX11_includes_21 : decode cX11_includes 21 = .ok (.ireturn, 1) := by decide +kernel
theorem dX11_includes_22 : decode cX11_includes 22 = .ok (.aload_n 0, 1) := by decide +kernel
theorem dX11_includes_23 : decode cX11_includes 23 = .ok (.getfield 47, 3) := by decide +kernel
theorem dX11_includes_26 : decode cX11_includes 26 = .ok (.aload_n 0, 1) := by decide +kernel
theorem dX11_includes_27 : decode cX11_includes 27 = .ok (.getfield 26, 3) := by decide +kernel
theorem dX11_includes_30 : decode cX11_includes 30 = .ok (.iconst 2, 1) := by decide +kernel
theorem dX11_includes_31 : decode cX11_includes 31 = .ok (.iload_n 1, 1) := by decide +kernel
theorem dX11_includes_32 : decode cX11_includes 32 = .ok (.iload_n 2, 1) := by decide +kernel
theorem dX11_includes_33 : decode cX11_includes 33 = .ok (.invokevirtual 317, 3) := by decide +kernel
theorem dX11_includes_36 : decode cX11_includes 36 = .ok (.istore 4, 2) := by decide +kernel
theorem dX11_includes_38 : decode cX11_includes 38 = .ok (.aload_n 0, 1) := by decide +kernel
theorem dX11_includes_39 : decode cX11_includes 39 = .ok (.aload_n 0, 1) := by decide +kernel
theorem dX11_includes_40 : decode cX11_includes 40 = .ok (.getfield 47, 3) := by decide +kernel
theorem dX11_includes_43 : decode cX11_includes 43 = .ok (.getfield 331, 3) := by decide +kernel
theorem dX11_includes_46 : decode cX11_includes 46 = .ok (.iload 4, 2) := by decide +kernel
theorem dX11_includes_48 : decode cX11_includes 48 = .ok (.iaload, 1) := by decide +kernel
theorem dX11_includes_49 : decode cX11_includes 49 = .ok (.iconst (-1), 1) := by decide +kernel
theorem dX11_includes_50 : decode cX11_includes 50 = .ok (.if_icmp .ne 7, 3) := by decide +kernel
theorem dX11_includes_53 : decode cX11_includes 53 = .ok (.iconst 1, 1) := by decide +kernel
theorem dX11_includes_54 : decode cX11_includes 54 = .ok (.goto 4, 3) := by decide +kernel
theorem dX11_includes_57 : decode cX11_includes 57 = .ok (.iconst 0, 1) := by decide +kernel
theorem dX11_includes_58 : decode cX11_includes 58 = .ok (.invokevirtual 145, 3) := by decide +kernel
theorem dX11_includes_61 : decode cX11_includes 61 = .ok (.ireturn, 1) := by decide +kernel
abbrev f_c_X11_includes : List (Nat × Int) := [(21, 0), (21, 1), (22, -1), (23, -1), (24, -1), (25, -1), (26, 0), (27, -1), (28, -1), (29, -1), (30, -1), (31, 0), (32, -1), (33, -1), (34, -1), (35, -1), (36, 0), (37, -1), (38, -1), (39, -1), (40, -1), (41, 2), (41, 3), (41, 4), (41, 5), (41, 7), (41, 8), (41, 9), (41, 13), (42, -1), (43, -1), (44, -1), (45, -1), (46, -1), (62, 0)]
set_option maxHeartbeats 4000000 in
set_option maxRecDepth 100000 in
theorem c_X11_includes (G : KG) (l : Launch) (M : Mem) (c0 : Int) (a1 : Int) (a2 : Int) (hI_M : Inv false M) (hk_c0 : kd c0 = 62) (hpre : -2147483648 ≤ a1 ∧ a1 ≤ 2147483647 ∧ -2147483648 ≤ a2 ∧ a2 ≤ 2147483647) (hX_M : XX M) : KC false G l yX11_includes cX11_includes 5 (some .int) (7, 173) [vR G c0, vI a1, vI a2] M (fun A => kQi false G A (fun (r : Int) (N : Mem) => Inv false N ∧ Fr f_c_X11_includes M N ∧ (r ≥ -1 ∧ r ≤ 1) ∧ XX N)) := by
  refine kx_met (lo := [some (vR G c0), some (vI a1), some (vI a2), none, none]) (by decide) (Nat.le_of_ble_eq_true rfl) rfl ?_
  intro X F hQ
  have hF_M : Fr f_c_X11_includes M M := Fr.rf _ _
  refine kx_aload_n 1 F 0 dX11_includes_0 rfl rfl rfl ?_
  refine kx_aload_n 2 F 0 dX11_includes_1 rfl rfl rfl ?_
  refine kx_iload_n 3 F 1 dX11_includes_2 rfl rfl rfl ?_
  refine kx_iload_n 4 F 2 dX11_includes_3 rfl rfl rfl ?_
  refine kx_Vi 7 (ci := 0) F (As := [vI a1, vI a2]) (st := [vR G c0]) vd_X11_219 (c_X11_areTwo G l M c0 a1 a2 hI_M hk_c0 (by omega)) hk_c0 rfl rfl rfl ⟨by decide, by decide⟩ rfl rfl (Nat.le_of_ble_eq_true rfl) dX11_includes_4 rfl ?_
  intro r_1 N_2 q_3
  obtain ⟨rfl, q_3c⟩ := q_3
  rcases q_3c with q_3c | q_3c
  · refine kx_iload_n 8 F 2 dX11_includes_7 rfl rfl rfl ?_
    refine kx_Vi 11 (ci := 0) F (As := [vI r_1, vI a2]) (st := []) vd_X11_327 (c_X11_tableRefusal G l M c0 r_1 a2 hI_M hk_c0 (by omega) hX_M) hk_c0 rfl rfl rfl ⟨by decide, by decide⟩ rfl rfl (Nat.le_of_ble_eq_true rfl) dX11_includes_8 rfl ?_
    intro r_4 N_5 q_6
    obtain ⟨hI_N_5, hG_N_5, q_6c, hX_N_5⟩ := q_6
    have hF_N_5 : Fr f_c_X11_includes M N_5 := Fr.c hF_M hG_N_5 rfl
    rcases q_6c with q_6c | q_6c
    · refine kx_istore_n 12 F 3 (lo' := [some (vR G c0), some (vI a1), some (vI a2), some (vI r_4), none]) dX11_includes_11 rfl (by decide) rfl rfl rfl ?_
      refine kx_iload_n 13 F 3 dX11_includes_12 rfl rfl rfl ?_
      refine kx_if_eq 16 F 22 dX11_includes_13 (by decide) rfl (by omega) (fun h_7 => ?_) (fun h_7 => (by exfalso; omega))
      refine kx_aload_n 23 F 0 dX11_includes_22 rfl rfl rfl ?_
      refine kx_getr 26 F fl_X11_47 hk_c0 rfl rfl (j := 10) rfl dX11_includes_23 (v := (M c0 10)) (by rw [Fr.e hG_N_5 hk_c0 _ rfl]) rfl ?_
      have hk_8 : kd (M c0 10) = 41 := Inv.r hI_M hk_c0 rfl 10 rfl rfl
      refine kx_aload_n 27 F 0 dX11_includes_26 rfl rfl rfl ?_
      refine kx_getr 30 F fl_X11_26 hk_c0 rfl rfl (j := 5) rfl dX11_includes_27 (v := (M c0 5)) (by rw [Fr.e hG_N_5 hk_c0 _ rfl]) rfl ?_
      have hk_9 : kd (M c0 5) = 12 := Inv.r hI_M hk_c0 rfl 5 rfl rfl
      refine kx_iconst 31 F dX11_includes_30 rfl ?_
      refine kx_iload_n 32 F 1 dX11_includes_31 rfl rfl rfl ?_
      refine kx_iload_n 33 F 2 dX11_includes_32 rfl rfl rfl ?_
      refine kx_Vi 36 (ci := 0) F (As := [vR G (M c0 5), vI 2, vI a1, vI a2]) (st := []) vd_X11_317 (c_X4_slotOf G l N_5 (M c0 10) (M c0 5) 2 a1 a2 hI_N_5 hk_8 hk_9 (by omega) hX_N_5) hk_8 rfl rfl rfl ⟨by decide, by decide⟩ rfl rfl (Nat.le_of_ble_eq_true rfl) dX11_includes_33 rfl ?_
      intro r_10 N_11 q_12
      obtain ⟨hI_N_11, hG_N_11, q_12c, hX_N_11⟩ := q_12
      have hF_N_11 : Fr f_c_X11_includes M N_11 := Fr.c hF_N_5 hG_N_11 rfl
      refine kx_istore 38 F 4 (lo' := [some (vR G c0), some (vI a1), some (vI a2), some (vI r_4), some (vI r_10)]) dX11_includes_36 (by decide) rfl rfl rfl ?_
      refine kx_aload_n 39 F 0 dX11_includes_38 rfl rfl rfl ?_
      refine kx_aload_n 40 F 0 dX11_includes_39 rfl rfl rfl ?_
      refine kx_getr 43 F fl_X11_47 hk_c0 rfl rfl (j := 10) rfl dX11_includes_40 (v := (M c0 10)) (by rw [Fr.e hG_N_11 hk_c0 _ rfl, Fr.e hG_N_5 hk_c0 _ rfl]) rfl ?_
      refine kx_getr 46 F fl_X11_331 hk_8 rfl rfl (j := 0) rfl dX11_includes_43 (v := (M (M c0 10) 0)) (by rw [Fr.e hG_N_11 hk_8 _ rfl, Fr.e hG_N_5 hk_8 _ rfl]) rfl ?_
      have hk_13 : kd (M (M c0 10) 0) = 42 := Inv.r hI_M hk_8 rfl 0 rfl rfl
      refine kx_iload 48 F 4 dX11_includes_46 rfl rfl ?_
      refine kx_iald 49 F hk_13 rfl rfl (by omega) (by decide) dX11_includes_48 (v := (N_11 (M (M c0 10) 0) r_10)) rfl rfl ?_
      have h_14 := Inv.g hI_N_11 hk_13 rfl r_10 (a := (-1)) (b := 1000000000) rfl rfl
      refine kx_iconst 50 F dX11_includes_49 rfl ?_
      refine kx_icmp_ne 53 F 57 dX11_includes_50 (by decide) rfl (by omega) (by decide) (fun h_15 => ?_) (fun h_15 => ?_)
      · refine kx_iconst 58 F dX11_includes_57 rfl ?_
        refine kx_Vi 61 (ci := 0) F (As := [vI 0]) (st := []) vd_X11_145 (c_X11_answer G l N_11 c0 0 hI_N_11 hk_c0 (by omega)) hk_c0 rfl rfl rfl ⟨by decide, by decide⟩ rfl rfl (Nat.le_of_ble_eq_true rfl) dX11_includes_58 rfl ?_
        intro r_16 N_17 q_18
        obtain ⟨hI_N_17, hG_N_17, q_18c⟩ := q_18
        have hF_N_17 : Fr f_c_X11_includes M N_17 := Fr.c hF_N_11 hG_N_17 rfl
        have hX_N_17 : XX N_17 := XX.fr hX_N_11 hI_N_11 hG_N_17 rfl
        exact kx_iret F hQ ⟨hI_N_17, hF_N_17, (by omega), hX_N_17⟩ dX11_includes_61
      · refine kx_iconst 54 F dX11_includes_53 rfl ?_
        refine kx_goto 58 F dX11_includes_54 (by decide) ?_
        refine kx_Vi 61 (ci := 0) F (As := [vI 1]) (st := []) vd_X11_145 (c_X11_answer G l N_11 c0 1 hI_N_11 hk_c0 (by omega)) hk_c0 rfl rfl rfl ⟨by decide, by decide⟩ rfl rfl (Nat.le_of_ble_eq_true rfl) dX11_includes_58 rfl ?_
        intro r_19 N_20 q_21
        obtain ⟨hI_N_20, hG_N_20, q_21c⟩ := q_21
        have hF_N_20 : Fr f_c_X11_includes M N_20 := Fr.c hF_N_11 hG_N_20 rfl
        have hX_N_20 : XX N_20 := XX.fr hX_N_11 hI_N_11 hG_N_20 rfl
        exact kx_iret F hQ ⟨hI_N_20, hF_N_20, (by omega), hX_N_20⟩ dX11_includes_61
    · refine kx_istore_n 12 F 3 (lo' := [some (vR G c0), some (vI a1), some (vI a2), some (vI r_4), none]) dX11_includes_11 rfl (by decide) rfl rfl rfl ?_
      refine kx_iload_n 13 F 3 dX11_includes_12 rfl rfl rfl ?_
      refine kx_if_eq 16 F 22 dX11_includes_13 (by decide) rfl (by omega) (fun h_22 => (by exfalso; omega)) (fun h_22 => ?_)
      refine kx_aload_n 17 F 0 dX11_includes_16 rfl rfl rfl ?_
      refine kx_iload_n 18 F 3 dX11_includes_17 rfl rfl rfl ?_
      refine kx_Vi 21 (ci := 0) F (As := [vI r_4]) (st := []) vd_X11_110 (c_X11_refuse G l N_5 c0 r_4 hI_N_5 hk_c0 (by omega)) hk_c0 rfl rfl rfl ⟨by decide, by decide⟩ rfl rfl (Nat.le_of_ble_eq_true rfl) dX11_includes_18 rfl ?_
      intro r_23 N_24 q_25
      obtain ⟨hI_N_24, hG_N_24, q_25c⟩ := q_25
      have hF_N_24 : Fr f_c_X11_includes M N_24 := Fr.c hF_N_5 hG_N_24 rfl
      have hX_N_24 : XX N_24 := XX.fr hX_N_5 hI_N_5 hG_N_24 rfl
      subst q_25c
      exact kx_iret F hQ ⟨hI_N_24, hF_N_24, (by omega), hX_N_24⟩ dX11_includes_21
  · refine kx_iload_n 8 F 2 dX11_includes_7 rfl rfl rfl ?_
    refine kx_Vi 11 (ci := 0) F (As := [vI r_1, vI a2]) (st := []) vd_X11_327 (c_X11_tableRefusal G l M c0 r_1 a2 hI_M hk_c0 (by omega) hX_M) hk_c0 rfl rfl rfl ⟨by decide, by decide⟩ rfl rfl (Nat.le_of_ble_eq_true rfl) dX11_includes_8 rfl ?_
    intro r_26 N_27 q_28
    obtain ⟨hI_N_27, hG_N_27, q_28c, hX_N_27⟩ := q_28
    have hF_N_27 : Fr f_c_X11_includes M N_27 := Fr.c hF_M hG_N_27 rfl
    rcases q_28c with q_28c | q_28c
    · refine kx_istore_n 12 F 3 (lo' := [some (vR G c0), some (vI a1), some (vI a2), some (vI r_26), none]) dX11_includes_11 rfl (by decide) rfl rfl rfl ?_
      refine kx_iload_n 13 F 3 dX11_includes_12 rfl rfl rfl ?_
      refine kx_if_eq 16 F 22 dX11_includes_13 (by decide) rfl (by omega) (fun h_29 => ?_) (fun h_29 => (by exfalso; omega))
      refine kx_aload_n 23 F 0 dX11_includes_22 rfl rfl rfl ?_
      refine kx_getr 26 F fl_X11_47 hk_c0 rfl rfl (j := 10) rfl dX11_includes_23 (v := (M c0 10)) (by rw [Fr.e hG_N_27 hk_c0 _ rfl]) rfl ?_
      have hk_30 : kd (M c0 10) = 41 := Inv.r hI_M hk_c0 rfl 10 rfl rfl
      refine kx_aload_n 27 F 0 dX11_includes_26 rfl rfl rfl ?_
      refine kx_getr 30 F fl_X11_26 hk_c0 rfl rfl (j := 5) rfl dX11_includes_27 (v := (M c0 5)) (by rw [Fr.e hG_N_27 hk_c0 _ rfl]) rfl ?_
      have hk_31 : kd (M c0 5) = 12 := Inv.r hI_M hk_c0 rfl 5 rfl rfl
      refine kx_iconst 31 F dX11_includes_30 rfl ?_
      refine kx_iload_n 32 F 1 dX11_includes_31 rfl rfl rfl ?_
      refine kx_iload_n 33 F 2 dX11_includes_32 rfl rfl rfl ?_
      refine kx_Vi 36 (ci := 0) F (As := [vR G (M c0 5), vI 2, vI a1, vI a2]) (st := []) vd_X11_317 (c_X4_slotOf G l N_27 (M c0 10) (M c0 5) 2 a1 a2 hI_N_27 hk_30 hk_31 (by omega) hX_N_27) hk_30 rfl rfl rfl ⟨by decide, by decide⟩ rfl rfl (Nat.le_of_ble_eq_true rfl) dX11_includes_33 rfl ?_
      intro r_32 N_33 q_34
      obtain ⟨hI_N_33, hG_N_33, q_34c, hX_N_33⟩ := q_34
      have hF_N_33 : Fr f_c_X11_includes M N_33 := Fr.c hF_N_27 hG_N_33 rfl
      refine kx_istore 38 F 4 (lo' := [some (vR G c0), some (vI a1), some (vI a2), some (vI r_26), some (vI r_32)]) dX11_includes_36 (by decide) rfl rfl rfl ?_
      refine kx_aload_n 39 F 0 dX11_includes_38 rfl rfl rfl ?_
      refine kx_aload_n 40 F 0 dX11_includes_39 rfl rfl rfl ?_
      refine kx_getr 43 F fl_X11_47 hk_c0 rfl rfl (j := 10) rfl dX11_includes_40 (v := (M c0 10)) (by rw [Fr.e hG_N_33 hk_c0 _ rfl, Fr.e hG_N_27 hk_c0 _ rfl]) rfl ?_
      refine kx_getr 46 F fl_X11_331 hk_30 rfl rfl (j := 0) rfl dX11_includes_43 (v := (M (M c0 10) 0)) (by rw [Fr.e hG_N_33 hk_30 _ rfl, Fr.e hG_N_27 hk_30 _ rfl]) rfl ?_
      have hk_35 : kd (M (M c0 10) 0) = 42 := Inv.r hI_M hk_30 rfl 0 rfl rfl
      refine kx_iload 48 F 4 dX11_includes_46 rfl rfl ?_
      refine kx_iald 49 F hk_35 rfl rfl (by omega) (by decide) dX11_includes_48 (v := (N_33 (M (M c0 10) 0) r_32)) rfl rfl ?_
      have h_36 := Inv.g hI_N_33 hk_35 rfl r_32 (a := (-1)) (b := 1000000000) rfl rfl
      refine kx_iconst 50 F dX11_includes_49 rfl ?_
      refine kx_icmp_ne 53 F 57 dX11_includes_50 (by decide) rfl (by omega) (by decide) (fun h_37 => ?_) (fun h_37 => ?_)
      · refine kx_iconst 58 F dX11_includes_57 rfl ?_
        refine kx_Vi 61 (ci := 0) F (As := [vI 0]) (st := []) vd_X11_145 (c_X11_answer G l N_33 c0 0 hI_N_33 hk_c0 (by omega)) hk_c0 rfl rfl rfl ⟨by decide, by decide⟩ rfl rfl (Nat.le_of_ble_eq_true rfl) dX11_includes_58 rfl ?_
        intro r_38 N_39 q_40
        obtain ⟨hI_N_39, hG_N_39, q_40c⟩ := q_40
        have hF_N_39 : Fr f_c_X11_includes M N_39 := Fr.c hF_N_33 hG_N_39 rfl
        have hX_N_39 : XX N_39 := XX.fr hX_N_33 hI_N_33 hG_N_39 rfl
        exact kx_iret F hQ ⟨hI_N_39, hF_N_39, (by omega), hX_N_39⟩ dX11_includes_61
      · refine kx_iconst 54 F dX11_includes_53 rfl ?_
        refine kx_goto 58 F dX11_includes_54 (by decide) ?_
        refine kx_Vi 61 (ci := 0) F (As := [vI 1]) (st := []) vd_X11_145 (c_X11_answer G l N_33 c0 1 hI_N_33 hk_c0 (by omega)) hk_c0 rfl rfl rfl ⟨by decide, by decide⟩ rfl rfl (Nat.le_of_ble_eq_true rfl) dX11_includes_58 rfl ?_
        intro r_41 N_42 q_43
        obtain ⟨hI_N_42, hG_N_42, q_43c⟩ := q_43
        have hF_N_42 : Fr f_c_X11_includes M N_42 := Fr.c hF_N_33 hG_N_42 rfl
        have hX_N_42 : XX N_42 := XX.fr hX_N_33 hI_N_33 hG_N_42 rfl
        exact kx_iret F hQ ⟨hI_N_42, hF_N_42, (by omega), hX_N_42⟩ dX11_includes_61
    · refine kx_istore_n 12 F 3 (lo' := [some (vR G c0), some (vI a1), some (vI a2), some (vI r_26), none]) dX11_includes_11 rfl (by decide) rfl rfl rfl ?_
      refine kx_iload_n 13 F 3 dX11_includes_12 rfl rfl rfl ?_
      refine kx_if_eq 16 F 22 dX11_includes_13 (by decide) rfl (by omega) (fun h_44 => (by exfalso; omega)) (fun h_44 => ?_)
      refine kx_aload_n 17 F 0 dX11_includes_16 rfl rfl rfl ?_
      refine kx_iload_n 18 F 3 dX11_includes_17 rfl rfl rfl ?_
      refine kx_Vi 21 (ci := 0) F (As := [vI r_26]) (st := []) vd_X11_110 (c_X11_refuse G l N_27 c0 r_26 hI_N_27 hk_c0 (by omega)) hk_c0 rfl rfl rfl ⟨by decide, by decide⟩ rfl rfl (Nat.le_of_ble_eq_true rfl) dX11_includes_18 rfl ?_
      intro r_45 N_46 q_47
      obtain ⟨hI_N_46, hG_N_46, q_47c⟩ := q_47
      have hF_N_46 : Fr f_c_X11_includes M N_46 := Fr.c hF_N_27 hG_N_46 rfl
      have hX_N_46 : XX N_46 := XX.fr hX_N_27 hI_N_27 hG_N_46 rfl
      subst q_47c
      exact kx_iret F hQ ⟨hI_N_46, hF_N_46, (by omega), hX_N_46⟩ dX11_includes_21
theorem dX11_equal_0 : decode cX11_equal 0 = .ok (.aload_n 0, 1) := by decide +kernel
theorem dX11_equal_1 : decode cX11_equal 1 = .ok (.aload_n 0, 1) := by decide +kernel
theorem dX11_equal_2 : decode cX11_equal 2 = .ok (.iload_n 1, 1) := by decide +kernel
theorem dX11_equal_3 : decode cX11_equal 3 = .ok (.iload_n 2, 1) := by decide +kernel
theorem dX11_equal_4 : decode cX11_equal 4 = .ok (.invokevirtual 219, 3) := by decide +kernel
theorem dX11_equal_7 : decode cX11_equal 7 = .ok (.iload_n 2, 1) := by decide +kernel
theorem dX11_equal_8 : decode cX11_equal 8 = .ok (.invokevirtual 327, 3) := by decide +kernel
theorem dX11_equal_11 : decode cX11_equal 11 = .ok (.istore_n 3, 1) := by decide +kernel
theorem dX11_equal_12 : decode cX11_equal 12 = .ok (.iload_n 3, 1) := by decide +kernel
theorem dX11_equal_13 : decode cX11_equal 13 = .ok (.ifCond .ne 10, 3) := by decide +kernel
theorem dX11_equal_16 : decode cX11_equal 16 = .ok (.aload_n 0, 1) := by decide +kernel
theorem dX11_equal_17 : decode cX11_equal 17 = .ok (.iconst 1, 1) := by decide +kernel
theorem dX11_equal_18 : decode cX11_equal 18 = .ok (.iload_n 1, 1) := by decide +kernel
theorem dX11_equal_19 : decode cX11_equal 19 = .ok (.invokevirtual 327, 3) := by decide +kernel
theorem dX11_equal_22 : decode cX11_equal 22 = .ok (.istore_n 3, 1) := by decide +kernel
theorem dX11_equal_23 : decode cX11_equal 23 = .ok (.iload_n 3, 1) := by decide +kernel
theorem dX11_equal_24 : decode cX11_equal 24 = .ok (.ifCond .eq 9, 3) := by decide +kernel
theorem dX11_equal_27 : decode cX11_equal 27 = .ok (.aload_n 0, 1) := by decide +kernel
theorem dX11_equal_28 : decode cX11_equal 28 = .ok (.iload_n 3, 1) := by decide +kernel
theorem dX11_equal_29 : decode cX11_equal 29 = .ok (.invokevirtual 110, 3) := by decide +kernel
theorem dX11_equal_32 : decode cX11_equal 32 = .ok (.ireturn, 1) := by decide +kernel
theorem dX11_equal_33 : decode cX11_equal 33 = .ok (.aload_n 0, 1) := by decide +kernel
theorem dX11_equal_34 : decode cX11_equal 34 = .ok (.getfield 47, 3) := by decide +kernel
theorem dX11_equal_37 : decode cX11_equal 37 = .ok (.aload_n 0, 1) := by decide +kernel
theorem dX11_equal_38 : decode cX11_equal 38 = .ok (.getfield 26, 3) := by decide +kernel
theorem dX11_equal_41 : decode cX11_equal 41 = .ok (.iconst 2, 1) := by decide +kernel
theorem dX11_equal_42 : decode cX11_equal 42 = .ok (.iload_n 1, 1) := by decide +kernel
theorem dX11_equal_43 : decode cX11_equal 43 = .ok (.iload_n 2, 1) := by decide +kernel
theorem dX11_equal_44 : decode cX11_equal 44 = .ok (.invokevirtual 317, 3) := by decide +kernel
theorem dX11_equal_47 : decode cX11_equal 47 = .ok (.istore 4, 2) := by decide +kernel
theorem dX11_equal_49 : decode cX11_equal 49 = .ok (.aload_n 0, 1) := by decide +kernel
theorem dX11_equal_50 : decode cX11_equal 50 = .ok (.getfield 47, 3) := by decide +kernel
theorem dX11_equal_53 : decode cX11_equal 53 = .ok (.aload_n 0, 1) := by decide +kernel
theorem dX11_equal_54 : decode cX11_equal 54 = .ok (.getfield 26, 3) := by decide +kernel
theorem dX11_equal_57 : decode cX11_equal 57 = .ok (.iconst 2, 1) := by decide +kernel
theorem dX11_equal_58 : decode cX11_equal 58 = .ok (.iload_n 2, 1) := by decide +kernel
theorem dX11_equal_59 : decode cX11_equal 59 = .ok (.iload_n 1, 1) := by decide +kernel
theorem dX11_equal_60 : decode cX11_equal 60 = .ok (.invokevirtual 317, 3) := by decide +kernel
theorem dX11_equal_63 : decode cX11_equal 63 = .ok (.istore 5, 2) := by decide +kernel
theorem dX11_equal_65 : decode cX11_equal 65 = .ok (.aload_n 0, 1) := by decide +kernel
theorem dX11_equal_66 : decode cX11_equal 66 = .ok (.aload_n 0, 1) := by decide +kernel
theorem dX11_equal_67 : decode cX11_equal 67 = .ok (.getfield 47, 3) := by decide +kernel
theorem dX11_equal_70 : decode cX11_equal 70 = .ok (.getfield 331, 3) := by decide +kernel
theorem dX11_equal_73 : decode cX11_equal 73 = .ok (.iload 4, 2) := by decide +kernel
theorem dX11_equal_75 : decode cX11_equal 75 = .ok (.iaload, 1) := by decide +kernel
theorem dX11_equal_76 : decode cX11_equal 76 = .ok (.iconst (-1), 1) := by decide +kernel
theorem dX11_equal_77 : decode cX11_equal 77 = .ok (.if_icmp .ne 21, 3) := by decide +kernel
theorem dX11_equal_80 : decode cX11_equal 80 = .ok (.aload_n 0, 1) := by decide +kernel
theorem dX11_equal_81 : decode cX11_equal 81 = .ok (.getfield 47, 3) := by decide +kernel
theorem dX11_equal_84 : decode cX11_equal 84 = .ok (.getfield 331, 3) := by decide +kernel
theorem dX11_equal_87 : decode cX11_equal 87 = .ok (.iload 5, 2) := by decide +kernel
theorem dX11_equal_89 : decode cX11_equal 89 = .ok (.iaload, 1) := by decide +kernel
theorem dX11_equal_90 : decode cX11_equal 90 = .ok (.iconst (-1), 1) := by decide +kernel
theorem dX11_equal_91 : decode cX11_equal 91 = .ok (.if_icmp .ne 7, 3) := by decide +kernel
theorem dX11_equal_94 : decode cX11_equal 94 = .ok (.iconst 1, 1) := by decide +kernel
theorem dX11_equal_95 : decode cX11_equal 95 = .ok (.goto 4, 3) := by decide +kernel
theorem dX11_equal_98 : decode cX11_equal 98 = .ok (.iconst 0, 1) := by decide +kernel
theorem dX11_equal_99 : decode cX11_equal 99 = .ok (.invokevirtual 145, 3) := by decide +kernel
theorem dX11_equal_102 : decode cX11_equal 102 = .ok (.ireturn, 1) := by decide +kernel
abbrev f_c_X11_equal : List (Nat × Int) := [(21, 0), (21, 1), (22, -1), (23, -1), (24, -1), (25, -1), (26, 0), (27, -1), (28, -1), (29, -1), (30, -1), (31, 0), (32, -1), (33, -1), (34, -1), (35, -1), (36, 0), (37, -1), (38, -1), (39, -1), (40, -1), (41, 2), (41, 3), (41, 4), (41, 5), (41, 7), (41, 8), (41, 9), (41, 13), (42, -1), (43, -1), (44, -1), (45, -1), (46, -1), (62, 0)]
set_option maxHeartbeats 4000000 in
set_option maxRecDepth 100000 in
theorem c_X11_equal (G : KG) (l : Launch) (M : Mem) (c0 : Int) (a1 : Int) (a2 : Int) (hI_M : Inv false M) (hk_c0 : kd c0 = 62) (hpre : -2147483648 ≤ a1 ∧ a1 ≤ 2147483647 ∧ -2147483648 ≤ a2 ∧ a2 ≤ 2147483647) (hX_M : XX M) : KC false G l yX11_equal cX11_equal 6 (some .int) (7, 173) [vR G c0, vI a1, vI a2] M (fun A => kQi false G A (fun (r : Int) (N : Mem) => Inv false N ∧ Fr f_c_X11_equal M N ∧ (r ≥ -1 ∧ r ≤ 1) ∧ XX N)) := by
  refine kx_met (lo := [some (vR G c0), some (vI a1), some (vI a2), none, none, none]) (by decide) (Nat.le_of_ble_eq_true rfl) rfl ?_
  intro X F hQ
  have hF_M : Fr f_c_X11_equal M M := Fr.rf _ _
  refine kx_aload_n 1 F 0 dX11_equal_0 rfl rfl rfl ?_
  refine kx_aload_n 2 F 0 dX11_equal_1 rfl rfl rfl ?_
  refine kx_iload_n 3 F 1 dX11_equal_2 rfl rfl rfl ?_
  refine kx_iload_n 4 F 2 dX11_equal_3 rfl rfl rfl ?_
  refine kx_Vi 7 (ci := 0) F (As := [vI a1, vI a2]) (st := [vR G c0]) vd_X11_219 (c_X11_areTwo G l M c0 a1 a2 hI_M hk_c0 (by omega)) hk_c0 rfl rfl rfl ⟨by decide, by decide⟩ rfl rfl (Nat.le_of_ble_eq_true rfl) dX11_equal_4 rfl ?_
  intro r_1 N_2 q_3
  obtain ⟨rfl, q_3c⟩ := q_3
  rcases q_3c with q_3c | q_3c
  · refine kx_iload_n 8 F 2 dX11_equal_7 rfl rfl rfl ?_
    refine kx_Vi 11 (ci := 0) F (As := [vI r_1, vI a2]) (st := []) vd_X11_327 (c_X11_tableRefusal G l M c0 r_1 a2 hI_M hk_c0 (by omega) hX_M) hk_c0 rfl rfl rfl ⟨by decide, by decide⟩ rfl rfl (Nat.le_of_ble_eq_true rfl) dX11_equal_8 rfl ?_
    intro r_4 N_5 q_6
    obtain ⟨hI_N_5, hG_N_5, q_6c, hX_N_5⟩ := q_6
    have hF_N_5 : Fr f_c_X11_equal M N_5 := Fr.c hF_M hG_N_5 rfl
    rcases q_6c with q_6c | q_6c
    · refine kx_istore_n 12 F 3 (lo' := [some (vR G c0), some (vI a1), some (vI a2), some (vI r_4), none, none]) dX11_equal_11 rfl (by decide) rfl rfl rfl ?_
      refine kx_iload_n 13 F 3 dX11_equal_12 rfl rfl rfl ?_
      have J_13 : ∀ (x3_11 : Int) (N_12 : Mem), Inv false N_12 → Fr f_c_X11_equal M N_12 → XX N_12 → 0 ≤ x3_11 ∧ x3_11 ≤ 7 → KJ false G X N_12 23 [some (vR G c0), some (vI a1), some (vI a2), some (vI x3_11), none, none] [] := by
        intro x3_11 N_12 hI_N_12 hF_N_12 hX_N_12 h_14
        refine kx_iload_n 24 F 3 dX11_equal_23 rfl rfl rfl ?_
        refine kx_if_eq 27 F 33 dX11_equal_24 (by decide) rfl (by omega) (fun h_15 => ?_) (fun h_15 => ?_)
        · refine kx_aload_n 34 F 0 dX11_equal_33 rfl rfl rfl ?_
          refine kx_getr 37 F fl_X11_47 hk_c0 rfl rfl (j := 10) rfl dX11_equal_34 (v := (M c0 10)) (by rw [Fr.e hF_N_12 hk_c0 _ rfl]) rfl ?_
          have hk_16 : kd (M c0 10) = 41 := Inv.r hI_M hk_c0 rfl 10 rfl rfl
          refine kx_aload_n 38 F 0 dX11_equal_37 rfl rfl rfl ?_
          refine kx_getr 41 F fl_X11_26 hk_c0 rfl rfl (j := 5) rfl dX11_equal_38 (v := (M c0 5)) (by rw [Fr.e hF_N_12 hk_c0 _ rfl]) rfl ?_
          have hk_17 : kd (M c0 5) = 12 := Inv.r hI_M hk_c0 rfl 5 rfl rfl
          refine kx_iconst 42 F dX11_equal_41 rfl ?_
          refine kx_iload_n 43 F 1 dX11_equal_42 rfl rfl rfl ?_
          refine kx_iload_n 44 F 2 dX11_equal_43 rfl rfl rfl ?_
          refine kx_Vi 47 (ci := 0) F (As := [vR G (M c0 5), vI 2, vI a1, vI a2]) (st := []) vd_X11_317 (c_X4_slotOf G l N_12 (M c0 10) (M c0 5) 2 a1 a2 hI_N_12 hk_16 hk_17 (by omega) hX_N_12) hk_16 rfl rfl rfl ⟨by decide, by decide⟩ rfl rfl (Nat.le_of_ble_eq_true rfl) dX11_equal_44 rfl ?_
          intro r_18 N_19 q_20
          obtain ⟨hI_N_19, hG_N_19, q_20c, hX_N_19⟩ := q_20
          have hF_N_19 : Fr f_c_X11_equal M N_19 := Fr.c hF_N_12 hG_N_19 rfl
          refine kx_istore 49 F 4 (lo' := [some (vR G c0), some (vI a1), some (vI a2), some (vI x3_11), some (vI r_18), none]) dX11_equal_47 (by decide) rfl rfl rfl ?_
          refine kx_aload_n 50 F 0 dX11_equal_49 rfl rfl rfl ?_
          refine kx_getr 53 F fl_X11_47 hk_c0 rfl rfl (j := 10) rfl dX11_equal_50 (v := (M c0 10)) (by rw [Fr.e hG_N_19 hk_c0 _ rfl, Fr.e hF_N_12 hk_c0 _ rfl]) rfl ?_
          refine kx_aload_n 54 F 0 dX11_equal_53 rfl rfl rfl ?_
          refine kx_getr 57 F fl_X11_26 hk_c0 rfl rfl (j := 5) rfl dX11_equal_54 (v := (M c0 5)) (by rw [Fr.e hG_N_19 hk_c0 _ rfl, Fr.e hF_N_12 hk_c0 _ rfl]) rfl ?_
          refine kx_iconst 58 F dX11_equal_57 rfl ?_
          refine kx_iload_n 59 F 2 dX11_equal_58 rfl rfl rfl ?_
          refine kx_iload_n 60 F 1 dX11_equal_59 rfl rfl rfl ?_
          refine kx_Vi 63 (ci := 0) F (As := [vR G (M c0 5), vI 2, vI a2, vI a1]) (st := []) vd_X11_317 (c_X4_slotOf G l N_19 (M c0 10) (M c0 5) 2 a2 a1 hI_N_19 hk_16 hk_17 (by omega) hX_N_19) hk_16 rfl rfl rfl ⟨by decide, by decide⟩ rfl rfl (Nat.le_of_ble_eq_true rfl) dX11_equal_60 rfl ?_
          intro r_21 N_22 q_23
          obtain ⟨hI_N_22, hG_N_22, q_23c, hX_N_22⟩ := q_23
          have hF_N_22 : Fr f_c_X11_equal M N_22 := Fr.c hF_N_19 hG_N_22 rfl
          refine kx_istore 65 F 5 (lo' := [some (vR G c0), some (vI a1), some (vI a2), some (vI x3_11), some (vI r_18), some (vI r_21)]) dX11_equal_63 (by decide) rfl rfl rfl ?_
          refine kx_aload_n 66 F 0 dX11_equal_65 rfl rfl rfl ?_
          refine kx_aload_n 67 F 0 dX11_equal_66 rfl rfl rfl ?_
          refine kx_getr 70 F fl_X11_47 hk_c0 rfl rfl (j := 10) rfl dX11_equal_67 (v := (M c0 10)) (by rw [Fr.e hG_N_22 hk_c0 _ rfl, Fr.e hG_N_19 hk_c0 _ rfl, Fr.e hF_N_12 hk_c0 _ rfl]) rfl ?_
          refine kx_getr 73 F fl_X11_331 hk_16 rfl rfl (j := 0) rfl dX11_equal_70 (v := (M (M c0 10) 0)) (by rw [Fr.e hG_N_22 hk_16 _ rfl, Fr.e hG_N_19 hk_16 _ rfl, Fr.e hF_N_12 hk_16 _ rfl]) rfl ?_
          have hk_24 : kd (M (M c0 10) 0) = 42 := Inv.r hI_M hk_16 rfl 0 rfl rfl
          refine kx_iload 75 F 4 dX11_equal_73 rfl rfl ?_
          refine kx_iald 76 F hk_24 rfl rfl (by omega) (by decide) dX11_equal_75 (v := (N_22 (M (M c0 10) 0) r_18)) rfl rfl ?_
          have h_25 := Inv.g hI_N_22 hk_24 rfl r_18 (a := (-1)) (b := 1000000000) rfl rfl
          refine kx_iconst 77 F dX11_equal_76 rfl ?_
          refine kx_icmp_ne 80 F 98 dX11_equal_77 (by decide) rfl (by omega) (by decide) (fun h_26 => ?_) (fun h_26 => ?_)
          · refine kx_iconst 99 F dX11_equal_98 rfl ?_
            refine kx_Vi 102 (ci := 0) F (As := [vI 0]) (st := []) vd_X11_145 (c_X11_answer G l N_22 c0 0 hI_N_22 hk_c0 (by omega)) hk_c0 rfl rfl rfl ⟨by decide, by decide⟩ rfl rfl (Nat.le_of_ble_eq_true rfl) dX11_equal_99 rfl ?_
            intro r_27 N_28 q_29
            obtain ⟨hI_N_28, hG_N_28, q_29c⟩ := q_29
            have hF_N_28 : Fr f_c_X11_equal M N_28 := Fr.c hF_N_22 hG_N_28 rfl
            have hX_N_28 : XX N_28 := XX.fr hX_N_22 hI_N_22 hG_N_28 rfl
            exact kx_iret F hQ ⟨hI_N_28, hF_N_28, (by omega), hX_N_28⟩ dX11_equal_102
          · refine kx_aload_n 81 F 0 dX11_equal_80 rfl rfl rfl ?_
            refine kx_getr 84 F fl_X11_47 hk_c0 rfl rfl (j := 10) rfl dX11_equal_81 (v := (M c0 10)) (by rw [Fr.e hG_N_22 hk_c0 _ rfl, Fr.e hG_N_19 hk_c0 _ rfl, Fr.e hF_N_12 hk_c0 _ rfl]) rfl ?_
            refine kx_getr 87 F fl_X11_331 hk_16 rfl rfl (j := 0) rfl dX11_equal_84 (v := (M (M c0 10) 0)) (by rw [Fr.e hG_N_22 hk_16 _ rfl, Fr.e hG_N_19 hk_16 _ rfl, Fr.e hF_N_12 hk_16 _ rfl]) rfl ?_
            refine kx_iload 89 F 5 dX11_equal_87 rfl rfl ?_
            refine kx_iald 90 F hk_24 rfl rfl (by omega) (by decide) dX11_equal_89 (v := (N_22 (M (M c0 10) 0) r_21)) rfl rfl ?_
            have h_30 := Inv.g hI_N_22 hk_24 rfl r_21 (a := (-1)) (b := 1000000000) rfl rfl
            refine kx_iconst 91 F dX11_equal_90 rfl ?_
            refine kx_icmp_ne 94 F 98 dX11_equal_91 (by decide) rfl (by omega) (by decide) (fun h_31 => ?_) (fun h_31 => ?_)
            · refine kx_iconst 99 F dX11_equal_98 rfl ?_
              refine kx_Vi 102 (ci := 0) F (As := [vI 0]) (st := []) vd_X11_145 (c_X11_answer G l N_22 c0 0 hI_N_22 hk_c0 (by omega)) hk_c0 rfl rfl rfl ⟨by decide, by decide⟩ rfl rfl (Nat.le_of_ble_eq_true rfl) dX11_equal_99 rfl ?_
              intro r_32 N_33 q_34
              obtain ⟨hI_N_33, hG_N_33, q_34c⟩ := q_34
              have hF_N_33 : Fr f_c_X11_equal M N_33 := Fr.c hF_N_22 hG_N_33 rfl
              have hX_N_33 : XX N_33 := XX.fr hX_N_22 hI_N_22 hG_N_33 rfl
              exact kx_iret F hQ ⟨hI_N_33, hF_N_33, (by omega), hX_N_33⟩ dX11_equal_102
            · refine kx_iconst 95 F dX11_equal_94 rfl ?_
              refine kx_goto 99 F dX11_equal_95 (by decide) ?_
              refine kx_Vi 102 (ci := 0) F (As := [vI 1]) (st := []) vd_X11_145 (c_X11_answer G l N_22 c0 1 hI_N_22 hk_c0 (by omega)) hk_c0 rfl rfl rfl ⟨by decide, by decide⟩ rfl rfl (Nat.le_of_ble_eq_true rfl) dX11_equal_99 rfl ?_
              intro r_35 N_36 q_37
              obtain ⟨hI_N_36, hG_N_36, q_37c⟩ := q_37
              have hF_N_36 : Fr f_c_X11_equal M N_36 := Fr.c hF_N_22 hG_N_36 rfl
              have hX_N_36 : XX N_36 := XX.fr hX_N_22 hI_N_22 hG_N_36 rfl
              exact kx_iret F hQ ⟨hI_N_36, hF_N_36, (by omega), hX_N_36⟩ dX11_equal_102
        · refine kx_aload_n 28 F 0 dX11_equal_27 rfl rfl rfl ?_
          refine kx_iload_n 29 F 3 dX11_equal_28 rfl rfl rfl ?_
          refine kx_Vi 32 (ci := 0) F (As := [vI x3_11]) (st := []) vd_X11_110 (c_X11_refuse G l N_12 c0 x3_11 hI_N_12 hk_c0 (by omega)) hk_c0 rfl rfl rfl ⟨by decide, by decide⟩ rfl rfl (Nat.le_of_ble_eq_true rfl) dX11_equal_29 rfl ?_
          intro r_38 N_39 q_40
          obtain ⟨hI_N_39, hG_N_39, q_40c⟩ := q_40
          have hF_N_39 : Fr f_c_X11_equal M N_39 := Fr.c hF_N_12 hG_N_39 rfl
          have hX_N_39 : XX N_39 := XX.fr hX_N_12 hI_N_12 hG_N_39 rfl
          subst q_40c
          exact kx_iret F hQ ⟨hI_N_39, hF_N_39, (by omega), hX_N_39⟩ dX11_equal_32
      refine kx_if_ne 16 F 23 dX11_equal_13 (by decide) rfl (by omega) (fun h_41 => (by exfalso; omega)) (fun h_41 => ?_)
      refine kx_aload_n 17 F 0 dX11_equal_16 rfl rfl rfl ?_
      refine kx_iconst 18 F dX11_equal_17 rfl ?_
      refine kx_iload_n 19 F 1 dX11_equal_18 rfl rfl rfl ?_
      refine kx_Vi 22 (ci := 0) F (As := [vI 1, vI a1]) (st := []) vd_X11_327 (c_X11_tableRefusal G l N_5 c0 1 a1 hI_N_5 hk_c0 (by omega) hX_N_5) hk_c0 rfl rfl rfl ⟨by decide, by decide⟩ rfl rfl (Nat.le_of_ble_eq_true rfl) dX11_equal_19 rfl ?_
      intro r_42 N_43 q_44
      obtain ⟨hI_N_43, hG_N_43, q_44c, hX_N_43⟩ := q_44
      have hF_N_43 : Fr f_c_X11_equal M N_43 := Fr.c hF_N_5 hG_N_43 rfl
      rcases q_44c with q_44c | q_44c
      · refine kx_istore_n 23 F 3 (lo' := [some (vR G c0), some (vI a1), some (vI a2), some (vI r_42), none, none]) dX11_equal_22 rfl (by decide) rfl rfl rfl ?_
        exact J_13 r_42 N_43 hI_N_43 hF_N_43 hX_N_43 (by omega)
      · refine kx_istore_n 23 F 3 (lo' := [some (vR G c0), some (vI a1), some (vI a2), some (vI r_42), none, none]) dX11_equal_22 rfl (by decide) rfl rfl rfl ?_
        exact J_13 r_42 N_43 hI_N_43 hF_N_43 hX_N_43 (by omega)
    · refine kx_istore_n 12 F 3 (lo' := [some (vR G c0), some (vI a1), some (vI a2), some (vI r_4), none, none]) dX11_equal_11 rfl (by decide) rfl rfl rfl ?_
      refine kx_iload_n 13 F 3 dX11_equal_12 rfl rfl rfl ?_
      have J_48 : ∀ (x3_46 : Int) (N_47 : Mem), Inv false N_47 → Fr f_c_X11_equal M N_47 → XX N_47 → 1 ≤ x3_46 ∧ x3_46 ≤ 7 → KJ false G X N_47 23 [some (vR G c0), some (vI a1), some (vI a2), some (vI x3_46), none, none] [] := by
        intro x3_46 N_47 hI_N_47 hF_N_47 hX_N_47 h_49
        refine kx_iload_n 24 F 3 dX11_equal_23 rfl rfl rfl ?_
        refine kx_if_eq 27 F 33 dX11_equal_24 (by decide) rfl (by omega) (fun h_50 => (by exfalso; omega)) (fun h_50 => ?_)
        refine kx_aload_n 28 F 0 dX11_equal_27 rfl rfl rfl ?_
        refine kx_iload_n 29 F 3 dX11_equal_28 rfl rfl rfl ?_
        refine kx_Vi 32 (ci := 0) F (As := [vI x3_46]) (st := []) vd_X11_110 (c_X11_refuse G l N_47 c0 x3_46 hI_N_47 hk_c0 (by omega)) hk_c0 rfl rfl rfl ⟨by decide, by decide⟩ rfl rfl (Nat.le_of_ble_eq_true rfl) dX11_equal_29 rfl ?_
        intro r_51 N_52 q_53
        obtain ⟨hI_N_52, hG_N_52, q_53c⟩ := q_53
        have hF_N_52 : Fr f_c_X11_equal M N_52 := Fr.c hF_N_47 hG_N_52 rfl
        have hX_N_52 : XX N_52 := XX.fr hX_N_47 hI_N_47 hG_N_52 rfl
        subst q_53c
        exact kx_iret F hQ ⟨hI_N_52, hF_N_52, (by omega), hX_N_52⟩ dX11_equal_32
      refine kx_if_ne 16 F 23 dX11_equal_13 (by decide) rfl (by omega) (fun h_54 => ?_) (fun h_54 => (by exfalso; omega))
      exact J_48 r_4 N_5 hI_N_5 hF_N_5 hX_N_5 (by omega)
  · refine kx_iload_n 8 F 2 dX11_equal_7 rfl rfl rfl ?_
    refine kx_Vi 11 (ci := 0) F (As := [vI r_1, vI a2]) (st := []) vd_X11_327 (c_X11_tableRefusal G l M c0 r_1 a2 hI_M hk_c0 (by omega) hX_M) hk_c0 rfl rfl rfl ⟨by decide, by decide⟩ rfl rfl (Nat.le_of_ble_eq_true rfl) dX11_equal_8 rfl ?_
    intro r_55 N_56 q_57
    obtain ⟨hI_N_56, hG_N_56, q_57c, hX_N_56⟩ := q_57
    have hF_N_56 : Fr f_c_X11_equal M N_56 := Fr.c hF_M hG_N_56 rfl
    rcases q_57c with q_57c | q_57c
    · refine kx_istore_n 12 F 3 (lo' := [some (vR G c0), some (vI a1), some (vI a2), some (vI r_55), none, none]) dX11_equal_11 rfl (by decide) rfl rfl rfl ?_
      refine kx_iload_n 13 F 3 dX11_equal_12 rfl rfl rfl ?_
      have J_64 : ∀ (x3_62 : Int) (N_63 : Mem), Inv false N_63 → Fr f_c_X11_equal M N_63 → XX N_63 → 0 ≤ x3_62 ∧ x3_62 ≤ 7 → KJ false G X N_63 23 [some (vR G c0), some (vI a1), some (vI a2), some (vI x3_62), none, none] [] := by
        intro x3_62 N_63 hI_N_63 hF_N_63 hX_N_63 h_65
        refine kx_iload_n 24 F 3 dX11_equal_23 rfl rfl rfl ?_
        refine kx_if_eq 27 F 33 dX11_equal_24 (by decide) rfl (by omega) (fun h_66 => ?_) (fun h_66 => ?_)
        · refine kx_aload_n 34 F 0 dX11_equal_33 rfl rfl rfl ?_
          refine kx_getr 37 F fl_X11_47 hk_c0 rfl rfl (j := 10) rfl dX11_equal_34 (v := (M c0 10)) (by rw [Fr.e hF_N_63 hk_c0 _ rfl]) rfl ?_
          have hk_67 : kd (M c0 10) = 41 := Inv.r hI_M hk_c0 rfl 10 rfl rfl
          refine kx_aload_n 38 F 0 dX11_equal_37 rfl rfl rfl ?_
          refine kx_getr 41 F fl_X11_26 hk_c0 rfl rfl (j := 5) rfl dX11_equal_38 (v := (M c0 5)) (by rw [Fr.e hF_N_63 hk_c0 _ rfl]) rfl ?_
          have hk_68 : kd (M c0 5) = 12 := Inv.r hI_M hk_c0 rfl 5 rfl rfl
          refine kx_iconst 42 F dX11_equal_41 rfl ?_
          refine kx_iload_n 43 F 1 dX11_equal_42 rfl rfl rfl ?_
          refine kx_iload_n 44 F 2 dX11_equal_43 rfl rfl rfl ?_
          refine kx_Vi 47 (ci := 0) F (As := [vR G (M c0 5), vI 2, vI a1, vI a2]) (st := []) vd_X11_317 (c_X4_slotOf G l N_63 (M c0 10) (M c0 5) 2 a1 a2 hI_N_63 hk_67 hk_68 (by omega) hX_N_63) hk_67 rfl rfl rfl ⟨by decide, by decide⟩ rfl rfl (Nat.le_of_ble_eq_true rfl) dX11_equal_44 rfl ?_
          intro r_69 N_70 q_71
          obtain ⟨hI_N_70, hG_N_70, q_71c, hX_N_70⟩ := q_71
          have hF_N_70 : Fr f_c_X11_equal M N_70 := Fr.c hF_N_63 hG_N_70 rfl
          refine kx_istore 49 F 4 (lo' := [some (vR G c0), some (vI a1), some (vI a2), some (vI x3_62), some (vI r_69), none]) dX11_equal_47 (by decide) rfl rfl rfl ?_
          refine kx_aload_n 50 F 0 dX11_equal_49 rfl rfl rfl ?_
          refine kx_getr 53 F fl_X11_47 hk_c0 rfl rfl (j := 10) rfl dX11_equal_50 (v := (M c0 10)) (by rw [Fr.e hG_N_70 hk_c0 _ rfl, Fr.e hF_N_63 hk_c0 _ rfl]) rfl ?_
          refine kx_aload_n 54 F 0 dX11_equal_53 rfl rfl rfl ?_
          refine kx_getr 57 F fl_X11_26 hk_c0 rfl rfl (j := 5) rfl dX11_equal_54 (v := (M c0 5)) (by rw [Fr.e hG_N_70 hk_c0 _ rfl, Fr.e hF_N_63 hk_c0 _ rfl]) rfl ?_
          refine kx_iconst 58 F dX11_equal_57 rfl ?_
          refine kx_iload_n 59 F 2 dX11_equal_58 rfl rfl rfl ?_
          refine kx_iload_n 60 F 1 dX11_equal_59 rfl rfl rfl ?_
          refine kx_Vi 63 (ci := 0) F (As := [vR G (M c0 5), vI 2, vI a2, vI a1]) (st := []) vd_X11_317 (c_X4_slotOf G l N_70 (M c0 10) (M c0 5) 2 a2 a1 hI_N_70 hk_67 hk_68 (by omega) hX_N_70) hk_67 rfl rfl rfl ⟨by decide, by decide⟩ rfl rfl (Nat.le_of_ble_eq_true rfl) dX11_equal_60 rfl ?_
          intro r_72 N_73 q_74
          obtain ⟨hI_N_73, hG_N_73, q_74c, hX_N_73⟩ := q_74
          have hF_N_73 : Fr f_c_X11_equal M N_73 := Fr.c hF_N_70 hG_N_73 rfl
          refine kx_istore 65 F 5 (lo' := [some (vR G c0), some (vI a1), some (vI a2), some (vI x3_62), some (vI r_69), some (vI r_72)]) dX11_equal_63 (by decide) rfl rfl rfl ?_
          refine kx_aload_n 66 F 0 dX11_equal_65 rfl rfl rfl ?_
          refine kx_aload_n 67 F 0 dX11_equal_66 rfl rfl rfl ?_
          refine kx_getr 70 F fl_X11_47 hk_c0 rfl rfl (j := 10) rfl dX11_equal_67 (v := (M c0 10)) (by rw [Fr.e hG_N_73 hk_c0 _ rfl, Fr.e hG_N_70 hk_c0 _ rfl, Fr.e hF_N_63 hk_c0 _ rfl]) rfl ?_
          refine kx_getr 73 F fl_X11_331 hk_67 rfl rfl (j := 0) rfl dX11_equal_70 (v := (M (M c0 10) 0)) (by rw [Fr.e hG_N_73 hk_67 _ rfl, Fr.e hG_N_70 hk_67 _ rfl, Fr.e hF_N_63 hk_67 _ rfl]) rfl ?_
          have hk_75 : kd (M (M c0 10) 0) = 42 := Inv.r hI_M hk_67 rfl 0 rfl rfl
          refine kx_iload 75 F 4 dX11_equal_73 rfl rfl ?_
          refine kx_iald 76 F hk_75 rfl rfl (by omega) (by decide) dX11_equal_75 (v := (N_73 (M (M c0 10) 0) r_69)) rfl rfl ?_
          have h_76 := Inv.g hI_N_73 hk_75 rfl r_69 (a := (-1)) (b := 1000000000) rfl rfl
          refine kx_iconst 77 F dX11_equal_76 rfl ?_
          refine kx_icmp_ne 80 F 98 dX11_equal_77 (by decide) rfl (by omega) (by decide) (fun h_77 => ?_) (fun h_77 => ?_)
          · refine kx_iconst 99 F dX11_equal_98 rfl ?_
            refine kx_Vi 102 (ci := 0) F (As := [vI 0]) (st := []) vd_X11_145 (c_X11_answer G l N_73 c0 0 hI_N_73 hk_c0 (by omega)) hk_c0 rfl rfl rfl ⟨by decide, by decide⟩ rfl rfl (Nat.le_of_ble_eq_true rfl) dX11_equal_99 rfl ?_
            intro r_78 N_79 q_80
            obtain ⟨hI_N_79, hG_N_79, q_80c⟩ := q_80
            have hF_N_79 : Fr f_c_X11_equal M N_79 := Fr.c hF_N_73 hG_N_79 rfl
            have hX_N_79 : XX N_79 := XX.fr hX_N_73 hI_N_73 hG_N_79 rfl
            exact kx_iret F hQ ⟨hI_N_79, hF_N_79, (by omega), hX_N_79⟩ dX11_equal_102
          · refine kx_aload_n 81 F 0 dX11_equal_80 rfl rfl rfl ?_
            refine kx_getr 84 F fl_X11_47 hk_c0 rfl rfl (j := 10) rfl dX11_equal_81 (v := (M c0 10)) (by rw [Fr.e hG_N_73 hk_c0 _ rfl, Fr.e hG_N_70 hk_c0 _ rfl, Fr.e hF_N_63 hk_c0 _ rfl]) rfl ?_
            refine kx_getr 87 F fl_X11_331 hk_67 rfl rfl (j := 0) rfl dX11_equal_84 (v := (M (M c0 10) 0)) (by rw [Fr.e hG_N_73 hk_67 _ rfl, Fr.e hG_N_70 hk_67 _ rfl, Fr.e hF_N_63 hk_67 _ rfl]) rfl ?_
            refine kx_iload 89 F 5 dX11_equal_87 rfl rfl ?_
            refine kx_iald 90 F hk_75 rfl rfl (by omega) (by decide) dX11_equal_89 (v := (N_73 (M (M c0 10) 0) r_72)) rfl rfl ?_
            have h_81 := Inv.g hI_N_73 hk_75 rfl r_72 (a := (-1)) (b := 1000000000) rfl rfl
            refine kx_iconst 91 F dX11_equal_90 rfl ?_
            refine kx_icmp_ne 94 F 98 dX11_equal_91 (by decide) rfl (by omega) (by decide) (fun h_82 => ?_) (fun h_82 => ?_)
            · refine kx_iconst 99 F dX11_equal_98 rfl ?_
              refine kx_Vi 102 (ci := 0) F (As := [vI 0]) (st := []) vd_X11_145 (c_X11_answer G l N_73 c0 0 hI_N_73 hk_c0 (by omega)) hk_c0 rfl rfl rfl ⟨by decide, by decide⟩ rfl rfl (Nat.le_of_ble_eq_true rfl) dX11_equal_99 rfl ?_
              intro r_83 N_84 q_85
              obtain ⟨hI_N_84, hG_N_84, q_85c⟩ := q_85
              have hF_N_84 : Fr f_c_X11_equal M N_84 := Fr.c hF_N_73 hG_N_84 rfl
              have hX_N_84 : XX N_84 := XX.fr hX_N_73 hI_N_73 hG_N_84 rfl
              exact kx_iret F hQ ⟨hI_N_84, hF_N_84, (by omega), hX_N_84⟩ dX11_equal_102
            · refine kx_iconst 95 F dX11_equal_94 rfl ?_
              refine kx_goto 99 F dX11_equal_95 (by decide) ?_
              refine kx_Vi 102 (ci := 0) F (As := [vI 1]) (st := []) vd_X11_145 (c_X11_answer G l N_73 c0 1 hI_N_73 hk_c0 (by omega)) hk_c0 rfl rfl rfl ⟨by decide, by decide⟩ rfl rfl (Nat.le_of_ble_eq_true rfl) dX11_equal_99 rfl ?_
              intro r_86 N_87 q_88
              obtain ⟨hI_N_87, hG_N_87, q_88c⟩ := q_88
              have hF_N_87 : Fr f_c_X11_equal M N_87 := Fr.c hF_N_73 hG_N_87 rfl
              have hX_N_87 : XX N_87 := XX.fr hX_N_73 hI_N_73 hG_N_87 rfl
              exact kx_iret F hQ ⟨hI_N_87, hF_N_87, (by omega), hX_N_87⟩ dX11_equal_102
        · refine kx_aload_n 28 F 0 dX11_equal_27 rfl rfl rfl ?_
          refine kx_iload_n 29 F 3 dX11_equal_28 rfl rfl rfl ?_
          refine kx_Vi 32 (ci := 0) F (As := [vI x3_62]) (st := []) vd_X11_110 (c_X11_refuse G l N_63 c0 x3_62 hI_N_63 hk_c0 (by omega)) hk_c0 rfl rfl rfl ⟨by decide, by decide⟩ rfl rfl (Nat.le_of_ble_eq_true rfl) dX11_equal_29 rfl ?_
          intro r_89 N_90 q_91
          obtain ⟨hI_N_90, hG_N_90, q_91c⟩ := q_91
          have hF_N_90 : Fr f_c_X11_equal M N_90 := Fr.c hF_N_63 hG_N_90 rfl
          have hX_N_90 : XX N_90 := XX.fr hX_N_63 hI_N_63 hG_N_90 rfl
          subst q_91c
          exact kx_iret F hQ ⟨hI_N_90, hF_N_90, (by omega), hX_N_90⟩ dX11_equal_32
      refine kx_if_ne 16 F 23 dX11_equal_13 (by decide) rfl (by omega) (fun h_92 => (by exfalso; omega)) (fun h_92 => ?_)
      refine kx_aload_n 17 F 0 dX11_equal_16 rfl rfl rfl ?_
      refine kx_iconst 18 F dX11_equal_17 rfl ?_
      refine kx_iload_n 19 F 1 dX11_equal_18 rfl rfl rfl ?_
      refine kx_Vi 22 (ci := 0) F (As := [vI 1, vI a1]) (st := []) vd_X11_327 (c_X11_tableRefusal G l N_56 c0 1 a1 hI_N_56 hk_c0 (by omega) hX_N_56) hk_c0 rfl rfl rfl ⟨by decide, by decide⟩ rfl rfl (Nat.le_of_ble_eq_true rfl) dX11_equal_19 rfl ?_
      intro r_93 N_94 q_95
      obtain ⟨hI_N_94, hG_N_94, q_95c, hX_N_94⟩ := q_95
      have hF_N_94 : Fr f_c_X11_equal M N_94 := Fr.c hF_N_56 hG_N_94 rfl
      rcases q_95c with q_95c | q_95c
      · refine kx_istore_n 23 F 3 (lo' := [some (vR G c0), some (vI a1), some (vI a2), some (vI r_93), none, none]) dX11_equal_22 rfl (by decide) rfl rfl rfl ?_
        exact J_64 r_93 N_94 hI_N_94 hF_N_94 hX_N_94 (by omega)
      · refine kx_istore_n 23 F 3 (lo' := [some (vR G c0), some (vI a1), some (vI a2), some (vI r_93), none, none]) dX11_equal_22 rfl (by decide) rfl rfl rfl ?_
        exact J_64 r_93 N_94 hI_N_94 hF_N_94 hX_N_94 (by omega)
    · refine kx_istore_n 12 F 3 (lo' := [some (vR G c0), some (vI a1), some (vI a2), some (vI r_55), none, none]) dX11_equal_11 rfl (by decide) rfl rfl rfl ?_
      refine kx_iload_n 13 F 3 dX11_equal_12 rfl rfl rfl ?_
      have J_99 : ∀ (x3_97 : Int) (N_98 : Mem), Inv false N_98 → Fr f_c_X11_equal M N_98 → XX N_98 → 1 ≤ x3_97 ∧ x3_97 ≤ 7 → KJ false G X N_98 23 [some (vR G c0), some (vI a1), some (vI a2), some (vI x3_97), none, none] [] := by
        intro x3_97 N_98 hI_N_98 hF_N_98 hX_N_98 h_100
        refine kx_iload_n 24 F 3 dX11_equal_23 rfl rfl rfl ?_
        refine kx_if_eq 27 F 33 dX11_equal_24 (by decide) rfl (by omega) (fun h_101 => (by exfalso; omega)) (fun h_101 => ?_)
        refine kx_aload_n 28 F 0 dX11_equal_27 rfl rfl rfl ?_
        refine kx_iload_n 29 F 3 dX11_equal_28 rfl rfl rfl ?_
        refine kx_Vi 32 (ci := 0) F (As := [vI x3_97]) (st := []) vd_X11_110 (c_X11_refuse G l N_98 c0 x3_97 hI_N_98 hk_c0 (by omega)) hk_c0 rfl rfl rfl ⟨by decide, by decide⟩ rfl rfl (Nat.le_of_ble_eq_true rfl) dX11_equal_29 rfl ?_
        intro r_102 N_103 q_104
        obtain ⟨hI_N_103, hG_N_103, q_104c⟩ := q_104
        have hF_N_103 : Fr f_c_X11_equal M N_103 := Fr.c hF_N_98 hG_N_103 rfl
        have hX_N_103 : XX N_103 := XX.fr hX_N_98 hI_N_98 hG_N_103 rfl
        subst q_104c
        exact kx_iret F hQ ⟨hI_N_103, hF_N_103, (by omega), hX_N_103⟩ dX11_equal_32
      refine kx_if_ne 16 F 23 dX11_equal_13 (by decide) rfl (by omega) (fun h_105 => ?_) (fun h_105 => (by exfalso; omega))
      exact J_99 r_55 N_56 hI_N_56 hF_N_56 hX_N_56 (by omega)
theorem dX11_count_0 : decode cX11_count 0 = .ok (.aload_n 0, 1) := by decide +kernel
theorem dX11_count_1 : decode cX11_count 1 = .ok (.getfield 26, 3) := by decide +kernel
theorem dX11_count_4 : decode cX11_count 4 = .ok (.iload_n 1, 1) := by decide +kernel
theorem dX11_count_5 : decode cX11_count 5 = .ok (.invokevirtual 163, 3) := by decide +kernel
theorem dX11_count_8 : decode cX11_count 8 = .ok (.ifCond .eq 13, 3) := by decide +kernel
theorem dX11_count_11 : decode cX11_count 11 = .ok (.iload_n 2, 1) := by decide +kernel
theorem dX11_count_12 : decode cX11_count 12 = .ok (.iconst 0, 1) := by decide +kernel
theorem dX11_count_13 : decode cX11_count 13 = .ok (.bipush 6, 2) := by decide +kernel
theorem dX11_count_15 : decode cX11_count 15 = .ok (.invokestatic 87, 3) := by decide +kernel
theorem dX11_count_18 : decode cX11_count 18 = .ok (.ifCond .ne 9, 3) := by decide +kernel
theorem dX11_count_21 : decode cX11_count 21 = .ok (.aload_n 0, 1) := by decide +kernel
theorem dX11_count_22 : decode cX11_count 22 = .ok (.iconst 1, 1) := by decide +kernel
theorem dX11_count_23 : decode cX11_count 23 = .ok (.invokevirtual 110, 3) := by decide +kernel
theorem dX11_count_26 : decode cX11_count 26 = .ok (.ireturn, 1) := by decide +kernel
theorem dX11_count_27 : decode cX11_count 27 = .ok (.aload_n 0, 1) := by decide +kernel
theorem dX11_count_28 : decode cX11_count 28 = .ok (.getfield 26, 3) := by decide +kernel
theorem dX11_count_31 : decode cX11_count 31 = .ok (.iload_n 1, 1) := by decide +kernel
theorem dX11_count_32 : decode cX11_count 32 = .ok (.invokevirtual 164, 3) := by decide +kernel
theorem dX11_count_35 : decode cX11_count 35 = .ok (.astore_n 3, 1) := by decide +kernel
theorem dX11_count_36 : decode cX11_count 36 = .ok (.aload_n 0, 1) := by decide +kernel
theorem dX11_count_37 : decode cX11_count 37 = .ok (.getfield 54, 3) := by decide +kernel
theorem dX11_count_40 : decode cX11_count 40 = .ok (.aload_n 0, 1) := by decide +kernel
theorem dX11_count_41 : decode cX11_count 41 = .ok (.getfield 26, 3) := by decide +kernel
theorem dX11_count_44 : decode cX11_count 44 = .ok (.aload_n 3, 1) := by decide +kernel
theorem dX11_count_45 : decode cX11_count 45 = .ok (.iload_n 2, 1) := by decide +kernel
theorem dX11_count_46 : decode cX11_count 46 = .ok (.invokevirtual 334, 3) := by decide +kernel
theorem dX11_count_49 : decode cX11_count 49 = .ok (.aload_n 0, 1) := by decide +kernel
theorem dX11_count_50 : decode cX11_count 50 = .ok (.aload_n 0, 1) := by decide +kernel
theorem dX11_count_51 : decode cX11_count 51 = .ok (.getfield 54, 3) := by decide +kernel
theorem dX11_count_54 : decode cX11_count 54 = .ok (.aload_n 3, 1) := by decide +kernel
theorem dX11_count_55 : decode cX11_count 55 = .ok (.iload_n 2, 1) := by decide +kernel
theorem dX11_count_56 : decode cX11_count 56 = .ok (.invokevirtual 338, 3) := by decide +kernel
theorem dX11_count_59 : decode cX11_count 59 = .ok (.invokevirtual 145, 3) := by decide +kernel
theorem dX11_count_62 : decode cX11_count 62 = .ok (.ireturn, 1) := by decide +kernel
abbrev f_c_X11_count : List (Nat × Int) := [(47, 0), (47, 1), (47, 2), (47, 3), (47, 7), (48, -1), (49, -1), (50, -1), (51, -1), (52, -1), (53, -1), (54, -1), (55, -1), (62, 0)]
set_option maxHeartbeats 4000000 in
set_option maxRecDepth 100000 in
theorem c_X11_count (G : KG) (l : Launch) (M : Mem) (c0 : Int) (a1 : Int) (a2 : Int) (hI_M : Inv false M) (hk_c0 : kd c0 = 62) (hpre : -2147483648 ≤ a1 ∧ a1 ≤ 2147483647 ∧ -2147483648 ≤ a2 ∧ a2 ≤ 2147483647) : KC false G l yX11_count cX11_count 4 (some .int) (5, 123) [vR G c0, vI a1, vI a2] M (fun A => kQi false G A (fun (r : Int) (N : Mem) => Inv false N ∧ Fr f_c_X11_count M N ∧ (r ≥ -2147483648 ∧ r ≤ 2147483647))) := by
  refine kx_met (lo := [some (vR G c0), some (vI a1), some (vI a2), none]) (by decide) (Nat.le_of_ble_eq_true rfl) rfl ?_
  intro X F hQ
  have hF_M : Fr f_c_X11_count M M := Fr.rf _ _
  refine kx_aload_n 1 F 0 dX11_count_0 rfl rfl rfl ?_
  refine kx_getr 4 F fl_X11_26 hk_c0 rfl rfl (j := 5) rfl dX11_count_1 (v := (M c0 5)) rfl rfl ?_
  have hk_1 : kd (M c0 5) = 12 := Inv.r hI_M hk_c0 rfl 5 rfl rfl
  refine kx_iload_n 5 F 1 dX11_count_4 rfl rfl rfl ?_
  refine kx_Vi 8 (ci := 0) F (As := [vI a1]) (st := []) vd_X11_163 (c_X5_has G l M (M c0 5) a1 hI_M hk_1 (by omega)) hk_1 rfl rfl rfl ⟨by decide, by decide⟩ rfl rfl (Nat.le_of_ble_eq_true rfl) dX11_count_5 rfl ?_
  intro r_2 N_3 q_4
  obtain ⟨rfl, q_4c⟩ := q_4
  have h_5 := Inv.g hI_M hk_1 rfl 3 (a := 0) (b := 2) rfl rfl
  rcases q_4c with q_4c | q_4c
  · refine kx_if_eq 11 F 21 dX11_count_8 (by decide) rfl (by omega) (fun h_6 => (by exfalso; omega)) (fun h_6 => ?_)
    refine kx_iload_n 12 F 2 dX11_count_11 rfl rfl rfl ?_
    refine kx_iconst 13 F dX11_count_12 rfl ?_
    refine kx_bipush 15 F dX11_count_13 (by decide) rfl ?_
    refine kx_Si 18 F (As := [vI a2, vI 0, vI 6]) (st := []) sd_X11_87 (c_X11_within G l M a2 0 6 hI_M (by omega)) ⟨by decide, by decide⟩ rfl rfl (Nat.le_of_ble_eq_true rfl) dX11_count_15 rfl ?_
    intro r_7 N_8 q_9
    obtain ⟨rfl, q_9c⟩ := q_9
    rcases q_9c with q_9c | q_9c
    · refine kx_if_ne 21 F 27 dX11_count_18 (by decide) rfl (by omega) (fun h_10 => ?_) (fun h_10 => (by exfalso; omega))
      refine kx_aload_n 28 F 0 dX11_count_27 rfl rfl rfl ?_
      refine kx_getr 31 F fl_X11_26 hk_c0 rfl rfl (j := 5) rfl dX11_count_28 (v := (M c0 5)) rfl rfl ?_
      refine kx_iload_n 32 F 1 dX11_count_31 rfl rfl rfl ?_
      refine kx_Vr 35 (ci := 0) F (As := [vI a1]) (st := []) vd_X11_164 (c_X5_pick G l M (M c0 5) a1 hI_M hk_1 (by omega)) hk_1 rfl rfl rfl ⟨by decide, by decide⟩ rfl rfl (Nat.le_of_ble_eq_true rfl) dX11_count_32 rfl ?_
      intro r_11 N_12 q_13
      obtain ⟨rfl, hk_14⟩ := q_13
      refine kx_astore_n 36 F 3 (lo' := [some (vR G c0), some (vI a1), some (vI a2), some (vR G r_11)]) dX11_count_35 rfl (by decide) rfl rfl rfl ?_
      refine kx_aload_n 37 F 0 dX11_count_36 rfl rfl rfl ?_
      refine kx_getr 40 F fl_X11_54 hk_c0 rfl rfl (j := 11) rfl dX11_count_37 (v := (M c0 11)) rfl rfl ?_
      have hk_15 : kd (M c0 11) = 47 := Inv.r hI_M hk_c0 rfl 11 rfl rfl
      refine kx_aload_n 41 F 0 dX11_count_40 rfl rfl rfl ?_
      refine kx_getr 44 F fl_X11_26 hk_c0 rfl rfl (j := 5) rfl dX11_count_41 (v := (M c0 5)) rfl rfl ?_
      refine kx_aload_n 45 F 3 dX11_count_44 rfl rfl rfl ?_
      refine kx_iload_n 46 F 2 dX11_count_45 rfl rfl rfl ?_
      refine kx_Vv 49 (ci := 0) F (As := [vR G (M c0 5), vR G r_11, vI a2]) (st := []) vd_X11_334 (c_X8_reckon G l M (M c0 11) (M c0 5) r_11 a2 hI_M hk_15 hk_1 hk_14 (by omega)) hk_15 rfl rfl rfl ⟨by decide, by decide⟩ rfl rfl (Nat.le_of_ble_eq_true rfl) dX11_count_46 rfl ?_
      intro N_16 q_17
      obtain ⟨hI_N_16, hG_N_16⟩ := q_17
      have hF_N_16 : Fr f_c_X11_count M N_16 := Fr.c hF_M hG_N_16 rfl
      refine kx_aload_n 50 F 0 dX11_count_49 rfl rfl rfl ?_
      refine kx_aload_n 51 F 0 dX11_count_50 rfl rfl rfl ?_
      refine kx_getr 54 F fl_X11_54 hk_c0 rfl rfl (j := 11) rfl dX11_count_51 (v := (M c0 11)) (by rw [Fr.e hG_N_16 hk_c0 _ rfl]) rfl ?_
      refine kx_aload_n 55 F 3 dX11_count_54 rfl rfl rfl ?_
      refine kx_iload_n 56 F 2 dX11_count_55 rfl rfl rfl ?_
      refine kx_Vi 59 (ci := 0) F (As := [vR G r_11, vI a2]) (st := [vR G c0]) vd_X11_338 (c_X8_taken G l N_16 (M c0 11) r_11 a2 hI_N_16 hk_15 hk_14 (by omega)) hk_15 rfl rfl rfl ⟨by decide, by decide⟩ rfl rfl (Nat.le_of_ble_eq_true rfl) dX11_count_56 rfl ?_
      intro r_18 N_19 q_20
      obtain ⟨rfl, q_20c⟩ := q_20
      refine kx_Vi 62 (ci := 0) F (As := [vI r_18]) (st := []) vd_X11_145 (c_X11_answer G l N_16 c0 r_18 hI_N_16 hk_c0 (by omega)) hk_c0 rfl rfl rfl ⟨by decide, by decide⟩ rfl rfl (Nat.le_of_ble_eq_true rfl) dX11_count_59 rfl ?_
      intro r_21 N_22 q_23
      obtain ⟨hI_N_22, hG_N_22, q_23c⟩ := q_23
      have hF_N_22 : Fr f_c_X11_count M N_22 := Fr.c hF_N_16 hG_N_22 rfl
      exact kx_iret F hQ ⟨hI_N_22, hF_N_22, (by omega)⟩ dX11_count_62
    · refine kx_if_ne 21 F 27 dX11_count_18 (by decide) rfl (by omega) (fun h_24 => (by exfalso; omega)) (fun h_24 => ?_)
      refine kx_aload_n 22 F 0 dX11_count_21 rfl rfl rfl ?_
      refine kx_iconst 23 F dX11_count_22 rfl ?_
      refine kx_Vi 26 (ci := 0) F (As := [vI 1]) (st := []) vd_X11_110 (c_X11_refuse G l M c0 1 hI_M hk_c0 (by omega)) hk_c0 rfl rfl rfl ⟨by decide, by decide⟩ rfl rfl (Nat.le_of_ble_eq_true rfl) dX11_count_23 rfl ?_
      intro r_25 N_26 q_27
      obtain ⟨hI_N_26, hG_N_26, q_27c⟩ := q_27
      have hF_N_26 : Fr f_c_X11_count M N_26 := Fr.c hF_M hG_N_26 rfl
      subst q_27c
      exact kx_iret F hQ ⟨hI_N_26, hF_N_26, (by omega)⟩ dX11_count_26
  · refine kx_if_eq 11 F 21 dX11_count_8 (by decide) rfl (by omega) (fun h_28 => ?_) (fun h_28 => (by exfalso; omega))
    refine kx_aload_n 22 F 0 dX11_count_21 rfl rfl rfl ?_
    refine kx_iconst 23 F dX11_count_22 rfl ?_
    refine kx_Vi 26 (ci := 0) F (As := [vI 1]) (st := []) vd_X11_110 (c_X11_refuse G l M c0 1 hI_M hk_c0 (by omega)) hk_c0 rfl rfl rfl ⟨by decide, by decide⟩ rfl rfl (Nat.le_of_ble_eq_true rfl) dX11_count_23 rfl ?_
    intro r_29 N_30 q_31
    obtain ⟨hI_N_30, hG_N_30, q_31c⟩ := q_31
    have hF_N_30 : Fr f_c_X11_count M N_30 := Fr.c hF_M hG_N_30 rfl
    subst q_31c
    exact kx_iret F hQ ⟨hI_N_30, hF_N_30, (by omega)⟩ dX11_count_26
theorem dX11_share_0 : decode cX11_share 0 = .ok (.aload_n 0, 1) := by decide +kernel
theorem dX11_share_1 : decode cX11_share 1 = .ok (.getfield 26, 3) := by decide +kernel
theorem dX11_share_4 : decode cX11_share 4 = .ok (.iload_n 1, 1) := by decide +kernel
theorem dX11_share_5 : decode cX11_share 5 = .ok (.invokevirtual 163, 3) := by decide +kernel
theorem dX11_share_8 : decode cX11_share 8 = .ok (.ifCond .eq 13, 3) := by decide +kernel
theorem dX11_share_11 : decode cX11_share 11 = .ok (.iload_n 2, 1) := by decide +kernel
theorem dX11_share_12 : decode cX11_share 12 = .ok (.iconst 0, 1) := by decide +kernel
theorem dX11_share_13 : decode cX11_share 13 = .ok (.bipush 6, 2) := by decide +kernel
theorem dX11_share_15 : decode cX11_share 15 = .ok (.invokestatic 87, 3) := by decide +kernel
theorem dX11_share_18 : decode cX11_share 18 = .ok (.ifCond .ne 9, 3) := by decide +kernel
theorem dX11_share_21 : decode cX11_share 21 = .ok (.aload_n 0, 1) := by decide +kernel
theorem dX11_share_22 : decode cX11_share 22 = .ok (.iconst 1, 1) := by decide +kernel
theorem dX11_share_23 : decode cX11_share 23 = .ok (.invokevirtual 91, 3) := by decide +kernel
theorem dX11_share_26 : decode cX11_share 26 = .ok (.ireturn, 1) := by decide +kernel
theorem dX11_share_27 : decode cX11_share 27 = .ok (.aload_n 0, 1) := by decide +kernel
theorem dX11_share_28 : decode cX11_share 28 = .ok (.getfield 26, 3) := by decide +kernel
theorem dX11_share_31 : decode cX11_share 31 = .ok (.getfield 160, 3) := by decide +kernel
theorem dX11_share_34 : decode cX11_share 34 = .ok (.ifCond .ne 14, 3) := by decide +kernel
theorem dX11_share_37 : decode cX11_share 37 = .ok (.iload_n 2, 1) := by decide +kernel
theorem dX11_share_38 : decode cX11_share 38 = .ok (.ifCond .le 10, 3) := by decide +kernel
theorem dX11_share_41 : decode cX11_share 41 = .ok (.aload_n 0, 1) := by decide +kernel
theorem dX11_share_42 : decode cX11_share 42 = .ok (.bipush 6, 2) := by decide +kernel
theorem dX11_share_44 : decode cX11_share 44 = .ok (.invokevirtual 91, 3) := by decide +kernel
theorem dX11_share_47 : decode cX11_share 47 = .ok (.ireturn, 1) := by decide +kernel
theorem dX11_share_48 : decode cX11_share 48 = .ok (.aload_n 0, 1) := by decide +kernel
theorem dX11_share_49 : decode cX11_share 49 = .ok (.getfield 26, 3) := by decide +kernel
theorem dX11_share_52 : decode cX11_share 52 = .ok (.iload_n 1, 1) := by decide +kernel
theorem dX11_share_53 : decode cX11_share 53 = .ok (.invokevirtual 164, 3) := by decide +kernel
theorem dX11_share_56 : decode cX11_share 56 = .ok (.astore_n 3, 1) := by decide +kernel
theorem dX11_share_57 : decode cX11_share 57 = .ok (.aload_n 0, 1) := by decide +kernel
theorem dX11_share_58 : decode cX11_share 58 = .ok (.getfield 54, 3) := by decide +kernel
theorem dX11_share_61 : decode cX11_share 61 = .ok (.aload_n 0, 1) := by decide +kernel
theorem dX11_share_62 : decode cX11_share 62 = .ok (.getfield 26, 3) := by decide +kernel
theorem dX11_share_65 : decode cX11_share 65 = .ok (.aload_n 3, 1) := by decide +kernel
theorem dX11_share_66 : decode cX11_share 66 = .ok (.iload_n 2, 1) := by decide +kernel
theorem dX11_share_67 : decode cX11_share 67 = .ok (.invokevirtual 334, 3) := by decide +kernel
theorem dX11_share_70 : decode cX11_share 70 = .ok (.aload_n 0, 1) := by decide +kernel
theorem dX11_share_71 : decode cX11_share 71 = .ok (.aload_n 0, 1) := by decide +kernel
theorem dX11_share_72 : decode cX11_share 72 = .ok (.getfield 54, 3) := by decide +kernel
theorem dX11_share_75 : decode cX11_share 75 = .ok (.aload_n 3, 1) := by decide +kernel
theorem dX11_share_76 : decode cX11_share 76 = .ok (.iload_n 2, 1) := by decide +kernel
theorem dX11_share_77 : decode cX11_share 77 = .ok (.invokevirtual 338, 3) := by decide +kernel
theorem dX11_share_80 : decode cX11_share 80 = .ok (.i2l, 1) := by decide +kernel
theorem dX11_share_81 : decode cX11_share 81 = .ok (.aload_n 0, 1) := by decide +kernel
theorem dX11_share_82 : decode cX11_share 82 = .ok (.getfield 26, 3) := by decide +kernel
theorem dX11_share_85 : decode cX11_share 85 = .ok (.getfield 160, 3) := by decide +kernel
theorem dX11_share_88 : decode cX11_share 88 = .ok (.iload_n 2, 1) := by decide +kernel
theorem dX11_share_89 : decode cX11_share 89 = .ok (.invokestatic 342, 3) := by decide +kernel
theorem dX11_share_92 : decode cX11_share 92 = .ok (.i2l, 1) := by decide +kernel
theorem dX11_share_93 : decode cX11_share 93 = .ok (.invokevirtual 252, 3) := by decide +kernel
theorem dX11_share_96 : decode cX11_share 96 = .ok (.aload_n 0, 1) := by decide +kernel
theorem dX11_share_97 : decode cX11_share 97 = .ok (.invokevirtual 98, 3) := by decide +kernel
theorem dX11_share_100 : decode cX11_share 100 = .ok (.ireturn, 1) := by decide +kernel
abbrev f_c_X11_share : List (Nat × Int) := [(47, 0), (47, 1), (47, 2), (47, 3), (47, 7), (48, -1), (49, -1), (50, -1), (51, -1), (52, -1), (53, -1), (54, -1), (55, -1), (62, 0), (62, 1), (62, 2)]
set_option maxHeartbeats 4000000 in
set_option maxRecDepth 100000 in
theorem c_X11_share (G : KG) (l : Launch) (M : Mem) (c0 : Int) (a1 : Int) (a2 : Int) (hI_M : Inv false M) (hk_c0 : kd c0 = 62) (hpre : -2147483648 ≤ a1 ∧ a1 ≤ 2147483647 ∧ -2147483648 ≤ a2 ∧ a2 ≤ 2147483647) : KC false G l yX11_share cX11_share 4 (some .boolean) (5, 123) [vR G c0, vI a1, vI a2] M (fun A => kQi false G A (fun (r : Int) (N : Mem) => Inv false N ∧ Fr f_c_X11_share M N ∧ (0 ≤ r ∧ r ≤ 1))) := by
  refine kx_met (lo := [some (vR G c0), some (vI a1), some (vI a2), none]) (by decide) (Nat.le_of_ble_eq_true rfl) rfl ?_
  intro X F hQ
  have hF_M : Fr f_c_X11_share M M := Fr.rf _ _
  refine kx_aload_n 1 F 0 dX11_share_0 rfl rfl rfl ?_
  refine kx_getr 4 F fl_X11_26 hk_c0 rfl rfl (j := 5) rfl dX11_share_1 (v := (M c0 5)) rfl rfl ?_
  have hk_1 : kd (M c0 5) = 12 := Inv.r hI_M hk_c0 rfl 5 rfl rfl
  refine kx_iload_n 5 F 1 dX11_share_4 rfl rfl rfl ?_
  refine kx_Vi 8 (ci := 0) F (As := [vI a1]) (st := []) vd_X11_163 (c_X5_has G l M (M c0 5) a1 hI_M hk_1 (by omega)) hk_1 rfl rfl rfl ⟨by decide, by decide⟩ rfl rfl (Nat.le_of_ble_eq_true rfl) dX11_share_5 rfl ?_
  intro r_2 N_3 q_4
  obtain ⟨rfl, q_4c⟩ := q_4
  have h_5 := Inv.g hI_M hk_1 rfl 3 (a := 0) (b := 2) rfl rfl
  rcases q_4c with q_4c | q_4c
  · refine kx_if_eq 11 F 21 dX11_share_8 (by decide) rfl (by omega) (fun h_6 => (by exfalso; omega)) (fun h_6 => ?_)
    refine kx_iload_n 12 F 2 dX11_share_11 rfl rfl rfl ?_
    refine kx_iconst 13 F dX11_share_12 rfl ?_
    refine kx_bipush 15 F dX11_share_13 (by decide) rfl ?_
    refine kx_Si 18 F (As := [vI a2, vI 0, vI 6]) (st := []) sd_X11_87 (c_X11_within G l M a2 0 6 hI_M (by omega)) ⟨by decide, by decide⟩ rfl rfl (Nat.le_of_ble_eq_true rfl) dX11_share_15 rfl ?_
    intro r_7 N_8 q_9
    obtain ⟨rfl, q_9c⟩ := q_9
    rcases q_9c with q_9c | q_9c
    · refine kx_if_ne 21 F 27 dX11_share_18 (by decide) rfl (by omega) (fun h_10 => ?_) (fun h_10 => (by exfalso; omega))
      refine kx_aload_n 28 F 0 dX11_share_27 rfl rfl rfl ?_
      refine kx_getr 31 F fl_X11_26 hk_c0 rfl rfl (j := 5) rfl dX11_share_28 (v := (M c0 5)) rfl rfl ?_
      refine kx_geti 34 F fl_X11_160 hk_1 rfl rfl (j := 2) rfl dX11_share_31 (v := (M (M c0 5) 2)) rfl rfl ?_
      have h_11 := Inv.g hI_M hk_1 rfl 2 (a := 0) (b := 6) rfl rfl
      have J_17 : KJ false G X M 48 [some (vR G c0), some (vI a1), some (vI a2), none] [] := by
        refine kx_aload_n 49 F 0 dX11_share_48 rfl rfl rfl ?_
        refine kx_getr 52 F fl_X11_26 hk_c0 rfl rfl (j := 5) rfl dX11_share_49 (v := (M c0 5)) rfl rfl ?_
        refine kx_iload_n 53 F 1 dX11_share_52 rfl rfl rfl ?_
        refine kx_Vr 56 (ci := 0) F (As := [vI a1]) (st := []) vd_X11_164 (c_X5_pick G l M (M c0 5) a1 hI_M hk_1 (by omega)) hk_1 rfl rfl rfl ⟨by decide, by decide⟩ rfl rfl (Nat.le_of_ble_eq_true rfl) dX11_share_53 rfl ?_
        intro r_19 N_20 q_21
        obtain ⟨rfl, hk_22⟩ := q_21
        refine kx_astore_n 57 F 3 (lo' := [some (vR G c0), some (vI a1), some (vI a2), some (vR G r_19)]) dX11_share_56 rfl (by decide) rfl rfl rfl ?_
        refine kx_aload_n 58 F 0 dX11_share_57 rfl rfl rfl ?_
        refine kx_getr 61 F fl_X11_54 hk_c0 rfl rfl (j := 11) rfl dX11_share_58 (v := (M c0 11)) rfl rfl ?_
        have hk_23 : kd (M c0 11) = 47 := Inv.r hI_M hk_c0 rfl 11 rfl rfl
        refine kx_aload_n 62 F 0 dX11_share_61 rfl rfl rfl ?_
        refine kx_getr 65 F fl_X11_26 hk_c0 rfl rfl (j := 5) rfl dX11_share_62 (v := (M c0 5)) rfl rfl ?_
        refine kx_aload_n 66 F 3 dX11_share_65 rfl rfl rfl ?_
        refine kx_iload_n 67 F 2 dX11_share_66 rfl rfl rfl ?_
        refine kx_Vv 70 (ci := 0) F (As := [vR G (M c0 5), vR G r_19, vI a2]) (st := []) vd_X11_334 (c_X8_reckon G l M (M c0 11) (M c0 5) r_19 a2 hI_M hk_23 hk_1 hk_22 (by omega)) hk_23 rfl rfl rfl ⟨by decide, by decide⟩ rfl rfl (Nat.le_of_ble_eq_true rfl) dX11_share_67 rfl ?_
        intro N_24 q_25
        obtain ⟨hI_N_24, hG_N_24⟩ := q_25
        have hF_N_24 : Fr f_c_X11_share M N_24 := Fr.c hF_M hG_N_24 rfl
        refine kx_aload_n 71 F 0 dX11_share_70 rfl rfl rfl ?_
        refine kx_aload_n 72 F 0 dX11_share_71 rfl rfl rfl ?_
        refine kx_getr 75 F fl_X11_54 hk_c0 rfl rfl (j := 11) rfl dX11_share_72 (v := (M c0 11)) (by rw [Fr.e hG_N_24 hk_c0 _ rfl]) rfl ?_
        refine kx_aload_n 76 F 3 dX11_share_75 rfl rfl rfl ?_
        refine kx_iload_n 77 F 2 dX11_share_76 rfl rfl rfl ?_
        refine kx_Vi 80 (ci := 0) F (As := [vR G r_19, vI a2]) (st := [vR G c0]) vd_X11_338 (c_X8_taken G l N_24 (M c0 11) r_19 a2 hI_N_24 hk_23 hk_22 (by omega)) hk_23 rfl rfl rfl ⟨by decide, by decide⟩ rfl rfl (Nat.le_of_ble_eq_true rfl) dX11_share_77 rfl ?_
        intro r_26 N_27 q_28
        obtain ⟨rfl, q_28c⟩ := q_28
        refine kx_i2l 81 F dX11_share_80 (by omega) rfl ?_
        refine kx_aload_n 82 F 0 dX11_share_81 rfl rfl rfl ?_
        refine kx_getr 85 F fl_X11_26 hk_c0 rfl rfl (j := 5) rfl dX11_share_82 (v := (M c0 5)) (by rw [Fr.e hG_N_24 hk_c0 _ rfl]) rfl ?_
        refine kx_geti 88 F fl_X11_160 hk_1 rfl rfl (j := 2) rfl dX11_share_85 (v := (M (M c0 5) 2)) (by rw [Fr.e hG_N_24 hk_1 _ rfl]) rfl ?_
        refine kx_iload_n 89 F 2 dX11_share_88 rfl rfl rfl ?_
        refine kx_Si 92 F (As := [vI (M (M c0 5) 2), vI a2]) (st := [vL r_26, vR G c0]) sd_X11_342 (c_X2_power G l N_24 (M (M c0 5) 2) a2 hI_N_24 (by omega)) ⟨by decide, by decide⟩ rfl rfl (Nat.le_of_ble_eq_true rfl) dX11_share_89 rfl ?_
        intro r_29 N_30 q_31
        obtain ⟨rfl, q_31c⟩ := q_31
        refine kx_i2l 93 F dX11_share_92 (by omega) rfl ?_
        refine kx_Vv 96 (ci := 0) F (As := [vL r_26, vL r_29]) (st := []) vd_X11_252 (c_X11_tellFraction G l N_24 c0 r_26 r_29 hI_N_24 hk_c0 (by omega)) hk_c0 rfl rfl rfl ⟨by decide, by decide⟩ rfl rfl (Nat.le_of_ble_eq_true rfl) dX11_share_93 rfl ?_
        intro N_32 q_33
        obtain ⟨hI_N_32, hG_N_32⟩ := q_33
        have hF_N_32 : Fr f_c_X11_share M N_32 := Fr.c hF_N_24 hG_N_32 rfl
        refine kx_aload_n 97 F 0 dX11_share_96 rfl rfl rfl ?_
        refine kx_Vi 100 (ci := 0) F (As := []) (st := []) vd_X11_98 (c_X11_agree G l N_32 c0 hI_N_32 hk_c0) hk_c0 rfl rfl rfl ⟨by decide, by decide⟩ rfl rfl (Nat.le_of_ble_eq_true rfl) dX11_share_97 rfl ?_
        intro r_34 N_35 q_36
        obtain ⟨hI_N_35, hG_N_35, q_36c⟩ := q_36
        have hF_N_35 : Fr f_c_X11_share M N_35 := Fr.c hF_N_32 hG_N_35 rfl
        subst q_36c
        exact kx_zret F hQ (by omega) ⟨hI_N_35, hF_N_35, (by omega)⟩ dX11_share_100
      refine kx_if_ne 37 F 48 dX11_share_34 (by decide) rfl (by omega) (fun h_37 => ?_) (fun h_37 => ?_)
      · exact J_17
      · refine kx_iload_n 38 F 2 dX11_share_37 rfl rfl rfl ?_
        refine kx_if_le 41 F 48 dX11_share_38 (by decide) rfl (by omega) (fun h_38 => ?_) (fun h_38 => ?_)
        · exact J_17
        · refine kx_aload_n 42 F 0 dX11_share_41 rfl rfl rfl ?_
          refine kx_bipush 44 F dX11_share_42 (by decide) rfl ?_
          refine kx_Vi 47 (ci := 0) F (As := [vI 6]) (st := []) vd_X11_91 (c_X11_deny G l M c0 6 hI_M hk_c0 (by omega)) hk_c0 rfl rfl rfl ⟨by decide, by decide⟩ rfl rfl (Nat.le_of_ble_eq_true rfl) dX11_share_44 rfl ?_
          intro r_39 N_40 q_41
          obtain ⟨hI_N_40, hG_N_40, q_41c⟩ := q_41
          have hF_N_40 : Fr f_c_X11_share M N_40 := Fr.c hF_M hG_N_40 rfl
          subst q_41c
          exact kx_zret F hQ (by omega) ⟨hI_N_40, hF_N_40, (by omega)⟩ dX11_share_47
    · refine kx_if_ne 21 F 27 dX11_share_18 (by decide) rfl (by omega) (fun h_42 => (by exfalso; omega)) (fun h_42 => ?_)
      refine kx_aload_n 22 F 0 dX11_share_21 rfl rfl rfl ?_
      refine kx_iconst 23 F dX11_share_22 rfl ?_
      refine kx_Vi 26 (ci := 0) F (As := [vI 1]) (st := []) vd_X11_91 (c_X11_deny G l M c0 1 hI_M hk_c0 (by omega)) hk_c0 rfl rfl rfl ⟨by decide, by decide⟩ rfl rfl (Nat.le_of_ble_eq_true rfl) dX11_share_23 rfl ?_
      intro r_43 N_44 q_45
      obtain ⟨hI_N_44, hG_N_44, q_45c⟩ := q_45
      have hF_N_44 : Fr f_c_X11_share M N_44 := Fr.c hF_M hG_N_44 rfl
      subst q_45c
      exact kx_zret F hQ (by omega) ⟨hI_N_44, hF_N_44, (by omega)⟩ dX11_share_26
  · refine kx_if_eq 11 F 21 dX11_share_8 (by decide) rfl (by omega) (fun h_46 => ?_) (fun h_46 => (by exfalso; omega))
    refine kx_aload_n 22 F 0 dX11_share_21 rfl rfl rfl ?_
    refine kx_iconst 23 F dX11_share_22 rfl ?_
    refine kx_Vi 26 (ci := 0) F (As := [vI 1]) (st := []) vd_X11_91 (c_X11_deny G l M c0 1 hI_M hk_c0 (by omega)) hk_c0 rfl rfl rfl ⟨by decide, by decide⟩ rfl rfl (Nat.le_of_ble_eq_true rfl) dX11_share_23 rfl ?_
    intro r_47 N_48 q_49
    obtain ⟨hI_N_48, hG_N_48, q_49c⟩ := q_49
    have hF_N_48 : Fr f_c_X11_share M N_48 := Fr.c hF_M hG_N_48 rfl
    subst q_49c
    exact kx_zret F hQ (by omega) ⟨hI_N_48, hF_N_48, (by omega)⟩ dX11_share_26
theorem dX11_lastAt_0 : decode cX11_lastAt 0 = .ok (.aload_n 0, 1) := by decide +kernel
theorem dX11_lastAt_1 : decode cX11_lastAt 1 = .ok (.getfield 26, 3) := by decide +kernel
theorem dX11_lastAt_4 : decode cX11_lastAt 4 = .ok (.iload_n 1, 1) := by decide +kernel
theorem dX11_lastAt_5 : decode cX11_lastAt 5 = .ok (.invokevirtual 163, 3) := by decide +kernel
theorem dX11_lastAt_8 : decode cX11_lastAt 8 = .ok (.ifCond .eq 24, 3) := by decide +kernel
theorem dX11_lastAt_11 : decode cX11_lastAt 11 = .ok (.iload_n 2, 1) := by decide +kernel
theorem dX11_lastAt_12 : decode cX11_lastAt 12 = .ok (.iconst 1, 1) := by decide +kernel
theorem dX11_lastAt_13 : decode cX11_lastAt 13 = .ok (.bipush 6, 2) := by decide +kernel
theorem dX11_lastAt_15 : decode cX11_lastAt 15 = .ok (.invokestatic 87, 3) := by decide +kernel
theorem dX11_lastAt_18 : decode cX11_lastAt 18 = .ok (.ifCond .eq 14, 3) := by decide +kernel
theorem dX11_lastAt_21 : decode cX11_lastAt 21 = .ok (.iload_n 3, 1) := by decide +kernel
theorem dX11_lastAt_22 : decode cX11_lastAt 22 = .ok (.iconst 0, 1) := by decide +kernel
theorem dX11_lastAt_23 : decode cX11_lastAt 23 = .ok (.iload_n 2, 1) := by decide +kernel
theorem dX11_lastAt_24 : decode cX11_lastAt 24 = .ok (.iconst 1, 1) := by decide +kernel
theorem dX11_lastAt_25 : decode cX11_lastAt 25 = .ok (.isub, 1) := by decide +kernel
theorem dX11_lastAt_26 : decode cX11_lastAt 26 = .ok (.invokestatic 87, 3) := by decide +kernel
theorem dX11_lastAt_29 : decode cX11_lastAt 29 = .ok (.ifCond .ne 9, 3) := by decide +kernel
theorem dX11_lastAt_32 : decode cX11_lastAt 32 = .ok (.aload_n 0, 1) := by decide +kernel
theorem dX11_lastAt_33 : decode cX11_lastAt 33 = .ok (.iconst 1, 1) := by decide +kernel
theorem dX11_lastAt_34 : decode cX11_lastAt 34 = .ok (.invokevirtual 110, 3) := by decide +kernel
theorem dX11_lastAt_37 : decode cX11_lastAt 37 = .ok (.ireturn, 1) := by decide +kernel
theorem dX11_lastAt_38 : decode cX11_lastAt 38 = .ok (.aload_n 0, 1) := by decide +kernel
theorem dX11_lastAt_39 : decode cX11_lastAt 39 = .ok (.getfield 26, 3) := by decide +kernel
theorem dX11_lastAt_42 : decode cX11_lastAt 42 = .ok (.iload_n 1, 1) := by decide +kernel
theorem dX11_lastAt_43 : decode cX11_lastAt 43 = .ok (.invokevirtual 164, 3) := by decide +kernel
theorem dX11_lastAt_46 : decode cX11_lastAt 46 = .ok (.astore 4, 2) := by decide +kernel
theorem dX11_lastAt_48 : decode cX11_lastAt 48 = .ok (.aload_n 0, 1) := by decide +kernel
theorem dX11_lastAt_49 : decode cX11_lastAt 49 = .ok (.getfield 54, 3) := by decide +kernel
theorem dX11_lastAt_52 : decode cX11_lastAt 52 = .ok (.aload_n 0, 1) := by decide +kernel
theorem dX11_lastAt_53 : decode cX11_lastAt 53 = .ok (.getfield 26, 3) := by decide +kernel
theorem dX11_lastAt_56 : decode cX11_lastAt 56 = .ok (.aload 4, 2) := by decide +kernel
theorem dX11_lastAt_58 : decode cX11_lastAt 58 = .ok (.iload_n 2, 1) := by decide +kernel
theorem dX11_lastAt_59 : decode cX11_lastAt 59 = .ok (.invokevirtual 334, 3) := by decide +kernel
theorem dX11_lastAt_62 : decode cX11_lastAt 62 = .ok (.aload_n 0, 1) := by decide +kernel
theorem dX11_lastAt_63 : decode cX11_lastAt 63 = .ok (.getfield 54, 3) := by decide +kernel
theorem dX11_lastAt_66 : decode cX11_lastAt 66 = .ok (.aload 4, 2) := by decide +kernel
theorem dX11_lastAt_68 : decode cX11_lastAt 68 = .ok (.iload_n 2, 1) := by decide +kernel
theorem dX11_lastAt_69 : decode cX11_lastAt 69 = .ok (.invokevirtual 345, 3) := by decide +kernel
theorem dX11_lastAt_72 : decode cX11_lastAt 72 = .ok (.istore 5, 2) := by decide +kernel
theorem dX11_lastAt_74 : decode cX11_lastAt 74 = .ok (.iload 5, 2) := by decide +kernel
theorem dX11_lastAt_76 : decode cX11_lastAt 76 = .ok (.iconst (-1), 1) := by decide +kernel
theorem dX11_lastAt_77 : decode cX11_lastAt 77 = .ok (.if_icmp .ne 12, 3) := by decide +kernel
theorem dX11_lastAt_80 : decode cX11_lastAt 80 = .ok (.aload_n 0, 1) := by decide +kernel
theorem dX11_lastAt_81 : decode cX11_lastAt 81 = .ok (.bipush 6, 2) := by decide +kernel
theorem dX11_lastAt_83 : decode cX11_lastAt 83 = .ok (.invokevirtual 110, 3) := by decide +kernel
theorem dX11_lastAt_86 : decode cX11_lastAt 86 = .ok (.goto 24, 3) := by decide +kernel
theorem dX11_lastAt_89 : decode cX11_lastAt 89 = .ok (.aload_n 0, 1) := by decide +kernel
theorem dX11_lastAt_90 : decode cX11_lastAt 90 = .ok (.iload 5, 2) := by decide +kernel
theorem dX11_lastAt_92 : decode cX11_lastAt 92 = .ok (.aload_n 0, 1) := by decide +kernel
theorem dX11_lastAt_93 : decode cX11_lastAt 93 = .ok (.getfield 26, 3) := by decide +kernel
theorem dX11_lastAt_96 : decode cX11_lastAt 96 = .ok (.getfield 160, 3) := by decide +kernel
theorem dX11_lastAt_99 : decode cX11_lastAt 99 = .ok (.iload_n 2, 1) := by decide +kernel
theorem dX11_lastAt_100 : decode cX11_lastAt 100 = .ok (.iconst 1, 1) := by decide +kernel
theorem dX11_lastAt_101 : decode cX11_lastAt 101 = .ok (.isub, 1) := by decide +kernel
theorem dX11_lastAt_102 : decode cX11_lastAt 102 = .ok (.iload_n 3, 1) := by decide +kernel
theorem dX11_lastAt_103 : decode cX11_lastAt 103 = .ok (.isub, 1) := by decide +kernel
theorem dX11_lastAt_104 : decode cX11_lastAt 104 = .ok (.invokestatic 348, 3) := by decide +kernel
theorem dX11_lastAt_107 : decode cX11_lastAt 107 = .ok (.invokevirtual 145, 3) := by decide +kernel
theorem dX11_lastAt_110 : decode cX11_lastAt 110 = .ok (.ireturn, 1) := by decide +kernel
abbrev f_c_X11_lastAt : List (Nat × Int) := [(47, 0), (47, 1), (47, 2), (47, 3), (47, 7), (48, -1), (49, -1), (50, -1), (51, -1), (52, -1), (53, -1), (54, -1), (55, -1), (62, 0)]
set_option maxHeartbeats 4000000 in
set_option maxRecDepth 100000 in
theorem c_X11_lastAt (G : KG) (l : Launch) (M : Mem) (c0 : Int) (a1 : Int) (a2 : Int) (a3 : Int) (hI_M : Inv false M) (hk_c0 : kd c0 = 62) (hpre : -2147483648 ≤ a1 ∧ a1 ≤ 2147483647 ∧ -2147483648 ≤ a2 ∧ a2 ≤ 2147483647 ∧ -2147483648 ≤ a3 ∧ a3 ≤ 2147483647) : KC false G l yX11_lastAt cX11_lastAt 6 (some .int) (5, 123) [vR G c0, vI a1, vI a2, vI a3] M (fun A => kQi false G A (fun (r : Int) (N : Mem) => Inv false N ∧ Fr f_c_X11_lastAt M N ∧ (r ≥ -2147483646 ∧ r ≤ 2147483646))) := by
  refine kx_met (lo := [some (vR G c0), some (vI a1), some (vI a2), some (vI a3), none, none]) (by decide) (Nat.le_of_ble_eq_true rfl) rfl ?_
  intro X F hQ
  have hF_M : Fr f_c_X11_lastAt M M := Fr.rf _ _
  refine kx_aload_n 1 F 0 dX11_lastAt_0 rfl rfl rfl ?_
  refine kx_getr 4 F fl_X11_26 hk_c0 rfl rfl (j := 5) rfl dX11_lastAt_1 (v := (M c0 5)) rfl rfl ?_
  have hk_1 : kd (M c0 5) = 12 := Inv.r hI_M hk_c0 rfl 5 rfl rfl
  refine kx_iload_n 5 F 1 dX11_lastAt_4 rfl rfl rfl ?_
  refine kx_Vi 8 (ci := 0) F (As := [vI a1]) (st := []) vd_X11_163 (c_X5_has G l M (M c0 5) a1 hI_M hk_1 (by omega)) hk_1 rfl rfl rfl ⟨by decide, by decide⟩ rfl rfl (Nat.le_of_ble_eq_true rfl) dX11_lastAt_5 rfl ?_
  intro r_2 N_3 q_4
  obtain ⟨rfl, q_4c⟩ := q_4
  have h_5 := Inv.g hI_M hk_1 rfl 3 (a := 0) (b := 2) rfl rfl
  rcases q_4c with q_4c | q_4c
  · refine kx_if_eq 11 F 32 dX11_lastAt_8 (by decide) rfl (by omega) (fun h_6 => (by exfalso; omega)) (fun h_6 => ?_)
    refine kx_iload_n 12 F 2 dX11_lastAt_11 rfl rfl rfl ?_
    refine kx_iconst 13 F dX11_lastAt_12 rfl ?_
    refine kx_bipush 15 F dX11_lastAt_13 (by decide) rfl ?_
    refine kx_Si 18 F (As := [vI a2, vI 1, vI 6]) (st := []) sd_X11_87 (c_X11_within G l M a2 1 6 hI_M (by omega)) ⟨by decide, by decide⟩ rfl rfl (Nat.le_of_ble_eq_true rfl) dX11_lastAt_15 rfl ?_
    intro r_7 N_8 q_9
    obtain ⟨rfl, q_9c⟩ := q_9
    rcases q_9c with q_9c | q_9c
    · refine kx_if_eq 21 F 32 dX11_lastAt_18 (by decide) rfl (by omega) (fun h_10 => (by exfalso; omega)) (fun h_10 => ?_)
      refine kx_iload_n 22 F 3 dX11_lastAt_21 rfl rfl rfl ?_
      refine kx_iconst 23 F dX11_lastAt_22 rfl ?_
      refine kx_iload_n 24 F 2 dX11_lastAt_23 rfl rfl rfl ?_
      refine kx_iconst 25 F dX11_lastAt_24 rfl ?_
      refine kx_isub 26 F (v := a2 - 1) dX11_lastAt_25 rfl rfl ?_
      refine kx_Si 29 F (As := [vI a3, vI 0, vI (a2 - 1)]) (st := []) sd_X11_87 (c_X11_within G l M a3 0 (a2 - 1) hI_M (by omega)) ⟨by decide, by decide⟩ rfl rfl (Nat.le_of_ble_eq_true rfl) dX11_lastAt_26 rfl ?_
      intro r_11 N_12 q_13
      obtain ⟨rfl, q_13c⟩ := q_13
      rcases q_13c with q_13c | q_13c
      · refine kx_if_ne 32 F 38 dX11_lastAt_29 (by decide) rfl (by omega) (fun h_14 => ?_) (fun h_14 => (by exfalso; omega))
        refine kx_aload_n 39 F 0 dX11_lastAt_38 rfl rfl rfl ?_
        refine kx_getr 42 F fl_X11_26 hk_c0 rfl rfl (j := 5) rfl dX11_lastAt_39 (v := (M c0 5)) rfl rfl ?_
        refine kx_iload_n 43 F 1 dX11_lastAt_42 rfl rfl rfl ?_
        refine kx_Vr 46 (ci := 0) F (As := [vI a1]) (st := []) vd_X11_164 (c_X5_pick G l M (M c0 5) a1 hI_M hk_1 (by omega)) hk_1 rfl rfl rfl ⟨by decide, by decide⟩ rfl rfl (Nat.le_of_ble_eq_true rfl) dX11_lastAt_43 rfl ?_
        intro r_15 N_16 q_17
        obtain ⟨rfl, hk_18⟩ := q_17
        refine kx_astore 48 F 4 (lo' := [some (vR G c0), some (vI a1), some (vI a2), some (vI a3), some (vR G r_15), none]) dX11_lastAt_46 (by decide) rfl rfl rfl ?_
        refine kx_aload_n 49 F 0 dX11_lastAt_48 rfl rfl rfl ?_
        refine kx_getr 52 F fl_X11_54 hk_c0 rfl rfl (j := 11) rfl dX11_lastAt_49 (v := (M c0 11)) rfl rfl ?_
        have hk_19 : kd (M c0 11) = 47 := Inv.r hI_M hk_c0 rfl 11 rfl rfl
        refine kx_aload_n 53 F 0 dX11_lastAt_52 rfl rfl rfl ?_
        refine kx_getr 56 F fl_X11_26 hk_c0 rfl rfl (j := 5) rfl dX11_lastAt_53 (v := (M c0 5)) rfl rfl ?_
        refine kx_aload 58 F 4 dX11_lastAt_56 rfl rfl ?_
        refine kx_iload_n 59 F 2 dX11_lastAt_58 rfl rfl rfl ?_
        refine kx_Vv 62 (ci := 0) F (As := [vR G (M c0 5), vR G r_15, vI a2]) (st := []) vd_X11_334 (c_X8_reckon G l M (M c0 11) (M c0 5) r_15 a2 hI_M hk_19 hk_1 hk_18 (by omega)) hk_19 rfl rfl rfl ⟨by decide, by decide⟩ rfl rfl (Nat.le_of_ble_eq_true rfl) dX11_lastAt_59 rfl ?_
        intro N_20 q_21
        obtain ⟨hI_N_20, hG_N_20⟩ := q_21
        have hF_N_20 : Fr f_c_X11_lastAt M N_20 := Fr.c hF_M hG_N_20 rfl
        refine kx_aload_n 63 F 0 dX11_lastAt_62 rfl rfl rfl ?_
        refine kx_getr 66 F fl_X11_54 hk_c0 rfl rfl (j := 11) rfl dX11_lastAt_63 (v := (M c0 11)) (by rw [Fr.e hG_N_20 hk_c0 _ rfl]) rfl ?_
        refine kx_aload 68 F 4 dX11_lastAt_66 rfl rfl ?_
        refine kx_iload_n 69 F 2 dX11_lastAt_68 rfl rfl rfl ?_
        refine kx_Vi 72 (ci := 0) F (As := [vR G r_15, vI a2]) (st := []) vd_X11_345 (c_X8_lastTaken G l N_20 (M c0 11) r_15 a2 hI_N_20 hk_19 hk_18 (by omega)) hk_19 rfl rfl rfl ⟨by decide, by decide⟩ rfl rfl (Nat.le_of_ble_eq_true rfl) dX11_lastAt_69 rfl ?_
        intro r_22 N_23 q_24
        obtain ⟨rfl, q_24c⟩ := q_24
        refine kx_istore 74 F 5 (lo' := [some (vR G c0), some (vI a1), some (vI a2), some (vI a3), some (vR G r_15), some (vI r_22)]) dX11_lastAt_72 (by decide) rfl rfl rfl ?_
        refine kx_iload 76 F 5 dX11_lastAt_74 rfl rfl ?_
        refine kx_iconst 77 F dX11_lastAt_76 rfl ?_
        refine kx_icmp_ne 80 F 89 dX11_lastAt_77 (by decide) rfl (by omega) (by decide) (fun h_25 => ?_) (fun h_25 => ?_)
        · refine kx_aload_n 90 F 0 dX11_lastAt_89 rfl rfl rfl ?_
          refine kx_iload 92 F 5 dX11_lastAt_90 rfl rfl ?_
          refine kx_aload_n 93 F 0 dX11_lastAt_92 rfl rfl rfl ?_
          refine kx_getr 96 F fl_X11_26 hk_c0 rfl rfl (j := 5) rfl dX11_lastAt_93 (v := (M c0 5)) (by rw [Fr.e hG_N_20 hk_c0 _ rfl]) rfl ?_
          refine kx_geti 99 F fl_X11_160 hk_1 rfl rfl (j := 2) rfl dX11_lastAt_96 (v := (M (M c0 5) 2)) (by rw [Fr.e hG_N_20 hk_1 _ rfl]) rfl ?_
          have h_26 := Inv.g hI_M hk_1 rfl 2 (a := 0) (b := 6) rfl rfl
          refine kx_iload_n 100 F 2 dX11_lastAt_99 rfl rfl rfl ?_
          refine kx_iconst 101 F dX11_lastAt_100 rfl ?_
          refine kx_isub 102 F (v := a2 - 1) dX11_lastAt_101 rfl rfl ?_
          refine kx_iload_n 103 F 3 dX11_lastAt_102 rfl rfl rfl ?_
          refine kx_isub 104 F (v := a2 - a3 - 1) dX11_lastAt_103 (by omega) rfl ?_
          refine kx_Si 107 F (As := [vI r_22, vI (M (M c0 5) 2), vI (a2 - a3 - 1)]) (st := [vR G c0]) sd_X11_348 (c_X2_digit G l N_20 r_22 (M (M c0 5) 2) (a2 - a3 - 1) hI_N_20 (by omega)) ⟨by decide, by decide⟩ rfl rfl (Nat.le_of_ble_eq_true rfl) dX11_lastAt_104 rfl ?_
          intro r_27 N_28 q_29
          obtain ⟨rfl, q_29c⟩ := q_29
          refine kx_Vi 110 (ci := 0) F (As := [vI r_27]) (st := []) vd_X11_145 (c_X11_answer G l N_20 c0 r_27 hI_N_20 hk_c0 (by omega)) hk_c0 rfl rfl rfl ⟨by decide, by decide⟩ rfl rfl (Nat.le_of_ble_eq_true rfl) dX11_lastAt_107 rfl ?_
          intro r_30 N_31 q_32
          obtain ⟨hI_N_31, hG_N_31, q_32c⟩ := q_32
          have hF_N_31 : Fr f_c_X11_lastAt M N_31 := Fr.c hF_N_20 hG_N_31 rfl
          exact kx_iret F hQ ⟨hI_N_31, hF_N_31, (by omega)⟩ dX11_lastAt_110
        · refine kx_aload_n 81 F 0 dX11_lastAt_80 rfl rfl rfl ?_
          refine kx_bipush 83 F dX11_lastAt_81 (by decide) rfl ?_
          refine kx_Vi 86 (ci := 0) F (As := [vI 6]) (st := []) vd_X11_110 (c_X11_refuse G l N_20 c0 6 hI_N_20 hk_c0 (by omega)) hk_c0 rfl rfl rfl ⟨by decide, by decide⟩ rfl rfl (Nat.le_of_ble_eq_true rfl) dX11_lastAt_83 rfl ?_
          intro r_33 N_34 q_35
          obtain ⟨hI_N_34, hG_N_34, q_35c⟩ := q_35
          have hF_N_34 : Fr f_c_X11_lastAt M N_34 := Fr.c hF_N_20 hG_N_34 rfl
          subst q_35c
          refine kx_goto 110 F dX11_lastAt_86 (by decide) ?_
          exact kx_iret F hQ ⟨hI_N_34, hF_N_34, (by omega)⟩ dX11_lastAt_110
      · refine kx_if_ne 32 F 38 dX11_lastAt_29 (by decide) rfl (by omega) (fun h_36 => (by exfalso; omega)) (fun h_36 => ?_)
        refine kx_aload_n 33 F 0 dX11_lastAt_32 rfl rfl rfl ?_
        refine kx_iconst 34 F dX11_lastAt_33 rfl ?_
        refine kx_Vi 37 (ci := 0) F (As := [vI 1]) (st := []) vd_X11_110 (c_X11_refuse G l M c0 1 hI_M hk_c0 (by omega)) hk_c0 rfl rfl rfl ⟨by decide, by decide⟩ rfl rfl (Nat.le_of_ble_eq_true rfl) dX11_lastAt_34 rfl ?_
        intro r_37 N_38 q_39
        obtain ⟨hI_N_38, hG_N_38, q_39c⟩ := q_39
        have hF_N_38 : Fr f_c_X11_lastAt M N_38 := Fr.c hF_M hG_N_38 rfl
        subst q_39c
        exact kx_iret F hQ ⟨hI_N_38, hF_N_38, (by omega)⟩ dX11_lastAt_37
    · refine kx_if_eq 21 F 32 dX11_lastAt_18 (by decide) rfl (by omega) (fun h_40 => ?_) (fun h_40 => (by exfalso; omega))
      refine kx_aload_n 33 F 0 dX11_lastAt_32 rfl rfl rfl ?_
      refine kx_iconst 34 F dX11_lastAt_33 rfl ?_
      refine kx_Vi 37 (ci := 0) F (As := [vI 1]) (st := []) vd_X11_110 (c_X11_refuse G l M c0 1 hI_M hk_c0 (by omega)) hk_c0 rfl rfl rfl ⟨by decide, by decide⟩ rfl rfl (Nat.le_of_ble_eq_true rfl) dX11_lastAt_34 rfl ?_
      intro r_41 N_42 q_43
      obtain ⟨hI_N_42, hG_N_42, q_43c⟩ := q_43
      have hF_N_42 : Fr f_c_X11_lastAt M N_42 := Fr.c hF_M hG_N_42 rfl
      subst q_43c
      exact kx_iret F hQ ⟨hI_N_42, hF_N_42, (by omega)⟩ dX11_lastAt_37
  · refine kx_if_eq 11 F 32 dX11_lastAt_8 (by decide) rfl (by omega) (fun h_44 => ?_) (fun h_44 => (by exfalso; omega))
    refine kx_aload_n 33 F 0 dX11_lastAt_32 rfl rfl rfl ?_
    refine kx_iconst 34 F dX11_lastAt_33 rfl ?_
    refine kx_Vi 37 (ci := 0) F (As := [vI 1]) (st := []) vd_X11_110 (c_X11_refuse G l M c0 1 hI_M hk_c0 (by omega)) hk_c0 rfl rfl rfl ⟨by decide, by decide⟩ rfl rfl (Nat.le_of_ble_eq_true rfl) dX11_lastAt_34 rfl ?_
    intro r_45 N_46 q_47
    obtain ⟨hI_N_46, hG_N_46, q_47c⟩ := q_47
    have hF_N_46 : Fr f_c_X11_lastAt M N_46 := Fr.c hF_M hG_N_46 rfl
    subst q_47c
    exact kx_iret F hQ ⟨hI_N_46, hF_N_46, (by omega)⟩ dX11_lastAt_37
theorem dX11_sample_0 : decode cX11_sample 0 = .ok (.aload_n 0, 1) := by decide +kernel
theorem dX11_sample_1 : decode cX11_sample 1 = .ok (.getfield 10, 3) := by decide +kernel
theorem dX11_sample_4 : decode cX11_sample 4 = .ok (.iload_n 1, 1) := by decide +kernel
theorem dX11_sample_5 : decode cX11_sample 5 = .ok (.invokevirtual 83, 3) := by decide +kernel
theorem dX11_sample_8 : decode cX11_sample 8 = .ok (.ifCond .eq 24, 3) := by decide +kernel
theorem dX11_sample_11 : decode cX11_sample 11 = .ok (.iload_n 2, 1) := by decide +kernel
theorem dX11_sample_12 : decode cX11_sample 12 = .ok (.iconst 0, 1) := by decide +kernel
theorem dX11_sample_13 : decode cX11_sample 13 = .ok (.bipush 20, 2) := by decide +kernel
theorem dX11_sample_15 : decode cX11_sample 15 = .ok (.invokestatic 87, 3) := by decide +kernel
theorem dX11_sample_18 : decode cX11_sample 18 = .ok (.ifCond .eq 14, 3) := by decide +kernel
theorem dX11_sample_21 : decode cX11_sample 21 = .ok (.iload_n 3, 1) := by decide +kernel
theorem dX11_sample_22 : decode cX11_sample 22 = .ok (.iconst 0, 1) := by decide +kernel
theorem dX11_sample_23 : decode cX11_sample 23 = .ok (.sipush 9999, 3) := by decide +kernel
theorem dX11_sample_26 : decode cX11_sample 26 = .ok (.invokestatic 87, 3) := by decide +kernel
theorem dX11_sample_29 : decode cX11_sample 29 = .ok (.ifCond .ne 9, 3) := by decide +kernel
theorem dX11_sample_32 : decode cX11_sample 32 = .ok (.aload_n 0, 1) := by decide +kernel
theorem dX11_sample_33 : decode cX11_sample 33 = .ok (.iconst 1, 1) := by decide +kernel
theorem dX11_sample_34 : decode cX11_sample 34 = .ok (.invokevirtual 91, 3) := by decide +kernel
theorem dX11_sample_37 : decode cX11_sample 37 = .ok (.ireturn, 1) := by decide +kernel
theorem dX11_sample_38 : decode cX11_sample 38 = .ok (.aload_n 0, 1) := by decide +kernel
theorem dX11_sample_39 : decode cX11_sample 39 = .ok (.getfield 10, 3) := by decide +kernel
theorem dX11_sample_42 : decode cX11_sample 42 = .ok (.iload_n 1, 1) := by decide +kernel
theorem dX11_sample_43 : decode cX11_sample 43 = .ok (.invokevirtual 351, 3) := by decide +kernel
theorem dX11_sample_46 : decode cX11_sample 46 = .ok (.ifCond .eq 9, 3) := by decide +kernel
theorem dX11_sample_49 : decode cX11_sample 49 = .ok (.aload_n 0, 1) := by decide +kernel
theorem dX11_sample_50 : decode cX11_sample 50 = .ok (.iconst 2, 1) := by decide +kernel
theorem dX11_sample_51 : decode cX11_sample 51 = .ok (.invokevirtual 91, 3) := by decide +kernel
theorem dX11_sample_54 : decode cX11_sample 54 = .ok (.ireturn, 1) := by decide +kernel
theorem dX11_sample_55 : decode cX11_sample 55 = .ok (.iload_n 2, 1) := by decide +kernel
theorem dX11_sample_56 : decode cX11_sample 56 = .ok (.aload_n 0, 1) := by decide +kernel
theorem dX11_sample_57 : decode cX11_sample 57 = .ok (.getfield 10, 3) := by decide +kernel
theorem dX11_sample_60 : decode cX11_sample 60 = .ok (.iload_n 1, 1) := by decide +kernel
theorem dX11_sample_61 : decode cX11_sample 61 = .ok (.invokevirtual 354, 3) := by decide +kernel
theorem dX11_sample_64 : decode cX11_sample 64 = .ok (.if_icmp .le 9, 3) := by decide +kernel
theorem dX11_sample_67 : decode cX11_sample 67 = .ok (.aload_n 0, 1) := by decide +kernel
theorem dX11_sample_68 : decode cX11_sample 68 = .ok (.iconst 3, 1) := by decide +kernel
theorem dX11_sample_69 : decode cX11_sample 69 = .ok (.invokevirtual 91, 3) := by decide +kernel
theorem dX11_sample_72 : decode cX11_sample 72 = .ok (.ireturn, 1) := by decide +kernel
theorem dX11_sample_73 : decode cX11_sample 73 = .ok (.aload_n 0, 1) := by decide +kernel
theorem dX11_sample_74 : decode cX11_sample 74 = .ok (.getfield 26, 3) := by decide +kernel
theorem dX11_sample_77 : decode cX11_sample 77 = .ok (.getfield 160, 3) := by decide +kernel
theorem dX11_sample_80 : decode cX11_sample 80 = .ok (.ifCond .ne 14, 3) := by decide +kernel
theorem dX11_sample_83 : decode cX11_sample 83 = .ok (.iload_n 2, 1) := by decide +kernel
theorem dX11_sample_84 : decode cX11_sample 84 = .ok (.ifCond .le 10, 3) := by decide +kernel
theorem dX11_sample_87 : decode cX11_sample 87 = .ok (.aload_n 0, 1) := by decide +kernel
theorem dX11_sample_88 : decode cX11_sample 88 = .ok (.bipush 6, 2) := by decide +kernel
theorem dX11_sample_90 : decode cX11_sample 90 = .ok (.invokevirtual 91, 3) := by decide +kernel
theorem dX11_sample_93 : decode cX11_sample 93 = .ok (.ireturn, 1) := by decide +kernel
theorem dX11_sample_94 : decode cX11_sample 94 = .ok (.aload_n 0, 1) := by decide +kernel
theorem dX11_sample_95 : decode cX11_sample 95 = .ok (.iload_n 3, 1) := by decide +kernel
theorem dX11_sample_96 : decode cX11_sample 96 = .ok (.putfield 357, 3) := by decide +kernel
theorem dX11_sample_99 : decode cX11_sample 99 = .ok (.iconst 0, 1) := by decide +kernel
theorem dX11_sample_100 : decode cX11_sample 100 = .ok (.istore 4, 2) := by decide +kernel
theorem dX11_sample_102 : decode cX11_sample 102 = .ok (.iload 4, 2) := by decide +kernel
theorem dX11_sample_104 : decode cX11_sample 104 = .ok (.iload_n 2, 1) := by decide +kernel
theorem dX11_sample_105 : decode cX11_sample 105 = .ok (.if_icmp .ge 31, 3) := by decide +kernel
theorem dX11_sample_108 : decode cX11_sample 108 = .ok (.aload_n 0, 1) := by decide +kernel
theorem dX11_sample_109 : decode cX11_sample 109 = .ok (.getfield 10, 3) := by decide +kernel
theorem dX11_sample_112 : decode cX11_sample 112 = .ok (.iload_n 1, 1) := by decide +kernel
theorem dX11_sample_113 : decode cX11_sample 113 = .ok (.iload 4, 2) := by decide +kernel
theorem dX11_sample_115 : decode cX11_sample 115 = .ok (.aload_n 0, 1) := by decide +kernel
theorem dX11_sample_116 : decode cX11_sample 116 = .ok (.aload_n 0, 1) := by decide +kernel
theorem dX11_sample_117 : decode cX11_sample 117 = .ok (.getfield 26, 3) := by decide +kernel
theorem dX11_sample_120 : decode cX11_sample 120 = .ok (.getfield 160, 3) := by decide +kernel
theorem dX11_sample_123 : decode cX11_sample 123 = .ok (.invokevirtual 360, 3) := by decide +kernel
theorem dX11_sample_126 : decode cX11_sample 126 = .ok (.i2l, 1) := by decide +kernel
theorem dX11_sample_127 : decode cX11_sample 127 = .ok (.invokevirtual 106, 3) := by decide +kernel
theorem dX11_sample_130 : decode cX11_sample 130 = .ok (.iinc 4 1, 3) := by decide +kernel
theorem dX11_sample_133 : decode cX11_sample 133 = .ok (.goto (-31), 3) := by decide +kernel
theorem dX11_sample_136 : decode cX11_sample 136 = .ok (.aload_n 0, 1) := by decide +kernel
theorem dX11_sample_137 : decode cX11_sample 137 = .ok (.invokevirtual 98, 3) := by decide +kernel
theorem dX11_sample_140 : decode cX11_sample 140 = .ok (.ireturn, 1) := by decide +kernel
abbrev f_c_X11_sample : List (Nat × Int) := [(14, -1), (62, 0), (62, 14)]
set_option maxHeartbeats 4000000 in
set_option maxRecDepth 100000 in
theorem c_X11_sample (G : KG) (l : Launch) (M : Mem) (c0 : Int) (a1 : Int) (a2 : Int) (a3 : Int) (hI_M : Inv false M) (hk_c0 : kd c0 = 62) (hpre : -2147483648 ≤ a1 ∧ a1 ≤ 2147483647 ∧ -2147483648 ≤ a2 ∧ a2 ≤ 2147483647 ∧ -2147483648 ≤ a3 ∧ a3 ≤ 2147483647) : KC false G l yX11_sample cX11_sample 5 (some .boolean) (2, 46) [vR G c0, vI a1, vI a2, vI a3] M (fun A => kQi false G A (fun (r : Int) (N : Mem) => Inv false N ∧ Fr f_c_X11_sample M N ∧ (0 ≤ r ∧ r ≤ 1))) := by
  refine kx_met (lo := [some (vR G c0), some (vI a1), some (vI a2), some (vI a3), none]) (by decide) (Nat.le_of_ble_eq_true rfl) rfl ?_
  intro X F hQ
  have hF_M : Fr f_c_X11_sample M M := Fr.rf _ _
  refine kx_aload_n 1 F 0 dX11_sample_0 rfl rfl rfl ?_
  refine kx_getr 4 F fl_X11_10 hk_c0 rfl rfl (j := 3) rfl dX11_sample_1 (v := (M c0 3)) rfl rfl ?_
  have hk_1 : kd (M c0 3) = 13 := Inv.r hI_M hk_c0 rfl 3 rfl rfl
  refine kx_iload_n 5 F 1 dX11_sample_4 rfl rfl rfl ?_
  refine kx_Vi 8 (ci := 0) F (As := [vI a1]) (st := []) vd_X11_83 (c_X9_has G l M (M c0 3) a1 hI_M hk_1 (by omega)) hk_1 rfl rfl rfl ⟨by decide, by decide⟩ rfl rfl (Nat.le_of_ble_eq_true rfl) dX11_sample_5 rfl ?_
  intro r_2 N_3 q_4
  obtain ⟨rfl, q_4c⟩ := q_4
  rcases q_4c with q_4c | q_4c
  · refine kx_if_eq 11 F 32 dX11_sample_8 (by decide) rfl (by omega) (fun h_5 => (by exfalso; omega)) (fun h_5 => ?_)
    refine kx_iload_n 12 F 2 dX11_sample_11 rfl rfl rfl ?_
    refine kx_iconst 13 F dX11_sample_12 rfl ?_
    refine kx_bipush 15 F dX11_sample_13 (by decide) rfl ?_
    refine kx_Si 18 F (As := [vI a2, vI 0, vI 20]) (st := []) sd_X11_87 (c_X11_within G l M a2 0 20 hI_M (by omega)) ⟨by decide, by decide⟩ rfl rfl (Nat.le_of_ble_eq_true rfl) dX11_sample_15 rfl ?_
    intro r_6 N_7 q_8
    obtain ⟨rfl, q_8c⟩ := q_8
    rcases q_8c with q_8c | q_8c
    · refine kx_if_eq 21 F 32 dX11_sample_18 (by decide) rfl (by omega) (fun h_9 => (by exfalso; omega)) (fun h_9 => ?_)
      refine kx_iload_n 22 F 3 dX11_sample_21 rfl rfl rfl ?_
      refine kx_iconst 23 F dX11_sample_22 rfl ?_
      refine kx_sipush 26 F dX11_sample_23 (by decide) rfl ?_
      refine kx_Si 29 F (As := [vI a3, vI 0, vI 9999]) (st := []) sd_X11_87 (c_X11_within G l M a3 0 9999 hI_M (by omega)) ⟨by decide, by decide⟩ rfl rfl (Nat.le_of_ble_eq_true rfl) dX11_sample_26 rfl ?_
      intro r_10 N_11 q_12
      obtain ⟨rfl, q_12c⟩ := q_12
      rcases q_12c with q_12c | q_12c
      · refine kx_if_ne 32 F 38 dX11_sample_29 (by decide) rfl (by omega) (fun h_13 => ?_) (fun h_13 => (by exfalso; omega))
        refine kx_aload_n 39 F 0 dX11_sample_38 rfl rfl rfl ?_
        refine kx_getr 42 F fl_X11_10 hk_c0 rfl rfl (j := 3) rfl dX11_sample_39 (v := (M c0 3)) rfl rfl ?_
        refine kx_iload_n 43 F 1 dX11_sample_42 rfl rfl rfl ?_
        refine kx_Vi 46 (ci := 0) F (As := [vI a1]) (st := []) vd_X11_351 (c_X9_isMissing G l M (M c0 3) a1 hI_M hk_1 (by omega)) hk_1 rfl rfl rfl ⟨by decide, by decide⟩ rfl rfl (Nat.le_of_ble_eq_true rfl) dX11_sample_43 rfl ?_
        intro r_14 N_15 q_16
        obtain ⟨rfl, q_16c⟩ := q_16
        refine kx_if_eq 49 F 55 dX11_sample_46 (by decide) rfl (by omega) (fun h_17 => ?_) (fun h_17 => ?_)
        · refine kx_iload_n 56 F 2 dX11_sample_55 rfl rfl rfl ?_
          refine kx_aload_n 57 F 0 dX11_sample_56 rfl rfl rfl ?_
          refine kx_getr 60 F fl_X11_10 hk_c0 rfl rfl (j := 3) rfl dX11_sample_57 (v := (M c0 3)) rfl rfl ?_
          refine kx_iload_n 61 F 1 dX11_sample_60 rfl rfl rfl ?_
          refine kx_Vi 64 (ci := 0) F (As := [vI a1]) (st := [vI a2]) vd_X11_354 (c_X9_placesOf G l M (M c0 3) a1 hI_M hk_1 (by omega)) hk_1 rfl rfl rfl ⟨by decide, by decide⟩ rfl rfl (Nat.le_of_ble_eq_true rfl) dX11_sample_61 rfl ?_
          intro r_18 N_19 q_20
          obtain ⟨rfl, q_20c⟩ := q_20
          refine kx_icmp_le 67 F 73 dX11_sample_64 (by decide) rfl (by omega) (by omega) (fun h_21 => ?_) (fun h_21 => ?_)
          · refine kx_aload_n 74 F 0 dX11_sample_73 rfl rfl rfl ?_
            refine kx_getr 77 F fl_X11_26 hk_c0 rfl rfl (j := 5) rfl dX11_sample_74 (v := (M c0 5)) rfl rfl ?_
            have hk_22 : kd (M c0 5) = 12 := Inv.r hI_M hk_c0 rfl 5 rfl rfl
            refine kx_geti 80 F fl_X11_160 hk_22 rfl rfl (j := 2) rfl dX11_sample_77 (v := (M (M c0 5) 2)) rfl rfl ?_
            have h_23 := Inv.g hI_M hk_22 rfl 2 (a := 0) (b := 6) rfl rfl
            have J_29 : KJ false G X M 94 [some (vR G c0), some (vI a1), some (vI a2), some (vI a3), none] [] := by
              refine kx_aload_n 95 F 0 dX11_sample_94 rfl rfl rfl ?_
              refine kx_iload_n 96 F 3 dX11_sample_95 rfl rfl rfl ?_
              refine kx_puti 99 F fw_X11_357 rfl hk_c0 rfl rfl (j := 14) rfl dX11_sample_96 rfl ?_
              intro N_31 hM_N_31
              have hI_N_31 : Inv false N_31 := Inv.u hI_M hM_N_31 hk_c0 (a := 0) (b := 65535) rfl rfl rfl (by omega)
              have hF_N_31 : Fr f_c_X11_sample M N_31 := Fr.u hF_M hM_N_31 hk_c0 rfl
              refine kx_iconst 100 F dX11_sample_99 rfl ?_
              refine kx_istore 102 F 4 (lo' := [some (vR G c0), some (vI a1), some (vI a2), some (vI a3), some (vI 0)]) dX11_sample_100 (by decide) rfl rfl rfl ?_
              have L_111 : ∀ (n_112 : Nat) (x4_109 : Int) (N_110 : Mem), Inv false N_110 → Fr f_c_X11_sample M N_110 → 0 ≤ x4_109 ∧ x4_109 ≤ 20 → (20 - (x4_109)).toNat = n_112 → KJ false G X N_110 102 [some (vR G c0), some (vI a1), some (vI a2), none, some (vI x4_109)] [] := by
                intro n_112
                refine Nat.strongRecOn n_112 ?_
                intro n_112 ih_113 x4_109 N_110 hI_N_110 hF_N_110 h_114 hm_115
                refine kx_iload 104 F 4 dX11_sample_102 rfl rfl ?_
                refine kx_iload_n 105 F 2 dX11_sample_104 rfl rfl rfl ?_
                refine kx_icmp_ge 108 F 136 dX11_sample_105 (by decide) rfl (by omega) (by omega) (fun h_116 => ?_) (fun h_116 => ?_)
                · refine kx_aload_n 137 F 0 dX11_sample_136 rfl rfl rfl ?_
                  refine kx_Vi 140 (ci := 0) F (As := []) (st := []) vd_X11_98 (c_X11_agree G l N_110 c0 hI_N_110 hk_c0) hk_c0 rfl rfl rfl ⟨by decide, by decide⟩ rfl rfl (Nat.le_of_ble_eq_true rfl) dX11_sample_137 rfl ?_
                  intro r_117 N_118 q_119
                  obtain ⟨hI_N_118, hG_N_118, q_119c⟩ := q_119
                  have hF_N_118 : Fr f_c_X11_sample M N_118 := Fr.c hF_N_110 hG_N_118 rfl
                  subst q_119c
                  exact kx_zret F hQ (by omega) ⟨hI_N_118, hF_N_118, (by omega)⟩ dX11_sample_140
                · refine kx_aload_n 109 F 0 dX11_sample_108 rfl rfl rfl ?_
                  refine kx_getr 112 F fl_X11_10 hk_c0 rfl rfl (j := 3) rfl dX11_sample_109 (v := (M c0 3)) (by rw [Fr.e hF_N_110 hk_c0 _ rfl]) rfl ?_
                  refine kx_iload_n 113 F 1 dX11_sample_112 rfl rfl rfl ?_
                  refine kx_iload 115 F 4 dX11_sample_113 rfl rfl ?_
                  refine kx_aload_n 116 F 0 dX11_sample_115 rfl rfl rfl ?_
                  refine kx_aload_n 117 F 0 dX11_sample_116 rfl rfl rfl ?_
                  refine kx_getr 120 F fl_X11_26 hk_c0 rfl rfl (j := 5) rfl dX11_sample_117 (v := (M c0 5)) (by rw [Fr.e hF_N_110 hk_c0 _ rfl]) rfl ?_
                  refine kx_geti 123 F fl_X11_160 hk_22 rfl rfl (j := 2) rfl dX11_sample_120 (v := (M (M c0 5) 2)) (by rw [Fr.e hF_N_110 hk_22 _ rfl]) rfl ?_
                  refine kx_Vi 126 (ci := 0) F (As := [vI (M (M c0 5) 2)]) (st := [vI x4_109, vI a1, vR G (M c0 3)]) vd_X11_360 (c_X11_draw G l N_110 c0 (M (M c0 5) 2) hI_N_110 hk_c0 (by omega)) hk_c0 rfl rfl rfl ⟨by decide, by decide⟩ rfl rfl (Nat.le_of_ble_eq_true rfl) dX11_sample_123 rfl ?_
                  intro r_120 N_121 q_122
                  obtain ⟨hI_N_121, hG_N_121, q_122c⟩ := q_122
                  have hF_N_121 : Fr f_c_X11_sample M N_121 := Fr.c hF_N_110 hG_N_121 rfl
                  refine kx_i2l 127 F dX11_sample_126 (by omega) rfl ?_
                  refine kx_Vv 130 (ci := 0) F (As := [vI a1, vI x4_109, vL r_120]) (st := []) vd_X11_106 (c_X9_set G l N_121 (M c0 3) a1 x4_109 r_120 hI_N_121 hk_1 (by omega)) hk_1 rfl rfl rfl ⟨by decide, by decide⟩ rfl rfl (Nat.le_of_ble_eq_true rfl) dX11_sample_127 rfl ?_
                  intro N_123 q_124
                  obtain ⟨hI_N_123, hG_N_123⟩ := q_124
                  have hF_N_123 : Fr f_c_X11_sample M N_123 := Fr.c hF_N_121 hG_N_123 rfl
                  refine kx_iinc 133 F 4 (v := x4_109 + 1) (lo' := [some (vR G c0), some (vI a1), some (vI a2), none, some (vI (x4_109 + 1))]) dX11_sample_130 rfl (by omega) (by decide) rfl rfl rfl ?_
                  refine kx_goto 102 F dX11_sample_133 (by decide) ?_
                  exact ih_113 _ (by omega) (x4_109 + 1) N_123 hI_N_123 hF_N_123 (by omega) rfl
              refine kx_drop 3 (lo' := [some (vR G c0), some (vI a1), some (vI a2), none, some (vI 0)]) rfl ?_
              exact L_111 _ 0 N_31 hI_N_31 hF_N_31 (by omega) rfl
            refine kx_if_ne 83 F 94 dX11_sample_80 (by decide) rfl (by omega) (fun h_125 => ?_) (fun h_125 => ?_)
            · exact J_29
            · refine kx_iload_n 84 F 2 dX11_sample_83 rfl rfl rfl ?_
              refine kx_if_le 87 F 94 dX11_sample_84 (by decide) rfl (by omega) (fun h_126 => ?_) (fun h_126 => ?_)
              · exact J_29
              · refine kx_aload_n 88 F 0 dX11_sample_87 rfl rfl rfl ?_
                refine kx_bipush 90 F dX11_sample_88 (by decide) rfl ?_
                refine kx_Vi 93 (ci := 0) F (As := [vI 6]) (st := []) vd_X11_91 (c_X11_deny G l M c0 6 hI_M hk_c0 (by omega)) hk_c0 rfl rfl rfl ⟨by decide, by decide⟩ rfl rfl (Nat.le_of_ble_eq_true rfl) dX11_sample_90 rfl ?_
                intro r_127 N_128 q_129
                obtain ⟨hI_N_128, hG_N_128, q_129c⟩ := q_129
                have hF_N_128 : Fr f_c_X11_sample M N_128 := Fr.c hF_M hG_N_128 rfl
                subst q_129c
                exact kx_zret F hQ (by omega) ⟨hI_N_128, hF_N_128, (by omega)⟩ dX11_sample_93
          · refine kx_aload_n 68 F 0 dX11_sample_67 rfl rfl rfl ?_
            refine kx_iconst 69 F dX11_sample_68 rfl ?_
            refine kx_Vi 72 (ci := 0) F (As := [vI 3]) (st := []) vd_X11_91 (c_X11_deny G l M c0 3 hI_M hk_c0 (by omega)) hk_c0 rfl rfl rfl ⟨by decide, by decide⟩ rfl rfl (Nat.le_of_ble_eq_true rfl) dX11_sample_69 rfl ?_
            intro r_130 N_131 q_132
            obtain ⟨hI_N_131, hG_N_131, q_132c⟩ := q_132
            have hF_N_131 : Fr f_c_X11_sample M N_131 := Fr.c hF_M hG_N_131 rfl
            subst q_132c
            exact kx_zret F hQ (by omega) ⟨hI_N_131, hF_N_131, (by omega)⟩ dX11_sample_72
        · refine kx_aload_n 50 F 0 dX11_sample_49 rfl rfl rfl ?_
          refine kx_iconst 51 F dX11_sample_50 rfl ?_
          refine kx_Vi 54 (ci := 0) F (As := [vI 2]) (st := []) vd_X11_91 (c_X11_deny G l M c0 2 hI_M hk_c0 (by omega)) hk_c0 rfl rfl rfl ⟨by decide, by decide⟩ rfl rfl (Nat.le_of_ble_eq_true rfl) dX11_sample_51 rfl ?_
          intro r_133 N_134 q_135
          obtain ⟨hI_N_134, hG_N_134, q_135c⟩ := q_135
          have hF_N_134 : Fr f_c_X11_sample M N_134 := Fr.c hF_M hG_N_134 rfl
          subst q_135c
          exact kx_zret F hQ (by omega) ⟨hI_N_134, hF_N_134, (by omega)⟩ dX11_sample_54
      · refine kx_if_ne 32 F 38 dX11_sample_29 (by decide) rfl (by omega) (fun h_136 => (by exfalso; omega)) (fun h_136 => ?_)
        refine kx_aload_n 33 F 0 dX11_sample_32 rfl rfl rfl ?_
        refine kx_iconst 34 F dX11_sample_33 rfl ?_
        refine kx_Vi 37 (ci := 0) F (As := [vI 1]) (st := []) vd_X11_91 (c_X11_deny G l M c0 1 hI_M hk_c0 (by omega)) hk_c0 rfl rfl rfl ⟨by decide, by decide⟩ rfl rfl (Nat.le_of_ble_eq_true rfl) dX11_sample_34 rfl ?_
        intro r_137 N_138 q_139
        obtain ⟨hI_N_138, hG_N_138, q_139c⟩ := q_139
        have hF_N_138 : Fr f_c_X11_sample M N_138 := Fr.c hF_M hG_N_138 rfl
        subst q_139c
        exact kx_zret F hQ (by omega) ⟨hI_N_138, hF_N_138, (by omega)⟩ dX11_sample_37
    · refine kx_if_eq 21 F 32 dX11_sample_18 (by decide) rfl (by omega) (fun h_140 => ?_) (fun h_140 => (by exfalso; omega))
      refine kx_aload_n 33 F 0 dX11_sample_32 rfl rfl rfl ?_
      refine kx_iconst 34 F dX11_sample_33 rfl ?_
      refine kx_Vi 37 (ci := 0) F (As := [vI 1]) (st := []) vd_X11_91 (c_X11_deny G l M c0 1 hI_M hk_c0 (by omega)) hk_c0 rfl rfl rfl ⟨by decide, by decide⟩ rfl rfl (Nat.le_of_ble_eq_true rfl) dX11_sample_34 rfl ?_
      intro r_141 N_142 q_143
      obtain ⟨hI_N_142, hG_N_142, q_143c⟩ := q_143
      have hF_N_142 : Fr f_c_X11_sample M N_142 := Fr.c hF_M hG_N_142 rfl
      subst q_143c
      exact kx_zret F hQ (by omega) ⟨hI_N_142, hF_N_142, (by omega)⟩ dX11_sample_37
  · refine kx_if_eq 11 F 32 dX11_sample_8 (by decide) rfl (by omega) (fun h_144 => ?_) (fun h_144 => (by exfalso; omega))
    refine kx_aload_n 33 F 0 dX11_sample_32 rfl rfl rfl ?_
    refine kx_iconst 34 F dX11_sample_33 rfl ?_
    refine kx_Vi 37 (ci := 0) F (As := [vI 1]) (st := []) vd_X11_91 (c_X11_deny G l M c0 1 hI_M hk_c0 (by omega)) hk_c0 rfl rfl rfl ⟨by decide, by decide⟩ rfl rfl (Nat.le_of_ble_eq_true rfl) dX11_sample_34 rfl ?_
    intro r_145 N_146 q_147
    obtain ⟨hI_N_146, hG_N_146, q_147c⟩ := q_147
    have hF_N_146 : Fr f_c_X11_sample M N_146 := Fr.c hF_M hG_N_146 rfl
    subst q_147c
    exact kx_zret F hQ (by omega) ⟨hI_N_146, hF_N_146, (by omega)⟩ dX11_sample_37
theorem dX11_chance_0 : decode cX11_chance 0 = .ok (.aload_n 0, 1) := by decide +kernel
theorem dX11_chance_1 : decode cX11_chance 1 = .ok (.getfield 26, 3) := by decide +kernel
theorem dX11_chance_4 : decode cX11_chance 4 = .ok (.iload_n 1, 1) := by decide +kernel
theorem dX11_chance_5 : decode cX11_chance 5 = .ok (.invokevirtual 163, 3) := by decide +kernel
theorem dX11_chance_8 : decode cX11_chance 8 = .ok (.ifCond .eq 35, 3) := by decide +kernel
theorem dX11_chance_11 : decode cX11_chance 11 = .ok (.iload_n 2, 1) := by decide +kernel
theorem dX11_chance_12 : decode cX11_chance 12 = .ok (.iconst 0, 1) := by decide +kernel
theorem dX11_chance_13 : decode cX11_chance 13 = .ok (.bipush 20, 2) := by decide +kernel
theorem dX11_chance_15 : decode cX11_chance 15 = .ok (.invokestatic 87, 3) := by decide +kernel
theorem dX11_chance_18 : decode cX11_chance 18 = .ok (.ifCond .eq 25, 3) := by decide +kernel
theorem dX11_chance_21 : decode cX11_chance 21 = .ok (.iload_n 3, 1) := by decide +kernel
theorem dX11_chance_22 : decode cX11_chance 22 = .ok (.iconst 1, 1) := by decide +kernel
theorem dX11_chance_23 : decode cX11_chance 23 = .ok (.bipush 50, 2) := by decide +kernel
theorem dX11_chance_25 : decode cX11_chance 25 = .ok (.invokestatic 87, 3) := by decide +kernel
theorem dX11_chance_28 : decode cX11_chance 28 = .ok (.ifCond .eq 15, 3) := by decide +kernel
theorem dX11_chance_31 : decode cX11_chance 31 = .ok (.iload 4, 2) := by decide +kernel
theorem dX11_chance_33 : decode cX11_chance 33 = .ok (.iconst 0, 1) := by decide +kernel
theorem dX11_chance_34 : decode cX11_chance 34 = .ok (.sipush 9999, 3) := by decide +kernel
theorem dX11_chance_37 : decode cX11_chance 37 = .ok (.invokestatic 87, 3) := by decide +kernel
theorem dX11_chance_40 : decode cX11_chance 40 = .ok (.ifCond .ne 9, 3) := by decide +kernel
theorem dX11_chance_43 : decode cX11_chance 43 = .ok (.aload_n 0, 1) := by decide +kernel
theorem dX11_chance_44 : decode cX11_chance 44 = .ok (.iconst 1, 1) := by decide +kernel
theorem dX11_chance_45 : decode cX11_chance 45 = .ok (.invokevirtual 91, 3) := by decide +kernel
theorem dX11_chance_48 : decode cX11_chance 48 = .ok (.ireturn, 1) := by decide +kernel
theorem dX11_chance_49 : decode cX11_chance 49 = .ok (.aload_n 0, 1) := by decide +kernel
theorem dX11_chance_50 : decode cX11_chance 50 = .ok (.getfield 26, 3) := by decide +kernel
theorem dX11_chance_53 : decode cX11_chance 53 = .ok (.getfield 160, 3) := by decide +kernel
theorem dX11_chance_56 : decode cX11_chance 56 = .ok (.ifCond .ne 14, 3) := by decide +kernel
theorem dX11_chance_59 : decode cX11_chance 59 = .ok (.iload_n 2, 1) := by decide +kernel
theorem dX11_chance_60 : decode cX11_chance 60 = .ok (.ifCond .le 10, 3) := by decide +kernel
theorem dX11_chance_63 : decode cX11_chance 63 = .ok (.aload_n 0, 1) := by decide +kernel
theorem dX11_chance_64 : decode cX11_chance 64 = .ok (.bipush 6, 2) := by decide +kernel
theorem dX11_chance_66 : decode cX11_chance 66 = .ok (.invokevirtual 91, 3) := by decide +kernel
theorem dX11_chance_69 : decode cX11_chance 69 = .ok (.ireturn, 1) := by decide +kernel
theorem dX11_chance_70 : decode cX11_chance 70 = .ok (.aload_n 0, 1) := by decide +kernel
theorem dX11_chance_71 : decode cX11_chance 71 = .ok (.getfield 26, 3) := by decide +kernel
theorem dX11_chance_74 : decode cX11_chance 74 = .ok (.iload_n 1, 1) := by decide +kernel
theorem dX11_chance_75 : decode cX11_chance 75 = .ok (.invokevirtual 164, 3) := by decide +kernel
theorem dX11_chance_78 : decode cX11_chance 78 = .ok (.astore 5, 2) := by decide +kernel
theorem dX11_chance_80 : decode cX11_chance 80 = .ok (.aload_n 0, 1) := by decide +kernel
theorem dX11_chance_81 : decode cX11_chance 81 = .ok (.iload 4, 2) := by decide +kernel
theorem dX11_chance_83 : decode cX11_chance 83 = .ok (.putfield 357, 3) := by decide +kernel
theorem dX11_chance_86 : decode cX11_chance 86 = .ok (.iconst 0, 1) := by decide +kernel
theorem dX11_chance_87 : decode cX11_chance 87 = .ok (.istore 6, 2) := by decide +kernel
theorem dX11_chance_89 : decode cX11_chance 89 = .ok (.iconst 0, 1) := by decide +kernel
theorem dX11_chance_90 : decode cX11_chance 90 = .ok (.istore 7, 2) := by decide +kernel
theorem dX11_chance_92 : decode cX11_chance 92 = .ok (.iload 7, 2) := by decide +kernel
theorem dX11_chance_94 : decode cX11_chance 94 = .ok (.iload_n 3, 1) := by decide +kernel
theorem dX11_chance_95 : decode cX11_chance 95 = .ok (.if_icmp .ge 38, 3) := by decide +kernel
theorem dX11_chance_98 : decode cX11_chance 98 = .ok (.aload_n 0, 1) := by decide +kernel
theorem dX11_chance_99 : decode cX11_chance 99 = .ok (.aload 5, 2) := by decide +kernel
theorem dX11_chance_101 : decode cX11_chance 101 = .ok (.iload_n 2, 1) := by decide +kernel
theorem dX11_chance_102 : decode cX11_chance 102 = .ok (.invokevirtual 363, 3) := by decide +kernel
theorem dX11_chance_105 : decode cX11_chance 105 = .ok (.iload 6, 2) := by decide +kernel
theorem dX11_chance_107 : decode cX11_chance 107 = .ok (.aload_n 0, 1) := by decide +kernel
theorem dX11_chance_108 : decode cX11_chance 108 = .ok (.getfield 61, 3) := by decide +kernel
theorem dX11_chance_111 : decode cX11_chance 111 = .ok (.aload 5, 2) := by decide +kernel
theorem dX11_chance_113 : decode cX11_chance 113 = .ok (.invokevirtual 234, 3) := by decide +kernel
theorem dX11_chance_116 : decode cX11_chance 116 = .ok (.ifCond .eq 7, 3) := by decide +kernel
theorem dX11_chance_119 : decode cX11_chance 119 = .ok (.iconst 1, 1) := by decide +kernel
theorem dX11_chance_120 : decode cX11_chance 120 = .ok (.goto 4, 3) := by decide +kernel
theorem dX11_chance_123 : decode cX11_chance 123 = .ok (.iconst 0, 1) := by decide +kernel
theorem dX11_chance_124 : decode cX11_chance 124 = .ok (.iadd, 1) := by decide +kernel
theorem dX11_chance_125 : decode cX11_chance 125 = .ok (.istore 6, 2) := by decide +kernel
theorem dX11_chance_127 : decode cX11_chance 127 = .ok (.iinc 7 1, 3) := by decide +kernel
theorem dX11_chance_130 : decode cX11_chance 130 = .ok (.goto (-38), 3) := by decide +kernel
theorem dX11_chance_133 : decode cX11_chance 133 = .ok (.aload_n 0, 1) := by decide +kernel
theorem dX11_chance_134 : decode cX11_chance 134 = .ok (.iload 6, 2) := by decide +kernel
theorem dX11_chance_136 : decode cX11_chance 136 = .ok (.i2l, 1) := by decide +kernel
theorem dX11_chance_137 : decode cX11_chance 137 = .ok (.iload_n 3, 1) := by decide +kernel
theorem dX11_chance_138 : decode cX11_chance 138 = .ok (.i2l, 1) := by decide +kernel
theorem dX11_chance_139 : decode cX11_chance 139 = .ok (.invokevirtual 252, 3) := by decide +kernel
theorem dX11_chance_142 : decode cX11_chance 142 = .ok (.aload_n 0, 1) := by decide +kernel
theorem dX11_chance_143 : decode cX11_chance 143 = .ok (.invokevirtual 98, 3) := by decide +kernel
theorem dX11_chance_146 : decode cX11_chance 146 = .ok (.ireturn, 1) := by decide +kernel
abbrev f_c_X11_chance : List (Nat × Int) := [(8, 1), (8, 2), (8, 3), (8, 4), (9, -1), (10, -1), (11, -1), (62, 0), (62, 1), (62, 2), (62, 14)]
set_option maxHeartbeats 4000000 in
set_option maxRecDepth 100000 in
theorem c_X11_chance (G : KG) (l : Launch) (M : Mem) (c0 : Int) (a1 : Int) (a2 : Int) (a3 : Int) (a4 : Int) (hI_M : Inv false M) (hk_c0 : kd c0 = 62) (hpre : -2147483648 ≤ a1 ∧ a1 ≤ 2147483647 ∧ -2147483648 ≤ a2 ∧ a2 ≤ 2147483647 ∧ -2147483648 ≤ a3 ∧ a3 ≤ 2147483647 ∧ -2147483648 ≤ a4 ∧ a4 ≤ 2147483647) : KC false G l yX11_chance cX11_chance 8 (some .boolean) (4, 96) [vR G c0, vI a1, vI a2, vI a3, vI a4] M (fun A => kQi false G A (fun (r : Int) (N : Mem) => Inv false N ∧ Fr f_c_X11_chance M N ∧ (0 ≤ r ∧ r ≤ 1))) := by
  refine kx_met (lo := [some (vR G c0), some (vI a1), some (vI a2), some (vI a3), some (vI a4), none, none, none]) (by decide) (Nat.le_of_ble_eq_true rfl) rfl ?_
  intro X F hQ
  have hF_M : Fr f_c_X11_chance M M := Fr.rf _ _
  refine kx_aload_n 1 F 0 dX11_chance_0 rfl rfl rfl ?_
  refine kx_getr 4 F fl_X11_26 hk_c0 rfl rfl (j := 5) rfl dX11_chance_1 (v := (M c0 5)) rfl rfl ?_
  have hk_1 : kd (M c0 5) = 12 := Inv.r hI_M hk_c0 rfl 5 rfl rfl
  refine kx_iload_n 5 F 1 dX11_chance_4 rfl rfl rfl ?_
  refine kx_Vi 8 (ci := 0) F (As := [vI a1]) (st := []) vd_X11_163 (c_X5_has G l M (M c0 5) a1 hI_M hk_1 (by omega)) hk_1 rfl rfl rfl ⟨by decide, by decide⟩ rfl rfl (Nat.le_of_ble_eq_true rfl) dX11_chance_5 rfl ?_
  intro r_2 N_3 q_4
  obtain ⟨rfl, q_4c⟩ := q_4
  have h_5 := Inv.g hI_M hk_1 rfl 3 (a := 0) (b := 2) rfl rfl
  rcases q_4c with q_4c | q_4c
  · refine kx_if_eq 11 F 43 dX11_chance_8 (by decide) rfl (by omega) (fun h_6 => (by exfalso; omega)) (fun h_6 => ?_)
    refine kx_iload_n 12 F 2 dX11_chance_11 rfl rfl rfl ?_
    refine kx_iconst 13 F dX11_chance_12 rfl ?_
    refine kx_bipush 15 F dX11_chance_13 (by decide) rfl ?_
    refine kx_Si 18 F (As := [vI a2, vI 0, vI 20]) (st := []) sd_X11_87 (c_X11_within G l M a2 0 20 hI_M (by omega)) ⟨by decide, by decide⟩ rfl rfl (Nat.le_of_ble_eq_true rfl) dX11_chance_15 rfl ?_
    intro r_7 N_8 q_9
    obtain ⟨rfl, q_9c⟩ := q_9
    rcases q_9c with q_9c | q_9c
    · refine kx_if_eq 21 F 43 dX11_chance_18 (by decide) rfl (by omega) (fun h_10 => (by exfalso; omega)) (fun h_10 => ?_)
      refine kx_iload_n 22 F 3 dX11_chance_21 rfl rfl rfl ?_
      refine kx_iconst 23 F dX11_chance_22 rfl ?_
      refine kx_bipush 25 F dX11_chance_23 (by decide) rfl ?_
      refine kx_Si 28 F (As := [vI a3, vI 1, vI 50]) (st := []) sd_X11_87 (c_X11_within G l M a3 1 50 hI_M (by omega)) ⟨by decide, by decide⟩ rfl rfl (Nat.le_of_ble_eq_true rfl) dX11_chance_25 rfl ?_
      intro r_11 N_12 q_13
      obtain ⟨rfl, q_13c⟩ := q_13
      rcases q_13c with q_13c | q_13c
      · refine kx_if_eq 31 F 43 dX11_chance_28 (by decide) rfl (by omega) (fun h_14 => (by exfalso; omega)) (fun h_14 => ?_)
        refine kx_iload 33 F 4 dX11_chance_31 rfl rfl ?_
        refine kx_iconst 34 F dX11_chance_33 rfl ?_
        refine kx_sipush 37 F dX11_chance_34 (by decide) rfl ?_
        refine kx_Si 40 F (As := [vI a4, vI 0, vI 9999]) (st := []) sd_X11_87 (c_X11_within G l M a4 0 9999 hI_M (by omega)) ⟨by decide, by decide⟩ rfl rfl (Nat.le_of_ble_eq_true rfl) dX11_chance_37 rfl ?_
        intro r_15 N_16 q_17
        obtain ⟨rfl, q_17c⟩ := q_17
        rcases q_17c with q_17c | q_17c
        · refine kx_if_ne 43 F 49 dX11_chance_40 (by decide) rfl (by omega) (fun h_18 => ?_) (fun h_18 => (by exfalso; omega))
          refine kx_aload_n 50 F 0 dX11_chance_49 rfl rfl rfl ?_
          refine kx_getr 53 F fl_X11_26 hk_c0 rfl rfl (j := 5) rfl dX11_chance_50 (v := (M c0 5)) rfl rfl ?_
          refine kx_geti 56 F fl_X11_160 hk_1 rfl rfl (j := 2) rfl dX11_chance_53 (v := (M (M c0 5) 2)) rfl rfl ?_
          have h_19 := Inv.g hI_M hk_1 rfl 2 (a := 0) (b := 6) rfl rfl
          have J_25 : KJ false G X M 70 [some (vR G c0), some (vI a1), some (vI a2), some (vI a3), some (vI a4), none, none, none] [] := by
            refine kx_aload_n 71 F 0 dX11_chance_70 rfl rfl rfl ?_
            refine kx_getr 74 F fl_X11_26 hk_c0 rfl rfl (j := 5) rfl dX11_chance_71 (v := (M c0 5)) rfl rfl ?_
            refine kx_iload_n 75 F 1 dX11_chance_74 rfl rfl rfl ?_
            refine kx_Vr 78 (ci := 0) F (As := [vI a1]) (st := []) vd_X11_164 (c_X5_pick G l M (M c0 5) a1 hI_M hk_1 (by omega)) hk_1 rfl rfl rfl ⟨by decide, by decide⟩ rfl rfl (Nat.le_of_ble_eq_true rfl) dX11_chance_75 rfl ?_
            intro r_27 N_28 q_29
            obtain ⟨rfl, hk_30⟩ := q_29
            refine kx_astore 80 F 5 (lo' := [some (vR G c0), some (vI a1), some (vI a2), some (vI a3), some (vI a4), some (vR G r_27), none, none]) dX11_chance_78 (by decide) rfl rfl rfl ?_
            refine kx_aload_n 81 F 0 dX11_chance_80 rfl rfl rfl ?_
            refine kx_iload 83 F 4 dX11_chance_81 rfl rfl ?_
            refine kx_puti 86 F fw_X11_357 rfl hk_c0 rfl rfl (j := 14) rfl dX11_chance_83 rfl ?_
            intro N_31 hM_N_31
            have hI_N_31 : Inv false N_31 := Inv.u hI_M hM_N_31 hk_c0 (a := 0) (b := 65535) rfl rfl rfl (by omega)
            have hF_N_31 : Fr f_c_X11_chance M N_31 := Fr.u hF_M hM_N_31 hk_c0 rfl
            refine kx_iconst 87 F dX11_chance_86 rfl ?_
            refine kx_istore 89 F 6 (lo' := [some (vR G c0), some (vI a1), some (vI a2), some (vI a3), some (vI a4), some (vR G r_27), some (vI 0), none]) dX11_chance_87 (by decide) rfl rfl rfl ?_
            refine kx_iconst 90 F dX11_chance_89 rfl ?_
            refine kx_istore 92 F 7 (lo' := [some (vR G c0), some (vI a1), some (vI a2), some (vI a3), some (vI a4), some (vR G r_27), some (vI 0), some (vI 0)]) dX11_chance_90 (by decide) rfl rfl rfl ?_
            have L_180 : ∀ (n_181 : Nat) (x6_177 : Int) (x7_178 : Int) (N_179 : Mem), Inv false N_179 → Fr f_c_X11_chance M N_179 → (-2147483648) ≤ x6_177 ∧ x6_177 ≤ 2147483647 ∧ 0 ≤ x7_178 ∧ x7_178 ≤ 50 → (50 - (x7_178)).toNat = n_181 → KJ false G X N_179 92 [some (vR G c0), none, some (vI a2), some (vI a3), none, some (vR G r_27), some (vI x6_177), some (vI x7_178)] [] := by
              intro n_181
              refine Nat.strongRecOn n_181 ?_
              intro n_181 ih_182 x6_177 x7_178 N_179 hI_N_179 hF_N_179 h_183 hm_184
              refine kx_iload 94 F 7 dX11_chance_92 rfl rfl ?_
              refine kx_iload_n 95 F 3 dX11_chance_94 rfl rfl rfl ?_
              refine kx_icmp_ge 98 F 133 dX11_chance_95 (by decide) rfl (by omega) (by omega) (fun h_185 => ?_) (fun h_185 => ?_)
              · refine kx_aload_n 134 F 0 dX11_chance_133 rfl rfl rfl ?_
                refine kx_iload 136 F 6 dX11_chance_134 rfl rfl ?_
                refine kx_i2l 137 F dX11_chance_136 (by omega) rfl ?_
                refine kx_iload_n 138 F 3 dX11_chance_137 rfl rfl rfl ?_
                refine kx_i2l 139 F dX11_chance_138 (by omega) rfl ?_
                refine kx_Vv 142 (ci := 0) F (As := [vL x6_177, vL a3]) (st := []) vd_X11_252 (c_X11_tellFraction G l N_179 c0 x6_177 a3 hI_N_179 hk_c0 (by omega)) hk_c0 rfl rfl rfl ⟨by decide, by decide⟩ rfl rfl (Nat.le_of_ble_eq_true rfl) dX11_chance_139 rfl ?_
                intro N_186 q_187
                obtain ⟨hI_N_186, hG_N_186⟩ := q_187
                have hF_N_186 : Fr f_c_X11_chance M N_186 := Fr.c hF_N_179 hG_N_186 rfl
                refine kx_aload_n 143 F 0 dX11_chance_142 rfl rfl rfl ?_
                refine kx_Vi 146 (ci := 0) F (As := []) (st := []) vd_X11_98 (c_X11_agree G l N_186 c0 hI_N_186 hk_c0) hk_c0 rfl rfl rfl ⟨by decide, by decide⟩ rfl rfl (Nat.le_of_ble_eq_true rfl) dX11_chance_143 rfl ?_
                intro r_188 N_189 q_190
                obtain ⟨hI_N_189, hG_N_189, q_190c⟩ := q_190
                have hF_N_189 : Fr f_c_X11_chance M N_189 := Fr.c hF_N_186 hG_N_189 rfl
                subst q_190c
                exact kx_zret F hQ (by omega) ⟨hI_N_189, hF_N_189, (by omega)⟩ dX11_chance_146
              · refine kx_aload_n 99 F 0 dX11_chance_98 rfl rfl rfl ?_
                refine kx_aload 101 F 5 dX11_chance_99 rfl rfl ?_
                refine kx_iload_n 102 F 2 dX11_chance_101 rfl rfl rfl ?_
                refine kx_Vv 105 (ci := 0) F (As := [vR G r_27, vI a2]) (st := []) vd_X11_363 (c_X11_walkDrawn G l N_179 c0 r_27 a2 hI_N_179 hk_c0 hk_30 (by omega)) hk_c0 rfl rfl rfl ⟨by decide, by decide⟩ rfl rfl (Nat.le_of_ble_eq_true rfl) dX11_chance_102 rfl ?_
                intro N_191 q_192
                obtain ⟨hI_N_191, hG_N_191⟩ := q_192
                have hF_N_191 : Fr f_c_X11_chance M N_191 := Fr.c hF_N_179 hG_N_191 rfl
                refine kx_iload 107 F 6 dX11_chance_105 rfl rfl ?_
                refine kx_aload_n 108 F 0 dX11_chance_107 rfl rfl rfl ?_
                refine kx_getr 111 F fl_X11_61 hk_c0 rfl rfl (j := 12) rfl dX11_chance_108 (v := (M c0 12)) (by rw [Fr.e hG_N_191 hk_c0 _ rfl, Fr.e hF_N_179 hk_c0 _ rfl]) rfl ?_
                have hk_193 : kd (M c0 12) = 8 := Inv.r hI_M hk_c0 rfl 12 rfl rfl
                refine kx_aload 113 F 5 dX11_chance_111 rfl rfl ?_
                refine kx_Vi 116 (ci := 0) F (As := [vR G r_27]) (st := [vI x6_177]) vd_X11_234 (c_X10_isTaken G l N_191 (M c0 12) r_27 hI_N_191 hk_193 hk_30) hk_193 rfl rfl rfl ⟨by decide, by decide⟩ rfl rfl (Nat.le_of_ble_eq_true rfl) dX11_chance_113 rfl ?_
                intro r_194 N_195 q_196
                obtain ⟨rfl, q_196c⟩ := q_196
                have J_200 : ∀ (y0_199 : Int), 0 ≤ y0_199 ∧ y0_199 ≤ 1 → KJ false G X N_191 124 [some (vR G c0), none, some (vI a2), some (vI a3), none, some (vR G r_27), none, some (vI x7_178)] [vI y0_199, vI x6_177] := by
                  intro y0_199 h_201
                  refine kx_iadd 125 F (v := x6_177 + y0_199) dX11_chance_124 rfl rfl ?_
                  refine kx_wrapi (fun w_202 h_203 _ => ?_)
                  refine kx_istore 127 F 6 (lo' := [some (vR G c0), none, some (vI a2), some (vI a3), none, some (vR G r_27), some (vI w_202), some (vI x7_178)]) dX11_chance_125 (by decide) rfl rfl rfl ?_
                  refine kx_iinc 130 F 7 (v := x7_178 + 1) (lo' := [some (vR G c0), none, some (vI a2), some (vI a3), none, some (vR G r_27), some (vI w_202), some (vI (x7_178 + 1))]) dX11_chance_127 rfl (by omega) (by decide) rfl rfl rfl ?_
                  refine kx_goto 92 F dX11_chance_130 (by decide) ?_
                  exact ih_182 _ (by omega) w_202 (x7_178 + 1) N_191 hI_N_191 hF_N_191 (by omega) rfl
                refine kx_if_eq 119 F 123 dX11_chance_116 (by decide) rfl (by omega) (fun h_204 => ?_) (fun h_204 => ?_)
                · refine kx_iconst 124 F dX11_chance_123 rfl ?_
                  refine kx_drop 6 (lo' := [some (vR G c0), none, some (vI a2), some (vI a3), none, some (vR G r_27), none, some (vI x7_178)]) rfl ?_
                  exact J_200 0 (by omega)
                · refine kx_iconst 120 F dX11_chance_119 rfl ?_
                  refine kx_goto 124 F dX11_chance_120 (by decide) ?_
                  refine kx_drop 6 (lo' := [some (vR G c0), none, some (vI a2), some (vI a3), none, some (vR G r_27), none, some (vI x7_178)]) rfl ?_
                  exact J_200 1 (by omega)
            refine kx_drop 1 (lo' := [some (vR G c0), none, some (vI a2), some (vI a3), some (vI a4), some (vR G r_27), some (vI 0), some (vI 0)]) rfl ?_
            refine kx_drop 4 (lo' := [some (vR G c0), none, some (vI a2), some (vI a3), none, some (vR G r_27), some (vI 0), some (vI 0)]) rfl ?_
            exact L_180 _ 0 0 N_31 hI_N_31 hF_N_31 (by omega) rfl
          refine kx_if_ne 59 F 70 dX11_chance_56 (by decide) rfl (by omega) (fun h_205 => ?_) (fun h_205 => ?_)
          · exact J_25
          · refine kx_iload_n 60 F 2 dX11_chance_59 rfl rfl rfl ?_
            refine kx_if_le 63 F 70 dX11_chance_60 (by decide) rfl (by omega) (fun h_206 => ?_) (fun h_206 => ?_)
            · exact J_25
            · refine kx_aload_n 64 F 0 dX11_chance_63 rfl rfl rfl ?_
              refine kx_bipush 66 F dX11_chance_64 (by decide) rfl ?_
              refine kx_Vi 69 (ci := 0) F (As := [vI 6]) (st := []) vd_X11_91 (c_X11_deny G l M c0 6 hI_M hk_c0 (by omega)) hk_c0 rfl rfl rfl ⟨by decide, by decide⟩ rfl rfl (Nat.le_of_ble_eq_true rfl) dX11_chance_66 rfl ?_
              intro r_207 N_208 q_209
              obtain ⟨hI_N_208, hG_N_208, q_209c⟩ := q_209
              have hF_N_208 : Fr f_c_X11_chance M N_208 := Fr.c hF_M hG_N_208 rfl
              subst q_209c
              exact kx_zret F hQ (by omega) ⟨hI_N_208, hF_N_208, (by omega)⟩ dX11_chance_69
        · refine kx_if_ne 43 F 49 dX11_chance_40 (by decide) rfl (by omega) (fun h_210 => (by exfalso; omega)) (fun h_210 => ?_)
          refine kx_aload_n 44 F 0 dX11_chance_43 rfl rfl rfl ?_
          refine kx_iconst 45 F dX11_chance_44 rfl ?_
          refine kx_Vi 48 (ci := 0) F (As := [vI 1]) (st := []) vd_X11_91 (c_X11_deny G l M c0 1 hI_M hk_c0 (by omega)) hk_c0 rfl rfl rfl ⟨by decide, by decide⟩ rfl rfl (Nat.le_of_ble_eq_true rfl) dX11_chance_45 rfl ?_
          intro r_211 N_212 q_213
          obtain ⟨hI_N_212, hG_N_212, q_213c⟩ := q_213
          have hF_N_212 : Fr f_c_X11_chance M N_212 := Fr.c hF_M hG_N_212 rfl
          subst q_213c
          exact kx_zret F hQ (by omega) ⟨hI_N_212, hF_N_212, (by omega)⟩ dX11_chance_48
      · refine kx_if_eq 31 F 43 dX11_chance_28 (by decide) rfl (by omega) (fun h_214 => ?_) (fun h_214 => (by exfalso; omega))
        refine kx_aload_n 44 F 0 dX11_chance_43 rfl rfl rfl ?_
        refine kx_iconst 45 F dX11_chance_44 rfl ?_
        refine kx_Vi 48 (ci := 0) F (As := [vI 1]) (st := []) vd_X11_91 (c_X11_deny G l M c0 1 hI_M hk_c0 (by omega)) hk_c0 rfl rfl rfl ⟨by decide, by decide⟩ rfl rfl (Nat.le_of_ble_eq_true rfl) dX11_chance_45 rfl ?_
        intro r_215 N_216 q_217
        obtain ⟨hI_N_216, hG_N_216, q_217c⟩ := q_217
        have hF_N_216 : Fr f_c_X11_chance M N_216 := Fr.c hF_M hG_N_216 rfl
        subst q_217c
        exact kx_zret F hQ (by omega) ⟨hI_N_216, hF_N_216, (by omega)⟩ dX11_chance_48
    · refine kx_if_eq 21 F 43 dX11_chance_18 (by decide) rfl (by omega) (fun h_218 => ?_) (fun h_218 => (by exfalso; omega))
      refine kx_aload_n 44 F 0 dX11_chance_43 rfl rfl rfl ?_
      refine kx_iconst 45 F dX11_chance_44 rfl ?_
      refine kx_Vi 48 (ci := 0) F (As := [vI 1]) (st := []) vd_X11_91 (c_X11_deny G l M c0 1 hI_M hk_c0 (by omega)) hk_c0 rfl rfl rfl ⟨by decide, by decide⟩ rfl rfl (Nat.le_of_ble_eq_true rfl) dX11_chance_45 rfl ?_
      intro r_219 N_220 q_221
      obtain ⟨hI_N_220, hG_N_220, q_221c⟩ := q_221
      have hF_N_220 : Fr f_c_X11_chance M N_220 := Fr.c hF_M hG_N_220 rfl
      subst q_221c
      exact kx_zret F hQ (by omega) ⟨hI_N_220, hF_N_220, (by omega)⟩ dX11_chance_48
  · refine kx_if_eq 11 F 43 dX11_chance_8 (by decide) rfl (by omega) (fun h_222 => ?_) (fun h_222 => (by exfalso; omega))
    refine kx_aload_n 44 F 0 dX11_chance_43 rfl rfl rfl ?_
    refine kx_iconst 45 F dX11_chance_44 rfl ?_
    refine kx_Vi 48 (ci := 0) F (As := [vI 1]) (st := []) vd_X11_91 (c_X11_deny G l M c0 1 hI_M hk_c0 (by omega)) hk_c0 rfl rfl rfl ⟨by decide, by decide⟩ rfl rfl (Nat.le_of_ble_eq_true rfl) dX11_chance_45 rfl ?_
    intro r_223 N_224 q_225
    obtain ⟨hI_N_224, hG_N_224, q_225c⟩ := q_225
    have hF_N_224 : Fr f_c_X11_chance M N_224 := Fr.c hF_M hG_N_224 rfl
    subst q_225c
    exact kx_zret F hQ (by omega) ⟨hI_N_224, hF_N_224, (by omega)⟩ dX11_chance_48
theorem dX11_watch_0 : decode cX11_watch 0 = .ok (.aload_n 0, 1) := by decide +kernel
theorem dX11_watch_1 : decode cX11_watch 1 = .ok (.getfield 26, 3) := by decide +kernel
theorem dX11_watch_4 : decode cX11_watch 4 = .ok (.iload_n 1, 1) := by decide +kernel
theorem dX11_watch_5 : decode cX11_watch 5 = .ok (.invokevirtual 163, 3) := by decide +kernel
theorem dX11_watch_8 : decode cX11_watch 8 = .ok (.ifCond .ne 9, 3) := by decide +kernel
theorem dX11_watch_11 : decode cX11_watch 11 = .ok (.aload_n 0, 1) := by decide +kernel
theorem dX11_watch_12 : decode cX11_watch 12 = .ok (.iconst 1, 1) := by decide +kernel
theorem dX11_watch_13 : decode cX11_watch 13 = .ok (.invokevirtual 110, 3) := by decide +kernel
theorem dX11_watch_16 : decode cX11_watch 16 = .ok (.ireturn, 1) := by decide +kernel
theorem dX11_watch_17 : decode cX11_watch 17 = .ok (.aload_n 0, 1) := by decide +kernel
theorem dX11_watch_18 : decode cX11_watch 18 = .ok (.getfield 26, 3) := by decide +kernel
theorem dX11_watch_21 : decode cX11_watch 21 = .ok (.iload_n 1, 1) := by decide +kernel
theorem dX11_watch_22 : decode cX11_watch 22 = .ok (.invokevirtual 164, 3) := by decide +kernel
theorem dX11_watch_25 : decode cX11_watch 25 = .ok (.astore_n 2, 1) := by decide +kernel
theorem dX11_watch_26 : decode cX11_watch 26 = .ok (.aload_n 0, 1) := by decide +kernel
theorem dX11_watch_27 : decode cX11_watch 27 = .ok (.getfield 26, 3) := by decide +kernel
theorem dX11_watch_30 : decode cX11_watch 30 = .ok (.getfield 367, 3) := by decide +kernel
theorem dX11_watch_33 : decode cX11_watch 33 = .ok (.aload_n 2, 1) := by decide +kernel
theorem dX11_watch_34 : decode cX11_watch 34 = .ok (.invokevirtual 370, 3) := by decide +kernel
theorem dX11_watch_37 : decode cX11_watch 37 = .ok (.aload_n 0, 1) := by decide +kernel
theorem dX11_watch_38 : decode cX11_watch 38 = .ok (.getfield 26, 3) := by decide +kernel
theorem dX11_watch_41 : decode cX11_watch 41 = .ok (.getfield 367, 3) := by decide +kernel
theorem dX11_watch_44 : decode cX11_watch 44 = .ok (.iload_n 1, 1) := by decide +kernel
theorem dX11_watch_45 : decode cX11_watch 45 = .ok (.putfield 372, 3) := by decide +kernel
theorem dX11_watch_48 : decode cX11_watch 48 = .ok (.aload_n 0, 1) := by decide +kernel
theorem dX11_watch_49 : decode cX11_watch 49 = .ok (.aload_n 0, 1) := by decide +kernel
theorem dX11_watch_50 : decode cX11_watch 50 = .ok (.getfield 26, 3) := by decide +kernel
theorem dX11_watch_53 : decode cX11_watch 53 = .ok (.getfield 367, 3) := by decide +kernel
theorem dX11_watch_56 : decode cX11_watch 56 = .ok (.aload_n 2, 1) := by decide +kernel
theorem dX11_watch_57 : decode cX11_watch 57 = .ok (.invokevirtual 234, 3) := by decide +kernel
theorem dX11_watch_60 : decode cX11_watch 60 = .ok (.ifCond .eq 7, 3) := by decide +kernel
theorem dX11_watch_63 : decode cX11_watch 63 = .ok (.iconst 1, 1) := by decide +kernel
theorem dX11_watch_64 : decode cX11_watch 64 = .ok (.goto 4, 3) := by decide +kernel
theorem dX11_watch_67 : decode cX11_watch 67 = .ok (.iconst 0, 1) := by decide +kernel
theorem dX11_watch_68 : decode cX11_watch 68 = .ok (.invokevirtual 145, 3) := by decide +kernel
theorem dX11_watch_71 : decode cX11_watch 71 = .ok (.ireturn, 1) := by decide +kernel
abbrev f_c_X11_watch : List (Nat × Int) := [(8, 0), (8, 1), (8, 2), (8, 3), (8, 4), (62, 0)]
set_option maxHeartbeats 4000000 in
set_option maxRecDepth 100000 in
theorem c_X11_watch (G : KG) (l : Launch) (M : Mem) (c0 : Int) (a1 : Int) (hI_M : Inv false M) (hk_c0 : kd c0 = 62) (hpre : -2147483648 ≤ a1 ∧ a1 ≤ 2147483647) : KC false G l yX11_watch cX11_watch 3 (some .int) (2, 43) [vR G c0, vI a1] M (fun A => kQi false G A (fun (r : Int) (N : Mem) => Inv false N ∧ Fr f_c_X11_watch M N ∧ (r ≥ -1 ∧ r ≤ 1))) := by
  refine kx_met (lo := [some (vR G c0), some (vI a1), none]) (by decide) (Nat.le_of_ble_eq_true rfl) rfl ?_
  intro X F hQ
  have hF_M : Fr f_c_X11_watch M M := Fr.rf _ _
  refine kx_aload_n 1 F 0 dX11_watch_0 rfl rfl rfl ?_
  refine kx_getr 4 F fl_X11_26 hk_c0 rfl rfl (j := 5) rfl dX11_watch_1 (v := (M c0 5)) rfl rfl ?_
  have hk_1 : kd (M c0 5) = 12 := Inv.r hI_M hk_c0 rfl 5 rfl rfl
  refine kx_iload_n 5 F 1 dX11_watch_4 rfl rfl rfl ?_
  refine kx_Vi 8 (ci := 0) F (As := [vI a1]) (st := []) vd_X11_163 (c_X5_has G l M (M c0 5) a1 hI_M hk_1 (by omega)) hk_1 rfl rfl rfl ⟨by decide, by decide⟩ rfl rfl (Nat.le_of_ble_eq_true rfl) dX11_watch_5 rfl ?_
  intro r_2 N_3 q_4
  obtain ⟨rfl, q_4c⟩ := q_4
  have h_5 := Inv.g hI_M hk_1 rfl 3 (a := 0) (b := 2) rfl rfl
  rcases q_4c with q_4c | q_4c
  · refine kx_if_ne 11 F 17 dX11_watch_8 (by decide) rfl (by omega) (fun h_6 => ?_) (fun h_6 => (by exfalso; omega))
    refine kx_aload_n 18 F 0 dX11_watch_17 rfl rfl rfl ?_
    refine kx_getr 21 F fl_X11_26 hk_c0 rfl rfl (j := 5) rfl dX11_watch_18 (v := (M c0 5)) rfl rfl ?_
    refine kx_iload_n 22 F 1 dX11_watch_21 rfl rfl rfl ?_
    refine kx_Vr 25 (ci := 0) F (As := [vI a1]) (st := []) vd_X11_164 (c_X5_pick G l M (M c0 5) a1 hI_M hk_1 (by omega)) hk_1 rfl rfl rfl ⟨by decide, by decide⟩ rfl rfl (Nat.le_of_ble_eq_true rfl) dX11_watch_22 rfl ?_
    intro r_7 N_8 q_9
    obtain ⟨rfl, hk_10⟩ := q_9
    refine kx_astore_n 26 F 2 (lo' := [some (vR G c0), some (vI a1), some (vR G r_7)]) dX11_watch_25 rfl (by decide) rfl rfl rfl ?_
    refine kx_aload_n 27 F 0 dX11_watch_26 rfl rfl rfl ?_
    refine kx_getr 30 F fl_X11_26 hk_c0 rfl rfl (j := 5) rfl dX11_watch_27 (v := (M c0 5)) rfl rfl ?_
    refine kx_getr 33 F fl_X11_367 hk_1 rfl rfl (j := 6) rfl dX11_watch_30 (v := (M (M c0 5) 6)) rfl rfl ?_
    have hk_11 : kd (M (M c0 5) 6) = 8 := Inv.r hI_M hk_1 rfl 6 rfl rfl
    refine kx_aload_n 34 F 2 dX11_watch_33 rfl rfl rfl ?_
    refine kx_Vv 37 (ci := 0) F (As := [vR G r_7]) (st := []) vd_X11_370 (c_X10_begin G l M (M (M c0 5) 6) r_7 hI_M hk_11 hk_10) hk_11 rfl rfl rfl ⟨by decide, by decide⟩ rfl rfl (Nat.le_of_ble_eq_true rfl) dX11_watch_34 rfl ?_
    intro N_12 q_13
    obtain ⟨hI_N_12, hG_N_12⟩ := q_13
    have hF_N_12 : Fr f_c_X11_watch M N_12 := Fr.c hF_M hG_N_12 rfl
    refine kx_aload_n 38 F 0 dX11_watch_37 rfl rfl rfl ?_
    refine kx_getr 41 F fl_X11_26 hk_c0 rfl rfl (j := 5) rfl dX11_watch_38 (v := (M c0 5)) (by rw [Fr.e hG_N_12 hk_c0 _ rfl]) rfl ?_
    refine kx_getr 44 F fl_X11_367 hk_1 rfl rfl (j := 6) rfl dX11_watch_41 (v := (M (M c0 5) 6)) (by rw [Fr.e hG_N_12 hk_1 _ rfl]) rfl ?_
    refine kx_iload_n 45 F 1 dX11_watch_44 rfl rfl rfl ?_
    refine kx_puti 48 F fw_X11_372 rfl hk_11 rfl rfl (j := 0) rfl dX11_watch_45 rfl ?_
    intro N_14 hM_N_14
    have hI_N_14 : Inv false N_14 := Inv.u hI_N_12 hM_N_14 hk_11 (a := (-1)) (b := 1) rfl rfl rfl (by omega)
    have hF_N_14 : Fr f_c_X11_watch M N_14 := Fr.u hF_N_12 hM_N_14 hk_11 rfl
    refine kx_aload_n 49 F 0 dX11_watch_48 rfl rfl rfl ?_
    refine kx_aload_n 50 F 0 dX11_watch_49 rfl rfl rfl ?_
    refine kx_getr 53 F fl_X11_26 hk_c0 rfl rfl (j := 5) rfl dX11_watch_50 (v := (M c0 5)) (by rw [hM_N_14, mu_k hk_c0 hk_11 rfl, Fr.e hG_N_12 hk_c0 _ rfl]) rfl ?_
    refine kx_getr 56 F fl_X11_367 hk_1 rfl rfl (j := 6) rfl dX11_watch_53 (v := (M (M c0 5) 6)) (by rw [hM_N_14, mu_k hk_1 hk_11 rfl, Fr.e hG_N_12 hk_1 _ rfl]) rfl ?_
    refine kx_aload_n 57 F 2 dX11_watch_56 rfl rfl rfl ?_
    refine kx_Vi 60 (ci := 0) F (As := [vR G r_7]) (st := [vR G c0]) vd_X11_234 (c_X10_isTaken G l N_14 (M (M c0 5) 6) r_7 hI_N_14 hk_11 hk_10) hk_11 rfl rfl rfl ⟨by decide, by decide⟩ rfl rfl (Nat.le_of_ble_eq_true rfl) dX11_watch_57 rfl ?_
    intro r_15 N_16 q_17
    obtain ⟨rfl, q_17c⟩ := q_17
    refine kx_if_eq 63 F 67 dX11_watch_60 (by decide) rfl (by omega) (fun h_18 => ?_) (fun h_18 => ?_)
    · refine kx_iconst 68 F dX11_watch_67 rfl ?_
      refine kx_Vi 71 (ci := 0) F (As := [vI 0]) (st := []) vd_X11_145 (c_X11_answer G l N_14 c0 0 hI_N_14 hk_c0 (by omega)) hk_c0 rfl rfl rfl ⟨by decide, by decide⟩ rfl rfl (Nat.le_of_ble_eq_true rfl) dX11_watch_68 rfl ?_
      intro r_19 N_20 q_21
      obtain ⟨hI_N_20, hG_N_20, q_21c⟩ := q_21
      have hF_N_20 : Fr f_c_X11_watch M N_20 := Fr.c hF_N_14 hG_N_20 rfl
      exact kx_iret F hQ ⟨hI_N_20, hF_N_20, (by omega)⟩ dX11_watch_71
    · refine kx_iconst 64 F dX11_watch_63 rfl ?_
      refine kx_goto 68 F dX11_watch_64 (by decide) ?_
      refine kx_Vi 71 (ci := 0) F (As := [vI 1]) (st := []) vd_X11_145 (c_X11_answer G l N_14 c0 1 hI_N_14 hk_c0 (by omega)) hk_c0 rfl rfl rfl ⟨by decide, by decide⟩ rfl rfl (Nat.le_of_ble_eq_true rfl) dX11_watch_68 rfl ?_
      intro r_22 N_23 q_24
      obtain ⟨hI_N_23, hG_N_23, q_24c⟩ := q_24
      have hF_N_23 : Fr f_c_X11_watch M N_23 := Fr.c hF_N_14 hG_N_23 rfl
      exact kx_iret F hQ ⟨hI_N_23, hF_N_23, (by omega)⟩ dX11_watch_71
  · refine kx_if_ne 11 F 17 dX11_watch_8 (by decide) rfl (by omega) (fun h_25 => (by exfalso; omega)) (fun h_25 => ?_)
    refine kx_aload_n 12 F 0 dX11_watch_11 rfl rfl rfl ?_
    refine kx_iconst 13 F dX11_watch_12 rfl ?_
    refine kx_Vi 16 (ci := 0) F (As := [vI 1]) (st := []) vd_X11_110 (c_X11_refuse G l M c0 1 hI_M hk_c0 (by omega)) hk_c0 rfl rfl rfl ⟨by decide, by decide⟩ rfl rfl (Nat.le_of_ble_eq_true rfl) dX11_watch_13 rfl ?_
    intro r_26 N_27 q_28
    obtain ⟨hI_N_27, hG_N_27, q_28c⟩ := q_28
    have hF_N_27 : Fr f_c_X11_watch M N_27 := Fr.c hF_M hG_N_27 rfl
    subst q_28c
    exact kx_iret F hQ ⟨hI_N_27, hF_N_27, (by omega)⟩ dX11_watch_16
theorem dX11_see_0 : decode cX11_see 0 = .ok (.aload_n 0, 1) := by decide +kernel
theorem dX11_see_1 : decode cX11_see 1 = .ok (.getfield 26, 3) := by decide +kernel
theorem dX11_see_4 : decode cX11_see 4 = .ok (.iload_n 1, 1) := by decide +kernel
theorem dX11_see_5 : decode cX11_see 5 = .ok (.invokevirtual 286, 3) := by decide +kernel
theorem dX11_see_8 : decode cX11_see 8 = .ok (.ifCond .ne 9, 3) := by decide +kernel
theorem dX11_see_11 : decode cX11_see 11 = .ok (.aload_n 0, 1) := by decide +kernel
theorem dX11_see_12 : decode cX11_see 12 = .ok (.iconst 1, 1) := by decide +kernel
theorem dX11_see_13 : decode cX11_see 13 = .ok (.invokevirtual 110, 3) := by decide +kernel
theorem dX11_see_16 : decode cX11_see 16 = .ok (.ireturn, 1) := by decide +kernel
theorem dX11_see_17 : decode cX11_see 17 = .ok (.aload_n 0, 1) := by decide +kernel
theorem dX11_see_18 : decode cX11_see 18 = .ok (.getfield 26, 3) := by decide +kernel
theorem dX11_see_21 : decode cX11_see 21 = .ok (.getfield 367, 3) := by decide +kernel
theorem dX11_see_24 : decode cX11_see 24 = .ok (.astore_n 2, 1) := by decide +kernel
theorem dX11_see_25 : decode cX11_see 25 = .ok (.aload_n 2, 1) := by decide +kernel
theorem dX11_see_26 : decode cX11_see 26 = .ok (.getfield 372, 3) := by decide +kernel
theorem dX11_see_29 : decode cX11_see 29 = .ok (.iconst (-1), 1) := by decide +kernel
theorem dX11_see_30 : decode cX11_see 30 = .ok (.if_icmp .ne 10, 3) := by decide +kernel
theorem dX11_see_33 : decode cX11_see 33 = .ok (.aload_n 0, 1) := by decide +kernel
theorem dX11_see_34 : decode cX11_see 34 = .ok (.bipush 6, 2) := by decide +kernel
theorem dX11_see_36 : decode cX11_see 36 = .ok (.invokevirtual 110, 3) := by decide +kernel
theorem dX11_see_39 : decode cX11_see 39 = .ok (.ireturn, 1) := by decide +kernel
theorem dX11_see_40 : decode cX11_see 40 = .ok (.aload_n 0, 1) := by decide +kernel
theorem dX11_see_41 : decode cX11_see 41 = .ok (.getfield 26, 3) := by decide +kernel
theorem dX11_see_44 : decode cX11_see 44 = .ok (.iload_n 1, 1) := by decide +kernel
theorem dX11_see_45 : decode cX11_see 45 = .ok (.invokevirtual 242, 3) := by decide +kernel
theorem dX11_see_48 : decode cX11_see 48 = .ok (.istore_n 3, 1) := by decide +kernel
theorem dX11_see_49 : decode cX11_see 49 = .ok (.iload_n 3, 1) := by decide +kernel
theorem dX11_see_50 : decode cX11_see 50 = .ok (.ifCond .ne 18, 3) := by decide +kernel
theorem dX11_see_53 : decode cX11_see 53 = .ok (.aload_n 2, 1) := by decide +kernel
theorem dX11_see_54 : decode cX11_see 54 = .ok (.getfield 375, 3) := by decide +kernel
theorem dX11_see_57 : decode cX11_see 57 = .ok (.bipush 30, 2) := by decide +kernel
theorem dX11_see_59 : decode cX11_see 59 = .ok (.if_icmp .lt 9, 3) := by decide +kernel
theorem dX11_see_62 : decode cX11_see 62 = .ok (.aload_n 0, 1) := by decide +kernel
theorem dX11_see_63 : decode cX11_see 63 = .ok (.iconst 4, 1) := by decide +kernel
theorem dX11_see_64 : decode cX11_see 64 = .ok (.invokevirtual 110, 3) := by decide +kernel
theorem dX11_see_67 : decode cX11_see 67 = .ok (.ireturn, 1) := by decide +kernel
theorem dX11_see_68 : decode cX11_see 68 = .ok (.aload_n 0, 1) := by decide +kernel
theorem dX11_see_69 : decode cX11_see 69 = .ok (.getfield 26, 3) := by decide +kernel
theorem dX11_see_72 : decode cX11_see 72 = .ok (.aload_n 2, 1) := by decide +kernel
theorem dX11_see_73 : decode cX11_see 73 = .ok (.getfield 372, 3) := by decide +kernel
theorem dX11_see_76 : decode cX11_see 76 = .ok (.invokevirtual 164, 3) := by decide +kernel
theorem dX11_see_79 : decode cX11_see 79 = .ok (.astore 4, 2) := by decide +kernel
theorem dX11_see_81 : decode cX11_see 81 = .ok (.aload_n 2, 1) := by decide +kernel
theorem dX11_see_82 : decode cX11_see 82 = .ok (.aload 4, 2) := by decide +kernel
theorem dX11_see_84 : decode cX11_see 84 = .ok (.iload_n 1, 1) := by decide +kernel
theorem dX11_see_85 : decode cX11_see 85 = .ok (.iload_n 3, 1) := by decide +kernel
theorem dX11_see_86 : decode cX11_see 86 = .ok (.invokevirtual 378, 3) := by decide +kernel
theorem dX11_see_89 : decode cX11_see 89 = .ok (.aload_n 0, 1) := by decide +kernel
theorem dX11_see_90 : decode cX11_see 90 = .ok (.aload_n 2, 1) := by decide +kernel
theorem dX11_see_91 : decode cX11_see 91 = .ok (.aload 4, 2) := by decide +kernel
theorem dX11_see_93 : decode cX11_see 93 = .ok (.invokevirtual 234, 3) := by decide +kernel
theorem dX11_see_96 : decode cX11_see 96 = .ok (.ifCond .eq 7, 3) := by decide +kernel
theorem dX11_see_99 : decode cX11_see 99 = .ok (.iconst 1, 1) := by decide +kernel
theorem dX11_see_100 : decode cX11_see 100 = .ok (.goto 4, 3) := by decide +kernel
theorem dX11_see_103 : decode cX11_see 103 = .ok (.iconst 0, 1) := by decide +kernel
theorem dX11_see_104 : decode cX11_see 104 = .ok (.invokevirtual 145, 3) := by decide +kernel
theorem dX11_see_107 : decode cX11_see 107 = .ok (.ireturn, 1) := by decide +kernel
abbrev f_c_X11_see : List (Nat × Int) := [(8, 1), (8, 2), (8, 3), (8, 4), (9, -1), (10, -1), (11, -1), (62, 0)]
set_option maxHeartbeats 4000000 in
set_option maxRecDepth 100000 in
theorem c_X11_see (G : KG) (l : Launch) (M : Mem) (c0 : Int) (a1 : Int) (hI_M : Inv false M) (hk_c0 : kd c0 = 62) (hpre : -2147483648 ≤ a1 ∧ a1 ≤ 2147483647) : KC false G l yX11_see cX11_see 5 (some .int) (3, 72) [vR G c0, vI a1] M (fun A => kQi false G A (fun (r : Int) (N : Mem) => Inv false N ∧ Fr f_c_X11_see M N ∧ (r ≥ -1 ∧ r ≤ 1))) := by
  refine kx_met (lo := [some (vR G c0), some (vI a1), none, none, none]) (by decide) (Nat.le_of_ble_eq_true rfl) rfl ?_
  intro X F hQ
  have hF_M : Fr f_c_X11_see M M := Fr.rf _ _
  refine kx_aload_n 1 F 0 dX11_see_0 rfl rfl rfl ?_
  refine kx_getr 4 F fl_X11_26 hk_c0 rfl rfl (j := 5) rfl dX11_see_1 (v := (M c0 5)) rfl rfl ?_
  have hk_1 : kd (M c0 5) = 12 := Inv.r hI_M hk_c0 rfl 5 rfl rfl
  refine kx_iload_n 5 F 1 dX11_see_4 rfl rfl rfl ?_
  refine kx_Vi 8 (ci := 0) F (As := [vI a1]) (st := []) vd_X11_286 (c_X5_hasLetter G l M (M c0 5) a1 hI_M hk_1 (by omega)) hk_1 rfl rfl rfl ⟨by decide, by decide⟩ rfl rfl (Nat.le_of_ble_eq_true rfl) dX11_see_5 rfl ?_
  intro r_2 N_3 q_4
  obtain ⟨rfl, q_4c⟩ := q_4
  have h_5 := Inv.g hI_M hk_1 rfl 2 (a := 0) (b := 6) rfl rfl
  rcases q_4c with q_4c | q_4c
  · refine kx_if_ne 11 F 17 dX11_see_8 (by decide) rfl (by omega) (fun h_6 => ?_) (fun h_6 => (by exfalso; omega))
    refine kx_aload_n 18 F 0 dX11_see_17 rfl rfl rfl ?_
    refine kx_getr 21 F fl_X11_26 hk_c0 rfl rfl (j := 5) rfl dX11_see_18 (v := (M c0 5)) rfl rfl ?_
    refine kx_getr 24 F fl_X11_367 hk_1 rfl rfl (j := 6) rfl dX11_see_21 (v := (M (M c0 5) 6)) rfl rfl ?_
    have hk_7 : kd (M (M c0 5) 6) = 8 := Inv.r hI_M hk_1 rfl 6 rfl rfl
    refine kx_astore_n 25 F 2 (lo' := [some (vR G c0), some (vI a1), some (vR G (M (M c0 5) 6)), none, none]) dX11_see_24 rfl (by decide) rfl rfl rfl ?_
    refine kx_aload_n 26 F 2 dX11_see_25 rfl rfl rfl ?_
    refine kx_geti 29 F fl_X11_372 hk_7 rfl rfl (j := 0) rfl dX11_see_26 (v := (M (M (M c0 5) 6) 0)) rfl rfl ?_
    have h_8 := Inv.g hI_M hk_7 rfl 0 (a := (-1)) (b := 1) rfl rfl
    refine kx_iconst 30 F dX11_see_29 rfl ?_
    refine kx_icmp_ne 33 F 40 dX11_see_30 (by decide) rfl (by omega) (by decide) (fun h_9 => ?_) (fun h_9 => ?_)
    · refine kx_aload_n 41 F 0 dX11_see_40 rfl rfl rfl ?_
      refine kx_getr 44 F fl_X11_26 hk_c0 rfl rfl (j := 5) rfl dX11_see_41 (v := (M c0 5)) rfl rfl ?_
      refine kx_iload_n 45 F 1 dX11_see_44 rfl rfl rfl ?_
      refine kx_Vi 48 (ci := 0) F (As := [vI a1]) (st := []) vd_X11_242 (c_X5_sortOf G l M (M c0 5) a1 hI_M hk_1 (by omega)) hk_1 rfl rfl rfl ⟨by decide, by decide⟩ rfl rfl (Nat.le_of_ble_eq_true rfl) dX11_see_45 rfl ?_
      intro r_10 N_11 q_12
      obtain ⟨rfl, q_12c⟩ := q_12
      rcases q_12c with q_12c | q_12c
      · refine kx_istore_n 49 F 3 (lo' := [some (vR G c0), some (vI a1), some (vR G (M (M c0 5) 6)), some (vI r_10), none]) dX11_see_48 rfl (by decide) rfl rfl rfl ?_
        refine kx_iload_n 50 F 3 dX11_see_49 rfl rfl rfl ?_
        have J_14 : KJ false G X M 68 [some (vR G c0), some (vI a1), some (vR G (M (M c0 5) 6)), some (vI r_10), none] [] := by
          refine kx_aload_n 69 F 0 dX11_see_68 rfl rfl rfl ?_
          refine kx_getr 72 F fl_X11_26 hk_c0 rfl rfl (j := 5) rfl dX11_see_69 (v := (M c0 5)) rfl rfl ?_
          refine kx_aload_n 73 F 2 dX11_see_72 rfl rfl rfl ?_
          refine kx_geti 76 F fl_X11_372 hk_7 rfl rfl (j := 0) rfl dX11_see_73 (v := (M (M (M c0 5) 6) 0)) rfl rfl ?_
          refine kx_Vr 79 (ci := 0) F (As := [vI (M (M (M c0 5) 6) 0)]) (st := []) vd_X11_164 (c_X5_pick G l M (M c0 5) (M (M (M c0 5) 6) 0) hI_M hk_1 (by omega)) hk_1 rfl rfl rfl ⟨by decide, by decide⟩ rfl rfl (Nat.le_of_ble_eq_true rfl) dX11_see_76 rfl ?_
          intro r_16 N_17 q_18
          obtain ⟨rfl, hk_19⟩ := q_18
          refine kx_astore 81 F 4 (lo' := [some (vR G c0), some (vI a1), some (vR G (M (M c0 5) 6)), some (vI r_10), some (vR G r_16)]) dX11_see_79 (by decide) rfl rfl rfl ?_
          refine kx_aload_n 82 F 2 dX11_see_81 rfl rfl rfl ?_
          refine kx_aload 84 F 4 dX11_see_82 rfl rfl ?_
          refine kx_iload_n 85 F 1 dX11_see_84 rfl rfl rfl ?_
          refine kx_iload_n 86 F 3 dX11_see_85 rfl rfl rfl ?_
          refine kx_Vv 89 (ci := 0) F (As := [vR G r_16, vI a1, vI r_10]) (st := []) vd_X11_378 (c_X10_go G l M (M (M c0 5) 6) r_16 a1 r_10 hI_M hk_7 hk_19 (by omega)) hk_7 rfl rfl rfl ⟨by decide, by decide⟩ rfl rfl (Nat.le_of_ble_eq_true rfl) dX11_see_86 rfl ?_
          intro N_20 q_21
          obtain ⟨hI_N_20, hG_N_20⟩ := q_21
          have hF_N_20 : Fr f_c_X11_see M N_20 := Fr.c hF_M hG_N_20 rfl
          refine kx_aload_n 90 F 0 dX11_see_89 rfl rfl rfl ?_
          refine kx_aload_n 91 F 2 dX11_see_90 rfl rfl rfl ?_
          refine kx_aload 93 F 4 dX11_see_91 rfl rfl ?_
          refine kx_Vi 96 (ci := 0) F (As := [vR G r_16]) (st := [vR G c0]) vd_X11_234 (c_X10_isTaken G l N_20 (M (M c0 5) 6) r_16 hI_N_20 hk_7 hk_19) hk_7 rfl rfl rfl ⟨by decide, by decide⟩ rfl rfl (Nat.le_of_ble_eq_true rfl) dX11_see_93 rfl ?_
          intro r_22 N_23 q_24
          obtain ⟨rfl, q_24c⟩ := q_24
          refine kx_if_eq 99 F 103 dX11_see_96 (by decide) rfl (by omega) (fun h_25 => ?_) (fun h_25 => ?_)
          · refine kx_iconst 104 F dX11_see_103 rfl ?_
            refine kx_Vi 107 (ci := 0) F (As := [vI 0]) (st := []) vd_X11_145 (c_X11_answer G l N_20 c0 0 hI_N_20 hk_c0 (by omega)) hk_c0 rfl rfl rfl ⟨by decide, by decide⟩ rfl rfl (Nat.le_of_ble_eq_true rfl) dX11_see_104 rfl ?_
            intro r_26 N_27 q_28
            obtain ⟨hI_N_27, hG_N_27, q_28c⟩ := q_28
            have hF_N_27 : Fr f_c_X11_see M N_27 := Fr.c hF_N_20 hG_N_27 rfl
            exact kx_iret F hQ ⟨hI_N_27, hF_N_27, (by omega)⟩ dX11_see_107
          · refine kx_iconst 100 F dX11_see_99 rfl ?_
            refine kx_goto 104 F dX11_see_100 (by decide) ?_
            refine kx_Vi 107 (ci := 0) F (As := [vI 1]) (st := []) vd_X11_145 (c_X11_answer G l N_20 c0 1 hI_N_20 hk_c0 (by omega)) hk_c0 rfl rfl rfl ⟨by decide, by decide⟩ rfl rfl (Nat.le_of_ble_eq_true rfl) dX11_see_104 rfl ?_
            intro r_29 N_30 q_31
            obtain ⟨hI_N_30, hG_N_30, q_31c⟩ := q_31
            have hF_N_30 : Fr f_c_X11_see M N_30 := Fr.c hF_N_20 hG_N_30 rfl
            exact kx_iret F hQ ⟨hI_N_30, hF_N_30, (by omega)⟩ dX11_see_107
        refine kx_if_ne 53 F 68 dX11_see_50 (by decide) rfl (by omega) (fun h_32 => ?_) (fun h_32 => (by exfalso; omega))
        exact J_14 
      · refine kx_istore_n 49 F 3 (lo' := [some (vR G c0), some (vI a1), some (vR G (M (M c0 5) 6)), some (vI r_10), none]) dX11_see_48 rfl (by decide) rfl rfl rfl ?_
        refine kx_iload_n 50 F 3 dX11_see_49 rfl rfl rfl ?_
        have J_39 : KJ false G X M 68 [some (vR G c0), some (vI a1), some (vR G (M (M c0 5) 6)), some (vI r_10), none] [] := by
          refine kx_aload_n 69 F 0 dX11_see_68 rfl rfl rfl ?_
          refine kx_getr 72 F fl_X11_26 hk_c0 rfl rfl (j := 5) rfl dX11_see_69 (v := (M c0 5)) rfl rfl ?_
          refine kx_aload_n 73 F 2 dX11_see_72 rfl rfl rfl ?_
          refine kx_geti 76 F fl_X11_372 hk_7 rfl rfl (j := 0) rfl dX11_see_73 (v := (M (M (M c0 5) 6) 0)) rfl rfl ?_
          refine kx_Vr 79 (ci := 0) F (As := [vI (M (M (M c0 5) 6) 0)]) (st := []) vd_X11_164 (c_X5_pick G l M (M c0 5) (M (M (M c0 5) 6) 0) hI_M hk_1 (by omega)) hk_1 rfl rfl rfl ⟨by decide, by decide⟩ rfl rfl (Nat.le_of_ble_eq_true rfl) dX11_see_76 rfl ?_
          intro r_41 N_42 q_43
          obtain ⟨rfl, hk_44⟩ := q_43
          refine kx_astore 81 F 4 (lo' := [some (vR G c0), some (vI a1), some (vR G (M (M c0 5) 6)), some (vI r_10), some (vR G r_41)]) dX11_see_79 (by decide) rfl rfl rfl ?_
          refine kx_aload_n 82 F 2 dX11_see_81 rfl rfl rfl ?_
          refine kx_aload 84 F 4 dX11_see_82 rfl rfl ?_
          refine kx_iload_n 85 F 1 dX11_see_84 rfl rfl rfl ?_
          refine kx_iload_n 86 F 3 dX11_see_85 rfl rfl rfl ?_
          refine kx_Vv 89 (ci := 0) F (As := [vR G r_41, vI a1, vI r_10]) (st := []) vd_X11_378 (c_X10_go G l M (M (M c0 5) 6) r_41 a1 r_10 hI_M hk_7 hk_44 (by omega)) hk_7 rfl rfl rfl ⟨by decide, by decide⟩ rfl rfl (Nat.le_of_ble_eq_true rfl) dX11_see_86 rfl ?_
          intro N_45 q_46
          obtain ⟨hI_N_45, hG_N_45⟩ := q_46
          have hF_N_45 : Fr f_c_X11_see M N_45 := Fr.c hF_M hG_N_45 rfl
          refine kx_aload_n 90 F 0 dX11_see_89 rfl rfl rfl ?_
          refine kx_aload_n 91 F 2 dX11_see_90 rfl rfl rfl ?_
          refine kx_aload 93 F 4 dX11_see_91 rfl rfl ?_
          refine kx_Vi 96 (ci := 0) F (As := [vR G r_41]) (st := [vR G c0]) vd_X11_234 (c_X10_isTaken G l N_45 (M (M c0 5) 6) r_41 hI_N_45 hk_7 hk_44) hk_7 rfl rfl rfl ⟨by decide, by decide⟩ rfl rfl (Nat.le_of_ble_eq_true rfl) dX11_see_93 rfl ?_
          intro r_47 N_48 q_49
          obtain ⟨rfl, q_49c⟩ := q_49
          refine kx_if_eq 99 F 103 dX11_see_96 (by decide) rfl (by omega) (fun h_50 => ?_) (fun h_50 => ?_)
          · refine kx_iconst 104 F dX11_see_103 rfl ?_
            refine kx_Vi 107 (ci := 0) F (As := [vI 0]) (st := []) vd_X11_145 (c_X11_answer G l N_45 c0 0 hI_N_45 hk_c0 (by omega)) hk_c0 rfl rfl rfl ⟨by decide, by decide⟩ rfl rfl (Nat.le_of_ble_eq_true rfl) dX11_see_104 rfl ?_
            intro r_51 N_52 q_53
            obtain ⟨hI_N_52, hG_N_52, q_53c⟩ := q_53
            have hF_N_52 : Fr f_c_X11_see M N_52 := Fr.c hF_N_45 hG_N_52 rfl
            exact kx_iret F hQ ⟨hI_N_52, hF_N_52, (by omega)⟩ dX11_see_107
          · refine kx_iconst 100 F dX11_see_99 rfl ?_
            refine kx_goto 104 F dX11_see_100 (by decide) ?_
            refine kx_Vi 107 (ci := 0) F (As := [vI 1]) (st := []) vd_X11_145 (c_X11_answer G l N_45 c0 1 hI_N_45 hk_c0 (by omega)) hk_c0 rfl rfl rfl ⟨by decide, by decide⟩ rfl rfl (Nat.le_of_ble_eq_true rfl) dX11_see_104 rfl ?_
            intro r_54 N_55 q_56
            obtain ⟨hI_N_55, hG_N_55, q_56c⟩ := q_56
            have hF_N_55 : Fr f_c_X11_see M N_55 := Fr.c hF_N_45 hG_N_55 rfl
            exact kx_iret F hQ ⟨hI_N_55, hF_N_55, (by omega)⟩ dX11_see_107
        refine kx_if_ne 53 F 68 dX11_see_50 (by decide) rfl (by omega) (fun h_57 => ?_) (fun h_57 => ?_)
        · exact J_39
        · refine kx_aload_n 54 F 2 dX11_see_53 rfl rfl rfl ?_
          refine kx_geti 57 F fl_X11_375 hk_7 rfl rfl (j := 2) rfl dX11_see_54 (v := (M (M (M c0 5) 6) 2)) rfl rfl ?_
          have h_58 := Inv.g hI_M hk_7 rfl 2 (a := 0) (b := 30) rfl rfl
          refine kx_bipush 59 F dX11_see_57 (by decide) rfl ?_
          refine kx_icmp_lt 62 F 68 dX11_see_59 (by decide) rfl (by omega) (by decide) (fun h_59 => ?_) (fun h_59 => ?_)
          · exact J_39
          · refine kx_aload_n 63 F 0 dX11_see_62 rfl rfl rfl ?_
            refine kx_iconst 64 F dX11_see_63 rfl ?_
            refine kx_Vi 67 (ci := 0) F (As := [vI 4]) (st := []) vd_X11_110 (c_X11_refuse G l M c0 4 hI_M hk_c0 (by omega)) hk_c0 rfl rfl rfl ⟨by decide, by decide⟩ rfl rfl (Nat.le_of_ble_eq_true rfl) dX11_see_64 rfl ?_
            intro r_60 N_61 q_62
            obtain ⟨hI_N_61, hG_N_61, q_62c⟩ := q_62
            have hF_N_61 : Fr f_c_X11_see M N_61 := Fr.c hF_M hG_N_61 rfl
            subst q_62c
            exact kx_iret F hQ ⟨hI_N_61, hF_N_61, (by omega)⟩ dX11_see_67
    · refine kx_aload_n 34 F 0 dX11_see_33 rfl rfl rfl ?_
      refine kx_bipush 36 F dX11_see_34 (by decide) rfl ?_
      refine kx_Vi 39 (ci := 0) F (As := [vI 6]) (st := []) vd_X11_110 (c_X11_refuse G l M c0 6 hI_M hk_c0 (by omega)) hk_c0 rfl rfl rfl ⟨by decide, by decide⟩ rfl rfl (Nat.le_of_ble_eq_true rfl) dX11_see_36 rfl ?_
      intro r_63 N_64 q_65
      obtain ⟨hI_N_64, hG_N_64, q_65c⟩ := q_65
      have hF_N_64 : Fr f_c_X11_see M N_64 := Fr.c hF_M hG_N_64 rfl
      subst q_65c
      exact kx_iret F hQ ⟨hI_N_64, hF_N_64, (by omega)⟩ dX11_see_39
  · refine kx_if_ne 11 F 17 dX11_see_8 (by decide) rfl (by omega) (fun h_66 => (by exfalso; omega)) (fun h_66 => ?_)
    refine kx_aload_n 12 F 0 dX11_see_11 rfl rfl rfl ?_
    refine kx_iconst 13 F dX11_see_12 rfl ?_
    refine kx_Vi 16 (ci := 0) F (As := [vI 1]) (st := []) vd_X11_110 (c_X11_refuse G l M c0 1 hI_M hk_c0 (by omega)) hk_c0 rfl rfl rfl ⟨by decide, by decide⟩ rfl rfl (Nat.le_of_ble_eq_true rfl) dX11_see_13 rfl ?_
    intro r_67 N_68 q_69
    obtain ⟨hI_N_68, hG_N_68, q_69c⟩ := q_69
    have hF_N_68 : Fr f_c_X11_see M N_68 := Fr.c hF_M hG_N_68 rfl
    subst q_69c
    exact kx_iret F hQ ⟨hI_N_68, hF_N_68, (by omega)⟩ dX11_see_16
theorem dX11_seen_0 : decode cX11_seen 0 = .ok (.iload_n 1, 1) := by decide +kernel
theorem dX11_seen_1 : decode cX11_seen 1 = .ok (.iconst 0, 1) := by decide +kernel
theorem dX11_seen_2 : decode cX11_seen 2 = .ok (.iconst 4, 1) := by decide +kernel
theorem dX11_seen_3 : decode cX11_seen 3 = .ok (.invokestatic 87, 3) := by decide +kernel
theorem dX11_seen_6 : decode cX11_seen 6 = .ok (.ifCond .ne 9, 3) := by decide +kernel
theorem dX11_seen_9 : decode cX11_seen 9 = .ok (.aload_n 0, 1) := by decide +kernel
theorem dX11_seen_10 : decode cX11_seen 10 = .ok (.iconst 1, 1) := by decide +kernel
theorem dX11_seen_11 : decode cX11_seen 11 = .ok (.invokevirtual 110, 3) := by decide +kernel
theorem dX11_seen_14 : decode cX11_seen 14 = .ok (.ireturn, 1) := by decide +kernel
theorem dX11_seen_15 : decode cX11_seen 15 = .ok (.aload_n 0, 1) := by decide +kernel
theorem dX11_seen_16 : decode cX11_seen 16 = .ok (.getfield 26, 3) := by decide +kernel
theorem dX11_seen_19 : decode cX11_seen 19 = .ok (.getfield 367, 3) := by decide +kernel
theorem dX11_seen_22 : decode cX11_seen 22 = .ok (.astore_n 2, 1) := by decide +kernel
theorem dX11_seen_23 : decode cX11_seen 23 = .ok (.aload_n 2, 1) := by decide +kernel
theorem dX11_seen_24 : decode cX11_seen 24 = .ok (.getfield 372, 3) := by decide +kernel
theorem dX11_seen_27 : decode cX11_seen 27 = .ok (.iconst (-1), 1) := by decide +kernel
theorem dX11_seen_28 : decode cX11_seen 28 = .ok (.if_icmp .ne 10, 3) := by decide +kernel
theorem dX11_seen_31 : decode cX11_seen 31 = .ok (.aload_n 0, 1) := by decide +kernel
theorem dX11_seen_32 : decode cX11_seen 32 = .ok (.bipush 6, 2) := by decide +kernel
theorem dX11_seen_34 : decode cX11_seen 34 = .ok (.invokevirtual 110, 3) := by decide +kernel
theorem dX11_seen_37 : decode cX11_seen 37 = .ok (.ireturn, 1) := by decide +kernel
theorem dX11_seen_38 : decode cX11_seen 38 = .ok (.iload_n 1, 1) := by decide +kernel
theorem dX11_seen_39 : decode cX11_seen 39 = .ok (.tableswitch 65 0 3 #[29, 38, 47, 56], 29) := by decide +kernel
theorem dX11_seen_68 : decode cX11_seen 68 = .ok (.aload_n 0, 1) := by decide +kernel
theorem dX11_seen_69 : decode cX11_seen 69 = .ok (.aload_n 2, 1) := by decide +kernel
theorem dX11_seen_70 : decode cX11_seen 70 = .ok (.getfield 372, 3) := by decide +kernel
theorem dX11_seen_73 : decode cX11_seen 73 = .ok (.invokevirtual 145, 3) := by decide +kernel
theorem dX11_seen_76 : decode cX11_seen 76 = .ok (.ireturn, 1) := by decide +kernel
theorem dX11_seen_77 : decode cX11_seen 77 = .ok (.aload_n 0, 1) := by decide +kernel
theorem dX11_seen_78 : decode cX11_seen 78 = .ok (.aload_n 2, 1) := by decide +kernel
theorem dX11_seen_79 : decode cX11_seen 79 = .ok (.getfield 379, 3) := by decide +kernel
theorem dX11_seen_82 : decode cX11_seen 82 = .ok (.invokevirtual 145, 3) := by decide +kernel
theorem dX11_seen_85 : decode cX11_seen 85 = .ok (.ireturn, 1) := by decide +kernel
theorem dX11_seen_86 : decode cX11_seen 86 = .ok (.aload_n 0, 1) := by decide +kernel
theorem dX11_seen_87 : decode cX11_seen 87 = .ok (.aload_n 2, 1) := by decide +kernel
theorem dX11_seen_88 : decode cX11_seen 88 = .ok (.getfield 375, 3) := by decide +kernel
theorem dX11_seen_91 : decode cX11_seen 91 = .ok (.invokevirtual 145, 3) := by decide +kernel
theorem dX11_seen_94 : decode cX11_seen 94 = .ok (.ireturn, 1) := by decide +kernel
theorem dX11_seen_95 : decode cX11_seen 95 = .ok (.aload_n 0, 1) := by decide +kernel
theorem dX11_seen_96 : decode cX11_seen 96 = .ok (.aload_n 2, 1) := by decide +kernel
theorem dX11_seen_97 : decode cX11_seen 97 = .ok (.getfield 238, 3) := by decide +kernel
theorem dX11_seen_100 : decode cX11_seen 100 = .ok (.invokevirtual 145, 3) := by decide +kernel
theorem dX11_seen_103 : decode cX11_seen 103 = .ok (.ireturn, 1) := by decide +kernel
theorem dX11_seen_104 : decode cX11_seen 104 = .ok (.aload_n 0, 1) := by decide +kernel
theorem dX11_seen_105 : decode cX11_seen 105 = .ok (.aload_n 2, 1) := by decide +kernel
theorem dX11_seen_106 : decode cX11_seen 106 = .ok (.aload_n 0, 1) := by decide +kernel
theorem dX11_seen_107 : decode cX11_seen 107 = .ok (.getfield 26, 3) := by decide +kernel
theorem dX11_seen_110 : decode cX11_seen 110 = .ok (.aload_n 2, 1) := by decide +kernel
theorem dX11_seen_111 : decode cX11_seen 111 = .ok (.getfield 372, 3) := by decide +kernel
theorem dX11_seen_114 : decode cX11_seen 114 = .ok (.invokevirtual 164, 3) := by decide +kernel
theorem dX11_seen_117 : decode cX11_seen 117 = .ok (.invokevirtual 234, 3) := by decide +kernel
theorem dX11_seen_120 : decode cX11_seen 120 = .ok (.ifCond .eq 7, 3) := by decide +kernel
theorem dX11_seen_123 : decode cX11_seen 123 = .ok (.iconst 1, 1) := by decide +kernel
theorem dX11_seen_124 : decode cX11_seen 124 = .ok (.goto 4, 3) := by decide +kernel
theorem dX11_seen_127 : decode cX11_seen 127 = .ok (.iconst 0, 1) := by decide +kernel
theorem dX11_seen_128 : decode cX11_seen 128 = .ok (.invokevirtual 145, 3) := by decide +kernel
theorem dX11_seen_131 : decode cX11_seen 131 = .ok (.ireturn, 1) := by decide +kernel
abbrev f_c_X11_seen : List (Nat × Int) := [(62, 0)]
set_option maxHeartbeats 4000000 in
set_option maxRecDepth 100000 in
theorem c_X11_seen (G : KG) (l : Launch) (M : Mem) (c0 : Int) (a1 : Int) (hI_M : Inv false M) (hk_c0 : kd c0 = 62) (hpre : -2147483648 ≤ a1 ∧ a1 ≤ 2147483647) : KC false G l yX11_seen cX11_seen 3 (some .int) (1, 22) [vR G c0, vI a1] M (fun A => kQi false G A (fun (r : Int) (N : Mem) => Inv false N ∧ Fr f_c_X11_seen M N ∧ (r ≥ -2147483648 ∧ r ≤ 2147483647))) := by
  refine kx_met (lo := [some (vR G c0), some (vI a1), none]) (by decide) (Nat.le_of_ble_eq_true rfl) rfl ?_
  intro X F hQ
  have hF_M : Fr f_c_X11_seen M M := Fr.rf _ _
  refine kx_iload_n 1 F 1 dX11_seen_0 rfl rfl rfl ?_
  refine kx_iconst 2 F dX11_seen_1 rfl ?_
  refine kx_iconst 3 F dX11_seen_2 rfl ?_
  refine kx_Si 6 F (As := [vI a1, vI 0, vI 4]) (st := []) sd_X11_87 (c_X11_within G l M a1 0 4 hI_M (by omega)) ⟨by decide, by decide⟩ rfl rfl (Nat.le_of_ble_eq_true rfl) dX11_seen_3 rfl ?_
  intro r_1 N_2 q_3
  obtain ⟨rfl, q_3c⟩ := q_3
  rcases q_3c with q_3c | q_3c
  · refine kx_if_ne 9 F 15 dX11_seen_6 (by decide) rfl (by omega) (fun h_4 => ?_) (fun h_4 => (by exfalso; omega))
    refine kx_aload_n 16 F 0 dX11_seen_15 rfl rfl rfl ?_
    refine kx_getr 19 F fl_X11_26 hk_c0 rfl rfl (j := 5) rfl dX11_seen_16 (v := (M c0 5)) rfl rfl ?_
    have hk_5 : kd (M c0 5) = 12 := Inv.r hI_M hk_c0 rfl 5 rfl rfl
    refine kx_getr 22 F fl_X11_367 hk_5 rfl rfl (j := 6) rfl dX11_seen_19 (v := (M (M c0 5) 6)) rfl rfl ?_
    have hk_6 : kd (M (M c0 5) 6) = 8 := Inv.r hI_M hk_5 rfl 6 rfl rfl
    refine kx_astore_n 23 F 2 (lo' := [some (vR G c0), some (vI a1), some (vR G (M (M c0 5) 6))]) dX11_seen_22 rfl (by decide) rfl rfl rfl ?_
    refine kx_aload_n 24 F 2 dX11_seen_23 rfl rfl rfl ?_
    refine kx_geti 27 F fl_X11_372 hk_6 rfl rfl (j := 0) rfl dX11_seen_24 (v := (M (M (M c0 5) 6) 0)) rfl rfl ?_
    have h_7 := Inv.g hI_M hk_6 rfl 0 (a := (-1)) (b := 1) rfl rfl
    refine kx_iconst 28 F dX11_seen_27 rfl ?_
    refine kx_icmp_ne 31 F 38 dX11_seen_28 (by decide) rfl (by omega) (by decide) (fun h_8 => ?_) (fun h_8 => ?_)
    · refine kx_iload_n 39 F 1 dX11_seen_38 rfl rfl rfl ?_
      have h_9 : a1 = 0 ∨ a1 = 1 ∨ a1 = 2 ∨ a1 = 3 ∨ (a1 < 0 ∨ 3 < a1) := by omega
      rcases h_9 with h_9 | h_9 | h_9 | h_9 | h_9
      · rw [show vI a1 = vI 0 by rw [h_9]]
        refine kx_tableIn 68 F (by decide) dX11_seen_39 (by decide) rfl (by decide) ?_
        refine kx_aload_n 69 F 0 dX11_seen_68 rfl rfl rfl ?_
        refine kx_aload_n 70 F 2 dX11_seen_69 rfl rfl rfl ?_
        refine kx_geti 73 F fl_X11_372 hk_6 rfl rfl (j := 0) rfl dX11_seen_70 (v := (M (M (M c0 5) 6) 0)) rfl rfl ?_
        refine kx_Vi 76 (ci := 0) F (As := [vI (M (M (M c0 5) 6) 0)]) (st := []) vd_X11_145 (c_X11_answer G l M c0 (M (M (M c0 5) 6) 0) hI_M hk_c0 (by omega)) hk_c0 rfl rfl rfl ⟨by decide, by decide⟩ rfl rfl (Nat.le_of_ble_eq_true rfl) dX11_seen_73 rfl ?_
        intro r_10 N_11 q_12
        obtain ⟨hI_N_11, hG_N_11, q_12c⟩ := q_12
        have hF_N_11 : Fr f_c_X11_seen M N_11 := Fr.c hF_M hG_N_11 rfl
        exact kx_iret F hQ ⟨hI_N_11, hF_N_11, (by omega)⟩ dX11_seen_76
      · rw [show vI a1 = vI 1 by rw [h_9]]
        refine kx_tableIn 77 F (by decide) dX11_seen_39 (by decide) rfl (by decide) ?_
        refine kx_aload_n 78 F 0 dX11_seen_77 rfl rfl rfl ?_
        refine kx_aload_n 79 F 2 dX11_seen_78 rfl rfl rfl ?_
        refine kx_geti 82 F fl_X11_379 hk_6 rfl rfl (j := 1) rfl dX11_seen_79 (v := (M (M (M c0 5) 6) 1)) rfl rfl ?_
        have h_13 := Inv.g hI_M hk_6 rfl 1 (a := (-2147483648)) (b := 2147483647) rfl rfl
        refine kx_Vi 85 (ci := 0) F (As := [vI (M (M (M c0 5) 6) 1)]) (st := []) vd_X11_145 (c_X11_answer G l M c0 (M (M (M c0 5) 6) 1) hI_M hk_c0 (by omega)) hk_c0 rfl rfl rfl ⟨by decide, by decide⟩ rfl rfl (Nat.le_of_ble_eq_true rfl) dX11_seen_82 rfl ?_
        intro r_14 N_15 q_16
        obtain ⟨hI_N_15, hG_N_15, q_16c⟩ := q_16
        have hF_N_15 : Fr f_c_X11_seen M N_15 := Fr.c hF_M hG_N_15 rfl
        exact kx_iret F hQ ⟨hI_N_15, hF_N_15, (by omega)⟩ dX11_seen_85
      · rw [show vI a1 = vI 2 by rw [h_9]]
        refine kx_tableIn 86 F (by decide) dX11_seen_39 (by decide) rfl (by decide) ?_
        refine kx_aload_n 87 F 0 dX11_seen_86 rfl rfl rfl ?_
        refine kx_aload_n 88 F 2 dX11_seen_87 rfl rfl rfl ?_
        refine kx_geti 91 F fl_X11_375 hk_6 rfl rfl (j := 2) rfl dX11_seen_88 (v := (M (M (M c0 5) 6) 2)) rfl rfl ?_
        have h_17 := Inv.g hI_M hk_6 rfl 2 (a := 0) (b := 30) rfl rfl
        refine kx_Vi 94 (ci := 0) F (As := [vI (M (M (M c0 5) 6) 2)]) (st := []) vd_X11_145 (c_X11_answer G l M c0 (M (M (M c0 5) 6) 2) hI_M hk_c0 (by omega)) hk_c0 rfl rfl rfl ⟨by decide, by decide⟩ rfl rfl (Nat.le_of_ble_eq_true rfl) dX11_seen_91 rfl ?_
        intro r_18 N_19 q_20
        obtain ⟨hI_N_19, hG_N_19, q_20c⟩ := q_20
        have hF_N_19 : Fr f_c_X11_seen M N_19 := Fr.c hF_M hG_N_19 rfl
        exact kx_iret F hQ ⟨hI_N_19, hF_N_19, (by omega)⟩ dX11_seen_94
      · rw [show vI a1 = vI 3 by rw [h_9]]
        refine kx_tableIn 95 F (by decide) dX11_seen_39 (by decide) rfl (by decide) ?_
        refine kx_aload_n 96 F 0 dX11_seen_95 rfl rfl rfl ?_
        refine kx_aload_n 97 F 2 dX11_seen_96 rfl rfl rfl ?_
        refine kx_geti 100 F fl_X11_238 hk_6 rfl rfl (j := 3) rfl dX11_seen_97 (v := (M (M (M c0 5) 6) 3)) rfl rfl ?_
        have h_21 := Inv.g hI_M hk_6 rfl 3 (a := 0) (b := 7) rfl rfl
        refine kx_Vi 103 (ci := 0) F (As := [vI (M (M (M c0 5) 6) 3)]) (st := []) vd_X11_145 (c_X11_answer G l M c0 (M (M (M c0 5) 6) 3) hI_M hk_c0 (by omega)) hk_c0 rfl rfl rfl ⟨by decide, by decide⟩ rfl rfl (Nat.le_of_ble_eq_true rfl) dX11_seen_100 rfl ?_
        intro r_22 N_23 q_24
        obtain ⟨hI_N_23, hG_N_23, q_24c⟩ := q_24
        have hF_N_23 : Fr f_c_X11_seen M N_23 := Fr.c hF_M hG_N_23 rfl
        exact kx_iret F hQ ⟨hI_N_23, hF_N_23, (by omega)⟩ dX11_seen_103
      · refine kx_tableOut 104 F (by omega) dX11_seen_39 h_9 (by decide) ?_
        refine kx_aload_n 105 F 0 dX11_seen_104 rfl rfl rfl ?_
        refine kx_aload_n 106 F 2 dX11_seen_105 rfl rfl rfl ?_
        refine kx_aload_n 107 F 0 dX11_seen_106 rfl rfl rfl ?_
        refine kx_getr 110 F fl_X11_26 hk_c0 rfl rfl (j := 5) rfl dX11_seen_107 (v := (M c0 5)) rfl rfl ?_
        refine kx_aload_n 111 F 2 dX11_seen_110 rfl rfl rfl ?_
        refine kx_geti 114 F fl_X11_372 hk_6 rfl rfl (j := 0) rfl dX11_seen_111 (v := (M (M (M c0 5) 6) 0)) rfl rfl ?_
        refine kx_Vr 117 (ci := 0) F (As := [vI (M (M (M c0 5) 6) 0)]) (st := [vR G (M (M c0 5) 6), vR G c0]) vd_X11_164 (c_X5_pick G l M (M c0 5) (M (M (M c0 5) 6) 0) hI_M hk_5 (by omega)) hk_5 rfl rfl rfl ⟨by decide, by decide⟩ rfl rfl (Nat.le_of_ble_eq_true rfl) dX11_seen_114 rfl ?_
        intro r_25 N_26 q_27
        obtain ⟨rfl, hk_28⟩ := q_27
        refine kx_Vi 120 (ci := 0) F (As := [vR G r_25]) (st := [vR G c0]) vd_X11_234 (c_X10_isTaken G l M (M (M c0 5) 6) r_25 hI_M hk_6 hk_28) hk_6 rfl rfl rfl ⟨by decide, by decide⟩ rfl rfl (Nat.le_of_ble_eq_true rfl) dX11_seen_117 rfl ?_
        intro r_29 N_30 q_31
        obtain ⟨rfl, q_31c⟩ := q_31
        refine kx_if_eq 123 F 127 dX11_seen_120 (by decide) rfl (by omega) (fun h_32 => ?_) (fun h_32 => ?_)
        · refine kx_iconst 128 F dX11_seen_127 rfl ?_
          refine kx_Vi 131 (ci := 0) F (As := [vI 0]) (st := []) vd_X11_145 (c_X11_answer G l M c0 0 hI_M hk_c0 (by omega)) hk_c0 rfl rfl rfl ⟨by decide, by decide⟩ rfl rfl (Nat.le_of_ble_eq_true rfl) dX11_seen_128 rfl ?_
          intro r_33 N_34 q_35
          obtain ⟨hI_N_34, hG_N_34, q_35c⟩ := q_35
          have hF_N_34 : Fr f_c_X11_seen M N_34 := Fr.c hF_M hG_N_34 rfl
          exact kx_iret F hQ ⟨hI_N_34, hF_N_34, (by omega)⟩ dX11_seen_131
        · refine kx_iconst 124 F dX11_seen_123 rfl ?_
          refine kx_goto 128 F dX11_seen_124 (by decide) ?_
          refine kx_Vi 131 (ci := 0) F (As := [vI 1]) (st := []) vd_X11_145 (c_X11_answer G l M c0 1 hI_M hk_c0 (by omega)) hk_c0 rfl rfl rfl ⟨by decide, by decide⟩ rfl rfl (Nat.le_of_ble_eq_true rfl) dX11_seen_128 rfl ?_
          intro r_36 N_37 q_38
          obtain ⟨hI_N_37, hG_N_37, q_38c⟩ := q_38
          have hF_N_37 : Fr f_c_X11_seen M N_37 := Fr.c hF_M hG_N_37 rfl
          exact kx_iret F hQ ⟨hI_N_37, hF_N_37, (by omega)⟩ dX11_seen_131
    · refine kx_aload_n 32 F 0 dX11_seen_31 rfl rfl rfl ?_
      refine kx_bipush 34 F dX11_seen_32 (by decide) rfl ?_
      refine kx_Vi 37 (ci := 0) F (As := [vI 6]) (st := []) vd_X11_110 (c_X11_refuse G l M c0 6 hI_M hk_c0 (by omega)) hk_c0 rfl rfl rfl ⟨by decide, by decide⟩ rfl rfl (Nat.le_of_ble_eq_true rfl) dX11_seen_34 rfl ?_
      intro r_39 N_40 q_41
      obtain ⟨hI_N_40, hG_N_40, q_41c⟩ := q_41
      have hF_N_40 : Fr f_c_X11_seen M N_40 := Fr.c hF_M hG_N_40 rfl
      subst q_41c
      exact kx_iret F hQ ⟨hI_N_40, hF_N_40, (by omega)⟩ dX11_seen_37
  · refine kx_if_ne 9 F 15 dX11_seen_6 (by decide) rfl (by omega) (fun h_42 => (by exfalso; omega)) (fun h_42 => ?_)
    refine kx_aload_n 10 F 0 dX11_seen_9 rfl rfl rfl ?_
    refine kx_iconst 11 F dX11_seen_10 rfl ?_
    refine kx_Vi 14 (ci := 0) F (As := [vI 1]) (st := []) vd_X11_110 (c_X11_refuse G l M c0 1 hI_M hk_c0 (by omega)) hk_c0 rfl rfl rfl ⟨by decide, by decide⟩ rfl rfl (Nat.le_of_ble_eq_true rfl) dX11_seen_11 rfl ?_
    intro r_43 N_44 q_45
    obtain ⟨hI_N_44, hG_N_44, q_45c⟩ := q_45
    have hF_N_44 : Fr f_c_X11_seen M N_44 := Fr.c hF_M hG_N_44 rfl
    subst q_45c
    exact kx_iret F hQ ⟨hI_N_44, hF_N_44, (by omega)⟩ dX11_seen_14
theorem dX11_doomed_0 : decode cX11_doomed 0 = .ok (.aload_n 0, 1) := by decide +kernel
theorem dX11_doomed_1 : decode cX11_doomed 1 = .ok (.getfield 26, 3) := by decide +kernel
theorem dX11_doomed_4 : decode cX11_doomed 4 = .ok (.getfield 367, 3) := by decide +kernel
theorem dX11_doomed_7 : decode cX11_doomed 7 = .ok (.getfield 372, 3) := by decide +kernel
theorem dX11_doomed_10 : decode cX11_doomed 10 = .ok (.iconst (-1), 1) := by decide +kernel
theorem dX11_doomed_11 : decode cX11_doomed 11 = .ok (.if_icmp .ne 10, 3) := by decide +kernel
theorem dX11_doomed_14 : decode cX11_doomed 14 = .ok (.aload_n 0, 1) := by decide +kernel
theorem dX11_doomed_15 : decode cX11_doomed 15 = .ok (.bipush 6, 2) := by decide +kernel
theorem dX11_doomed_17 : decode cX11_doomed 17 = .ok (.invokevirtual 110, 3) := by decide +kernel
theorem dX11_doomed_20 : decode cX11_doomed 20 = .ok (.ireturn, 1) := by decide +kernel
theorem dX11_doomed_21 : decode cX11_doomed 21 = .ok (.aload_n 0, 1) := by decide +kernel
theorem dX11_doomed_22 : decode cX11_doomed 22 = .ok (.aload_n 0, 1) := by decide +kernel
theorem dX11_doomed_23 : decode cX11_doomed 23 = .ok (.getfield 26, 3) := by decide +kernel
theorem dX11_doomed_26 : decode cX11_doomed 26 = .ok (.invokevirtual 382, 3) := by decide +kernel
theorem dX11_doomed_29 : decode cX11_doomed 29 = .ok (.ifCond .eq 7, 3) := by decide +kernel
theorem dX11_doomed_32 : decode cX11_doomed 32 = .ok (.iconst 1, 1) := by decide +kernel
theorem dX11_doomed_33 : decode cX11_doomed 33 = .ok (.goto 4, 3) := by decide +kernel
theorem dX11_doomed_36 : decode cX11_doomed 36 = .ok (.iconst 0, 1) := by decide +kernel
theorem dX11_doomed_37 : decode cX11_doomed 37 = .ok (.invokevirtual 145, 3) := by decide +kernel
theorem dX11_doomed_40 : decode cX11_doomed 40 = .ok (.ireturn, 1) := by decide +kernel
abbrev f_c_X11_doomed : List (Nat × Int) := [(62, 0)]
set_option maxHeartbeats 4000000 in
set_option maxRecDepth 100000 in
theorem c_X11_doomed (G : KG) (l : Launch) (M : Mem) (c0 : Int) (hI_M : Inv false M) (hk_c0 : kd c0 = 62) : KC false G l yX11_doomed cX11_doomed 1 (some .int) (5, 124) [vR G c0] M (fun A => kQi false G A (fun (r : Int) (N : Mem) => Inv false N ∧ Fr f_c_X11_doomed M N ∧ (r ≥ -1 ∧ r ≤ 1))) := by
  refine kx_met (lo := [some (vR G c0)]) (by decide) (Nat.le_of_ble_eq_true rfl) rfl ?_
  intro X F hQ
  have hF_M : Fr f_c_X11_doomed M M := Fr.rf _ _
  refine kx_aload_n 1 F 0 dX11_doomed_0 rfl rfl rfl ?_
  refine kx_getr 4 F fl_X11_26 hk_c0 rfl rfl (j := 5) rfl dX11_doomed_1 (v := (M c0 5)) rfl rfl ?_
  have hk_1 : kd (M c0 5) = 12 := Inv.r hI_M hk_c0 rfl 5 rfl rfl
  refine kx_getr 7 F fl_X11_367 hk_1 rfl rfl (j := 6) rfl dX11_doomed_4 (v := (M (M c0 5) 6)) rfl rfl ?_
  have hk_2 : kd (M (M c0 5) 6) = 8 := Inv.r hI_M hk_1 rfl 6 rfl rfl
  refine kx_geti 10 F fl_X11_372 hk_2 rfl rfl (j := 0) rfl dX11_doomed_7 (v := (M (M (M c0 5) 6) 0)) rfl rfl ?_
  have h_3 := Inv.g hI_M hk_2 rfl 0 (a := (-1)) (b := 1) rfl rfl
  refine kx_iconst 11 F dX11_doomed_10 rfl ?_
  refine kx_icmp_ne 14 F 21 dX11_doomed_11 (by decide) rfl (by omega) (by decide) (fun h_4 => ?_) (fun h_4 => ?_)
  · refine kx_aload_n 22 F 0 dX11_doomed_21 rfl rfl rfl ?_
    refine kx_aload_n 23 F 0 dX11_doomed_22 rfl rfl rfl ?_
    refine kx_getr 26 F fl_X11_26 hk_c0 rfl rfl (j := 5) rfl dX11_doomed_23 (v := (M c0 5)) rfl rfl ?_
    refine kx_Vi 29 (ci := 0) F (As := []) (st := [vR G c0]) vd_X11_382 (c_X5_isLost G l M (M c0 5) hI_M hk_1) hk_1 rfl rfl rfl ⟨by decide, by decide⟩ rfl rfl (Nat.le_of_ble_eq_true rfl) dX11_doomed_26 rfl ?_
    intro r_5 N_6 q_7
    obtain ⟨rfl, q_7c⟩ := q_7
    refine kx_if_eq 32 F 36 dX11_doomed_29 (by decide) rfl (by omega) (fun h_8 => ?_) (fun h_8 => ?_)
    · refine kx_iconst 37 F dX11_doomed_36 rfl ?_
      refine kx_Vi 40 (ci := 0) F (As := [vI 0]) (st := []) vd_X11_145 (c_X11_answer G l M c0 0 hI_M hk_c0 (by omega)) hk_c0 rfl rfl rfl ⟨by decide, by decide⟩ rfl rfl (Nat.le_of_ble_eq_true rfl) dX11_doomed_37 rfl ?_
      intro r_9 N_10 q_11
      obtain ⟨hI_N_10, hG_N_10, q_11c⟩ := q_11
      have hF_N_10 : Fr f_c_X11_doomed M N_10 := Fr.c hF_M hG_N_10 rfl
      exact kx_iret F hQ ⟨hI_N_10, hF_N_10, (by omega)⟩ dX11_doomed_40
    · refine kx_iconst 33 F dX11_doomed_32 rfl ?_
      refine kx_goto 37 F dX11_doomed_33 (by decide) ?_
      refine kx_Vi 40 (ci := 0) F (As := [vI 1]) (st := []) vd_X11_145 (c_X11_answer G l M c0 1 hI_M hk_c0 (by omega)) hk_c0 rfl rfl rfl ⟨by decide, by decide⟩ rfl rfl (Nat.le_of_ble_eq_true rfl) dX11_doomed_37 rfl ?_
      intro r_12 N_13 q_14
      obtain ⟨hI_N_13, hG_N_13, q_14c⟩ := q_14
      have hF_N_13 : Fr f_c_X11_doomed M N_13 := Fr.c hF_M hG_N_13 rfl
      exact kx_iret F hQ ⟨hI_N_13, hF_N_13, (by omega)⟩ dX11_doomed_40
  · refine kx_aload_n 15 F 0 dX11_doomed_14 rfl rfl rfl ?_
    refine kx_bipush 17 F dX11_doomed_15 (by decide) rfl ?_
    refine kx_Vi 20 (ci := 0) F (As := [vI 6]) (st := []) vd_X11_110 (c_X11_refuse G l M c0 6 hI_M hk_c0 (by omega)) hk_c0 rfl rfl rfl ⟨by decide, by decide⟩ rfl rfl (Nat.le_of_ble_eq_true rfl) dX11_doomed_17 rfl ?_
    intro r_15 N_16 q_17
    obtain ⟨hI_N_16, hG_N_16, q_17c⟩ := q_17
    have hF_N_16 : Fr f_c_X11_doomed M N_16 := Fr.c hF_M hG_N_16 rfl
    subst q_17c
    exact kx_iret F hQ ⟨hI_N_16, hF_N_16, (by omega)⟩ dX11_doomed_20
theorem dX11_mark_0 : decode cX11_mark 0 = .ok (.aload_n 0, 1) := by decide +kernel
theorem dX11_mark_1 : decode cX11_mark 1 = .ok (.getfield 385, 3) := by decide +kernel
theorem dX11_mark_4 : decode cX11_mark 4 = .ok (.iconst 3, 1) := by decide +kernel
theorem dX11_mark_5 : decode cX11_mark 5 = .ok (.if_icmp .lt 9, 3) := by decide +kernel
theorem dX11_mark_8 : decode cX11_mark 8 = .ok (.aload_n 0, 1) := by decide +kernel
theorem dX11_mark_9 : decode cX11_mark 9 = .ok (.iconst 4, 1) := by decide +kernel
theorem dX11_mark_10 : decode cX11_mark 10 = .ok (.invokevirtual 110, 3) := by decide +kernel
theorem dX11_mark_13 : decode cX11_mark 13 = .ok (.ireturn, 1) := by decide +kernel
theorem dX11_mark_14 : decode cX11_mark 14 = .ok (.aload_n 0, 1) := by decide +kernel
theorem dX11_mark_15 : decode cX11_mark 15 = .ok (.getfield 30, 3) := by decide +kernel
theorem dX11_mark_18 : decode cX11_mark 18 = .ok (.aload_n 0, 1) := by decide +kernel
theorem dX11_mark_19 : decode cX11_mark 19 = .ok (.getfield 385, 3) := by decide +kernel
theorem dX11_mark_22 : decode cX11_mark 22 = .ok (.aaload, 1) := by decide +kernel
theorem dX11_mark_23 : decode cX11_mark 23 = .ok (.aload_n 0, 1) := by decide +kernel
theorem dX11_mark_24 : decode cX11_mark 24 = .ok (.getfield 26, 3) := by decide +kernel
theorem dX11_mark_27 : decode cX11_mark 27 = .ok (.invokevirtual 388, 3) := by decide +kernel
theorem dX11_mark_30 : decode cX11_mark 30 = .ok (.aload_n 0, 1) := by decide +kernel
theorem dX11_mark_31 : decode cX11_mark 31 = .ok (.dup, 1) := by decide +kernel
theorem dX11_mark_32 : decode cX11_mark 32 = .ok (.getfield 385, 3) := by decide +kernel
theorem dX11_mark_35 : decode cX11_mark 35 = .ok (.iconst 1, 1) := by decide +kernel
theorem dX11_mark_36 : decode cX11_mark 36 = .ok (.iadd, 1) := by decide +kernel
theorem dX11_mark_37 : decode cX11_mark 37 = .ok (.putfield 385, 3) := by decide +kernel
theorem dX11_mark_40 : decode cX11_mark 40 = .ok (.aload_n 0, 1) := by decide +kernel
theorem dX11_mark_41 : decode cX11_mark 41 = .ok (.aload_n 0, 1) := by decide +kernel
theorem dX11_mark_42 : decode cX11_mark 42 = .ok (.getfield 385, 3) := by decide +kernel
theorem dX11_mark_45 : decode cX11_mark 45 = .ok (.invokevirtual 145, 3) := by decide +kernel
theorem dX11_mark_48 : decode cX11_mark 48 = .ok (.ireturn, 1) := by decide +kernel
abbrev f_c_X11_mark : List (Nat × Int) := [(1, 0), (1, 1), (1, 2), (1, 3), (1, 4), (1, 5), (2, -1), (3, -1), (4, -1), (5, -1), (6, -1), (7, -1), (8, 0), (8, 1), (8, 2), (8, 3), (8, 4), (9, -1), (10, -1), (11, -1), (12, 0), (12, 1), (12, 2), (12, 3), (62, 0), (62, 7)]
set_option maxHeartbeats 4000000 in
set_option maxRecDepth 100000 in
theorem c_X11_mark (G : KG) (l : Launch) (M : Mem) (c0 : Int) (hI_M : Inv false M) (hk_c0 : kd c0 = 62) (hX_M : XX M) : KC false G l yX11_mark cX11_mark 1 (some .int) (3, 60) [vR G c0] M (fun A => kQi false G A (fun (r : Int) (N : Mem) => Inv false N ∧ Fr f_c_X11_mark M N ∧ (r ≥ -1 ∧ r ≤ 3) ∧ XX N)) := by
  refine kx_met (lo := [some (vR G c0)]) (by decide) (Nat.le_of_ble_eq_true rfl) rfl ?_
  intro X F hQ
  have hF_M : Fr f_c_X11_mark M M := Fr.rf _ _
  refine kx_aload_n 1 F 0 dX11_mark_0 rfl rfl rfl ?_
  refine kx_geti 4 F fl_X11_385 hk_c0 rfl rfl (j := 7) rfl dX11_mark_1 (v := (M c0 7)) rfl rfl ?_
  have h_1 := Inv.g hI_M hk_c0 rfl 7 (a := 0) (b := 3) rfl rfl
  refine kx_iconst 5 F dX11_mark_4 rfl ?_
  refine kx_icmp_lt 8 F 14 dX11_mark_5 (by decide) rfl (by omega) (by decide) (fun h_2 => ?_) (fun h_2 => ?_)
  · refine kx_aload_n 15 F 0 dX11_mark_14 rfl rfl rfl ?_
    refine kx_getr 18 F fl_X11_30 hk_c0 rfl rfl (j := 6) rfl dX11_mark_15 (v := (M c0 6)) rfl rfl ?_
    have hk_3 : kd (M c0 6) = 63 := Inv.r hI_M hk_c0 rfl 6 rfl rfl
    refine kx_aload_n 19 F 0 dX11_mark_18 rfl rfl rfl ?_
    refine kx_geti 22 F fl_X11_385 hk_c0 rfl rfl (j := 7) rfl dX11_mark_19 (v := (M c0 7)) rfl rfl ?_
    refine kx_aald 23 F hk_3 rfl rfl (by omega) (by decide) dX11_mark_22 (v := (M (M c0 6) (M c0 7))) rfl rfl ?_
    have hk_4 : kd (M (M c0 6) (M c0 7)) = 12 := Inv.r hI_M hk_3 rfl (M c0 7) rfl rfl
    refine kx_aload_n 24 F 0 dX11_mark_23 rfl rfl rfl ?_
    refine kx_getr 27 F fl_X11_26 hk_c0 rfl rfl (j := 5) rfl dX11_mark_24 (v := (M c0 5)) rfl rfl ?_
    have hk_5 : kd (M c0 5) = 12 := Inv.r hI_M hk_c0 rfl 5 rfl rfl
    refine kx_Vv 30 (ci := 0) F (As := [vR G (M c0 5)]) (st := []) vd_X11_388 (c_X5_become G l M (M (M c0 6) (M c0 7)) (M c0 5) hI_M hk_4 hk_5 hX_M) hk_4 rfl rfl rfl ⟨by decide, by decide⟩ rfl rfl (Nat.le_of_ble_eq_true rfl) dX11_mark_27 rfl ?_
    intro N_6 q_7
    obtain ⟨hI_N_6, hG_N_6, hX_N_6⟩ := q_7
    have hF_N_6 : Fr f_c_X11_mark M N_6 := Fr.c hF_M hG_N_6 rfl
    refine kx_aload_n 31 F 0 dX11_mark_30 rfl rfl rfl ?_
    refine kx_dup 32 F dX11_mark_31 rfl rfl ?_
    refine kx_geti 35 F fl_X11_385 hk_c0 rfl rfl (j := 7) rfl dX11_mark_32 (v := (M c0 7)) (by rw [Fr.e hG_N_6 hk_c0 _ rfl]) rfl ?_
    refine kx_iconst 36 F dX11_mark_35 rfl ?_
    refine kx_iadd 37 F (v := (M c0 7) + 1) dX11_mark_36 rfl rfl ?_
    refine kx_puti 40 F fw_X11_385 rfl hk_c0 rfl rfl (j := 7) rfl dX11_mark_37 rfl ?_
    intro N_8 hM_N_8
    have hI_N_8 : Inv false N_8 := Inv.u hI_N_6 hM_N_8 hk_c0 (a := 0) (b := 3) rfl rfl rfl (by omega)
    have hF_N_8 : Fr f_c_X11_mark M N_8 := Fr.u hF_N_6 hM_N_8 hk_c0 rfl
    have hX_N_8 : XX N_8 := XX.st hX_N_6 hI_N_6 hM_N_8 hk_c0 rfl
    refine kx_aload_n 41 F 0 dX11_mark_40 rfl rfl rfl ?_
    refine kx_aload_n 42 F 0 dX11_mark_41 rfl rfl rfl ?_
    refine kx_geti 45 F fl_X11_385 hk_c0 rfl rfl (j := 7) rfl dX11_mark_42 (v := (M c0 7) + 1) (by rw [hM_N_8, mu_s]) rfl ?_
    refine kx_Vi 48 (ci := 0) F (As := [vI ((M c0 7) + 1)]) (st := []) vd_X11_145 (c_X11_answer G l N_8 c0 ((M c0 7) + 1) hI_N_8 hk_c0 (by omega)) hk_c0 rfl rfl rfl ⟨by decide, by decide⟩ rfl rfl (Nat.le_of_ble_eq_true rfl) dX11_mark_45 rfl ?_
    intro r_9 N_10 q_11
    obtain ⟨hI_N_10, hG_N_10, q_11c⟩ := q_11
    have hF_N_10 : Fr f_c_X11_mark M N_10 := Fr.c hF_N_8 hG_N_10 rfl
    have hX_N_10 : XX N_10 := XX.fr hX_N_8 hI_N_8 hG_N_10 rfl
    exact kx_iret F hQ ⟨hI_N_10, hF_N_10, (by omega), hX_N_10⟩ dX11_mark_48
  · refine kx_aload_n 9 F 0 dX11_mark_8 rfl rfl rfl ?_
    refine kx_iconst 10 F dX11_mark_9 rfl ?_
    refine kx_Vi 13 (ci := 0) F (As := [vI 4]) (st := []) vd_X11_110 (c_X11_refuse G l M c0 4 hI_M hk_c0 (by omega)) hk_c0 rfl rfl rfl ⟨by decide, by decide⟩ rfl rfl (Nat.le_of_ble_eq_true rfl) dX11_mark_10 rfl ?_
    intro r_12 N_13 q_14
    obtain ⟨hI_N_13, hG_N_13, q_14c⟩ := q_14
    have hF_N_13 : Fr f_c_X11_mark M N_13 := Fr.c hF_M hG_N_13 rfl
    have hX_N_13 : XX N_13 := XX.fr hX_M hI_M hG_N_13 rfl
    subst q_14c
    exact kx_iret F hQ ⟨hI_N_13, hF_N_13, (by omega), hX_N_13⟩ dX11_mark_13
theorem dX11_undo_0 : decode cX11_undo 0 = .ok (.aload_n 0, 1) := by decide +kernel
theorem dX11_undo_1 : decode cX11_undo 1 = .ok (.getfield 385, 3) := by decide +kernel
theorem dX11_undo_4 : decode cX11_undo 4 = .ok (.ifCond .gt 10, 3) := by decide +kernel
theorem dX11_undo_7 : decode cX11_undo 7 = .ok (.aload_n 0, 1) := by decide +kernel
theorem dX11_undo_8 : decode cX11_undo 8 = .ok (.bipush 6, 2) := by decide +kernel
theorem dX11_undo_10 : decode cX11_undo 10 = .ok (.invokevirtual 110, 3) := by decide +kernel
theorem dX11_undo_13 : decode cX11_undo 13 = .ok (.ireturn, 1) := by decide +kernel
theorem dX11_undo_14 : decode cX11_undo 14 = .ok (.aload_n 0, 1) := by decide +kernel
theorem dX11_undo_15 : decode cX11_undo 15 = .ok (.dup, 1) := by decide +kernel
theorem dX11_undo_16 : decode cX11_undo 16 = .ok (.getfield 385, 3) := by decide +kernel
theorem dX11_undo_19 : decode cX11_undo 19 = .ok (.iconst 1, 1) := by decide +kernel
theorem dX11_undo_20 : decode cX11_undo 20 = .ok (.isub, 1) := by decide +kernel
theorem dX11_undo_21 : decode cX11_undo 21 = .ok (.putfield 385, 3) := by decide +kernel
theorem dX11_undo_24 : decode cX11_undo 24 = .ok (.aload_n 0, 1) := by decide +kernel
theorem dX11_undo_25 : decode cX11_undo 25 = .ok (.getfield 26, 3) := by decide +kernel
theorem dX11_undo_28 : decode cX11_undo 28 = .ok (.astore_n 1, 1) := by decide +kernel
theorem dX11_undo_29 : decode cX11_undo 29 = .ok (.aload_n 0, 1) := by decide +kernel
theorem dX11_undo_30 : decode cX11_undo 30 = .ok (.aload_n 0, 1) := by decide +kernel
theorem dX11_undo_31 : decode cX11_undo 31 = .ok (.getfield 30, 3) := by decide +kernel
theorem dX11_undo_34 : decode cX11_undo 34 = .ok (.aload_n 0, 1) := by decide +kernel
theorem dX11_undo_35 : decode cX11_undo 35 = .ok (.getfield 385, 3) := by decide +kernel
theorem dX11_undo_38 : decode cX11_undo 38 = .ok (.aaload, 1) := by decide +kernel
theorem dX11_undo_39 : decode cX11_undo 39 = .ok (.putfield 26, 3) := by decide +kernel
theorem dX11_undo_42 : decode cX11_undo 42 = .ok (.aload_n 0, 1) := by decide +kernel
theorem dX11_undo_43 : decode cX11_undo 43 = .ok (.getfield 30, 3) := by decide +kernel
theorem dX11_undo_46 : decode cX11_undo 46 = .ok (.aload_n 0, 1) := by decide +kernel
theorem dX11_undo_47 : decode cX11_undo 47 = .ok (.getfield 385, 3) := by decide +kernel
theorem dX11_undo_50 : decode cX11_undo 50 = .ok (.aload_n 1, 1) := by decide +kernel
theorem dX11_undo_51 : decode cX11_undo 51 = .ok (.aastore, 1) := by decide +kernel
theorem dX11_undo_52 : decode cX11_undo 52 = .ok (.aload_n 0, 1) := by decide +kernel
theorem dX11_undo_53 : decode cX11_undo 53 = .ok (.invokevirtual 139, 3) := by decide +kernel
theorem dX11_undo_56 : decode cX11_undo 56 = .ok (.aload_n 0, 1) := by decide +kernel
theorem dX11_undo_57 : decode cX11_undo 57 = .ok (.aload_n 0, 1) := by decide +kernel
theorem dX11_undo_58 : decode cX11_undo 58 = .ok (.getfield 385, 3) := by decide +kernel
theorem dX11_undo_61 : decode cX11_undo 61 = .ok (.invokevirtual 145, 3) := by decide +kernel
theorem dX11_undo_64 : decode cX11_undo 64 = .ok (.ireturn, 1) := by decide +kernel
abbrev f_c_X11_undo : List (Nat × Int) := [(21, 0), (41, 2), (62, 0), (62, 5), (62, 7), (63, -1)]
set_option maxHeartbeats 4000000 in
set_option maxRecDepth 100000 in
theorem c_X11_undo (G : KG) (l : Launch) (M : Mem) (c0 : Int) (hI_M : Inv false M) (hk_c0 : kd c0 = 62) : KC false G l yX11_undo cX11_undo 2 (some .int) (2, 40) [vR G c0] M (fun A => kQi false G A (fun (r : Int) (N : Mem) => Inv false N ∧ Fr f_c_X11_undo M N ∧ (r ≥ -1 ∧ r ≤ 2))) := by
  refine kx_met (lo := [some (vR G c0), none]) (by decide) (Nat.le_of_ble_eq_true rfl) rfl ?_
  intro X F hQ
  have hF_M : Fr f_c_X11_undo M M := Fr.rf _ _
  refine kx_aload_n 1 F 0 dX11_undo_0 rfl rfl rfl ?_
  refine kx_geti 4 F fl_X11_385 hk_c0 rfl rfl (j := 7) rfl dX11_undo_1 (v := (M c0 7)) rfl rfl ?_
  have h_1 := Inv.g hI_M hk_c0 rfl 7 (a := 0) (b := 3) rfl rfl
  refine kx_if_gt 7 F 14 dX11_undo_4 (by decide) rfl (by omega) (fun h_2 => ?_) (fun h_2 => ?_)
  · refine kx_aload_n 15 F 0 dX11_undo_14 rfl rfl rfl ?_
    refine kx_dup 16 F dX11_undo_15 rfl rfl ?_
    refine kx_geti 19 F fl_X11_385 hk_c0 rfl rfl (j := 7) rfl dX11_undo_16 (v := (M c0 7)) rfl rfl ?_
    refine kx_iconst 20 F dX11_undo_19 rfl ?_
    refine kx_isub 21 F (v := (M c0 7) - 1) dX11_undo_20 rfl rfl ?_
    refine kx_puti 24 F fw_X11_385 rfl hk_c0 rfl rfl (j := 7) rfl dX11_undo_21 rfl ?_
    intro N_3 hM_N_3
    have hI_N_3 : Inv false N_3 := Inv.u hI_M hM_N_3 hk_c0 (a := 0) (b := 3) rfl rfl rfl (by omega)
    have hF_N_3 : Fr f_c_X11_undo M N_3 := Fr.u hF_M hM_N_3 hk_c0 rfl
    refine kx_aload_n 25 F 0 dX11_undo_24 rfl rfl rfl ?_
    refine kx_getr 28 F fl_X11_26 hk_c0 rfl rfl (j := 5) rfl dX11_undo_25 (v := (M c0 5)) (by rw [hM_N_3, mu_i (by omega)]) rfl ?_
    have hk_4 : kd (M c0 5) = 12 := Inv.r hI_M hk_c0 rfl 5 rfl rfl
    refine kx_astore_n 29 F 1 (lo' := [some (vR G c0), some (vR G (M c0 5))]) dX11_undo_28 rfl (by decide) rfl rfl rfl ?_
    refine kx_aload_n 30 F 0 dX11_undo_29 rfl rfl rfl ?_
    refine kx_aload_n 31 F 0 dX11_undo_30 rfl rfl rfl ?_
    refine kx_getr 34 F fl_X11_30 hk_c0 rfl rfl (j := 6) rfl dX11_undo_31 (v := (M c0 6)) (by rw [hM_N_3, mu_i (by omega)]) rfl ?_
    have hk_5 : kd (M c0 6) = 63 := Inv.r hI_M hk_c0 rfl 6 rfl rfl
    refine kx_aload_n 35 F 0 dX11_undo_34 rfl rfl rfl ?_
    refine kx_geti 38 F fl_X11_385 hk_c0 rfl rfl (j := 7) rfl dX11_undo_35 (v := (M c0 7) - 1) (by rw [hM_N_3, mu_s]) rfl ?_
    refine kx_aald 39 F hk_5 rfl rfl (by omega) (by decide) dX11_undo_38 (v := (M (M c0 6) ((M c0 7) - 1))) (by rw [hM_N_3, mu_k hk_5 hk_c0 rfl]) rfl ?_
    have hk_6 : kd (M (M c0 6) ((M c0 7) - 1)) = 12 := Inv.r hI_M hk_5 rfl ((M c0 7) - 1) rfl rfl
    refine kx_putr 42 F fw_X11_26 (Or.inl ⟨_, rfl⟩) hk_c0 rfl rfl (j := 5) rfl dX11_undo_39 rfl ?_
    intro N_7 hM_N_7
    have hI_N_7 : Inv false N_7 := Inv.ur hI_N_3 hM_N_7 hk_c0 rfl rfl rfl hk_6 rfl rfl rfl
    have hF_N_7 : Fr f_c_X11_undo M N_7 := Fr.u hF_N_3 hM_N_7 hk_c0 rfl
    refine kx_aload_n 43 F 0 dX11_undo_42 rfl rfl rfl ?_
    refine kx_getr 46 F fl_X11_30 hk_c0 rfl rfl (j := 6) rfl dX11_undo_43 (v := (M c0 6)) (by rw [hM_N_7, mu_i (by omega), hM_N_3, mu_i (by omega)]) rfl ?_
    refine kx_aload_n 47 F 0 dX11_undo_46 rfl rfl rfl ?_
    refine kx_geti 50 F fl_X11_385 hk_c0 rfl rfl (j := 7) rfl dX11_undo_47 (v := (M c0 7) - 1) (by rw [hM_N_7, mu_i (by omega), hM_N_3, mu_s]) rfl ?_
    refine kx_aload_n 51 F 1 dX11_undo_50 rfl rfl rfl ?_
    refine kx_aast 52 F hk_4 rfl rfl rfl hk_5 rfl rfl (by omega) (by decide) dX11_undo_51 rfl ?_
    intro N_8 hM_N_8
    have hI_N_8 : Inv false N_8 := Inv.ur hI_N_7 hM_N_8 hk_5 rfl rfl rfl hk_4 rfl rfl rfl
    have hF_N_8 : Fr f_c_X11_undo M N_8 := Fr.u hF_N_7 hM_N_8 hk_5 rfl
    refine kx_aload_n 53 F 0 dX11_undo_52 rfl rfl rfl ?_
    refine kx_Vv 56 (ci := 0) F (As := []) (st := []) vd_X11_139 (c_X11_forget G l N_8 c0 hI_N_8 hk_c0) hk_c0 rfl rfl rfl ⟨by decide, by decide⟩ rfl rfl (Nat.le_of_ble_eq_true rfl) dX11_undo_53 rfl ?_
    intro N_9 q_10
    obtain ⟨hI_N_9, hG_N_9⟩ := q_10
    have hF_N_9 : Fr f_c_X11_undo M N_9 := Fr.c hF_N_8 hG_N_9 rfl
    refine kx_aload_n 57 F 0 dX11_undo_56 rfl rfl rfl ?_
    refine kx_aload_n 58 F 0 dX11_undo_57 rfl rfl rfl ?_
    refine kx_geti 61 F fl_X11_385 hk_c0 rfl rfl (j := 7) rfl dX11_undo_58 (v := (M c0 7) - 1) (by rw [Fr.e hG_N_9 hk_c0 _ rfl, hM_N_8, mu_k hk_c0 hk_5 rfl, hM_N_7, mu_i (by omega), hM_N_3, mu_s]) rfl ?_
    refine kx_Vi 64 (ci := 0) F (As := [vI ((M c0 7) - 1)]) (st := []) vd_X11_145 (c_X11_answer G l N_9 c0 ((M c0 7) - 1) hI_N_9 hk_c0 (by omega)) hk_c0 rfl rfl rfl ⟨by decide, by decide⟩ rfl rfl (Nat.le_of_ble_eq_true rfl) dX11_undo_61 rfl ?_
    intro r_11 N_12 q_13
    obtain ⟨hI_N_12, hG_N_12, q_13c⟩ := q_13
    have hF_N_12 : Fr f_c_X11_undo M N_12 := Fr.c hF_N_9 hG_N_12 rfl
    exact kx_iret F hQ ⟨hI_N_12, hF_N_12, (by omega)⟩ dX11_undo_64
  · refine kx_aload_n 8 F 0 dX11_undo_7 rfl rfl rfl ?_
    refine kx_bipush 10 F dX11_undo_8 (by decide) rfl ?_
    refine kx_Vi 13 (ci := 0) F (As := [vI 6]) (st := []) vd_X11_110 (c_X11_refuse G l M c0 6 hI_M hk_c0 (by omega)) hk_c0 rfl rfl rfl ⟨by decide, by decide⟩ rfl rfl (Nat.le_of_ble_eq_true rfl) dX11_undo_10 rfl ?_
    intro r_14 N_15 q_16
    obtain ⟨hI_N_15, hG_N_15, q_16c⟩ := q_16
    have hF_N_15 : Fr f_c_X11_undo M N_15 := Fr.c hF_M hG_N_15 rfl
    subst q_16c
    exact kx_iret F hQ ⟨hI_N_15, hF_N_15, (by omega)⟩ dX11_undo_13
