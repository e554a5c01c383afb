abbrev f_m_X11_mark : List (Nat × Int) := [(1, 0), (1, 1), (1, 2), (1, 3), (1, 4), (1, 5), (2, -1), (3, -1), (4, -1), (5, -1), (6, -1), (7, -1), (8, 0), (8, 1), (8, 2), (8, 3), (8, 4), (9, -1), (10, -1), (11, -1), (12, 0), (12, 1), (12, 2), (12, 3), (62, 0), (62, 7)]
set_option maxHeartbeats 4000000 in
set_option maxRecDepth 100000 in
theorem m_X11_mark (G : KG) (l : Launch) (M : Mem) (c0 : Int) (hI_M : Inv false M) (hk_c0 : kd c0 = 62) (hX_M : XX M) : KC false G l yX11_mark cX11_mark 1 (some .int) (3, 60) [vR G c0] M (fun A => kQi false G A (fun (r : Int) (N : Mem) => Inv false N ∧ Fr f_m_X11_mark M N ∧ (((M c0 7) = 3 ∧ r = -1 ∧ (N c0 7) = 3) ∨ ((M c0 7) ≤ 2 ∧ (N c0 7) = (M c0 7) + 1 ∧ r = (M c0 7) + 1)) ∧ XX N)) := by
  refine kx_met (lo := [some (vR G c0)]) (by decide) (Nat.le_of_ble_eq_true rfl) rfl ?_
  intro X F hQ
  have hF_M : Fr f_m_X11_mark M M := Fr.rf _ _
  refine kx_aload_n 1 F 0 dX11_mark_0 rfl rfl rfl ?_
  refine kx_geti 4 F fl_X11_385 hk_c0 rfl rfl (j := 7) rfl dX11_mark_1 (v := (M c0 7)) rfl rfl ?_
  have h_1 := Inv.g hI_M hk_c0 rfl 7 (a := 0) (b := 3) rfl rfl
  refine kx_iconst 5 F dX11_mark_4 rfl ?_
  refine kx_icmp_lt 8 F 14 dX11_mark_5 (by decide) rfl (by omega) (by decide) (fun h_2 => ?_) (fun h_2 => ?_)
  · refine kx_aload_n 15 F 0 dX11_mark_14 rfl rfl rfl ?_
    refine kx_getr 18 F fl_X11_30 hk_c0 rfl rfl (j := 6) rfl dX11_mark_15 (v := (M c0 6)) rfl rfl ?_
    have hk_3 : kd (M c0 6) = 63 := Inv.r hI_M hk_c0 rfl 6 rfl rfl
    refine kx_aload_n 19 F 0 dX11_mark_18 rfl rfl rfl ?_
    refine kx_geti 22 F fl_X11_385 hk_c0 rfl rfl (j := 7) rfl dX11_mark_19 (v := (M c0 7)) rfl rfl ?_
    refine kx_aald 23 F hk_3 rfl rfl (by omega) (by decide) dX11_mark_22 (v := (M (M c0 6) (M c0 7))) rfl rfl ?_
    have hk_4 : kd (M (M c0 6) (M c0 7)) = 12 := Inv.r hI_M hk_3 rfl (M c0 7) rfl rfl
    refine kx_aload_n 24 F 0 dX11_mark_23 rfl rfl rfl ?_
    refine kx_getr 27 F fl_X11_26 hk_c0 rfl rfl (j := 5) rfl dX11_mark_24 (v := (M c0 5)) rfl rfl ?_
    have hk_5 : kd (M c0 5) = 12 := Inv.r hI_M hk_c0 rfl 5 rfl rfl
    refine kx_Vv 30 (ci := 0) F (As := [vR G (M c0 5)]) (st := []) vd_X11_388 (c_X5_become G l M (M (M c0 6) (M c0 7)) (M c0 5) hI_M hk_4 hk_5 hX_M) hk_4 rfl rfl rfl ⟨by decide, by decide⟩ rfl rfl (Nat.le_of_ble_eq_true rfl) dX11_mark_27 rfl ?_
    intro N_6 q_7
    obtain ⟨hI_N_6, hG_N_6, hX_N_6⟩ := q_7
    have hF_N_6 : Fr f_m_X11_mark M N_6 := Fr.c hF_M hG_N_6 rfl
    refine kx_aload_n 31 F 0 dX11_mark_30 rfl rfl rfl ?_
    refine kx_dup 32 F dX11_mark_31 rfl rfl ?_
    refine kx_geti 35 F fl_X11_385 hk_c0 rfl rfl (j := 7) rfl dX11_mark_32 (v := (M c0 7)) (by rw [Fr.e hG_N_6 hk_c0 _ rfl]) rfl ?_
    refine kx_iconst 36 F dX11_mark_35 rfl ?_
    refine kx_iadd 37 F (v := (M c0 7) + 1) dX11_mark_36 rfl rfl ?_
    refine kx_puti 40 F fw_X11_385 rfl hk_c0 rfl rfl (j := 7) rfl dX11_mark_37 rfl ?_
    intro N_8 hM_N_8
    have hI_N_8 : Inv false N_8 := Inv.u hI_N_6 hM_N_8 hk_c0 (a := 0) (b := 3) rfl rfl rfl (by omega)
    have hF_N_8 : Fr f_m_X11_mark M N_8 := Fr.u hF_N_6 hM_N_8 hk_c0 rfl
    have hX_N_8 : XX N_8 := XX.st hX_N_6 hI_N_6 hM_N_8 hk_c0 rfl
    refine kx_aload_n 41 F 0 dX11_mark_40 rfl rfl rfl ?_
    refine kx_aload_n 42 F 0 dX11_mark_41 rfl rfl rfl ?_
    refine kx_geti 45 F fl_X11_385 hk_c0 rfl rfl (j := 7) rfl dX11_mark_42 (v := (M c0 7) + 1) (by rw [hM_N_8, mu_s]) rfl ?_
    refine kx_Vi 48 (ci := 0) F (As := [vI ((M c0 7) + 1)]) (st := []) vd_X11_145 (c_X11_answer G l N_8 c0 ((M c0 7) + 1) hI_N_8 hk_c0 (by omega)) hk_c0 rfl rfl rfl ⟨by decide, by decide⟩ rfl rfl (Nat.le_of_ble_eq_true rfl) dX11_mark_45 rfl ?_
    intro r_9 N_10 q_11
    obtain ⟨hI_N_10, hG_N_10, q_11c⟩ := q_11
    have hF_N_10 : Fr f_m_X11_mark M N_10 := Fr.c hF_N_8 hG_N_10 rfl
    have hX_N_10 : XX N_10 := XX.fr hX_N_8 hI_N_8 hG_N_10 rfl
    have e_12 : (N_10 c0 7) = (M c0 7) + 1 := by rw [Fr.e hG_N_10 hk_c0 _ rfl, hM_N_8, mu_s]
    have e_13 : (N_10 c0 7) = (M c0 7) + 1 := by rw [Fr.e hG_N_10 hk_c0 _ rfl, hM_N_8, mu_s]
    exact kx_iret F hQ ⟨hI_N_10, hF_N_10, (by omega), hX_N_10⟩ dX11_mark_48
  · refine kx_aload_n 9 F 0 dX11_mark_8 rfl rfl rfl ?_
    refine kx_iconst 10 F dX11_mark_9 rfl ?_
    refine kx_Vi 13 (ci := 0) F (As := [vI 4]) (st := []) vd_X11_110 (c_X11_refuse G l M c0 4 hI_M hk_c0 (by omega)) hk_c0 rfl rfl rfl ⟨by decide, by decide⟩ rfl rfl (Nat.le_of_ble_eq_true rfl) dX11_mark_10 rfl ?_
    intro r_14 N_15 q_16
    obtain ⟨hI_N_15, hG_N_15, q_16c⟩ := q_16
    have hF_N_15 : Fr f_m_X11_mark M N_15 := Fr.c hF_M hG_N_15 rfl
    have hX_N_15 : XX N_15 := XX.fr hX_M hI_M hG_N_15 rfl
    subst q_16c
    have e_17 : (N_15 c0 7) = (M c0 7) := by rw [Fr.e hG_N_15 hk_c0 _ rfl]
    have e_18 : (N_15 c0 7) = (M c0 7) := by rw [Fr.e hG_N_15 hk_c0 _ rfl]
    exact kx_iret F hQ ⟨hI_N_15, hF_N_15, (by omega), hX_N_15⟩ dX11_mark_13
abbrev f_m_X11_undo : List (Nat × Int) := [(21, 0), (41, 2), (62, 0), (62, 5), (62, 7), (63, -1)]
set_option maxHeartbeats 4000000 in
set_option maxRecDepth 100000 in
theorem m_X11_undo (G : KG) (l : Launch) (M : Mem) (c0 : Int) (hI_M : Inv false M) (hk_c0 : kd c0 = 62) : KC false G l yX11_undo cX11_undo 2 (some .int) (2, 40) [vR G c0] M (fun A => kQi false G A (fun (r : Int) (N : Mem) => Inv false N ∧ Fr f_m_X11_undo M N ∧ (((M c0 7) = 0 ∧ r = -1 ∧ (N c0 7) = 0) ∨ ((M c0 7) ≥ 1 ∧ (N c0 7) = (M c0 7) - 1 ∧ r = (M c0 7) - 1)))) := by
  refine kx_met (lo := [some (vR G c0), none]) (by decide) (Nat.le_of_ble_eq_true rfl) rfl ?_
  intro X F hQ
  have hF_M : Fr f_m_X11_undo M M := Fr.rf _ _
  refine kx_aload_n 1 F 0 dX11_undo_0 rfl rfl rfl ?_
  refine kx_geti 4 F fl_X11_385 hk_c0 rfl rfl (j := 7) rfl dX11_undo_1 (v := (M c0 7)) rfl rfl ?_
  have h_1 := Inv.g hI_M hk_c0 rfl 7 (a := 0) (b := 3) rfl rfl
  refine kx_if_gt 7 F 14 dX11_undo_4 (by decide) rfl (by omega) (fun h_2 => ?_) (fun h_2 => ?_)
  · refine kx_aload_n 15 F 0 dX11_undo_14 rfl rfl rfl ?_
    refine kx_dup 16 F dX11_undo_15 rfl rfl ?_
    refine kx_geti 19 F fl_X11_385 hk_c0 rfl rfl (j := 7) rfl dX11_undo_16 (v := (M c0 7)) rfl rfl ?_
    refine kx_iconst 20 F dX11_undo_19 rfl ?_
    refine kx_isub 21 F (v := (M c0 7) - 1) dX11_undo_20 rfl rfl ?_
    refine kx_puti 24 F fw_X11_385 rfl hk_c0 rfl rfl (j := 7) rfl dX11_undo_21 rfl ?_
    intro N_3 hM_N_3
    have hI_N_3 : Inv false N_3 := Inv.u hI_M hM_N_3 hk_c0 (a := 0) (b := 3) rfl rfl rfl (by omega)
    have hF_N_3 : Fr f_m_X11_undo M N_3 := Fr.u hF_M hM_N_3 hk_c0 rfl
    refine kx_aload_n 25 F 0 dX11_undo_24 rfl rfl rfl ?_
    refine kx_getr 28 F fl_X11_26 hk_c0 rfl rfl (j := 5) rfl dX11_undo_25 (v := (M c0 5)) (by rw [hM_N_3, mu_i (by omega)]) rfl ?_
    have hk_4 : kd (M c0 5) = 12 := Inv.r hI_M hk_c0 rfl 5 rfl rfl
    refine kx_astore_n 29 F 1 (lo' := [some (vR G c0), some (vR G (M c0 5))]) dX11_undo_28 rfl (by decide) rfl rfl rfl ?_
    refine kx_aload_n 30 F 0 dX11_undo_29 rfl rfl rfl ?_
    refine kx_aload_n 31 F 0 dX11_undo_30 rfl rfl rfl ?_
    refine kx_getr 34 F fl_X11_30 hk_c0 rfl rfl (j := 6) rfl dX11_undo_31 (v := (M c0 6)) (by rw [hM_N_3, mu_i (by omega)]) rfl ?_
    have hk_5 : kd (M c0 6) = 63 := Inv.r hI_M hk_c0 rfl 6 rfl rfl
    refine kx_aload_n 35 F 0 dX11_undo_34 rfl rfl rfl ?_
    refine kx_geti 38 F fl_X11_385 hk_c0 rfl rfl (j := 7) rfl dX11_undo_35 (v := (M c0 7) - 1) (by rw [hM_N_3, mu_s]) rfl ?_
    refine kx_aald 39 F hk_5 rfl rfl (by omega) (by decide) dX11_undo_38 (v := (M (M c0 6) ((M c0 7) - 1))) (by rw [hM_N_3, mu_k hk_5 hk_c0 rfl]) rfl ?_
    have hk_6 : kd (M (M c0 6) ((M c0 7) - 1)) = 12 := Inv.r hI_M hk_5 rfl ((M c0 7) - 1) rfl rfl
    refine kx_putr 42 F fw_X11_26 (Or.inl ⟨_, rfl⟩) hk_c0 rfl rfl (j := 5) rfl dX11_undo_39 rfl ?_
    intro N_7 hM_N_7
    have hI_N_7 : Inv false N_7 := Inv.ur hI_N_3 hM_N_7 hk_c0 rfl rfl rfl hk_6 rfl rfl rfl
    have hF_N_7 : Fr f_m_X11_undo M N_7 := Fr.u hF_N_3 hM_N_7 hk_c0 rfl
    refine kx_aload_n 43 F 0 dX11_undo_42 rfl rfl rfl ?_
    refine kx_getr 46 F fl_X11_30 hk_c0 rfl rfl (j := 6) rfl dX11_undo_43 (v := (M c0 6)) (by rw [hM_N_7, mu_i (by omega), hM_N_3, mu_i (by omega)]) rfl ?_
    refine kx_aload_n 47 F 0 dX11_undo_46 rfl rfl rfl ?_
    refine kx_geti 50 F fl_X11_385 hk_c0 rfl rfl (j := 7) rfl dX11_undo_47 (v := (M c0 7) - 1) (by rw [hM_N_7, mu_i (by omega), hM_N_3, mu_s]) rfl ?_
    refine kx_aload_n 51 F 1 dX11_undo_50 rfl rfl rfl ?_
    refine kx_aast 52 F hk_4 rfl rfl rfl hk_5 rfl rfl (by omega) (by decide) dX11_undo_51 rfl ?_
    intro N_8 hM_N_8
    have hI_N_8 : Inv false N_8 := Inv.ur hI_N_7 hM_N_8 hk_5 rfl rfl rfl hk_4 rfl rfl rfl
    have hF_N_8 : Fr f_m_X11_undo M N_8 := Fr.u hF_N_7 hM_N_8 hk_5 rfl
    refine kx_aload_n 53 F 0 dX11_undo_52 rfl rfl rfl ?_
    refine kx_Vv 56 (ci := 0) F (As := []) (st := []) vd_X11_139 (c_X11_forget G l N_8 c0 hI_N_8 hk_c0) hk_c0 rfl rfl rfl ⟨by decide, by decide⟩ rfl rfl (Nat.le_of_ble_eq_true rfl) dX11_undo_53 rfl ?_
    intro N_9 q_10
    obtain ⟨hI_N_9, hG_N_9⟩ := q_10
    have hF_N_9 : Fr f_m_X11_undo M N_9 := Fr.c hF_N_8 hG_N_9 rfl
    refine kx_aload_n 57 F 0 dX11_undo_56 rfl rfl rfl ?_
    refine kx_aload_n 58 F 0 dX11_undo_57 rfl rfl rfl ?_
    refine kx_geti 61 F fl_X11_385 hk_c0 rfl rfl (j := 7) rfl dX11_undo_58 (v := (M c0 7) - 1) (by rw [Fr.e hG_N_9 hk_c0 _ rfl, hM_N_8, mu_k hk_c0 hk_5 rfl, hM_N_7, mu_i (by omega), hM_N_3, mu_s]) rfl ?_
    refine kx_Vi 64 (ci := 0) F (As := [vI ((M c0 7) - 1)]) (st := []) vd_X11_145 (c_X11_answer G l N_9 c0 ((M c0 7) - 1) hI_N_9 hk_c0 (by omega)) hk_c0 rfl rfl rfl ⟨by decide, by decide⟩ rfl rfl (Nat.le_of_ble_eq_true rfl) dX11_undo_61 rfl ?_
    intro r_11 N_12 q_13
    obtain ⟨hI_N_12, hG_N_12, q_13c⟩ := q_13
    have hF_N_12 : Fr f_m_X11_undo M N_12 := Fr.c hF_N_9 hG_N_12 rfl
    have e_14 : (N_12 c0 7) = (M c0 7) - 1 := by rw [Fr.e hG_N_12 hk_c0 _ rfl, Fr.e hG_N_9 hk_c0 _ rfl, hM_N_8, mu_k hk_c0 hk_5 rfl, hM_N_7, mu_i (by omega), hM_N_3, mu_s]
    have e_15 : (N_12 c0 7) = (M c0 7) - 1 := by rw [Fr.e hG_N_12 hk_c0 _ rfl, Fr.e hG_N_9 hk_c0 _ rfl, hM_N_8, mu_k hk_c0 hk_5 rfl, hM_N_7, mu_i (by omega), hM_N_3, mu_s]
    exact kx_iret F hQ ⟨hI_N_12, hF_N_12, (by omega)⟩ dX11_undo_64
  · refine kx_aload_n 8 F 0 dX11_undo_7 rfl rfl rfl ?_
    refine kx_bipush 10 F dX11_undo_8 (by decide) rfl ?_
    refine kx_Vi 13 (ci := 0) F (As := [vI 6]) (st := []) vd_X11_110 (c_X11_refuse G l M c0 6 hI_M hk_c0 (by omega)) hk_c0 rfl rfl rfl ⟨by decide, by decide⟩ rfl rfl (Nat.le_of_ble_eq_true rfl) dX11_undo_10 rfl ?_
    intro r_16 N_17 q_18
    obtain ⟨hI_N_17, hG_N_17, q_18c⟩ := q_18
    have hF_N_17 : Fr f_m_X11_undo M N_17 := Fr.c hF_M hG_N_17 rfl
    subst q_18c
    have e_19 : (N_17 c0 7) = (M c0 7) := by rw [Fr.e hG_N_17 hk_c0 _ rfl]
    have e_20 : (N_17 c0 7) = (M c0 7) := by rw [Fr.e hG_N_17 hk_c0 _ rfl]
    exact kx_iret F hQ ⟨hI_N_17, hF_N_17, (by omega)⟩ dX11_undo_13
