theorem dX1_takeAutomaton_0 : decode cX1_takeAutomaton 0 = .ok (.aload_n 0, 1) := by decide +kernel
theorem dX1_takeAutomaton_1 : decode cX1_takeAutomaton 1 = .ok (.getfield 12, 3) := by decide +kernel
theorem dX1_takeAutomaton_4 : decode cX1_takeAutomaton 4 = .ok (.getfield 86, 3) := by decide +kernel
theorem dX1_takeAutomaton_7 : decode cX1_takeAutomaton 7 = .ok (.iconst 2, 1) := by decide +kernel
theorem dX1_takeAutomaton_8 : decode cX1_takeAutomaton 8 = .ok (.if_icmp .lt 10, 3) := by decide +kernel
theorem dX1_takeAutomaton_11 : decode cX1_takeAutomaton 11 = .ok (.aload_n 0, 1) := by decide +kernel
theorem dX1_takeAutomaton_12 : decode cX1_takeAutomaton 12 = .ok (.bipush 6, 2) := by decide +kernel
theorem dX1_takeAutomaton_14 : decode cX1_takeAutomaton 14 = .ok (.invokevirtual 89, 3) := by decide +kernel
theorem dX1_takeAutomaton_17 : decode cX1_takeAutomaton 17 = .ok (.ireturn, 1) := by decide +kernel
theorem dX1_takeAutomaton_18 : decode cX1_takeAutomaton 18 = .ok (.aload_n 0, 1) := by decide +kernel
theorem dX1_takeAutomaton_19 : decode cX1_takeAutomaton 19 = .ok (.invokevirtual 57, 3) := by decide +kernel
theorem dX1_takeAutomaton_22 : decode cX1_takeAutomaton 22 = .ok (.ifCond .eq 12, 3) := by decide +kernel
theorem dX1_takeAutomaton_25 : decode cX1_takeAutomaton 25 = .ok (.aload_n 0, 1) := by decide +kernel
theorem dX1_takeAutomaton_26 : decode cX1_takeAutomaton 26 = .ok (.iconst 1, 1) := by decide +kernel
theorem dX1_takeAutomaton_27 : decode cX1_takeAutomaton 27 = .ok (.iconst 3, 1) := by decide +kernel
theorem dX1_takeAutomaton_28 : decode cX1_takeAutomaton 28 = .ok (.invokevirtual 123, 3) := by decide +kernel
theorem dX1_takeAutomaton_31 : decode cX1_takeAutomaton 31 = .ok (.ifCond .ne 5, 3) := by decide +kernel
theorem dX1_takeAutomaton_34 : decode cX1_takeAutomaton 34 = .ok (.iconst 0, 1) := by decide +kernel
theorem dX1_takeAutomaton_35 : decode cX1_takeAutomaton 35 = .ok (.ireturn, 1) := by decide +kernel
theorem dX1_takeAutomaton_36 : decode cX1_takeAutomaton 36 = .ok (.aload_n 0, 1) := by decide +kernel
theorem dX1_takeAutomaton_37 : decode cX1_takeAutomaton 37 = .ok (.getfield 127, 3) := by decide +kernel
theorem dX1_takeAutomaton_40 : decode cX1_takeAutomaton 40 = .ok (.istore_n 1, 1) := by decide +kernel
theorem dX1_takeAutomaton_41 : decode cX1_takeAutomaton 41 = .ok (.aload_n 0, 1) := by decide +kernel
theorem dX1_takeAutomaton_42 : decode cX1_takeAutomaton 42 = .ok (.invokevirtual 57, 3) := by decide +kernel
theorem dX1_takeAutomaton_45 : decode cX1_takeAutomaton 45 = .ok (.ifCond .eq 12, 3) := by decide +kernel
theorem dX1_takeAutomaton_48 : decode cX1_takeAutomaton 48 = .ok (.aload_n 0, 1) := by decide +kernel
theorem dX1_takeAutomaton_49 : decode cX1_takeAutomaton 49 = .ok (.ldc 130, 2) := by decide +kernel
theorem dX1_takeAutomaton_51 : decode cX1_takeAutomaton 51 = .ok (.invokevirtual 132, 3) := by decide +kernel
theorem dX1_takeAutomaton_54 : decode cX1_takeAutomaton 54 = .ok (.ifCond .ne 5, 3) := by decide +kernel
theorem dX1_takeAutomaton_57 : decode cX1_takeAutomaton 57 = .ok (.iconst 0, 1) := by decide +kernel
theorem dX1_takeAutomaton_58 : decode cX1_takeAutomaton 58 = .ok (.ireturn, 1) := by decide +kernel
theorem dX1_takeAutomaton_59 : decode cX1_takeAutomaton 59 = .ok (.aload_n 0, 1) := by decide +kernel
theorem dX1_takeAutomaton_60 : decode cX1_takeAutomaton 60 = .ok (.invokevirtual 57, 3) := by decide +kernel
theorem dX1_takeAutomaton_63 : decode cX1_takeAutomaton 63 = .ok (.ifCond .eq 12, 3) := by decide +kernel
theorem dX1_takeAutomaton_66 : decode cX1_takeAutomaton 66 = .ok (.aload_n 0, 1) := by decide +kernel
theorem dX1_takeAutomaton_67 : decode cX1_takeAutomaton 67 = .ok (.iconst 1, 1) := by decide +kernel
theorem dX1_takeAutomaton_68 : decode cX1_takeAutomaton 68 = .ok (.iconst 3, 1) := by decide +kernel
theorem dX1_takeAutomaton_69 : decode cX1_takeAutomaton 69 = .ok (.invokevirtual 123, 3) := by decide +kernel
theorem dX1_takeAutomaton_72 : decode cX1_takeAutomaton 72 = .ok (.ifCond .ne 5, 3) := by decide +kernel
theorem dX1_takeAutomaton_75 : decode cX1_takeAutomaton 75 = .ok (.iconst 0, 1) := by decide +kernel
theorem dX1_takeAutomaton_76 : decode cX1_takeAutomaton 76 = .ok (.ireturn, 1) := by decide +kernel
theorem dX1_takeAutomaton_77 : decode cX1_takeAutomaton 77 = .ok (.aload_n 0, 1) := by decide +kernel
theorem dX1_takeAutomaton_78 : decode cX1_takeAutomaton 78 = .ok (.getfield 12, 3) := by decide +kernel
theorem dX1_takeAutomaton_81 : decode cX1_takeAutomaton 81 = .ok (.dup, 1) := by decide +kernel
theorem dX1_takeAutomaton_82 : decode cX1_takeAutomaton 82 = .ok (.getfield 86, 3) := by decide +kernel
theorem dX1_takeAutomaton_85 : decode cX1_takeAutomaton 85 = .ok (.iconst 1, 1) := by decide +kernel
theorem dX1_takeAutomaton_86 : decode cX1_takeAutomaton 86 = .ok (.iadd, 1) := by decide +kernel
theorem dX1_takeAutomaton_87 : decode cX1_takeAutomaton 87 = .ok (.putfield 86, 3) := by decide +kernel
theorem dX1_takeAutomaton_90 : decode cX1_takeAutomaton 90 = .ok (.aload_n 0, 1) := by decide +kernel
theorem dX1_takeAutomaton_91 : decode cX1_takeAutomaton 91 = .ok (.invokevirtual 135, 3) := by decide +kernel
theorem dX1_takeAutomaton_94 : decode cX1_takeAutomaton 94 = .ok (.aload_n 0, 1) := by decide +kernel
theorem dX1_takeAutomaton_95 : decode cX1_takeAutomaton 95 = .ok (.getfield 12, 3) := by decide +kernel
theorem dX1_takeAutomaton_98 : decode cX1_takeAutomaton 98 = .ok (.getfield 139, 3) := by decide +kernel
theorem dX1_takeAutomaton_101 : decode cX1_takeAutomaton 101 = .ok (.iload_n 1, 1) := by decide +kernel
theorem dX1_takeAutomaton_102 : decode cX1_takeAutomaton 102 = .ok (.aload_n 0, 1) := by decide +kernel
theorem dX1_takeAutomaton_103 : decode cX1_takeAutomaton 103 = .ok (.getfield 127, 3) := by decide +kernel
theorem dX1_takeAutomaton_106 : decode cX1_takeAutomaton 106 = .ok (.invokevirtual 142, 3) := by decide +kernel
theorem dX1_takeAutomaton_109 : decode cX1_takeAutomaton 109 = .ok (.aload_n 0, 1) := by decide +kernel
theorem dX1_takeAutomaton_110 : decode cX1_takeAutomaton 110 = .ok (.invokevirtual 57, 3) := by decide +kernel
theorem dX1_takeAutomaton_113 : decode cX1_takeAutomaton 113 = .ok (.ifCond .eq 14, 3) := by decide +kernel
theorem dX1_takeAutomaton_116 : decode cX1_takeAutomaton 116 = .ok (.aload_n 0, 1) := by decide +kernel
theorem dX1_takeAutomaton_117 : decode cX1_takeAutomaton 117 = .ok (.invokevirtual 120, 3) := by decide +kernel
theorem dX1_takeAutomaton_120 : decode cX1_takeAutomaton 120 = .ok (.ifCond .eq 7, 3) := by decide +kernel
theorem dX1_takeAutomaton_123 : decode cX1_takeAutomaton 123 = .ok (.iconst 1, 1) := by decide +kernel
theorem dX1_takeAutomaton_124 : decode cX1_takeAutomaton 124 = .ok (.goto 4, 3) := by decide +kernel
theorem dX1_takeAutomaton_127 : decode cX1_takeAutomaton 127 = .ok (.iconst 0, 1) := by decide +kernel
theorem dX1_takeAutomaton_128 : decode cX1_takeAutomaton 128 = .ok (.ireturn, 1) := by decide +kernel
abbrev f_c_X1_takeAutomaton : List (Nat × Int) := [(1, 0), (1, 1), (1, 2), (1, 3), (1, 4), (1, 5), (6, -1), (7, -1), (12, 3), (17, 2), (17, 3), (17, 6), (17, 7), (17, 8), (17, 9)]
set_option maxHeartbeats 4000000 in
set_option maxRecDepth 100000 in
theorem c_X1_takeAutomaton (G : KG) (l : Launch) (M : Mem) (c0 : Int) (hI_M : Inv false M) (hk_c0 : kd c0 = 17) (hpre : (M c0 7) + (M c0 8) ≤ 900) : KC false G l yX1_takeAutomaton cX1_takeAutomaton 2 (some .boolean) (6, 128) [vR G c0] M (fun A => kQi false G A (fun (r : Int) (N : Mem) => Inv false N ∧ Fr f_c_X1_takeAutomaton M N ∧ ((N c0 7) + (N c0 8) ≤ 900 ∧ r ≥ 0 ∧ r ≤ 1))) := by
  refine kx_met (lo := [some (vR G c0), none]) (by decide) (Nat.le_of_ble_eq_true rfl) rfl ?_
  intro X F hQ
  have hF_M : Fr f_c_X1_takeAutomaton M M := Fr.rf _ _
  have h_1 := Inv.g hI_M hk_c0 rfl 7 (a := 0) (b := 900) rfl rfl
  have h_2 := Inv.g hI_M hk_c0 rfl 8 (a := 0) (b := 900) rfl rfl
  refine kx_aload_n 1 F 0 dX1_takeAutomaton_0 rfl rfl rfl ?_
  refine kx_getr 4 F fl_X1_12 hk_c0 rfl rfl (j := 0) rfl dX1_takeAutomaton_1 (v := (M c0 0)) rfl rfl ?_
  have hk_3 : kd (M c0 0) = 12 := Inv.r hI_M hk_c0 rfl 0 rfl rfl
  refine kx_geti 7 F fl_X1_86 hk_3 rfl rfl (j := 3) rfl dX1_takeAutomaton_4 (v := (M (M c0 0) 3)) rfl rfl ?_
  have h_4 := Inv.g hI_M hk_3 rfl 3 (a := 0) (b := 2) rfl rfl
  refine kx_iconst 8 F dX1_takeAutomaton_7 rfl ?_
  refine kx_icmp_lt 11 F 18 dX1_takeAutomaton_8 (by decide) rfl (by omega) (by decide) (fun h_5 => ?_) (fun h_5 => ?_)
  · refine kx_aload_n 19 F 0 dX1_takeAutomaton_18 rfl rfl rfl ?_
    refine kx_Vi 22 (ci := 0) F (As := []) (st := []) vd_X1_57 (c_X1_advance G l M c0 hI_M hk_c0 (by omega)) hk_c0 rfl rfl rfl ⟨by decide, by decide⟩ rfl rfl (Nat.le_of_ble_eq_true rfl) dX1_takeAutomaton_19 rfl ?_
    intro r_6 N_7 q_8
    obtain ⟨hI_N_7, hG_N_7, q_8c⟩ := q_8
    have hF_N_7 : Fr f_c_X1_takeAutomaton M N_7 := Fr.c hF_M hG_N_7 rfl
    have h_9 := Inv.g hI_N_7 hk_c0 rfl 7 (a := 0) (b := 900) rfl rfl
    have h_10 := Inv.g hI_N_7 hk_c0 rfl 8 (a := 0) (b := 900) rfl rfl
    refine kx_if_eq 25 F 34 dX1_takeAutomaton_22 (by decide) rfl (by omega) (fun h_11 => ?_) (fun h_11 => ?_)
    · refine kx_iconst 35 F dX1_takeAutomaton_34 rfl ?_
      exact kx_zret F hQ (by omega) ⟨hI_N_7, hF_N_7, (by omega)⟩ dX1_takeAutomaton_35
    · refine kx_aload_n 26 F 0 dX1_takeAutomaton_25 rfl rfl rfl ?_
      refine kx_iconst 27 F dX1_takeAutomaton_26 rfl ?_
      refine kx_iconst 28 F dX1_takeAutomaton_27 rfl ?_
      refine kx_Vi 31 (ci := 0) F (As := [vI 1, vI 3]) (st := []) vd_X1_123 (c_X1_standsNumber G l N_7 c0 1 3 hI_N_7 hk_c0 (by omega)) hk_c0 rfl rfl rfl ⟨by decide, by decide⟩ rfl rfl (Nat.le_of_ble_eq_true rfl) dX1_takeAutomaton_28 rfl ?_
      intro r_12 N_13 q_14
      obtain ⟨hI_N_13, hG_N_13, q_14c⟩ := q_14
      have hF_N_13 : Fr f_c_X1_takeAutomaton M N_13 := Fr.c hF_N_7 hG_N_13 rfl
      have e_15 : (N_13 c0 9) = (N_7 c0 9) := by rw [Fr.e hG_N_13 hk_c0 _ rfl]
      have h_16 := Inv.g hI_N_7 hk_c0 rfl 9 (a := (-2147483648)) (b := 2147483647) rfl rfl
      have e_17 : (N_13 c0 9) = (N_7 c0 9) := by rw [Fr.e hG_N_13 hk_c0 _ rfl]
      rcases q_14c with q_14c | q_14c
      · refine kx_if_ne 34 F 36 dX1_takeAutomaton_31 (by decide) rfl (by omega) (fun h_18 => ?_) (fun h_18 => (by exfalso; omega))
        refine kx_aload_n 37 F 0 dX1_takeAutomaton_36 rfl rfl rfl ?_
        refine kx_geti 40 F fl_X1_127 hk_c0 rfl rfl (j := 9) rfl dX1_takeAutomaton_37 (v := (N_7 c0 9)) (by rw [Fr.e hG_N_13 hk_c0 _ rfl]) rfl ?_
        refine kx_istore_n 41 F 1 (lo' := [some (vR G c0), some (vI (N_7 c0 9))]) dX1_takeAutomaton_40 rfl (by decide) rfl rfl rfl ?_
        refine kx_aload_n 42 F 0 dX1_takeAutomaton_41 rfl rfl rfl ?_
        have e_19 : (N_13 c0 7) = (N_7 c0 7) := by rw [Fr.e hG_N_13 hk_c0 _ rfl]
        have e_20 : (N_13 c0 8) = (N_7 c0 8) := by rw [Fr.e hG_N_13 hk_c0 _ rfl]
        refine kx_Vi 45 (ci := 0) F (As := []) (st := []) vd_X1_57 (c_X1_advance G l N_13 c0 hI_N_13 hk_c0 (by omega)) hk_c0 rfl rfl rfl ⟨by decide, by decide⟩ rfl rfl (Nat.le_of_ble_eq_true rfl) dX1_takeAutomaton_42 rfl ?_
        intro r_21 N_22 q_23
        obtain ⟨hI_N_22, hG_N_22, q_23c⟩ := q_23
        have hF_N_22 : Fr f_c_X1_takeAutomaton M N_22 := Fr.c hF_N_13 hG_N_22 rfl
        have h_24 := Inv.g hI_N_22 hk_c0 rfl 7 (a := 0) (b := 900) rfl rfl
        have h_25 := Inv.g hI_N_22 hk_c0 rfl 8 (a := 0) (b := 900) rfl rfl
        refine kx_if_eq 48 F 57 dX1_takeAutomaton_45 (by decide) rfl (by omega) (fun h_26 => ?_) (fun h_26 => ?_)
        · refine kx_iconst 58 F dX1_takeAutomaton_57 rfl ?_
          exact kx_zret F hQ (by omega) ⟨hI_N_22, hF_N_22, (by omega)⟩ dX1_takeAutomaton_58
        · refine kx_aload_n 49 F 0 dX1_takeAutomaton_48 rfl rfl rfl ?_
          refine kx_ldcS 51 F 4 (by decide) rfl rfl dX1_takeAutomaton_49 rfl ?_
          refine kx_Vi 54 (ci := 0) F (As := [vT G 4]) (st := []) vd_X1_132 (c_X1_standsWord G l N_22 c0 4 hI_N_22 hk_c0 (by omega)) hk_c0 rfl rfl rfl ⟨by decide, by decide⟩ rfl rfl (Nat.le_of_ble_eq_true rfl) dX1_takeAutomaton_51 rfl ?_
          intro r_27 N_28 q_29
          obtain ⟨hI_N_28, hG_N_28, q_29c⟩ := q_29
          have hF_N_28 : Fr f_c_X1_takeAutomaton M N_28 := Fr.c hF_N_22 hG_N_28 rfl
          refine kx_if_ne 57 F 59 dX1_takeAutomaton_54 (by decide) rfl (by omega) (fun h_30 => ?_) (fun h_30 => ?_)
          · refine kx_aload_n 60 F 0 dX1_takeAutomaton_59 rfl rfl rfl ?_
            have e_31 : (N_28 c0 7) = (N_22 c0 7) := by rw [Fr.e hG_N_28 hk_c0 _ rfl]
            have e_32 : (N_28 c0 8) = (N_22 c0 8) := by rw [Fr.e hG_N_28 hk_c0 _ rfl]
            refine kx_Vi 63 (ci := 0) F (As := []) (st := []) vd_X1_57 (c_X1_advance G l N_28 c0 hI_N_28 hk_c0 (by omega)) hk_c0 rfl rfl rfl ⟨by decide, by decide⟩ rfl rfl (Nat.le_of_ble_eq_true rfl) dX1_takeAutomaton_60 rfl ?_
            intro r_33 N_34 q_35
            obtain ⟨hI_N_34, hG_N_34, q_35c⟩ := q_35
            have hF_N_34 : Fr f_c_X1_takeAutomaton M N_34 := Fr.c hF_N_28 hG_N_34 rfl
            have h_36 := Inv.g hI_N_34 hk_c0 rfl 7 (a := 0) (b := 900) rfl rfl
            have h_37 := Inv.g hI_N_34 hk_c0 rfl 8 (a := 0) (b := 900) rfl rfl
            refine kx_if_eq 66 F 75 dX1_takeAutomaton_63 (by decide) rfl (by omega) (fun h_38 => ?_) (fun h_38 => ?_)
            · refine kx_iconst 76 F dX1_takeAutomaton_75 rfl ?_
              exact kx_zret F hQ (by omega) ⟨hI_N_34, hF_N_34, (by omega)⟩ dX1_takeAutomaton_76
            · refine kx_aload_n 67 F 0 dX1_takeAutomaton_66 rfl rfl rfl ?_
              refine kx_iconst 68 F dX1_takeAutomaton_67 rfl ?_
              refine kx_iconst 69 F dX1_takeAutomaton_68 rfl ?_
              refine kx_Vi 72 (ci := 0) F (As := [vI 1, vI 3]) (st := []) vd_X1_123 (c_X1_standsNumber G l N_34 c0 1 3 hI_N_34 hk_c0 (by omega)) hk_c0 rfl rfl rfl ⟨by decide, by decide⟩ rfl rfl (Nat.le_of_ble_eq_true rfl) dX1_takeAutomaton_69 rfl ?_
              intro r_39 N_40 q_41
              obtain ⟨hI_N_40, hG_N_40, q_41c⟩ := q_41
              have hF_N_40 : Fr f_c_X1_takeAutomaton M N_40 := Fr.c hF_N_34 hG_N_40 rfl
              have e_42 : (N_40 c0 9) = (N_34 c0 9) := by rw [Fr.e hG_N_40 hk_c0 _ rfl]
              have h_43 := Inv.g hI_N_34 hk_c0 rfl 9 (a := (-2147483648)) (b := 2147483647) rfl rfl
              have e_44 : (N_40 c0 9) = (N_34 c0 9) := by rw [Fr.e hG_N_40 hk_c0 _ rfl]
              rcases q_41c with q_41c | q_41c
              · refine kx_if_ne 75 F 77 dX1_takeAutomaton_72 (by decide) rfl (by omega) (fun h_45 => ?_) (fun h_45 => (by exfalso; omega))
                refine kx_aload_n 78 F 0 dX1_takeAutomaton_77 rfl rfl rfl ?_
                refine kx_getr 81 F fl_X1_12 hk_c0 rfl rfl (j := 0) rfl dX1_takeAutomaton_78 (v := (M c0 0)) (by rw [Fr.e hG_N_40 hk_c0 _ rfl, Fr.e hG_N_34 hk_c0 _ rfl, Fr.e hG_N_28 hk_c0 _ rfl, Fr.e hG_N_22 hk_c0 _ rfl, Fr.e hG_N_13 hk_c0 _ rfl, Fr.e hG_N_7 hk_c0 _ rfl]) rfl ?_
                refine kx_dup 82 F dX1_takeAutomaton_81 rfl rfl ?_
                refine kx_geti 85 F fl_X1_86 hk_3 rfl rfl (j := 3) rfl dX1_takeAutomaton_82 (v := (M (M c0 0) 3)) (by rw [Fr.e hG_N_40 hk_3 _ rfl, Fr.e hG_N_34 hk_3 _ rfl, Fr.e hG_N_28 hk_3 _ rfl, Fr.e hG_N_22 hk_3 _ rfl, Fr.e hG_N_13 hk_3 _ rfl, Fr.e hG_N_7 hk_3 _ rfl]) rfl ?_
                refine kx_iconst 86 F dX1_takeAutomaton_85 rfl ?_
                refine kx_iadd 87 F (v := (M (M c0 0) 3) + 1) dX1_takeAutomaton_86 rfl rfl ?_
                refine kx_puti 90 F fw_X1_86 rfl hk_3 rfl rfl (j := 3) rfl dX1_takeAutomaton_87 rfl ?_
                intro N_46 hM_N_46
                have hI_N_46 : Inv false N_46 := Inv.u hI_N_40 hM_N_46 hk_3 (a := 0) (b := 2) rfl rfl rfl (by omega)
                have hF_N_46 : Fr f_c_X1_takeAutomaton M N_46 := Fr.u hF_N_40 hM_N_46 hk_3 rfl
                refine kx_aload_n 91 F 0 dX1_takeAutomaton_90 rfl rfl rfl ?_
                refine kx_Vr 94 (ci := 0) F (As := []) (st := []) vd_X1_135 (c_X1_latest G l N_46 c0 hI_N_46 hk_c0) hk_c0 rfl rfl rfl ⟨by decide, by decide⟩ rfl rfl (Nat.le_of_ble_eq_true rfl) dX1_takeAutomaton_91 rfl ?_
                intro r_47 N_48 q_49
                obtain ⟨rfl, hk_50⟩ := q_49
                refine kx_aload_n 95 F 0 dX1_takeAutomaton_94 rfl rfl rfl ?_
                refine kx_getr 98 F fl_X1_12 hk_c0 rfl rfl (j := 0) rfl dX1_takeAutomaton_95 (v := (M c0 0)) (by rw [hM_N_46, mu_k hk_c0 hk_3 rfl, Fr.e hG_N_40 hk_c0 _ rfl, Fr.e hG_N_34 hk_c0 _ rfl, Fr.e hG_N_28 hk_c0 _ rfl, Fr.e hG_N_22 hk_c0 _ rfl, Fr.e hG_N_13 hk_c0 _ rfl, Fr.e hG_N_7 hk_c0 _ rfl]) rfl ?_
                refine kx_geti 101 F fl_X1_139 hk_3 rfl rfl (j := 0) rfl dX1_takeAutomaton_98 (v := (M (M c0 0) 0)) (by rw [hM_N_46, mu_i (by omega), Fr.e hG_N_40 hk_3 _ rfl, Fr.e hG_N_34 hk_3 _ rfl, Fr.e hG_N_28 hk_3 _ rfl, Fr.e hG_N_22 hk_3 _ rfl, Fr.e hG_N_13 hk_3 _ rfl, Fr.e hG_N_7 hk_3 _ rfl]) rfl ?_
                have h_51 := Inv.g hI_M hk_3 rfl 0 (a := 0) (b := 2) rfl rfl
                refine kx_iload_n 102 F 1 dX1_takeAutomaton_101 rfl rfl rfl ?_
                refine kx_aload_n 103 F 0 dX1_takeAutomaton_102 rfl rfl rfl ?_
                refine kx_geti 106 F fl_X1_127 hk_c0 rfl rfl (j := 9) rfl dX1_takeAutomaton_103 (v := (N_34 c0 9)) (by rw [hM_N_46, mu_k hk_c0 hk_3 rfl, Fr.e hG_N_40 hk_c0 _ rfl]) rfl ?_
                refine kx_Vv 109 (ci := 0) F (As := [vI (M (M c0 0) 0), vI (N_7 c0 9), vI (N_34 c0 9)]) (st := []) vd_X1_142 (c_X0_clear G l N_46 r_47 (M (M c0 0) 0) (N_7 c0 9) (N_34 c0 9) hI_N_46 hk_50 (by omega)) hk_50 rfl rfl rfl ⟨by decide, by decide⟩ rfl rfl (Nat.le_of_ble_eq_true rfl) dX1_takeAutomaton_106 rfl ?_
                intro N_52 q_53
                obtain ⟨hI_N_52, hG_N_52⟩ := q_53
                have hF_N_52 : Fr f_c_X1_takeAutomaton M N_52 := Fr.c hF_N_46 hG_N_52 rfl
                refine kx_aload_n 110 F 0 dX1_takeAutomaton_109 rfl rfl rfl ?_
                have e_54 : (N_52 c0 7) = (N_34 c0 7) := by rw [Fr.e hG_N_52 hk_c0 _ rfl, hM_N_46, mu_k hk_c0 hk_3 rfl, Fr.e hG_N_40 hk_c0 _ rfl]
                have e_55 : (N_52 c0 8) = (N_34 c0 8) := by rw [Fr.e hG_N_52 hk_c0 _ rfl, hM_N_46, mu_k hk_c0 hk_3 rfl, Fr.e hG_N_40 hk_c0 _ rfl]
                refine kx_Vi 113 (ci := 0) F (As := []) (st := []) vd_X1_57 (c_X1_advance G l N_52 c0 hI_N_52 hk_c0 (by omega)) hk_c0 rfl rfl rfl ⟨by decide, by decide⟩ rfl rfl (Nat.le_of_ble_eq_true rfl) dX1_takeAutomaton_110 rfl ?_
                intro r_56 N_57 q_58
                obtain ⟨hI_N_57, hG_N_57, q_58c⟩ := q_58
                have hF_N_57 : Fr f_c_X1_takeAutomaton M N_57 := Fr.c hF_N_52 hG_N_57 rfl
                have h_59 := Inv.g hI_N_57 hk_c0 rfl 7 (a := 0) (b := 900) rfl rfl
                have h_60 := Inv.g hI_N_57 hk_c0 rfl 8 (a := 0) (b := 900) rfl rfl
                refine kx_if_eq 116 F 127 dX1_takeAutomaton_113 (by decide) rfl (by omega) (fun h_61 => ?_) (fun h_61 => ?_)
                · refine kx_iconst 128 F dX1_takeAutomaton_127 rfl ?_
                  exact kx_zret F hQ (by omega) ⟨hI_N_57, hF_N_57, (by omega)⟩ dX1_takeAutomaton_128
                · refine kx_aload_n 117 F 0 dX1_takeAutomaton_116 rfl rfl rfl ?_
                  refine kx_Vi 120 (ci := 0) F (As := []) (st := []) vd_X1_120 (c_X1_standsSign G l N_57 c0 hI_N_57 hk_c0) hk_c0 rfl rfl rfl ⟨by decide, by decide⟩ rfl rfl (Nat.le_of_ble_eq_true rfl) dX1_takeAutomaton_117 rfl ?_
                  intro r_62 N_63 q_64
                  obtain ⟨hI_N_63, hG_N_63, q_64c⟩ := q_64
                  have hF_N_63 : Fr f_c_X1_takeAutomaton M N_63 := Fr.c hF_N_57 hG_N_63 rfl
                  refine kx_if_eq 123 F 127 dX1_takeAutomaton_120 (by decide) rfl (by omega) (fun h_65 => ?_) (fun h_65 => ?_)
                  · refine kx_iconst 128 F dX1_takeAutomaton_127 rfl ?_
                    have e_66 : (N_63 c0 7) = (N_57 c0 7) := by rw [Fr.e hG_N_63 hk_c0 _ rfl]
                    have e_67 : (N_63 c0 8) = (N_57 c0 8) := by rw [Fr.e hG_N_63 hk_c0 _ rfl]
                    exact kx_zret F hQ (by omega) ⟨hI_N_63, hF_N_63, (by omega)⟩ dX1_takeAutomaton_128
                  · refine kx_iconst 124 F dX1_takeAutomaton_123 rfl ?_
                    refine kx_goto 128 F dX1_takeAutomaton_124 (by decide) ?_
                    have e_68 : (N_63 c0 7) = (N_57 c0 7) := by rw [Fr.e hG_N_63 hk_c0 _ rfl]
                    have e_69 : (N_63 c0 8) = (N_57 c0 8) := by rw [Fr.e hG_N_63 hk_c0 _ rfl]
                    exact kx_zret F hQ (by omega) ⟨hI_N_63, hF_N_63, (by omega)⟩ dX1_takeAutomaton_128
              · refine kx_if_ne 75 F 77 dX1_takeAutomaton_72 (by decide) rfl (by omega) (fun h_70 => (by exfalso; omega)) (fun h_70 => ?_)
                refine kx_iconst 76 F dX1_takeAutomaton_75 rfl ?_
                have e_71 : (N_40 c0 7) = (N_34 c0 7) := by rw [Fr.e hG_N_40 hk_c0 _ rfl]
                have e_72 : (N_40 c0 8) = (N_34 c0 8) := by rw [Fr.e hG_N_40 hk_c0 _ rfl]
                exact kx_zret F hQ (by omega) ⟨hI_N_40, hF_N_40, (by omega)⟩ dX1_takeAutomaton_76
          · refine kx_iconst 58 F dX1_takeAutomaton_57 rfl ?_
            have e_73 : (N_28 c0 7) = (N_22 c0 7) := by rw [Fr.e hG_N_28 hk_c0 _ rfl]
            have e_74 : (N_28 c0 8) = (N_22 c0 8) := by rw [Fr.e hG_N_28 hk_c0 _ rfl]
            exact kx_zret F hQ (by omega) ⟨hI_N_28, hF_N_28, (by omega)⟩ dX1_takeAutomaton_58
      · refine kx_if_ne 34 F 36 dX1_takeAutomaton_31 (by decide) rfl (by omega) (fun h_75 => (by exfalso; omega)) (fun h_75 => ?_)
        refine kx_iconst 35 F dX1_takeAutomaton_34 rfl ?_
        have e_76 : (N_13 c0 7) = (N_7 c0 7) := by rw [Fr.e hG_N_13 hk_c0 _ rfl]
        have e_77 : (N_13 c0 8) = (N_7 c0 8) := by rw [Fr.e hG_N_13 hk_c0 _ rfl]
        exact kx_zret F hQ (by omega) ⟨hI_N_13, hF_N_13, (by omega)⟩ dX1_takeAutomaton_35
  · refine kx_aload_n 12 F 0 dX1_takeAutomaton_11 rfl rfl rfl ?_
    refine kx_bipush 14 F dX1_takeAutomaton_12 (by decide) rfl ?_
    refine kx_Vi 17 (ci := 0) F (As := [vI 6]) (st := []) vd_X1_89 (c_X1_fail G l M c0 6 hI_M hk_c0 (by omega)) hk_c0 rfl rfl rfl ⟨by decide, by decide⟩ rfl rfl (Nat.le_of_ble_eq_true rfl) dX1_takeAutomaton_14 rfl ?_
    intro r_78 N_79 q_80
    obtain ⟨hI_N_79, hG_N_79, q_80c⟩ := q_80
    have hF_N_79 : Fr f_c_X1_takeAutomaton M N_79 := Fr.c hF_M hG_N_79 rfl
    subst q_80c
    have e_81 : (N_79 c0 7) = (M c0 7) := by rw [Fr.e hG_N_79 hk_c0 _ rfl]
    have e_82 : (N_79 c0 8) = (M c0 8) := by rw [Fr.e hG_N_79 hk_c0 _ rfl]
    exact kx_zret F hQ (by omega) ⟨hI_N_79, hF_N_79, (by omega)⟩ dX1_takeAutomaton_17
theorem dX1_takeStates_0 : decode cX1_takeStates 0 = .ok (.aload_n 0, 1) := by decide +kernel
theorem dX1_takeStates_1 : decode cX1_takeStates 1 = .ok (.invokevirtual 135, 3) := by decide +kernel
theorem dX1_takeStates_4 : decode cX1_takeStates 4 = .ok (.astore_n 2, 1) := by decide +kernel
theorem dX1_takeStates_5 : decode cX1_takeStates 5 = .ok (.iload_n 1, 1) := by decide +kernel
theorem dX1_takeStates_6 : decode cX1_takeStates 6 = .ok (.ifCond .eq 10, 3) := by decide +kernel
theorem dX1_takeStates_9 : decode cX1_takeStates 9 = .ok (.aload_n 2, 1) := by decide +kernel
theorem dX1_takeStates_10 : decode cX1_takeStates 10 = .ok (.getfield 147, 3) := by decide +kernel
theorem dX1_takeStates_13 : decode cX1_takeStates 13 = .ok (.goto 7, 3) := by decide +kernel
theorem dX1_takeStates_16 : decode cX1_takeStates 16 = .ok (.aload_n 2, 1) := by decide +kernel
theorem dX1_takeStates_17 : decode cX1_takeStates 17 = .ok (.getfield 150, 3) := by decide +kernel
theorem dX1_takeStates_20 : decode cX1_takeStates 20 = .ok (.istore_n 3, 1) := by decide +kernel
theorem dX1_takeStates_21 : decode cX1_takeStates 21 = .ok (.aload_n 0, 1) := by decide +kernel
theorem dX1_takeStates_22 : decode cX1_takeStates 22 = .ok (.invokevirtual 57, 3) := by decide +kernel
theorem dX1_takeStates_25 : decode cX1_takeStates 25 = .ok (.istore 4, 2) := by decide +kernel
theorem dX1_takeStates_27 : decode cX1_takeStates 27 = .ok (.iconst 0, 1) := by decide +kernel
theorem dX1_takeStates_28 : decode cX1_takeStates 28 = .ok (.istore 5, 2) := by decide +kernel
theorem dX1_takeStates_30 : decode cX1_takeStates 30 = .ok (.iload 5, 2) := by decide +kernel
theorem dX1_takeStates_32 : decode cX1_takeStates 32 = .ok (.aload_n 0, 1) := by decide +kernel
theorem dX1_takeStates_33 : decode cX1_takeStates 33 = .ok (.getfield 45, 3) := by decide +kernel
theorem dX1_takeStates_36 : decode cX1_takeStates 36 = .ok (.if_icmp .ge 70, 3) := by decide +kernel
theorem dX1_takeStates_39 : decode cX1_takeStates 39 = .ok (.iload 4, 2) := by decide +kernel
theorem dX1_takeStates_41 : decode cX1_takeStates 41 = .ok (.ifCond .eq 65, 3) := by decide +kernel
theorem dX1_takeStates_44 : decode cX1_takeStates 44 = .ok (.aload_n 0, 1) := by decide +kernel
theorem dX1_takeStates_45 : decode cX1_takeStates 45 = .ok (.getfield 61, 3) := by decide +kernel
theorem dX1_takeStates_48 : decode cX1_takeStates 48 = .ok (.iconst 3, 1) := by decide +kernel
theorem dX1_takeStates_49 : decode cX1_takeStates 49 = .ok (.if_icmp .eq 57, 3) := by decide +kernel
theorem dX1_takeStates_52 : decode cX1_takeStates 52 = .ok (.aload_n 0, 1) := by decide +kernel
theorem dX1_takeStates_53 : decode cX1_takeStates 53 = .ok (.iconst 0, 1) := by decide +kernel
theorem dX1_takeStates_54 : decode cX1_takeStates 54 = .ok (.aload_n 2, 1) := by decide +kernel
theorem dX1_takeStates_55 : decode cX1_takeStates 55 = .ok (.getfield 153, 3) := by decide +kernel
theorem dX1_takeStates_58 : decode cX1_takeStates 58 = .ok (.iconst 1, 1) := by decide +kernel
theorem dX1_takeStates_59 : decode cX1_takeStates 59 = .ok (.isub, 1) := by decide +kernel
theorem dX1_takeStates_60 : decode cX1_takeStates 60 = .ok (.invokevirtual 123, 3) := by decide +kernel
theorem dX1_takeStates_63 : decode cX1_takeStates 63 = .ok (.ifCond .ne 5, 3) := by decide +kernel
theorem dX1_takeStates_66 : decode cX1_takeStates 66 = .ok (.iconst 0, 1) := by decide +kernel
theorem dX1_takeStates_67 : decode cX1_takeStates 67 = .ok (.ireturn, 1) := by decide +kernel
theorem dX1_takeStates_68 : decode cX1_takeStates 68 = .ok (.iload_n 3, 1) := by decide +kernel
theorem dX1_takeStates_69 : decode cX1_takeStates 69 = .ok (.aload_n 0, 1) := by decide +kernel
theorem dX1_takeStates_70 : decode cX1_takeStates 70 = .ok (.getfield 127, 3) := by decide +kernel
theorem dX1_takeStates_73 : decode cX1_takeStates 73 = .ok (.ishr, 1) := by decide +kernel
theorem dX1_takeStates_74 : decode cX1_takeStates 74 = .ok (.iconst 1, 1) := by decide +kernel
theorem dX1_takeStates_75 : decode cX1_takeStates 75 = .ok (.iand, 1) := by decide +kernel
theorem dX1_takeStates_76 : decode cX1_takeStates 76 = .ok (.ifCond .eq 9, 3) := by decide +kernel
theorem dX1_takeStates_79 : decode cX1_takeStates 79 = .ok (.aload_n 0, 1) := by decide +kernel
theorem dX1_takeStates_80 : decode cX1_takeStates 80 = .ok (.iconst 5, 1) := by decide +kernel
theorem dX1_takeStates_81 : decode cX1_takeStates 81 = .ok (.invokevirtual 89, 3) := by decide +kernel
theorem dX1_takeStates_84 : decode cX1_takeStates 84 = .ok (.ireturn, 1) := by decide +kernel
theorem dX1_takeStates_85 : decode cX1_takeStates 85 = .ok (.iload_n 3, 1) := by decide +kernel
theorem dX1_takeStates_86 : decode cX1_takeStates 86 = .ok (.iconst 1, 1) := by decide +kernel
theorem dX1_takeStates_87 : decode cX1_takeStates 87 = .ok (.aload_n 0, 1) := by decide +kernel
theorem dX1_takeStates_88 : decode cX1_takeStates 88 = .ok (.getfield 127, 3) := by decide +kernel
theorem dX1_takeStates_91 : decode cX1_takeStates 91 = .ok (.ishl, 1) := by decide +kernel
theorem dX1_takeStates_92 : decode cX1_takeStates 92 = .ok (.ior, 1) := by decide +kernel
theorem dX1_takeStates_93 : decode cX1_takeStates 93 = .ok (.istore_n 3, 1) := by decide +kernel
theorem dX1_takeStates_94 : decode cX1_takeStates 94 = .ok (.aload_n 0, 1) := by decide +kernel
theorem dX1_takeStates_95 : decode cX1_takeStates 95 = .ok (.invokevirtual 57, 3) := by decide +kernel
theorem dX1_takeStates_98 : decode cX1_takeStates 98 = .ok (.istore 4, 2) := by decide +kernel
theorem dX1_takeStates_100 : decode cX1_takeStates 100 = .ok (.iinc 5 1, 3) := by decide +kernel
theorem dX1_takeStates_103 : decode cX1_takeStates 103 = .ok (.goto (-73), 3) := by decide +kernel
theorem dX1_takeStates_106 : decode cX1_takeStates 106 = .ok (.aload_n 2, 1) := by decide +kernel
theorem dX1_takeStates_107 : decode cX1_takeStates 107 = .ok (.iload_n 1, 1) := by decide +kernel
theorem dX1_takeStates_108 : decode cX1_takeStates 108 = .ok (.ifCond .eq 7, 3) := by decide +kernel
theorem dX1_takeStates_111 : decode cX1_takeStates 111 = .ok (.iload_n 3, 1) := by decide +kernel
theorem dX1_takeStates_112 : decode cX1_takeStates 112 = .ok (.goto 7, 3) := by decide +kernel
theorem dX1_takeStates_115 : decode cX1_takeStates 115 = .ok (.aload_n 2, 1) := by decide +kernel
theorem dX1_takeStates_116 : decode cX1_takeStates 116 = .ok (.getfield 147, 3) := by decide +kernel
theorem dX1_takeStates_119 : decode cX1_takeStates 119 = .ok (.putfield 147, 3) := by decide +kernel
theorem dX1_takeStates_122 : decode cX1_takeStates 122 = .ok (.aload_n 2, 1) := by decide +kernel
theorem dX1_takeStates_123 : decode cX1_takeStates 123 = .ok (.iload_n 1, 1) := by decide +kernel
theorem dX1_takeStates_124 : decode cX1_takeStates 124 = .ok (.ifCond .eq 10, 3) := by decide +kernel
theorem dX1_takeStates_127 : decode cX1_takeStates 127 = .ok (.aload_n 2, 1) := by decide +kernel
theorem dX1_takeStates_128 : decode cX1_takeStates 128 = .ok (.getfield 150, 3) := by decide +kernel
theorem dX1_takeStates_131 : decode cX1_takeStates 131 = .ok (.goto 4, 3) := by decide +kernel
theorem dX1_takeStates_134 : decode cX1_takeStates 134 = .ok (.iload_n 3, 1) := by decide +kernel
theorem dX1_takeStates_135 : decode cX1_takeStates 135 = .ok (.putfield 150, 3) := by decide +kernel
theorem dX1_takeStates_138 : decode cX1_takeStates 138 = .ok (.iload 4, 2) := by decide +kernel
theorem dX1_takeStates_140 : decode cX1_takeStates 140 = .ok (.ireturn, 1) := by decide +kernel
abbrev f_c_X1_takeStates : List (Nat × Int) := [(1, 2), (1, 3), (17, 2), (17, 3), (17, 6), (17, 7), (17, 8), (17, 9)]
set_option maxHeartbeats 4000000 in
set_option maxRecDepth 100000 in
theorem c_X1_takeStates (G : KG) (l : Launch) (M : Mem) (c0 : Int) (a1 : Int) (hI_M : Inv false M) (hk_c0 : kd c0 = 17) (hpre : 0 ≤ a1 ∧ a1 ≤ 1 ∧ (M c0 7) + (M c0 8) ≤ 900) : KC false G l yX1_takeStates cX1_takeStates 6 (some .boolean) (3, 63) [vR G c0, vI a1] M (fun A => kQi false G A (fun (r : Int) (N : Mem) => Inv false N ∧ Fr f_c_X1_takeStates M N ∧ ((N c0 7) + (N c0 8) ≤ 900 ∧ r ≥ 0 ∧ r ≤ 1))) := by
  refine kx_met (lo := [some (vR G c0), some (vI a1), none, none, none, none]) (by decide) (Nat.le_of_ble_eq_true rfl) rfl ?_
  intro X F hQ
  have hF_M : Fr f_c_X1_takeStates M M := Fr.rf _ _
  have h_1 := Inv.g hI_M hk_c0 rfl 7 (a := 0) (b := 900) rfl rfl
  have h_2 := Inv.g hI_M hk_c0 rfl 8 (a := 0) (b := 900) rfl rfl
  refine kx_aload_n 1 F 0 dX1_takeStates_0 rfl rfl rfl ?_
  refine kx_Vr 4 (ci := 0) F (As := []) (st := []) vd_X1_135 (c_X1_latest G l M c0 hI_M hk_c0) hk_c0 rfl rfl rfl ⟨by decide, by decide⟩ rfl rfl (Nat.le_of_ble_eq_true rfl) dX1_takeStates_1 rfl ?_
  intro r_3 N_4 q_5
  obtain ⟨rfl, hk_6⟩ := q_5
  refine kx_astore_n 5 F 2 (lo' := [some (vR G c0), some (vI a1), some (vR G r_3), none, none, none]) dX1_takeStates_4 rfl (by decide) rfl rfl rfl ?_
  refine kx_iload_n 6 F 1 dX1_takeStates_5 rfl rfl rfl ?_
  have J_14 : ∀ (y0_13 : Int), 0 ≤ y0_13 ∧ y0_13 ≤ 7 → KJ false G X M 20 [some (vR G c0), some (vI a1), some (vR G r_3), none, none, none] [vI y0_13] := by
    intro y0_13 h_15
    refine kx_istore_n 21 F 3 (lo' := [some (vR G c0), some (vI a1), some (vR G r_3), some (vI y0_13), none, none]) dX1_takeStates_20 rfl (by decide) rfl rfl rfl ?_
    refine kx_aload_n 22 F 0 dX1_takeStates_21 rfl rfl rfl ?_
    refine kx_Vi 25 (ci := 0) F (As := []) (st := []) vd_X1_57 (c_X1_advance G l M c0 hI_M hk_c0 (by omega)) hk_c0 rfl rfl rfl ⟨by decide, by decide⟩ rfl rfl (Nat.le_of_ble_eq_true rfl) dX1_takeStates_22 rfl ?_
    intro r_16 N_17 q_18
    obtain ⟨hI_N_17, hG_N_17, q_18c⟩ := q_18
    have hF_N_17 : Fr f_c_X1_takeStates M N_17 := Fr.c hF_M hG_N_17 rfl
    have h_19 := Inv.g hI_N_17 hk_c0 rfl 7 (a := 0) (b := 900) rfl rfl
    have h_20 := Inv.g hI_N_17 hk_c0 rfl 8 (a := 0) (b := 900) rfl rfl
    refine kx_istore 27 F 4 (lo' := [some (vR G c0), some (vI a1), some (vR G r_3), some (vI y0_13), some (vI r_16), none]) dX1_takeStates_25 (by decide) rfl rfl rfl ?_
    refine kx_iconst 28 F dX1_takeStates_27 rfl ?_
    refine kx_istore 30 F 5 (lo' := [some (vR G c0), some (vI a1), some (vR G r_3), some (vI y0_13), some (vI r_16), some (vI 0)]) dX1_takeStates_28 (by decide) rfl rfl rfl ?_
    have L_683 : ∀ (n_684 : Nat) (x3_679 : Int) (x4_680 : Int) (x5_681 : Int) (N_682 : Mem), Inv false N_682 → Fr f_c_X1_takeStates M N_682 → 0 ≤ x3_679 ∧ x3_679 ≤ 7 ∧ 0 ≤ x4_680 ∧ x4_680 ≤ 1 ∧ 0 ≤ x5_681 ∧ x5_681 ≤ 900 ∧ (N_682 c0 7) + (N_682 c0 8) ≤ 900 → (900 - (x5_681)).toNat = n_684 → KJ false G X N_682 30 [some (vR G c0), some (vI a1), some (vR G r_3), some (vI x3_679), some (vI x4_680), some (vI x5_681)] [] := by
      intro n_684
      refine Nat.strongRecOn n_684 ?_
      intro n_684 ih_685 x3_679 x4_680 x5_681 N_682 hI_N_682 hF_N_682 h_686 hm_687
      refine kx_iload 32 F 5 dX1_takeStates_30 rfl rfl ?_
      refine kx_aload_n 33 F 0 dX1_takeStates_32 rfl rfl rfl ?_
      refine kx_geti 36 F fl_X1_45 hk_c0 rfl rfl (j := 5) rfl dX1_takeStates_33 (v := (M c0 5)) (by rw [Fr.e hF_N_682 hk_c0 _ rfl]) rfl ?_
      have h_688 := Inv.g hI_M hk_c0 rfl 5 (a := 0) (b := 900) rfl rfl
      have J_727 : (N_682 c0 7) + (N_682 c0 8) ≤ 900 → KJ false G X N_682 106 [none, some (vI a1), some (vR G r_3), some (vI x3_679), some (vI x4_680), none] [] := by
        intro h_728
        refine kx_aload_n 107 F 2 dX1_takeStates_106 rfl rfl rfl ?_
        refine kx_iload_n 108 F 1 dX1_takeStates_107 rfl rfl rfl ?_
        refine kx_if_eq 111 F 115 dX1_takeStates_108 (by decide) rfl (by omega) (fun h_729 => ?_) (fun h_729 => ?_)
        · refine kx_aload_n 116 F 2 dX1_takeStates_115 rfl rfl rfl ?_
          refine kx_geti 119 F fl_X1_147 hk_6 rfl rfl (j := 2) rfl dX1_takeStates_116 (v := (N_682 r_3 2)) rfl rfl ?_
          have h_730 := Inv.g hI_N_682 hk_6 rfl 2 (a := 0) (b := 7) rfl rfl
          refine kx_puti 122 F fw_X1_147 rfl hk_6 rfl rfl (j := 2) rfl dX1_takeStates_119 rfl ?_
          intro N_731 hM_N_731
          have hI_N_731 : Inv false N_731 := Inv.u hI_N_682 hM_N_731 hk_6 (a := 0) (b := 7) rfl rfl rfl (by omega)
          have hF_N_731 : Fr f_c_X1_takeStates M N_731 := Fr.u hF_N_682 hM_N_731 hk_6 rfl
          refine kx_aload_n 123 F 2 dX1_takeStates_122 rfl rfl rfl ?_
          refine kx_iload_n 124 F 1 dX1_takeStates_123 rfl rfl rfl ?_
          refine kx_if_eq 127 F 134 dX1_takeStates_124 (by decide) rfl (by omega) (fun h_732 => ?_) (fun h_732 => (by exfalso; omega))
          refine kx_iload_n 135 F 3 dX1_takeStates_134 rfl rfl rfl ?_
          refine kx_puti 138 F fw_X1_150 rfl hk_6 rfl rfl (j := 3) rfl dX1_takeStates_135 rfl ?_
          intro N_733 hM_N_733
          have hI_N_733 : Inv false N_733 := Inv.u hI_N_731 hM_N_733 hk_6 (a := 0) (b := 7) rfl rfl rfl (by omega)
          have hF_N_733 : Fr f_c_X1_takeStates M N_733 := Fr.u hF_N_731 hM_N_733 hk_6 rfl
          refine kx_iload 140 F 4 dX1_takeStates_138 rfl rfl ?_
          have e_734 : (N_733 c0 7) = (N_682 c0 7) := by rw [hM_N_733, mu_k hk_c0 hk_6 rfl, hM_N_731, mu_k hk_c0 hk_6 rfl]
          have h_735 := Inv.g hI_N_682 hk_c0 rfl 7 (a := 0) (b := 900) rfl rfl
          have e_736 : (N_733 c0 8) = (N_682 c0 8) := by rw [hM_N_733, mu_k hk_c0 hk_6 rfl, hM_N_731, mu_k hk_c0 hk_6 rfl]
          have h_737 := Inv.g hI_N_682 hk_c0 rfl 8 (a := 0) (b := 900) rfl rfl
          exact kx_zret F hQ (by omega) ⟨hI_N_733, hF_N_733, (by omega)⟩ dX1_takeStates_140
        · refine kx_iload_n 112 F 3 dX1_takeStates_111 rfl rfl rfl ?_
          refine kx_goto 119 F dX1_takeStates_112 (by decide) ?_
          refine kx_puti 122 F fw_X1_147 rfl hk_6 rfl rfl (j := 2) rfl dX1_takeStates_119 rfl ?_
          intro N_738 hM_N_738
          have hI_N_738 : Inv false N_738 := Inv.u hI_N_682 hM_N_738 hk_6 (a := 0) (b := 7) rfl rfl rfl (by omega)
          have hF_N_738 : Fr f_c_X1_takeStates M N_738 := Fr.u hF_N_682 hM_N_738 hk_6 rfl
          refine kx_aload_n 123 F 2 dX1_takeStates_122 rfl rfl rfl ?_
          refine kx_iload_n 124 F 1 dX1_takeStates_123 rfl rfl rfl ?_
          refine kx_if_eq 127 F 134 dX1_takeStates_124 (by decide) rfl (by omega) (fun h_739 => (by exfalso; omega)) (fun h_739 => ?_)
          refine kx_aload_n 128 F 2 dX1_takeStates_127 rfl rfl rfl ?_
          refine kx_geti 131 F fl_X1_150 hk_6 rfl rfl (j := 3) rfl dX1_takeStates_128 (v := (N_682 r_3 3)) (by rw [hM_N_738, mu_i (by omega)]) rfl ?_
          have h_740 := Inv.g hI_N_682 hk_6 rfl 3 (a := 0) (b := 7) rfl rfl
          refine kx_goto 135 F dX1_takeStates_131 (by decide) ?_
          refine kx_puti 138 F fw_X1_150 rfl hk_6 rfl rfl (j := 3) rfl dX1_takeStates_135 rfl ?_
          intro N_741 hM_N_741
          have hI_N_741 : Inv false N_741 := Inv.u hI_N_738 hM_N_741 hk_6 (a := 0) (b := 7) rfl rfl rfl (by omega)
          have hF_N_741 : Fr f_c_X1_takeStates M N_741 := Fr.u hF_N_738 hM_N_741 hk_6 rfl
          refine kx_iload 140 F 4 dX1_takeStates_138 rfl rfl ?_
          have e_742 : (N_741 c0 7) = (N_682 c0 7) := by rw [hM_N_741, mu_k hk_c0 hk_6 rfl, hM_N_738, mu_k hk_c0 hk_6 rfl]
          have h_743 := Inv.g hI_N_682 hk_c0 rfl 7 (a := 0) (b := 900) rfl rfl
          have e_744 : (N_741 c0 8) = (N_682 c0 8) := by rw [hM_N_741, mu_k hk_c0 hk_6 rfl, hM_N_738, mu_k hk_c0 hk_6 rfl]
          have h_745 := Inv.g hI_N_682 hk_c0 rfl 8 (a := 0) (b := 900) rfl rfl
          exact kx_zret F hQ (by omega) ⟨hI_N_741, hF_N_741, (by omega)⟩ dX1_takeStates_140
      refine kx_icmp_ge 39 F 106 dX1_takeStates_36 (by decide) rfl (by omega) (by omega) (fun h_746 => ?_) (fun h_746 => ?_)
      · refine kx_drop 0 (lo' := [none, some (vI a1), some (vR G r_3), some (vI x3_679), some (vI x4_680), some (vI x5_681)]) rfl ?_
        refine kx_drop 5 (lo' := [none, some (vI a1), some (vR G r_3), some (vI x3_679), some (vI x4_680), none]) rfl ?_
        have h_747 := Inv.g hI_N_682 hk_c0 rfl 7 (a := 0) (b := 900) rfl rfl
        have h_748 := Inv.g hI_N_682 hk_c0 rfl 8 (a := 0) (b := 900) rfl rfl
        exact J_727 (by omega)
      · refine kx_iload 41 F 4 dX1_takeStates_39 rfl rfl ?_
        refine kx_if_eq 44 F 106 dX1_takeStates_41 (by decide) rfl (by omega) (fun h_749 => ?_) (fun h_749 => ?_)
        · refine kx_drop 0 (lo' := [none, some (vI a1), some (vR G r_3), some (vI x3_679), some (vI x4_680), some (vI x5_681)]) rfl ?_
          refine kx_drop 5 (lo' := [none, some (vI a1), some (vR G r_3), some (vI x3_679), some (vI x4_680), none]) rfl ?_
          have h_750 := Inv.g hI_N_682 hk_c0 rfl 7 (a := 0) (b := 900) rfl rfl
          have h_751 := Inv.g hI_N_682 hk_c0 rfl 8 (a := 0) (b := 900) rfl rfl
          exact J_727 (by omega)
        · refine kx_aload_n 45 F 0 dX1_takeStates_44 rfl rfl rfl ?_
          refine kx_geti 48 F fl_X1_61 hk_c0 rfl rfl (j := 6) rfl dX1_takeStates_45 (v := (N_682 c0 6)) rfl rfl ?_
          have h_752 := Inv.g hI_N_682 hk_c0 rfl 6 (a := 0) (b := 5) rfl rfl
          refine kx_iconst 49 F dX1_takeStates_48 rfl ?_
          refine kx_icmp_eq 52 F 106 dX1_takeStates_49 (by decide) rfl (by omega) (by decide) (fun h_753 => ?_) (fun h_753 => ?_)
          · refine kx_drop 0 (lo' := [none, some (vI a1), some (vR G r_3), some (vI x3_679), some (vI x4_680), some (vI x5_681)]) rfl ?_
            refine kx_drop 5 (lo' := [none, some (vI a1), some (vR G r_3), some (vI x3_679), some (vI x4_680), none]) rfl ?_
            have h_754 := Inv.g hI_N_682 hk_c0 rfl 7 (a := 0) (b := 900) rfl rfl
            have h_755 := Inv.g hI_N_682 hk_c0 rfl 8 (a := 0) (b := 900) rfl rfl
            exact J_727 (by omega)
          · refine kx_aload_n 53 F 0 dX1_takeStates_52 rfl rfl rfl ?_
            refine kx_iconst 54 F dX1_takeStates_53 rfl ?_
            refine kx_aload_n 55 F 2 dX1_takeStates_54 rfl rfl rfl ?_
            refine kx_geti 58 F fl_X1_153 hk_6 rfl rfl (j := 0) rfl dX1_takeStates_55 (v := (M r_3 0)) (by rw [Fr.e hF_N_682 hk_6 _ rfl]) rfl ?_
            have h_756 := Inv.g hI_M hk_6 rfl 0 (a := 0) (b := 3) rfl rfl
            refine kx_iconst 59 F dX1_takeStates_58 rfl ?_
            refine kx_isub 60 F (v := (M r_3 0) - 1) dX1_takeStates_59 rfl rfl ?_
            refine kx_Vi 63 (ci := 0) F (As := [vI 0, vI ((M r_3 0) - 1)]) (st := []) vd_X1_123 (c_X1_standsNumber G l N_682 c0 0 ((M r_3 0) - 1) hI_N_682 hk_c0 (by omega)) hk_c0 rfl rfl rfl ⟨by decide, by decide⟩ rfl rfl (Nat.le_of_ble_eq_true rfl) dX1_takeStates_60 rfl ?_
            intro r_757 N_758 q_759
            obtain ⟨hI_N_758, hG_N_758, q_759c⟩ := q_759
            have hF_N_758 : Fr f_c_X1_takeStates M N_758 := Fr.c hF_N_682 hG_N_758 rfl
            have e_760 : (N_758 c0 9) = (N_682 c0 9) := by rw [Fr.e hG_N_758 hk_c0 _ rfl]
            have h_761 := Inv.g hI_N_682 hk_c0 rfl 9 (a := (-2147483648)) (b := 2147483647) rfl rfl
            have e_762 : (N_758 c0 9) = (N_682 c0 9) := by rw [Fr.e hG_N_758 hk_c0 _ rfl]
            rcases q_759c with q_759c | q_759c
            · refine kx_if_ne 66 F 68 dX1_takeStates_63 (by decide) rfl (by omega) (fun h_763 => ?_) (fun h_763 => (by exfalso; omega))
              refine kx_iload_n 69 F 3 dX1_takeStates_68 rfl rfl rfl ?_
              refine kx_aload_n 70 F 0 dX1_takeStates_69 rfl rfl rfl ?_
              refine kx_geti 73 F fl_X1_127 hk_c0 rfl rfl (j := 9) rfl dX1_takeStates_70 (v := (N_682 c0 9)) (by rw [Fr.e hG_N_758 hk_c0 _ rfl]) rfl ?_
              refine kx_ishr 74 F (v := (zshr x3_679 (N_682 c0 9))) dX1_takeStates_73 rfl rfl ?_
              have h_764 := zshr_r (a := x3_679) (b := (N_682 c0 9)) (by omega)
              refine kx_iconst 75 F dX1_takeStates_74 rfl ?_
              refine kx_iand 76 F (v := (zand (zshr x3_679 (N_682 c0 9)) 1)) dX1_takeStates_75 rfl rfl ?_
              have h_765 := zand_r (a := (zshr x3_679 (N_682 c0 9))) (b := 1) (by omega)
              refine kx_if_eq 79 F 85 dX1_takeStates_76 (by decide) rfl (by omega) (fun h_766 => ?_) (fun h_766 => ?_)
              · refine kx_iload_n 86 F 3 dX1_takeStates_85 rfl rfl rfl ?_
                refine kx_iconst 87 F dX1_takeStates_86 rfl ?_
                refine kx_aload_n 88 F 0 dX1_takeStates_87 rfl rfl rfl ?_
                refine kx_geti 91 F fl_X1_127 hk_c0 rfl rfl (j := 9) rfl dX1_takeStates_88 (v := (N_682 c0 9)) (by rw [Fr.e hG_N_758 hk_c0 _ rfl]) rfl ?_
                refine kx_ishl 92 F (v := (zshl 1 (N_682 c0 9))) dX1_takeStates_91 rfl rfl ?_
                have h_767 := zshl_1 (b := (N_682 c0 9)) 2 (by decide) (by omega)
                refine kx_ior 93 F (v := (zor x3_679 (zshl 1 (N_682 c0 9)))) dX1_takeStates_92 rfl rfl ?_
                have h_768 : 0 ≤ (zor x3_679 (zshl 1 (N_682 c0 9))) ∧ (zor x3_679 (zshl 1 (N_682 c0 9))) < 8 := zor_lt (a := x3_679) (b := (zshl 1 (N_682 c0 9))) 3 (by decide) (by omega) (by omega)
                refine kx_istore_n 94 F 3 (lo' := [some (vR G c0), some (vI a1), some (vR G r_3), some (vI (zor x3_679 (zshl 1 (N_682 c0 9)))), some (vI x4_680), some (vI x5_681)]) dX1_takeStates_93 rfl (by decide) rfl rfl rfl ?_
                refine kx_aload_n 95 F 0 dX1_takeStates_94 rfl rfl rfl ?_
                have e_769 : (N_758 c0 7) = (N_682 c0 7) := by rw [Fr.e hG_N_758 hk_c0 _ rfl]
                have h_770 := Inv.g hI_N_682 hk_c0 rfl 7 (a := 0) (b := 900) rfl rfl
                have e_771 : (N_758 c0 8) = (N_682 c0 8) := by rw [Fr.e hG_N_758 hk_c0 _ rfl]
                have h_772 := Inv.g hI_N_682 hk_c0 rfl 8 (a := 0) (b := 900) rfl rfl
                refine kx_Vi 98 (ci := 0) F (As := []) (st := []) vd_X1_57 (c_X1_advance G l N_758 c0 hI_N_758 hk_c0 (by omega)) hk_c0 rfl rfl rfl ⟨by decide, by decide⟩ rfl rfl (Nat.le_of_ble_eq_true rfl) dX1_takeStates_95 rfl ?_
                intro r_773 N_774 q_775
                obtain ⟨hI_N_774, hG_N_774, q_775c⟩ := q_775
                have hF_N_774 : Fr f_c_X1_takeStates M N_774 := Fr.c hF_N_758 hG_N_774 rfl
                have h_776 := Inv.g hI_N_774 hk_c0 rfl 7 (a := 0) (b := 900) rfl rfl
                have h_777 := Inv.g hI_N_774 hk_c0 rfl 8 (a := 0) (b := 900) rfl rfl
                refine kx_istore 100 F 4 (lo' := [some (vR G c0), some (vI a1), some (vR G r_3), some (vI (zor x3_679 (zshl 1 (N_682 c0 9)))), some (vI r_773), some (vI x5_681)]) dX1_takeStates_98 (by decide) rfl rfl rfl ?_
                refine kx_iinc 103 F 5 (v := x5_681 + 1) (lo' := [some (vR G c0), some (vI a1), some (vR G r_3), some (vI (zor x3_679 (zshl 1 (N_682 c0 9)))), some (vI r_773), some (vI (x5_681 + 1))]) dX1_takeStates_100 rfl (by omega) (by decide) rfl rfl rfl ?_
                refine kx_goto 30 F dX1_takeStates_103 (by decide) ?_
                exact ih_685 _ (by omega) (zor x3_679 (zshl 1 (N_682 c0 9))) r_773 (x5_681 + 1) N_774 hI_N_774 hF_N_774 (by omega) rfl
              · refine kx_aload_n 80 F 0 dX1_takeStates_79 rfl rfl rfl ?_
                refine kx_iconst 81 F dX1_takeStates_80 rfl ?_
                refine kx_Vi 84 (ci := 0) F (As := [vI 5]) (st := []) vd_X1_89 (c_X1_fail G l N_758 c0 5 hI_N_758 hk_c0 (by omega)) hk_c0 rfl rfl rfl ⟨by decide, by decide⟩ rfl rfl (Nat.le_of_ble_eq_true rfl) dX1_takeStates_81 rfl ?_
                intro r_778 N_779 q_780
                obtain ⟨hI_N_779, hG_N_779, q_780c⟩ := q_780
                have hF_N_779 : Fr f_c_X1_takeStates M N_779 := Fr.c hF_N_758 hG_N_779 rfl
                subst q_780c
                have e_781 : (N_779 c0 7) = (N_682 c0 7) := by rw [Fr.e hG_N_779 hk_c0 _ rfl, Fr.e hG_N_758 hk_c0 _ rfl]
                have h_782 := Inv.g hI_N_682 hk_c0 rfl 7 (a := 0) (b := 900) rfl rfl
                have e_783 : (N_779 c0 8) = (N_682 c0 8) := by rw [Fr.e hG_N_779 hk_c0 _ rfl, Fr.e hG_N_758 hk_c0 _ rfl]
                have h_784 := Inv.g hI_N_682 hk_c0 rfl 8 (a := 0) (b := 900) rfl rfl
                exact kx_zret F hQ (by omega) ⟨hI_N_779, hF_N_779, (by omega)⟩ dX1_takeStates_84
            · refine kx_if_ne 66 F 68 dX1_takeStates_63 (by decide) rfl (by omega) (fun h_785 => (by exfalso; omega)) (fun h_785 => ?_)
              refine kx_iconst 67 F dX1_takeStates_66 rfl ?_
              have e_786 : (N_758 c0 7) = (N_682 c0 7) := by rw [Fr.e hG_N_758 hk_c0 _ rfl]
              have h_787 := Inv.g hI_N_682 hk_c0 rfl 7 (a := 0) (b := 900) rfl rfl
              have e_788 : (N_758 c0 8) = (N_682 c0 8) := by rw [Fr.e hG_N_758 hk_c0 _ rfl]
              have h_789 := Inv.g hI_N_682 hk_c0 rfl 8 (a := 0) (b := 900) rfl rfl
              exact kx_zret F hQ (by omega) ⟨hI_N_758, hF_N_758, (by omega)⟩ dX1_takeStates_67
    exact L_683 _ y0_13 r_16 0 N_17 hI_N_17 hF_N_17 (by omega) rfl
  refine kx_if_eq 9 F 16 dX1_takeStates_6 (by decide) rfl (by omega) (fun h_790 => ?_) (fun h_790 => ?_)
  · refine kx_aload_n 17 F 2 dX1_takeStates_16 rfl rfl rfl ?_
    refine kx_geti 20 F fl_X1_150 hk_6 rfl rfl (j := 3) rfl dX1_takeStates_17 (v := (M r_3 3)) rfl rfl ?_
    have h_791 := Inv.g hI_M hk_6 rfl 3 (a := 0) (b := 7) rfl rfl
    exact J_14 (M r_3 3) (by omega)
  · refine kx_aload_n 10 F 2 dX1_takeStates_9 rfl rfl rfl ?_
    refine kx_geti 13 F fl_X1_147 hk_6 rfl rfl (j := 2) rfl dX1_takeStates_10 (v := (M r_3 2)) rfl rfl ?_
    have h_792 := Inv.g hI_M hk_6 rfl 2 (a := 0) (b := 7) rfl rfl
    refine kx_goto 20 F dX1_takeStates_13 (by decide) ?_
    exact J_14 (M r_3 2) (by omega)
theorem dX1_takeSymbol_0 : decode cX1_takeSymbol 0 = .ok (.iload_n 1, 1) := by decide +kernel
theorem dX1_takeSymbol_1 : decode cX1_takeSymbol 1 = .ok (.iconst 2, 1) := by decide +kernel
theorem dX1_takeSymbol_2 : decode cX1_takeSymbol 2 = .ok (.if_icmp .ne 10, 3) := by decide +kernel
theorem dX1_takeSymbol_5 : decode cX1_takeSymbol 5 = .ok (.aload_n 0, 1) := by decide +kernel
theorem dX1_takeSymbol_6 : decode cX1_takeSymbol 6 = .ok (.iconst (-1), 1) := by decide +kernel
theorem dX1_takeSymbol_7 : decode cX1_takeSymbol 7 = .ok (.putfield 127, 3) := by decide +kernel
theorem dX1_takeSymbol_10 : decode cX1_takeSymbol 10 = .ok (.iconst 1, 1) := by decide +kernel
theorem dX1_takeSymbol_11 : decode cX1_takeSymbol 11 = .ok (.ireturn, 1) := by decide +kernel
theorem dX1_takeSymbol_12 : decode cX1_takeSymbol 12 = .ok (.iconst (-1), 1) := by decide +kernel
theorem dX1_takeSymbol_13 : decode cX1_takeSymbol 13 = .ok (.istore_n 2, 1) := by decide +kernel
theorem dX1_takeSymbol_14 : decode cX1_takeSymbol 14 = .ok (.iload_n 1, 1) := by decide +kernel
theorem dX1_takeSymbol_15 : decode cX1_takeSymbol 15 = .ok (.ifCond .eq 12, 3) := by decide +kernel
theorem dX1_takeSymbol_18 : decode cX1_takeSymbol 18 = .ok (.aload_n 0, 1) := by decide +kernel
theorem dX1_takeSymbol_19 : decode cX1_takeSymbol 19 = .ok (.ldc 173, 2) := by decide +kernel
theorem dX1_takeSymbol_21 : decode cX1_takeSymbol 21 = .ok (.invokevirtual 69, 3) := by decide +kernel
theorem dX1_takeSymbol_24 : decode cX1_takeSymbol 24 = .ok (.ifCond .ne 54, 3) := by decide +kernel
theorem dX1_takeSymbol_27 : decode cX1_takeSymbol 27 = .ok (.aload_n 0, 1) := by decide +kernel
theorem dX1_takeSymbol_28 : decode cX1_takeSymbol 28 = .ok (.iload_n 1, 1) := by decide +kernel
theorem dX1_takeSymbol_29 : decode cX1_takeSymbol 29 = .ok (.ifCond .ne 8, 3) := by decide +kernel
theorem dX1_takeSymbol_32 : decode cX1_takeSymbol 32 = .ok (.ldc 175, 2) := by decide +kernel
theorem dX1_takeSymbol_34 : decode cX1_takeSymbol 34 = .ok (.goto 5, 3) := by decide +kernel
theorem dX1_takeSymbol_37 : decode cX1_takeSymbol 37 = .ok (.ldc 177, 2) := by decide +kernel
theorem dX1_takeSymbol_39 : decode cX1_takeSymbol 39 = .ok (.invokevirtual 132, 3) := by decide +kernel
theorem dX1_takeSymbol_42 : decode cX1_takeSymbol 42 = .ok (.ifCond .ne 5, 3) := by decide +kernel
theorem dX1_takeSymbol_45 : decode cX1_takeSymbol 45 = .ok (.iconst 0, 1) := by decide +kernel
theorem dX1_takeSymbol_46 : decode cX1_takeSymbol 46 = .ok (.ireturn, 1) := by decide +kernel
theorem dX1_takeSymbol_47 : decode cX1_takeSymbol 47 = .ok (.aload_n 0, 1) := by decide +kernel
theorem dX1_takeSymbol_48 : decode cX1_takeSymbol 48 = .ok (.invokevirtual 57, 3) := by decide +kernel
theorem dX1_takeSymbol_51 : decode cX1_takeSymbol 51 = .ok (.ifCond .eq 20, 3) := by decide +kernel
theorem dX1_takeSymbol_54 : decode cX1_takeSymbol 54 = .ok (.aload_n 0, 1) := by decide +kernel
theorem dX1_takeSymbol_55 : decode cX1_takeSymbol 55 = .ok (.iconst 0, 1) := by decide +kernel
theorem dX1_takeSymbol_56 : decode cX1_takeSymbol 56 = .ok (.aload_n 0, 1) := by decide +kernel
theorem dX1_takeSymbol_57 : decode cX1_takeSymbol 57 = .ok (.invokevirtual 135, 3) := by decide +kernel
theorem dX1_takeSymbol_60 : decode cX1_takeSymbol 60 = .ok (.getfield 179, 3) := by decide +kernel
theorem dX1_takeSymbol_63 : decode cX1_takeSymbol 63 = .ok (.iconst 1, 1) := by decide +kernel
theorem dX1_takeSymbol_64 : decode cX1_takeSymbol 64 = .ok (.isub, 1) := by decide +kernel
theorem dX1_takeSymbol_65 : decode cX1_takeSymbol 65 = .ok (.invokevirtual 123, 3) := by decide +kernel
theorem dX1_takeSymbol_68 : decode cX1_takeSymbol 68 = .ok (.ifCond .ne 5, 3) := by decide +kernel
theorem dX1_takeSymbol_71 : decode cX1_takeSymbol 71 = .ok (.iconst 0, 1) := by decide +kernel
theorem dX1_takeSymbol_72 : decode cX1_takeSymbol 72 = .ok (.ireturn, 1) := by decide +kernel
theorem dX1_takeSymbol_73 : decode cX1_takeSymbol 73 = .ok (.aload_n 0, 1) := by decide +kernel
theorem dX1_takeSymbol_74 : decode cX1_takeSymbol 74 = .ok (.getfield 127, 3) := by decide +kernel
theorem dX1_takeSymbol_77 : decode cX1_takeSymbol 77 = .ok (.istore_n 2, 1) := by decide +kernel
theorem dX1_takeSymbol_78 : decode cX1_takeSymbol 78 = .ok (.aload_n 0, 1) := by decide +kernel
theorem dX1_takeSymbol_79 : decode cX1_takeSymbol 79 = .ok (.invokevirtual 57, 3) := by decide +kernel
theorem dX1_takeSymbol_82 : decode cX1_takeSymbol 82 = .ok (.istore_n 3, 1) := by decide +kernel
theorem dX1_takeSymbol_83 : decode cX1_takeSymbol 83 = .ok (.aload_n 0, 1) := by decide +kernel
theorem dX1_takeSymbol_84 : decode cX1_takeSymbol 84 = .ok (.iload_n 2, 1) := by decide +kernel
theorem dX1_takeSymbol_85 : decode cX1_takeSymbol 85 = .ok (.putfield 127, 3) := by decide +kernel
theorem dX1_takeSymbol_88 : decode cX1_takeSymbol 88 = .ok (.iload_n 3, 1) := by decide +kernel
theorem dX1_takeSymbol_89 : decode cX1_takeSymbol 89 = .ok (.ireturn, 1) := by decide +kernel
abbrev f_c_X1_takeSymbol : List (Nat × Int) := [(17, 2), (17, 3), (17, 6), (17, 7), (17, 8), (17, 9)]
set_option maxHeartbeats 4000000 in
set_option maxRecDepth 100000 in
theorem c_X1_takeSymbol (G : KG) (l : Launch) (M : Mem) (c0 : Int) (a1 : Int) (hI_M : Inv false M) (hk_c0 : kd c0 = 17) (hpre : -2147483648 ≤ a1 ∧ a1 ≤ 2147483647 ∧ (M c0 7) + (M c0 8) ≤ 900) : KC false G l yX1_takeSymbol cX1_takeSymbol 4 (some .boolean) (6, 128) [vR G c0, vI a1] M (fun A => kQi false G A (fun (r : Int) (N : Mem) => Inv false N ∧ Fr f_c_X1_takeSymbol M N ∧ ((r = 1 ∧ (N c0 9) ≥ -1 ∧ (N c0 9) ≤ 2 ∧ (N c0 7) + (N c0 8) ≤ 900) ∨ (r = 0 ∧ (N c0 7) + (N c0 8) ≤ 900)))) := by
  refine kx_met (lo := [some (vR G c0), some (vI a1), none, none]) (by decide) (Nat.le_of_ble_eq_true rfl) rfl ?_
  intro X F hQ
  have hF_M : Fr f_c_X1_takeSymbol M M := Fr.rf _ _
  have h_1 := Inv.g hI_M hk_c0 rfl 7 (a := 0) (b := 900) rfl rfl
  have h_2 := Inv.g hI_M hk_c0 rfl 8 (a := 0) (b := 900) rfl rfl
  refine kx_iload_n 1 F 1 dX1_takeSymbol_0 rfl rfl rfl ?_
  refine kx_iconst 2 F dX1_takeSymbol_1 rfl ?_
  refine kx_icmp_ne 5 F 12 dX1_takeSymbol_2 (by decide) rfl (by omega) (by decide) (fun h_3 => ?_) (fun h_3 => ?_)
  · refine kx_iconst 13 F dX1_takeSymbol_12 rfl ?_
    refine kx_istore_n 14 F 2 (lo' := [some (vR G c0), some (vI a1), some (vI (-1)), none]) dX1_takeSymbol_13 rfl (by decide) rfl rfl rfl ?_
    refine kx_iload_n 15 F 1 dX1_takeSymbol_14 rfl rfl rfl ?_
    refine kx_if_eq 18 F 27 dX1_takeSymbol_15 (by decide) rfl (by omega) (fun h_4 => ?_) (fun h_4 => ?_)
    · refine kx_aload_n 28 F 0 dX1_takeSymbol_27 rfl rfl rfl ?_
      refine kx_iload_n 29 F 1 dX1_takeSymbol_28 rfl rfl rfl ?_
      refine kx_if_ne 32 F 37 dX1_takeSymbol_29 (by decide) rfl (by omega) (fun h_5 => (by exfalso; omega)) (fun h_5 => ?_)
      refine kx_ldcS 34 F 8 (by decide) rfl rfl dX1_takeSymbol_32 rfl ?_
      refine kx_goto 39 F dX1_takeSymbol_34 (by decide) ?_
      refine kx_Vi 42 (ci := 0) F (As := [vT G 8]) (st := []) vd_X1_132 (c_X1_standsWord G l M c0 8 hI_M hk_c0 (by omega)) hk_c0 rfl rfl rfl ⟨by decide, by decide⟩ rfl rfl (Nat.le_of_ble_eq_true rfl) dX1_takeSymbol_39 rfl ?_
      intro r_6 N_7 q_8
      obtain ⟨hI_N_7, hG_N_7, q_8c⟩ := q_8
      have hF_N_7 : Fr f_c_X1_takeSymbol M N_7 := Fr.c hF_M hG_N_7 rfl
      refine kx_if_ne 45 F 47 dX1_takeSymbol_42 (by decide) rfl (by omega) (fun h_9 => ?_) (fun h_9 => ?_)
      · refine kx_aload_n 48 F 0 dX1_takeSymbol_47 rfl rfl rfl ?_
        have e_10 : (N_7 c0 7) = (M c0 7) := by rw [Fr.e hG_N_7 hk_c0 _ rfl]
        have e_11 : (N_7 c0 8) = (M c0 8) := by rw [Fr.e hG_N_7 hk_c0 _ rfl]
        refine kx_Vi 51 (ci := 0) F (As := []) (st := []) vd_X1_57 (c_X1_advance G l N_7 c0 hI_N_7 hk_c0 (by omega)) hk_c0 rfl rfl rfl ⟨by decide, by decide⟩ rfl rfl (Nat.le_of_ble_eq_true rfl) dX1_takeSymbol_48 rfl ?_
        intro r_12 N_13 q_14
        obtain ⟨hI_N_13, hG_N_13, q_14c⟩ := q_14
        have hF_N_13 : Fr f_c_X1_takeSymbol M N_13 := Fr.c hF_N_7 hG_N_13 rfl
        have h_15 := Inv.g hI_N_13 hk_c0 rfl 7 (a := 0) (b := 900) rfl rfl
        have h_16 := Inv.g hI_N_13 hk_c0 rfl 8 (a := 0) (b := 900) rfl rfl
        refine kx_if_eq 54 F 71 dX1_takeSymbol_51 (by decide) rfl (by omega) (fun h_17 => ?_) (fun h_17 => ?_)
        · refine kx_iconst 72 F dX1_takeSymbol_71 rfl ?_
          have h_18 := Inv.g hI_N_13 hk_c0 rfl 9 (a := (-2147483648)) (b := 2147483647) rfl rfl
          exact kx_zret F hQ (by omega) ⟨hI_N_13, hF_N_13, (by omega)⟩ dX1_takeSymbol_72
        · refine kx_aload_n 55 F 0 dX1_takeSymbol_54 rfl rfl rfl ?_
          refine kx_iconst 56 F dX1_takeSymbol_55 rfl ?_
          refine kx_aload_n 57 F 0 dX1_takeSymbol_56 rfl rfl rfl ?_
          refine kx_Vr 60 (ci := 0) F (As := []) (st := [vI 0, vR G c0]) vd_X1_135 (c_X1_latest G l N_13 c0 hI_N_13 hk_c0) hk_c0 rfl rfl rfl ⟨by decide, by decide⟩ rfl rfl (Nat.le_of_ble_eq_true rfl) dX1_takeSymbol_57 rfl ?_
          intro r_19 N_20 q_21
          obtain ⟨rfl, hk_22⟩ := q_21
          refine kx_geti 63 F fl_X1_179 hk_22 rfl rfl (j := 1) rfl dX1_takeSymbol_60 (v := (M r_19 1)) (by rw [Fr.e hG_N_13 hk_22 _ rfl, Fr.e hG_N_7 hk_22 _ rfl]) rfl ?_
          have h_23 := Inv.g hI_M hk_22 rfl 1 (a := 0) (b := 3) rfl rfl
          refine kx_iconst 64 F dX1_takeSymbol_63 rfl ?_
          refine kx_isub 65 F (v := (M r_19 1) - 1) dX1_takeSymbol_64 rfl rfl ?_
          refine kx_Vi 68 (ci := 0) F (As := [vI 0, vI ((M r_19 1) - 1)]) (st := []) vd_X1_123 (c_X1_standsNumber G l N_13 c0 0 ((M r_19 1) - 1) hI_N_13 hk_c0 (by omega)) hk_c0 rfl rfl rfl ⟨by decide, by decide⟩ rfl rfl (Nat.le_of_ble_eq_true rfl) dX1_takeSymbol_65 rfl ?_
          intro r_24 N_25 q_26
          obtain ⟨hI_N_25, hG_N_25, q_26c⟩ := q_26
          have hF_N_25 : Fr f_c_X1_takeSymbol M N_25 := Fr.c hF_N_13 hG_N_25 rfl
          have e_27 : (N_25 c0 9) = (N_13 c0 9) := by rw [Fr.e hG_N_25 hk_c0 _ rfl]
          have h_28 := Inv.g hI_N_13 hk_c0 rfl 9 (a := (-2147483648)) (b := 2147483647) rfl rfl
          have e_29 : (N_25 c0 9) = (N_13 c0 9) := by rw [Fr.e hG_N_25 hk_c0 _ rfl]
          rcases q_26c with q_26c | q_26c
          · refine kx_if_ne 71 F 73 dX1_takeSymbol_68 (by decide) rfl (by omega) (fun h_30 => ?_) (fun h_30 => (by exfalso; omega))
            refine kx_aload_n 74 F 0 dX1_takeSymbol_73 rfl rfl rfl ?_
            refine kx_geti 77 F fl_X1_127 hk_c0 rfl rfl (j := 9) rfl dX1_takeSymbol_74 (v := (N_13 c0 9)) (by rw [Fr.e hG_N_25 hk_c0 _ rfl]) rfl ?_
            refine kx_istore_n 78 F 2 (lo' := [some (vR G c0), some (vI a1), some (vI (N_13 c0 9)), none]) dX1_takeSymbol_77 rfl (by decide) rfl rfl rfl ?_
            refine kx_aload_n 79 F 0 dX1_takeSymbol_78 rfl rfl rfl ?_
            have e_31 : (N_25 c0 7) = (N_13 c0 7) := by rw [Fr.e hG_N_25 hk_c0 _ rfl]
            have e_32 : (N_25 c0 8) = (N_13 c0 8) := by rw [Fr.e hG_N_25 hk_c0 _ rfl]
            refine kx_Vi 82 (ci := 0) F (As := []) (st := []) vd_X1_57 (c_X1_advance G l N_25 c0 hI_N_25 hk_c0 (by omega)) hk_c0 rfl rfl rfl ⟨by decide, by decide⟩ rfl rfl (Nat.le_of_ble_eq_true rfl) dX1_takeSymbol_79 rfl ?_
            intro r_33 N_34 q_35
            obtain ⟨hI_N_34, hG_N_34, q_35c⟩ := q_35
            have hF_N_34 : Fr f_c_X1_takeSymbol M N_34 := Fr.c hF_N_25 hG_N_34 rfl
            have h_36 := Inv.g hI_N_34 hk_c0 rfl 7 (a := 0) (b := 900) rfl rfl
            have h_37 := Inv.g hI_N_34 hk_c0 rfl 8 (a := 0) (b := 900) rfl rfl
            refine kx_istore_n 83 F 3 (lo' := [some (vR G c0), some (vI a1), some (vI (N_13 c0 9)), some (vI r_33)]) dX1_takeSymbol_82 rfl (by decide) rfl rfl rfl ?_
            refine kx_aload_n 84 F 0 dX1_takeSymbol_83 rfl rfl rfl ?_
            refine kx_iload_n 85 F 2 dX1_takeSymbol_84 rfl rfl rfl ?_
            refine kx_puti 88 F fw_X1_127 rfl hk_c0 rfl rfl (j := 9) rfl dX1_takeSymbol_85 rfl ?_
            intro N_38 hM_N_38
            have hI_N_38 : Inv false N_38 := Inv.u hI_N_34 hM_N_38 hk_c0 (a := (-2147483648)) (b := 2147483647) rfl rfl rfl (by omega)
            have hF_N_38 : Fr f_c_X1_takeSymbol M N_38 := Fr.u hF_N_34 hM_N_38 hk_c0 rfl
            refine kx_iload_n 89 F 3 dX1_takeSymbol_88 rfl rfl rfl ?_
            have e_39 : (N_38 c0 9) = (N_13 c0 9) := by rw [hM_N_38, mu_s]
            have e_40 : (N_38 c0 9) = (N_13 c0 9) := by rw [hM_N_38, mu_s]
            have e_41 : (N_38 c0 7) = (N_34 c0 7) := by rw [hM_N_38, mu_i (by omega)]
            have e_42 : (N_38 c0 8) = (N_34 c0 8) := by rw [hM_N_38, mu_i (by omega)]
            have e_43 : (N_38 c0 7) = (N_34 c0 7) := by rw [hM_N_38, mu_i (by omega)]
            have e_44 : (N_38 c0 8) = (N_34 c0 8) := by rw [hM_N_38, mu_i (by omega)]
            exact kx_zret F hQ (by omega) ⟨hI_N_38, hF_N_38, (by omega)⟩ dX1_takeSymbol_89
          · refine kx_if_ne 71 F 73 dX1_takeSymbol_68 (by decide) rfl (by omega) (fun h_45 => (by exfalso; omega)) (fun h_45 => ?_)
            refine kx_iconst 72 F dX1_takeSymbol_71 rfl ?_
            have e_46 : (N_25 c0 9) = (N_13 c0 9) := by rw [Fr.e hG_N_25 hk_c0 _ rfl]
            have h_47 := Inv.g hI_N_13 hk_c0 rfl 9 (a := (-2147483648)) (b := 2147483647) rfl rfl
            have e_48 : (N_25 c0 9) = (N_13 c0 9) := by rw [Fr.e hG_N_25 hk_c0 _ rfl]
            have e_49 : (N_25 c0 7) = (N_13 c0 7) := by rw [Fr.e hG_N_25 hk_c0 _ rfl]
            have e_50 : (N_25 c0 8) = (N_13 c0 8) := by rw [Fr.e hG_N_25 hk_c0 _ rfl]
            have e_51 : (N_25 c0 7) = (N_13 c0 7) := by rw [Fr.e hG_N_25 hk_c0 _ rfl]
            have e_52 : (N_25 c0 8) = (N_13 c0 8) := by rw [Fr.e hG_N_25 hk_c0 _ rfl]
            exact kx_zret F hQ (by omega) ⟨hI_N_25, hF_N_25, (by omega)⟩ dX1_takeSymbol_72
      · refine kx_iconst 46 F dX1_takeSymbol_45 rfl ?_
        have e_53 : (N_7 c0 9) = (M c0 9) := by rw [Fr.e hG_N_7 hk_c0 _ rfl]
        have h_54 := Inv.g hI_M hk_c0 rfl 9 (a := (-2147483648)) (b := 2147483647) rfl rfl
        have e_55 : (N_7 c0 9) = (M c0 9) := by rw [Fr.e hG_N_7 hk_c0 _ rfl]
        have e_56 : (N_7 c0 7) = (M c0 7) := by rw [Fr.e hG_N_7 hk_c0 _ rfl]
        have e_57 : (N_7 c0 8) = (M c0 8) := by rw [Fr.e hG_N_7 hk_c0 _ rfl]
        have e_58 : (N_7 c0 7) = (M c0 7) := by rw [Fr.e hG_N_7 hk_c0 _ rfl]
        have e_59 : (N_7 c0 8) = (M c0 8) := by rw [Fr.e hG_N_7 hk_c0 _ rfl]
        exact kx_zret F hQ (by omega) ⟨hI_N_7, hF_N_7, (by omega)⟩ dX1_takeSymbol_46
    · refine kx_aload_n 19 F 0 dX1_takeSymbol_18 rfl rfl rfl ?_
      refine kx_ldcS 21 F 10 (by decide) rfl rfl dX1_takeSymbol_19 rfl ?_
      refine kx_Vi 24 (ci := 0) F (As := [vT G 10]) (st := []) vd_X1_69 (c_X1_isWord G l M c0 10 hI_M hk_c0 (by omega)) hk_c0 rfl rfl rfl ⟨by decide, by decide⟩ rfl rfl (Nat.le_of_ble_eq_true rfl) dX1_takeSymbol_21 rfl ?_
      intro r_60 N_61 q_62
      obtain ⟨rfl, q_62c⟩ := q_62
      refine kx_if_ne 27 F 78 dX1_takeSymbol_24 (by decide) rfl (by omega) (fun h_63 => ?_) (fun h_63 => ?_)
      · refine kx_aload_n 79 F 0 dX1_takeSymbol_78 rfl rfl rfl ?_
        refine kx_Vi 82 (ci := 0) F (As := []) (st := []) vd_X1_57 (c_X1_advance G l M c0 hI_M hk_c0 (by omega)) hk_c0 rfl rfl rfl ⟨by decide, by decide⟩ rfl rfl (Nat.le_of_ble_eq_true rfl) dX1_takeSymbol_79 rfl ?_
        intro r_64 N_65 q_66
        obtain ⟨hI_N_65, hG_N_65, q_66c⟩ := q_66
        have hF_N_65 : Fr f_c_X1_takeSymbol M N_65 := Fr.c hF_M hG_N_65 rfl
        have h_67 := Inv.g hI_N_65 hk_c0 rfl 7 (a := 0) (b := 900) rfl rfl
        have h_68 := Inv.g hI_N_65 hk_c0 rfl 8 (a := 0) (b := 900) rfl rfl
        refine kx_istore_n 83 F 3 (lo' := [some (vR G c0), some (vI a1), some (vI (-1)), some (vI r_64)]) dX1_takeSymbol_82 rfl (by decide) rfl rfl rfl ?_
        refine kx_aload_n 84 F 0 dX1_takeSymbol_83 rfl rfl rfl ?_
        refine kx_iload_n 85 F 2 dX1_takeSymbol_84 rfl rfl rfl ?_
        refine kx_puti 88 F fw_X1_127 rfl hk_c0 rfl rfl (j := 9) rfl dX1_takeSymbol_85 rfl ?_
        intro N_69 hM_N_69
        have hI_N_69 : Inv false N_69 := Inv.u hI_N_65 hM_N_69 hk_c0 (a := (-2147483648)) (b := 2147483647) rfl rfl rfl (by omega)
        have hF_N_69 : Fr f_c_X1_takeSymbol M N_69 := Fr.u hF_N_65 hM_N_69 hk_c0 rfl
        refine kx_iload_n 89 F 3 dX1_takeSymbol_88 rfl rfl rfl ?_
        have e_70 : (N_69 c0 9) = -1 := by rw [hM_N_69, mu_s]
        have e_71 : (N_69 c0 9) = -1 := by rw [hM_N_69, mu_s]
        have e_72 : (N_69 c0 7) = (N_65 c0 7) := by rw [hM_N_69, mu_i (by omega)]
        have e_73 : (N_69 c0 8) = (N_65 c0 8) := by rw [hM_N_69, mu_i (by omega)]
        have e_74 : (N_69 c0 7) = (N_65 c0 7) := by rw [hM_N_69, mu_i (by omega)]
        have e_75 : (N_69 c0 8) = (N_65 c0 8) := by rw [hM_N_69, mu_i (by omega)]
        exact kx_zret F hQ (by omega) ⟨hI_N_69, hF_N_69, (by omega)⟩ dX1_takeSymbol_89
      · refine kx_aload_n 28 F 0 dX1_takeSymbol_27 rfl rfl rfl ?_
        refine kx_iload_n 29 F 1 dX1_takeSymbol_28 rfl rfl rfl ?_
        refine kx_if_ne 32 F 37 dX1_takeSymbol_29 (by decide) rfl (by omega) (fun h_76 => ?_) (fun h_76 => (by exfalso; omega))
        refine kx_ldcS 39 F 9 (by decide) rfl rfl dX1_takeSymbol_37 rfl ?_
        refine kx_Vi 42 (ci := 0) F (As := [vT G 9]) (st := []) vd_X1_132 (c_X1_standsWord G l M c0 9 hI_M hk_c0 (by omega)) hk_c0 rfl rfl rfl ⟨by decide, by decide⟩ rfl rfl (Nat.le_of_ble_eq_true rfl) dX1_takeSymbol_39 rfl ?_
        intro r_77 N_78 q_79
        obtain ⟨hI_N_78, hG_N_78, q_79c⟩ := q_79
        have hF_N_78 : Fr f_c_X1_takeSymbol M N_78 := Fr.c hF_M hG_N_78 rfl
        refine kx_if_ne 45 F 47 dX1_takeSymbol_42 (by decide) rfl (by omega) (fun h_80 => ?_) (fun h_80 => ?_)
        · refine kx_aload_n 48 F 0 dX1_takeSymbol_47 rfl rfl rfl ?_
          have e_81 : (N_78 c0 7) = (M c0 7) := by rw [Fr.e hG_N_78 hk_c0 _ rfl]
          have e_82 : (N_78 c0 8) = (M c0 8) := by rw [Fr.e hG_N_78 hk_c0 _ rfl]
          refine kx_Vi 51 (ci := 0) F (As := []) (st := []) vd_X1_57 (c_X1_advance G l N_78 c0 hI_N_78 hk_c0 (by omega)) hk_c0 rfl rfl rfl ⟨by decide, by decide⟩ rfl rfl (Nat.le_of_ble_eq_true rfl) dX1_takeSymbol_48 rfl ?_
          intro r_83 N_84 q_85
          obtain ⟨hI_N_84, hG_N_84, q_85c⟩ := q_85
          have hF_N_84 : Fr f_c_X1_takeSymbol M N_84 := Fr.c hF_N_78 hG_N_84 rfl
          have h_86 := Inv.g hI_N_84 hk_c0 rfl 7 (a := 0) (b := 900) rfl rfl
          have h_87 := Inv.g hI_N_84 hk_c0 rfl 8 (a := 0) (b := 900) rfl rfl
          refine kx_if_eq 54 F 71 dX1_takeSymbol_51 (by decide) rfl (by omega) (fun h_88 => ?_) (fun h_88 => ?_)
          · refine kx_iconst 72 F dX1_takeSymbol_71 rfl ?_
            have h_89 := Inv.g hI_N_84 hk_c0 rfl 9 (a := (-2147483648)) (b := 2147483647) rfl rfl
            exact kx_zret F hQ (by omega) ⟨hI_N_84, hF_N_84, (by omega)⟩ dX1_takeSymbol_72
          · refine kx_aload_n 55 F 0 dX1_takeSymbol_54 rfl rfl rfl ?_
            refine kx_iconst 56 F dX1_takeSymbol_55 rfl ?_
            refine kx_aload_n 57 F 0 dX1_takeSymbol_56 rfl rfl rfl ?_
            refine kx_Vr 60 (ci := 0) F (As := []) (st := [vI 0, vR G c0]) vd_X1_135 (c_X1_latest G l N_84 c0 hI_N_84 hk_c0) hk_c0 rfl rfl rfl ⟨by decide, by decide⟩ rfl rfl (Nat.le_of_ble_eq_true rfl) dX1_takeSymbol_57 rfl ?_
            intro r_90 N_91 q_92
            obtain ⟨rfl, hk_93⟩ := q_92
            refine kx_geti 63 F fl_X1_179 hk_93 rfl rfl (j := 1) rfl dX1_takeSymbol_60 (v := (M r_90 1)) (by rw [Fr.e hG_N_84 hk_93 _ rfl, Fr.e hG_N_78 hk_93 _ rfl]) rfl ?_
            have h_94 := Inv.g hI_M hk_93 rfl 1 (a := 0) (b := 3) rfl rfl
            refine kx_iconst 64 F dX1_takeSymbol_63 rfl ?_
            refine kx_isub 65 F (v := (M r_90 1) - 1) dX1_takeSymbol_64 rfl rfl ?_
            refine kx_Vi 68 (ci := 0) F (As := [vI 0, vI ((M r_90 1) - 1)]) (st := []) vd_X1_123 (c_X1_standsNumber G l N_84 c0 0 ((M r_90 1) - 1) hI_N_84 hk_c0 (by omega)) hk_c0 rfl rfl rfl ⟨by decide, by decide⟩ rfl rfl (Nat.le_of_ble_eq_true rfl) dX1_takeSymbol_65 rfl ?_
            intro r_95 N_96 q_97
            obtain ⟨hI_N_96, hG_N_96, q_97c⟩ := q_97
            have hF_N_96 : Fr f_c_X1_takeSymbol M N_96 := Fr.c hF_N_84 hG_N_96 rfl
            have e_98 : (N_96 c0 9) = (N_84 c0 9) := by rw [Fr.e hG_N_96 hk_c0 _ rfl]
            have h_99 := Inv.g hI_N_84 hk_c0 rfl 9 (a := (-2147483648)) (b := 2147483647) rfl rfl
            have e_100 : (N_96 c0 9) = (N_84 c0 9) := by rw [Fr.e hG_N_96 hk_c0 _ rfl]
            rcases q_97c with q_97c | q_97c
            · refine kx_if_ne 71 F 73 dX1_takeSymbol_68 (by decide) rfl (by omega) (fun h_101 => ?_) (fun h_101 => (by exfalso; omega))
              refine kx_aload_n 74 F 0 dX1_takeSymbol_73 rfl rfl rfl ?_
              refine kx_geti 77 F fl_X1_127 hk_c0 rfl rfl (j := 9) rfl dX1_takeSymbol_74 (v := (N_84 c0 9)) (by rw [Fr.e hG_N_96 hk_c0 _ rfl]) rfl ?_
              refine kx_istore_n 78 F 2 (lo' := [some (vR G c0), some (vI a1), some (vI (N_84 c0 9)), none]) dX1_takeSymbol_77 rfl (by decide) rfl rfl rfl ?_
              refine kx_aload_n 79 F 0 dX1_takeSymbol_78 rfl rfl rfl ?_
              have e_102 : (N_96 c0 7) = (N_84 c0 7) := by rw [Fr.e hG_N_96 hk_c0 _ rfl]
              have e_103 : (N_96 c0 8) = (N_84 c0 8) := by rw [Fr.e hG_N_96 hk_c0 _ rfl]
              refine kx_Vi 82 (ci := 0) F (As := []) (st := []) vd_X1_57 (c_X1_advance G l N_96 c0 hI_N_96 hk_c0 (by omega)) hk_c0 rfl rfl rfl ⟨by decide, by decide⟩ rfl rfl (Nat.le_of_ble_eq_true rfl) dX1_takeSymbol_79 rfl ?_
              intro r_104 N_105 q_106
              obtain ⟨hI_N_105, hG_N_105, q_106c⟩ := q_106
              have hF_N_105 : Fr f_c_X1_takeSymbol M N_105 := Fr.c hF_N_96 hG_N_105 rfl
              have h_107 := Inv.g hI_N_105 hk_c0 rfl 7 (a := 0) (b := 900) rfl rfl
              have h_108 := Inv.g hI_N_105 hk_c0 rfl 8 (a := 0) (b := 900) rfl rfl
              refine kx_istore_n 83 F 3 (lo' := [some (vR G c0), some (vI a1), some (vI (N_84 c0 9)), some (vI r_104)]) dX1_takeSymbol_82 rfl (by decide) rfl rfl rfl ?_
              refine kx_aload_n 84 F 0 dX1_takeSymbol_83 rfl rfl rfl ?_
              refine kx_iload_n 85 F 2 dX1_takeSymbol_84 rfl rfl rfl ?_
              refine kx_puti 88 F fw_X1_127 rfl hk_c0 rfl rfl (j := 9) rfl dX1_takeSymbol_85 rfl ?_
              intro N_109 hM_N_109
              have hI_N_109 : Inv false N_109 := Inv.u hI_N_105 hM_N_109 hk_c0 (a := (-2147483648)) (b := 2147483647) rfl rfl rfl (by omega)
              have hF_N_109 : Fr f_c_X1_takeSymbol M N_109 := Fr.u hF_N_105 hM_N_109 hk_c0 rfl
              refine kx_iload_n 89 F 3 dX1_takeSymbol_88 rfl rfl rfl ?_
              have e_110 : (N_109 c0 9) = (N_84 c0 9) := by rw [hM_N_109, mu_s]
              have e_111 : (N_109 c0 9) = (N_84 c0 9) := by rw [hM_N_109, mu_s]
              have e_112 : (N_109 c0 7) = (N_105 c0 7) := by rw [hM_N_109, mu_i (by omega)]
              have e_113 : (N_109 c0 8) = (N_105 c0 8) := by rw [hM_N_109, mu_i (by omega)]
              have e_114 : (N_109 c0 7) = (N_105 c0 7) := by rw [hM_N_109, mu_i (by omega)]
              have e_115 : (N_109 c0 8) = (N_105 c0 8) := by rw [hM_N_109, mu_i (by omega)]
              exact kx_zret F hQ (by omega) ⟨hI_N_109, hF_N_109, (by omega)⟩ dX1_takeSymbol_89
            · refine kx_if_ne 71 F 73 dX1_takeSymbol_68 (by decide) rfl (by omega) (fun h_116 => (by exfalso; omega)) (fun h_116 => ?_)
              refine kx_iconst 72 F dX1_takeSymbol_71 rfl ?_
              have e_117 : (N_96 c0 9) = (N_84 c0 9) := by rw [Fr.e hG_N_96 hk_c0 _ rfl]
              have h_118 := Inv.g hI_N_84 hk_c0 rfl 9 (a := (-2147483648)) (b := 2147483647) rfl rfl
              have e_119 : (N_96 c0 9) = (N_84 c0 9) := by rw [Fr.e hG_N_96 hk_c0 _ rfl]
              have e_120 : (N_96 c0 7) = (N_84 c0 7) := by rw [Fr.e hG_N_96 hk_c0 _ rfl]
              have e_121 : (N_96 c0 8) = (N_84 c0 8) := by rw [Fr.e hG_N_96 hk_c0 _ rfl]
              have e_122 : (N_96 c0 7) = (N_84 c0 7) := by rw [Fr.e hG_N_96 hk_c0 _ rfl]
              have e_123 : (N_96 c0 8) = (N_84 c0 8) := by rw [Fr.e hG_N_96 hk_c0 _ rfl]
              exact kx_zret F hQ (by omega) ⟨hI_N_96, hF_N_96, (by omega)⟩ dX1_takeSymbol_72
        · refine kx_iconst 46 F dX1_takeSymbol_45 rfl ?_
          have e_124 : (N_78 c0 9) = (M c0 9) := by rw [Fr.e hG_N_78 hk_c0 _ rfl]
          have h_125 := Inv.g hI_M hk_c0 rfl 9 (a := (-2147483648)) (b := 2147483647) rfl rfl
          have e_126 : (N_78 c0 9) = (M c0 9) := by rw [Fr.e hG_N_78 hk_c0 _ rfl]
          have e_127 : (N_78 c0 7) = (M c0 7) := by rw [Fr.e hG_N_78 hk_c0 _ rfl]
          have e_128 : (N_78 c0 8) = (M c0 8) := by rw [Fr.e hG_N_78 hk_c0 _ rfl]
          have e_129 : (N_78 c0 7) = (M c0 7) := by rw [Fr.e hG_N_78 hk_c0 _ rfl]
          have e_130 : (N_78 c0 8) = (M c0 8) := by rw [Fr.e hG_N_78 hk_c0 _ rfl]
          exact kx_zret F hQ (by omega) ⟨hI_N_78, hF_N_78, (by omega)⟩ dX1_takeSymbol_46
  · refine kx_aload_n 6 F 0 dX1_takeSymbol_5 rfl rfl rfl ?_
    refine kx_iconst 7 F dX1_takeSymbol_6 rfl ?_
    refine kx_puti 10 F fw_X1_127 rfl hk_c0 rfl rfl (j := 9) rfl dX1_takeSymbol_7 rfl ?_
    intro N_131 hM_N_131
    have hI_N_131 : Inv false N_131 := Inv.u hI_M hM_N_131 hk_c0 (a := (-2147483648)) (b := 2147483647) rfl rfl rfl (by omega)
    have hF_N_131 : Fr f_c_X1_takeSymbol M N_131 := Fr.u hF_M hM_N_131 hk_c0 rfl
    refine kx_iconst 11 F dX1_takeSymbol_10 rfl ?_
    have e_132 : (N_131 c0 9) = -1 := by rw [hM_N_131, mu_s]
    have e_133 : (N_131 c0 9) = -1 := by rw [hM_N_131, mu_s]
    have e_134 : (N_131 c0 7) = (M c0 7) := by rw [hM_N_131, mu_i (by omega)]
    have e_135 : (N_131 c0 8) = (M c0 8) := by rw [hM_N_131, mu_i (by omega)]
    have e_136 : (N_131 c0 7) = (M c0 7) := by rw [hM_N_131, mu_i (by omega)]
    have e_137 : (N_131 c0 8) = (M c0 8) := by rw [hM_N_131, mu_i (by omega)]
    exact kx_zret F hQ (by omega) ⟨hI_N_131, hF_N_131, (by omega)⟩ dX1_takeSymbol_11
theorem dX1_takeRule_0 : decode cX1_takeRule 0 = .ok (.aload_n 0, 1) := by decide +kernel
theorem dX1_takeRule_1 : decode cX1_takeRule 1 = .ok (.invokevirtual 135, 3) := by decide +kernel
theorem dX1_takeRule_4 : decode cX1_takeRule 4 = .ok (.astore_n 1, 1) := by decide +kernel
theorem dX1_takeRule_5 : decode cX1_takeRule 5 = .ok (.aload_n 1, 1) := by decide +kernel
theorem dX1_takeRule_6 : decode cX1_takeRule 6 = .ok (.getfield 156, 3) := by decide +kernel
theorem dX1_takeRule_9 : decode cX1_takeRule 9 = .ok (.bipush 20, 2) := by decide +kernel
theorem dX1_takeRule_11 : decode cX1_takeRule 11 = .ok (.if_icmp .lt 10, 3) := by decide +kernel
theorem dX1_takeRule_14 : decode cX1_takeRule 14 = .ok (.aload_n 0, 1) := by decide +kernel
theorem dX1_takeRule_15 : decode cX1_takeRule 15 = .ok (.bipush 6, 2) := by decide +kernel
theorem dX1_takeRule_17 : decode cX1_takeRule 17 = .ok (.invokevirtual 89, 3) := by decide +kernel
theorem dX1_takeRule_20 : decode cX1_takeRule 20 = .ok (.ireturn, 1) := by decide +kernel
theorem dX1_takeRule_21 : decode cX1_takeRule 21 = .ok (.aload_n 0, 1) := by decide +kernel
theorem dX1_takeRule_22 : decode cX1_takeRule 22 = .ok (.invokevirtual 57, 3) := by decide +kernel
theorem dX1_takeRule_25 : decode cX1_takeRule 25 = .ok (.ifCond .eq 10, 3) := by decide +kernel
theorem dX1_takeRule_28 : decode cX1_takeRule 28 = .ok (.aload_n 0, 1) := by decide +kernel
theorem dX1_takeRule_29 : decode cX1_takeRule 29 = .ok (.invokevirtual 109, 3) := by decide +kernel
theorem dX1_takeRule_32 : decode cX1_takeRule 32 = .ok (.ifCond .ne 5, 3) := by decide +kernel
theorem dX1_takeRule_35 : decode cX1_takeRule 35 = .ok (.iconst 0, 1) := by decide +kernel
theorem dX1_takeRule_36 : decode cX1_takeRule 36 = .ok (.ireturn, 1) := by decide +kernel
theorem dX1_takeRule_37 : decode cX1_takeRule 37 = .ok (.aload_n 0, 1) := by decide +kernel
theorem dX1_takeRule_38 : decode cX1_takeRule 38 = .ok (.invokevirtual 112, 3) := by decide +kernel
theorem dX1_takeRule_41 : decode cX1_takeRule 41 = .ok (.istore_n 2, 1) := by decide +kernel
theorem dX1_takeRule_42 : decode cX1_takeRule 42 = .ok (.iload_n 2, 1) := by decide +kernel
theorem dX1_takeRule_43 : decode cX1_takeRule 43 = .ok (.iconst (-1), 1) := by decide +kernel
theorem dX1_takeRule_44 : decode cX1_takeRule 44 = .ok (.if_icmp .ne 9, 3) := by decide +kernel
theorem dX1_takeRule_47 : decode cX1_takeRule 47 = .ok (.aload_n 0, 1) := by decide +kernel
theorem dX1_takeRule_48 : decode cX1_takeRule 48 = .ok (.iconst 3, 1) := by decide +kernel
theorem dX1_takeRule_49 : decode cX1_takeRule 49 = .ok (.invokevirtual 89, 3) := by decide +kernel
theorem dX1_takeRule_52 : decode cX1_takeRule 52 = .ok (.ireturn, 1) := by decide +kernel
theorem dX1_takeRule_53 : decode cX1_takeRule 53 = .ok (.aload_n 0, 1) := by decide +kernel
theorem dX1_takeRule_54 : decode cX1_takeRule 54 = .ok (.invokevirtual 57, 3) := by decide +kernel
theorem dX1_takeRule_57 : decode cX1_takeRule 57 = .ok (.ifCond .eq 17, 3) := by decide +kernel
theorem dX1_takeRule_60 : decode cX1_takeRule 60 = .ok (.aload_n 0, 1) := by decide +kernel
theorem dX1_takeRule_61 : decode cX1_takeRule 61 = .ok (.iconst 0, 1) := by decide +kernel
theorem dX1_takeRule_62 : decode cX1_takeRule 62 = .ok (.aload_n 1, 1) := by decide +kernel
theorem dX1_takeRule_63 : decode cX1_takeRule 63 = .ok (.getfield 153, 3) := by decide +kernel
theorem dX1_takeRule_66 : decode cX1_takeRule 66 = .ok (.iconst 1, 1) := by decide +kernel
theorem dX1_takeRule_67 : decode cX1_takeRule 67 = .ok (.isub, 1) := by decide +kernel
theorem dX1_takeRule_68 : decode cX1_takeRule 68 = .ok (.invokevirtual 123, 3) := by decide +kernel
theorem dX1_takeRule_71 : decode cX1_takeRule 71 = .ok (.ifCond .ne 5, 3) := by decide +kernel
theorem dX1_takeRule_74 : decode cX1_takeRule 74 = .ok (.iconst 0, 1) := by decide +kernel
theorem dX1_takeRule_75 : decode cX1_takeRule 75 = .ok (.ireturn, 1) := by decide +kernel
theorem dX1_takeRule_76 : decode cX1_takeRule 76 = .ok (.aload_n 0, 1) := by decide +kernel
theorem dX1_takeRule_77 : decode cX1_takeRule 77 = .ok (.getfield 127, 3) := by decide +kernel
theorem dX1_takeRule_80 : decode cX1_takeRule 80 = .ok (.istore_n 3, 1) := by decide +kernel
theorem dX1_takeRule_81 : decode cX1_takeRule 81 = .ok (.aload_n 0, 1) := by decide +kernel
theorem dX1_takeRule_82 : decode cX1_takeRule 82 = .ok (.invokevirtual 57, 3) := by decide +kernel
theorem dX1_takeRule_85 : decode cX1_takeRule 85 = .ok (.ifCond .eq 17, 3) := by decide +kernel
theorem dX1_takeRule_88 : decode cX1_takeRule 88 = .ok (.aload_n 0, 1) := by decide +kernel
theorem dX1_takeRule_89 : decode cX1_takeRule 89 = .ok (.iconst 0, 1) := by decide +kernel
theorem dX1_takeRule_90 : decode cX1_takeRule 90 = .ok (.aload_n 1, 1) := by decide +kernel
theorem dX1_takeRule_91 : decode cX1_takeRule 91 = .ok (.getfield 153, 3) := by decide +kernel
theorem dX1_takeRule_94 : decode cX1_takeRule 94 = .ok (.iconst 1, 1) := by decide +kernel
theorem dX1_takeRule_95 : decode cX1_takeRule 95 = .ok (.isub, 1) := by decide +kernel
theorem dX1_takeRule_96 : decode cX1_takeRule 96 = .ok (.invokevirtual 123, 3) := by decide +kernel
theorem dX1_takeRule_99 : decode cX1_takeRule 99 = .ok (.ifCond .ne 5, 3) := by decide +kernel
theorem dX1_takeRule_102 : decode cX1_takeRule 102 = .ok (.iconst 0, 1) := by decide +kernel
theorem dX1_takeRule_103 : decode cX1_takeRule 103 = .ok (.ireturn, 1) := by decide +kernel
theorem dX1_takeRule_104 : decode cX1_takeRule 104 = .ok (.aload_n 0, 1) := by decide +kernel
theorem dX1_takeRule_105 : decode cX1_takeRule 105 = .ok (.getfield 127, 3) := by decide +kernel
theorem dX1_takeRule_108 : decode cX1_takeRule 108 = .ok (.istore 4, 2) := by decide +kernel
theorem dX1_takeRule_110 : decode cX1_takeRule 110 = .ok (.aload_n 0, 1) := by decide +kernel
theorem dX1_takeRule_111 : decode cX1_takeRule 111 = .ok (.invokevirtual 57, 3) := by decide +kernel
theorem dX1_takeRule_114 : decode cX1_takeRule 114 = .ok (.ifCond .eq 25, 3) := by decide +kernel
theorem dX1_takeRule_117 : decode cX1_takeRule 117 = .ok (.aload_n 0, 1) := by decide +kernel
theorem dX1_takeRule_118 : decode cX1_takeRule 118 = .ok (.aload_n 0, 1) := by decide +kernel
theorem dX1_takeRule_119 : decode cX1_takeRule 119 = .ok (.getfield 12, 3) := by decide +kernel
theorem dX1_takeRule_122 : decode cX1_takeRule 122 = .ok (.iload_n 2, 1) := by decide +kernel
theorem dX1_takeRule_123 : decode cX1_takeRule 123 = .ok (.invokevirtual 159, 3) := by decide +kernel
theorem dX1_takeRule_126 : decode cX1_takeRule 126 = .ok (.invokevirtual 162, 3) := by decide +kernel
theorem dX1_takeRule_129 : decode cX1_takeRule 129 = .ok (.ifCond .eq 10, 3) := by decide +kernel
theorem dX1_takeRule_132 : decode cX1_takeRule 132 = .ok (.aload_n 0, 1) := by decide +kernel
theorem dX1_takeRule_133 : decode cX1_takeRule 133 = .ok (.invokevirtual 120, 3) := by decide +kernel
theorem dX1_takeRule_136 : decode cX1_takeRule 136 = .ok (.ifCond .ne 5, 3) := by decide +kernel
theorem dX1_takeRule_139 : decode cX1_takeRule 139 = .ok (.iconst 0, 1) := by decide +kernel
theorem dX1_takeRule_140 : decode cX1_takeRule 140 = .ok (.ireturn, 1) := by decide +kernel
theorem dX1_takeRule_141 : decode cX1_takeRule 141 = .ok (.aload_n 1, 1) := by decide +kernel
theorem dX1_takeRule_142 : decode cX1_takeRule 142 = .ok (.iload_n 2, 1) := by decide +kernel
theorem dX1_takeRule_143 : decode cX1_takeRule 143 = .ok (.iload_n 3, 1) := by decide +kernel
theorem dX1_takeRule_144 : decode cX1_takeRule 144 = .ok (.iload 4, 2) := by decide +kernel
theorem dX1_takeRule_146 : decode cX1_takeRule 146 = .ok (.aload_n 0, 1) := by decide +kernel
theorem dX1_takeRule_147 : decode cX1_takeRule 147 = .ok (.getfield 127, 3) := by decide +kernel
theorem dX1_takeRule_150 : decode cX1_takeRule 150 = .ok (.invokevirtual 165, 3) := by decide +kernel
theorem dX1_takeRule_153 : decode cX1_takeRule 153 = .ok (.iconst (-1), 1) := by decide +kernel
theorem dX1_takeRule_154 : decode cX1_takeRule 154 = .ok (.if_icmp .eq 9, 3) := by decide +kernel
theorem dX1_takeRule_157 : decode cX1_takeRule 157 = .ok (.aload_n 0, 1) := by decide +kernel
theorem dX1_takeRule_158 : decode cX1_takeRule 158 = .ok (.iconst 5, 1) := by decide +kernel
theorem dX1_takeRule_159 : decode cX1_takeRule 159 = .ok (.invokevirtual 89, 3) := by decide +kernel
theorem dX1_takeRule_162 : decode cX1_takeRule 162 = .ok (.ireturn, 1) := by decide +kernel
theorem dX1_takeRule_163 : decode cX1_takeRule 163 = .ok (.aload_n 1, 1) := by decide +kernel
theorem dX1_takeRule_164 : decode cX1_takeRule 164 = .ok (.iload_n 2, 1) := by decide +kernel
theorem dX1_takeRule_165 : decode cX1_takeRule 165 = .ok (.iload_n 3, 1) := by decide +kernel
theorem dX1_takeRule_166 : decode cX1_takeRule 166 = .ok (.iload 4, 2) := by decide +kernel
theorem dX1_takeRule_168 : decode cX1_takeRule 168 = .ok (.aload_n 0, 1) := by decide +kernel
theorem dX1_takeRule_169 : decode cX1_takeRule 169 = .ok (.getfield 127, 3) := by decide +kernel
theorem dX1_takeRule_172 : decode cX1_takeRule 172 = .ok (.invokevirtual 169, 3) := by decide +kernel
theorem dX1_takeRule_175 : decode cX1_takeRule 175 = .ok (.iconst 1, 1) := by decide +kernel
theorem dX1_takeRule_176 : decode cX1_takeRule 176 = .ok (.ireturn, 1) := by decide +kernel
abbrev f_c_X1_takeRule : List (Nat × Int) := [(1, 4), (2, -1), (3, -1), (4, -1), (5, -1), (6, -1), (7, -1), (17, 2), (17, 3), (17, 6), (17, 7), (17, 8), (17, 9)]
set_option maxHeartbeats 4000000 in
set_option maxRecDepth 100000 in
theorem c_X1_takeRule (G : KG) (l : Launch) (M : Mem) (c0 : Int) (hI_M : Inv false M) (hk_c0 : kd c0 = 17) (hpre : (M c0 7) + (M c0 8) ≤ 900) : KC false G l yX1_takeRule cX1_takeRule 5 (some .boolean) (7, 151) [vR G c0] M (fun A => kQi false G A (fun (r : Int) (N : Mem) => Inv false N ∧ Fr f_c_X1_takeRule M N ∧ ((N c0 7) + (N c0 8) ≤ 900 ∧ r ≥ 0 ∧ r ≤ 1))) := by
  refine kx_met (lo := [some (vR G c0), none, none, none, none]) (by decide) (Nat.le_of_ble_eq_true rfl) rfl ?_
  intro X F hQ
  have hF_M : Fr f_c_X1_takeRule M M := Fr.rf _ _
  have h_1 := Inv.g hI_M hk_c0 rfl 7 (a := 0) (b := 900) rfl rfl
  have h_2 := Inv.g hI_M hk_c0 rfl 8 (a := 0) (b := 900) rfl rfl
  refine kx_aload_n 1 F 0 dX1_takeRule_0 rfl rfl rfl ?_
  refine kx_Vr 4 (ci := 0) F (As := []) (st := []) vd_X1_135 (c_X1_latest G l M c0 hI_M hk_c0) hk_c0 rfl rfl rfl ⟨by decide, by decide⟩ rfl rfl (Nat.le_of_ble_eq_true rfl) dX1_takeRule_1 rfl ?_
  intro r_3 N_4 q_5
  obtain ⟨rfl, hk_6⟩ := q_5
  refine kx_astore_n 5 F 1 (lo' := [some (vR G c0), some (vR G r_3), none, none, none]) dX1_takeRule_4 rfl (by decide) rfl rfl rfl ?_
  refine kx_aload_n 6 F 1 dX1_takeRule_5 rfl rfl rfl ?_
  refine kx_geti 9 F fl_X1_156 hk_6 rfl rfl (j := 4) rfl dX1_takeRule_6 (v := (M r_3 4)) rfl rfl ?_
  have h_7 := Inv.g hI_M hk_6 rfl 4 (a := 0) (b := 20) rfl rfl
  refine kx_bipush 11 F dX1_takeRule_9 (by decide) rfl ?_
  refine kx_icmp_lt 14 F 21 dX1_takeRule_11 (by decide) rfl (by omega) (by decide) (fun h_8 => ?_) (fun h_8 => ?_)
  · refine kx_aload_n 22 F 0 dX1_takeRule_21 rfl rfl rfl ?_
    refine kx_Vi 25 (ci := 0) F (As := []) (st := []) vd_X1_57 (c_X1_advance G l M c0 hI_M hk_c0 (by omega)) hk_c0 rfl rfl rfl ⟨by decide, by decide⟩ rfl rfl (Nat.le_of_ble_eq_true rfl) dX1_takeRule_22 rfl ?_
    intro r_9 N_10 q_11
    obtain ⟨hI_N_10, hG_N_10, q_11c⟩ := q_11
    have hF_N_10 : Fr f_c_X1_takeRule M N_10 := Fr.c hF_M hG_N_10 rfl
    have h_12 := Inv.g hI_N_10 hk_c0 rfl 7 (a := 0) (b := 900) rfl rfl
    have h_13 := Inv.g hI_N_10 hk_c0 rfl 8 (a := 0) (b := 900) rfl rfl
    refine kx_if_eq 28 F 35 dX1_takeRule_25 (by decide) rfl (by omega) (fun h_14 => ?_) (fun h_14 => ?_)
    · refine kx_iconst 36 F dX1_takeRule_35 rfl ?_
      exact kx_zret F hQ (by omega) ⟨hI_N_10, hF_N_10, (by omega)⟩ dX1_takeRule_36
    · refine kx_aload_n 29 F 0 dX1_takeRule_28 rfl rfl rfl ?_
      refine kx_Vi 32 (ci := 0) F (As := []) (st := []) vd_X1_109 (c_X1_standsName G l N_10 c0 hI_N_10 hk_c0) hk_c0 rfl rfl rfl ⟨by decide, by decide⟩ rfl rfl (Nat.le_of_ble_eq_true rfl) dX1_takeRule_29 rfl ?_
      intro r_15 N_16 q_17
      obtain ⟨hI_N_16, hG_N_16, q_17c⟩ := q_17
      have hF_N_16 : Fr f_c_X1_takeRule M N_16 := Fr.c hF_N_10 hG_N_16 rfl
      refine kx_if_ne 35 F 37 dX1_takeRule_32 (by decide) rfl (by omega) (fun h_18 => ?_) (fun h_18 => ?_)
      · refine kx_aload_n 38 F 0 dX1_takeRule_37 rfl rfl rfl ?_
        refine kx_Vi 41 (ci := 0) F (As := []) (st := []) vd_X1_112 (c_X1_findName G l N_16 c0 hI_N_16 hk_c0) hk_c0 rfl rfl rfl ⟨by decide, by decide⟩ rfl rfl (Nat.le_of_ble_eq_true rfl) dX1_takeRule_38 rfl ?_
        intro r_19 N_20 q_21
        obtain ⟨rfl, q_21c⟩ := q_21
        refine kx_istore_n 42 F 2 (lo' := [some (vR G c0), some (vR G r_3), some (vI r_19), none, none]) dX1_takeRule_41 rfl (by decide) rfl rfl rfl ?_
        refine kx_iload_n 43 F 2 dX1_takeRule_42 rfl rfl rfl ?_
        refine kx_iconst 44 F dX1_takeRule_43 rfl ?_
        refine kx_icmp_ne 47 F 53 dX1_takeRule_44 (by decide) rfl (by omega) (by decide) (fun h_22 => ?_) (fun h_22 => ?_)
        · refine kx_aload_n 54 F 0 dX1_takeRule_53 rfl rfl rfl ?_
          have e_23 : (N_16 c0 7) = (N_10 c0 7) := by rw [Fr.e hG_N_16 hk_c0 _ rfl]
          have e_24 : (N_16 c0 8) = (N_10 c0 8) := by rw [Fr.e hG_N_16 hk_c0 _ rfl]
          refine kx_Vi 57 (ci := 0) F (As := []) (st := []) vd_X1_57 (c_X1_advance G l N_16 c0 hI_N_16 hk_c0 (by omega)) hk_c0 rfl rfl rfl ⟨by decide, by decide⟩ rfl rfl (Nat.le_of_ble_eq_true rfl) dX1_takeRule_54 rfl ?_
          intro r_25 N_26 q_27
          obtain ⟨hI_N_26, hG_N_26, q_27c⟩ := q_27
          have hF_N_26 : Fr f_c_X1_takeRule M N_26 := Fr.c hF_N_16 hG_N_26 rfl
          have h_28 := Inv.g hI_N_26 hk_c0 rfl 7 (a := 0) (b := 900) rfl rfl
          have h_29 := Inv.g hI_N_26 hk_c0 rfl 8 (a := 0) (b := 900) rfl rfl
          refine kx_if_eq 60 F 74 dX1_takeRule_57 (by decide) rfl (by omega) (fun h_30 => ?_) (fun h_30 => ?_)
          · refine kx_iconst 75 F dX1_takeRule_74 rfl ?_
            exact kx_zret F hQ (by omega) ⟨hI_N_26, hF_N_26, (by omega)⟩ dX1_takeRule_75
          · refine kx_aload_n 61 F 0 dX1_takeRule_60 rfl rfl rfl ?_
            refine kx_iconst 62 F dX1_takeRule_61 rfl ?_
            refine kx_aload_n 63 F 1 dX1_takeRule_62 rfl rfl rfl ?_
            refine kx_geti 66 F fl_X1_153 hk_6 rfl rfl (j := 0) rfl dX1_takeRule_63 (v := (M r_3 0)) (by rw [Fr.e hG_N_26 hk_6 _ rfl, Fr.e hG_N_16 hk_6 _ rfl, Fr.e hG_N_10 hk_6 _ rfl]) rfl ?_
            have h_31 := Inv.g hI_M hk_6 rfl 0 (a := 0) (b := 3) rfl rfl
            refine kx_iconst 67 F dX1_takeRule_66 rfl ?_
            refine kx_isub 68 F (v := (M r_3 0) - 1) dX1_takeRule_67 rfl rfl ?_
            refine kx_Vi 71 (ci := 0) F (As := [vI 0, vI ((M r_3 0) - 1)]) (st := []) vd_X1_123 (c_X1_standsNumber G l N_26 c0 0 ((M r_3 0) - 1) hI_N_26 hk_c0 (by omega)) hk_c0 rfl rfl rfl ⟨by decide, by decide⟩ rfl rfl (Nat.le_of_ble_eq_true rfl) dX1_takeRule_68 rfl ?_
            intro r_32 N_33 q_34
            obtain ⟨hI_N_33, hG_N_33, q_34c⟩ := q_34
            have hF_N_33 : Fr f_c_X1_takeRule M N_33 := Fr.c hF_N_26 hG_N_33 rfl
            have e_35 : (N_33 c0 9) = (N_26 c0 9) := by rw [Fr.e hG_N_33 hk_c0 _ rfl]
            have h_36 := Inv.g hI_N_26 hk_c0 rfl 9 (a := (-2147483648)) (b := 2147483647) rfl rfl
            have e_37 : (N_33 c0 9) = (N_26 c0 9) := by rw [Fr.e hG_N_33 hk_c0 _ rfl]
            rcases q_34c with q_34c | q_34c
            · refine kx_if_ne 74 F 76 dX1_takeRule_71 (by decide) rfl (by omega) (fun h_38 => ?_) (fun h_38 => (by exfalso; omega))
              refine kx_aload_n 77 F 0 dX1_takeRule_76 rfl rfl rfl ?_
              refine kx_geti 80 F fl_X1_127 hk_c0 rfl rfl (j := 9) rfl dX1_takeRule_77 (v := (N_26 c0 9)) (by rw [Fr.e hG_N_33 hk_c0 _ rfl]) rfl ?_
              refine kx_istore_n 81 F 3 (lo' := [some (vR G c0), some (vR G r_3), some (vI r_19), some (vI (N_26 c0 9)), none]) dX1_takeRule_80 rfl (by decide) rfl rfl rfl ?_
              refine kx_aload_n 82 F 0 dX1_takeRule_81 rfl rfl rfl ?_
              have e_39 : (N_33 c0 7) = (N_26 c0 7) := by rw [Fr.e hG_N_33 hk_c0 _ rfl]
              have e_40 : (N_33 c0 8) = (N_26 c0 8) := by rw [Fr.e hG_N_33 hk_c0 _ rfl]
              refine kx_Vi 85 (ci := 0) F (As := []) (st := []) vd_X1_57 (c_X1_advance G l N_33 c0 hI_N_33 hk_c0 (by omega)) hk_c0 rfl rfl rfl ⟨by decide, by decide⟩ rfl rfl (Nat.le_of_ble_eq_true rfl) dX1_takeRule_82 rfl ?_
              intro r_41 N_42 q_43
              obtain ⟨hI_N_42, hG_N_42, q_43c⟩ := q_43
              have hF_N_42 : Fr f_c_X1_takeRule M N_42 := Fr.c hF_N_33 hG_N_42 rfl
              have h_44 := Inv.g hI_N_42 hk_c0 rfl 7 (a := 0) (b := 900) rfl rfl
              have h_45 := Inv.g hI_N_42 hk_c0 rfl 8 (a := 0) (b := 900) rfl rfl
              refine kx_if_eq 88 F 102 dX1_takeRule_85 (by decide) rfl (by omega) (fun h_46 => ?_) (fun h_46 => ?_)
              · refine kx_iconst 103 F dX1_takeRule_102 rfl ?_
                exact kx_zret F hQ (by omega) ⟨hI_N_42, hF_N_42, (by omega)⟩ dX1_takeRule_103
              · refine kx_aload_n 89 F 0 dX1_takeRule_88 rfl rfl rfl ?_
                refine kx_iconst 90 F dX1_takeRule_89 rfl ?_
                refine kx_aload_n 91 F 1 dX1_takeRule_90 rfl rfl rfl ?_
                refine kx_geti 94 F fl_X1_153 hk_6 rfl rfl (j := 0) rfl dX1_takeRule_91 (v := (M r_3 0)) (by rw [Fr.e hG_N_42 hk_6 _ rfl, Fr.e hG_N_33 hk_6 _ rfl, Fr.e hG_N_26 hk_6 _ rfl, Fr.e hG_N_16 hk_6 _ rfl, Fr.e hG_N_10 hk_6 _ rfl]) rfl ?_
                refine kx_iconst 95 F dX1_takeRule_94 rfl ?_
                refine kx_isub 96 F (v := (M r_3 0) - 1) dX1_takeRule_95 rfl rfl ?_
                refine kx_Vi 99 (ci := 0) F (As := [vI 0, vI ((M r_3 0) - 1)]) (st := []) vd_X1_123 (c_X1_standsNumber G l N_42 c0 0 ((M r_3 0) - 1) hI_N_42 hk_c0 (by omega)) hk_c0 rfl rfl rfl ⟨by decide, by decide⟩ rfl rfl (Nat.le_of_ble_eq_true rfl) dX1_takeRule_96 rfl ?_
                intro r_47 N_48 q_49
                obtain ⟨hI_N_48, hG_N_48, q_49c⟩ := q_49
                have hF_N_48 : Fr f_c_X1_takeRule M N_48 := Fr.c hF_N_42 hG_N_48 rfl
                have e_50 : (N_48 c0 9) = (N_42 c0 9) := by rw [Fr.e hG_N_48 hk_c0 _ rfl]
                have h_51 := Inv.g hI_N_42 hk_c0 rfl 9 (a := (-2147483648)) (b := 2147483647) rfl rfl
                have e_52 : (N_48 c0 9) = (N_42 c0 9) := by rw [Fr.e hG_N_48 hk_c0 _ rfl]
                rcases q_49c with q_49c | q_49c
                · refine kx_if_ne 102 F 104 dX1_takeRule_99 (by decide) rfl (by omega) (fun h_53 => ?_) (fun h_53 => (by exfalso; omega))
                  refine kx_aload_n 105 F 0 dX1_takeRule_104 rfl rfl rfl ?_
                  refine kx_geti 108 F fl_X1_127 hk_c0 rfl rfl (j := 9) rfl dX1_takeRule_105 (v := (N_42 c0 9)) (by rw [Fr.e hG_N_48 hk_c0 _ rfl]) rfl ?_
                  refine kx_istore 110 F 4 (lo' := [some (vR G c0), some (vR G r_3), some (vI r_19), some (vI (N_26 c0 9)), some (vI (N_42 c0 9))]) dX1_takeRule_108 (by decide) rfl rfl rfl ?_
                  refine kx_aload_n 111 F 0 dX1_takeRule_110 rfl rfl rfl ?_
                  have e_54 : (N_48 c0 7) = (N_42 c0 7) := by rw [Fr.e hG_N_48 hk_c0 _ rfl]
                  have e_55 : (N_48 c0 8) = (N_42 c0 8) := by rw [Fr.e hG_N_48 hk_c0 _ rfl]
                  refine kx_Vi 114 (ci := 0) F (As := []) (st := []) vd_X1_57 (c_X1_advance G l N_48 c0 hI_N_48 hk_c0 (by omega)) hk_c0 rfl rfl rfl ⟨by decide, by decide⟩ rfl rfl (Nat.le_of_ble_eq_true rfl) dX1_takeRule_111 rfl ?_
                  intro r_56 N_57 q_58
                  obtain ⟨hI_N_57, hG_N_57, q_58c⟩ := q_58
                  have hF_N_57 : Fr f_c_X1_takeRule M N_57 := Fr.c hF_N_48 hG_N_57 rfl
                  have h_59 := Inv.g hI_N_57 hk_c0 rfl 7 (a := 0) (b := 900) rfl rfl
                  have h_60 := Inv.g hI_N_57 hk_c0 rfl 8 (a := 0) (b := 900) rfl rfl
                  refine kx_if_eq 117 F 139 dX1_takeRule_114 (by decide) rfl (by omega) (fun h_61 => ?_) (fun h_61 => ?_)
                  · refine kx_iconst 140 F dX1_takeRule_139 rfl ?_
                    exact kx_zret F hQ (by omega) ⟨hI_N_57, hF_N_57, (by omega)⟩ dX1_takeRule_140
                  · refine kx_aload_n 118 F 0 dX1_takeRule_117 rfl rfl rfl ?_
                    refine kx_aload_n 119 F 0 dX1_takeRule_118 rfl rfl rfl ?_
                    refine kx_getr 122 F fl_X1_12 hk_c0 rfl rfl (j := 0) rfl dX1_takeRule_119 (v := (M c0 0)) (by rw [Fr.e hG_N_57 hk_c0 _ rfl, Fr.e hG_N_48 hk_c0 _ rfl, Fr.e hG_N_42 hk_c0 _ rfl, Fr.e hG_N_33 hk_c0 _ rfl, Fr.e hG_N_26 hk_c0 _ rfl, Fr.e hG_N_16 hk_c0 _ rfl, Fr.e hG_N_10 hk_c0 _ rfl]) rfl ?_
                    have hk_62 : kd (M c0 0) = 12 := Inv.r hI_M hk_c0 rfl 0 rfl rfl
                    refine kx_iload_n 123 F 2 dX1_takeRule_122 rfl rfl rfl ?_
                    refine kx_Vi 126 (ci := 0) F (As := [vI r_19]) (st := [vR G c0]) vd_X1_159 (c_X5_sortOf G l N_57 (M c0 0) r_19 hI_N_57 hk_62 (by omega)) hk_62 rfl rfl rfl ⟨by decide, by decide⟩ rfl rfl (Nat.le_of_ble_eq_true rfl) dX1_takeRule_123 rfl ?_
                    intro r_63 N_64 q_65
                    obtain ⟨rfl, q_65c⟩ := q_65
                    have e_66 : (N_57 (M c0 0) 2) = (M (M c0 0) 2) := by rw [Fr.e hG_N_57 hk_62 _ rfl, Fr.e hG_N_48 hk_62 _ rfl, Fr.e hG_N_42 hk_62 _ rfl, Fr.e hG_N_33 hk_62 _ rfl, Fr.e hG_N_26 hk_62 _ rfl, Fr.e hG_N_16 hk_62 _ rfl, Fr.e hG_N_10 hk_62 _ rfl]
                    have h_67 := Inv.g hI_M hk_62 rfl 2 (a := 0) (b := 6) rfl rfl
                    have e_68 : (N_57 (M c0 0) 2) = (M (M c0 0) 2) := by rw [Fr.e hG_N_57 hk_62 _ rfl, Fr.e hG_N_48 hk_62 _ rfl, Fr.e hG_N_42 hk_62 _ rfl, Fr.e hG_N_33 hk_62 _ rfl, Fr.e hG_N_26 hk_62 _ rfl, Fr.e hG_N_16 hk_62 _ rfl, Fr.e hG_N_10 hk_62 _ rfl]
                    rcases q_65c with q_65c | q_65c
                    · refine kx_Vi 129 (ci := 0) F (As := [vI r_63]) (st := []) vd_X1_162 (c_X1_takeSymbol G l N_57 c0 r_63 hI_N_57 hk_c0 (by omega)) hk_c0 rfl rfl rfl ⟨by decide, by decide⟩ rfl rfl (Nat.le_of_ble_eq_true rfl) dX1_takeRule_126 rfl ?_
                      intro r_69 N_70 q_71
                      obtain ⟨hI_N_70, hG_N_70, q_71c⟩ := q_71
                      have hF_N_70 : Fr f_c_X1_takeRule M N_70 := Fr.c hF_N_57 hG_N_70 rfl
                      have h_72 := Inv.g hI_N_70 hk_c0 rfl 9 (a := (-2147483648)) (b := 2147483647) rfl rfl
                      have h_73 := Inv.g hI_N_70 hk_c0 rfl 7 (a := 0) (b := 900) rfl rfl
                      have h_74 := Inv.g hI_N_70 hk_c0 rfl 8 (a := 0) (b := 900) rfl rfl
                      have h_75 := Inv.g hI_N_70 hk_c0 rfl 7 (a := 0) (b := 900) rfl rfl
                      have h_76 := Inv.g hI_N_70 hk_c0 rfl 8 (a := 0) (b := 900) rfl rfl
                      rcases q_71c with q_71c | q_71c
                      · refine kx_if_eq 132 F 139 dX1_takeRule_129 (by decide) rfl (by omega) (fun h_77 => (by exfalso; omega)) (fun h_77 => ?_)
                        refine kx_aload_n 133 F 0 dX1_takeRule_132 rfl rfl rfl ?_
                        refine kx_Vi 136 (ci := 0) F (As := []) (st := []) vd_X1_120 (c_X1_standsSign G l N_70 c0 hI_N_70 hk_c0) hk_c0 rfl rfl rfl ⟨by decide, by decide⟩ rfl rfl (Nat.le_of_ble_eq_true rfl) dX1_takeRule_133 rfl ?_
                        intro r_78 N_79 q_80
                        obtain ⟨hI_N_79, hG_N_79, q_80c⟩ := q_80
                        have hF_N_79 : Fr f_c_X1_takeRule M N_79 := Fr.c hF_N_70 hG_N_79 rfl
                        refine kx_if_ne 139 F 141 dX1_takeRule_136 (by decide) rfl (by omega) (fun h_81 => ?_) (fun h_81 => ?_)
                        · refine kx_aload_n 142 F 1 dX1_takeRule_141 rfl rfl rfl ?_
                          refine kx_iload_n 143 F 2 dX1_takeRule_142 rfl rfl rfl ?_
                          refine kx_iload_n 144 F 3 dX1_takeRule_143 rfl rfl rfl ?_
                          refine kx_iload 146 F 4 dX1_takeRule_144 rfl rfl ?_
                          refine kx_aload_n 147 F 0 dX1_takeRule_146 rfl rfl rfl ?_
                          refine kx_geti 150 F fl_X1_127 hk_c0 rfl rfl (j := 9) rfl dX1_takeRule_147 (v := (N_70 c0 9)) (by rw [Fr.e hG_N_79 hk_c0 _ rfl]) rfl ?_
                          refine kx_Vi 153 (ci := 0) F (As := [vI r_19, vI (N_26 c0 9), vI (N_42 c0 9), vI (N_70 c0 9)]) (st := []) vd_X1_165 (c_X0_find G l N_79 r_3 r_19 (N_26 c0 9) (N_42 c0 9) (N_70 c0 9) hI_N_79 hk_6 (by omega)) hk_6 rfl rfl rfl ⟨by decide, by decide⟩ rfl rfl (Nat.le_of_ble_eq_true rfl) dX1_takeRule_150 rfl ?_
                          intro r_82 N_83 q_84
                          obtain ⟨rfl, q_84c⟩ := q_84
                          refine kx_iconst 154 F dX1_takeRule_153 rfl ?_
                          refine kx_icmp_eq 157 F 163 dX1_takeRule_154 (by decide) rfl (by omega) (by decide) (fun h_85 => ?_) (fun h_85 => ?_)
                          · refine kx_aload_n 164 F 1 dX1_takeRule_163 rfl rfl rfl ?_
                            refine kx_iload_n 165 F 2 dX1_takeRule_164 rfl rfl rfl ?_
                            refine kx_iload_n 166 F 3 dX1_takeRule_165 rfl rfl rfl ?_
                            refine kx_iload 168 F 4 dX1_takeRule_166 rfl rfl ?_
                            refine kx_aload_n 169 F 0 dX1_takeRule_168 rfl rfl rfl ?_
                            refine kx_geti 172 F fl_X1_127 hk_c0 rfl rfl (j := 9) rfl dX1_takeRule_169 (v := (N_70 c0 9)) (by rw [Fr.e hG_N_79 hk_c0 _ rfl]) rfl ?_
                            refine kx_Vv 175 (ci := 0) F (As := [vI r_19, vI (N_26 c0 9), vI (N_42 c0 9), vI (N_70 c0 9)]) (st := []) vd_X1_169 (c_X0_append G l N_79 r_3 r_19 (N_26 c0 9) (N_42 c0 9) (N_70 c0 9) hI_N_79 hk_6 (by omega)) hk_6 rfl rfl rfl ⟨by decide, by decide⟩ rfl rfl (Nat.le_of_ble_eq_true rfl) dX1_takeRule_172 rfl ?_
                            intro N_86 q_87
                            obtain ⟨hI_N_86, hG_N_86⟩ := q_87
                            have hF_N_86 : Fr f_c_X1_takeRule M N_86 := Fr.c hF_N_79 hG_N_86 rfl
                            refine kx_iconst 176 F dX1_takeRule_175 rfl ?_
                            have e_88 : (N_86 c0 7) = (N_70 c0 7) := by rw [Fr.e hG_N_86 hk_c0 _ rfl, Fr.e hG_N_79 hk_c0 _ rfl]
                            have e_89 : (N_86 c0 8) = (N_70 c0 8) := by rw [Fr.e hG_N_86 hk_c0 _ rfl, Fr.e hG_N_79 hk_c0 _ rfl]
                            exact kx_zret F hQ (by omega) ⟨hI_N_86, hF_N_86, (by omega)⟩ dX1_takeRule_176
                          · refine kx_aload_n 158 F 0 dX1_takeRule_157 rfl rfl rfl ?_
                            refine kx_iconst 159 F dX1_takeRule_158 rfl ?_
                            refine kx_Vi 162 (ci := 0) F (As := [vI 5]) (st := []) vd_X1_89 (c_X1_fail G l N_79 c0 5 hI_N_79 hk_c0 (by omega)) hk_c0 rfl rfl rfl ⟨by decide, by decide⟩ rfl rfl (Nat.le_of_ble_eq_true rfl) dX1_takeRule_159 rfl ?_
                            intro r_90 N_91 q_92
                            obtain ⟨hI_N_91, hG_N_91, q_92c⟩ := q_92
                            have hF_N_91 : Fr f_c_X1_takeRule M N_91 := Fr.c hF_N_79 hG_N_91 rfl
                            subst q_92c
                            have e_93 : (N_91 c0 7) = (N_70 c0 7) := by rw [Fr.e hG_N_91 hk_c0 _ rfl, Fr.e hG_N_79 hk_c0 _ rfl]
                            have e_94 : (N_91 c0 8) = (N_70 c0 8) := by rw [Fr.e hG_N_91 hk_c0 _ rfl, Fr.e hG_N_79 hk_c0 _ rfl]
                            exact kx_zret F hQ (by omega) ⟨hI_N_91, hF_N_91, (by omega)⟩ dX1_takeRule_162
                        · refine kx_iconst 140 F dX1_takeRule_139 rfl ?_
                          have e_95 : (N_79 c0 7) = (N_70 c0 7) := by rw [Fr.e hG_N_79 hk_c0 _ rfl]
                          have e_96 : (N_79 c0 8) = (N_70 c0 8) := by rw [Fr.e hG_N_79 hk_c0 _ rfl]
                          exact kx_zret F hQ (by omega) ⟨hI_N_79, hF_N_79, (by omega)⟩ dX1_takeRule_140
                      · refine kx_if_eq 132 F 139 dX1_takeRule_129 (by decide) rfl (by omega) (fun h_97 => ?_) (fun h_97 => (by exfalso; omega))
                        refine kx_iconst 140 F dX1_takeRule_139 rfl ?_
                        exact kx_zret F hQ (by omega) ⟨hI_N_70, hF_N_70, (by omega)⟩ dX1_takeRule_140
                    · refine kx_Vi 129 (ci := 0) F (As := [vI r_63]) (st := []) vd_X1_162 (c_X1_takeSymbol G l N_57 c0 r_63 hI_N_57 hk_c0 (by omega)) hk_c0 rfl rfl rfl ⟨by decide, by decide⟩ rfl rfl (Nat.le_of_ble_eq_true rfl) dX1_takeRule_126 rfl ?_
                      intro r_98 N_99 q_100
                      obtain ⟨hI_N_99, hG_N_99, q_100c⟩ := q_100
                      have hF_N_99 : Fr f_c_X1_takeRule M N_99 := Fr.c hF_N_57 hG_N_99 rfl
                      have h_101 := Inv.g hI_N_99 hk_c0 rfl 9 (a := (-2147483648)) (b := 2147483647) rfl rfl
                      have h_102 := Inv.g hI_N_99 hk_c0 rfl 7 (a := 0) (b := 900) rfl rfl
                      have h_103 := Inv.g hI_N_99 hk_c0 rfl 8 (a := 0) (b := 900) rfl rfl
                      have h_104 := Inv.g hI_N_99 hk_c0 rfl 7 (a := 0) (b := 900) rfl rfl
                      have h_105 := Inv.g hI_N_99 hk_c0 rfl 8 (a := 0) (b := 900) rfl rfl
                      rcases q_100c with q_100c | q_100c
                      · refine kx_if_eq 132 F 139 dX1_takeRule_129 (by decide) rfl (by omega) (fun h_106 => (by exfalso; omega)) (fun h_106 => ?_)
                        refine kx_aload_n 133 F 0 dX1_takeRule_132 rfl rfl rfl ?_
                        refine kx_Vi 136 (ci := 0) F (As := []) (st := []) vd_X1_120 (c_X1_standsSign G l N_99 c0 hI_N_99 hk_c0) hk_c0 rfl rfl rfl ⟨by decide, by decide⟩ rfl rfl (Nat.le_of_ble_eq_true rfl) dX1_takeRule_133 rfl ?_
                        intro r_107 N_108 q_109
                        obtain ⟨hI_N_108, hG_N_108, q_109c⟩ := q_109
                        have hF_N_108 : Fr f_c_X1_takeRule M N_108 := Fr.c hF_N_99 hG_N_108 rfl
                        refine kx_if_ne 139 F 141 dX1_takeRule_136 (by decide) rfl (by omega) (fun h_110 => ?_) (fun h_110 => ?_)
                        · refine kx_aload_n 142 F 1 dX1_takeRule_141 rfl rfl rfl ?_
                          refine kx_iload_n 143 F 2 dX1_takeRule_142 rfl rfl rfl ?_
                          refine kx_iload_n 144 F 3 dX1_takeRule_143 rfl rfl rfl ?_
                          refine kx_iload 146 F 4 dX1_takeRule_144 rfl rfl ?_
                          refine kx_aload_n 147 F 0 dX1_takeRule_146 rfl rfl rfl ?_
                          refine kx_geti 150 F fl_X1_127 hk_c0 rfl rfl (j := 9) rfl dX1_takeRule_147 (v := (N_99 c0 9)) (by rw [Fr.e hG_N_108 hk_c0 _ rfl]) rfl ?_
                          refine kx_Vi 153 (ci := 0) F (As := [vI r_19, vI (N_26 c0 9), vI (N_42 c0 9), vI (N_99 c0 9)]) (st := []) vd_X1_165 (c_X0_find G l N_108 r_3 r_19 (N_26 c0 9) (N_42 c0 9) (N_99 c0 9) hI_N_108 hk_6 (by omega)) hk_6 rfl rfl rfl ⟨by decide, by decide⟩ rfl rfl (Nat.le_of_ble_eq_true rfl) dX1_takeRule_150 rfl ?_
                          intro r_111 N_112 q_113
                          obtain ⟨rfl, q_113c⟩ := q_113
                          refine kx_iconst 154 F dX1_takeRule_153 rfl ?_
                          refine kx_icmp_eq 157 F 163 dX1_takeRule_154 (by decide) rfl (by omega) (by decide) (fun h_114 => ?_) (fun h_114 => ?_)
                          · refine kx_aload_n 164 F 1 dX1_takeRule_163 rfl rfl rfl ?_
                            refine kx_iload_n 165 F 2 dX1_takeRule_164 rfl rfl rfl ?_
                            refine kx_iload_n 166 F 3 dX1_takeRule_165 rfl rfl rfl ?_
                            refine kx_iload 168 F 4 dX1_takeRule_166 rfl rfl ?_
                            refine kx_aload_n 169 F 0 dX1_takeRule_168 rfl rfl rfl ?_
                            refine kx_geti 172 F fl_X1_127 hk_c0 rfl rfl (j := 9) rfl dX1_takeRule_169 (v := (N_99 c0 9)) (by rw [Fr.e hG_N_108 hk_c0 _ rfl]) rfl ?_
                            refine kx_Vv 175 (ci := 0) F (As := [vI r_19, vI (N_26 c0 9), vI (N_42 c0 9), vI (N_99 c0 9)]) (st := []) vd_X1_169 (c_X0_append G l N_108 r_3 r_19 (N_26 c0 9) (N_42 c0 9) (N_99 c0 9) hI_N_108 hk_6 (by omega)) hk_6 rfl rfl rfl ⟨by decide, by decide⟩ rfl rfl (Nat.le_of_ble_eq_true rfl) dX1_takeRule_172 rfl ?_
                            intro N_115 q_116
                            obtain ⟨hI_N_115, hG_N_115⟩ := q_116
                            have hF_N_115 : Fr f_c_X1_takeRule M N_115 := Fr.c hF_N_108 hG_N_115 rfl
                            refine kx_iconst 176 F dX1_takeRule_175 rfl ?_
                            have e_117 : (N_115 c0 7) = (N_99 c0 7) := by rw [Fr.e hG_N_115 hk_c0 _ rfl, Fr.e hG_N_108 hk_c0 _ rfl]
                            have e_118 : (N_115 c0 8) = (N_99 c0 8) := by rw [Fr.e hG_N_115 hk_c0 _ rfl, Fr.e hG_N_108 hk_c0 _ rfl]
                            exact kx_zret F hQ (by omega) ⟨hI_N_115, hF_N_115, (by omega)⟩ dX1_takeRule_176
                          · refine kx_aload_n 158 F 0 dX1_takeRule_157 rfl rfl rfl ?_
                            refine kx_iconst 159 F dX1_takeRule_158 rfl ?_
                            refine kx_Vi 162 (ci := 0) F (As := [vI 5]) (st := []) vd_X1_89 (c_X1_fail G l N_108 c0 5 hI_N_108 hk_c0 (by omega)) hk_c0 rfl rfl rfl ⟨by decide, by decide⟩ rfl rfl (Nat.le_of_ble_eq_true rfl) dX1_takeRule_159 rfl ?_
                            intro r_119 N_120 q_121
                            obtain ⟨hI_N_120, hG_N_120, q_121c⟩ := q_121
                            have hF_N_120 : Fr f_c_X1_takeRule M N_120 := Fr.c hF_N_108 hG_N_120 rfl
                            subst q_121c
                            have e_122 : (N_120 c0 7) = (N_99 c0 7) := by rw [Fr.e hG_N_120 hk_c0 _ rfl, Fr.e hG_N_108 hk_c0 _ rfl]
                            have e_123 : (N_120 c0 8) = (N_99 c0 8) := by rw [Fr.e hG_N_120 hk_c0 _ rfl, Fr.e hG_N_108 hk_c0 _ rfl]
                            exact kx_zret F hQ (by omega) ⟨hI_N_120, hF_N_120, (by omega)⟩ dX1_takeRule_162
                        · refine kx_iconst 140 F dX1_takeRule_139 rfl ?_
                          have e_124 : (N_108 c0 7) = (N_99 c0 7) := by rw [Fr.e hG_N_108 hk_c0 _ rfl]
                          have e_125 : (N_108 c0 8) = (N_99 c0 8) := by rw [Fr.e hG_N_108 hk_c0 _ rfl]
                          exact kx_zret F hQ (by omega) ⟨hI_N_108, hF_N_108, (by omega)⟩ dX1_takeRule_140
                      · refine kx_if_eq 132 F 139 dX1_takeRule_129 (by decide) rfl (by omega) (fun h_126 => ?_) (fun h_126 => (by exfalso; omega))
                        refine kx_iconst 140 F dX1_takeRule_139 rfl ?_
                        exact kx_zret F hQ (by omega) ⟨hI_N_99, hF_N_99, (by omega)⟩ dX1_takeRule_140
                · refine kx_if_ne 102 F 104 dX1_takeRule_99 (by decide) rfl (by omega) (fun h_127 => (by exfalso; omega)) (fun h_127 => ?_)
                  refine kx_iconst 103 F dX1_takeRule_102 rfl ?_
                  have e_128 : (N_48 c0 7) = (N_42 c0 7) := by rw [Fr.e hG_N_48 hk_c0 _ rfl]
                  have e_129 : (N_48 c0 8) = (N_42 c0 8) := by rw [Fr.e hG_N_48 hk_c0 _ rfl]
                  exact kx_zret F hQ (by omega) ⟨hI_N_48, hF_N_48, (by omega)⟩ dX1_takeRule_103
            · refine kx_if_ne 74 F 76 dX1_takeRule_71 (by decide) rfl (by omega) (fun h_130 => (by exfalso; omega)) (fun h_130 => ?_)
              refine kx_iconst 75 F dX1_takeRule_74 rfl ?_
              have e_131 : (N_33 c0 7) = (N_26 c0 7) := by rw [Fr.e hG_N_33 hk_c0 _ rfl]
              have e_132 : (N_33 c0 8) = (N_26 c0 8) := by rw [Fr.e hG_N_33 hk_c0 _ rfl]
              exact kx_zret F hQ (by omega) ⟨hI_N_33, hF_N_33, (by omega)⟩ dX1_takeRule_75
        · refine kx_aload_n 48 F 0 dX1_takeRule_47 rfl rfl rfl ?_
          refine kx_iconst 49 F dX1_takeRule_48 rfl ?_
          refine kx_Vi 52 (ci := 0) F (As := [vI 3]) (st := []) vd_X1_89 (c_X1_fail G l N_16 c0 3 hI_N_16 hk_c0 (by omega)) hk_c0 rfl rfl rfl ⟨by decide, by decide⟩ rfl rfl (Nat.le_of_ble_eq_true rfl) dX1_takeRule_49 rfl ?_
          intro r_133 N_134 q_135
          obtain ⟨hI_N_134, hG_N_134, q_135c⟩ := q_135
          have hF_N_134 : Fr f_c_X1_takeRule M N_134 := Fr.c hF_N_16 hG_N_134 rfl
          subst q_135c
          have e_136 : (N_134 c0 7) = (N_10 c0 7) := by rw [Fr.e hG_N_134 hk_c0 _ rfl, Fr.e hG_N_16 hk_c0 _ rfl]
          have e_137 : (N_134 c0 8) = (N_10 c0 8) := by rw [Fr.e hG_N_134 hk_c0 _ rfl, Fr.e hG_N_16 hk_c0 _ rfl]
          exact kx_zret F hQ (by omega) ⟨hI_N_134, hF_N_134, (by omega)⟩ dX1_takeRule_52
      · refine kx_iconst 36 F dX1_takeRule_35 rfl ?_
        have e_138 : (N_16 c0 7) = (N_10 c0 7) := by rw [Fr.e hG_N_16 hk_c0 _ rfl]
        have e_139 : (N_16 c0 8) = (N_10 c0 8) := by rw [Fr.e hG_N_16 hk_c0 _ rfl]
        exact kx_zret F hQ (by omega) ⟨hI_N_16, hF_N_16, (by omega)⟩ dX1_takeRule_36
  · refine kx_aload_n 15 F 0 dX1_takeRule_14 rfl rfl rfl ?_
    refine kx_bipush 17 F dX1_takeRule_15 (by decide) rfl ?_
    refine kx_Vi 20 (ci := 0) F (As := [vI 6]) (st := []) vd_X1_89 (c_X1_fail G l M c0 6 hI_M hk_c0 (by omega)) hk_c0 rfl rfl rfl ⟨by decide, by decide⟩ rfl rfl (Nat.le_of_ble_eq_true rfl) dX1_takeRule_17 rfl ?_
    intro r_140 N_141 q_142
    obtain ⟨hI_N_141, hG_N_141, q_142c⟩ := q_142
    have hF_N_141 : Fr f_c_X1_takeRule M N_141 := Fr.c hF_M hG_N_141 rfl
    subst q_142c
    have e_143 : (N_141 c0 7) = (M c0 7) := by rw [Fr.e hG_N_141 hk_c0 _ rfl]
    have e_144 : (N_141 c0 8) = (M c0 8) := by rw [Fr.e hG_N_141 hk_c0 _ rfl]
    exact kx_zret F hQ (by omega) ⟨hI_N_141, hF_N_141, (by omega)⟩ dX1_takeRule_20
theorem dX1_takePart_0 : decode cX1_takePart 0 = .ok (.aload_n 0, 1) := by decide +kernel
theorem dX1_takePart_1 : decode cX1_takePart 1 = .ok (.ldc 67, 2) := by decide +kernel
theorem dX1_takePart_3 : decode cX1_takePart 3 = .ok (.invokevirtual 69, 3) := by decide +kernel
theorem dX1_takePart_6 : decode cX1_takePart 6 = .ok (.ifCond .eq 9, 3) := by decide +kernel
theorem dX1_takePart_9 : decode cX1_takePart 9 = .ok (.aload_n 0, 1) := by decide +kernel
theorem dX1_takePart_10 : decode cX1_takePart 10 = .ok (.iconst 0, 1) := by decide +kernel
theorem dX1_takePart_11 : decode cX1_takePart 11 = .ok (.invokevirtual 73, 3) := by decide +kernel
theorem dX1_takePart_14 : decode cX1_takePart 14 = .ok (.ireturn, 1) := by decide +kernel
theorem dX1_takePart_15 : decode cX1_takePart 15 = .ok (.aload_n 0, 1) := by decide +kernel
theorem dX1_takePart_16 : decode cX1_takePart 16 = .ok (.ldc 77, 2) := by decide +kernel
theorem dX1_takePart_18 : decode cX1_takePart 18 = .ok (.invokevirtual 69, 3) := by decide +kernel
theorem dX1_takePart_21 : decode cX1_takePart 21 = .ok (.ifCond .eq 9, 3) := by decide +kernel
theorem dX1_takePart_24 : decode cX1_takePart 24 = .ok (.aload_n 0, 1) := by decide +kernel
theorem dX1_takePart_25 : decode cX1_takePart 25 = .ok (.iconst 1, 1) := by decide +kernel
theorem dX1_takePart_26 : decode cX1_takePart 26 = .ok (.invokevirtual 73, 3) := by decide +kernel
theorem dX1_takePart_29 : decode cX1_takePart 29 = .ok (.ireturn, 1) := by decide +kernel
theorem dX1_takePart_30 : decode cX1_takePart 30 = .ok (.aload_n 0, 1) := by decide +kernel
theorem dX1_takePart_31 : decode cX1_takePart 31 = .ok (.ldc 79, 2) := by decide +kernel
theorem dX1_takePart_33 : decode cX1_takePart 33 = .ok (.invokevirtual 69, 3) := by decide +kernel
theorem dX1_takePart_36 : decode cX1_takePart 36 = .ok (.ifCond .eq 9, 3) := by decide +kernel
theorem dX1_takePart_39 : decode cX1_takePart 39 = .ok (.aload_n 0, 1) := by decide +kernel
theorem dX1_takePart_40 : decode cX1_takePart 40 = .ok (.iconst 2, 1) := by decide +kernel
theorem dX1_takePart_41 : decode cX1_takePart 41 = .ok (.invokevirtual 73, 3) := by decide +kernel
theorem dX1_takePart_44 : decode cX1_takePart 44 = .ok (.ireturn, 1) := by decide +kernel
theorem dX1_takePart_45 : decode cX1_takePart 45 = .ok (.aload_n 0, 1) := by decide +kernel
theorem dX1_takePart_46 : decode cX1_takePart 46 = .ok (.ldc 81, 2) := by decide +kernel
theorem dX1_takePart_48 : decode cX1_takePart 48 = .ok (.invokevirtual 69, 3) := by decide +kernel
theorem dX1_takePart_51 : decode cX1_takePart 51 = .ok (.ifCond .eq 8, 3) := by decide +kernel
theorem dX1_takePart_54 : decode cX1_takePart 54 = .ok (.aload_n 0, 1) := by decide +kernel
theorem dX1_takePart_55 : decode cX1_takePart 55 = .ok (.invokevirtual 83, 3) := by decide +kernel
theorem dX1_takePart_58 : decode cX1_takePart 58 = .ok (.ireturn, 1) := by decide +kernel
theorem dX1_takePart_59 : decode cX1_takePart 59 = .ok (.aload_n 0, 1) := by decide +kernel
theorem dX1_takePart_60 : decode cX1_takePart 60 = .ok (.getfield 12, 3) := by decide +kernel
theorem dX1_takePart_63 : decode cX1_takePart 63 = .ok (.getfield 86, 3) := by decide +kernel
theorem dX1_takePart_66 : decode cX1_takePart 66 = .ok (.ifCond .ne 9, 3) := by decide +kernel
theorem dX1_takePart_69 : decode cX1_takePart 69 = .ok (.aload_n 0, 1) := by decide +kernel
theorem dX1_takePart_70 : decode cX1_takePart 70 = .ok (.iconst 2, 1) := by decide +kernel
theorem dX1_takePart_71 : decode cX1_takePart 71 = .ok (.invokevirtual 89, 3) := by decide +kernel
theorem dX1_takePart_74 : decode cX1_takePart 74 = .ok (.ireturn, 1) := by decide +kernel
theorem dX1_takePart_75 : decode cX1_takePart 75 = .ok (.aload_n 0, 1) := by decide +kernel
theorem dX1_takePart_76 : decode cX1_takePart 76 = .ok (.ldc 92, 2) := by decide +kernel
theorem dX1_takePart_78 : decode cX1_takePart 78 = .ok (.invokevirtual 69, 3) := by decide +kernel
theorem dX1_takePart_81 : decode cX1_takePart 81 = .ok (.ifCond .eq 9, 3) := by decide +kernel
theorem dX1_takePart_84 : decode cX1_takePart 84 = .ok (.aload_n 0, 1) := by decide +kernel
theorem dX1_takePart_85 : decode cX1_takePart 85 = .ok (.iconst 1, 1) := by decide +kernel
theorem dX1_takePart_86 : decode cX1_takePart 86 = .ok (.invokevirtual 94, 3) := by decide +kernel
theorem dX1_takePart_89 : decode cX1_takePart 89 = .ok (.ireturn, 1) := by decide +kernel
theorem dX1_takePart_90 : decode cX1_takePart 90 = .ok (.aload_n 0, 1) := by decide +kernel
theorem dX1_takePart_91 : decode cX1_takePart 91 = .ok (.ldc 98, 2) := by decide +kernel
theorem dX1_takePart_93 : decode cX1_takePart 93 = .ok (.invokevirtual 69, 3) := by decide +kernel
theorem dX1_takePart_96 : decode cX1_takePart 96 = .ok (.ifCond .eq 9, 3) := by decide +kernel
theorem dX1_takePart_99 : decode cX1_takePart 99 = .ok (.aload_n 0, 1) := by decide +kernel
theorem dX1_takePart_100 : decode cX1_takePart 100 = .ok (.iconst 0, 1) := by decide +kernel
theorem dX1_takePart_101 : decode cX1_takePart 101 = .ok (.invokevirtual 94, 3) := by decide +kernel
theorem dX1_takePart_104 : decode cX1_takePart 104 = .ok (.ireturn, 1) := by decide +kernel
theorem dX1_takePart_105 : decode cX1_takePart 105 = .ok (.aload_n 0, 1) := by decide +kernel
theorem dX1_takePart_106 : decode cX1_takePart 106 = .ok (.ldc 100, 2) := by decide +kernel
theorem dX1_takePart_108 : decode cX1_takePart 108 = .ok (.invokevirtual 69, 3) := by decide +kernel
theorem dX1_takePart_111 : decode cX1_takePart 111 = .ok (.ifCond .eq 10, 3) := by decide +kernel
theorem dX1_takePart_114 : decode cX1_takePart 114 = .ok (.aload_n 0, 1) := by decide +kernel
theorem dX1_takePart_115 : decode cX1_takePart 115 = .ok (.invokevirtual 102, 3) := by decide +kernel
theorem dX1_takePart_118 : decode cX1_takePart 118 = .ok (.goto 8, 3) := by decide +kernel
theorem dX1_takePart_121 : decode cX1_takePart 121 = .ok (.aload_n 0, 1) := by decide +kernel
theorem dX1_takePart_122 : decode cX1_takePart 122 = .ok (.iconst 2, 1) := by decide +kernel
theorem dX1_takePart_123 : decode cX1_takePart 123 = .ok (.invokevirtual 89, 3) := by decide +kernel
theorem dX1_takePart_126 : decode cX1_takePart 126 = .ok (.ireturn, 1) := by decide +kernel
abbrev f_c_X1_takePart : List (Nat × Int) := [(1, 0), (1, 1), (1, 2), (1, 3), (1, 4), (1, 5), (2, -1), (3, -1), (4, -1), (5, -1), (6, -1), (7, -1), (12, 0), (12, 1), (12, 2), (12, 3), (17, 2), (17, 3), (17, 6), (17, 7), (17, 8), (17, 9), (19, -1), (20, -1)]
set_option maxHeartbeats 4000000 in
set_option maxRecDepth 100000 in
theorem c_X1_takePart (G : KG) (l : Launch) (M : Mem) (c0 : Int) (hI_M : Inv false M) (hk_c0 : kd c0 = 17) (hpre : (M c0 7) + (M c0 8) ≤ 900) (hX_M : XX M) : KC false G l yX1_takePart cX1_takePart 1 (some .boolean) (8, 175) [vR G c0] M (fun A => kQi false G A (fun (r : Int) (N : Mem) => Inv false N ∧ Fr f_c_X1_takePart M N ∧ ((N c0 7) + (N c0 8) ≤ 900 ∧ r ≥ 0 ∧ r ≤ 1) ∧ XX N)) := by
  refine kx_met (lo := [some (vR G c0)]) (by decide) (Nat.le_of_ble_eq_true rfl) rfl ?_
  intro X F hQ
  have hF_M : Fr f_c_X1_takePart M M := Fr.rf _ _
  have h_1 := Inv.g hI_M hk_c0 rfl 7 (a := 0) (b := 900) rfl rfl
  have h_2 := Inv.g hI_M hk_c0 rfl 8 (a := 0) (b := 900) rfl rfl
  refine kx_aload_n 1 F 0 dX1_takePart_0 rfl rfl rfl ?_
  refine kx_ldcS 3 F 0 (by decide) rfl rfl dX1_takePart_1 rfl ?_
  refine kx_Vi 6 (ci := 0) F (As := [vT G 0]) (st := []) vd_X1_69 (c_X1_isWord G l M c0 0 hI_M hk_c0 (by omega)) hk_c0 rfl rfl rfl ⟨by decide, by decide⟩ rfl rfl (Nat.le_of_ble_eq_true rfl) dX1_takePart_3 rfl ?_
  intro r_3 N_4 q_5
  obtain ⟨rfl, q_5c⟩ := q_5
  refine kx_if_eq 9 F 15 dX1_takePart_6 (by decide) rfl (by omega) (fun h_6 => ?_) (fun h_6 => ?_)
  · refine kx_aload_n 16 F 0 dX1_takePart_15 rfl rfl rfl ?_
    refine kx_ldcS 18 F 1 (by decide) rfl rfl dX1_takePart_16 rfl ?_
    refine kx_Vi 21 (ci := 0) F (As := [vT G 1]) (st := []) vd_X1_69 (c_X1_isWord G l M c0 1 hI_M hk_c0 (by omega)) hk_c0 rfl rfl rfl ⟨by decide, by decide⟩ rfl rfl (Nat.le_of_ble_eq_true rfl) dX1_takePart_18 rfl ?_
    intro r_7 N_8 q_9
    obtain ⟨rfl, q_9c⟩ := q_9
    refine kx_if_eq 24 F 30 dX1_takePart_21 (by decide) rfl (by omega) (fun h_10 => ?_) (fun h_10 => ?_)
    · refine kx_aload_n 31 F 0 dX1_takePart_30 rfl rfl rfl ?_
      refine kx_ldcS 33 F 2 (by decide) rfl rfl dX1_takePart_31 rfl ?_
      refine kx_Vi 36 (ci := 0) F (As := [vT G 2]) (st := []) vd_X1_69 (c_X1_isWord G l M c0 2 hI_M hk_c0 (by omega)) hk_c0 rfl rfl rfl ⟨by decide, by decide⟩ rfl rfl (Nat.le_of_ble_eq_true rfl) dX1_takePart_33 rfl ?_
      intro r_11 N_12 q_13
      obtain ⟨rfl, q_13c⟩ := q_13
      refine kx_if_eq 39 F 45 dX1_takePart_36 (by decide) rfl (by omega) (fun h_14 => ?_) (fun h_14 => ?_)
      · refine kx_aload_n 46 F 0 dX1_takePart_45 rfl rfl rfl ?_
        refine kx_ldcS 48 F 3 (by decide) rfl rfl dX1_takePart_46 rfl ?_
        refine kx_Vi 51 (ci := 0) F (As := [vT G 3]) (st := []) vd_X1_69 (c_X1_isWord G l M c0 3 hI_M hk_c0 (by omega)) hk_c0 rfl rfl rfl ⟨by decide, by decide⟩ rfl rfl (Nat.le_of_ble_eq_true rfl) dX1_takePart_48 rfl ?_
        intro r_15 N_16 q_17
        obtain ⟨rfl, q_17c⟩ := q_17
        refine kx_if_eq 54 F 59 dX1_takePart_51 (by decide) rfl (by omega) (fun h_18 => ?_) (fun h_18 => ?_)
        · refine kx_aload_n 60 F 0 dX1_takePart_59 rfl rfl rfl ?_
          refine kx_getr 63 F fl_X1_12 hk_c0 rfl rfl (j := 0) rfl dX1_takePart_60 (v := (M c0 0)) rfl rfl ?_
          have hk_19 : kd (M c0 0) = 12 := Inv.r hI_M hk_c0 rfl 0 rfl rfl
          refine kx_geti 66 F fl_X1_86 hk_19 rfl rfl (j := 3) rfl dX1_takePart_63 (v := (M (M c0 0) 3)) rfl rfl ?_
          have h_20 := Inv.g hI_M hk_19 rfl 3 (a := 0) (b := 2) rfl rfl
          refine kx_if_ne 69 F 75 dX1_takePart_66 (by decide) rfl (by omega) (fun h_21 => ?_) (fun h_21 => ?_)
          · refine kx_aload_n 76 F 0 dX1_takePart_75 rfl rfl rfl ?_
            refine kx_ldcS 78 F 5 (by decide) rfl rfl dX1_takePart_76 rfl ?_
            refine kx_Vi 81 (ci := 0) F (As := [vT G 5]) (st := []) vd_X1_69 (c_X1_isWord G l M c0 5 hI_M hk_c0 (by omega)) hk_c0 rfl rfl rfl ⟨by decide, by decide⟩ rfl rfl (Nat.le_of_ble_eq_true rfl) dX1_takePart_78 rfl ?_
            intro r_22 N_23 q_24
            obtain ⟨rfl, q_24c⟩ := q_24
            refine kx_if_eq 84 F 90 dX1_takePart_81 (by decide) rfl (by omega) (fun h_25 => ?_) (fun h_25 => ?_)
            · refine kx_aload_n 91 F 0 dX1_takePart_90 rfl rfl rfl ?_
              refine kx_ldcS 93 F 6 (by decide) rfl rfl dX1_takePart_91 rfl ?_
              refine kx_Vi 96 (ci := 0) F (As := [vT G 6]) (st := []) vd_X1_69 (c_X1_isWord G l M c0 6 hI_M hk_c0 (by omega)) hk_c0 rfl rfl rfl ⟨by decide, by decide⟩ rfl rfl (Nat.le_of_ble_eq_true rfl) dX1_takePart_93 rfl ?_
              intro r_26 N_27 q_28
              obtain ⟨rfl, q_28c⟩ := q_28
              refine kx_if_eq 99 F 105 dX1_takePart_96 (by decide) rfl (by omega) (fun h_29 => ?_) (fun h_29 => ?_)
              · refine kx_aload_n 106 F 0 dX1_takePart_105 rfl rfl rfl ?_
                refine kx_ldcS 108 F 7 (by decide) rfl rfl dX1_takePart_106 rfl ?_
                refine kx_Vi 111 (ci := 0) F (As := [vT G 7]) (st := []) vd_X1_69 (c_X1_isWord G l M c0 7 hI_M hk_c0 (by omega)) hk_c0 rfl rfl rfl ⟨by decide, by decide⟩ rfl rfl (Nat.le_of_ble_eq_true rfl) dX1_takePart_108 rfl ?_
                intro r_30 N_31 q_32
                obtain ⟨rfl, q_32c⟩ := q_32
                refine kx_if_eq 114 F 121 dX1_takePart_111 (by decide) rfl (by omega) (fun h_33 => ?_) (fun h_33 => ?_)
                · refine kx_aload_n 122 F 0 dX1_takePart_121 rfl rfl rfl ?_
                  refine kx_iconst 123 F dX1_takePart_122 rfl ?_
                  refine kx_Vi 126 (ci := 0) F (As := [vI 2]) (st := []) vd_X1_89 (c_X1_fail G l M c0 2 hI_M hk_c0 (by omega)) hk_c0 rfl rfl rfl ⟨by decide, by decide⟩ rfl rfl (Nat.le_of_ble_eq_true rfl) dX1_takePart_123 rfl ?_
                  intro r_34 N_35 q_36
                  obtain ⟨hI_N_35, hG_N_35, q_36c⟩ := q_36
                  have hF_N_35 : Fr f_c_X1_takePart M N_35 := Fr.c hF_M hG_N_35 rfl
                  have hX_N_35 : XX N_35 := XX.fr hX_M hI_M hG_N_35 rfl
                  subst q_36c
                  have e_37 : (N_35 c0 7) = (M c0 7) := by rw [Fr.e hG_N_35 hk_c0 _ rfl]
                  have e_38 : (N_35 c0 8) = (M c0 8) := by rw [Fr.e hG_N_35 hk_c0 _ rfl]
                  exact kx_zret F hQ (by omega) ⟨hI_N_35, hF_N_35, (by omega), hX_N_35⟩ dX1_takePart_126
                · refine kx_aload_n 115 F 0 dX1_takePart_114 rfl rfl rfl ?_
                  refine kx_Vi 118 (ci := 0) F (As := []) (st := []) vd_X1_102 (c_X1_takeRule G l M c0 hI_M hk_c0 (by omega)) hk_c0 rfl rfl rfl ⟨by decide, by decide⟩ rfl rfl (Nat.le_of_ble_eq_true rfl) dX1_takePart_115 rfl ?_
                  intro r_39 N_40 q_41
                  obtain ⟨hI_N_40, hG_N_40, q_41c⟩ := q_41
                  have hF_N_40 : Fr f_c_X1_takePart M N_40 := Fr.c hF_M hG_N_40 rfl
                  have hX_N_40 : XX N_40 := XX.fr hX_M hI_M hG_N_40 rfl
                  have h_42 := Inv.g hI_N_40 hk_c0 rfl 7 (a := 0) (b := 900) rfl rfl
                  have h_43 := Inv.g hI_N_40 hk_c0 rfl 8 (a := 0) (b := 900) rfl rfl
                  refine kx_goto 126 F dX1_takePart_118 (by decide) ?_
                  exact kx_zret F hQ (by omega) ⟨hI_N_40, hF_N_40, (by omega), hX_N_40⟩ dX1_takePart_126
              · refine kx_aload_n 100 F 0 dX1_takePart_99 rfl rfl rfl ?_
                refine kx_iconst 101 F dX1_takePart_100 rfl ?_
                refine kx_Vi 104 (ci := 0) F (As := [vI 0]) (st := []) vd_X1_94 (c_X1_takeStates G l M c0 0 hI_M hk_c0 (by omega)) hk_c0 rfl rfl rfl ⟨by decide, by decide⟩ rfl rfl (Nat.le_of_ble_eq_true rfl) dX1_takePart_101 rfl ?_
                intro r_44 N_45 q_46
                obtain ⟨hI_N_45, hG_N_45, q_46c⟩ := q_46
                have hF_N_45 : Fr f_c_X1_takePart M N_45 := Fr.c hF_M hG_N_45 rfl
                have hX_N_45 : XX N_45 := XX.fr hX_M hI_M hG_N_45 rfl
                have h_47 := Inv.g hI_N_45 hk_c0 rfl 7 (a := 0) (b := 900) rfl rfl
                have h_48 := Inv.g hI_N_45 hk_c0 rfl 8 (a := 0) (b := 900) rfl rfl
                exact kx_zret F hQ (by omega) ⟨hI_N_45, hF_N_45, (by omega), hX_N_45⟩ dX1_takePart_104
            · refine kx_aload_n 85 F 0 dX1_takePart_84 rfl rfl rfl ?_
              refine kx_iconst 86 F dX1_takePart_85 rfl ?_
              refine kx_Vi 89 (ci := 0) F (As := [vI 1]) (st := []) vd_X1_94 (c_X1_takeStates G l M c0 1 hI_M hk_c0 (by omega)) hk_c0 rfl rfl rfl ⟨by decide, by decide⟩ rfl rfl (Nat.le_of_ble_eq_true rfl) dX1_takePart_86 rfl ?_
              intro r_49 N_50 q_51
              obtain ⟨hI_N_50, hG_N_50, q_51c⟩ := q_51
              have hF_N_50 : Fr f_c_X1_takePart M N_50 := Fr.c hF_M hG_N_50 rfl
              have hX_N_50 : XX N_50 := XX.fr hX_M hI_M hG_N_50 rfl
              have h_52 := Inv.g hI_N_50 hk_c0 rfl 7 (a := 0) (b := 900) rfl rfl
              have h_53 := Inv.g hI_N_50 hk_c0 rfl 8 (a := 0) (b := 900) rfl rfl
              exact kx_zret F hQ (by omega) ⟨hI_N_50, hF_N_50, (by omega), hX_N_50⟩ dX1_takePart_89
          · refine kx_aload_n 70 F 0 dX1_takePart_69 rfl rfl rfl ?_
            refine kx_iconst 71 F dX1_takePart_70 rfl ?_
            refine kx_Vi 74 (ci := 0) F (As := [vI 2]) (st := []) vd_X1_89 (c_X1_fail G l M c0 2 hI_M hk_c0 (by omega)) hk_c0 rfl rfl rfl ⟨by decide, by decide⟩ rfl rfl (Nat.le_of_ble_eq_true rfl) dX1_takePart_71 rfl ?_
            intro r_54 N_55 q_56
            obtain ⟨hI_N_55, hG_N_55, q_56c⟩ := q_56
            have hF_N_55 : Fr f_c_X1_takePart M N_55 := Fr.c hF_M hG_N_55 rfl
            have hX_N_55 : XX N_55 := XX.fr hX_M hI_M hG_N_55 rfl
            subst q_56c
            have e_57 : (N_55 c0 7) = (M c0 7) := by rw [Fr.e hG_N_55 hk_c0 _ rfl]
            have e_58 : (N_55 c0 8) = (M c0 8) := by rw [Fr.e hG_N_55 hk_c0 _ rfl]
            exact kx_zret F hQ (by omega) ⟨hI_N_55, hF_N_55, (by omega), hX_N_55⟩ dX1_takePart_74
        · refine kx_aload_n 55 F 0 dX1_takePart_54 rfl rfl rfl ?_
          refine kx_Vi 58 (ci := 0) F (As := []) (st := []) vd_X1_83 (c_X1_takeAutomaton G l M c0 hI_M hk_c0 (by omega)) hk_c0 rfl rfl rfl ⟨by decide, by decide⟩ rfl rfl (Nat.le_of_ble_eq_true rfl) dX1_takePart_55 rfl ?_
          intro r_59 N_60 q_61
          obtain ⟨hI_N_60, hG_N_60, q_61c⟩ := q_61
          have hF_N_60 : Fr f_c_X1_takePart M N_60 := Fr.c hF_M hG_N_60 rfl
          have hX_N_60 : XX N_60 := XX.fr hX_M hI_M hG_N_60 rfl
          have h_62 := Inv.g hI_N_60 hk_c0 rfl 7 (a := 0) (b := 900) rfl rfl
          have h_63 := Inv.g hI_N_60 hk_c0 rfl 8 (a := 0) (b := 900) rfl rfl
          exact kx_zret F hQ (by omega) ⟨hI_N_60, hF_N_60, (by omega), hX_N_60⟩ dX1_takePart_58
      · refine kx_aload_n 40 F 0 dX1_takePart_39 rfl rfl rfl ?_
        refine kx_iconst 41 F dX1_takePart_40 rfl ?_
        refine kx_Vi 44 (ci := 0) F (As := [vI 2]) (st := []) vd_X1_73 (c_X1_takeLetter G l M c0 2 hI_M hk_c0 (by omega) hX_M) hk_c0 rfl rfl rfl ⟨by decide, by decide⟩ rfl rfl (Nat.le_of_ble_eq_true rfl) dX1_takePart_41 rfl ?_
        intro r_64 N_65 q_66
        obtain ⟨hI_N_65, hG_N_65, q_66c, hX_N_65⟩ := q_66
        have hF_N_65 : Fr f_c_X1_takePart M N_65 := Fr.c hF_M hG_N_65 rfl
        have h_67 := Inv.g hI_N_65 hk_c0 rfl 7 (a := 0) (b := 900) rfl rfl
        have h_68 := Inv.g hI_N_65 hk_c0 rfl 8 (a := 0) (b := 900) rfl rfl
        exact kx_zret F hQ (by omega) ⟨hI_N_65, hF_N_65, (by omega), hX_N_65⟩ dX1_takePart_44
    · refine kx_aload_n 25 F 0 dX1_takePart_24 rfl rfl rfl ?_
      refine kx_iconst 26 F dX1_takePart_25 rfl ?_
      refine kx_Vi 29 (ci := 0) F (As := [vI 1]) (st := []) vd_X1_73 (c_X1_takeLetter G l M c0 1 hI_M hk_c0 (by omega) hX_M) hk_c0 rfl rfl rfl ⟨by decide, by decide⟩ rfl rfl (Nat.le_of_ble_eq_true rfl) dX1_takePart_26 rfl ?_
      intro r_69 N_70 q_71
      obtain ⟨hI_N_70, hG_N_70, q_71c, hX_N_70⟩ := q_71
      have hF_N_70 : Fr f_c_X1_takePart M N_70 := Fr.c hF_M hG_N_70 rfl
      have h_72 := Inv.g hI_N_70 hk_c0 rfl 7 (a := 0) (b := 900) rfl rfl
      have h_73 := Inv.g hI_N_70 hk_c0 rfl 8 (a := 0) (b := 900) rfl rfl
      exact kx_zret F hQ (by omega) ⟨hI_N_70, hF_N_70, (by omega), hX_N_70⟩ dX1_takePart_29
  · refine kx_aload_n 10 F 0 dX1_takePart_9 rfl rfl rfl ?_
    refine kx_iconst 11 F dX1_takePart_10 rfl ?_
    refine kx_Vi 14 (ci := 0) F (As := [vI 0]) (st := []) vd_X1_73 (c_X1_takeLetter G l M c0 0 hI_M hk_c0 (by omega) hX_M) hk_c0 rfl rfl rfl ⟨by decide, by decide⟩ rfl rfl (Nat.le_of_ble_eq_true rfl) dX1_takePart_11 rfl ?_
    intro r_74 N_75 q_76
    obtain ⟨hI_N_75, hG_N_75, q_76c, hX_N_75⟩ := q_76
    have hF_N_75 : Fr f_c_X1_takePart M N_75 := Fr.c hF_M hG_N_75 rfl
    have h_77 := Inv.g hI_N_75 hk_c0 rfl 7 (a := 0) (b := 900) rfl rfl
    have h_78 := Inv.g hI_N_75 hk_c0 rfl 8 (a := 0) (b := 900) rfl rfl
    exact kx_zret F hQ (by omega) ⟨hI_N_75, hF_N_75, (by omega), hX_N_75⟩ dX1_takePart_14
theorem dX1_take_0 : decode cX1_take 0 = .ok (.aload_n 0, 1) := by decide +kernel
theorem dX1_take_1 : decode cX1_take 1 = .ok (.iload_n 1, 1) := by decide +kernel
theorem dX1_take_2 : decode cX1_take 2 = .ok (.sipush 900, 3) := by decide +kernel
theorem dX1_take_5 : decode cX1_take 5 = .ok (.invokestatic 39, 3) := by decide +kernel
theorem dX1_take_8 : decode cX1_take 8 = .ok (.putfield 45, 3) := by decide +kernel
theorem dX1_take_11 : decode cX1_take 11 = .ok (.aload_n 0, 1) := by decide +kernel
theorem dX1_take_12 : decode cX1_take 12 = .ok (.iconst 0, 1) := by decide +kernel
theorem dX1_take_13 : decode cX1_take 13 = .ok (.putfield 36, 3) := by decide +kernel
theorem dX1_take_16 : decode cX1_take 16 = .ok (.aload_n 0, 1) := by decide +kernel
theorem dX1_take_17 : decode cX1_take 17 = .ok (.getfield 12, 3) := by decide +kernel
theorem dX1_take_20 : decode cX1_take 20 = .ok (.invokevirtual 48, 3) := by decide +kernel
theorem dX1_take_23 : decode cX1_take 23 = .ok (.aload_n 0, 1) := by decide +kernel
theorem dX1_take_24 : decode cX1_take 24 = .ok (.iconst 0, 1) := by decide +kernel
theorem dX1_take_25 : decode cX1_take 25 = .ok (.putfield 18, 3) := by decide +kernel
theorem dX1_take_28 : decode cX1_take 28 = .ok (.aload_n 0, 1) := by decide +kernel
theorem dX1_take_29 : decode cX1_take 29 = .ok (.iconst (-1), 1) := by decide +kernel
theorem dX1_take_30 : decode cX1_take 30 = .ok (.putfield 22, 3) := by decide +kernel
theorem dX1_take_33 : decode cX1_take 33 = .ok (.aload_n 0, 1) := by decide +kernel
theorem dX1_take_34 : decode cX1_take 34 = .ok (.iconst 0, 1) := by decide +kernel
theorem dX1_take_35 : decode cX1_take 35 = .ok (.putfield 51, 3) := by decide +kernel
theorem dX1_take_38 : decode cX1_take 38 = .ok (.aload_n 0, 1) := by decide +kernel
theorem dX1_take_39 : decode cX1_take 39 = .ok (.iconst 0, 1) := by decide +kernel
theorem dX1_take_40 : decode cX1_take 40 = .ok (.putfield 54, 3) := by decide +kernel
theorem dX1_take_43 : decode cX1_take 43 = .ok (.iconst 1, 1) := by decide +kernel
theorem dX1_take_44 : decode cX1_take 44 = .ok (.istore_n 2, 1) := by decide +kernel
theorem dX1_take_45 : decode cX1_take 45 = .ok (.iconst 0, 1) := by decide +kernel
theorem dX1_take_46 : decode cX1_take 46 = .ok (.istore_n 3, 1) := by decide +kernel
theorem dX1_take_47 : decode cX1_take 47 = .ok (.iload_n 3, 1) := by decide +kernel
theorem dX1_take_48 : decode cX1_take 48 = .ok (.aload_n 0, 1) := by decide +kernel
theorem dX1_take_49 : decode cX1_take 49 = .ok (.getfield 45, 3) := by decide +kernel
theorem dX1_take_52 : decode cX1_take 52 = .ok (.if_icmp .gt 48, 3) := by decide +kernel
theorem dX1_take_55 : decode cX1_take 55 = .ok (.iload_n 2, 1) := by decide +kernel
theorem dX1_take_56 : decode cX1_take 56 = .ok (.ifCond .eq 44, 3) := by decide +kernel
theorem dX1_take_59 : decode cX1_take 59 = .ok (.aload_n 0, 1) := by decide +kernel
theorem dX1_take_60 : decode cX1_take 60 = .ok (.invokevirtual 57, 3) := by decide +kernel
theorem dX1_take_63 : decode cX1_take 63 = .ok (.istore_n 2, 1) := by decide +kernel
theorem dX1_take_64 : decode cX1_take 64 = .ok (.iload_n 2, 1) := by decide +kernel
theorem dX1_take_65 : decode cX1_take 65 = .ok (.ifCond .eq 12, 3) := by decide +kernel
theorem dX1_take_68 : decode cX1_take 68 = .ok (.aload_n 0, 1) := by decide +kernel
theorem dX1_take_69 : decode cX1_take 69 = .ok (.getfield 61, 3) := by decide +kernel
theorem dX1_take_72 : decode cX1_take 72 = .ok (.ifCond .ne 5, 3) := by decide +kernel
theorem dX1_take_75 : decode cX1_take 75 = .ok (.iconst 1, 1) := by decide +kernel
theorem dX1_take_76 : decode cX1_take 76 = .ok (.ireturn, 1) := by decide +kernel
theorem dX1_take_77 : decode cX1_take 77 = .ok (.iload_n 2, 1) := by decide +kernel
theorem dX1_take_78 : decode cX1_take 78 = .ok (.ifCond .eq 14, 3) := by decide +kernel
theorem dX1_take_81 : decode cX1_take 81 = .ok (.aload_n 0, 1) := by decide +kernel
theorem dX1_take_82 : decode cX1_take 82 = .ok (.invokevirtual 64, 3) := by decide +kernel
theorem dX1_take_85 : decode cX1_take 85 = .ok (.ifCond .eq 7, 3) := by decide +kernel
theorem dX1_take_88 : decode cX1_take 88 = .ok (.iconst 1, 1) := by decide +kernel
theorem dX1_take_89 : decode cX1_take 89 = .ok (.goto 4, 3) := by decide +kernel
theorem dX1_take_92 : decode cX1_take 92 = .ok (.iconst 0, 1) := by decide +kernel
theorem dX1_take_93 : decode cX1_take 93 = .ok (.istore_n 2, 1) := by decide +kernel
theorem dX1_take_94 : decode cX1_take 94 = .ok (.iinc 3 1, 3) := by decide +kernel
theorem dX1_take_97 : decode cX1_take 97 = .ok (.goto (-50), 3) := by decide +kernel
theorem dX1_take_100 : decode cX1_take 100 = .ok (.iload_n 2, 1) := by decide +kernel
theorem dX1_take_101 : decode cX1_take 101 = .ok (.ireturn, 1) := by decide +kernel
abbrev f_c_X1_take : List (Nat × Int) := [(1, 0), (1, 1), (1, 2), (1, 3), (1, 4), (1, 5), (2, -1), (3, -1), (4, -1), (5, -1), (6, -1), (7, -1), (8, 0), (12, 0), (12, 1), (12, 2), (12, 3), (17, 1), (17, 2), (17, 3), (17, 5), (17, 6), (17, 7), (17, 8), (17, 9), (19, -1), (20, -1)]
set_option maxHeartbeats 4000000 in
set_option maxRecDepth 100000 in
theorem c_X1_take (G : KG) (l : Launch) (M : Mem) (c0 : Int) (a1 : Int) (hI_M : Inv false M) (hk_c0 : kd c0 = 17) (hpre : -2147483648 ≤ a1 ∧ a1 ≤ 2147483647 ∧ 0 ≤ a1) (hX_M : XX M) : KC false G l yX1_take cX1_take 4 (some .boolean) (9, 195) [vR G c0, vI a1] M (fun A => kQi false G A (fun (r : Int) (N : Mem) => Inv false N ∧ Fr f_c_X1_take M N ∧ (0 ≤ r ∧ r ≤ 1) ∧ XX N)) := by
  refine kx_met (lo := [some (vR G c0), some (vI a1), none, none]) (by decide) (Nat.le_of_ble_eq_true rfl) rfl ?_
  intro X F hQ
  have hF_M : Fr f_c_X1_take M M := Fr.rf _ _
  refine kx_aload_n 1 F 0 dX1_take_0 rfl rfl rfl ?_
  refine kx_iload_n 2 F 1 dX1_take_1 rfl rfl rfl ?_
  refine kx_sipush 5 F dX1_take_2 (by decide) rfl ?_
  refine kx_mmin 8 F dX1_take_5 (tt lm_799 rfl) (tt lm_800 rfl) (tt lm_180 rfl) (tt lm_801 rfl) (by decide) (Nat.le_of_ble_eq_true rfl) (by omega) (by omega) rfl (fun w_1 h_2 => ?_)
  refine kx_puti 11 F fw_X1_45 rfl hk_c0 rfl rfl (j := 5) rfl dX1_take_8 rfl ?_
  intro N_3 hM_N_3
  have hI_N_3 : Inv false N_3 := Inv.u hI_M hM_N_3 hk_c0 (a := 0) (b := 900) rfl rfl rfl (by omega)
  have hF_N_3 : Fr f_c_X1_take M N_3 := Fr.u hF_M hM_N_3 hk_c0 rfl
  have hX_N_3 : XX N_3 := XX.st hX_M hI_M hM_N_3 hk_c0 rfl
  refine kx_aload_n 12 F 0 dX1_take_11 rfl rfl rfl ?_
  refine kx_iconst 13 F dX1_take_12 rfl ?_
  refine kx_puti 16 F fw_X1_36 rfl hk_c0 rfl rfl (j := 1) rfl dX1_take_13 rfl ?_
  intro N_4 hM_N_4
  have hI_N_4 : Inv false N_4 := Inv.u hI_N_3 hM_N_4 hk_c0 (a := 0) (b := 900) rfl rfl rfl (by omega)
  have hF_N_4 : Fr f_c_X1_take M N_4 := Fr.u hF_N_3 hM_N_4 hk_c0 rfl
  have hX_N_4 : XX N_4 := XX.st hX_N_3 hI_N_3 hM_N_4 hk_c0 rfl
  refine kx_aload_n 17 F 0 dX1_take_16 rfl rfl rfl ?_
  refine kx_getr 20 F fl_X1_12 hk_c0 rfl rfl (j := 0) rfl dX1_take_17 (v := (M c0 0)) (by rw [hM_N_4, mu_i (by omega), hM_N_3, mu_i (by omega)]) rfl ?_
  have hk_5 : kd (M c0 0) = 12 := Inv.r hI_M hk_c0 rfl 0 rfl rfl
  refine kx_Vv 23 (ci := 0) F (As := []) (st := []) vd_X1_48 (c_X5_clear G l N_4 (M c0 0) hI_N_4 hk_5 hX_N_4) hk_5 rfl rfl rfl ⟨by decide, by decide⟩ rfl rfl (Nat.le_of_ble_eq_true rfl) dX1_take_20 rfl ?_
  intro N_6 q_7
  obtain ⟨hI_N_6, hG_N_6, hX_N_6⟩ := q_7
  have hF_N_6 : Fr f_c_X1_take M N_6 := Fr.c hF_N_4 hG_N_6 rfl
  refine kx_aload_n 24 F 0 dX1_take_23 rfl rfl rfl ?_
  refine kx_iconst 25 F dX1_take_24 rfl ?_
  refine kx_puti 28 F fw_X1_18 rfl hk_c0 rfl rfl (j := 2) rfl dX1_take_25 rfl ?_
  intro N_8 hM_N_8
  have hI_N_8 : Inv false N_8 := Inv.u hI_N_6 hM_N_8 hk_c0 (a := (-2147483648)) (b := 2147483647) rfl rfl rfl (by omega)
  have hF_N_8 : Fr f_c_X1_take M N_8 := Fr.u hF_N_6 hM_N_8 hk_c0 rfl
  have hX_N_8 : XX N_8 := XX.st hX_N_6 hI_N_6 hM_N_8 hk_c0 rfl
  refine kx_aload_n 29 F 0 dX1_take_28 rfl rfl rfl ?_
  refine kx_iconst 30 F dX1_take_29 rfl ?_
  refine kx_puti 33 F fw_X1_22 rfl hk_c0 rfl rfl (j := 3) rfl dX1_take_30 rfl ?_
  intro N_9 hM_N_9
  have hI_N_9 : Inv false N_9 := Inv.u hI_N_8 hM_N_9 hk_c0 (a := (-2147483648)) (b := 2147483647) rfl rfl rfl (by omega)
  have hF_N_9 : Fr f_c_X1_take M N_9 := Fr.u hF_N_8 hM_N_9 hk_c0 rfl
  have hX_N_9 : XX N_9 := XX.st hX_N_8 hI_N_8 hM_N_9 hk_c0 rfl
  refine kx_aload_n 34 F 0 dX1_take_33 rfl rfl rfl ?_
  refine kx_iconst 35 F dX1_take_34 rfl ?_
  refine kx_puti 38 F fw_X1_51 rfl hk_c0 rfl rfl (j := 7) rfl dX1_take_35 rfl ?_
  intro N_10 hM_N_10
  have hI_N_10 : Inv false N_10 := Inv.u hI_N_9 hM_N_10 hk_c0 (a := 0) (b := 900) rfl rfl rfl (by omega)
  have hF_N_10 : Fr f_c_X1_take M N_10 := Fr.u hF_N_9 hM_N_10 hk_c0 rfl
  have hX_N_10 : XX N_10 := XX.st hX_N_9 hI_N_9 hM_N_10 hk_c0 rfl
  refine kx_aload_n 39 F 0 dX1_take_38 rfl rfl rfl ?_
  refine kx_iconst 40 F dX1_take_39 rfl ?_
  refine kx_puti 43 F fw_X1_54 rfl hk_c0 rfl rfl (j := 8) rfl dX1_take_40 rfl ?_
  intro N_11 hM_N_11
  have hI_N_11 : Inv false N_11 := Inv.u hI_N_10 hM_N_11 hk_c0 (a := 0) (b := 900) rfl rfl rfl (by omega)
  have hF_N_11 : Fr f_c_X1_take M N_11 := Fr.u hF_N_10 hM_N_11 hk_c0 rfl
  have hX_N_11 : XX N_11 := XX.st hX_N_10 hI_N_10 hM_N_11 hk_c0 rfl
  refine kx_iconst 44 F dX1_take_43 rfl ?_
  refine kx_istore_n 45 F 2 (lo' := [some (vR G c0), some (vI a1), some (vI 1), none]) dX1_take_44 rfl (by decide) rfl rfl rfl ?_
  refine kx_iconst 46 F dX1_take_45 rfl ?_
  refine kx_istore_n 47 F 3 (lo' := [some (vR G c0), some (vI a1), some (vI 1), some (vI 0)]) dX1_take_46 rfl (by decide) rfl rfl rfl ?_
  have L_183 : ∀ (n_184 : Nat) (x2_180 : Int) (x3_181 : Int) (N_182 : Mem), Inv false N_182 → Fr f_c_X1_take M N_182 → XX N_182 → 0 ≤ x2_180 ∧ x2_180 ≤ 1 ∧ 0 ≤ x3_181 ∧ x3_181 ≤ 901 ∧ (N_182 c0 7) + (N_182 c0 8) ≤ 900 → (901 - (x3_181)).toNat = n_184 → KJ false G X N_182 47 [some (vR G c0), none, some (vI x2_180), some (vI x3_181)] [] := by
    intro n_184
    refine Nat.strongRecOn n_184 ?_
    intro n_184 ih_185 x2_180 x3_181 N_182 hI_N_182 hF_N_182 hX_N_182 h_186 hm_187
    refine kx_iload_n 48 F 3 dX1_take_47 rfl rfl rfl ?_
    refine kx_aload_n 49 F 0 dX1_take_48 rfl rfl rfl ?_
    refine kx_geti 52 F fl_X1_45 hk_c0 rfl rfl (j := 5) rfl dX1_take_49 (v := (N_182 c0 5)) rfl rfl ?_
    have h_188 := Inv.g hI_N_182 hk_c0 rfl 5 (a := 0) (b := 900) rfl rfl
    refine kx_icmp_gt 55 F 100 dX1_take_52 (by decide) rfl (by omega) (by omega) (fun h_189 => ?_) (fun h_189 => ?_)
    · refine kx_iload_n 101 F 2 dX1_take_100 rfl rfl rfl ?_
      exact kx_zret F hQ (by omega) ⟨hI_N_182, hF_N_182, (by omega), hX_N_182⟩ dX1_take_101
    · refine kx_iload_n 56 F 2 dX1_take_55 rfl rfl rfl ?_
      refine kx_if_eq 59 F 100 dX1_take_56 (by decide) rfl (by omega) (fun h_190 => ?_) (fun h_190 => ?_)
      · refine kx_iload_n 101 F 2 dX1_take_100 rfl rfl rfl ?_
        exact kx_zret F hQ (by omega) ⟨hI_N_182, hF_N_182, (by omega), hX_N_182⟩ dX1_take_101
      · refine kx_aload_n 60 F 0 dX1_take_59 rfl rfl rfl ?_
        have h_191 := Inv.g hI_N_182 hk_c0 rfl 7 (a := 0) (b := 900) rfl rfl
        have h_192 := Inv.g hI_N_182 hk_c0 rfl 8 (a := 0) (b := 900) rfl rfl
        refine kx_Vi 63 (ci := 0) F (As := []) (st := []) vd_X1_57 (c_X1_advance G l N_182 c0 hI_N_182 hk_c0 (by omega)) hk_c0 rfl rfl rfl ⟨by decide, by decide⟩ rfl rfl (Nat.le_of_ble_eq_true rfl) dX1_take_60 rfl ?_
        intro r_193 N_194 q_195
        obtain ⟨hI_N_194, hG_N_194, q_195c⟩ := q_195
        have hF_N_194 : Fr f_c_X1_take M N_194 := Fr.c hF_N_182 hG_N_194 rfl
        have hX_N_194 : XX N_194 := XX.fr hX_N_182 hI_N_182 hG_N_194 rfl
        have h_196 := Inv.g hI_N_194 hk_c0 rfl 7 (a := 0) (b := 900) rfl rfl
        have h_197 := Inv.g hI_N_194 hk_c0 rfl 8 (a := 0) (b := 900) rfl rfl
        refine kx_istore_n 64 F 2 (lo' := [some (vR G c0), none, some (vI r_193), some (vI x3_181)]) dX1_take_63 rfl (by decide) rfl rfl rfl ?_
        refine kx_iload_n 65 F 2 dX1_take_64 rfl rfl rfl ?_
        have J_201 : (N_194 c0 7) + (N_194 c0 8) ≤ 900 → KJ false G X N_194 77 [some (vR G c0), none, some (vI r_193), some (vI x3_181)] [] := by
          intro h_202
          refine kx_iload_n 78 F 2 dX1_take_77 rfl rfl rfl ?_
          have J_219 : ∀ (y0_217 : Int) (N_218 : Mem), Inv false N_218 → Fr f_c_X1_take M N_218 → XX N_218 → 0 ≤ y0_217 ∧ y0_217 ≤ 1 ∧ (N_218 c0 7) + (N_218 c0 8) ≤ 900 → KJ false G X N_218 93 [some (vR G c0), none, none, some (vI x3_181)] [vI y0_217] := by
            intro y0_217 N_218 hI_N_218 hF_N_218 hX_N_218 h_220
            refine kx_istore_n 94 F 2 (lo' := [some (vR G c0), none, some (vI y0_217), some (vI x3_181)]) dX1_take_93 rfl (by decide) rfl rfl rfl ?_
            refine kx_iinc 97 F 3 (v := x3_181 + 1) (lo' := [some (vR G c0), none, some (vI y0_217), some (vI (x3_181 + 1))]) dX1_take_94 rfl (by omega) (by decide) rfl rfl rfl ?_
            refine kx_goto 47 F dX1_take_97 (by decide) ?_
            have h_221 := Inv.g hI_N_218 hk_c0 rfl 7 (a := 0) (b := 900) rfl rfl
            have h_222 := Inv.g hI_N_218 hk_c0 rfl 8 (a := 0) (b := 900) rfl rfl
            exact ih_185 _ (by omega) y0_217 (x3_181 + 1) N_218 hI_N_218 hF_N_218 hX_N_218 (by omega) rfl
          have J_231 : ∀ (N_230 : Mem), Inv false N_230 → Fr f_c_X1_take M N_230 → XX N_230 → (N_230 c0 7) + (N_230 c0 8) ≤ 900 → KJ false G X N_230 92 [some (vR G c0), none, none, some (vI x3_181)] [] := by
            intro N_230 hI_N_230 hF_N_230 hX_N_230 h_232
            refine kx_iconst 93 F dX1_take_92 rfl ?_
            have h_233 := Inv.g hI_N_230 hk_c0 rfl 7 (a := 0) (b := 900) rfl rfl
            have h_234 := Inv.g hI_N_230 hk_c0 rfl 8 (a := 0) (b := 900) rfl rfl
            exact J_219 0 N_230 hI_N_230 hF_N_230 hX_N_230 (by omega)
          refine kx_if_eq 81 F 92 dX1_take_78 (by decide) rfl (by omega) (fun h_235 => ?_) (fun h_235 => ?_)
          · refine kx_drop 2 (lo' := [some (vR G c0), none, none, some (vI x3_181)]) rfl ?_
            exact J_231 N_194 hI_N_194 hF_N_194 hX_N_194 (by omega)
          · refine kx_aload_n 82 F 0 dX1_take_81 rfl rfl rfl ?_
            refine kx_Vi 85 (ci := 0) F (As := []) (st := []) vd_X1_64 (c_X1_takePart G l N_194 c0 hI_N_194 hk_c0 (by omega) hX_N_194) hk_c0 rfl rfl rfl ⟨by decide, by decide⟩ rfl rfl (Nat.le_of_ble_eq_true rfl) dX1_take_82 rfl ?_
            intro r_236 N_237 q_238
            obtain ⟨hI_N_237, hG_N_237, q_238c, hX_N_237⟩ := q_238
            have hF_N_237 : Fr f_c_X1_take M N_237 := Fr.c hF_N_194 hG_N_237 rfl
            have h_239 := Inv.g hI_N_237 hk_c0 rfl 7 (a := 0) (b := 900) rfl rfl
            have h_240 := Inv.g hI_N_237 hk_c0 rfl 8 (a := 0) (b := 900) rfl rfl
            refine kx_if_eq 88 F 92 dX1_take_85 (by decide) rfl (by omega) (fun h_241 => ?_) (fun h_241 => ?_)
            · refine kx_drop 2 (lo' := [some (vR G c0), none, none, some (vI x3_181)]) rfl ?_
              exact J_231 N_237 hI_N_237 hF_N_237 hX_N_237 (by omega)
            · refine kx_iconst 89 F dX1_take_88 rfl ?_
              refine kx_goto 93 F dX1_take_89 (by decide) ?_
              refine kx_drop 2 (lo' := [some (vR G c0), none, none, some (vI x3_181)]) rfl ?_
              exact J_219 1 N_237 hI_N_237 hF_N_237 hX_N_237 (by omega)
        refine kx_if_eq 68 F 77 dX1_take_65 (by decide) rfl (by omega) (fun h_242 => ?_) (fun h_242 => ?_)
        · exact J_201 (by omega)
        · refine kx_aload_n 69 F 0 dX1_take_68 rfl rfl rfl ?_
          refine kx_geti 72 F fl_X1_61 hk_c0 rfl rfl (j := 6) rfl dX1_take_69 (v := (N_194 c0 6)) rfl rfl ?_
          have h_243 := Inv.g hI_N_194 hk_c0 rfl 6 (a := 0) (b := 5) rfl rfl
          refine kx_if_ne 75 F 77 dX1_take_72 (by decide) rfl (by omega) (fun h_244 => ?_) (fun h_244 => ?_)
          · exact J_201 (by omega)
          · refine kx_iconst 76 F dX1_take_75 rfl ?_
            exact kx_zret F hQ (by omega) ⟨hI_N_194, hF_N_194, (by omega), hX_N_194⟩ dX1_take_76
  refine kx_drop 1 (lo' := [some (vR G c0), none, some (vI 1), some (vI 0)]) rfl ?_
  have e_245 : (N_11 c0 7) = 0 := by rw [hM_N_11, mu_i (by omega), hM_N_10, mu_s]
  have e_246 : (N_11 c0 8) = 0 := by rw [hM_N_11, mu_s]
  exact L_183 _ 1 0 N_11 hI_N_11 hF_N_11 hX_N_11 (by omega) rfl
theorem dX11_feed_0 : decode cX11_feed 0 = .ok (.aload_n 0, 1) := by decide +kernel
theorem dX11_feed_1 : decode cX11_feed 1 = .ok (.getfield 19, 3) := by decide +kernel
theorem dX11_feed_4 : decode cX11_feed 4 = .ok (.getfield 126, 3) := by decide +kernel
theorem dX11_feed_7 : decode cX11_feed 7 = .ok (.bipush 20, 2) := by decide +kernel
theorem dX11_feed_9 : decode cX11_feed 9 = .ok (.iadd, 1) := by decide +kernel
theorem dX11_feed_10 : decode cX11_feed 10 = .ok (.sipush 900, 3) := by decide +kernel
theorem dX11_feed_13 : decode cX11_feed 13 = .ok (.if_icmp .le 5, 3) := by decide +kernel
theorem dX11_feed_16 : decode cX11_feed 16 = .ok (.iconst (-1), 1) := by decide +kernel
theorem dX11_feed_17 : decode cX11_feed 17 = .ok (.ireturn, 1) := by decide +kernel
theorem dX11_feed_18 : decode cX11_feed 18 = .ok (.aload_n 0, 1) := by decide +kernel
theorem dX11_feed_19 : decode cX11_feed 19 = .ok (.getfield 19, 3) := by decide +kernel
theorem dX11_feed_22 : decode cX11_feed 22 = .ok (.iload_n 1, 1) := by decide +kernel
theorem dX11_feed_23 : decode cX11_feed 23 = .ok (.invokevirtual 129, 3) := by decide +kernel
theorem dX11_feed_26 : decode cX11_feed 26 = .ok (.aload_n 0, 1) := by decide +kernel
theorem dX11_feed_27 : decode cX11_feed 27 = .ok (.getfield 19, 3) := by decide +kernel
theorem dX11_feed_30 : decode cX11_feed 30 = .ok (.iload_n 2, 1) := by decide +kernel
theorem dX11_feed_31 : decode cX11_feed 31 = .ok (.invokevirtual 129, 3) := by decide +kernel
theorem dX11_feed_34 : decode cX11_feed 34 = .ok (.aload_n 0, 1) := by decide +kernel
theorem dX11_feed_35 : decode cX11_feed 35 = .ok (.getfield 19, 3) := by decide +kernel
theorem dX11_feed_38 : decode cX11_feed 38 = .ok (.iload_n 3, 1) := by decide +kernel
theorem dX11_feed_39 : decode cX11_feed 39 = .ok (.invokevirtual 129, 3) := by decide +kernel
theorem dX11_feed_42 : decode cX11_feed 42 = .ok (.aload_n 0, 1) := by decide +kernel
theorem dX11_feed_43 : decode cX11_feed 43 = .ok (.getfield 19, 3) := by decide +kernel
theorem dX11_feed_46 : decode cX11_feed 46 = .ok (.iload 4, 2) := by decide +kernel
theorem dX11_feed_48 : decode cX11_feed 48 = .ok (.invokevirtual 129, 3) := by decide +kernel
theorem dX11_feed_51 : decode cX11_feed 51 = .ok (.aload_n 0, 1) := by decide +kernel
theorem dX11_feed_52 : decode cX11_feed 52 = .ok (.getfield 19, 3) := by decide +kernel
theorem dX11_feed_55 : decode cX11_feed 55 = .ok (.iload 5, 2) := by decide +kernel
theorem dX11_feed_57 : decode cX11_feed 57 = .ok (.invokevirtual 129, 3) := by decide +kernel
theorem dX11_feed_60 : decode cX11_feed 60 = .ok (.aload_n 0, 1) := by decide +kernel
theorem dX11_feed_61 : decode cX11_feed 61 = .ok (.getfield 19, 3) := by decide +kernel
theorem dX11_feed_64 : decode cX11_feed 64 = .ok (.getfield 126, 3) := by decide +kernel
theorem dX11_feed_67 : decode cX11_feed 67 = .ok (.ireturn, 1) := by decide +kernel
abbrev f_c_X11_feed : List (Nat × Int) := [(17, 1), (18, -1)]
set_option maxHeartbeats 4000000 in
set_option maxRecDepth 100000 in
theorem c_X11_feed (G : KG) (l : Launch) (M : Mem) (c0 : Int) (a1 : Int) (a2 : Int) (a3 : Int) (a4 : Int) (a5 : Int) (hI_M : Inv false M) (hk_c0 : kd c0 = 62) (hpre : -2147483648 ≤ a1 ∧ a1 ≤ 2147483647 ∧ -2147483648 ≤ a2 ∧ a2 ≤ 2147483647 ∧ -2147483648 ≤ a3 ∧ a3 ≤ 2147483647 ∧ -2147483648 ≤ a4 ∧ a4 ≤ 2147483647 ∧ -2147483648 ≤ a5 ∧ a5 ≤ 2147483647) : KC false G l yX11_feed cX11_feed 6 (some .int) (1, 22) [vR G c0, vI a1, vI a2, vI a3, vI a4, vI a5] M (fun A => kQi false G A (fun (r : Int) (N : Mem) => Inv false N ∧ Fr f_c_X11_feed M N ∧ (r ≥ -1 ∧ r ≤ 900))) := by
  refine kx_met (lo := [some (vR G c0), some (vI a1), some (vI a2), some (vI a3), some (vI a4), some (vI a5)]) (by decide) (Nat.le_of_ble_eq_true rfl) rfl ?_
  intro X F hQ
  have hF_M : Fr f_c_X11_feed M M := Fr.rf _ _
  refine kx_aload_n 1 F 0 dX11_feed_0 rfl rfl rfl ?_
  refine kx_getr 4 F fl_X11_19 hk_c0 rfl rfl (j := 4) rfl dX11_feed_1 (v := (M c0 4)) rfl rfl ?_
  have hk_1 : kd (M c0 4) = 17 := Inv.r hI_M hk_c0 rfl 4 rfl rfl
  refine kx_geti 7 F fl_X11_126 hk_1 rfl rfl (j := 1) rfl dX11_feed_4 (v := (M (M c0 4) 1)) rfl rfl ?_
  have h_2 := Inv.g hI_M hk_1 rfl 1 (a := 0) (b := 900) rfl rfl
  refine kx_bipush 9 F dX11_feed_7 (by decide) rfl ?_
  refine kx_iadd 10 F (v := (M (M c0 4) 1) + 20) dX11_feed_9 rfl rfl ?_
  refine kx_sipush 13 F dX11_feed_10 (by decide) rfl ?_
  refine kx_icmp_le 16 F 18 dX11_feed_13 (by decide) rfl (by omega) (by decide) (fun h_3 => ?_) (fun h_3 => ?_)
  · refine kx_aload_n 19 F 0 dX11_feed_18 rfl rfl rfl ?_
    refine kx_getr 22 F fl_X11_19 hk_c0 rfl rfl (j := 4) rfl dX11_feed_19 (v := (M c0 4)) rfl rfl ?_
    refine kx_iload_n 23 F 1 dX11_feed_22 rfl rfl rfl ?_
    refine kx_Vv 26 (ci := 0) F (As := [vI a1]) (st := []) vd_X11_129 (c_X1_append G l M (M c0 4) a1 hI_M hk_1 (by omega)) hk_1 rfl rfl rfl ⟨by decide, by decide⟩ rfl rfl (Nat.le_of_ble_eq_true rfl) dX11_feed_23 rfl ?_
    intro N_4 q_5
    obtain ⟨hI_N_4, hG_N_4⟩ := q_5
    have hF_N_4 : Fr f_c_X11_feed M N_4 := Fr.c hF_M hG_N_4 rfl
    refine kx_aload_n 27 F 0 dX11_feed_26 rfl rfl rfl ?_
    refine kx_getr 30 F fl_X11_19 hk_c0 rfl rfl (j := 4) rfl dX11_feed_27 (v := (M c0 4)) (by rw [Fr.e hG_N_4 hk_c0 _ rfl]) rfl ?_
    refine kx_iload_n 31 F 2 dX11_feed_30 rfl rfl rfl ?_
    refine kx_Vv 34 (ci := 0) F (As := [vI a2]) (st := []) vd_X11_129 (c_X1_append G l N_4 (M c0 4) a2 hI_N_4 hk_1 (by omega)) hk_1 rfl rfl rfl ⟨by decide, by decide⟩ rfl rfl (Nat.le_of_ble_eq_true rfl) dX11_feed_31 rfl ?_
    intro N_6 q_7
    obtain ⟨hI_N_6, hG_N_6⟩ := q_7
    have hF_N_6 : Fr f_c_X11_feed M N_6 := Fr.c hF_N_4 hG_N_6 rfl
    refine kx_aload_n 35 F 0 dX11_feed_34 rfl rfl rfl ?_
    refine kx_getr 38 F fl_X11_19 hk_c0 rfl rfl (j := 4) rfl dX11_feed_35 (v := (M c0 4)) (by rw [Fr.e hG_N_6 hk_c0 _ rfl, Fr.e hG_N_4 hk_c0 _ rfl]) rfl ?_
    refine kx_iload_n 39 F 3 dX11_feed_38 rfl rfl rfl ?_
    refine kx_Vv 42 (ci := 0) F (As := [vI a3]) (st := []) vd_X11_129 (c_X1_append G l N_6 (M c0 4) a3 hI_N_6 hk_1 (by omega)) hk_1 rfl rfl rfl ⟨by decide, by decide⟩ rfl rfl (Nat.le_of_ble_eq_true rfl) dX11_feed_39 rfl ?_
    intro N_8 q_9
    obtain ⟨hI_N_8, hG_N_8⟩ := q_9
    have hF_N_8 : Fr f_c_X11_feed M N_8 := Fr.c hF_N_6 hG_N_8 rfl
    refine kx_aload_n 43 F 0 dX11_feed_42 rfl rfl rfl ?_
    refine kx_getr 46 F fl_X11_19 hk_c0 rfl rfl (j := 4) rfl dX11_feed_43 (v := (M c0 4)) (by rw [Fr.e hG_N_8 hk_c0 _ rfl, Fr.e hG_N_6 hk_c0 _ rfl, Fr.e hG_N_4 hk_c0 _ rfl]) rfl ?_
    refine kx_iload 48 F 4 dX11_feed_46 rfl rfl ?_
    refine kx_Vv 51 (ci := 0) F (As := [vI a4]) (st := []) vd_X11_129 (c_X1_append G l N_8 (M c0 4) a4 hI_N_8 hk_1 (by omega)) hk_1 rfl rfl rfl ⟨by decide, by decide⟩ rfl rfl (Nat.le_of_ble_eq_true rfl) dX11_feed_48 rfl ?_
    intro N_10 q_11
    obtain ⟨hI_N_10, hG_N_10⟩ := q_11
    have hF_N_10 : Fr f_c_X11_feed M N_10 := Fr.c hF_N_8 hG_N_10 rfl
    refine kx_aload_n 52 F 0 dX11_feed_51 rfl rfl rfl ?_
    refine kx_getr 55 F fl_X11_19 hk_c0 rfl rfl (j := 4) rfl dX11_feed_52 (v := (M c0 4)) (by rw [Fr.e hG_N_10 hk_c0 _ rfl, Fr.e hG_N_8 hk_c0 _ rfl, Fr.e hG_N_6 hk_c0 _ rfl, Fr.e hG_N_4 hk_c0 _ rfl]) rfl ?_
    refine kx_iload 57 F 5 dX11_feed_55 rfl rfl ?_
    refine kx_Vv 60 (ci := 0) F (As := [vI a5]) (st := []) vd_X11_129 (c_X1_append G l N_10 (M c0 4) a5 hI_N_10 hk_1 (by omega)) hk_1 rfl rfl rfl ⟨by decide, by decide⟩ rfl rfl (Nat.le_of_ble_eq_true rfl) dX11_feed_57 rfl ?_
    intro N_12 q_13
    obtain ⟨hI_N_12, hG_N_12⟩ := q_13
    have hF_N_12 : Fr f_c_X11_feed M N_12 := Fr.c hF_N_10 hG_N_12 rfl
    refine kx_aload_n 61 F 0 dX11_feed_60 rfl rfl rfl ?_
    refine kx_getr 64 F fl_X11_19 hk_c0 rfl rfl (j := 4) rfl dX11_feed_61 (v := (M c0 4)) (by rw [Fr.e hG_N_12 hk_c0 _ rfl, Fr.e hG_N_10 hk_c0 _ rfl, Fr.e hG_N_8 hk_c0 _ rfl, Fr.e hG_N_6 hk_c0 _ rfl, Fr.e hG_N_4 hk_c0 _ rfl]) rfl ?_
    refine kx_geti 67 F fl_X11_126 hk_1 rfl rfl (j := 1) rfl dX11_feed_64 (v := (N_12 (M c0 4) 1)) rfl rfl ?_
    have h_14 := Inv.g hI_N_12 hk_1 rfl 1 (a := 0) (b := 900) rfl rfl
    exact kx_iret F hQ ⟨hI_N_12, hF_N_12, (by omega)⟩ dX11_feed_67
  · refine kx_iconst 17 F dX11_feed_16 rfl ?_
    exact kx_iret F hQ ⟨hI_M, hF_M, (by omega)⟩ dX11_feed_17
theorem dX11_checker_0 : decode cX11_checker 0 = .ok (.iload_n 1, 1) := by decide +kernel
theorem dX11_checker_1 : decode cX11_checker 1 = .ok (.ifCond .lt 14, 3) := by decide +kernel
theorem dX11_checker_4 : decode cX11_checker 4 = .ok (.iload_n 1, 1) := by decide +kernel
theorem dX11_checker_5 : decode cX11_checker 5 = .ok (.aload_n 0, 1) := by decide +kernel
theorem dX11_checker_6 : decode cX11_checker 6 = .ok (.getfield 19, 3) := by decide +kernel
theorem dX11_checker_9 : decode cX11_checker 9 = .ok (.getfield 126, 3) := by decide +kernel
theorem dX11_checker_12 : decode cX11_checker 12 = .ok (.if_icmp .le 9, 3) := by decide +kernel
theorem dX11_checker_15 : decode cX11_checker 15 = .ok (.aload_n 0, 1) := by decide +kernel
theorem dX11_checker_16 : decode cX11_checker 16 = .ok (.iconst 1, 1) := by decide +kernel
theorem dX11_checker_17 : decode cX11_checker 17 = .ok (.invokevirtual 110, 3) := by decide +kernel
theorem dX11_checker_20 : decode cX11_checker 20 = .ok (.ireturn, 1) := by decide +kernel
theorem dX11_checker_21 : decode cX11_checker 21 = .ok (.aload_n 0, 1) := by decide +kernel
theorem dX11_checker_22 : decode cX11_checker 22 = .ok (.getfield 19, 3) := by decide +kernel
theorem dX11_checker_25 : decode cX11_checker 25 = .ok (.iload_n 1, 1) := by decide +kernel
theorem dX11_checker_26 : decode cX11_checker 26 = .ok (.invokevirtual 133, 3) := by decide +kernel
theorem dX11_checker_29 : decode cX11_checker 29 = .ok (.ifCond .ne 10, 3) := by decide +kernel
theorem dX11_checker_32 : decode cX11_checker 32 = .ok (.aload_n 0, 1) := by decide +kernel
theorem dX11_checker_33 : decode cX11_checker 33 = .ok (.bipush 9, 2) := by decide +kernel
theorem dX11_checker_35 : decode cX11_checker 35 = .ok (.invokevirtual 110, 3) := by decide +kernel
theorem dX11_checker_38 : decode cX11_checker 38 = .ok (.ireturn, 1) := by decide +kernel
theorem dX11_checker_39 : decode cX11_checker 39 = .ok (.aload_n 0, 1) := by decide +kernel
theorem dX11_checker_40 : decode cX11_checker 40 = .ok (.getfield 26, 3) := by decide +kernel
theorem dX11_checker_43 : decode cX11_checker 43 = .ok (.astore_n 2, 1) := by decide +kernel
theorem dX11_checker_44 : decode cX11_checker 44 = .ok (.aload_n 0, 1) := by decide +kernel
theorem dX11_checker_45 : decode cX11_checker 45 = .ok (.aload_n 0, 1) := by decide +kernel
theorem dX11_checker_46 : decode cX11_checker 46 = .ok (.getfield 19, 3) := by decide +kernel
theorem dX11_checker_49 : decode cX11_checker 49 = .ok (.getfield 136, 3) := by decide +kernel
theorem dX11_checker_52 : decode cX11_checker 52 = .ok (.putfield 26, 3) := by decide +kernel
theorem dX11_checker_55 : decode cX11_checker 55 = .ok (.aload_n 0, 1) := by decide +kernel
theorem dX11_checker_56 : decode cX11_checker 56 = .ok (.getfield 19, 3) := by decide +kernel
theorem dX11_checker_59 : decode cX11_checker 59 = .ok (.aload_n 2, 1) := by decide +kernel
theorem dX11_checker_60 : decode cX11_checker 60 = .ok (.putfield 136, 3) := by decide +kernel
theorem dX11_checker_63 : decode cX11_checker 63 = .ok (.aload_n 0, 1) := by decide +kernel
theorem dX11_checker_64 : decode cX11_checker 64 = .ok (.invokevirtual 139, 3) := by decide +kernel
theorem dX11_checker_67 : decode cX11_checker 67 = .ok (.aload_n 0, 1) := by decide +kernel
theorem dX11_checker_68 : decode cX11_checker 68 = .ok (.aload_n 0, 1) := by decide +kernel
theorem dX11_checker_69 : decode cX11_checker 69 = .ok (.getfield 26, 3) := by decide +kernel
theorem dX11_checker_72 : decode cX11_checker 72 = .ok (.getfield 142, 3) := by decide +kernel
theorem dX11_checker_75 : decode cX11_checker 75 = .ok (.invokevirtual 145, 3) := by decide +kernel
theorem dX11_checker_78 : decode cX11_checker 78 = .ok (.ireturn, 1) := by decide +kernel
abbrev f_c_X11_checker : List (Nat × Int) := [(1, 0), (1, 1), (1, 2), (1, 3), (1, 4), (1, 5), (2, -1), (3, -1), (4, -1), (5, -1), (6, -1), (7, -1), (8, 0), (12, 0), (12, 1), (12, 2), (12, 3), (17, 0), (17, 1), (17, 2), (17, 3), (17, 5), (17, 6), (17, 7), (17, 8), (17, 9), (19, -1), (20, -1), (21, 0), (41, 2), (62, 0), (62, 5)]
set_option maxHeartbeats 4000000 in
set_option maxRecDepth 100000 in
theorem c_X11_checker (G : KG) (l : Launch) (M : Mem) (c0 : Int) (a1 : Int) (hI_M : Inv false M) (hk_c0 : kd c0 = 62) (hpre : -2147483648 ≤ a1 ∧ a1 ≤ 2147483647) (hX_M : XX M) : KC false G l yX11_checker cX11_checker 3 (some .int) (10, 218) [vR G c0, vI a1] M (fun A => kQi false G A (fun (r : Int) (N : Mem) => Inv false N ∧ Fr f_c_X11_checker M N ∧ (r ≥ -1 ∧ r ≤ 2) ∧ XX N)) := by
  refine kx_met (lo := [some (vR G c0), some (vI a1), none]) (by decide) (Nat.le_of_ble_eq_true rfl) rfl ?_
  intro X F hQ
  have hF_M : Fr f_c_X11_checker M M := Fr.rf _ _
  refine kx_iload_n 1 F 1 dX11_checker_0 rfl rfl rfl ?_
  refine kx_if_lt 4 F 15 dX11_checker_1 (by decide) rfl (by omega) (fun h_1 => ?_) (fun h_1 => ?_)
  · refine kx_aload_n 16 F 0 dX11_checker_15 rfl rfl rfl ?_
    refine kx_iconst 17 F dX11_checker_16 rfl ?_
    refine kx_Vi 20 (ci := 0) F (As := [vI 1]) (st := []) vd_X11_110 (c_X11_refuse G l M c0 1 hI_M hk_c0 (by omega)) hk_c0 rfl rfl rfl ⟨by decide, by decide⟩ rfl rfl (Nat.le_of_ble_eq_true rfl) dX11_checker_17 rfl ?_
    intro r_2 N_3 q_4
    obtain ⟨hI_N_3, hG_N_3, q_4c⟩ := q_4
    have hF_N_3 : Fr f_c_X11_checker M N_3 := Fr.c hF_M hG_N_3 rfl
    have hX_N_3 : XX N_3 := XX.fr hX_M hI_M hG_N_3 rfl
    subst q_4c
    exact kx_iret F hQ ⟨hI_N_3, hF_N_3, (by omega), hX_N_3⟩ dX11_checker_20
  · refine kx_iload_n 5 F 1 dX11_checker_4 rfl rfl rfl ?_
    refine kx_aload_n 6 F 0 dX11_checker_5 rfl rfl rfl ?_
    refine kx_getr 9 F fl_X11_19 hk_c0 rfl rfl (j := 4) rfl dX11_checker_6 (v := (M c0 4)) rfl rfl ?_
    have hk_5 : kd (M c0 4) = 17 := Inv.r hI_M hk_c0 rfl 4 rfl rfl
    refine kx_geti 12 F fl_X11_126 hk_5 rfl rfl (j := 1) rfl dX11_checker_9 (v := (M (M c0 4) 1)) rfl rfl ?_
    have h_6 := Inv.g hI_M hk_5 rfl 1 (a := 0) (b := 900) rfl rfl
    refine kx_icmp_le 15 F 21 dX11_checker_12 (by decide) rfl (by omega) (by omega) (fun h_7 => ?_) (fun h_7 => ?_)
    · refine kx_aload_n 22 F 0 dX11_checker_21 rfl rfl rfl ?_
      refine kx_getr 25 F fl_X11_19 hk_c0 rfl rfl (j := 4) rfl dX11_checker_22 (v := (M c0 4)) rfl rfl ?_
      refine kx_iload_n 26 F 1 dX11_checker_25 rfl rfl rfl ?_
      refine kx_Vi 29 (ci := 0) F (As := [vI a1]) (st := []) vd_X11_133 (c_X1_take G l M (M c0 4) a1 hI_M hk_5 (by omega) hX_M) hk_5 rfl rfl rfl ⟨by decide, by decide⟩ rfl rfl (Nat.le_of_ble_eq_true rfl) dX11_checker_26 rfl ?_
      intro r_8 N_9 q_10
      obtain ⟨hI_N_9, hG_N_9, q_10c, hX_N_9⟩ := q_10
      have hF_N_9 : Fr f_c_X11_checker M N_9 := Fr.c hF_M hG_N_9 rfl
      refine kx_if_ne 32 F 39 dX11_checker_29 (by decide) rfl (by omega) (fun h_11 => ?_) (fun h_11 => ?_)
      · refine kx_aload_n 40 F 0 dX11_checker_39 rfl rfl rfl ?_
        refine kx_getr 43 F fl_X11_26 hk_c0 rfl rfl (j := 5) rfl dX11_checker_40 (v := (M c0 5)) (by rw [Fr.e hG_N_9 hk_c0 _ rfl]) rfl ?_
        have hk_12 : kd (M c0 5) = 12 := Inv.r hI_M hk_c0 rfl 5 rfl rfl
        refine kx_astore_n 44 F 2 (lo' := [some (vR G c0), some (vI a1), some (vR G (M c0 5))]) dX11_checker_43 rfl (by decide) rfl rfl rfl ?_
        refine kx_aload_n 45 F 0 dX11_checker_44 rfl rfl rfl ?_
        refine kx_aload_n 46 F 0 dX11_checker_45 rfl rfl rfl ?_
        refine kx_getr 49 F fl_X11_19 hk_c0 rfl rfl (j := 4) rfl dX11_checker_46 (v := (M c0 4)) (by rw [Fr.e hG_N_9 hk_c0 _ rfl]) rfl ?_
        refine kx_getr 52 F fl_X11_136 hk_5 rfl rfl (j := 0) rfl dX11_checker_49 (v := (M (M c0 4) 0)) (by rw [Fr.e hG_N_9 hk_5 _ rfl]) rfl ?_
        have hk_13 : kd (M (M c0 4) 0) = 12 := Inv.r hI_M hk_5 rfl 0 rfl rfl
        refine kx_putr 55 F fw_X11_26 (Or.inl ⟨_, rfl⟩) hk_c0 rfl rfl (j := 5) rfl dX11_checker_52 rfl ?_
        intro N_14 hM_N_14
        have hI_N_14 : Inv false N_14 := Inv.ur hI_N_9 hM_N_14 hk_c0 rfl rfl rfl hk_13 rfl rfl rfl
        have hF_N_14 : Fr f_c_X11_checker M N_14 := Fr.u hF_N_9 hM_N_14 hk_c0 rfl
        have hX_N_14 : XX N_14 := XX.st hX_N_9 hI_N_9 hM_N_14 hk_c0 rfl
        refine kx_aload_n 56 F 0 dX11_checker_55 rfl rfl rfl ?_
        refine kx_getr 59 F fl_X11_19 hk_c0 rfl rfl (j := 4) rfl dX11_checker_56 (v := (M c0 4)) (by rw [hM_N_14, mu_i (by omega), Fr.e hG_N_9 hk_c0 _ rfl]) rfl ?_
        refine kx_aload_n 60 F 2 dX11_checker_59 rfl rfl rfl ?_
        refine kx_putr 63 F fw_X11_136 (Or.inl ⟨_, rfl⟩) hk_5 rfl rfl (j := 0) rfl dX11_checker_60 rfl ?_
        intro N_15 hM_N_15
        have hI_N_15 : Inv false N_15 := Inv.ur hI_N_14 hM_N_15 hk_5 rfl rfl rfl hk_12 rfl rfl rfl
        have hF_N_15 : Fr f_c_X11_checker M N_15 := Fr.u hF_N_14 hM_N_15 hk_5 rfl
        have hX_N_15 : XX N_15 := XX.st hX_N_14 hI_N_14 hM_N_15 hk_5 rfl
        refine kx_aload_n 64 F 0 dX11_checker_63 rfl rfl rfl ?_
        refine kx_Vv 67 (ci := 0) F (As := []) (st := []) vd_X11_139 (c_X11_forget G l N_15 c0 hI_N_15 hk_c0) hk_c0 rfl rfl rfl ⟨by decide, by decide⟩ rfl rfl (Nat.le_of_ble_eq_true rfl) dX11_checker_64 rfl ?_
        intro N_16 q_17
        obtain ⟨hI_N_16, hG_N_16⟩ := q_17
        have hF_N_16 : Fr f_c_X11_checker M N_16 := Fr.c hF_N_15 hG_N_16 rfl
        have hX_N_16 : XX N_16 := XX.fr hX_N_15 hI_N_15 hG_N_16 rfl
        refine kx_aload_n 68 F 0 dX11_checker_67 rfl rfl rfl ?_
        refine kx_aload_n 69 F 0 dX11_checker_68 rfl rfl rfl ?_
        refine kx_getr 72 F fl_X11_26 hk_c0 rfl rfl (j := 5) rfl dX11_checker_69 (v := (M (M c0 4) 0)) (by rw [Fr.e hG_N_16 hk_c0 _ rfl, hM_N_15, mu_k hk_c0 hk_5 rfl, hM_N_14, mu_s]) rfl ?_
        refine kx_geti 75 F fl_X11_142 hk_13 rfl rfl (j := 3) rfl dX11_checker_72 (v := (N_9 (M (M c0 4) 0) 3)) (by rw [Fr.e hG_N_16 hk_13 _ rfl, hM_N_15, mu_k hk_13 hk_5 rfl, hM_N_14, mu_k hk_13 hk_c0 rfl]) rfl ?_
        have h_18 := Inv.g hI_N_9 hk_13 rfl 3 (a := 0) (b := 2) rfl rfl
        refine kx_Vi 78 (ci := 0) F (As := [vI (N_9 (M (M c0 4) 0) 3)]) (st := []) vd_X11_145 (c_X11_answer G l N_16 c0 (N_9 (M (M c0 4) 0) 3) hI_N_16 hk_c0 (by omega)) hk_c0 rfl rfl rfl ⟨by decide, by decide⟩ rfl rfl (Nat.le_of_ble_eq_true rfl) dX11_checker_75 rfl ?_
        intro r_19 N_20 q_21
        obtain ⟨hI_N_20, hG_N_20, q_21c⟩ := q_21
        have hF_N_20 : Fr f_c_X11_checker M N_20 := Fr.c hF_N_16 hG_N_20 rfl
        have hX_N_20 : XX N_20 := XX.fr hX_N_16 hI_N_16 hG_N_20 rfl
        exact kx_iret F hQ ⟨hI_N_20, hF_N_20, (by omega), hX_N_20⟩ dX11_checker_78
      · refine kx_aload_n 33 F 0 dX11_checker_32 rfl rfl rfl ?_
        refine kx_bipush 35 F dX11_checker_33 (by decide) rfl ?_
        refine kx_Vi 38 (ci := 0) F (As := [vI 9]) (st := []) vd_X11_110 (c_X11_refuse G l N_9 c0 9 hI_N_9 hk_c0 (by omega)) hk_c0 rfl rfl rfl ⟨by decide, by decide⟩ rfl rfl (Nat.le_of_ble_eq_true rfl) dX11_checker_35 rfl ?_
        intro r_22 N_23 q_24
        obtain ⟨hI_N_23, hG_N_23, q_24c⟩ := q_24
        have hF_N_23 : Fr f_c_X11_checker M N_23 := Fr.c hF_N_9 hG_N_23 rfl
        have hX_N_23 : XX N_23 := XX.fr hX_N_9 hI_N_9 hG_N_23 rfl
        subst q_24c
        exact kx_iret F hQ ⟨hI_N_23, hF_N_23, (by omega), hX_N_23⟩ dX11_checker_38
    · refine kx_aload_n 16 F 0 dX11_checker_15 rfl rfl rfl ?_
      refine kx_iconst 17 F dX11_checker_16 rfl ?_
      refine kx_Vi 20 (ci := 0) F (As := [vI 1]) (st := []) vd_X11_110 (c_X11_refuse G l M c0 1 hI_M hk_c0 (by omega)) hk_c0 rfl rfl rfl ⟨by decide, by decide⟩ rfl rfl (Nat.le_of_ble_eq_true rfl) dX11_checker_17 rfl ?_
      intro r_25 N_26 q_27
      obtain ⟨hI_N_26, hG_N_26, q_27c⟩ := q_27
      have hF_N_26 : Fr f_c_X11_checker M N_26 := Fr.c hF_M hG_N_26 rfl
      have hX_N_26 : XX N_26 := XX.fr hX_M hI_M hG_N_26 rfl
      subst q_27c
      exact kx_iret F hQ ⟨hI_N_26, hF_N_26, (by omega), hX_N_26⟩ dX11_checker_20
