theorem dX12_depth_0 : decode cX12_depth 0 = .ok (.aload_n 0, 1) := by decide +kernel
theorem dX12_depth_1 : decode cX12_depth 1 = .ok (.iload_n 1, 1) := by decide +kernel
theorem dX12_depth_2 : decode cX12_depth 2 = .ok (.iload_n 2, 1) := by decide +kernel
theorem dX12_depth_3 : decode cX12_depth 3 = .ok (.invokevirtual 358, 3) := by decide +kernel
theorem dX12_depth_6 : decode cX12_depth 6 = .ok (.ifCond .eq 12, 3) := by decide +kernel
theorem dX12_depth_9 : decode cX12_depth 9 = .ok (.iload_n 3, 1) := by decide +kernel
theorem dX12_depth_10 : decode cX12_depth 10 = .ok (.ifCond .lt 8, 3) := by decide +kernel
theorem dX12_depth_13 : decode cX12_depth 13 = .ok (.iload_n 3, 1) := by decide +kernel
theorem dX12_depth_14 : decode cX12_depth 14 = .ok (.iconst 2, 1) := by decide +kernel
theorem dX12_depth_15 : decode cX12_depth 15 = .ok (.if_icmp .le 9, 3) := by decide +kernel
theorem dX12_depth_18 : decode cX12_depth 18 = .ok (.aload_n 0, 1) := by decide +kernel
theorem dX12_depth_19 : decode cX12_depth 19 = .ok (.iconst 1, 1) := by decide +kernel
theorem dX12_depth_20 : decode cX12_depth 20 = .ok (.invokevirtual 123, 3) := by decide +kernel
theorem dX12_depth_23 : decode cX12_depth 23 = .ok (.ireturn, 1) := by decide +kernel
theorem dX12_depth_24 : decode cX12_depth 24 = .ok (.aload_n 0, 1) := by decide +kernel
theorem dX12_depth_25 : decode cX12_depth 25 = .ok (.iload_n 1, 1) := by decide +kernel
theorem dX12_depth_26 : decode cX12_depth 26 = .ok (.iload_n 2, 1) := by decide +kernel
theorem dX12_depth_27 : decode cX12_depth 27 = .ok (.invokevirtual 361, 3) := by decide +kernel
theorem dX12_depth_30 : decode cX12_depth 30 = .ok (.istore 4, 2) := by decide +kernel
theorem dX12_depth_32 : decode cX12_depth 32 = .ok (.iload 4, 2) := by decide +kernel
theorem dX12_depth_34 : decode cX12_depth 34 = .ok (.ifCond .le 10, 3) := by decide +kernel
theorem dX12_depth_37 : decode cX12_depth 37 = .ok (.aload_n 0, 1) := by decide +kernel
theorem dX12_depth_38 : decode cX12_depth 38 = .ok (.iload 4, 2) := by decide +kernel
theorem dX12_depth_40 : decode cX12_depth 40 = .ok (.invokevirtual 123, 3) := by decide +kernel
theorem dX12_depth_43 : decode cX12_depth 43 = .ok (.ireturn, 1) := by decide +kernel
theorem dX12_depth_44 : decode cX12_depth 44 = .ok (.aload_n 0, 1) := by decide +kernel
theorem dX12_depth_45 : decode cX12_depth 45 = .ok (.iload_n 1, 1) := by decide +kernel
theorem dX12_depth_46 : decode cX12_depth 46 = .ok (.iload_n 2, 1) := by decide +kernel
theorem dX12_depth_47 : decode cX12_depth 47 = .ok (.invokevirtual 400, 3) := by decide +kernel
theorem dX12_depth_50 : decode cX12_depth 50 = .ok (.aload_n 0, 1) := by decide +kernel
theorem dX12_depth_51 : decode cX12_depth 51 = .ok (.iload_n 3, 1) := by decide +kernel
theorem dX12_depth_52 : decode cX12_depth 52 = .ok (.ifCond .ne 10, 3) := by decide +kernel
theorem dX12_depth_55 : decode cX12_depth 55 = .ok (.aload_n 0, 1) := by decide +kernel
theorem dX12_depth_56 : decode cX12_depth 56 = .ok (.getfield 388, 3) := by decide +kernel
theorem dX12_depth_59 : decode cX12_depth 59 = .ok (.goto 19, 3) := by decide +kernel
theorem dX12_depth_62 : decode cX12_depth 62 = .ok (.iload_n 3, 1) := by decide +kernel
theorem dX12_depth_63 : decode cX12_depth 63 = .ok (.iconst 1, 1) := by decide +kernel
theorem dX12_depth_64 : decode cX12_depth 64 = .ok (.if_icmp .ne 10, 3) := by decide +kernel
theorem dX12_depth_67 : decode cX12_depth 67 = .ok (.aload_n 0, 1) := by decide +kernel
theorem dX12_depth_68 : decode cX12_depth 68 = .ok (.getfield 391, 3) := by decide +kernel
theorem dX12_depth_71 : decode cX12_depth 71 = .ok (.goto 7, 3) := by decide +kernel
theorem dX12_depth_74 : decode cX12_depth 74 = .ok (.aload_n 0, 1) := by decide +kernel
theorem dX12_depth_75 : decode cX12_depth 75 = .ok (.getfield 394, 3) := by decide +kernel
theorem dX12_depth_78 : decode cX12_depth 78 = .ok (.invokevirtual 127, 3) := by decide +kernel
theorem dX12_depth_81 : decode cX12_depth 81 = .ok (.ireturn, 1) := by decide +kernel
abbrev f_c_X12_depth : List (Nat × Int) := [(64, 2), (64, 30), (64, 31), (64, 32), (76, -1), (80, -1)]
set_option maxHeartbeats 4000000 in
set_option maxRecDepth 100000 in
theorem c_X12_depth (G : KG) (l : Launch) (M : Mem) (a1 : Int) (a2 : Int) (a3 : Int) (hI_M : Inv true M) (hpre : -2147483648 ≤ a1 ∧ a1 ≤ 2147483647 ∧ -2147483648 ≤ a2 ∧ a2 ≤ 2147483647 ∧ -2147483648 ≤ a3 ∧ a3 ≤ 2147483647) : KC true G l yX12_depth cX12_depth 5 (some .int) (3, 67) [vR G 163, vI a1, vI a2, vI a3] M (fun A => kQi true G A (fun (r : Int) (N : Mem) => Inv true N ∧ Fr f_c_X12_depth M N ∧ (r ≥ -1 ∧ r ≤ 20))) := by
  refine kx_met (lo := [some (vR G 163), some (vI a1), some (vI a2), some (vI a3), none]) (by decide) (Nat.le_of_ble_eq_true rfl) rfl ?_
  intro X F hQ
  have hF_M : Fr f_c_X12_depth M M := Fr.rf _ _
  refine kx_aload_n 1 F 0 dX12_depth_0 rfl rfl rfl ?_
  refine kx_iload_n 2 F 1 dX12_depth_1 rfl rfl rfl ?_
  refine kx_iload_n 3 F 2 dX12_depth_2 rfl rfl rfl ?_
  refine kx_Vi 6 (ci := 0) F (As := [vI a1, vI a2]) (st := []) vd_X12_358 (c_X12_isWordCall G l M a1 a2 hI_M (by omega)) kd_163 rfl rfl rfl ⟨by decide, by decide⟩ rfl rfl (Nat.le_of_ble_eq_true rfl) dX12_depth_3 rfl ?_
  intro r_1 N_2 q_3
  obtain ⟨rfl, q_3c⟩ := q_3
  rcases q_3c with q_3c | q_3c
  · refine kx_if_eq 9 F 18 dX12_depth_6 (by decide) rfl (by omega) (fun h_4 => (by exfalso; omega)) (fun h_4 => ?_)
    refine kx_iload_n 10 F 3 dX12_depth_9 rfl rfl rfl ?_
    refine kx_if_lt 13 F 18 dX12_depth_10 (by decide) rfl (by omega) (fun h_5 => ?_) (fun h_5 => ?_)
    · refine kx_aload_n 19 F 0 dX12_depth_18 rfl rfl rfl ?_
      refine kx_iconst 20 F dX12_depth_19 rfl ?_
      refine kx_Vi 23 (ci := 0) F (As := [vI 1]) (st := []) vd_X12_123 (c_X12_refuse G l M 1 hI_M (by omega)) kd_163 rfl rfl rfl ⟨by decide, by decide⟩ rfl rfl (Nat.le_of_ble_eq_true rfl) dX12_depth_20 rfl ?_
      intro r_6 N_7 q_8
      obtain ⟨hI_N_7, hG_N_7, q_8c⟩ := q_8
      have hF_N_7 : Fr f_c_X12_depth M N_7 := Fr.c hF_M hG_N_7 rfl
      subst q_8c
      exact kx_iret F hQ ⟨hI_N_7, hF_N_7, (by omega)⟩ dX12_depth_23
    · refine kx_iload_n 14 F 3 dX12_depth_13 rfl rfl rfl ?_
      refine kx_iconst 15 F dX12_depth_14 rfl ?_
      refine kx_icmp_le 18 F 24 dX12_depth_15 (by decide) rfl (by omega) (by decide) (fun h_9 => ?_) (fun h_9 => ?_)
      · refine kx_aload_n 25 F 0 dX12_depth_24 rfl rfl rfl ?_
        refine kx_iload_n 26 F 1 dX12_depth_25 rfl rfl rfl ?_
        refine kx_iload_n 27 F 2 dX12_depth_26 rfl rfl rfl ?_
        refine kx_Vi 30 (ci := 0) F (As := [vI a1, vI a2]) (st := []) vd_X12_361 (c_X12_wrongWord G l M a1 a2 hI_M (by omega)) kd_163 rfl rfl rfl ⟨by decide, by decide⟩ rfl rfl (Nat.le_of_ble_eq_true rfl) dX12_depth_27 rfl ?_
        intro r_10 N_11 q_12
        obtain ⟨rfl, q_12c, hw_N_11⟩ := q_12
        rcases q_12c with q_12c | q_12c
        · refine kx_istore 32 F 4 (lo' := [some (vR G 163), some (vI a1), some (vI a2), some (vI a3), some (vI r_10)]) dX12_depth_30 (by decide) rfl rfl rfl ?_
          refine kx_iload 34 F 4 dX12_depth_32 rfl rfl ?_
          refine kx_if_le 37 F 44 dX12_depth_34 (by decide) rfl (by omega) (fun h_13 => ?_) (fun h_13 => (by exfalso; omega))
          refine kx_aload_n 45 F 0 dX12_depth_44 rfl rfl rfl ?_
          refine kx_iload_n 46 F 1 dX12_depth_45 rfl rfl rfl ?_
          refine kx_iload_n 47 F 2 dX12_depth_46 rfl rfl rfl ?_
          refine kx_Vv 50 (ci := 0) F (As := [vI a1, vI a2]) (st := []) vd_X12_400 (c_X12_laysPartners G l M a1 a2 hI_M (by omega) (hw_N_11 (by omega))) kd_163 rfl rfl rfl ⟨by decide, by decide⟩ rfl rfl (Nat.le_of_ble_eq_true rfl) dX12_depth_47 rfl ?_
          intro N_14 q_15
          obtain ⟨hI_N_14, hG_N_14⟩ := q_15
          have hF_N_14 : Fr f_c_X12_depth M N_14 := Fr.c hF_M hG_N_14 rfl
          refine kx_aload_n 51 F 0 dX12_depth_50 rfl rfl rfl ?_
          refine kx_iload_n 52 F 3 dX12_depth_51 rfl rfl rfl ?_
          refine kx_if_ne 55 F 62 dX12_depth_52 (by decide) rfl (by omega) (fun h_16 => ?_) (fun h_16 => ?_)
          · refine kx_iload_n 63 F 3 dX12_depth_62 rfl rfl rfl ?_
            refine kx_iconst 64 F dX12_depth_63 rfl ?_
            refine kx_icmp_ne 67 F 74 dX12_depth_64 (by decide) rfl (by omega) (by decide) (fun h_17 => ?_) (fun h_17 => ?_)
            · refine kx_aload_n 75 F 0 dX12_depth_74 rfl rfl rfl ?_
              refine kx_geti 78 F fl_X12_394 kd_163 rfl rfl (j := 32) rfl dX12_depth_75 (v := (N_14 163 32)) rfl rfl ?_
              have h_18 := Inv.g hI_N_14 kd_163 rfl 32 (a := 0) (b := 20) rfl rfl
              refine kx_Vi 81 (ci := 0) F (As := [vI (N_14 163 32)]) (st := []) vd_X12_127 (c_X12_gives G l N_14 (N_14 163 32) hI_N_14 (by omega)) kd_163 rfl rfl rfl ⟨by decide, by decide⟩ rfl rfl (Nat.le_of_ble_eq_true rfl) dX12_depth_78 rfl ?_
              intro r_19 N_20 q_21
              obtain ⟨hI_N_20, hG_N_20, q_21c⟩ := q_21
              have hF_N_20 : Fr f_c_X12_depth M N_20 := Fr.c hF_N_14 hG_N_20 rfl
              refine kx_topi (e' := (N_14 163 32)) (by omega) ?_
              exact kx_iret F hQ ⟨hI_N_20, hF_N_20, (by omega)⟩ dX12_depth_81
            · refine kx_aload_n 68 F 0 dX12_depth_67 rfl rfl rfl ?_
              refine kx_geti 71 F fl_X12_391 kd_163 rfl rfl (j := 31) rfl dX12_depth_68 (v := (N_14 163 31)) rfl rfl ?_
              have h_22 := Inv.g hI_N_14 kd_163 rfl 31 (a := 0) (b := 20) rfl rfl
              refine kx_goto 78 F dX12_depth_71 (by decide) ?_
              refine kx_Vi 81 (ci := 0) F (As := [vI (N_14 163 31)]) (st := []) vd_X12_127 (c_X12_gives G l N_14 (N_14 163 31) hI_N_14 (by omega)) kd_163 rfl rfl rfl ⟨by decide, by decide⟩ rfl rfl (Nat.le_of_ble_eq_true rfl) dX12_depth_78 rfl ?_
              intro r_23 N_24 q_25
              obtain ⟨hI_N_24, hG_N_24, q_25c⟩ := q_25
              have hF_N_24 : Fr f_c_X12_depth M N_24 := Fr.c hF_N_14 hG_N_24 rfl
              refine kx_topi (e' := (N_14 163 31)) (by omega) ?_
              exact kx_iret F hQ ⟨hI_N_24, hF_N_24, (by omega)⟩ dX12_depth_81
          · refine kx_aload_n 56 F 0 dX12_depth_55 rfl rfl rfl ?_
            refine kx_geti 59 F fl_X12_388 kd_163 rfl rfl (j := 30) rfl dX12_depth_56 (v := (N_14 163 30)) rfl rfl ?_
            have h_26 := Inv.g hI_N_14 kd_163 rfl 30 (a := 0) (b := 20) rfl rfl
            refine kx_goto 78 F dX12_depth_59 (by decide) ?_
            refine kx_Vi 81 (ci := 0) F (As := [vI (N_14 163 30)]) (st := []) vd_X12_127 (c_X12_gives G l N_14 (N_14 163 30) hI_N_14 (by omega)) kd_163 rfl rfl rfl ⟨by decide, by decide⟩ rfl rfl (Nat.le_of_ble_eq_true rfl) dX12_depth_78 rfl ?_
            intro r_27 N_28 q_29
            obtain ⟨hI_N_28, hG_N_28, q_29c⟩ := q_29
            have hF_N_28 : Fr f_c_X12_depth M N_28 := Fr.c hF_N_14 hG_N_28 rfl
            refine kx_topi (e' := (N_14 163 30)) (by omega) ?_
            exact kx_iret F hQ ⟨hI_N_28, hF_N_28, (by omega)⟩ dX12_depth_81
        · refine kx_istore 32 F 4 (lo' := [some (vR G 163), some (vI a1), some (vI a2), some (vI a3), some (vI r_10)]) dX12_depth_30 (by decide) rfl rfl rfl ?_
          refine kx_iload 34 F 4 dX12_depth_32 rfl rfl ?_
          refine kx_if_le 37 F 44 dX12_depth_34 (by decide) rfl (by omega) (fun h_30 => (by exfalso; omega)) (fun h_30 => ?_)
          refine kx_aload_n 38 F 0 dX12_depth_37 rfl rfl rfl ?_
          refine kx_iload 40 F 4 dX12_depth_38 rfl rfl ?_
          refine kx_Vi 43 (ci := 0) F (As := [vI r_10]) (st := []) vd_X12_123 (c_X12_refuse G l M r_10 hI_M (by omega)) kd_163 rfl rfl rfl ⟨by decide, by decide⟩ rfl rfl (Nat.le_of_ble_eq_true rfl) dX12_depth_40 rfl ?_
          intro r_31 N_32 q_33
          obtain ⟨hI_N_32, hG_N_32, q_33c⟩ := q_33
          have hF_N_32 : Fr f_c_X12_depth M N_32 := Fr.c hF_M hG_N_32 rfl
          subst q_33c
          exact kx_iret F hQ ⟨hI_N_32, hF_N_32, (by omega)⟩ dX12_depth_43
      · refine kx_aload_n 19 F 0 dX12_depth_18 rfl rfl rfl ?_
        refine kx_iconst 20 F dX12_depth_19 rfl ?_
        refine kx_Vi 23 (ci := 0) F (As := [vI 1]) (st := []) vd_X12_123 (c_X12_refuse G l M 1 hI_M (by omega)) kd_163 rfl rfl rfl ⟨by decide, by decide⟩ rfl rfl (Nat.le_of_ble_eq_true rfl) dX12_depth_20 rfl ?_
        intro r_34 N_35 q_36
        obtain ⟨hI_N_35, hG_N_35, q_36c⟩ := q_36
        have hF_N_35 : Fr f_c_X12_depth M N_35 := Fr.c hF_M hG_N_35 rfl
        subst q_36c
        exact kx_iret F hQ ⟨hI_N_35, hF_N_35, (by omega)⟩ dX12_depth_23
  · refine kx_if_eq 9 F 18 dX12_depth_6 (by decide) rfl (by omega) (fun h_37 => ?_) (fun h_37 => (by exfalso; omega))
    refine kx_aload_n 19 F 0 dX12_depth_18 rfl rfl rfl ?_
    refine kx_iconst 20 F dX12_depth_19 rfl ?_
    refine kx_Vi 23 (ci := 0) F (As := [vI 1]) (st := []) vd_X12_123 (c_X12_refuse G l M 1 hI_M (by omega)) kd_163 rfl rfl rfl ⟨by decide, by decide⟩ rfl rfl (Nat.le_of_ble_eq_true rfl) dX12_depth_20 rfl ?_
    intro r_38 N_39 q_40
    obtain ⟨hI_N_39, hG_N_39, q_40c⟩ := q_40
    have hF_N_39 : Fr f_c_X12_depth M N_39 := Fr.c hF_M hG_N_39 rfl
    subst q_40c
    exact kx_iret F hQ ⟨hI_N_39, hF_N_39, (by omega)⟩ dX12_depth_23
theorem dX12_partner_0 : decode cX12_partner 0 = .ok (.aload_n 0, 1) := by decide +kernel
theorem dX12_partner_1 : decode cX12_partner 1 = .ok (.iload_n 1, 1) := by decide +kernel
theorem dX12_partner_2 : decode cX12_partner 2 = .ok (.iload_n 2, 1) := by decide +kernel
theorem dX12_partner_3 : decode cX12_partner 3 = .ok (.invokevirtual 358, 3) := by decide +kernel
theorem dX12_partner_6 : decode cX12_partner 6 = .ok (.ifCond .eq 12, 3) := by decide +kernel
theorem dX12_partner_9 : decode cX12_partner 9 = .ok (.iload_n 3, 1) := by decide +kernel
theorem dX12_partner_10 : decode cX12_partner 10 = .ok (.ifCond .lt 8, 3) := by decide +kernel
theorem dX12_partner_13 : decode cX12_partner 13 = .ok (.iload_n 3, 1) := by decide +kernel
theorem dX12_partner_14 : decode cX12_partner 14 = .ok (.iload_n 2, 1) := by decide +kernel
theorem dX12_partner_15 : decode cX12_partner 15 = .ok (.if_icmp .lt 9, 3) := by decide +kernel
theorem dX12_partner_18 : decode cX12_partner 18 = .ok (.aload_n 0, 1) := by decide +kernel
theorem dX12_partner_19 : decode cX12_partner 19 = .ok (.iconst 1, 1) := by decide +kernel
theorem dX12_partner_20 : decode cX12_partner 20 = .ok (.invokevirtual 123, 3) := by decide +kernel
theorem dX12_partner_23 : decode cX12_partner 23 = .ok (.ireturn, 1) := by decide +kernel
theorem dX12_partner_24 : decode cX12_partner 24 = .ok (.aload_n 0, 1) := by decide +kernel
theorem dX12_partner_25 : decode cX12_partner 25 = .ok (.iload_n 1, 1) := by decide +kernel
theorem dX12_partner_26 : decode cX12_partner 26 = .ok (.iload_n 2, 1) := by decide +kernel
theorem dX12_partner_27 : decode cX12_partner 27 = .ok (.invokevirtual 361, 3) := by decide +kernel
theorem dX12_partner_30 : decode cX12_partner 30 = .ok (.istore 4, 2) := by decide +kernel
theorem dX12_partner_32 : decode cX12_partner 32 = .ok (.iload 4, 2) := by decide +kernel
theorem dX12_partner_34 : decode cX12_partner 34 = .ok (.ifCond .le 10, 3) := by decide +kernel
theorem dX12_partner_37 : decode cX12_partner 37 = .ok (.aload_n 0, 1) := by decide +kernel
theorem dX12_partner_38 : decode cX12_partner 38 = .ok (.iload 4, 2) := by decide +kernel
theorem dX12_partner_40 : decode cX12_partner 40 = .ok (.invokevirtual 123, 3) := by decide +kernel
theorem dX12_partner_43 : decode cX12_partner 43 = .ok (.ireturn, 1) := by decide +kernel
theorem dX12_partner_44 : decode cX12_partner 44 = .ok (.aload_n 0, 1) := by decide +kernel
theorem dX12_partner_45 : decode cX12_partner 45 = .ok (.iload_n 1, 1) := by decide +kernel
theorem dX12_partner_46 : decode cX12_partner 46 = .ok (.iload_n 2, 1) := by decide +kernel
theorem dX12_partner_47 : decode cX12_partner 47 = .ok (.invokevirtual 400, 3) := by decide +kernel
theorem dX12_partner_50 : decode cX12_partner 50 = .ok (.aload_n 0, 1) := by decide +kernel
theorem dX12_partner_51 : decode cX12_partner 51 = .ok (.aload_n 0, 1) := by decide +kernel
theorem dX12_partner_52 : decode cX12_partner 52 = .ok (.getfield 71, 3) := by decide +kernel
theorem dX12_partner_55 : decode cX12_partner 55 = .ok (.iload_n 3, 1) := by decide +kernel
theorem dX12_partner_56 : decode cX12_partner 56 = .ok (.iaload, 1) := by decide +kernel
theorem dX12_partner_57 : decode cX12_partner 57 = .ok (.invokevirtual 294, 3) := by decide +kernel
theorem dX12_partner_60 : decode cX12_partner 60 = .ok (.ireturn, 1) := by decide +kernel
abbrev f_c_X12_partner : List (Nat × Int) := [(64, 2), (64, 30), (64, 31), (64, 32), (76, -1), (80, -1)]
set_option maxHeartbeats 4000000 in
set_option maxRecDepth 100000 in
theorem c_X12_partner (G : KG) (l : Launch) (M : Mem) (a1 : Int) (a2 : Int) (a3 : Int) (hI_M : Inv true M) (hpre : -2147483648 ≤ a1 ∧ a1 ≤ 2147483647 ∧ -2147483648 ≤ a2 ∧ a2 ≤ 2147483647 ∧ -2147483648 ≤ a3 ∧ a3 ≤ 2147483647) : KC true G l yX12_partner cX12_partner 5 (some .int) (3, 67) [vR G 163, vI a1, vI a2, vI a3] M (fun A => kQi true G A (fun (r : Int) (N : Mem) => Inv true N ∧ Fr f_c_X12_partner M N ∧ (r ≥ -2147483648 ∧ r ≤ 2147483647))) := by
  refine kx_met (lo := [some (vR G 163), some (vI a1), some (vI a2), some (vI a3), none]) (by decide) (Nat.le_of_ble_eq_true rfl) rfl ?_
  intro X F hQ
  have hF_M : Fr f_c_X12_partner M M := Fr.rf _ _
  refine kx_aload_n 1 F 0 dX12_partner_0 rfl rfl rfl ?_
  refine kx_iload_n 2 F 1 dX12_partner_1 rfl rfl rfl ?_
  refine kx_iload_n 3 F 2 dX12_partner_2 rfl rfl rfl ?_
  refine kx_Vi 6 (ci := 0) F (As := [vI a1, vI a2]) (st := []) vd_X12_358 (c_X12_isWordCall G l M a1 a2 hI_M (by omega)) kd_163 rfl rfl rfl ⟨by decide, by decide⟩ rfl rfl (Nat.le_of_ble_eq_true rfl) dX12_partner_3 rfl ?_
  intro r_1 N_2 q_3
  obtain ⟨rfl, q_3c⟩ := q_3
  rcases q_3c with q_3c | q_3c
  · refine kx_if_eq 9 F 18 dX12_partner_6 (by decide) rfl (by omega) (fun h_4 => (by exfalso; omega)) (fun h_4 => ?_)
    refine kx_iload_n 10 F 3 dX12_partner_9 rfl rfl rfl ?_
    refine kx_if_lt 13 F 18 dX12_partner_10 (by decide) rfl (by omega) (fun h_5 => ?_) (fun h_5 => ?_)
    · refine kx_aload_n 19 F 0 dX12_partner_18 rfl rfl rfl ?_
      refine kx_iconst 20 F dX12_partner_19 rfl ?_
      refine kx_Vi 23 (ci := 0) F (As := [vI 1]) (st := []) vd_X12_123 (c_X12_refuse G l M 1 hI_M (by omega)) kd_163 rfl rfl rfl ⟨by decide, by decide⟩ rfl rfl (Nat.le_of_ble_eq_true rfl) dX12_partner_20 rfl ?_
      intro r_6 N_7 q_8
      obtain ⟨hI_N_7, hG_N_7, q_8c⟩ := q_8
      have hF_N_7 : Fr f_c_X12_partner M N_7 := Fr.c hF_M hG_N_7 rfl
      subst q_8c
      exact kx_iret F hQ ⟨hI_N_7, hF_N_7, (by omega)⟩ dX12_partner_23
    · refine kx_iload_n 14 F 3 dX12_partner_13 rfl rfl rfl ?_
      refine kx_iload_n 15 F 2 dX12_partner_14 rfl rfl rfl ?_
      refine kx_icmp_lt 18 F 24 dX12_partner_15 (by decide) rfl (by omega) (by omega) (fun h_9 => ?_) (fun h_9 => ?_)
      · refine kx_aload_n 25 F 0 dX12_partner_24 rfl rfl rfl ?_
        refine kx_iload_n 26 F 1 dX12_partner_25 rfl rfl rfl ?_
        refine kx_iload_n 27 F 2 dX12_partner_26 rfl rfl rfl ?_
        refine kx_Vi 30 (ci := 0) F (As := [vI a1, vI a2]) (st := []) vd_X12_361 (c_X12_wrongWord G l M a1 a2 hI_M (by omega)) kd_163 rfl rfl rfl ⟨by decide, by decide⟩ rfl rfl (Nat.le_of_ble_eq_true rfl) dX12_partner_27 rfl ?_
        intro r_10 N_11 q_12
        obtain ⟨rfl, q_12c, hw_N_11⟩ := q_12
        rcases q_12c with q_12c | q_12c
        · refine kx_istore 32 F 4 (lo' := [some (vR G 163), some (vI a1), some (vI a2), some (vI a3), some (vI r_10)]) dX12_partner_30 (by decide) rfl rfl rfl ?_
          refine kx_iload 34 F 4 dX12_partner_32 rfl rfl ?_
          refine kx_if_le 37 F 44 dX12_partner_34 (by decide) rfl (by omega) (fun h_13 => ?_) (fun h_13 => (by exfalso; omega))
          refine kx_aload_n 45 F 0 dX12_partner_44 rfl rfl rfl ?_
          refine kx_iload_n 46 F 1 dX12_partner_45 rfl rfl rfl ?_
          refine kx_iload_n 47 F 2 dX12_partner_46 rfl rfl rfl ?_
          refine kx_Vv 50 (ci := 0) F (As := [vI a1, vI a2]) (st := []) vd_X12_400 (c_X12_laysPartners G l M a1 a2 hI_M (by omega) (hw_N_11 (by omega))) kd_163 rfl rfl rfl ⟨by decide, by decide⟩ rfl rfl (Nat.le_of_ble_eq_true rfl) dX12_partner_47 rfl ?_
          intro N_14 q_15
          obtain ⟨hI_N_14, hG_N_14⟩ := q_15
          have hF_N_14 : Fr f_c_X12_partner M N_14 := Fr.c hF_M hG_N_14 rfl
          refine kx_aload_n 51 F 0 dX12_partner_50 rfl rfl rfl ?_
          refine kx_aload_n 52 F 0 dX12_partner_51 rfl rfl rfl ?_
          refine kx_getr 55 F fl_X12_71 kd_163 rfl rfl (j := 29) rfl dX12_partner_52 (v := 180) (uq_180 (Inv.r hI_N_14 kd_163 rfl 29 rfl rfl)) rfl ?_
          refine kx_iload_n 56 F 3 dX12_partner_55 rfl rfl rfl ?_
          refine kx_iald 57 F kd_180 rfl rfl (by omega) (by decide) dX12_partner_56 (v := (N_14 180 a3)) rfl rfl ?_
          have h_16 := Inv.g hI_N_14 kd_180 rfl a3 (a := (-1)) (b := 19) rfl rfl
          refine kx_Vi 60 (ci := 0) F (As := [vI (N_14 180 a3)]) (st := []) vd_X12_294 (c_X12_orNone G l N_14 (N_14 180 a3) hI_N_14 (by omega)) kd_163 rfl rfl rfl ⟨by decide, by decide⟩ rfl rfl (Nat.le_of_ble_eq_true rfl) dX12_partner_57 rfl ?_
          intro r_17 N_18 q_19
          obtain ⟨hI_N_18, hG_N_18, q_19c⟩ := q_19
          have hF_N_18 : Fr f_c_X12_partner M N_18 := Fr.c hF_N_14 hG_N_18 rfl
          exact kx_iret F hQ ⟨hI_N_18, hF_N_18, (by omega)⟩ dX12_partner_60
        · refine kx_istore 32 F 4 (lo' := [some (vR G 163), some (vI a1), some (vI a2), some (vI a3), some (vI r_10)]) dX12_partner_30 (by decide) rfl rfl rfl ?_
          refine kx_iload 34 F 4 dX12_partner_32 rfl rfl ?_
          refine kx_if_le 37 F 44 dX12_partner_34 (by decide) rfl (by omega) (fun h_20 => (by exfalso; omega)) (fun h_20 => ?_)
          refine kx_aload_n 38 F 0 dX12_partner_37 rfl rfl rfl ?_
          refine kx_iload 40 F 4 dX12_partner_38 rfl rfl ?_
          refine kx_Vi 43 (ci := 0) F (As := [vI r_10]) (st := []) vd_X12_123 (c_X12_refuse G l M r_10 hI_M (by omega)) kd_163 rfl rfl rfl ⟨by decide, by decide⟩ rfl rfl (Nat.le_of_ble_eq_true rfl) dX12_partner_40 rfl ?_
          intro r_21 N_22 q_23
          obtain ⟨hI_N_22, hG_N_22, q_23c⟩ := q_23
          have hF_N_22 : Fr f_c_X12_partner M N_22 := Fr.c hF_M hG_N_22 rfl
          subst q_23c
          exact kx_iret F hQ ⟨hI_N_22, hF_N_22, (by omega)⟩ dX12_partner_43
      · refine kx_aload_n 19 F 0 dX12_partner_18 rfl rfl rfl ?_
        refine kx_iconst 20 F dX12_partner_19 rfl ?_
        refine kx_Vi 23 (ci := 0) F (As := [vI 1]) (st := []) vd_X12_123 (c_X12_refuse G l M 1 hI_M (by omega)) kd_163 rfl rfl rfl ⟨by decide, by decide⟩ rfl rfl (Nat.le_of_ble_eq_true rfl) dX12_partner_20 rfl ?_
        intro r_24 N_25 q_26
        obtain ⟨hI_N_25, hG_N_25, q_26c⟩ := q_26
        have hF_N_25 : Fr f_c_X12_partner M N_25 := Fr.c hF_M hG_N_25 rfl
        subst q_26c
        exact kx_iret F hQ ⟨hI_N_25, hF_N_25, (by omega)⟩ dX12_partner_23
  · refine kx_if_eq 9 F 18 dX12_partner_6 (by decide) rfl (by omega) (fun h_27 => ?_) (fun h_27 => (by exfalso; omega))
    refine kx_aload_n 19 F 0 dX12_partner_18 rfl rfl rfl ?_
    refine kx_iconst 20 F dX12_partner_19 rfl ?_
    refine kx_Vi 23 (ci := 0) F (As := [vI 1]) (st := []) vd_X12_123 (c_X12_refuse G l M 1 hI_M (by omega)) kd_163 rfl rfl rfl ⟨by decide, by decide⟩ rfl rfl (Nat.le_of_ble_eq_true rfl) dX12_partner_20 rfl ?_
    intro r_28 N_29 q_30
    obtain ⟨hI_N_29, hG_N_29, q_30c⟩ := q_30
    have hF_N_29 : Fr f_c_X12_partner M N_29 := Fr.c hF_M hG_N_29 rfl
    subst q_30c
    exact kx_iret F hQ ⟨hI_N_29, hF_N_29, (by omega)⟩ dX12_partner_23
