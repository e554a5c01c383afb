set_option maxRecDepth 100000 in
theorem dGR_32_c_1023 : (decode cX12_isWanted 0 = .ok (.aload_n 0, 1)) ∧ (decode cX12_isWanted 1 = .ok (.getfield 47, 3)) ∧ (decode cX12_isWanted 4 = .ok (.iload_n 3, 1)) ∧ (decode cX12_isWanted 5 = .ok (.iaload, 1)) ∧ (decode cX12_isWanted 6 = .ok (.aload_n 0, 1)) ∧ (decode cX12_isWanted 7 = .ok (.iload_n 1, 1)) ∧ (decode cX12_isWanted 8 = .ok (.iconst 3, 1)) ∧ (decode cX12_isWanted 9 = .ok (.invokevirtual 288, 3)) ∧ (decode cX12_isWanted 12 = .ok (.iand, 1)) ∧ (decode cX12_isWanted 13 = .ok (.ifCond .eq 36, 3)) ∧ (decode cX12_isWanted 16 = .ok (.aload_n 0, 1)) ∧ (decode cX12_isWanted 17 = .ok (.getfield 47, 3)) := by decide +kernel
theorem dX12_isWanted_0 : decode cX12_isWanted 0 = .ok (.aload_n 0, 1) := dGR_32_c_1023.1
theorem dX12_isWanted_1 : decode cX12_isWanted 1 = .ok (.getfield 47, 3) := dGR_32_c_1023.2.1
theorem dX12_isWanted_4 : decode cX12_isWanted 4 = .ok (.iload_n 3, 1) := dGR_32_c_1023.2.2.1
theorem dX12_isWanted_5 : decode cX12_isWanted 5 = .ok (.iaload, 1) := dGR_32_c_1023.2.2.2.1
theorem dX12_isWanted_6 : decode cX12_isWanted 6 = .ok (.aload_n 0, 1) := dGR_32_c_1023.2.2.2.2.1
theorem dX12_isWanted_7 : decode cX12_isWanted 7 = .ok (.iload_n 1, 1) := dGR_32_c_1023.2.2.2.2.2.1
theorem dX12_isWanted_8 : decode cX12_isWanted 8 = .ok (.iconst 3, 1) := dGR_32_c_1023.2.2.2.2.2.2.1
theorem dX12_isWanted_9 : decode cX12_isWanted 9 = .ok (.invokevirtual 288, 3) := dGR_32_c_1023.2.2.2.2.2.2.2.1
theorem dX12_isWanted_12 : decode cX12_isWanted 12 = .ok (.iand, 1) := dGR_32_c_1023.2.2.2.2.2.2.2.2.1
theorem dX12_isWanted_13 : decode cX12_isWanted 13 = .ok (.ifCond .eq 36, 3) := dGR_32_c_1023.2.2.2.2.2.2.2.2.2.1
theorem dX12_isWanted_16 : decode cX12_isWanted 16 = .ok (.aload_n 0, 1) := dGR_32_c_1023.2.2.2.2.2.2.2.2.2.2.1
theorem dX12_isWanted_17 : decode cX12_isWanted 17 = .ok (.getfield 47, 3) := dGR_32_c_1023.2.2.2.2.2.2.2.2.2.2.2
set_option maxRecDepth 100000 in
theorem dGR_32_c_1024 : (decode cX12_isWanted 20 = .ok (.bipush 21, 2)) ∧ (decode cX12_isWanted 22 = .ok (.iload_n 3, 1)) ∧ (decode cX12_isWanted 23 = .ok (.iadd, 1)) ∧ (decode cX12_isWanted 24 = .ok (.iaload, 1)) ∧ (decode cX12_isWanted 25 = .ok (.aload_n 0, 1)) ∧ (decode cX12_isWanted 26 = .ok (.iload_n 2, 1)) ∧ (decode cX12_isWanted 27 = .ok (.iconst 3, 1)) ∧ (decode cX12_isWanted 28 = .ok (.invokevirtual 288, 3)) ∧ (decode cX12_isWanted 31 = .ok (.iand, 1)) ∧ (decode cX12_isWanted 32 = .ok (.ifCond .eq 7, 3)) ∧ (decode cX12_isWanted 35 = .ok (.iconst 1, 1)) ∧ (decode cX12_isWanted 36 = .ok (.goto 4, 3)) := by decide +kernel
theorem dX12_isWanted_20 : decode cX12_isWanted 20 = .ok (.bipush 21, 2) := dGR_32_c_1024.1
theorem dX12_isWanted_22 : decode cX12_isWanted 22 = .ok (.iload_n 3, 1) := dGR_32_c_1024.2.1
theorem dX12_isWanted_23 : decode cX12_isWanted 23 = .ok (.iadd, 1) := dGR_32_c_1024.2.2.1
theorem dX12_isWanted_24 : decode cX12_isWanted 24 = .ok (.iaload, 1) := dGR_32_c_1024.2.2.2.1
theorem dX12_isWanted_25 : decode cX12_isWanted 25 = .ok (.aload_n 0, 1) := dGR_32_c_1024.2.2.2.2.1
theorem dX12_isWanted_26 : decode cX12_isWanted 26 = .ok (.iload_n 2, 1) := dGR_32_c_1024.2.2.2.2.2.1
theorem dX12_isWanted_27 : decode cX12_isWanted 27 = .ok (.iconst 3, 1) := dGR_32_c_1024.2.2.2.2.2.2.1
theorem dX12_isWanted_28 : decode cX12_isWanted 28 = .ok (.invokevirtual 288, 3) := dGR_32_c_1024.2.2.2.2.2.2.2.1
theorem dX12_isWanted_31 : decode cX12_isWanted 31 = .ok (.iand, 1) := dGR_32_c_1024.2.2.2.2.2.2.2.2.1
theorem dX12_isWanted_32 : decode cX12_isWanted 32 = .ok (.ifCond .eq 7, 3) := dGR_32_c_1024.2.2.2.2.2.2.2.2.2.1
theorem dX12_isWanted_35 : decode cX12_isWanted 35 = .ok (.iconst 1, 1) := dGR_32_c_1024.2.2.2.2.2.2.2.2.2.2.1
theorem dX12_isWanted_36 : decode cX12_isWanted 36 = .ok (.goto 4, 3) := dGR_32_c_1024.2.2.2.2.2.2.2.2.2.2.2
set_option maxRecDepth 100000 in
theorem dGR_32_c_1025 : (decode cX12_isWanted 39 = .ok (.iconst 0, 1)) ∧ (decode cX12_isWanted 40 = .ok (.iload 4, 2)) ∧ (decode cX12_isWanted 42 = .ok (.if_icmp .ne 7, 3)) ∧ (decode cX12_isWanted 45 = .ok (.iconst 1, 1)) ∧ (decode cX12_isWanted 46 = .ok (.goto 4, 3)) ∧ (decode cX12_isWanted 49 = .ok (.iconst 0, 1)) ∧ (decode cX12_isWanted 50 = .ok (.ireturn, 1)) := by decide +kernel
theorem dX12_isWanted_39 : decode cX12_isWanted 39 = .ok (.iconst 0, 1) := dGR_32_c_1025.1
theorem dX12_isWanted_40 : decode cX12_isWanted 40 = .ok (.iload 4, 2) := dGR_32_c_1025.2.1
theorem dX12_isWanted_42 : decode cX12_isWanted 42 = .ok (.if_icmp .ne 7, 3) := dGR_32_c_1025.2.2.1
theorem dX12_isWanted_45 : decode cX12_isWanted 45 = .ok (.iconst 1, 1) := dGR_32_c_1025.2.2.2.1
theorem dX12_isWanted_46 : decode cX12_isWanted 46 = .ok (.goto 4, 3) := dGR_32_c_1025.2.2.2.2.1
theorem dX12_isWanted_49 : decode cX12_isWanted 49 = .ok (.iconst 0, 1) := dGR_32_c_1025.2.2.2.2.2.1
theorem dX12_isWanted_50 : decode cX12_isWanted 50 = .ok (.ireturn, 1) := dGR_32_c_1025.2.2.2.2.2.2
set_option maxHeartbeats 4000000 in
set_option maxRecDepth 100000 in
theorem c_X12_isWanted (G : KG) (l : Launch) (M : Mem) (a1 : Int) (a2 : Int) (a3 : Int) (a4 : Int) (hI_M : Inv true M) (hpre : -2147483648 ≤ a1 ∧ a1 ≤ 2147483647 ∧ -2147483648 ≤ a2 ∧ a2 ≤ 2147483647 ∧ -2147483648 ≤ a3 ∧ a3 ≤ 2147483647 ∧ 0 ≤ a4 ∧ a4 ≤ 1 ∧ 0 ≤ a1 ∧ a1 ≤ 2 ∧ 0 ≤ a2 ∧ a2 ≤ 2 ∧ 0 ≤ a3 ∧ a3 ≤ 20) : KC true G l yX12_isWanted cX12_isWanted 5 (some .boolean) (2, 43) [vR G 163, vI a1, vI a2, vI a3, vI a4] M (fun A => kQi true G A (fun (r : Int) (N : Mem) => M = N ∧ (0 ≤ r ∧ r ≤ 1))) := by
  refine kx_met (lo := [some (vR G 163), some (vI a1), some (vI a2), some (vI a3), some (vI a4)]) (by decide) (Nat.le_of_ble_eq_true rfl) rfl ?_
  intro X F hQ
  refine kx_aload_n 1 F 0 dX12_isWanted_0 rfl rfl rfl ?_
  refine kx_getr 4 F fl_X12_47 kd_163 rfl rfl (j := 21) rfl dX12_isWanted_1 (v := 172) (uq_172 (Inv.r hI_M kd_163 rfl 21 rfl rfl)) rfl ?_
  refine kx_iload_n 5 F 3 dX12_isWanted_4 rfl rfl rfl ?_
  refine kx_iald 6 F kd_172 rfl rfl (by omega) (by decide) dX12_isWanted_5 (v := (M 172 a3)) rfl rfl ?_
  have h_1 := Inv.g hI_M kd_172 rfl a3 (a := 0) (b := 7) rfl rfl
  refine kx_aload_n 7 F 0 dX12_isWanted_6 rfl rfl rfl ?_
  refine kx_iload_n 8 F 1 dX12_isWanted_7 rfl rfl rfl ?_
  refine kx_iconst 9 F dX12_isWanted_8 rfl ?_
  refine kx_Vi 12 (ci := 0) F (As := [vI a1, vI 3]) (st := [vI (M 172 a3)]) vd_X12_288 (c_of3 G l M a1 3 hI_M (by omega)) kd_163 rfl rfl rfl ⟨by decide, by decide⟩ rfl rfl (Nat.le_of_ble_eq_true rfl) dX12_isWanted_9 rfl ?_
  intro r_2 N_3 q_4
  obtain ⟨rfl, q_4c⟩ := q_4
  refine kx_iand 13 F (v := (zand (M 172 a3) r_2)) dX12_isWanted_12 rfl rfl ?_
  have h_5 := zand_r (a := (M 172 a3)) (b := r_2) (by omega)
  refine kx_if_eq 16 F 49 dX12_isWanted_13 (by decide) rfl (by omega) (fun h_6 => ?_) (fun h_6 => ?_)
  · refine kx_iconst 50 F dX12_isWanted_49 rfl ?_
    exact kx_zret F hQ (by omega) ⟨rfl, (by omega)⟩ dX12_isWanted_50
  · refine kx_aload_n 17 F 0 dX12_isWanted_16 rfl rfl rfl ?_
    refine kx_getr 20 F fl_X12_47 kd_163 rfl rfl (j := 21) rfl dX12_isWanted_17 (v := 172) (uq_172 (Inv.r hI_M kd_163 rfl 21 rfl rfl)) rfl ?_
    refine kx_bipush 22 F dX12_isWanted_20 (by decide) rfl ?_
    refine kx_iload_n 23 F 3 dX12_isWanted_22 rfl rfl rfl ?_
    refine kx_iadd 24 F (v := a3 + 21) dX12_isWanted_23 (by omega) rfl ?_
    refine kx_iald 25 F kd_172 rfl rfl (by omega) (by decide) dX12_isWanted_24 (v := (M 172 (a3 + 21))) rfl rfl ?_
    have h_7 := Inv.g hI_M kd_172 rfl (a3 + 21) (a := 0) (b := 7) rfl rfl
    refine kx_aload_n 26 F 0 dX12_isWanted_25 rfl rfl rfl ?_
    refine kx_iload_n 27 F 2 dX12_isWanted_26 rfl rfl rfl ?_
    refine kx_iconst 28 F dX12_isWanted_27 rfl ?_
    refine kx_Vi 31 (ci := 0) F (As := [vI a2, vI 3]) (st := [vI (M 172 (a3 + 21))]) vd_X12_288 (c_of3 G l M a2 3 hI_M (by omega)) kd_163 rfl rfl rfl ⟨by decide, by decide⟩ rfl rfl (Nat.le_of_ble_eq_true rfl) dX12_isWanted_28 rfl ?_
    intro r_8 N_9 q_10
    obtain ⟨rfl, q_10c⟩ := q_10
    refine kx_iand 32 F (v := (zand (M 172 (a3 + 21)) r_8)) dX12_isWanted_31 rfl rfl ?_
    have h_11 := zand_r (a := (M 172 (a3 + 21))) (b := r_8) (by omega)
    refine kx_if_eq 35 F 39 dX12_isWanted_32 (by decide) rfl (by omega) (fun h_12 => ?_) (fun h_12 => ?_)
    · refine kx_iconst 40 F dX12_isWanted_39 rfl ?_
      refine kx_iload 42 F 4 dX12_isWanted_40 rfl rfl ?_
      refine kx_icmp_ne 45 F 49 dX12_isWanted_42 (by decide) rfl (by decide) (by omega) (fun h_13 => ?_) (fun h_13 => ?_)
      · refine kx_iconst 50 F dX12_isWanted_49 rfl ?_
        exact kx_zret F hQ (by omega) ⟨rfl, (by omega)⟩ dX12_isWanted_50
      · refine kx_iconst 46 F dX12_isWanted_45 rfl ?_
        refine kx_goto 50 F dX12_isWanted_46 (by decide) ?_
        exact kx_zret F hQ (by omega) ⟨rfl, (by omega)⟩ dX12_isWanted_50
    · refine kx_iconst 36 F dX12_isWanted_35 rfl ?_
      refine kx_goto 40 F dX12_isWanted_36 (by decide) ?_
      refine kx_iload 42 F 4 dX12_isWanted_40 rfl rfl ?_
      refine kx_icmp_ne 45 F 49 dX12_isWanted_42 (by decide) rfl (by decide) (by omega) (fun h_14 => ?_) (fun h_14 => ?_)
      · refine kx_iconst 50 F dX12_isWanted_49 rfl ?_
        exact kx_zret F hQ (by omega) ⟨rfl, (by omega)⟩ dX12_isWanted_50
      · refine kx_iconst 46 F dX12_isWanted_45 rfl ?_
        refine kx_goto 50 F dX12_isWanted_46 (by decide) ?_
        exact kx_zret F hQ (by omega) ⟨rfl, (by omega)⟩ dX12_isWanted_50
set_option maxRecDepth 100000 in
theorem dGR_32_c_1026 : (decode cX12_laysWords 0 = .ok (.iconst 0, 1)) ∧ (decode cX12_laysWords 1 = .ok (.istore 7, 2)) ∧ (decode cX12_laysWords 3 = .ok (.aload_n 0, 1)) ∧ (decode cX12_laysWords 4 = .ok (.iconst 0, 1)) ∧ (decode cX12_laysWords 5 = .ok (.putfield 485, 3)) ∧ (decode cX12_laysWords 8 = .ok (.aload_n 0, 1)) ∧ (decode cX12_laysWords 9 = .ok (.invokevirtual 342, 3)) ∧ (decode cX12_laysWords 12 = .ok (.aload_n 0, 1)) ∧ (decode cX12_laysWords 13 = .ok (.iload_n 1, 1)) ∧ (decode cX12_laysWords 14 = .ok (.iconst 0, 1)) ∧ (decode cX12_laysWords 15 = .ok (.invokevirtual 345, 3)) ∧ (decode cX12_laysWords 18 = .ok (.aload_n 0, 1)) := by decide +kernel
theorem dX12_laysWords_0 : decode cX12_laysWords 0 = .ok (.iconst 0, 1) := dGR_32_c_1026.1
theorem dX12_laysWords_1 : decode cX12_laysWords 1 = .ok (.istore 7, 2) := dGR_32_c_1026.2.1
theorem dX12_laysWords_3 : decode cX12_laysWords 3 = .ok (.aload_n 0, 1) := dGR_32_c_1026.2.2.1
theorem dX12_laysWords_4 : decode cX12_laysWords 4 = .ok (.iconst 0, 1) := dGR_32_c_1026.2.2.2.1
theorem dX12_laysWords_5 : decode cX12_laysWords 5 = .ok (.putfield 485, 3) := dGR_32_c_1026.2.2.2.2.1
theorem dX12_laysWords_8 : decode cX12_laysWords 8 = .ok (.aload_n 0, 1) := dGR_32_c_1026.2.2.2.2.2.1
theorem dX12_laysWords_9 : decode cX12_laysWords 9 = .ok (.invokevirtual 342, 3) := dGR_32_c_1026.2.2.2.2.2.2.1
theorem dX12_laysWords_12 : decode cX12_laysWords 12 = .ok (.aload_n 0, 1) := dGR_32_c_1026.2.2.2.2.2.2.2.1
theorem dX12_laysWords_13 : decode cX12_laysWords 13 = .ok (.iload_n 1, 1) := dGR_32_c_1026.2.2.2.2.2.2.2.2.1
theorem dX12_laysWords_14 : decode cX12_laysWords 14 = .ok (.iconst 0, 1) := dGR_32_c_1026.2.2.2.2.2.2.2.2.2.1
theorem dX12_laysWords_15 : decode cX12_laysWords 15 = .ok (.invokevirtual 345, 3) := dGR_32_c_1026.2.2.2.2.2.2.2.2.2.2.1
theorem dX12_laysWords_18 : decode cX12_laysWords 18 = .ok (.aload_n 0, 1) := dGR_32_c_1026.2.2.2.2.2.2.2.2.2.2.2
set_option maxRecDepth 100000 in
theorem dGR_32_c_1027 : (decode cX12_laysWords 19 = .ok (.iload_n 2, 1)) ∧ (decode cX12_laysWords 20 = .ok (.iconst 1, 1)) ∧ (decode cX12_laysWords 21 = .ok (.invokevirtual 345, 3)) ∧ (decode cX12_laysWords 24 = .ok (.iload_n 3, 1)) ∧ (decode cX12_laysWords 25 = .ok (.ifCond .ne 29, 3)) ∧ (decode cX12_laysWords 28 = .ok (.aload_n 0, 1)) ∧ (decode cX12_laysWords 29 = .ok (.aload_n 0, 1)) ∧ (decode cX12_laysWords 30 = .ok (.iload_n 1, 1)) ∧ (decode cX12_laysWords 31 = .ok (.iload_n 2, 1)) ∧ (decode cX12_laysWords 32 = .ok (.iconst 0, 1)) ∧ (decode cX12_laysWords 33 = .ok (.iload 4, 2)) ∧ (decode cX12_laysWords 35 = .ok (.invokevirtual 488, 3)) := by decide +kernel
theorem dX12_laysWords_19 : decode cX12_laysWords 19 = .ok (.iload_n 2, 1) := dGR_32_c_1027.1
theorem dX12_laysWords_20 : decode cX12_laysWords 20 = .ok (.iconst 1, 1) := dGR_32_c_1027.2.1
theorem dX12_laysWords_21 : decode cX12_laysWords 21 = .ok (.invokevirtual 345, 3) := dGR_32_c_1027.2.2.1
theorem dX12_laysWords_24 : decode cX12_laysWords 24 = .ok (.iload_n 3, 1) := dGR_32_c_1027.2.2.2.1
theorem dX12_laysWords_25 : decode cX12_laysWords 25 = .ok (.ifCond .ne 29, 3) := dGR_32_c_1027.2.2.2.2.1
theorem dX12_laysWords_28 : decode cX12_laysWords 28 = .ok (.aload_n 0, 1) := dGR_32_c_1027.2.2.2.2.2.1
theorem dX12_laysWords_29 : decode cX12_laysWords 29 = .ok (.aload_n 0, 1) := dGR_32_c_1027.2.2.2.2.2.2.1
theorem dX12_laysWords_30 : decode cX12_laysWords 30 = .ok (.iload_n 1, 1) := dGR_32_c_1027.2.2.2.2.2.2.2.1
theorem dX12_laysWords_31 : decode cX12_laysWords 31 = .ok (.iload_n 2, 1) := dGR_32_c_1027.2.2.2.2.2.2.2.2.1
theorem dX12_laysWords_32 : decode cX12_laysWords 32 = .ok (.iconst 0, 1) := dGR_32_c_1027.2.2.2.2.2.2.2.2.2.1
theorem dX12_laysWords_33 : decode cX12_laysWords 33 = .ok (.iload 4, 2) := dGR_32_c_1027.2.2.2.2.2.2.2.2.2.2.1
theorem dX12_laysWords_35 : decode cX12_laysWords 35 = .ok (.invokevirtual 488, 3) := dGR_32_c_1027.2.2.2.2.2.2.2.2.2.2.2
set_option maxRecDepth 100000 in
theorem dGR_32_c_1028 : (decode cX12_laysWords 38 = .ok (.ifCond .eq 7, 3)) ∧ (decode cX12_laysWords 41 = .ok (.iconst 1, 1)) ∧ (decode cX12_laysWords 42 = .ok (.goto 4, 3)) ∧ (decode cX12_laysWords 45 = .ok (.iconst 0, 1)) ∧ (decode cX12_laysWords 46 = .ok (.putfield 485, 3)) ∧ (decode cX12_laysWords 49 = .ok (.aload_n 0, 1)) ∧ (decode cX12_laysWords 50 = .ok (.getfield 485, 3)) ∧ (decode cX12_laysWords 53 = .ok (.ireturn, 1)) ∧ (decode cX12_laysWords 54 = .ok (.aload_n 0, 1)) ∧ (decode cX12_laysWords 55 = .ok (.getfield 110, 3)) ∧ (decode cX12_laysWords 58 = .ok (.iconst 0, 1)) ∧ (decode cX12_laysWords 59 = .ok (.iconst (-1), 1)) := by decide +kernel
theorem dX12_laysWords_38 : decode cX12_laysWords 38 = .ok (.ifCond .eq 7, 3) := dGR_32_c_1028.1
theorem dX12_laysWords_41 : decode cX12_laysWords 41 = .ok (.iconst 1, 1) := dGR_32_c_1028.2.1
theorem dX12_laysWords_42 : decode cX12_laysWords 42 = .ok (.goto 4, 3) := dGR_32_c_1028.2.2.1
theorem dX12_laysWords_45 : decode cX12_laysWords 45 = .ok (.iconst 0, 1) := dGR_32_c_1028.2.2.2.1
theorem dX12_laysWords_46 : decode cX12_laysWords 46 = .ok (.putfield 485, 3) := dGR_32_c_1028.2.2.2.2.1
theorem dX12_laysWords_49 : decode cX12_laysWords 49 = .ok (.aload_n 0, 1) := dGR_32_c_1028.2.2.2.2.2.1
theorem dX12_laysWords_50 : decode cX12_laysWords 50 = .ok (.getfield 485, 3) := dGR_32_c_1028.2.2.2.2.2.2.1
theorem dX12_laysWords_53 : decode cX12_laysWords 53 = .ok (.ireturn, 1) := dGR_32_c_1028.2.2.2.2.2.2.2.1
theorem dX12_laysWords_54 : decode cX12_laysWords 54 = .ok (.aload_n 0, 1) := dGR_32_c_1028.2.2.2.2.2.2.2.2.1
theorem dX12_laysWords_55 : decode cX12_laysWords 55 = .ok (.getfield 110, 3) := dGR_32_c_1028.2.2.2.2.2.2.2.2.2.1
theorem dX12_laysWords_58 : decode cX12_laysWords 58 = .ok (.iconst 0, 1) := dGR_32_c_1028.2.2.2.2.2.2.2.2.2.2.1
theorem dX12_laysWords_59 : decode cX12_laysWords 59 = .ok (.iconst (-1), 1) := dGR_32_c_1028.2.2.2.2.2.2.2.2.2.2.2
set_option maxRecDepth 100000 in
theorem dGR_32_c_1029 : (decode cX12_laysWords 60 = .ok (.iastore, 1)) ∧ (decode cX12_laysWords 61 = .ok (.iload 7, 2)) ∧ (decode cX12_laysWords 63 = .ok (.ifCond .lt 181, 3)) ∧ (decode cX12_laysWords 66 = .ok (.aload_n 0, 1)) ∧ (decode cX12_laysWords 67 = .ok (.getfield 110, 3)) ∧ (decode cX12_laysWords 70 = .ok (.iload 7, 2)) ∧ (decode cX12_laysWords 72 = .ok (.dup2, 1)) ∧ (decode cX12_laysWords 73 = .ok (.iaload, 1)) ∧ (decode cX12_laysWords 74 = .ok (.iconst 1, 1)) ∧ (decode cX12_laysWords 75 = .ok (.iadd, 1)) ∧ (decode cX12_laysWords 76 = .ok (.iastore, 1)) ∧ (decode cX12_laysWords 77 = .ok (.aload_n 0, 1)) := by decide +kernel
theorem dX12_laysWords_60 : decode cX12_laysWords 60 = .ok (.iastore, 1) := dGR_32_c_1029.1
theorem dX12_laysWords_61 : decode cX12_laysWords 61 = .ok (.iload 7, 2) := dGR_32_c_1029.2.1
theorem dX12_laysWords_63 : decode cX12_laysWords 63 = .ok (.ifCond .lt 181, 3) := dGR_32_c_1029.2.2.1
theorem dX12_laysWords_66 : decode cX12_laysWords 66 = .ok (.aload_n 0, 1) := dGR_32_c_1029.2.2.2.1
theorem dX12_laysWords_67 : decode cX12_laysWords 67 = .ok (.getfield 110, 3) := dGR_32_c_1029.2.2.2.2.1
theorem dX12_laysWords_70 : decode cX12_laysWords 70 = .ok (.iload 7, 2) := dGR_32_c_1029.2.2.2.2.2.1
theorem dX12_laysWords_72 : decode cX12_laysWords 72 = .ok (.dup2, 1) := dGR_32_c_1029.2.2.2.2.2.2.1
theorem dX12_laysWords_73 : decode cX12_laysWords 73 = .ok (.iaload, 1) := dGR_32_c_1029.2.2.2.2.2.2.2.1
theorem dX12_laysWords_74 : decode cX12_laysWords 74 = .ok (.iconst 1, 1) := dGR_32_c_1029.2.2.2.2.2.2.2.2.1
theorem dX12_laysWords_75 : decode cX12_laysWords 75 = .ok (.iadd, 1) := dGR_32_c_1029.2.2.2.2.2.2.2.2.2.1
theorem dX12_laysWords_76 : decode cX12_laysWords 76 = .ok (.iastore, 1) := dGR_32_c_1029.2.2.2.2.2.2.2.2.2.2.1
theorem dX12_laysWords_77 : decode cX12_laysWords 77 = .ok (.aload_n 0, 1) := dGR_32_c_1029.2.2.2.2.2.2.2.2.2.2.2
set_option maxRecDepth 100000 in
theorem dGR_32_c_1030 : (decode cX12_laysWords 78 = .ok (.getfield 110, 3)) ∧ (decode cX12_laysWords 81 = .ok (.iload 7, 2)) ∧ (decode cX12_laysWords 83 = .ok (.iaload, 1)) ∧ (decode cX12_laysWords 84 = .ok (.aload_n 0, 1)) ∧ (decode cX12_laysWords 85 = .ok (.invokevirtual 285, 3)) ∧ (decode cX12_laysWords 88 = .ok (.if_icmp .ne 9, 3)) ∧ (decode cX12_laysWords 91 = .ok (.iinc 7 (-1), 3)) ∧ (decode cX12_laysWords 94 = .ok (.goto (-33), 3)) ∧ (decode cX12_laysWords 97 = .ok (.iload 5, 2)) ∧ (decode cX12_laysWords 99 = .ok (.ifCond .eq 20, 3)) ∧ (decode cX12_laysWords 102 = .ok (.aload_n 0, 1)) ∧ (decode cX12_laysWords 103 = .ok (.invokevirtual 285, 3)) := by decide +kernel
theorem dX12_laysWords_78 : decode cX12_laysWords 78 = .ok (.getfield 110, 3) := dGR_32_c_1030.1
theorem dX12_laysWords_81 : decode cX12_laysWords 81 = .ok (.iload 7, 2) := dGR_32_c_1030.2.1
theorem dX12_laysWords_83 : decode cX12_laysWords 83 = .ok (.iaload, 1) := dGR_32_c_1030.2.2.1
theorem dX12_laysWords_84 : decode cX12_laysWords 84 = .ok (.aload_n 0, 1) := dGR_32_c_1030.2.2.2.1
theorem dX12_laysWords_85 : decode cX12_laysWords 85 = .ok (.invokevirtual 285, 3) := dGR_32_c_1030.2.2.2.2.1
theorem dX12_laysWords_88 : decode cX12_laysWords 88 = .ok (.if_icmp .ne 9, 3) := dGR_32_c_1030.2.2.2.2.2.1
theorem dX12_laysWords_91 : decode cX12_laysWords 91 = .ok (.iinc 7 (-1), 3) := dGR_32_c_1030.2.2.2.2.2.2.1
theorem dX12_laysWords_94 : decode cX12_laysWords 94 = .ok (.goto (-33), 3) := dGR_32_c_1030.2.2.2.2.2.2.2.1
theorem dX12_laysWords_97 : decode cX12_laysWords 97 = .ok (.iload 5, 2) := dGR_32_c_1030.2.2.2.2.2.2.2.2.1
theorem dX12_laysWords_99 : decode cX12_laysWords 99 = .ok (.ifCond .eq 20, 3) := dGR_32_c_1030.2.2.2.2.2.2.2.2.2.1
theorem dX12_laysWords_102 : decode cX12_laysWords 102 = .ok (.aload_n 0, 1) := dGR_32_c_1030.2.2.2.2.2.2.2.2.2.2.1
theorem dX12_laysWords_103 : decode cX12_laysWords 103 = .ok (.invokevirtual 285, 3) := dGR_32_c_1030.2.2.2.2.2.2.2.2.2.2.2
set_option maxRecDepth 100000 in
theorem dGR_32_c_1031 : (decode cX12_laysWords 106 = .ok (.iconst 1, 1)) ∧ (decode cX12_laysWords 107 = .ok (.isub, 1)) ∧ (decode cX12_laysWords 108 = .ok (.aload_n 0, 1)) ∧ (decode cX12_laysWords 109 = .ok (.getfield 110, 3)) ∧ (decode cX12_laysWords 112 = .ok (.iload 7, 2)) ∧ (decode cX12_laysWords 114 = .ok (.iaload, 1)) ∧ (decode cX12_laysWords 115 = .ok (.isub, 1)) ∧ (decode cX12_laysWords 116 = .ok (.goto 10, 3)) ∧ (decode cX12_laysWords 119 = .ok (.aload_n 0, 1)) ∧ (decode cX12_laysWords 120 = .ok (.getfield 110, 3)) ∧ (decode cX12_laysWords 123 = .ok (.iload 7, 2)) ∧ (decode cX12_laysWords 125 = .ok (.iaload, 1)) := by decide +kernel
theorem dX12_laysWords_106 : decode cX12_laysWords 106 = .ok (.iconst 1, 1) := dGR_32_c_1031.1
theorem dX12_laysWords_107 : decode cX12_laysWords 107 = .ok (.isub, 1) := dGR_32_c_1031.2.1
theorem dX12_laysWords_108 : decode cX12_laysWords 108 = .ok (.aload_n 0, 1) := dGR_32_c_1031.2.2.1
theorem dX12_laysWords_109 : decode cX12_laysWords 109 = .ok (.getfield 110, 3) := dGR_32_c_1031.2.2.2.1
theorem dX12_laysWords_112 : decode cX12_laysWords 112 = .ok (.iload 7, 2) := dGR_32_c_1031.2.2.2.2.1
theorem dX12_laysWords_114 : decode cX12_laysWords 114 = .ok (.iaload, 1) := dGR_32_c_1031.2.2.2.2.2.1
theorem dX12_laysWords_115 : decode cX12_laysWords 115 = .ok (.isub, 1) := dGR_32_c_1031.2.2.2.2.2.2.1
theorem dX12_laysWords_116 : decode cX12_laysWords 116 = .ok (.goto 10, 3) := dGR_32_c_1031.2.2.2.2.2.2.2.1
theorem dX12_laysWords_119 : decode cX12_laysWords 119 = .ok (.aload_n 0, 1) := dGR_32_c_1031.2.2.2.2.2.2.2.2.1
theorem dX12_laysWords_120 : decode cX12_laysWords 120 = .ok (.getfield 110, 3) := dGR_32_c_1031.2.2.2.2.2.2.2.2.2.1
theorem dX12_laysWords_123 : decode cX12_laysWords 123 = .ok (.iload 7, 2) := dGR_32_c_1031.2.2.2.2.2.2.2.2.2.2.1
theorem dX12_laysWords_125 : decode cX12_laysWords 125 = .ok (.iaload, 1) := dGR_32_c_1031.2.2.2.2.2.2.2.2.2.2.2
set_option maxRecDepth 100000 in
theorem dGR_32_c_1032 : (decode cX12_laysWords 126 = .ok (.istore 8, 2)) ∧ (decode cX12_laysWords 128 = .ok (.aload_n 0, 1)) ∧ (decode cX12_laysWords 129 = .ok (.iload_n 1, 1)) ∧ (decode cX12_laysWords 130 = .ok (.iconst 0, 1)) ∧ (decode cX12_laysWords 131 = .ok (.iload 7, 2)) ∧ (decode cX12_laysWords 133 = .ok (.iload 8, 2)) ∧ (decode cX12_laysWords 135 = .ok (.invokevirtual 352, 3)) ∧ (decode cX12_laysWords 138 = .ok (.aload_n 0, 1)) ∧ (decode cX12_laysWords 139 = .ok (.iload_n 2, 1)) ∧ (decode cX12_laysWords 140 = .ok (.iconst 1, 1)) ∧ (decode cX12_laysWords 141 = .ok (.iload 7, 2)) ∧ (decode cX12_laysWords 143 = .ok (.iload 8, 2)) := by decide +kernel
theorem dX12_laysWords_126 : decode cX12_laysWords 126 = .ok (.istore 8, 2) := dGR_32_c_1032.1
theorem dX12_laysWords_128 : decode cX12_laysWords 128 = .ok (.aload_n 0, 1) := dGR_32_c_1032.2.1
theorem dX12_laysWords_129 : decode cX12_laysWords 129 = .ok (.iload_n 1, 1) := dGR_32_c_1032.2.2.1
theorem dX12_laysWords_130 : decode cX12_laysWords 130 = .ok (.iconst 0, 1) := dGR_32_c_1032.2.2.2.1
theorem dX12_laysWords_131 : decode cX12_laysWords 131 = .ok (.iload 7, 2) := dGR_32_c_1032.2.2.2.2.1
theorem dX12_laysWords_133 : decode cX12_laysWords 133 = .ok (.iload 8, 2) := dGR_32_c_1032.2.2.2.2.2.1
theorem dX12_laysWords_135 : decode cX12_laysWords 135 = .ok (.invokevirtual 352, 3) := dGR_32_c_1032.2.2.2.2.2.2.1
theorem dX12_laysWords_138 : decode cX12_laysWords 138 = .ok (.aload_n 0, 1) := dGR_32_c_1032.2.2.2.2.2.2.2.1
theorem dX12_laysWords_139 : decode cX12_laysWords 139 = .ok (.iload_n 2, 1) := dGR_32_c_1032.2.2.2.2.2.2.2.2.1
theorem dX12_laysWords_140 : decode cX12_laysWords 140 = .ok (.iconst 1, 1) := dGR_32_c_1032.2.2.2.2.2.2.2.2.2.1
theorem dX12_laysWords_141 : decode cX12_laysWords 141 = .ok (.iload 7, 2) := dGR_32_c_1032.2.2.2.2.2.2.2.2.2.2.1
theorem dX12_laysWords_143 : decode cX12_laysWords 143 = .ok (.iload 8, 2) := dGR_32_c_1032.2.2.2.2.2.2.2.2.2.2.2
set_option maxRecDepth 100000 in
theorem dGR_32_c_1033 : (decode cX12_laysWords 145 = .ok (.invokevirtual 352, 3)) ∧ (decode cX12_laysWords 148 = .ok (.iload 7, 2)) ∧ (decode cX12_laysWords 150 = .ok (.iconst 1, 1)) ∧ (decode cX12_laysWords 151 = .ok (.iadd, 1)) ∧ (decode cX12_laysWords 152 = .ok (.iload_n 3, 1)) ∧ (decode cX12_laysWords 153 = .ok (.if_icmp .ge 17, 3)) ∧ (decode cX12_laysWords 156 = .ok (.iinc 7 1, 3)) ∧ (decode cX12_laysWords 159 = .ok (.aload_n 0, 1)) ∧ (decode cX12_laysWords 160 = .ok (.getfield 110, 3)) ∧ (decode cX12_laysWords 163 = .ok (.iload 7, 2)) ∧ (decode cX12_laysWords 165 = .ok (.iconst (-1), 1)) ∧ (decode cX12_laysWords 166 = .ok (.iastore, 1)) := by decide +kernel
theorem dX12_laysWords_145 : decode cX12_laysWords 145 = .ok (.invokevirtual 352, 3) := dGR_32_c_1033.1
theorem dX12_laysWords_148 : decode cX12_laysWords 148 = .ok (.iload 7, 2) := dGR_32_c_1033.2.1
theorem dX12_laysWords_150 : decode cX12_laysWords 150 = .ok (.iconst 1, 1) := dGR_32_c_1033.2.2.1
theorem dX12_laysWords_151 : decode cX12_laysWords 151 = .ok (.iadd, 1) := dGR_32_c_1033.2.2.2.1
theorem dX12_laysWords_152 : decode cX12_laysWords 152 = .ok (.iload_n 3, 1) := dGR_32_c_1033.2.2.2.2.1
theorem dX12_laysWords_153 : decode cX12_laysWords 153 = .ok (.if_icmp .ge 17, 3) := dGR_32_c_1033.2.2.2.2.2.1
theorem dX12_laysWords_156 : decode cX12_laysWords 156 = .ok (.iinc 7 1, 3) := dGR_32_c_1033.2.2.2.2.2.2.1
theorem dX12_laysWords_159 : decode cX12_laysWords 159 = .ok (.aload_n 0, 1) := dGR_32_c_1033.2.2.2.2.2.2.2.1
theorem dX12_laysWords_160 : decode cX12_laysWords 160 = .ok (.getfield 110, 3) := dGR_32_c_1033.2.2.2.2.2.2.2.2.1
theorem dX12_laysWords_163 : decode cX12_laysWords 163 = .ok (.iload 7, 2) := dGR_32_c_1033.2.2.2.2.2.2.2.2.2.1
theorem dX12_laysWords_165 : decode cX12_laysWords 165 = .ok (.iconst (-1), 1) := dGR_32_c_1033.2.2.2.2.2.2.2.2.2.2.1
theorem dX12_laysWords_166 : decode cX12_laysWords 166 = .ok (.iastore, 1) := dGR_32_c_1033.2.2.2.2.2.2.2.2.2.2.2
set_option maxRecDepth 100000 in
theorem dGR_32_c_1034 : (decode cX12_laysWords 167 = .ok (.goto (-106), 3)) ∧ (decode cX12_laysWords 170 = .ok (.aload_n 0, 1)) ∧ (decode cX12_laysWords 171 = .ok (.iload_n 1, 1)) ∧ (decode cX12_laysWords 172 = .ok (.iload_n 2, 1)) ∧ (decode cX12_laysWords 173 = .ok (.iload_n 3, 1)) ∧ (decode cX12_laysWords 174 = .ok (.iload 4, 2)) ∧ (decode cX12_laysWords 176 = .ok (.invokevirtual 488, 3)) ∧ (decode cX12_laysWords 179 = .ok (.ifCond .ne 6, 3)) ∧ (decode cX12_laysWords 182 = .ok (.goto (-121), 3)) ∧ (decode cX12_laysWords 185 = .ok (.iconst 0, 1)) ∧ (decode cX12_laysWords 186 = .ok (.istore 9, 2)) ∧ (decode cX12_laysWords 188 = .ok (.iload 9, 2)) := by decide +kernel
theorem dX12_laysWords_167 : decode cX12_laysWords 167 = .ok (.goto (-106), 3) := dGR_32_c_1034.1
theorem dX12_laysWords_170 : decode cX12_laysWords 170 = .ok (.aload_n 0, 1) := dGR_32_c_1034.2.1
theorem dX12_laysWords_171 : decode cX12_laysWords 171 = .ok (.iload_n 1, 1) := dGR_32_c_1034.2.2.1
theorem dX12_laysWords_172 : decode cX12_laysWords 172 = .ok (.iload_n 2, 1) := dGR_32_c_1034.2.2.2.1
theorem dX12_laysWords_173 : decode cX12_laysWords 173 = .ok (.iload_n 3, 1) := dGR_32_c_1034.2.2.2.2.1
theorem dX12_laysWords_174 : decode cX12_laysWords 174 = .ok (.iload 4, 2) := dGR_32_c_1034.2.2.2.2.2.1
theorem dX12_laysWords_176 : decode cX12_laysWords 176 = .ok (.invokevirtual 488, 3) := dGR_32_c_1034.2.2.2.2.2.2.1
theorem dX12_laysWords_179 : decode cX12_laysWords 179 = .ok (.ifCond .ne 6, 3) := dGR_32_c_1034.2.2.2.2.2.2.2.1
theorem dX12_laysWords_182 : decode cX12_laysWords 182 = .ok (.goto (-121), 3) := dGR_32_c_1034.2.2.2.2.2.2.2.2.1
theorem dX12_laysWords_185 : decode cX12_laysWords 185 = .ok (.iconst 0, 1) := dGR_32_c_1034.2.2.2.2.2.2.2.2.2.1
theorem dX12_laysWords_186 : decode cX12_laysWords 186 = .ok (.istore 9, 2) := dGR_32_c_1034.2.2.2.2.2.2.2.2.2.2.1
theorem dX12_laysWords_188 : decode cX12_laysWords 188 = .ok (.iload 9, 2) := dGR_32_c_1034.2.2.2.2.2.2.2.2.2.2.2
set_option maxRecDepth 100000 in
theorem dGR_32_c_1035 : (decode cX12_laysWords 190 = .ok (.iload_n 3, 1)) ∧ (decode cX12_laysWords 191 = .ok (.if_icmp .ge 30, 3)) ∧ (decode cX12_laysWords 194 = .ok (.aload_n 0, 1)) ∧ (decode cX12_laysWords 195 = .ok (.getfield 485, 3)) ∧ (decode cX12_laysWords 198 = .ok (.ifCond .ne 23, 3)) ∧ (decode cX12_laysWords 201 = .ok (.aload_n 0, 1)) ∧ (decode cX12_laysWords 202 = .ok (.getfield 107, 3)) ∧ (decode cX12_laysWords 205 = .ok (.iload 9, 2)) ∧ (decode cX12_laysWords 207 = .ok (.aload_n 0, 1)) ∧ (decode cX12_laysWords 208 = .ok (.getfield 56, 3)) ∧ (decode cX12_laysWords 211 = .ok (.iload 9, 2)) ∧ (decode cX12_laysWords 213 = .ok (.iaload, 1)) := by decide +kernel
theorem dX12_laysWords_190 : decode cX12_laysWords 190 = .ok (.iload_n 3, 1) := dGR_32_c_1035.1
theorem dX12_laysWords_191 : decode cX12_laysWords 191 = .ok (.if_icmp .ge 30, 3) := dGR_32_c_1035.2.1
theorem dX12_laysWords_194 : decode cX12_laysWords 194 = .ok (.aload_n 0, 1) := dGR_32_c_1035.2.2.1
theorem dX12_laysWords_195 : decode cX12_laysWords 195 = .ok (.getfield 485, 3) := dGR_32_c_1035.2.2.2.1
theorem dX12_laysWords_198 : decode cX12_laysWords 198 = .ok (.ifCond .ne 23, 3) := dGR_32_c_1035.2.2.2.2.1
theorem dX12_laysWords_201 : decode cX12_laysWords 201 = .ok (.aload_n 0, 1) := dGR_32_c_1035.2.2.2.2.2.1
theorem dX12_laysWords_202 : decode cX12_laysWords 202 = .ok (.getfield 107, 3) := dGR_32_c_1035.2.2.2.2.2.2.1
theorem dX12_laysWords_205 : decode cX12_laysWords 205 = .ok (.iload 9, 2) := dGR_32_c_1035.2.2.2.2.2.2.2.1
theorem dX12_laysWords_207 : decode cX12_laysWords 207 = .ok (.aload_n 0, 1) := dGR_32_c_1035.2.2.2.2.2.2.2.2.1
theorem dX12_laysWords_208 : decode cX12_laysWords 208 = .ok (.getfield 56, 3) := dGR_32_c_1035.2.2.2.2.2.2.2.2.2.1
theorem dX12_laysWords_211 : decode cX12_laysWords 211 = .ok (.iload 9, 2) := dGR_32_c_1035.2.2.2.2.2.2.2.2.2.2.1
theorem dX12_laysWords_213 : decode cX12_laysWords 213 = .ok (.iaload, 1) := dGR_32_c_1035.2.2.2.2.2.2.2.2.2.2.2
set_option maxRecDepth 100000 in
theorem dGR_32_c_1036 : (decode cX12_laysWords 214 = .ok (.iastore, 1)) ∧ (decode cX12_laysWords 215 = .ok (.iinc 9 1, 3)) ∧ (decode cX12_laysWords 218 = .ok (.goto (-30), 3)) ∧ (decode cX12_laysWords 221 = .ok (.aload_n 0, 1)) ∧ (decode cX12_laysWords 222 = .ok (.dup, 1)) ∧ (decode cX12_laysWords 223 = .ok (.getfield 485, 3)) ∧ (decode cX12_laysWords 226 = .ok (.iconst 1, 1)) ∧ (decode cX12_laysWords 227 = .ok (.iadd, 1)) ∧ (decode cX12_laysWords 228 = .ok (.putfield 485, 3)) ∧ (decode cX12_laysWords 231 = .ok (.iload 6, 2)) ∧ (decode cX12_laysWords 233 = .ok (.ifCond .eq 8, 3)) ∧ (decode cX12_laysWords 236 = .ok (.aload_n 0, 1)) := by decide +kernel
theorem dX12_laysWords_214 : decode cX12_laysWords 214 = .ok (.iastore, 1) := dGR_32_c_1036.1
theorem dX12_laysWords_215 : decode cX12_laysWords 215 = .ok (.iinc 9 1, 3) := dGR_32_c_1036.2.1
theorem dX12_laysWords_218 : decode cX12_laysWords 218 = .ok (.goto (-30), 3) := dGR_32_c_1036.2.2.1
theorem dX12_laysWords_221 : decode cX12_laysWords 221 = .ok (.aload_n 0, 1) := dGR_32_c_1036.2.2.2.1
theorem dX12_laysWords_222 : decode cX12_laysWords 222 = .ok (.dup, 1) := dGR_32_c_1036.2.2.2.2.1
theorem dX12_laysWords_223 : decode cX12_laysWords 223 = .ok (.getfield 485, 3) := dGR_32_c_1036.2.2.2.2.2.1
theorem dX12_laysWords_226 : decode cX12_laysWords 226 = .ok (.iconst 1, 1) := dGR_32_c_1036.2.2.2.2.2.2.1
theorem dX12_laysWords_227 : decode cX12_laysWords 227 = .ok (.iadd, 1) := dGR_32_c_1036.2.2.2.2.2.2.2.1
theorem dX12_laysWords_228 : decode cX12_laysWords 228 = .ok (.putfield 485, 3) := dGR_32_c_1036.2.2.2.2.2.2.2.2.1
theorem dX12_laysWords_231 : decode cX12_laysWords 231 = .ok (.iload 6, 2) := dGR_32_c_1036.2.2.2.2.2.2.2.2.2.1
theorem dX12_laysWords_233 : decode cX12_laysWords 233 = .ok (.ifCond .eq 8, 3) := dGR_32_c_1036.2.2.2.2.2.2.2.2.2.2.1
theorem dX12_laysWords_236 : decode cX12_laysWords 236 = .ok (.aload_n 0, 1) := dGR_32_c_1036.2.2.2.2.2.2.2.2.2.2.2
set_option maxRecDepth 100000 in
theorem dGR_32_c_1037 : (decode cX12_laysWords 237 = .ok (.getfield 485, 3)) ∧ (decode cX12_laysWords 240 = .ok (.ireturn, 1)) ∧ (decode cX12_laysWords 241 = .ok (.goto (-180), 3)) ∧ (decode cX12_laysWords 244 = .ok (.aload_n 0, 1)) ∧ (decode cX12_laysWords 245 = .ok (.getfield 485, 3)) ∧ (decode cX12_laysWords 248 = .ok (.ireturn, 1)) := by decide +kernel
theorem dX12_laysWords_237 : decode cX12_laysWords 237 = .ok (.getfield 485, 3) := dGR_32_c_1037.1
theorem dX12_laysWords_240 : decode cX12_laysWords 240 = .ok (.ireturn, 1) := dGR_32_c_1037.2.1
theorem dX12_laysWords_241 : decode cX12_laysWords 241 = .ok (.goto (-180), 3) := dGR_32_c_1037.2.2.1
theorem dX12_laysWords_244 : decode cX12_laysWords 244 = .ok (.aload_n 0, 1) := dGR_32_c_1037.2.2.2.1
theorem dX12_laysWords_245 : decode cX12_laysWords 245 = .ok (.getfield 485, 3) := dGR_32_c_1037.2.2.2.2.1
theorem dX12_laysWords_248 : decode cX12_laysWords 248 = .ok (.ireturn, 1) := dGR_32_c_1037.2.2.2.2.2
abbrev f_c_X12_laysWords : List (Nat × Int) := [(64, 48), (72, -1), (73, -1), (74, -1), (75, -1), (76, -1), (89, -1), (90, -1)]
set_option maxHeartbeats 4000000 in
set_option maxRecDepth 100000 in
theorem c_X12_laysWords (G : KG) (l : Launch) (M : Mem) (a1 : Int) (a2 : Int) (a3 : Int) (a4 : Int) (a5 : Int) (a6 : Int) (hI_M : Inv true M) (hpre : -2147483648 ≤ a1 ∧ a1 ≤ 2147483647 ∧ -2147483648 ≤ a2 ∧ a2 ≤ 2147483647 ∧ -2147483648 ≤ a3 ∧ a3 ≤ 2147483647 ∧ 0 ≤ a4 ∧ a4 ≤ 1 ∧ 0 ≤ a5 ∧ a5 ≤ 1 ∧ 0 ≤ a6 ∧ a6 ≤ 1 ∧ 0 ≤ a1 ∧ a1 ≤ 2 ∧ 0 ≤ a2 ∧ a2 ≤ 2 ∧ 0 ≤ a3 ∧ a3 ≤ 6) : KC true G l yX12_laysWords cX12_laysWords 10 (some .int) (4, 103) [vR G 163, vI a1, vI a2, vI a3, vI a4, vI a5, vI a6] M (fun A => kQi true G A (fun (r : Int) (N : Mem) => Inv true N ∧ Fr f_c_X12_laysWords M N ∧ (r ≥ -2147483648 ∧ r ≤ 2147483647))) := by
  refine kx_met (lo := [some (vR G 163), some (vI a1), some (vI a2), some (vI a3), some (vI a4), some (vI a5), some (vI a6), none, none, none]) (by decide) (Nat.le_of_ble_eq_true rfl) rfl ?_
  intro X F hQ
  have hF_M : Fr f_c_X12_laysWords M M := Fr.rf _ _
  have h_1 := Inv.g hI_M kd_164 rfl 0 (a := 0) (b := 2) (at_c 0 0 (o := 0) (lo := 0) (hi := 2) (by omega) (by decide) (by decide) (by decide)).1 (at_c 0 0 (o := 0) (lo := 0) (hi := 2) (by omega) (by decide) (by decide) (by decide)).2
  have h_2 := Inv.g hI_M kd_164 rfl 1 (a := 0) (b := 2) (at_c 1 0 (o := 1) (lo := 0) (hi := 2) (by omega) (by decide) (by decide) (by decide)).1 (at_c 1 0 (o := 1) (lo := 0) (hi := 2) (by omega) (by decide) (by decide) (by decide)).2
  have h_3 := Inv.g hI_M kd_164 rfl 2 (a := 0) (b := 2) (at_c 2 0 (o := 2) (lo := 0) (hi := 2) (by omega) (by decide) (by decide) (by decide)).1 (at_c 2 0 (o := 2) (lo := 0) (hi := 2) (by omega) (by decide) (by decide) (by decide)).2
  refine kx_iconst 1 F dX12_laysWords_0 rfl ?_
  refine kx_istore 3 F 7 (lo' := [some (vR G 163), some (vI a1), some (vI a2), some (vI a3), some (vI a4), some (vI a5), some (vI a6), some (vI 0), none, none]) dX12_laysWords_1 (by decide) rfl rfl rfl ?_
  refine kx_aload_n 4 F 0 dX12_laysWords_3 rfl rfl rfl ?_
  refine kx_iconst 5 F dX12_laysWords_4 rfl ?_
  refine kx_puti 8 F fw_X12_485 rfl kd_163 rfl rfl (j := 48) rfl dX12_laysWords_5 rfl ?_
  intro N_4 hM_N_4
  have hI_N_4 : Inv true N_4 := Inv.u hI_M hM_N_4 kd_163 (a := (-2147483648)) (b := 2147483647) rfl rfl rfl (by omega)
  have hF_N_4 : Fr f_c_X12_laysWords M N_4 := Fr.u hF_M hM_N_4 kd_163 rfl
  refine kx_aload_n 9 F 0 dX12_laysWords_8 rfl rfl rfl ?_
  refine kx_Vv 12 (ci := 0) F (As := []) (st := []) vd_X12_342 (c_X12_laysRules G l N_4  hI_N_4) kd_163 rfl rfl rfl ⟨by decide, by decide⟩ rfl rfl (Nat.le_of_ble_eq_true rfl) dX12_laysWords_9 rfl ?_
  intro N_5 q_6
  obtain ⟨hI_N_5, hG_N_5⟩ := q_6
  have hF_N_5 : Fr f_c_X12_laysWords M N_5 := Fr.c hF_N_4 hG_N_5 rfl
  refine kx_aload_n 13 F 0 dX12_laysWords_12 rfl rfl rfl ?_
  refine kx_iload_n 14 F 1 dX12_laysWords_13 rfl rfl rfl ?_
  refine kx_iconst 15 F dX12_laysWords_14 rfl ?_
  refine kx_Vv 18 (ci := 0) F (As := [vI a1, vI 0]) (st := []) vd_X12_345 (c_X12_beginsWord G l N_5 a1 0 hI_N_5 (by omega)) kd_163 rfl rfl rfl ⟨by decide, by decide⟩ rfl rfl (Nat.le_of_ble_eq_true rfl) dX12_laysWords_15 rfl ?_
  intro N_7 q_8
  obtain ⟨hI_N_7, hG_N_7, hw_N_7⟩ := q_8
  have hF_N_7 : Fr f_c_X12_laysWords M N_7 := Fr.c hF_N_5 hG_N_7 rfl
  refine kx_aload_n 19 F 0 dX12_laysWords_18 rfl rfl rfl ?_
  refine kx_iload_n 20 F 2 dX12_laysWords_19 rfl rfl rfl ?_
  refine kx_iconst 21 F dX12_laysWords_20 rfl ?_
  refine kx_Vv 24 (ci := 0) F (As := [vI a2, vI 1]) (st := []) vd_X12_345 (c_X12_beginsWord G l N_7 a2 1 hI_N_7 (by omega)) kd_163 rfl rfl rfl ⟨by decide, by decide⟩ rfl rfl (Nat.le_of_ble_eq_true rfl) dX12_laysWords_21 rfl ?_
  intro N_9 q_10
  obtain ⟨hI_N_9, hG_N_9, hw_N_9⟩ := q_10
  have hF_N_9 : Fr f_c_X12_laysWords M N_9 := Fr.c hF_N_7 hG_N_9 rfl
  refine kx_iload_n 25 F 3 dX12_laysWords_24 rfl rfl rfl ?_
  refine kx_if_ne 28 F 54 dX12_laysWords_25 (by decide) rfl (by omega) (fun h_11 => ?_) (fun h_11 => ?_)
  · refine kx_aload_n 55 F 0 dX12_laysWords_54 rfl rfl rfl ?_
    refine kx_getr 58 F fl_X12_110 kd_163 rfl rfl (j := 47) rfl dX12_laysWords_55 (v := 193) (uq_193 (Inv.r hI_N_9 kd_163 rfl 47 rfl rfl)) rfl ?_
    refine kx_iconst 59 F dX12_laysWords_58 rfl ?_
    refine kx_iconst 60 F dX12_laysWords_59 rfl ?_
    refine kx_iast 61 F kd_193 rfl rfl (by omega) (by decide) dX12_laysWords_60 rfl ?_
    intro N_12 hM_N_12
    have hI_N_12 : Inv true N_12 := Inv.u hI_N_9 hM_N_12 kd_193 (a := (-1)) (b := 6) rfl rfl rfl (by omega)
    have hF_N_12 : Fr f_c_X12_laysWords M N_12 := Fr.u hF_N_9 hM_N_12 kd_193 rfl
    have L_327 : ∀ (n_328 : Nat) (x7_325 : Int) (N_326 : Mem), Inv true N_326 → Fr f_c_X12_laysWords M N_326 → WB N_326 x7_325 → TR N_326 x7_325 (M 164 0 + M 164 1 + M 164 2) → (-1) ≤ x7_325 ∧ x7_325 ≤ 5 ∧ x7_325 < a3 → (odm (N_326 193) (M 164 0 + M 164 1 + M 164 2) x7_325).toNat = n_328 → KJ true G X N_326 61 [some (vR G 163), some (vI a1), some (vI a2), some (vI a3), some (vI a4), some (vI a5), some (vI a6), some (vI x7_325), none, none] [] := by
      intro n_328
      refine Nat.strongRecOn n_328 ?_
      intro n_328 ih_329 x7_325 N_326 hI_N_326 hF_N_326 hp_332 hp_333 h_330 hm_331
      refine kx_iload 63 F 7 dX12_laysWords_61 rfl rfl ?_
      refine kx_if_lt 66 F 244 dX12_laysWords_63 (by decide) rfl (by omega) (fun h_334 => ?_) (fun h_334 => ?_)
      · refine kx_aload_n 245 F 0 dX12_laysWords_244 rfl rfl rfl ?_
        refine kx_geti 248 F fl_X12_485 kd_163 rfl rfl (j := 48) rfl dX12_laysWords_245 (v := (N_326 163 48)) rfl rfl ?_
        have h_335 := Inv.g hI_N_326 kd_163 rfl 48 (a := (-2147483648)) (b := 2147483647) rfl rfl
        exact kx_iret F hQ ⟨hI_N_326, hF_N_326, (by omega)⟩ dX12_laysWords_248
      · have h_336 := hp_333 x7_325 (by omega) (by omega)
        have h_337 := odm_n1 (t := N_326 193) (L := (M 164 0 + M 164 1 + M 164 2)) (lev := x7_325) hp_333 (by omega)
        refine kx_aload_n 67 F 0 dX12_laysWords_66 rfl rfl rfl ?_
        refine kx_getr 70 F fl_X12_110 kd_163 rfl rfl (j := 47) rfl dX12_laysWords_67 (v := 193) (uq_193 (Inv.r hI_N_326 kd_163 rfl 47 rfl rfl)) rfl ?_
        refine kx_iload 72 F 7 dX12_laysWords_70 rfl rfl ?_
        refine kx_dup2 73 F dX12_laysWords_72 rfl rfl rfl ?_
        refine kx_iald 74 F kd_193 rfl rfl (by omega) (by decide) dX12_laysWords_73 (v := (N_326 193 x7_325)) rfl rfl ?_
        have h_338 := Inv.g hI_N_326 kd_193 rfl x7_325 (a := (-1)) (b := 6) rfl rfl
        refine kx_iconst 75 F dX12_laysWords_74 rfl ?_
        refine kx_iadd 76 F (v := (N_326 193 x7_325) + 1) dX12_laysWords_75 rfl rfl ?_
        refine kx_iast 77 F kd_193 rfl rfl (by omega) (by decide) dX12_laysWords_76 rfl ?_
        intro N_339 hM_N_339
        have hI_N_339 : Inv true N_339 := Inv.u hI_N_326 hM_N_339 kd_193 (a := (-1)) (b := 6) rfl rfl rfl (by omega)
        have hF_N_339 : Fr f_c_X12_laysWords M N_339 := Fr.u hF_N_326 hM_N_339 kd_193 rfl
        refine kx_aload_n 78 F 0 dX12_laysWords_77 rfl rfl rfl ?_
        refine kx_getr 81 F fl_X12_110 kd_163 rfl rfl (j := 47) rfl dX12_laysWords_78 (v := 193) (uq_193 (Inv.r hI_N_339 kd_163 rfl 47 rfl rfl)) rfl ?_
        refine kx_iload 83 F 7 dX12_laysWords_81 rfl rfl ?_
        refine kx_iald 84 F kd_193 rfl rfl (by omega) (by decide) dX12_laysWords_83 (v := (N_326 193 x7_325) + 1) (by rw [hM_N_339, mu_s]) rfl ?_
        refine kx_aload_n 85 F 0 dX12_laysWords_84 rfl rfl rfl ?_
        refine kx_Vi 88 (ci := 0) F (As := []) (st := [vI ((N_326 193 x7_325) + 1)]) vd_X12_285 (c_lettersE G l N_339  hI_N_339) kd_163 rfl rfl rfl ⟨by decide, by decide⟩ rfl rfl (Nat.le_of_ble_eq_true rfl) dX12_laysWords_85 rfl ?_
        intro r_340 N_341 q_342
        obtain ⟨rfl, q_342c⟩ := q_342
        have e_343 : (N_339 164 0) = (M 164 0) := by rw [hM_N_339, mu_k kd_164 kd_193 rfl, Fr.e hF_N_326 kd_164 _ rfl]
        have e_344 : (N_339 164 1) = (M 164 1) := by rw [hM_N_339, mu_k kd_164 kd_193 rfl, Fr.e hF_N_326 kd_164 _ rfl]
        have e_345 : (N_339 164 2) = (M 164 2) := by rw [hM_N_339, mu_k kd_164 kd_193 rfl, Fr.e hF_N_326 kd_164 _ rfl]
        refine kx_topi (e' := (N_339 164 0) + (N_339 164 1) + (N_339 164 2)) (by omega) ?_
        refine kx_icmp_ne 91 F 97 dX12_laysWords_88 (by decide) rfl (by omega) (by omega) (fun h_349 => ?_) (fun h_349 => ?_)
        · refine kx_iload 99 F 5 dX12_laysWords_97 rfl rfl ?_
          refine kx_if_eq 102 F 119 dX12_laysWords_99 (by decide) rfl (by omega) (fun h_350 => ?_) (fun h_350 => ?_)
          · refine kx_aload_n 120 F 0 dX12_laysWords_119 rfl rfl rfl ?_
            refine kx_getr 123 F fl_X12_110 kd_163 rfl rfl (j := 47) rfl dX12_laysWords_120 (v := 193) (uq_193 (Inv.r hI_N_339 kd_163 rfl 47 rfl rfl)) rfl ?_
            refine kx_iload 125 F 7 dX12_laysWords_123 rfl rfl ?_
            refine kx_iald 126 F kd_193 rfl rfl (by omega) (by decide) dX12_laysWords_125 (v := (N_326 193 x7_325) + 1) (by rw [hM_N_339, mu_s]) rfl ?_
            refine kx_istore 128 F 8 (lo' := [some (vR G 163), some (vI a1), some (vI a2), some (vI a3), some (vI a4), some (vI a5), some (vI a6), some (vI x7_325), some (vI ((N_326 193 x7_325) + 1)), none]) dX12_laysWords_126 (by decide) rfl rfl rfl ?_
            refine kx_aload_n 129 F 0 dX12_laysWords_128 rfl rfl rfl ?_
            refine kx_iload_n 130 F 1 dX12_laysWords_129 rfl rfl rfl ?_
            refine kx_iconst 131 F dX12_laysWords_130 rfl ?_
            refine kx_iload 133 F 7 dX12_laysWords_131 rfl rfl ?_
            refine kx_iload 135 F 8 dX12_laysWords_133 rfl rfl ?_
            have hp_351 : WB N_339 x7_325 := WB.st hp_332 hM_N_339 kd_193 rfl rfl
            refine kx_Vv 138 (ci := 0) F (As := [vI a1, vI 0, vI x7_325, vI ((N_326 193 x7_325) + 1)]) (st := []) vd_X12_352 (c_X12_reads G l N_339 a1 0 x7_325 ((N_326 193 x7_325) + 1) hI_N_339 (by omega) (WB.mono hp_351 (by omega))) kd_163 rfl rfl rfl ⟨by decide, by decide⟩ rfl rfl (Nat.le_of_ble_eq_true rfl) dX12_laysWords_135 rfl ?_
            intro N_352 q_353
            obtain ⟨hI_N_352, hG_N_352, hw_N_352⟩ := q_353
            have hF_N_352 : Fr f_c_X12_laysWords M N_352 := Fr.c hF_N_339 hG_N_352 rfl
            refine kx_aload_n 139 F 0 dX12_laysWords_138 rfl rfl rfl ?_
            refine kx_iload_n 140 F 2 dX12_laysWords_139 rfl rfl rfl ?_
            refine kx_iconst 141 F dX12_laysWords_140 rfl ?_
            refine kx_iload 143 F 7 dX12_laysWords_141 rfl rfl ?_
            refine kx_iload 145 F 8 dX12_laysWords_143 rfl rfl ?_
            refine kx_Vv 148 (ci := 0) F (As := [vI a2, vI 1, vI x7_325, vI ((N_326 193 x7_325) + 1)]) (st := []) vd_X12_352 (c_X12_reads G l N_352 a2 1 x7_325 ((N_326 193 x7_325) + 1) hI_N_352 (by omega) (WB.mono hw_N_352 (by omega))) kd_163 rfl rfl rfl ⟨by decide, by decide⟩ rfl rfl (Nat.le_of_ble_eq_true rfl) dX12_laysWords_145 rfl ?_
            intro N_354 q_355
            obtain ⟨hI_N_354, hG_N_354, hw_N_354⟩ := q_355
            have hF_N_354 : Fr f_c_X12_laysWords M N_354 := Fr.c hF_N_352 hG_N_354 rfl
            refine kx_iload 150 F 7 dX12_laysWords_148 rfl rfl ?_
            refine kx_iconst 151 F dX12_laysWords_150 rfl ?_
            refine kx_iadd 152 F (v := x7_325 + 1) dX12_laysWords_151 rfl rfl ?_
            refine kx_iload_n 153 F 3 dX12_laysWords_152 rfl rfl rfl ?_
            refine kx_icmp_ge 156 F 170 dX12_laysWords_153 (by decide) rfl (by omega) (by omega) (fun h_356 => ?_) (fun h_356 => ?_)
            · refine kx_aload_n 171 F 0 dX12_laysWords_170 rfl rfl rfl ?_
              refine kx_iload_n 172 F 1 dX12_laysWords_171 rfl rfl rfl ?_
              refine kx_iload_n 173 F 2 dX12_laysWords_172 rfl rfl rfl ?_
              refine kx_iload_n 174 F 3 dX12_laysWords_173 rfl rfl rfl ?_
              refine kx_iload 176 F 4 dX12_laysWords_174 rfl rfl ?_
              refine kx_Vi 179 (ci := 0) F (As := [vI a1, vI a2, vI a3, vI a4]) (st := []) vd_X12_488 (c_X12_isWanted G l N_354 a1 a2 a3 a4 hI_N_354 (by omega)) kd_163 rfl rfl rfl ⟨by decide, by decide⟩ rfl rfl (Nat.le_of_ble_eq_true rfl) dX12_laysWords_176 rfl ?_
              intro r_357 N_358 q_359
              obtain ⟨rfl, q_359c⟩ := q_359
              refine kx_if_ne 182 F 185 dX12_laysWords_179 (by decide) rfl (by omega) (fun h_360 => ?_) (fun h_360 => ?_)
              · refine kx_iconst 186 F dX12_laysWords_185 rfl ?_
                refine kx_istore 188 F 9 (lo' := [some (vR G 163), some (vI a1), some (vI a2), some (vI a3), some (vI a4), some (vI a5), some (vI a6), some (vI x7_325), some (vI ((N_326 193 x7_325) + 1)), some (vI 0)]) dX12_laysWords_186 (by decide) rfl rfl rfl ?_
                have L_470 : ∀ (n_471 : Nat) (x9_468 : Int) (N_469 : Mem), Inv true N_469 → Fr f_c_X12_laysWords M N_469 → WB N_469 a3 → TQ N_469 N_326 x7_325 → 0 ≤ x9_468 ∧ x9_468 ≤ 6 → (6 - (x9_468)).toNat = n_471 → KJ true G X N_469 188 [some (vR G 163), some (vI a1), some (vI a2), some (vI a3), some (vI a4), some (vI a5), some (vI a6), some (vI x7_325), none, some (vI x9_468)] [] := by
                  intro n_471
                  refine Nat.strongRecOn n_471 ?_
                  intro n_471 ih_472 x9_468 N_469 hI_N_469 hF_N_469 hp_475 hp_476 h_473 hm_474
                  refine kx_iload 190 F 9 dX12_laysWords_188 rfl rfl ?_
                  refine kx_iload_n 191 F 3 dX12_laysWords_190 rfl rfl rfl ?_
                  refine kx_icmp_ge 194 F 221 dX12_laysWords_191 (by decide) rfl (by omega) (by omega) (fun h_477 => ?_) (fun h_477 => ?_)
                  · refine kx_aload_n 222 F 0 dX12_laysWords_221 rfl rfl rfl ?_
                    refine kx_dup 223 F dX12_laysWords_222 rfl rfl ?_
                    refine kx_geti 226 F fl_X12_485 kd_163 rfl rfl (j := 48) rfl dX12_laysWords_223 (v := (N_469 163 48)) rfl rfl ?_
                    have h_478 := Inv.g hI_N_469 kd_163 rfl 48 (a := (-2147483648)) (b := 2147483647) rfl rfl
                    refine kx_iconst 227 F dX12_laysWords_226 rfl ?_
                    refine kx_iadd 228 F (v := (N_469 163 48) + 1) dX12_laysWords_227 rfl rfl ?_
                    refine kx_wrapi (fun w_479 h_480 _ => ?_)
                    refine kx_puti 231 F fw_X12_485 rfl kd_163 rfl rfl (j := 48) rfl dX12_laysWords_228 rfl ?_
                    intro N_481 hM_N_481
                    have hI_N_481 : Inv true N_481 := Inv.u hI_N_469 hM_N_481 kd_163 (a := (-2147483648)) (b := 2147483647) rfl rfl rfl (by omega)
                    have hF_N_481 : Fr f_c_X12_laysWords M N_481 := Fr.u hF_N_469 hM_N_481 kd_163 rfl
                    refine kx_iload 233 F 6 dX12_laysWords_231 rfl rfl ?_
                    refine kx_if_eq 236 F 241 dX12_laysWords_233 (by decide) rfl (by omega) (fun h_482 => ?_) (fun h_482 => ?_)
                    · refine kx_goto 61 F dX12_laysWords_241 (by decide) ?_
                      refine kx_drop 9 (lo' := [some (vR G 163), some (vI a1), some (vI a2), some (vI a3), some (vI a4), some (vI a5), some (vI a6), some (vI x7_325), none, none]) rfl ?_
                      have hp_483 : WB N_481 a3 := WB.st hp_475 hM_N_481 kd_163 rfl rfl
                      have e_484 : N_481 193 x7_325 = N_326 193 x7_325 + 1 := by rw [hM_N_481, mu_k kd_193 kd_163 rfl]; exact hp_476.2
                      have e_485 : (N_481 193 (x7_325 + 1)) = (N_469 193 (x7_325 + 1)) := by rw [hM_N_481, mu_k kd_193 kd_163 rfl]
                      have h_486 := odm_stay (t := N_326 193) (u := N_481 193) (L := (M 164 0 + M 164 1 + M 164 2)) (lev := x7_325) (by omega) (fun j hj => by rw [hM_N_481, mu_k kd_193 kd_163 rfl]; exact hp_476.1 j hj) e_484
                      exact ih_329 _ (by omega) x7_325 N_481 hI_N_481 hF_N_481 (WB.mono hp_483 (by omega)) (TR.to hp_333 (fun j hj => by rw [hM_N_481, mu_k kd_193 kd_163 rfl]; exact hp_476.1 j hj) (by omega) (Or.inr (Or.inl rfl))) (by omega) rfl
                    · refine kx_aload_n 237 F 0 dX12_laysWords_236 rfl rfl rfl ?_
                      refine kx_geti 240 F fl_X12_485 kd_163 rfl rfl (j := 48) rfl dX12_laysWords_237 (v := w_479) (by rw [hM_N_481, mu_s]) rfl ?_
                      exact kx_iret F hQ ⟨hI_N_481, hF_N_481, (by omega)⟩ dX12_laysWords_240
                  · refine kx_aload_n 195 F 0 dX12_laysWords_194 rfl rfl rfl ?_
                    refine kx_geti 198 F fl_X12_485 kd_163 rfl rfl (j := 48) rfl dX12_laysWords_195 (v := (N_469 163 48)) rfl rfl ?_
                    have h_487 := Inv.g hI_N_469 kd_163 rfl 48 (a := (-2147483648)) (b := 2147483647) rfl rfl
                    refine kx_if_ne 201 F 221 dX12_laysWords_198 (by decide) rfl (by omega) (fun h_488 => ?_) (fun h_488 => ?_)
                    · refine kx_aload_n 222 F 0 dX12_laysWords_221 rfl rfl rfl ?_
                      refine kx_dup 223 F dX12_laysWords_222 rfl rfl ?_
                      refine kx_geti 226 F fl_X12_485 kd_163 rfl rfl (j := 48) rfl dX12_laysWords_223 (v := (N_469 163 48)) rfl rfl ?_
                      refine kx_iconst 227 F dX12_laysWords_226 rfl ?_
                      refine kx_iadd 228 F (v := (N_469 163 48) + 1) dX12_laysWords_227 rfl rfl ?_
                      refine kx_wrapi (fun w_489 h_490 _ => ?_)
                      refine kx_puti 231 F fw_X12_485 rfl kd_163 rfl rfl (j := 48) rfl dX12_laysWords_228 rfl ?_
                      intro N_491 hM_N_491
                      have hI_N_491 : Inv true N_491 := Inv.u hI_N_469 hM_N_491 kd_163 (a := (-2147483648)) (b := 2147483647) rfl rfl rfl (by omega)
                      have hF_N_491 : Fr f_c_X12_laysWords M N_491 := Fr.u hF_N_469 hM_N_491 kd_163 rfl
                      refine kx_iload 233 F 6 dX12_laysWords_231 rfl rfl ?_
                      refine kx_if_eq 236 F 241 dX12_laysWords_233 (by decide) rfl (by omega) (fun h_492 => ?_) (fun h_492 => ?_)
                      · refine kx_goto 61 F dX12_laysWords_241 (by decide) ?_
                        refine kx_drop 9 (lo' := [some (vR G 163), some (vI a1), some (vI a2), some (vI a3), some (vI a4), some (vI a5), some (vI a6), some (vI x7_325), none, none]) rfl ?_
                        have hp_493 : WB N_491 a3 := WB.st hp_475 hM_N_491 kd_163 rfl rfl
                        have e_494 : N_491 193 x7_325 = N_326 193 x7_325 + 1 := by rw [hM_N_491, mu_k kd_193 kd_163 rfl]; exact hp_476.2
                        have e_495 : (N_491 193 (x7_325 + 1)) = (N_469 193 (x7_325 + 1)) := by rw [hM_N_491, mu_k kd_193 kd_163 rfl]
                        have h_496 := odm_stay (t := N_326 193) (u := N_491 193) (L := (M 164 0 + M 164 1 + M 164 2)) (lev := x7_325) (by omega) (fun j hj => by rw [hM_N_491, mu_k kd_193 kd_163 rfl]; exact hp_476.1 j hj) e_494
                        exact ih_329 _ (by omega) x7_325 N_491 hI_N_491 hF_N_491 (WB.mono hp_493 (by omega)) (TR.to hp_333 (fun j hj => by rw [hM_N_491, mu_k kd_193 kd_163 rfl]; exact hp_476.1 j hj) (by omega) (Or.inr (Or.inl rfl))) (by omega) rfl
                      · refine kx_aload_n 237 F 0 dX12_laysWords_236 rfl rfl rfl ?_
                        refine kx_geti 240 F fl_X12_485 kd_163 rfl rfl (j := 48) rfl dX12_laysWords_237 (v := w_489) (by rw [hM_N_491, mu_s]) rfl ?_
                        exact kx_iret F hQ ⟨hI_N_491, hF_N_491, (by omega)⟩ dX12_laysWords_240
                    · refine kx_aload_n 202 F 0 dX12_laysWords_201 rfl rfl rfl ?_
                      refine kx_getr 205 F fl_X12_107 kd_163 rfl rfl (j := 46) rfl dX12_laysWords_202 (v := 192) (uq_192 (Inv.r hI_N_469 kd_163 rfl 46 rfl rfl)) rfl ?_
                      refine kx_iload 207 F 9 dX12_laysWords_205 rfl rfl ?_
                      have h_497 := WB.let hp_475 x9_468 (by omega)
                      refine kx_aload_n 208 F 0 dX12_laysWords_207 rfl rfl rfl ?_
                      refine kx_getr 211 F fl_X12_56 kd_163 rfl rfl (j := 24) rfl dX12_laysWords_208 (v := 175) (uq_175 (Inv.r hI_N_469 kd_163 rfl 24 rfl rfl)) rfl ?_
                      refine kx_iload 213 F 9 dX12_laysWords_211 rfl rfl ?_
                      refine kx_iald 214 F kd_175 rfl rfl (by omega) (by decide) dX12_laysWords_213 (v := (N_469 175 x9_468)) rfl rfl ?_
                      have h_498 := Inv.g hI_N_469 kd_175 rfl x9_468 (a := 0) (b := 19) rfl rfl
                      refine kx_iast 215 F kd_192 rfl rfl (by omega) (by decide) dX12_laysWords_214 rfl ?_
                      intro N_499 hM_N_499
                      have hI_N_499 : Inv true N_499 := Inv.u hI_N_469 hM_N_499 kd_192 (a := 0) (b := 5) rfl rfl rfl (by omega)
                      have hF_N_499 : Fr f_c_X12_laysWords M N_499 := Fr.u hF_N_469 hM_N_499 kd_192 rfl
                      refine kx_iinc 218 F 9 (v := x9_468 + 1) (lo' := [some (vR G 163), some (vI a1), some (vI a2), some (vI a3), some (vI a4), some (vI a5), some (vI a6), some (vI x7_325), none, some (vI (x9_468 + 1))]) dX12_laysWords_215 rfl (by omega) (by decide) rfl rfl rfl ?_
                      refine kx_goto 188 F dX12_laysWords_218 (by decide) ?_
                      have hp_500 : WB N_499 a3 := WB.st hp_475 hM_N_499 kd_192 rfl rfl
                      have e_501 : N_499 193 x7_325 = N_326 193 x7_325 + 1 := by rw [hM_N_499, mu_k kd_193 kd_192 rfl]; exact hp_476.2
                      exact ih_472 _ (by omega) (x9_468 + 1) N_499 hI_N_499 hF_N_499 (WB.mono hp_500 (by omega)) ⟨(fun j hj => by rw [hM_N_499, mu_k kd_193 kd_192 rfl]; exact hp_476.1 j hj), e_501⟩ (by omega) rfl
                refine kx_drop 8 (lo' := [some (vR G 163), some (vI a1), some (vI a2), some (vI a3), some (vI a4), some (vI a5), some (vI a6), some (vI x7_325), none, some (vI 0)]) rfl ?_
                have e_503 : (N_354 193 x7_325) = (N_326 193 x7_325) + 1 := by rw [Fr.e hG_N_354 kd_193 _ rfl, Fr.e hG_N_352 kd_193 _ rfl, hM_N_339, mu_s]
                have e_502 : N_354 193 x7_325 = N_326 193 x7_325 + 1 := by omega
                exact L_470 _ 0 N_354 hI_N_354 hF_N_354 (WB.mono hw_N_354 (by omega)) ⟨(fun j hj => by rw [Fr.e hG_N_354 kd_193 _ rfl, Fr.e hG_N_352 kd_193 _ rfl, hM_N_339, mu_i (by omega)]), e_502⟩ (by omega) rfl
              · refine kx_goto 61 F dX12_laysWords_182 (by decide) ?_
                refine kx_drop 8 (lo' := [some (vR G 163), some (vI a1), some (vI a2), some (vI a3), some (vI a4), some (vI a5), some (vI a6), some (vI x7_325), none, none]) rfl ?_
                have e_505 : (N_354 193 x7_325) = (N_326 193 x7_325) + 1 := by rw [Fr.e hG_N_354 kd_193 _ rfl, Fr.e hG_N_352 kd_193 _ rfl, hM_N_339, mu_s]
                have e_504 : N_354 193 x7_325 = N_326 193 x7_325 + 1 := by omega
                have e_506 : (N_354 193 (x7_325 + 1)) = (N_326 193 (x7_325 + 1)) := by rw [Fr.e hG_N_354 kd_193 _ rfl, Fr.e hG_N_352 kd_193 _ rfl, hM_N_339, mu_i (by omega)]
                have h_507 := odm_stay (t := N_326 193) (u := N_354 193) (L := (M 164 0 + M 164 1 + M 164 2)) (lev := x7_325) (by omega) (fun j hj => by rw [Fr.e hG_N_354 kd_193 _ rfl, Fr.e hG_N_352 kd_193 _ rfl, hM_N_339, mu_i (by omega)]) e_504
                exact ih_329 _ (by omega) x7_325 N_354 hI_N_354 hF_N_354 (WB.mono hw_N_354 (by omega)) (TR.to hp_333 (fun j hj => by rw [Fr.e hG_N_354 kd_193 _ rfl, Fr.e hG_N_352 kd_193 _ rfl, hM_N_339, mu_i (by omega)]) (by omega) (Or.inr (Or.inl rfl))) (by omega) rfl
            · refine kx_iinc 159 F 7 (v := x7_325 + 1) (lo' := [some (vR G 163), some (vI a1), some (vI a2), some (vI a3), some (vI a4), some (vI a5), some (vI a6), some (vI (x7_325 + 1)), some (vI ((N_326 193 x7_325) + 1)), none]) dX12_laysWords_156 rfl (by omega) (by decide) rfl rfl rfl ?_
              refine kx_aload_n 160 F 0 dX12_laysWords_159 rfl rfl rfl ?_
              refine kx_getr 163 F fl_X12_110 kd_163 rfl rfl (j := 47) rfl dX12_laysWords_160 (v := 193) (uq_193 (Inv.r hI_N_354 kd_163 rfl 47 rfl rfl)) rfl ?_
              refine kx_iload 165 F 7 dX12_laysWords_163 rfl rfl ?_
              refine kx_iconst 166 F dX12_laysWords_165 rfl ?_
              refine kx_iast 167 F kd_193 rfl rfl (by omega) (by decide) dX12_laysWords_166 rfl ?_
              intro N_508 hM_N_508
              have hI_N_508 : Inv true N_508 := Inv.u hI_N_354 hM_N_508 kd_193 (a := (-1)) (b := 6) rfl rfl rfl (by omega)
              have hF_N_508 : Fr f_c_X12_laysWords M N_508 := Fr.u hF_N_354 hM_N_508 kd_193 rfl
              refine kx_goto 61 F dX12_laysWords_167 (by decide) ?_
              refine kx_drop 8 (lo' := [some (vR G 163), some (vI a1), some (vI a2), some (vI a3), some (vI a4), some (vI a5), some (vI a6), some (vI (x7_325 + 1)), none, none]) rfl ?_
              have hp_509 : WB N_508 (x7_325 + 1) := WB.st hw_N_354 hM_N_508 kd_193 rfl rfl
              have e_511 : (N_508 193 x7_325) = (N_326 193 x7_325) + 1 := by rw [hM_N_508, mu_i (by omega), Fr.e hG_N_354 kd_193 _ rfl, Fr.e hG_N_352 kd_193 _ rfl, hM_N_339, mu_s]
              have e_510 : N_508 193 x7_325 = N_326 193 x7_325 + 1 := by omega
              have e_512 : (N_508 193 (x7_325 + 1)) = -1 := by rw [hM_N_508, mu_s]
              have h_513 := odm_push (t := N_326 193) (u := N_508 193) (L := (M 164 0 + M 164 1 + M 164 2)) (lev := x7_325) (by omega) (by omega) (fun j hj => by rw [hM_N_508, mu_i (by omega), Fr.e hG_N_354 kd_193 _ rfl, Fr.e hG_N_352 kd_193 _ rfl, hM_N_339, mu_i (by omega)]) e_510 (by omega)
              exact ih_329 _ (by omega) (x7_325 + 1) N_508 hI_N_508 hF_N_508 (WB.mono hp_509 (by omega)) (TR.to hp_333 (fun j hj => by rw [hM_N_508, mu_i (by omega), Fr.e hG_N_354 kd_193 _ rfl, Fr.e hG_N_352 kd_193 _ rfl, hM_N_339, mu_i (by omega)]) (by omega) (Or.inr (Or.inr ⟨rfl, by omega⟩))) (by omega) rfl
          · refine kx_aload_n 103 F 0 dX12_laysWords_102 rfl rfl rfl ?_
            refine kx_Vi 106 (ci := 0) F (As := []) (st := []) vd_X12_285 (c_lettersE G l N_339  hI_N_339) kd_163 rfl rfl rfl ⟨by decide, by decide⟩ rfl rfl (Nat.le_of_ble_eq_true rfl) dX12_laysWords_103 rfl ?_
            intro r_514 N_515 q_516
            obtain ⟨rfl, q_516c⟩ := q_516
            refine kx_topi (e' := (N_339 164 0) + (N_339 164 1) + (N_339 164 2)) (by omega) ?_
            refine kx_iconst 107 F dX12_laysWords_106 rfl ?_
            refine kx_isub 108 F (v := (N_339 164 0) + (N_339 164 1) + (N_339 164 2) - 1) dX12_laysWords_107 rfl rfl ?_
            refine kx_aload_n 109 F 0 dX12_laysWords_108 rfl rfl rfl ?_
            refine kx_getr 112 F fl_X12_110 kd_163 rfl rfl (j := 47) rfl dX12_laysWords_109 (v := 193) (uq_193 (Inv.r hI_N_339 kd_163 rfl 47 rfl rfl)) rfl ?_
            refine kx_iload 114 F 7 dX12_laysWords_112 rfl rfl ?_
            refine kx_iald 115 F kd_193 rfl rfl (by omega) (by decide) dX12_laysWords_114 (v := (N_326 193 x7_325) + 1) (by rw [hM_N_339, mu_s]) rfl ?_
            refine kx_isub 116 F (v := (N_339 164 0) + (N_339 164 1) + (N_339 164 2) - (N_326 193 x7_325) - 2) dX12_laysWords_115 (by omega) rfl ?_
            refine kx_goto 126 F dX12_laysWords_116 (by decide) ?_
            refine kx_istore 128 F 8 (lo' := [some (vR G 163), some (vI a1), some (vI a2), some (vI a3), some (vI a4), some (vI a5), some (vI a6), some (vI x7_325), some (vI ((N_339 164 0) + (N_339 164 1) + (N_339 164 2) - (N_326 193 x7_325) - 2)), none]) dX12_laysWords_126 (by decide) rfl rfl rfl ?_
            refine kx_aload_n 129 F 0 dX12_laysWords_128 rfl rfl rfl ?_
            refine kx_iload_n 130 F 1 dX12_laysWords_129 rfl rfl rfl ?_
            refine kx_iconst 131 F dX12_laysWords_130 rfl ?_
            refine kx_iload 133 F 7 dX12_laysWords_131 rfl rfl ?_
            refine kx_iload 135 F 8 dX12_laysWords_133 rfl rfl ?_
            have hp_529 : WB N_339 x7_325 := WB.st hp_332 hM_N_339 kd_193 rfl rfl
            refine kx_Vv 138 (ci := 0) F (As := [vI a1, vI 0, vI x7_325, vI ((N_339 164 0) + (N_339 164 1) + (N_339 164 2) - (N_326 193 x7_325) - 2)]) (st := []) vd_X12_352 (c_X12_reads G l N_339 a1 0 x7_325 ((N_339 164 0) + (N_339 164 1) + (N_339 164 2) - (N_326 193 x7_325) - 2) hI_N_339 (by omega) (WB.mono hp_529 (by omega))) kd_163 rfl rfl rfl ⟨by decide, by decide⟩ rfl rfl (Nat.le_of_ble_eq_true rfl) dX12_laysWords_135 rfl ?_
            intro N_530 q_531
            obtain ⟨hI_N_530, hG_N_530, hw_N_530⟩ := q_531
            have hF_N_530 : Fr f_c_X12_laysWords M N_530 := Fr.c hF_N_339 hG_N_530 rfl
            refine kx_aload_n 139 F 0 dX12_laysWords_138 rfl rfl rfl ?_
            refine kx_iload_n 140 F 2 dX12_laysWords_139 rfl rfl rfl ?_
            refine kx_iconst 141 F dX12_laysWords_140 rfl ?_
            refine kx_iload 143 F 7 dX12_laysWords_141 rfl rfl ?_
            refine kx_iload 145 F 8 dX12_laysWords_143 rfl rfl ?_
            refine kx_Vv 148 (ci := 0) F (As := [vI a2, vI 1, vI x7_325, vI ((N_339 164 0) + (N_339 164 1) + (N_339 164 2) - (N_326 193 x7_325) - 2)]) (st := []) vd_X12_352 (c_X12_reads G l N_530 a2 1 x7_325 ((N_339 164 0) + (N_339 164 1) + (N_339 164 2) - (N_326 193 x7_325) - 2) hI_N_530 (by omega) (WB.mono hw_N_530 (by omega))) kd_163 rfl rfl rfl ⟨by decide, by decide⟩ rfl rfl (Nat.le_of_ble_eq_true rfl) dX12_laysWords_145 rfl ?_
            intro N_532 q_533
            obtain ⟨hI_N_532, hG_N_532, hw_N_532⟩ := q_533
            have hF_N_532 : Fr f_c_X12_laysWords M N_532 := Fr.c hF_N_530 hG_N_532 rfl
            refine kx_iload 150 F 7 dX12_laysWords_148 rfl rfl ?_
            refine kx_iconst 151 F dX12_laysWords_150 rfl ?_
            refine kx_iadd 152 F (v := x7_325 + 1) dX12_laysWords_151 rfl rfl ?_
            refine kx_iload_n 153 F 3 dX12_laysWords_152 rfl rfl rfl ?_
            refine kx_icmp_ge 156 F 170 dX12_laysWords_153 (by decide) rfl (by omega) (by omega) (fun h_534 => ?_) (fun h_534 => ?_)
            · refine kx_aload_n 171 F 0 dX12_laysWords_170 rfl rfl rfl ?_
              refine kx_iload_n 172 F 1 dX12_laysWords_171 rfl rfl rfl ?_
              refine kx_iload_n 173 F 2 dX12_laysWords_172 rfl rfl rfl ?_
              refine kx_iload_n 174 F 3 dX12_laysWords_173 rfl rfl rfl ?_
              refine kx_iload 176 F 4 dX12_laysWords_174 rfl rfl ?_
              refine kx_Vi 179 (ci := 0) F (As := [vI a1, vI a2, vI a3, vI a4]) (st := []) vd_X12_488 (c_X12_isWanted G l N_532 a1 a2 a3 a4 hI_N_532 (by omega)) kd_163 rfl rfl rfl ⟨by decide, by decide⟩ rfl rfl (Nat.le_of_ble_eq_true rfl) dX12_laysWords_176 rfl ?_
              intro r_535 N_536 q_537
              obtain ⟨rfl, q_537c⟩ := q_537
              refine kx_if_ne 182 F 185 dX12_laysWords_179 (by decide) rfl (by omega) (fun h_538 => ?_) (fun h_538 => ?_)
              · refine kx_iconst 186 F dX12_laysWords_185 rfl ?_
                refine kx_istore 188 F 9 (lo' := [some (vR G 163), some (vI a1), some (vI a2), some (vI a3), some (vI a4), some (vI a5), some (vI a6), some (vI x7_325), some (vI ((N_339 164 0) + (N_339 164 1) + (N_339 164 2) - (N_326 193 x7_325) - 2)), some (vI 0)]) dX12_laysWords_186 (by decide) rfl rfl rfl ?_
                have L_648 : ∀ (n_649 : Nat) (x9_646 : Int) (N_647 : Mem), Inv true N_647 → Fr f_c_X12_laysWords M N_647 → WB N_647 a3 → TQ N_647 N_326 x7_325 → 0 ≤ x9_646 ∧ x9_646 ≤ 6 → (6 - (x9_646)).toNat = n_649 → KJ true G X N_647 188 [some (vR G 163), some (vI a1), some (vI a2), some (vI a3), some (vI a4), some (vI a5), some (vI a6), some (vI x7_325), none, some (vI x9_646)] [] := by
                  intro n_649
                  refine Nat.strongRecOn n_649 ?_
                  intro n_649 ih_650 x9_646 N_647 hI_N_647 hF_N_647 hp_653 hp_654 h_651 hm_652
                  refine kx_iload 190 F 9 dX12_laysWords_188 rfl rfl ?_
                  refine kx_iload_n 191 F 3 dX12_laysWords_190 rfl rfl rfl ?_
                  refine kx_icmp_ge 194 F 221 dX12_laysWords_191 (by decide) rfl (by omega) (by omega) (fun h_655 => ?_) (fun h_655 => ?_)
                  · refine kx_aload_n 222 F 0 dX12_laysWords_221 rfl rfl rfl ?_
                    refine kx_dup 223 F dX12_laysWords_222 rfl rfl ?_
                    refine kx_geti 226 F fl_X12_485 kd_163 rfl rfl (j := 48) rfl dX12_laysWords_223 (v := (N_647 163 48)) rfl rfl ?_
                    have h_656 := Inv.g hI_N_647 kd_163 rfl 48 (a := (-2147483648)) (b := 2147483647) rfl rfl
                    refine kx_iconst 227 F dX12_laysWords_226 rfl ?_
                    refine kx_iadd 228 F (v := (N_647 163 48) + 1) dX12_laysWords_227 rfl rfl ?_
                    refine kx_wrapi (fun w_657 h_658 _ => ?_)
                    refine kx_puti 231 F fw_X12_485 rfl kd_163 rfl rfl (j := 48) rfl dX12_laysWords_228 rfl ?_
                    intro N_659 hM_N_659
                    have hI_N_659 : Inv true N_659 := Inv.u hI_N_647 hM_N_659 kd_163 (a := (-2147483648)) (b := 2147483647) rfl rfl rfl (by omega)
                    have hF_N_659 : Fr f_c_X12_laysWords M N_659 := Fr.u hF_N_647 hM_N_659 kd_163 rfl
                    refine kx_iload 233 F 6 dX12_laysWords_231 rfl rfl ?_
                    refine kx_if_eq 236 F 241 dX12_laysWords_233 (by decide) rfl (by omega) (fun h_660 => ?_) (fun h_660 => ?_)
                    · refine kx_goto 61 F dX12_laysWords_241 (by decide) ?_
                      refine kx_drop 9 (lo' := [some (vR G 163), some (vI a1), some (vI a2), some (vI a3), some (vI a4), some (vI a5), some (vI a6), some (vI x7_325), none, none]) rfl ?_
                      have hp_661 : WB N_659 a3 := WB.st hp_653 hM_N_659 kd_163 rfl rfl
                      have e_662 : N_659 193 x7_325 = N_326 193 x7_325 + 1 := by rw [hM_N_659, mu_k kd_193 kd_163 rfl]; exact hp_654.2
                      have e_663 : (N_659 193 (x7_325 + 1)) = (N_647 193 (x7_325 + 1)) := by rw [hM_N_659, mu_k kd_193 kd_163 rfl]
                      have h_664 := odm_stay (t := N_326 193) (u := N_659 193) (L := (M 164 0 + M 164 1 + M 164 2)) (lev := x7_325) (by omega) (fun j hj => by rw [hM_N_659, mu_k kd_193 kd_163 rfl]; exact hp_654.1 j hj) e_662
                      exact ih_329 _ (by omega) x7_325 N_659 hI_N_659 hF_N_659 (WB.mono hp_661 (by omega)) (TR.to hp_333 (fun j hj => by rw [hM_N_659, mu_k kd_193 kd_163 rfl]; exact hp_654.1 j hj) (by omega) (Or.inr (Or.inl rfl))) (by omega) rfl
                    · refine kx_aload_n 237 F 0 dX12_laysWords_236 rfl rfl rfl ?_
                      refine kx_geti 240 F fl_X12_485 kd_163 rfl rfl (j := 48) rfl dX12_laysWords_237 (v := w_657) (by rw [hM_N_659, mu_s]) rfl ?_
                      exact kx_iret F hQ ⟨hI_N_659, hF_N_659, (by omega)⟩ dX12_laysWords_240
                  · refine kx_aload_n 195 F 0 dX12_laysWords_194 rfl rfl rfl ?_
                    refine kx_geti 198 F fl_X12_485 kd_163 rfl rfl (j := 48) rfl dX12_laysWords_195 (v := (N_647 163 48)) rfl rfl ?_
                    have h_665 := Inv.g hI_N_647 kd_163 rfl 48 (a := (-2147483648)) (b := 2147483647) rfl rfl
                    refine kx_if_ne 201 F 221 dX12_laysWords_198 (by decide) rfl (by omega) (fun h_666 => ?_) (fun h_666 => ?_)
                    · refine kx_aload_n 222 F 0 dX12_laysWords_221 rfl rfl rfl ?_
                      refine kx_dup 223 F dX12_laysWords_222 rfl rfl ?_
                      refine kx_geti 226 F fl_X12_485 kd_163 rfl rfl (j := 48) rfl dX12_laysWords_223 (v := (N_647 163 48)) rfl rfl ?_
                      refine kx_iconst 227 F dX12_laysWords_226 rfl ?_
                      refine kx_iadd 228 F (v := (N_647 163 48) + 1) dX12_laysWords_227 rfl rfl ?_
                      refine kx_wrapi (fun w_667 h_668 _ => ?_)
                      refine kx_puti 231 F fw_X12_485 rfl kd_163 rfl rfl (j := 48) rfl dX12_laysWords_228 rfl ?_
                      intro N_669 hM_N_669
                      have hI_N_669 : Inv true N_669 := Inv.u hI_N_647 hM_N_669 kd_163 (a := (-2147483648)) (b := 2147483647) rfl rfl rfl (by omega)
                      have hF_N_669 : Fr f_c_X12_laysWords M N_669 := Fr.u hF_N_647 hM_N_669 kd_163 rfl
                      refine kx_iload 233 F 6 dX12_laysWords_231 rfl rfl ?_
                      refine kx_if_eq 236 F 241 dX12_laysWords_233 (by decide) rfl (by omega) (fun h_670 => ?_) (fun h_670 => ?_)
                      · refine kx_goto 61 F dX12_laysWords_241 (by decide) ?_
                        refine kx_drop 9 (lo' := [some (vR G 163), some (vI a1), some (vI a2), some (vI a3), some (vI a4), some (vI a5), some (vI a6), some (vI x7_325), none, none]) rfl ?_
                        have hp_671 : WB N_669 a3 := WB.st hp_653 hM_N_669 kd_163 rfl rfl
                        have e_672 : N_669 193 x7_325 = N_326 193 x7_325 + 1 := by rw [hM_N_669, mu_k kd_193 kd_163 rfl]; exact hp_654.2
                        have e_673 : (N_669 193 (x7_325 + 1)) = (N_647 193 (x7_325 + 1)) := by rw [hM_N_669, mu_k kd_193 kd_163 rfl]
                        have h_674 := odm_stay (t := N_326 193) (u := N_669 193) (L := (M 164 0 + M 164 1 + M 164 2)) (lev := x7_325) (by omega) (fun j hj => by rw [hM_N_669, mu_k kd_193 kd_163 rfl]; exact hp_654.1 j hj) e_672
                        exact ih_329 _ (by omega) x7_325 N_669 hI_N_669 hF_N_669 (WB.mono hp_671 (by omega)) (TR.to hp_333 (fun j hj => by rw [hM_N_669, mu_k kd_193 kd_163 rfl]; exact hp_654.1 j hj) (by omega) (Or.inr (Or.inl rfl))) (by omega) rfl
                      · refine kx_aload_n 237 F 0 dX12_laysWords_236 rfl rfl rfl ?_
                        refine kx_geti 240 F fl_X12_485 kd_163 rfl rfl (j := 48) rfl dX12_laysWords_237 (v := w_667) (by rw [hM_N_669, mu_s]) rfl ?_
                        exact kx_iret F hQ ⟨hI_N_669, hF_N_669, (by omega)⟩ dX12_laysWords_240
                    · refine kx_aload_n 202 F 0 dX12_laysWords_201 rfl rfl rfl ?_
                      refine kx_getr 205 F fl_X12_107 kd_163 rfl rfl (j := 46) rfl dX12_laysWords_202 (v := 192) (uq_192 (Inv.r hI_N_647 kd_163 rfl 46 rfl rfl)) rfl ?_
                      refine kx_iload 207 F 9 dX12_laysWords_205 rfl rfl ?_
                      have h_675 := WB.let hp_653 x9_646 (by omega)
                      refine kx_aload_n 208 F 0 dX12_laysWords_207 rfl rfl rfl ?_
                      refine kx_getr 211 F fl_X12_56 kd_163 rfl rfl (j := 24) rfl dX12_laysWords_208 (v := 175) (uq_175 (Inv.r hI_N_647 kd_163 rfl 24 rfl rfl)) rfl ?_
                      refine kx_iload 213 F 9 dX12_laysWords_211 rfl rfl ?_
                      refine kx_iald 214 F kd_175 rfl rfl (by omega) (by decide) dX12_laysWords_213 (v := (N_647 175 x9_646)) rfl rfl ?_
                      have h_676 := Inv.g hI_N_647 kd_175 rfl x9_646 (a := 0) (b := 19) rfl rfl
                      refine kx_iast 215 F kd_192 rfl rfl (by omega) (by decide) dX12_laysWords_214 rfl ?_
                      intro N_677 hM_N_677
                      have hI_N_677 : Inv true N_677 := Inv.u hI_N_647 hM_N_677 kd_192 (a := 0) (b := 5) rfl rfl rfl (by omega)
                      have hF_N_677 : Fr f_c_X12_laysWords M N_677 := Fr.u hF_N_647 hM_N_677 kd_192 rfl
                      refine kx_iinc 218 F 9 (v := x9_646 + 1) (lo' := [some (vR G 163), some (vI a1), some (vI a2), some (vI a3), some (vI a4), some (vI a5), some (vI a6), some (vI x7_325), none, some (vI (x9_646 + 1))]) dX12_laysWords_215 rfl (by omega) (by decide) rfl rfl rfl ?_
                      refine kx_goto 188 F dX12_laysWords_218 (by decide) ?_
                      have hp_678 : WB N_677 a3 := WB.st hp_653 hM_N_677 kd_192 rfl rfl
                      have e_679 : N_677 193 x7_325 = N_326 193 x7_325 + 1 := by rw [hM_N_677, mu_k kd_193 kd_192 rfl]; exact hp_654.2
                      exact ih_650 _ (by omega) (x9_646 + 1) N_677 hI_N_677 hF_N_677 (WB.mono hp_678 (by omega)) ⟨(fun j hj => by rw [hM_N_677, mu_k kd_193 kd_192 rfl]; exact hp_654.1 j hj), e_679⟩ (by omega) rfl
                refine kx_drop 8 (lo' := [some (vR G 163), some (vI a1), some (vI a2), some (vI a3), some (vI a4), some (vI a5), some (vI a6), some (vI x7_325), none, some (vI 0)]) rfl ?_
                have e_681 : (N_532 193 x7_325) = (N_326 193 x7_325) + 1 := by rw [Fr.e hG_N_532 kd_193 _ rfl, Fr.e hG_N_530 kd_193 _ rfl, hM_N_339, mu_s]
                have e_680 : N_532 193 x7_325 = N_326 193 x7_325 + 1 := by omega
                exact L_648 _ 0 N_532 hI_N_532 hF_N_532 (WB.mono hw_N_532 (by omega)) ⟨(fun j hj => by rw [Fr.e hG_N_532 kd_193 _ rfl, Fr.e hG_N_530 kd_193 _ rfl, hM_N_339, mu_i (by omega)]), e_680⟩ (by omega) rfl
              · refine kx_goto 61 F dX12_laysWords_182 (by decide) ?_
                refine kx_drop 8 (lo' := [some (vR G 163), some (vI a1), some (vI a2), some (vI a3), some (vI a4), some (vI a5), some (vI a6), some (vI x7_325), none, none]) rfl ?_
                have e_683 : (N_532 193 x7_325) = (N_326 193 x7_325) + 1 := by rw [Fr.e hG_N_532 kd_193 _ rfl, Fr.e hG_N_530 kd_193 _ rfl, hM_N_339, mu_s]
                have e_682 : N_532 193 x7_325 = N_326 193 x7_325 + 1 := by omega
                have e_684 : (N_532 193 (x7_325 + 1)) = (N_326 193 (x7_325 + 1)) := by rw [Fr.e hG_N_532 kd_193 _ rfl, Fr.e hG_N_530 kd_193 _ rfl, hM_N_339, mu_i (by omega)]
                have h_685 := odm_stay (t := N_326 193) (u := N_532 193) (L := (M 164 0 + M 164 1 + M 164 2)) (lev := x7_325) (by omega) (fun j hj => by rw [Fr.e hG_N_532 kd_193 _ rfl, Fr.e hG_N_530 kd_193 _ rfl, hM_N_339, mu_i (by omega)]) e_682
                exact ih_329 _ (by omega) x7_325 N_532 hI_N_532 hF_N_532 (WB.mono hw_N_532 (by omega)) (TR.to hp_333 (fun j hj => by rw [Fr.e hG_N_532 kd_193 _ rfl, Fr.e hG_N_530 kd_193 _ rfl, hM_N_339, mu_i (by omega)]) (by omega) (Or.inr (Or.inl rfl))) (by omega) rfl
            · refine kx_iinc 159 F 7 (v := x7_325 + 1) (lo' := [some (vR G 163), some (vI a1), some (vI a2), some (vI a3), some (vI a4), some (vI a5), some (vI a6), some (vI (x7_325 + 1)), some (vI ((N_339 164 0) + (N_339 164 1) + (N_339 164 2) - (N_326 193 x7_325) - 2)), none]) dX12_laysWords_156 rfl (by omega) (by decide) rfl rfl rfl ?_
              refine kx_aload_n 160 F 0 dX12_laysWords_159 rfl rfl rfl ?_
              refine kx_getr 163 F fl_X12_110 kd_163 rfl rfl (j := 47) rfl dX12_laysWords_160 (v := 193) (uq_193 (Inv.r hI_N_532 kd_163 rfl 47 rfl rfl)) rfl ?_
              refine kx_iload 165 F 7 dX12_laysWords_163 rfl rfl ?_
              refine kx_iconst 166 F dX12_laysWords_165 rfl ?_
              refine kx_iast 167 F kd_193 rfl rfl (by omega) (by decide) dX12_laysWords_166 rfl ?_
              intro N_686 hM_N_686
              have hI_N_686 : Inv true N_686 := Inv.u hI_N_532 hM_N_686 kd_193 (a := (-1)) (b := 6) rfl rfl rfl (by omega)
              have hF_N_686 : Fr f_c_X12_laysWords M N_686 := Fr.u hF_N_532 hM_N_686 kd_193 rfl
              refine kx_goto 61 F dX12_laysWords_167 (by decide) ?_
              refine kx_drop 8 (lo' := [some (vR G 163), some (vI a1), some (vI a2), some (vI a3), some (vI a4), some (vI a5), some (vI a6), some (vI (x7_325 + 1)), none, none]) rfl ?_
              have hp_687 : WB N_686 (x7_325 + 1) := WB.st hw_N_532 hM_N_686 kd_193 rfl rfl
              have e_689 : (N_686 193 x7_325) = (N_326 193 x7_325) + 1 := by rw [hM_N_686, mu_i (by omega), Fr.e hG_N_532 kd_193 _ rfl, Fr.e hG_N_530 kd_193 _ rfl, hM_N_339, mu_s]
              have e_688 : N_686 193 x7_325 = N_326 193 x7_325 + 1 := by omega
              have e_690 : (N_686 193 (x7_325 + 1)) = -1 := by rw [hM_N_686, mu_s]
              have h_691 := odm_push (t := N_326 193) (u := N_686 193) (L := (M 164 0 + M 164 1 + M 164 2)) (lev := x7_325) (by omega) (by omega) (fun j hj => by rw [hM_N_686, mu_i (by omega), Fr.e hG_N_532 kd_193 _ rfl, Fr.e hG_N_530 kd_193 _ rfl, hM_N_339, mu_i (by omega)]) e_688 (by omega)
              exact ih_329 _ (by omega) (x7_325 + 1) N_686 hI_N_686 hF_N_686 (WB.mono hp_687 (by omega)) (TR.to hp_333 (fun j hj => by rw [hM_N_686, mu_i (by omega), Fr.e hG_N_532 kd_193 _ rfl, Fr.e hG_N_530 kd_193 _ rfl, hM_N_339, mu_i (by omega)]) (by omega) (Or.inr (Or.inr ⟨rfl, by omega⟩))) (by omega) rfl
        · refine kx_iinc 94 F 7 (v := x7_325 - 1) (lo' := [some (vR G 163), some (vI a1), some (vI a2), some (vI a3), some (vI a4), some (vI a5), some (vI a6), some (vI (x7_325 - 1)), none, none]) dX12_laysWords_91 rfl (by omega) (by decide) rfl rfl rfl ?_
          refine kx_goto 61 F dX12_laysWords_94 (by decide) ?_
          have hp_692 : WB N_339 x7_325 := WB.st hp_332 hM_N_339 kd_193 rfl rfl
          have e_694 : (N_339 193 x7_325) = (N_326 193 x7_325) + 1 := by rw [hM_N_339, mu_s]
          have e_693 : N_339 193 x7_325 = N_326 193 x7_325 + 1 := by omega
          have h_695 := odm_pop (t := N_326 193) (u := N_339 193) (L := (M 164 0 + M 164 1 + M 164 2)) (lev := x7_325) (by omega) (fun j hj => by rw [hM_N_339, mu_i (by omega)]) (by omega)
          exact ih_329 _ (by omega) (x7_325 - 1) N_339 hI_N_339 hF_N_339 (WB.mono hp_692 (by omega)) (TR.pop hp_333 (fun j hj => by rw [hM_N_339, mu_i (by omega)])) (by omega) rfl
    have hp_696 : WB N_12 0 := WB.st hw_N_9 hM_N_12 kd_193 rfl rfl
    have e_697 : (N_12 193 0) = -1 := by rw [hM_N_12, mu_s]
    exact L_327 _ 0 N_12 hI_N_12 hF_N_12 (WB.mono hp_696 (by omega)) (TR.nil (by omega)) (by omega) rfl
  · refine kx_aload_n 29 F 0 dX12_laysWords_28 rfl rfl rfl ?_
    refine kx_aload_n 30 F 0 dX12_laysWords_29 rfl rfl rfl ?_
    refine kx_iload_n 31 F 1 dX12_laysWords_30 rfl rfl rfl ?_
    refine kx_iload_n 32 F 2 dX12_laysWords_31 rfl rfl rfl ?_
    refine kx_iconst 33 F dX12_laysWords_32 rfl ?_
    refine kx_iload 35 F 4 dX12_laysWords_33 rfl rfl ?_
    refine kx_Vi 38 (ci := 0) F (As := [vI a1, vI a2, vI 0, vI a4]) (st := [vR G 163]) vd_X12_488 (c_X12_isWanted G l N_9 a1 a2 0 a4 hI_N_9 (by omega)) kd_163 rfl rfl rfl ⟨by decide, by decide⟩ rfl rfl (Nat.le_of_ble_eq_true rfl) dX12_laysWords_35 rfl ?_
    intro r_698 N_699 q_700
    obtain ⟨rfl, q_700c⟩ := q_700
    refine kx_if_eq 41 F 45 dX12_laysWords_38 (by decide) rfl (by omega) (fun h_701 => ?_) (fun h_701 => ?_)
    · refine kx_iconst 46 F dX12_laysWords_45 rfl ?_
      refine kx_puti 49 F fw_X12_485 rfl kd_163 rfl rfl (j := 48) rfl dX12_laysWords_46 rfl ?_
      intro N_702 hM_N_702
      have hI_N_702 : Inv true N_702 := Inv.u hI_N_9 hM_N_702 kd_163 (a := (-2147483648)) (b := 2147483647) rfl rfl rfl (by omega)
      have hF_N_702 : Fr f_c_X12_laysWords M N_702 := Fr.u hF_N_9 hM_N_702 kd_163 rfl
      refine kx_aload_n 50 F 0 dX12_laysWords_49 rfl rfl rfl ?_
      refine kx_geti 53 F fl_X12_485 kd_163 rfl rfl (j := 48) rfl dX12_laysWords_50 (v := 0) (by rw [hM_N_702, mu_s]) rfl ?_
      exact kx_iret F hQ ⟨hI_N_702, hF_N_702, (by omega)⟩ dX12_laysWords_53
    · refine kx_iconst 42 F dX12_laysWords_41 rfl ?_
      refine kx_goto 46 F dX12_laysWords_42 (by decide) ?_
      refine kx_puti 49 F fw_X12_485 rfl kd_163 rfl rfl (j := 48) rfl dX12_laysWords_46 rfl ?_
      intro N_703 hM_N_703
      have hI_N_703 : Inv true N_703 := Inv.u hI_N_9 hM_N_703 kd_163 (a := (-2147483648)) (b := 2147483647) rfl rfl rfl (by omega)
      have hF_N_703 : Fr f_c_X12_laysWords M N_703 := Fr.u hF_N_9 hM_N_703 kd_163 rfl
      refine kx_aload_n 50 F 0 dX12_laysWords_49 rfl rfl rfl ?_
      refine kx_geti 53 F fl_X12_485 kd_163 rfl rfl (j := 48) rfl dX12_laysWords_50 (v := 1) (by rw [hM_N_703, mu_s]) rfl ?_
      exact kx_iret F hQ ⟨hI_N_703, hF_N_703, (by omega)⟩ dX12_laysWords_53
set_option maxRecDepth 100000 in
theorem dGR_32_c_1038 : (decode cX12_wordAt 0 = .ok (.iload_n 3, 1)) ∧ (decode cX12_wordAt 1 = .ok (.iconst (-1), 1)) ∧ (decode cX12_wordAt 2 = .ok (.if_icmp .eq 9, 3)) ∧ (decode cX12_wordAt 5 = .ok (.iload 5, 2)) ∧ (decode cX12_wordAt 7 = .ok (.iload_n 3, 1)) ∧ (decode cX12_wordAt 8 = .ok (.if_icmp .lt 10, 3)) ∧ (decode cX12_wordAt 11 = .ok (.aload_n 0, 1)) ∧ (decode cX12_wordAt 12 = .ok (.bipush 6, 2)) ∧ (decode cX12_wordAt 14 = .ok (.invokevirtual 123, 3)) ∧ (decode cX12_wordAt 17 = .ok (.ireturn, 1)) ∧ (decode cX12_wordAt 18 = .ok (.iload_n 3, 1)) ∧ (decode cX12_wordAt 19 = .ok (.bipush 6, 2)) := by decide +kernel
theorem dX12_wordAt_0 : decode cX12_wordAt 0 = .ok (.iload_n 3, 1) := dGR_32_c_1038.1
theorem dX12_wordAt_1 : decode cX12_wordAt 1 = .ok (.iconst (-1), 1) := dGR_32_c_1038.2.1
theorem dX12_wordAt_2 : decode cX12_wordAt 2 = .ok (.if_icmp .eq 9, 3) := dGR_32_c_1038.2.2.1
theorem dX12_wordAt_5 : decode cX12_wordAt 5 = .ok (.iload 5, 2) := dGR_32_c_1038.2.2.2.1
theorem dX12_wordAt_7 : decode cX12_wordAt 7 = .ok (.iload_n 3, 1) := dGR_32_c_1038.2.2.2.2.1
theorem dX12_wordAt_8 : decode cX12_wordAt 8 = .ok (.if_icmp .lt 10, 3) := dGR_32_c_1038.2.2.2.2.2.1
theorem dX12_wordAt_11 : decode cX12_wordAt 11 = .ok (.aload_n 0, 1) := dGR_32_c_1038.2.2.2.2.2.2.1
theorem dX12_wordAt_12 : decode cX12_wordAt 12 = .ok (.bipush 6, 2) := dGR_32_c_1038.2.2.2.2.2.2.2.1
theorem dX12_wordAt_14 : decode cX12_wordAt 14 = .ok (.invokevirtual 123, 3) := dGR_32_c_1038.2.2.2.2.2.2.2.2.1
theorem dX12_wordAt_17 : decode cX12_wordAt 17 = .ok (.ireturn, 1) := dGR_32_c_1038.2.2.2.2.2.2.2.2.2.1
theorem dX12_wordAt_18 : decode cX12_wordAt 18 = .ok (.iload_n 3, 1) := dGR_32_c_1038.2.2.2.2.2.2.2.2.2.2.1
theorem dX12_wordAt_19 : decode cX12_wordAt 19 = .ok (.bipush 6, 2) := dGR_32_c_1038.2.2.2.2.2.2.2.2.2.2.2
set_option maxRecDepth 100000 in
theorem dGR_32_c_1039 : (decode cX12_wordAt 21 = .ok (.if_icmp .le 10, 3)) ∧ (decode cX12_wordAt 24 = .ok (.aload_n 0, 1)) ∧ (decode cX12_wordAt 25 = .ok (.bipush 7, 2)) ∧ (decode cX12_wordAt 27 = .ok (.invokevirtual 123, 3)) ∧ (decode cX12_wordAt 30 = .ok (.ireturn, 1)) ∧ (decode cX12_wordAt 31 = .ok (.aload_n 0, 1)) ∧ (decode cX12_wordAt 32 = .ok (.iload_n 1, 1)) ∧ (decode cX12_wordAt 33 = .ok (.iload_n 2, 1)) ∧ (decode cX12_wordAt 34 = .ok (.iload_n 3, 1)) ∧ (decode cX12_wordAt 35 = .ok (.iload 4, 2)) ∧ (decode cX12_wordAt 37 = .ok (.iconst 0, 1)) ∧ (decode cX12_wordAt 38 = .ok (.iconst 1, 1)) := by decide +kernel
theorem dX12_wordAt_21 : decode cX12_wordAt 21 = .ok (.if_icmp .le 10, 3) := dGR_32_c_1039.1
theorem dX12_wordAt_24 : decode cX12_wordAt 24 = .ok (.aload_n 0, 1) := dGR_32_c_1039.2.1
theorem dX12_wordAt_25 : decode cX12_wordAt 25 = .ok (.bipush 7, 2) := dGR_32_c_1039.2.2.1
theorem dX12_wordAt_27 : decode cX12_wordAt 27 = .ok (.invokevirtual 123, 3) := dGR_32_c_1039.2.2.2.1
theorem dX12_wordAt_30 : decode cX12_wordAt 30 = .ok (.ireturn, 1) := dGR_32_c_1039.2.2.2.2.1
theorem dX12_wordAt_31 : decode cX12_wordAt 31 = .ok (.aload_n 0, 1) := dGR_32_c_1039.2.2.2.2.2.1
theorem dX12_wordAt_32 : decode cX12_wordAt 32 = .ok (.iload_n 1, 1) := dGR_32_c_1039.2.2.2.2.2.2.1
theorem dX12_wordAt_33 : decode cX12_wordAt 33 = .ok (.iload_n 2, 1) := dGR_32_c_1039.2.2.2.2.2.2.2.1
theorem dX12_wordAt_34 : decode cX12_wordAt 34 = .ok (.iload_n 3, 1) := dGR_32_c_1039.2.2.2.2.2.2.2.2.1
theorem dX12_wordAt_35 : decode cX12_wordAt 35 = .ok (.iload 4, 2) := dGR_32_c_1039.2.2.2.2.2.2.2.2.2.1
theorem dX12_wordAt_37 : decode cX12_wordAt 37 = .ok (.iconst 0, 1) := dGR_32_c_1039.2.2.2.2.2.2.2.2.2.2.1
theorem dX12_wordAt_38 : decode cX12_wordAt 38 = .ok (.iconst 1, 1) := dGR_32_c_1039.2.2.2.2.2.2.2.2.2.2.2
set_option maxRecDepth 100000 in
theorem dGR_32_c_1040 : (decode cX12_wordAt 39 = .ok (.invokevirtual 492, 3)) ∧ (decode cX12_wordAt 42 = .ok (.pop, 1)) ∧ (decode cX12_wordAt 43 = .ok (.aload_n 0, 1)) ∧ (decode cX12_wordAt 44 = .ok (.aload_n 0, 1)) ∧ (decode cX12_wordAt 45 = .ok (.getfield 107, 3)) ∧ (decode cX12_wordAt 48 = .ok (.iload 5, 2)) ∧ (decode cX12_wordAt 50 = .ok (.iaload, 1)) ∧ (decode cX12_wordAt 51 = .ok (.invokevirtual 127, 3)) ∧ (decode cX12_wordAt 54 = .ok (.ireturn, 1)) := by decide +kernel
theorem dX12_wordAt_39 : decode cX12_wordAt 39 = .ok (.invokevirtual 492, 3) := dGR_32_c_1040.1
theorem dX12_wordAt_42 : decode cX12_wordAt 42 = .ok (.pop, 1) := dGR_32_c_1040.2.1
theorem dX12_wordAt_43 : decode cX12_wordAt 43 = .ok (.aload_n 0, 1) := dGR_32_c_1040.2.2.1
theorem dX12_wordAt_44 : decode cX12_wordAt 44 = .ok (.aload_n 0, 1) := dGR_32_c_1040.2.2.2.1
theorem dX12_wordAt_45 : decode cX12_wordAt 45 = .ok (.getfield 107, 3) := dGR_32_c_1040.2.2.2.2.1
theorem dX12_wordAt_48 : decode cX12_wordAt 48 = .ok (.iload 5, 2) := dGR_32_c_1040.2.2.2.2.2.1
theorem dX12_wordAt_50 : decode cX12_wordAt 50 = .ok (.iaload, 1) := dGR_32_c_1040.2.2.2.2.2.2.1
theorem dX12_wordAt_51 : decode cX12_wordAt 51 = .ok (.invokevirtual 127, 3) := dGR_32_c_1040.2.2.2.2.2.2.2.1
theorem dX12_wordAt_54 : decode cX12_wordAt 54 = .ok (.ireturn, 1) := dGR_32_c_1040.2.2.2.2.2.2.2.2
abbrev f_c_X12_wordAt : List (Nat × Int) := [(64, 2), (64, 48), (72, -1), (73, -1), (74, -1), (75, -1), (76, -1), (89, -1), (90, -1)]
set_option maxHeartbeats 4000000 in
set_option maxRecDepth 100000 in
theorem c_X12_wordAt (G : KG) (l : Launch) (M : Mem) (a1 : Int) (a2 : Int) (a3 : Int) (a4 : Int) (a5 : Int) (hI_M : Inv true M) (hpre : -2147483648 ≤ a1 ∧ a1 ≤ 2147483647 ∧ -2147483648 ≤ a2 ∧ a2 ≤ 2147483647 ∧ -2147483648 ≤ a3 ∧ a3 ≤ 2147483647 ∧ 0 ≤ a4 ∧ a4 ≤ 1 ∧ -2147483648 ≤ a5 ∧ a5 ≤ 2147483647 ∧ 0 ≤ a1 ∧ a1 ≤ 2 ∧ 0 ≤ a2 ∧ a2 ≤ 2 ∧ a3 ≥ -1 ∧ 0 ≤ a5) : KC true G l yX12_wordAt cX12_wordAt 6 (some .int) (5, 132) [vR G 163, vI a1, vI a2, vI a3, vI a4, vI a5] M (fun A => kQi true G A (fun (r : Int) (N : Mem) => Inv true N ∧ Fr f_c_X12_wordAt M N ∧ (r ≥ -1 ∧ r ≤ 5))) := by
  refine kx_met (lo := [some (vR G 163), some (vI a1), some (vI a2), some (vI a3), some (vI a4), some (vI a5)]) (by decide) (Nat.le_of_ble_eq_true rfl) rfl ?_
  intro X F hQ
  have hF_M : Fr f_c_X12_wordAt M M := Fr.rf _ _
  refine kx_iload_n 1 F 3 dX12_wordAt_0 rfl rfl rfl ?_
  refine kx_iconst 2 F dX12_wordAt_1 rfl ?_
  refine kx_icmp_eq 5 F 11 dX12_wordAt_2 (by decide) rfl (by omega) (by decide) (fun h_1 => ?_) (fun h_1 => ?_)
  · refine kx_aload_n 12 F 0 dX12_wordAt_11 rfl rfl rfl ?_
    refine kx_bipush 14 F dX12_wordAt_12 (by decide) rfl ?_
    refine kx_Vi 17 (ci := 0) F (As := [vI 6]) (st := []) vd_X12_123 (c_X12_refuse G l M 6 hI_M (by omega)) kd_163 rfl rfl rfl ⟨by decide, by decide⟩ rfl rfl (Nat.le_of_ble_eq_true rfl) dX12_wordAt_14 rfl ?_
    intro r_2 N_3 q_4
    obtain ⟨hI_N_3, hG_N_3, q_4c⟩ := q_4
    have hF_N_3 : Fr f_c_X12_wordAt M N_3 := Fr.c hF_M hG_N_3 rfl
    subst q_4c
    exact kx_iret F hQ ⟨hI_N_3, hF_N_3, (by omega)⟩ dX12_wordAt_17
  · refine kx_iload 7 F 5 dX12_wordAt_5 rfl rfl ?_
    refine kx_iload_n 8 F 3 dX12_wordAt_7 rfl rfl rfl ?_
    refine kx_icmp_lt 11 F 18 dX12_wordAt_8 (by decide) rfl (by omega) (by omega) (fun h_5 => ?_) (fun h_5 => ?_)
    · refine kx_iload_n 19 F 3 dX12_wordAt_18 rfl rfl rfl ?_
      refine kx_bipush 21 F dX12_wordAt_19 (by decide) rfl ?_
      refine kx_icmp_le 24 F 31 dX12_wordAt_21 (by decide) rfl (by omega) (by decide) (fun h_6 => ?_) (fun h_6 => ?_)
      · refine kx_aload_n 32 F 0 dX12_wordAt_31 rfl rfl rfl ?_
        refine kx_iload_n 33 F 1 dX12_wordAt_32 rfl rfl rfl ?_
        refine kx_iload_n 34 F 2 dX12_wordAt_33 rfl rfl rfl ?_
        refine kx_iload_n 35 F 3 dX12_wordAt_34 rfl rfl rfl ?_
        refine kx_iload 37 F 4 dX12_wordAt_35 rfl rfl ?_
        refine kx_iconst 38 F dX12_wordAt_37 rfl ?_
        refine kx_iconst 39 F dX12_wordAt_38 rfl ?_
        refine kx_Vi 42 (ci := 0) F (As := [vI a1, vI a2, vI a3, vI a4, vI 0, vI 1]) (st := []) vd_X12_492 (c_X12_laysWords G l M a1 a2 a3 a4 0 1 hI_M (by omega)) kd_163 rfl rfl rfl ⟨by decide, by decide⟩ rfl rfl (Nat.le_of_ble_eq_true rfl) dX12_wordAt_39 rfl ?_
        intro r_7 N_8 q_9
        obtain ⟨hI_N_8, hG_N_8, q_9c⟩ := q_9
        have hF_N_8 : Fr f_c_X12_wordAt M N_8 := Fr.c hF_M hG_N_8 rfl
        refine kx_pop 43 F dX12_wordAt_42 rfl rfl ?_
        refine kx_aload_n 44 F 0 dX12_wordAt_43 rfl rfl rfl ?_
        refine kx_aload_n 45 F 0 dX12_wordAt_44 rfl rfl rfl ?_
        refine kx_getr 48 F fl_X12_107 kd_163 rfl rfl (j := 46) rfl dX12_wordAt_45 (v := 192) (uq_192 (Inv.r hI_N_8 kd_163 rfl 46 rfl rfl)) rfl ?_
        refine kx_iload 50 F 5 dX12_wordAt_48 rfl rfl ?_
        refine kx_iald 51 F kd_192 rfl rfl (by omega) (by decide) dX12_wordAt_50 (v := (N_8 192 a5)) rfl rfl ?_
        have h_10 := Inv.g hI_N_8 kd_192 rfl a5 (a := 0) (b := 5) rfl rfl
        refine kx_Vi 54 (ci := 0) F (As := [vI (N_8 192 a5)]) (st := []) vd_X12_127 (c_X12_gives G l N_8 (N_8 192 a5) hI_N_8 (by omega)) kd_163 rfl rfl rfl ⟨by decide, by decide⟩ rfl rfl (Nat.le_of_ble_eq_true rfl) dX12_wordAt_51 rfl ?_
        intro r_11 N_12 q_13
        obtain ⟨hI_N_12, hG_N_12, q_13c⟩ := q_13
        have hF_N_12 : Fr f_c_X12_wordAt M N_12 := Fr.c hF_N_8 hG_N_12 rfl
        refine kx_topi (e' := (N_8 192 a5)) (by omega) ?_
        exact kx_iret F hQ ⟨hI_N_12, hF_N_12, (by omega)⟩ dX12_wordAt_54
      · refine kx_aload_n 25 F 0 dX12_wordAt_24 rfl rfl rfl ?_
        refine kx_bipush 27 F dX12_wordAt_25 (by decide) rfl ?_
        refine kx_Vi 30 (ci := 0) F (As := [vI 7]) (st := []) vd_X12_123 (c_X12_refuse G l M 7 hI_M (by omega)) kd_163 rfl rfl rfl ⟨by decide, by decide⟩ rfl rfl (Nat.le_of_ble_eq_true rfl) dX12_wordAt_27 rfl ?_
        intro r_14 N_15 q_16
        obtain ⟨hI_N_15, hG_N_15, q_16c⟩ := q_16
        have hF_N_15 : Fr f_c_X12_wordAt M N_15 := Fr.c hF_M hG_N_15 rfl
        subst q_16c
        exact kx_iret F hQ ⟨hI_N_15, hF_N_15, (by omega)⟩ dX12_wordAt_30
    · refine kx_aload_n 12 F 0 dX12_wordAt_11 rfl rfl rfl ?_
      refine kx_bipush 14 F dX12_wordAt_12 (by decide) rfl ?_
      refine kx_Vi 17 (ci := 0) F (As := [vI 6]) (st := []) vd_X12_123 (c_X12_refuse G l M 6 hI_M (by omega)) kd_163 rfl rfl rfl ⟨by decide, by decide⟩ rfl rfl (Nat.le_of_ble_eq_true rfl) dX12_wordAt_14 rfl ?_
      intro r_17 N_18 q_19
      obtain ⟨hI_N_18, hG_N_18, q_19c⟩ := q_19
      have hF_N_18 : Fr f_c_X12_wordAt M N_18 := Fr.c hF_M hG_N_18 rfl
      subst q_19c
      exact kx_iret F hQ ⟨hI_N_18, hF_N_18, (by omega)⟩ dX12_wordAt_17
set_option maxRecDepth 100000 in
theorem dGR_32_c_1041 : (decode cX12_shortest 0 = .ok (.aload_n 0, 1)) ∧ (decode cX12_shortest 1 = .ok (.iload_n 1, 1)) ∧ (decode cX12_shortest 2 = .ok (.invokevirtual 282, 3)) ∧ (decode cX12_shortest 5 = .ok (.ifCond .eq 16, 3)) ∧ (decode cX12_shortest 8 = .ok (.aload_n 0, 1)) ∧ (decode cX12_shortest 9 = .ok (.aload_n 0, 1)) ∧ (decode cX12_shortest 10 = .ok (.iload_n 1, 1)) ∧ (decode cX12_shortest 11 = .ok (.iconst 2, 1)) ∧ (decode cX12_shortest 12 = .ok (.invokevirtual 496, 3)) ∧ (decode cX12_shortest 15 = .ok (.invokevirtual 294, 3)) ∧ (decode cX12_shortest 18 = .ok (.goto 8, 3)) ∧ (decode cX12_shortest 21 = .ok (.aload_n 0, 1)) := by decide +kernel
theorem dX12_shortest_0 : decode cX12_shortest 0 = .ok (.aload_n 0, 1) := dGR_32_c_1041.1
theorem dX12_shortest_1 : decode cX12_shortest 1 = .ok (.iload_n 1, 1) := dGR_32_c_1041.2.1
theorem dX12_shortest_2 : decode cX12_shortest 2 = .ok (.invokevirtual 282, 3) := dGR_32_c_1041.2.2.1
theorem dX12_shortest_5 : decode cX12_shortest 5 = .ok (.ifCond .eq 16, 3) := dGR_32_c_1041.2.2.2.1
theorem dX12_shortest_8 : decode cX12_shortest 8 = .ok (.aload_n 0, 1) := dGR_32_c_1041.2.2.2.2.1
theorem dX12_shortest_9 : decode cX12_shortest 9 = .ok (.aload_n 0, 1) := dGR_32_c_1041.2.2.2.2.2.1
theorem dX12_shortest_10 : decode cX12_shortest 10 = .ok (.iload_n 1, 1) := dGR_32_c_1041.2.2.2.2.2.2.1
theorem dX12_shortest_11 : decode cX12_shortest 11 = .ok (.iconst 2, 1) := dGR_32_c_1041.2.2.2.2.2.2.2.1
theorem dX12_shortest_12 : decode cX12_shortest 12 = .ok (.invokevirtual 496, 3) := dGR_32_c_1041.2.2.2.2.2.2.2.2.1
theorem dX12_shortest_15 : decode cX12_shortest 15 = .ok (.invokevirtual 294, 3) := dGR_32_c_1041.2.2.2.2.2.2.2.2.2.1
theorem dX12_shortest_18 : decode cX12_shortest 18 = .ok (.goto 8, 3) := dGR_32_c_1041.2.2.2.2.2.2.2.2.2.2.1
theorem dX12_shortest_21 : decode cX12_shortest 21 = .ok (.aload_n 0, 1) := dGR_32_c_1041.2.2.2.2.2.2.2.2.2.2.2
set_option maxRecDepth 100000 in
theorem dGR_32_c_1042 : (decode cX12_shortest 22 = .ok (.iconst 1, 1)) ∧ (decode cX12_shortest 23 = .ok (.invokevirtual 123, 3)) ∧ (decode cX12_shortest 26 = .ok (.ireturn, 1)) := by decide +kernel
theorem dX12_shortest_22 : decode cX12_shortest 22 = .ok (.iconst 1, 1) := dGR_32_c_1042.1
theorem dX12_shortest_23 : decode cX12_shortest 23 = .ok (.invokevirtual 123, 3) := dGR_32_c_1042.2.1
theorem dX12_shortest_26 : decode cX12_shortest 26 = .ok (.ireturn, 1) := dGR_32_c_1042.2.2
abbrev f_c_X12_shortest : List (Nat × Int) := [(64, 2), (72, -1), (83, -1), (84, -1), (85, -1)]
set_option maxHeartbeats 4000000 in
set_option maxRecDepth 100000 in
theorem c_X12_shortest (G : KG) (l : Launch) (M : Mem) (a1 : Int) (hI_M : Inv true M) (hpre : -2147483648 ≤ a1 ∧ a1 ≤ 2147483647) : KC true G l yX12_shortest cX12_shortest 2 (some .int) (7, 164) [vR G 163, vI a1] M (fun A => kQi true G A (fun (r : Int) (N : Mem) => Inv true N ∧ Fr f_c_X12_shortest M N ∧ (r ≥ -2147483648 ∧ r ≤ 2147483647))) := by
  refine kx_met (lo := [some (vR G 163), some (vI a1)]) (by decide) (Nat.le_of_ble_eq_true rfl) rfl ?_
  intro X F hQ
  have hF_M : Fr f_c_X12_shortest M M := Fr.rf _ _
  refine kx_aload_n 1 F 0 dX12_shortest_0 rfl rfl rfl ?_
  refine kx_iload_n 2 F 1 dX12_shortest_1 rfl rfl rfl ?_
  refine kx_Vi 5 (ci := 0) F (As := [vI a1]) (st := []) vd_X12_282 (c_X12_isAutomaton G l M a1 hI_M (by omega)) kd_163 rfl rfl rfl ⟨by decide, by decide⟩ rfl rfl (Nat.le_of_ble_eq_true rfl) dX12_shortest_2 rfl ?_
  intro r_1 N_2 q_3
  obtain ⟨rfl, q_3c⟩ := q_3
  rcases q_3c with q_3c | q_3c
  · refine kx_if_eq 8 F 21 dX12_shortest_5 (by decide) rfl (by omega) (fun h_4 => (by exfalso; omega)) (fun h_4 => ?_)
    refine kx_aload_n 9 F 0 dX12_shortest_8 rfl rfl rfl ?_
    refine kx_aload_n 10 F 0 dX12_shortest_9 rfl rfl rfl ?_
    refine kx_iload_n 11 F 1 dX12_shortest_10 rfl rfl rfl ?_
    refine kx_iconst 12 F dX12_shortest_11 rfl ?_
    refine kx_Vi 15 (ci := 0) F (As := [vI a1, vI 2]) (st := [vR G 163]) vd_X12_496 (c_X12_shortestOf G l M a1 2 hI_M (by omega)) kd_163 rfl rfl rfl ⟨by decide, by decide⟩ rfl rfl (Nat.le_of_ble_eq_true rfl) dX12_shortest_12 rfl ?_
    intro r_5 N_6 q_7
    obtain ⟨hI_N_6, hG_N_6, q_7c⟩ := q_7
    have hF_N_6 : Fr f_c_X12_shortest M N_6 := Fr.c hF_M hG_N_6 rfl
    refine kx_Vi 18 (ci := 0) F (As := [vI r_5]) (st := []) vd_X12_294 (c_X12_orNone G l N_6 r_5 hI_N_6 (by omega)) kd_163 rfl rfl rfl ⟨by decide, by decide⟩ rfl rfl (Nat.le_of_ble_eq_true rfl) dX12_shortest_15 rfl ?_
    intro r_8 N_9 q_10
    obtain ⟨hI_N_9, hG_N_9, q_10c⟩ := q_10
    have hF_N_9 : Fr f_c_X12_shortest M N_9 := Fr.c hF_N_6 hG_N_9 rfl
    refine kx_goto 26 F dX12_shortest_18 (by decide) ?_
    exact kx_iret F hQ ⟨hI_N_9, hF_N_9, (by omega)⟩ dX12_shortest_26
  · refine kx_if_eq 8 F 21 dX12_shortest_5 (by decide) rfl (by omega) (fun h_11 => ?_) (fun h_11 => (by exfalso; omega))
    refine kx_aload_n 22 F 0 dX12_shortest_21 rfl rfl rfl ?_
    refine kx_iconst 23 F dX12_shortest_22 rfl ?_
    refine kx_Vi 26 (ci := 0) F (As := [vI 1]) (st := []) vd_X12_123 (c_X12_refuse G l M 1 hI_M (by omega)) kd_163 rfl rfl rfl ⟨by decide, by decide⟩ rfl rfl (Nat.le_of_ble_eq_true rfl) dX12_shortest_23 rfl ?_
    intro r_12 N_13 q_14
    obtain ⟨hI_N_13, hG_N_13, q_14c⟩ := q_14
    have hF_N_13 : Fr f_c_X12_shortest M N_13 := Fr.c hF_M hG_N_13 rfl
    subst q_14c
    exact kx_iret F hQ ⟨hI_N_13, hF_N_13, (by omega)⟩ dX12_shortest_26
set_option maxRecDepth 100000 in
theorem dGR_32_c_1043 : (decode cX12_shortestAt 0 = .ok (.aload_n 0, 1)) ∧ (decode cX12_shortestAt 1 = .ok (.iload_n 1, 1)) ∧ (decode cX12_shortestAt 2 = .ok (.invokevirtual 282, 3)) ∧ (decode cX12_shortestAt 5 = .ok (.ifCond .eq 7, 3)) ∧ (decode cX12_shortestAt 8 = .ok (.iload_n 2, 1)) ∧ (decode cX12_shortestAt 9 = .ok (.ifCond .ge 9, 3)) ∧ (decode cX12_shortestAt 12 = .ok (.aload_n 0, 1)) ∧ (decode cX12_shortestAt 13 = .ok (.iconst 1, 1)) ∧ (decode cX12_shortestAt 14 = .ok (.invokevirtual 123, 3)) ∧ (decode cX12_shortestAt 17 = .ok (.ireturn, 1)) ∧ (decode cX12_shortestAt 18 = .ok (.aload_n 0, 1)) ∧ (decode cX12_shortestAt 19 = .ok (.iload_n 1, 1)) := by decide +kernel
theorem dX12_shortestAt_0 : decode cX12_shortestAt 0 = .ok (.aload_n 0, 1) := dGR_32_c_1043.1
theorem dX12_shortestAt_1 : decode cX12_shortestAt 1 = .ok (.iload_n 1, 1) := dGR_32_c_1043.2.1
theorem dX12_shortestAt_2 : decode cX12_shortestAt 2 = .ok (.invokevirtual 282, 3) := dGR_32_c_1043.2.2.1
theorem dX12_shortestAt_5 : decode cX12_shortestAt 5 = .ok (.ifCond .eq 7, 3) := dGR_32_c_1043.2.2.2.1
theorem dX12_shortestAt_8 : decode cX12_shortestAt 8 = .ok (.iload_n 2, 1) := dGR_32_c_1043.2.2.2.2.1
theorem dX12_shortestAt_9 : decode cX12_shortestAt 9 = .ok (.ifCond .ge 9, 3) := dGR_32_c_1043.2.2.2.2.2.1
theorem dX12_shortestAt_12 : decode cX12_shortestAt 12 = .ok (.aload_n 0, 1) := dGR_32_c_1043.2.2.2.2.2.2.1
theorem dX12_shortestAt_13 : decode cX12_shortestAt 13 = .ok (.iconst 1, 1) := dGR_32_c_1043.2.2.2.2.2.2.2.1
theorem dX12_shortestAt_14 : decode cX12_shortestAt 14 = .ok (.invokevirtual 123, 3) := dGR_32_c_1043.2.2.2.2.2.2.2.2.1
theorem dX12_shortestAt_17 : decode cX12_shortestAt 17 = .ok (.ireturn, 1) := dGR_32_c_1043.2.2.2.2.2.2.2.2.2.1
theorem dX12_shortestAt_18 : decode cX12_shortestAt 18 = .ok (.aload_n 0, 1) := dGR_32_c_1043.2.2.2.2.2.2.2.2.2.2.1
theorem dX12_shortestAt_19 : decode cX12_shortestAt 19 = .ok (.iload_n 1, 1) := dGR_32_c_1043.2.2.2.2.2.2.2.2.2.2.2
set_option maxRecDepth 100000 in
theorem dGR_32_c_1044 : (decode cX12_shortestAt 20 = .ok (.iconst 2, 1)) ∧ (decode cX12_shortestAt 21 = .ok (.aload_n 0, 1)) ∧ (decode cX12_shortestAt 22 = .ok (.iload_n 1, 1)) ∧ (decode cX12_shortestAt 23 = .ok (.iconst 2, 1)) ∧ (decode cX12_shortestAt 24 = .ok (.invokevirtual 496, 3)) ∧ (decode cX12_shortestAt 27 = .ok (.iconst 1, 1)) ∧ (decode cX12_shortestAt 28 = .ok (.iload_n 2, 1)) ∧ (decode cX12_shortestAt 29 = .ok (.invokevirtual 499, 3)) ∧ (decode cX12_shortestAt 32 = .ok (.ireturn, 1)) := by decide +kernel
theorem dX12_shortestAt_20 : decode cX12_shortestAt 20 = .ok (.iconst 2, 1) := dGR_32_c_1044.1
theorem dX12_shortestAt_21 : decode cX12_shortestAt 21 = .ok (.aload_n 0, 1) := dGR_32_c_1044.2.1
theorem dX12_shortestAt_22 : decode cX12_shortestAt 22 = .ok (.iload_n 1, 1) := dGR_32_c_1044.2.2.1
theorem dX12_shortestAt_23 : decode cX12_shortestAt 23 = .ok (.iconst 2, 1) := dGR_32_c_1044.2.2.2.1
theorem dX12_shortestAt_24 : decode cX12_shortestAt 24 = .ok (.invokevirtual 496, 3) := dGR_32_c_1044.2.2.2.2.1
theorem dX12_shortestAt_27 : decode cX12_shortestAt 27 = .ok (.iconst 1, 1) := dGR_32_c_1044.2.2.2.2.2.1
theorem dX12_shortestAt_28 : decode cX12_shortestAt 28 = .ok (.iload_n 2, 1) := dGR_32_c_1044.2.2.2.2.2.2.1
theorem dX12_shortestAt_29 : decode cX12_shortestAt 29 = .ok (.invokevirtual 499, 3) := dGR_32_c_1044.2.2.2.2.2.2.2.1
theorem dX12_shortestAt_32 : decode cX12_shortestAt 32 = .ok (.ireturn, 1) := dGR_32_c_1044.2.2.2.2.2.2.2.2
abbrev f_c_X12_shortestAt : List (Nat × Int) := [(64, 2), (64, 48), (72, -1), (73, -1), (74, -1), (75, -1), (76, -1), (83, -1), (84, -1), (85, -1), (89, -1), (90, -1)]
set_option maxHeartbeats 4000000 in
set_option maxRecDepth 100000 in
theorem c_X12_shortestAt (G : KG) (l : Launch) (M : Mem) (a1 : Int) (a2 : Int) (hI_M : Inv true M) (hpre : -2147483648 ≤ a1 ∧ a1 ≤ 2147483647 ∧ -2147483648 ≤ a2 ∧ a2 ≤ 2147483647) : KC true G l yX12_shortestAt cX12_shortestAt 3 (some .int) (7, 164) [vR G 163, vI a1, vI a2] M (fun A => kQi true G A (fun (r : Int) (N : Mem) => Inv true N ∧ Fr f_c_X12_shortestAt M N ∧ (r ≥ -1 ∧ r ≤ 5))) := by
  refine kx_met (lo := [some (vR G 163), some (vI a1), some (vI a2)]) (by decide) (Nat.le_of_ble_eq_true rfl) rfl ?_
  intro X F hQ
  have hF_M : Fr f_c_X12_shortestAt M M := Fr.rf _ _
  refine kx_aload_n 1 F 0 dX12_shortestAt_0 rfl rfl rfl ?_
  refine kx_iload_n 2 F 1 dX12_shortestAt_1 rfl rfl rfl ?_
  refine kx_Vi 5 (ci := 0) F (As := [vI a1]) (st := []) vd_X12_282 (c_X12_isAutomaton G l M a1 hI_M (by omega)) kd_163 rfl rfl rfl ⟨by decide, by decide⟩ rfl rfl (Nat.le_of_ble_eq_true rfl) dX12_shortestAt_2 rfl ?_
  intro r_1 N_2 q_3
  obtain ⟨rfl, q_3c⟩ := q_3
  rcases q_3c with q_3c | q_3c
  · refine kx_if_eq 8 F 12 dX12_shortestAt_5 (by decide) rfl (by omega) (fun h_4 => (by exfalso; omega)) (fun h_4 => ?_)
    refine kx_iload_n 9 F 2 dX12_shortestAt_8 rfl rfl rfl ?_
    refine kx_if_ge 12 F 18 dX12_shortestAt_9 (by decide) rfl (by omega) (fun h_5 => ?_) (fun h_5 => ?_)
    · refine kx_aload_n 19 F 0 dX12_shortestAt_18 rfl rfl rfl ?_
      refine kx_iload_n 20 F 1 dX12_shortestAt_19 rfl rfl rfl ?_
      refine kx_iconst 21 F dX12_shortestAt_20 rfl ?_
      refine kx_aload_n 22 F 0 dX12_shortestAt_21 rfl rfl rfl ?_
      refine kx_iload_n 23 F 1 dX12_shortestAt_22 rfl rfl rfl ?_
      refine kx_iconst 24 F dX12_shortestAt_23 rfl ?_
      refine kx_Vi 27 (ci := 0) F (As := [vI a1, vI 2]) (st := [vI 2, vI a1, vR G 163]) vd_X12_496 (c_X12_shortestOf G l M a1 2 hI_M (by omega)) kd_163 rfl rfl rfl ⟨by decide, by decide⟩ rfl rfl (Nat.le_of_ble_eq_true rfl) dX12_shortestAt_24 rfl ?_
      intro r_6 N_7 q_8
      obtain ⟨hI_N_7, hG_N_7, q_8c⟩ := q_8
      have hF_N_7 : Fr f_c_X12_shortestAt M N_7 := Fr.c hF_M hG_N_7 rfl
      refine kx_iconst 28 F dX12_shortestAt_27 rfl ?_
      refine kx_iload_n 29 F 2 dX12_shortestAt_28 rfl rfl rfl ?_
      refine kx_Vi 32 (ci := 0) F (As := [vI a1, vI 2, vI r_6, vI 1, vI a2]) (st := []) vd_X12_499 (c_X12_wordAt G l N_7 a1 2 r_6 1 a2 hI_N_7 (by omega)) kd_163 rfl rfl rfl ⟨by decide, by decide⟩ rfl rfl (Nat.le_of_ble_eq_true rfl) dX12_shortestAt_29 rfl ?_
      intro r_9 N_10 q_11
      obtain ⟨hI_N_10, hG_N_10, q_11c⟩ := q_11
      have hF_N_10 : Fr f_c_X12_shortestAt M N_10 := Fr.c hF_N_7 hG_N_10 rfl
      exact kx_iret F hQ ⟨hI_N_10, hF_N_10, (by omega)⟩ dX12_shortestAt_32
    · refine kx_aload_n 13 F 0 dX12_shortestAt_12 rfl rfl rfl ?_
      refine kx_iconst 14 F dX12_shortestAt_13 rfl ?_
      refine kx_Vi 17 (ci := 0) F (As := [vI 1]) (st := []) vd_X12_123 (c_X12_refuse G l M 1 hI_M (by omega)) kd_163 rfl rfl rfl ⟨by decide, by decide⟩ rfl rfl (Nat.le_of_ble_eq_true rfl) dX12_shortestAt_14 rfl ?_
      intro r_12 N_13 q_14
      obtain ⟨hI_N_13, hG_N_13, q_14c⟩ := q_14
      have hF_N_13 : Fr f_c_X12_shortestAt M N_13 := Fr.c hF_M hG_N_13 rfl
      subst q_14c
      exact kx_iret F hQ ⟨hI_N_13, hF_N_13, (by omega)⟩ dX12_shortestAt_17
  · refine kx_if_eq 8 F 12 dX12_shortestAt_5 (by decide) rfl (by omega) (fun h_15 => ?_) (fun h_15 => (by exfalso; omega))
    refine kx_aload_n 13 F 0 dX12_shortestAt_12 rfl rfl rfl ?_
    refine kx_iconst 14 F dX12_shortestAt_13 rfl ?_
    refine kx_Vi 17 (ci := 0) F (As := [vI 1]) (st := []) vd_X12_123 (c_X12_refuse G l M 1 hI_M (by omega)) kd_163 rfl rfl rfl ⟨by decide, by decide⟩ rfl rfl (Nat.le_of_ble_eq_true rfl) dX12_shortestAt_14 rfl ?_
    intro r_16 N_17 q_18
    obtain ⟨hI_N_17, hG_N_17, q_18c⟩ := q_18
    have hF_N_17 : Fr f_c_X12_shortestAt M N_17 := Fr.c hF_M hG_N_17 rfl
    subst q_18c
    exact kx_iret F hQ ⟨hI_N_17, hF_N_17, (by omega)⟩ dX12_shortestAt_17
set_option maxRecDepth 100000 in
theorem dGR_32_c_1045 : (decode cX12_both 0 = .ok (.aload_n 0, 1)) ∧ (decode cX12_both 1 = .ok (.iload_n 1, 1)) ∧ (decode cX12_both 2 = .ok (.iload_n 2, 1)) ∧ (decode cX12_both 3 = .ok (.invokevirtual 313, 3)) ∧ (decode cX12_both 6 = .ok (.ifCond .eq 16, 3)) ∧ (decode cX12_both 9 = .ok (.aload_n 0, 1)) ∧ (decode cX12_both 10 = .ok (.aload_n 0, 1)) ∧ (decode cX12_both 11 = .ok (.iload_n 1, 1)) ∧ (decode cX12_both 12 = .ok (.iload_n 2, 1)) ∧ (decode cX12_both 13 = .ok (.invokevirtual 496, 3)) ∧ (decode cX12_both 16 = .ok (.invokevirtual 294, 3)) ∧ (decode cX12_both 19 = .ok (.goto 8, 3)) := by decide +kernel
theorem dX12_both_0 : decode cX12_both 0 = .ok (.aload_n 0, 1) := dGR_32_c_1045.1
theorem dX12_both_1 : decode cX12_both 1 = .ok (.iload_n 1, 1) := dGR_32_c_1045.2.1
theorem dX12_both_2 : decode cX12_both 2 = .ok (.iload_n 2, 1) := dGR_32_c_1045.2.2.1
theorem dX12_both_3 : decode cX12_both 3 = .ok (.invokevirtual 313, 3) := dGR_32_c_1045.2.2.2.1
theorem dX12_both_6 : decode cX12_both 6 = .ok (.ifCond .eq 16, 3) := dGR_32_c_1045.2.2.2.2.1
theorem dX12_both_9 : decode cX12_both 9 = .ok (.aload_n 0, 1) := dGR_32_c_1045.2.2.2.2.2.1
theorem dX12_both_10 : decode cX12_both 10 = .ok (.aload_n 0, 1) := dGR_32_c_1045.2.2.2.2.2.2.1
theorem dX12_both_11 : decode cX12_both 11 = .ok (.iload_n 1, 1) := dGR_32_c_1045.2.2.2.2.2.2.2.1
theorem dX12_both_12 : decode cX12_both 12 = .ok (.iload_n 2, 1) := dGR_32_c_1045.2.2.2.2.2.2.2.2.1
theorem dX12_both_13 : decode cX12_both 13 = .ok (.invokevirtual 496, 3) := dGR_32_c_1045.2.2.2.2.2.2.2.2.2.1
theorem dX12_both_16 : decode cX12_both 16 = .ok (.invokevirtual 294, 3) := dGR_32_c_1045.2.2.2.2.2.2.2.2.2.2.1
theorem dX12_both_19 : decode cX12_both 19 = .ok (.goto 8, 3) := dGR_32_c_1045.2.2.2.2.2.2.2.2.2.2.2
set_option maxRecDepth 100000 in
theorem dGR_32_c_1046 : (decode cX12_both 22 = .ok (.aload_n 0, 1)) ∧ (decode cX12_both 23 = .ok (.iconst 1, 1)) ∧ (decode cX12_both 24 = .ok (.invokevirtual 123, 3)) ∧ (decode cX12_both 27 = .ok (.ireturn, 1)) := by decide +kernel
theorem dX12_both_22 : decode cX12_both 22 = .ok (.aload_n 0, 1) := dGR_32_c_1046.1
theorem dX12_both_23 : decode cX12_both 23 = .ok (.iconst 1, 1) := dGR_32_c_1046.2.1
theorem dX12_both_24 : decode cX12_both 24 = .ok (.invokevirtual 123, 3) := dGR_32_c_1046.2.2.1
theorem dX12_both_27 : decode cX12_both 27 = .ok (.ireturn, 1) := dGR_32_c_1046.2.2.2
abbrev f_c_X12_both : List (Nat × Int) := [(64, 2), (72, -1), (83, -1), (84, -1), (85, -1)]
set_option maxHeartbeats 4000000 in
set_option maxRecDepth 100000 in
theorem c_X12_both (G : KG) (l : Launch) (M : Mem) (a1 : Int) (a2 : Int) (hI_M : Inv true M) (hpre : -2147483648 ≤ a1 ∧ a1 ≤ 2147483647 ∧ -2147483648 ≤ a2 ∧ a2 ≤ 2147483647) : KC true G l yX12_both cX12_both 3 (some .int) (7, 164) [vR G 163, vI a1, vI a2] M (fun A => kQi true G A (fun (r : Int) (N : Mem) => Inv true N ∧ Fr f_c_X12_both M N ∧ (r ≥ -2147483648 ∧ r ≤ 2147483647))) := by
  refine kx_met (lo := [some (vR G 163), some (vI a1), some (vI a2)]) (by decide) (Nat.le_of_ble_eq_true rfl) rfl ?_
  intro X F hQ
  have hF_M : Fr f_c_X12_both M M := Fr.rf _ _
  refine kx_aload_n 1 F 0 dX12_both_0 rfl rfl rfl ?_
  refine kx_iload_n 2 F 1 dX12_both_1 rfl rfl rfl ?_
  refine kx_iload_n 3 F 2 dX12_both_2 rfl rfl rfl ?_
  refine kx_Vi 6 (ci := 0) F (As := [vI a1, vI a2]) (st := []) vd_X12_313 (c_X12_areTwo G l M a1 a2 hI_M (by omega)) kd_163 rfl rfl rfl ⟨by decide, by decide⟩ rfl rfl (Nat.le_of_ble_eq_true rfl) dX12_both_3 rfl ?_
  intro r_1 N_2 q_3
  obtain ⟨rfl, q_3c⟩ := q_3
  rcases q_3c with q_3c | q_3c
  · refine kx_if_eq 9 F 22 dX12_both_6 (by decide) rfl (by omega) (fun h_4 => (by exfalso; omega)) (fun h_4 => ?_)
    refine kx_aload_n 10 F 0 dX12_both_9 rfl rfl rfl ?_
    refine kx_aload_n 11 F 0 dX12_both_10 rfl rfl rfl ?_
    refine kx_iload_n 12 F 1 dX12_both_11 rfl rfl rfl ?_
    refine kx_iload_n 13 F 2 dX12_both_12 rfl rfl rfl ?_
    refine kx_Vi 16 (ci := 0) F (As := [vI a1, vI a2]) (st := [vR G 163]) vd_X12_496 (c_X12_shortestOf G l M a1 a2 hI_M (by omega)) kd_163 rfl rfl rfl ⟨by decide, by decide⟩ rfl rfl (Nat.le_of_ble_eq_true rfl) dX12_both_13 rfl ?_
    intro r_5 N_6 q_7
    obtain ⟨hI_N_6, hG_N_6, q_7c⟩ := q_7
    have hF_N_6 : Fr f_c_X12_both M N_6 := Fr.c hF_M hG_N_6 rfl
    refine kx_Vi 19 (ci := 0) F (As := [vI r_5]) (st := []) vd_X12_294 (c_X12_orNone G l N_6 r_5 hI_N_6 (by omega)) kd_163 rfl rfl rfl ⟨by decide, by decide⟩ rfl rfl (Nat.le_of_ble_eq_true rfl) dX12_both_16 rfl ?_
    intro r_8 N_9 q_10
    obtain ⟨hI_N_9, hG_N_9, q_10c⟩ := q_10
    have hF_N_9 : Fr f_c_X12_both M N_9 := Fr.c hF_N_6 hG_N_9 rfl
    refine kx_goto 27 F dX12_both_19 (by decide) ?_
    exact kx_iret F hQ ⟨hI_N_9, hF_N_9, (by omega)⟩ dX12_both_27
  · refine kx_if_eq 9 F 22 dX12_both_6 (by decide) rfl (by omega) (fun h_11 => ?_) (fun h_11 => (by exfalso; omega))
    refine kx_aload_n 23 F 0 dX12_both_22 rfl rfl rfl ?_
    refine kx_iconst 24 F dX12_both_23 rfl ?_
    refine kx_Vi 27 (ci := 0) F (As := [vI 1]) (st := []) vd_X12_123 (c_X12_refuse G l M 1 hI_M (by omega)) kd_163 rfl rfl rfl ⟨by decide, by decide⟩ rfl rfl (Nat.le_of_ble_eq_true rfl) dX12_both_24 rfl ?_
    intro r_12 N_13 q_14
    obtain ⟨hI_N_13, hG_N_13, q_14c⟩ := q_14
    have hF_N_13 : Fr f_c_X12_both M N_13 := Fr.c hF_M hG_N_13 rfl
    subst q_14c
    exact kx_iret F hQ ⟨hI_N_13, hF_N_13, (by omega)⟩ dX12_both_27
set_option maxRecDepth 100000 in
theorem dGR_32_c_1047 : (decode cX12_bothAt 0 = .ok (.aload_n 0, 1)) ∧ (decode cX12_bothAt 1 = .ok (.iload_n 1, 1)) ∧ (decode cX12_bothAt 2 = .ok (.iload_n 2, 1)) ∧ (decode cX12_bothAt 3 = .ok (.invokevirtual 313, 3)) ∧ (decode cX12_bothAt 6 = .ok (.ifCond .eq 7, 3)) ∧ (decode cX12_bothAt 9 = .ok (.iload_n 3, 1)) ∧ (decode cX12_bothAt 10 = .ok (.ifCond .ge 9, 3)) ∧ (decode cX12_bothAt 13 = .ok (.aload_n 0, 1)) ∧ (decode cX12_bothAt 14 = .ok (.iconst 1, 1)) ∧ (decode cX12_bothAt 15 = .ok (.invokevirtual 123, 3)) ∧ (decode cX12_bothAt 18 = .ok (.ireturn, 1)) ∧ (decode cX12_bothAt 19 = .ok (.aload_n 0, 1)) := by decide +kernel
theorem dX12_bothAt_0 : decode cX12_bothAt 0 = .ok (.aload_n 0, 1) := dGR_32_c_1047.1
theorem dX12_bothAt_1 : decode cX12_bothAt 1 = .ok (.iload_n 1, 1) := dGR_32_c_1047.2.1
theorem dX12_bothAt_2 : decode cX12_bothAt 2 = .ok (.iload_n 2, 1) := dGR_32_c_1047.2.2.1
theorem dX12_bothAt_3 : decode cX12_bothAt 3 = .ok (.invokevirtual 313, 3) := dGR_32_c_1047.2.2.2.1
theorem dX12_bothAt_6 : decode cX12_bothAt 6 = .ok (.ifCond .eq 7, 3) := dGR_32_c_1047.2.2.2.2.1
theorem dX12_bothAt_9 : decode cX12_bothAt 9 = .ok (.iload_n 3, 1) := dGR_32_c_1047.2.2.2.2.2.1
theorem dX12_bothAt_10 : decode cX12_bothAt 10 = .ok (.ifCond .ge 9, 3) := dGR_32_c_1047.2.2.2.2.2.2.1
theorem dX12_bothAt_13 : decode cX12_bothAt 13 = .ok (.aload_n 0, 1) := dGR_32_c_1047.2.2.2.2.2.2.2.1
theorem dX12_bothAt_14 : decode cX12_bothAt 14 = .ok (.iconst 1, 1) := dGR_32_c_1047.2.2.2.2.2.2.2.2.1
theorem dX12_bothAt_15 : decode cX12_bothAt 15 = .ok (.invokevirtual 123, 3) := dGR_32_c_1047.2.2.2.2.2.2.2.2.2.1
theorem dX12_bothAt_18 : decode cX12_bothAt 18 = .ok (.ireturn, 1) := dGR_32_c_1047.2.2.2.2.2.2.2.2.2.2.1
theorem dX12_bothAt_19 : decode cX12_bothAt 19 = .ok (.aload_n 0, 1) := dGR_32_c_1047.2.2.2.2.2.2.2.2.2.2.2
set_option maxRecDepth 100000 in
theorem dGR_32_c_1048 : (decode cX12_bothAt 20 = .ok (.iload_n 1, 1)) ∧ (decode cX12_bothAt 21 = .ok (.iload_n 2, 1)) ∧ (decode cX12_bothAt 22 = .ok (.aload_n 0, 1)) ∧ (decode cX12_bothAt 23 = .ok (.iload_n 1, 1)) ∧ (decode cX12_bothAt 24 = .ok (.iload_n 2, 1)) ∧ (decode cX12_bothAt 25 = .ok (.invokevirtual 496, 3)) ∧ (decode cX12_bothAt 28 = .ok (.iconst 1, 1)) ∧ (decode cX12_bothAt 29 = .ok (.iload_n 3, 1)) ∧ (decode cX12_bothAt 30 = .ok (.invokevirtual 499, 3)) ∧ (decode cX12_bothAt 33 = .ok (.ireturn, 1)) := by decide +kernel
theorem dX12_bothAt_20 : decode cX12_bothAt 20 = .ok (.iload_n 1, 1) := dGR_32_c_1048.1
theorem dX12_bothAt_21 : decode cX12_bothAt 21 = .ok (.iload_n 2, 1) := dGR_32_c_1048.2.1
theorem dX12_bothAt_22 : decode cX12_bothAt 22 = .ok (.aload_n 0, 1) := dGR_32_c_1048.2.2.1
theorem dX12_bothAt_23 : decode cX12_bothAt 23 = .ok (.iload_n 1, 1) := dGR_32_c_1048.2.2.2.1
theorem dX12_bothAt_24 : decode cX12_bothAt 24 = .ok (.iload_n 2, 1) := dGR_32_c_1048.2.2.2.2.1
theorem dX12_bothAt_25 : decode cX12_bothAt 25 = .ok (.invokevirtual 496, 3) := dGR_32_c_1048.2.2.2.2.2.1
theorem dX12_bothAt_28 : decode cX12_bothAt 28 = .ok (.iconst 1, 1) := dGR_32_c_1048.2.2.2.2.2.2.1
theorem dX12_bothAt_29 : decode cX12_bothAt 29 = .ok (.iload_n 3, 1) := dGR_32_c_1048.2.2.2.2.2.2.2.1
theorem dX12_bothAt_30 : decode cX12_bothAt 30 = .ok (.invokevirtual 499, 3) := dGR_32_c_1048.2.2.2.2.2.2.2.2.1
theorem dX12_bothAt_33 : decode cX12_bothAt 33 = .ok (.ireturn, 1) := dGR_32_c_1048.2.2.2.2.2.2.2.2.2
abbrev f_c_X12_bothAt : List (Nat × Int) := [(64, 2), (64, 48), (72, -1), (73, -1), (74, -1), (75, -1), (76, -1), (83, -1), (84, -1), (85, -1), (89, -1), (90, -1)]
set_option maxHeartbeats 4000000 in
set_option maxRecDepth 100000 in
theorem c_X12_bothAt (G : KG) (l : Launch) (M : Mem) (a1 : Int) (a2 : Int) (a3 : Int) (hI_M : Inv true M) (hpre : -2147483648 ≤ a1 ∧ a1 ≤ 2147483647 ∧ -2147483648 ≤ a2 ∧ a2 ≤ 2147483647 ∧ -2147483648 ≤ a3 ∧ a3 ≤ 2147483647) : KC true G l yX12_bothAt cX12_bothAt 4 (some .int) (7, 164) [vR G 163, vI a1, vI a2, vI a3] M (fun A => kQi true G A (fun (r : Int) (N : Mem) => Inv true N ∧ Fr f_c_X12_bothAt M N ∧ (r ≥ -1 ∧ r ≤ 5))) := by
  refine kx_met (lo := [some (vR G 163), some (vI a1), some (vI a2), some (vI a3)]) (by decide) (Nat.le_of_ble_eq_true rfl) rfl ?_
  intro X F hQ
  have hF_M : Fr f_c_X12_bothAt M M := Fr.rf _ _
  refine kx_aload_n 1 F 0 dX12_bothAt_0 rfl rfl rfl ?_
  refine kx_iload_n 2 F 1 dX12_bothAt_1 rfl rfl rfl ?_
  refine kx_iload_n 3 F 2 dX12_bothAt_2 rfl rfl rfl ?_
  refine kx_Vi 6 (ci := 0) F (As := [vI a1, vI a2]) (st := []) vd_X12_313 (c_X12_areTwo G l M a1 a2 hI_M (by omega)) kd_163 rfl rfl rfl ⟨by decide, by decide⟩ rfl rfl (Nat.le_of_ble_eq_true rfl) dX12_bothAt_3 rfl ?_
  intro r_1 N_2 q_3
  obtain ⟨rfl, q_3c⟩ := q_3
  rcases q_3c with q_3c | q_3c
  · refine kx_if_eq 9 F 13 dX12_bothAt_6 (by decide) rfl (by omega) (fun h_4 => (by exfalso; omega)) (fun h_4 => ?_)
    refine kx_iload_n 10 F 3 dX12_bothAt_9 rfl rfl rfl ?_
    refine kx_if_ge 13 F 19 dX12_bothAt_10 (by decide) rfl (by omega) (fun h_5 => ?_) (fun h_5 => ?_)
    · refine kx_aload_n 20 F 0 dX12_bothAt_19 rfl rfl rfl ?_
      refine kx_iload_n 21 F 1 dX12_bothAt_20 rfl rfl rfl ?_
      refine kx_iload_n 22 F 2 dX12_bothAt_21 rfl rfl rfl ?_
      refine kx_aload_n 23 F 0 dX12_bothAt_22 rfl rfl rfl ?_
      refine kx_iload_n 24 F 1 dX12_bothAt_23 rfl rfl rfl ?_
      refine kx_iload_n 25 F 2 dX12_bothAt_24 rfl rfl rfl ?_
      refine kx_Vi 28 (ci := 0) F (As := [vI a1, vI a2]) (st := [vI a2, vI a1, vR G 163]) vd_X12_496 (c_X12_shortestOf G l M a1 a2 hI_M (by omega)) kd_163 rfl rfl rfl ⟨by decide, by decide⟩ rfl rfl (Nat.le_of_ble_eq_true rfl) dX12_bothAt_25 rfl ?_
      intro r_6 N_7 q_8
      obtain ⟨hI_N_7, hG_N_7, q_8c⟩ := q_8
      have hF_N_7 : Fr f_c_X12_bothAt M N_7 := Fr.c hF_M hG_N_7 rfl
      refine kx_iconst 29 F dX12_bothAt_28 rfl ?_
      refine kx_iload_n 30 F 3 dX12_bothAt_29 rfl rfl rfl ?_
      refine kx_Vi 33 (ci := 0) F (As := [vI a1, vI a2, vI r_6, vI 1, vI a3]) (st := []) vd_X12_499 (c_X12_wordAt G l N_7 a1 a2 r_6 1 a3 hI_N_7 (by omega)) kd_163 rfl rfl rfl ⟨by decide, by decide⟩ rfl rfl (Nat.le_of_ble_eq_true rfl) dX12_bothAt_30 rfl ?_
      intro r_9 N_10 q_11
      obtain ⟨hI_N_10, hG_N_10, q_11c⟩ := q_11
      have hF_N_10 : Fr f_c_X12_bothAt M N_10 := Fr.c hF_N_7 hG_N_10 rfl
      exact kx_iret F hQ ⟨hI_N_10, hF_N_10, (by omega)⟩ dX12_bothAt_33
    · refine kx_aload_n 14 F 0 dX12_bothAt_13 rfl rfl rfl ?_
      refine kx_iconst 15 F dX12_bothAt_14 rfl ?_
      refine kx_Vi 18 (ci := 0) F (As := [vI 1]) (st := []) vd_X12_123 (c_X12_refuse G l M 1 hI_M (by omega)) kd_163 rfl rfl rfl ⟨by decide, by decide⟩ rfl rfl (Nat.le_of_ble_eq_true rfl) dX12_bothAt_15 rfl ?_
      intro r_12 N_13 q_14
      obtain ⟨hI_N_13, hG_N_13, q_14c⟩ := q_14
      have hF_N_13 : Fr f_c_X12_bothAt M N_13 := Fr.c hF_M hG_N_13 rfl
      subst q_14c
      exact kx_iret F hQ ⟨hI_N_13, hF_N_13, (by omega)⟩ dX12_bothAt_18
  · refine kx_if_eq 9 F 13 dX12_bothAt_6 (by decide) rfl (by omega) (fun h_15 => ?_) (fun h_15 => (by exfalso; omega))
    refine kx_aload_n 14 F 0 dX12_bothAt_13 rfl rfl rfl ?_
    refine kx_iconst 15 F dX12_bothAt_14 rfl ?_
    refine kx_Vi 18 (ci := 0) F (As := [vI 1]) (st := []) vd_X12_123 (c_X12_refuse G l M 1 hI_M (by omega)) kd_163 rfl rfl rfl ⟨by decide, by decide⟩ rfl rfl (Nat.le_of_ble_eq_true rfl) dX12_bothAt_15 rfl ?_
    intro r_16 N_17 q_18
    obtain ⟨hI_N_17, hG_N_17, q_18c⟩ := q_18
    have hF_N_17 : Fr f_c_X12_bothAt M N_17 := Fr.c hF_M hG_N_17 rfl
    subst q_18c
    exact kx_iret F hQ ⟨hI_N_17, hF_N_17, (by omega)⟩ dX12_bothAt_18
set_option maxRecDepth 100000 in
theorem dGR_32_c_1049 : (decode cX12_isCount 0 = .ok (.aload_n 0, 1)) ∧ (decode cX12_isCount 1 = .ok (.iload_n 1, 1)) ∧ (decode cX12_isCount 2 = .ok (.invokevirtual 282, 3)) ∧ (decode cX12_isCount 5 = .ok (.ifCond .eq 20, 3)) ∧ (decode cX12_isCount 8 = .ok (.iload_n 2, 1)) ∧ (decode cX12_isCount 9 = .ok (.i2l, 1)) ∧ (decode cX12_isCount 10 = .ok (.iload_n 3, 1)) ∧ (decode cX12_isCount 11 = .ok (.i2l, 1)) ∧ (decode cX12_isCount 12 = .ok (.ldc2_w 506, 3)) ∧ (decode cX12_isCount 15 = .ok (.invokestatic 338, 3)) ∧ (decode cX12_isCount 18 = .ok (.ifCond .eq 7, 3)) ∧ (decode cX12_isCount 21 = .ok (.iconst 1, 1)) := by decide +kernel
theorem dX12_isCount_0 : decode cX12_isCount 0 = .ok (.aload_n 0, 1) := dGR_32_c_1049.1
theorem dX12_isCount_1 : decode cX12_isCount 1 = .ok (.iload_n 1, 1) := dGR_32_c_1049.2.1
theorem dX12_isCount_2 : decode cX12_isCount 2 = .ok (.invokevirtual 282, 3) := dGR_32_c_1049.2.2.1
theorem dX12_isCount_5 : decode cX12_isCount 5 = .ok (.ifCond .eq 20, 3) := dGR_32_c_1049.2.2.2.1
theorem dX12_isCount_8 : decode cX12_isCount 8 = .ok (.iload_n 2, 1) := dGR_32_c_1049.2.2.2.2.1
theorem dX12_isCount_9 : decode cX12_isCount 9 = .ok (.i2l, 1) := dGR_32_c_1049.2.2.2.2.2.1
theorem dX12_isCount_10 : decode cX12_isCount 10 = .ok (.iload_n 3, 1) := dGR_32_c_1049.2.2.2.2.2.2.1
theorem dX12_isCount_11 : decode cX12_isCount 11 = .ok (.i2l, 1) := dGR_32_c_1049.2.2.2.2.2.2.2.1
theorem dX12_isCount_12 : decode cX12_isCount 12 = .ok (.ldc2_w 506, 3) := dGR_32_c_1049.2.2.2.2.2.2.2.2.1
theorem dX12_isCount_15 : decode cX12_isCount 15 = .ok (.invokestatic 338, 3) := dGR_32_c_1049.2.2.2.2.2.2.2.2.2.1
theorem dX12_isCount_18 : decode cX12_isCount 18 = .ok (.ifCond .eq 7, 3) := dGR_32_c_1049.2.2.2.2.2.2.2.2.2.2.1
theorem dX12_isCount_21 : decode cX12_isCount 21 = .ok (.iconst 1, 1) := dGR_32_c_1049.2.2.2.2.2.2.2.2.2.2.2
set_option maxRecDepth 100000 in
theorem dGR_32_c_1050 : (decode cX12_isCount 22 = .ok (.goto 4, 3)) ∧ (decode cX12_isCount 25 = .ok (.iconst 0, 1)) ∧ (decode cX12_isCount 26 = .ok (.ireturn, 1)) := by decide +kernel
theorem dX12_isCount_22 : decode cX12_isCount 22 = .ok (.goto 4, 3) := dGR_32_c_1050.1
theorem dX12_isCount_25 : decode cX12_isCount 25 = .ok (.iconst 0, 1) := dGR_32_c_1050.2.1
theorem dX12_isCount_26 : decode cX12_isCount 26 = .ok (.ireturn, 1) := dGR_32_c_1050.2.2
set_option maxHeartbeats 4000000 in
set_option maxRecDepth 100000 in
theorem c_X12_isCount (G : KG) (l : Launch) (M : Mem) (a1 : Int) (a2 : Int) (a3 : Int) (hI_M : Inv true M) (hpre : -2147483648 ≤ a1 ∧ a1 ≤ 2147483647 ∧ -2147483648 ≤ a2 ∧ a2 ≤ 2147483647 ∧ -2147483648 ≤ a3 ∧ a3 ≤ 2147483647 ∧ 0 ≤ a3 ∧ a3 ≤ 1) : KC true G l yX12_isCount cX12_isCount 4 (some .boolean) (1, 25) [vR G 163, vI a1, vI a2, vI a3] M (fun A => kQi true G A (fun (r : Int) (N : Mem) => M = N ∧ ((r = 1 ∧ 0 ≤ a1 ∧ a1 ≤ 1 ∧ a3 ≤ a2 ∧ a2 ≤ 6) ∨ (r = 0)))) := by
  refine kx_met (lo := [some (vR G 163), some (vI a1), some (vI a2), some (vI a3)]) (by decide) (Nat.le_of_ble_eq_true rfl) rfl ?_
  intro X F hQ
  refine kx_aload_n 1 F 0 dX12_isCount_0 rfl rfl rfl ?_
  refine kx_iload_n 2 F 1 dX12_isCount_1 rfl rfl rfl ?_
  refine kx_Vi 5 (ci := 0) F (As := [vI a1]) (st := []) vd_X12_282 (c_X12_isAutomaton G l M a1 hI_M (by omega)) kd_163 rfl rfl rfl ⟨by decide, by decide⟩ rfl rfl (Nat.le_of_ble_eq_true rfl) dX12_isCount_2 rfl ?_
  intro r_1 N_2 q_3
  obtain ⟨rfl, q_3c⟩ := q_3
  rcases q_3c with q_3c | q_3c
  · refine kx_if_eq 8 F 25 dX12_isCount_5 (by decide) rfl (by omega) (fun h_4 => (by exfalso; omega)) (fun h_4 => ?_)
    refine kx_iload_n 9 F 2 dX12_isCount_8 rfl rfl rfl ?_
    refine kx_i2l 10 F dX12_isCount_9 (by omega) rfl ?_
    refine kx_iload_n 11 F 3 dX12_isCount_10 rfl rfl rfl ?_
    refine kx_i2l 12 F dX12_isCount_11 (by omega) rfl ?_
    refine kx_ldc2 15 (z := 6) F dX12_isCount_12 ct_X12_506 rfl ?_
    refine kx_Si 18 F (As := [vL a2, vL a3, vL 6]) (st := []) sd_X12_338 (c_X12_isFrom G l M a2 a3 6 hI_M (by omega)) ⟨by decide, by decide⟩ rfl rfl (Nat.le_of_ble_eq_true rfl) dX12_isCount_15 rfl ?_
    intro r_5 N_6 q_7
    obtain ⟨rfl, q_7c⟩ := q_7
    rcases q_7c with q_7c | q_7c
    · refine kx_if_eq 21 F 25 dX12_isCount_18 (by decide) rfl (by omega) (fun h_8 => (by exfalso; omega)) (fun h_8 => ?_)
      refine kx_iconst 22 F dX12_isCount_21 rfl ?_
      refine kx_goto 26 F dX12_isCount_22 (by decide) ?_
      exact kx_zret F hQ (by omega) ⟨rfl, (by omega)⟩ dX12_isCount_26
    · refine kx_if_eq 21 F 25 dX12_isCount_18 (by decide) rfl (by omega) (fun h_9 => ?_) (fun h_9 => (by exfalso; omega))
      refine kx_iconst 26 F dX12_isCount_25 rfl ?_
      exact kx_zret F hQ (by omega) ⟨rfl, (by omega)⟩ dX12_isCount_26
  · refine kx_if_eq 8 F 25 dX12_isCount_5 (by decide) rfl (by omega) (fun h_10 => ?_) (fun h_10 => (by exfalso; omega))
    refine kx_iconst 26 F dX12_isCount_25 rfl ?_
    exact kx_zret F hQ (by omega) ⟨rfl, (by omega)⟩ dX12_isCount_26
set_option maxRecDepth 100000 in
theorem dGR_32_c_1051 : (decode cX12_count 0 = .ok (.aload_n 0, 1)) ∧ (decode cX12_count 1 = .ok (.iload_n 1, 1)) ∧ (decode cX12_count 2 = .ok (.iload_n 2, 1)) ∧ (decode cX12_count 3 = .ok (.iconst 0, 1)) ∧ (decode cX12_count 4 = .ok (.invokevirtual 508, 3)) ∧ (decode cX12_count 7 = .ok (.ifCond .ne 9, 3)) ∧ (decode cX12_count 10 = .ok (.aload_n 0, 1)) ∧ (decode cX12_count 11 = .ok (.iconst 1, 1)) ∧ (decode cX12_count 12 = .ok (.invokevirtual 123, 3)) ∧ (decode cX12_count 15 = .ok (.ireturn, 1)) ∧ (decode cX12_count 16 = .ok (.aload_n 0, 1)) ∧ (decode cX12_count 17 = .ok (.aload_n 0, 1)) := by decide +kernel
theorem dX12_count_0 : decode cX12_count 0 = .ok (.aload_n 0, 1) := dGR_32_c_1051.1
theorem dX12_count_1 : decode cX12_count 1 = .ok (.iload_n 1, 1) := dGR_32_c_1051.2.1
theorem dX12_count_2 : decode cX12_count 2 = .ok (.iload_n 2, 1) := dGR_32_c_1051.2.2.1
theorem dX12_count_3 : decode cX12_count 3 = .ok (.iconst 0, 1) := dGR_32_c_1051.2.2.2.1
theorem dX12_count_4 : decode cX12_count 4 = .ok (.invokevirtual 508, 3) := dGR_32_c_1051.2.2.2.2.1
theorem dX12_count_7 : decode cX12_count 7 = .ok (.ifCond .ne 9, 3) := dGR_32_c_1051.2.2.2.2.2.1
theorem dX12_count_10 : decode cX12_count 10 = .ok (.aload_n 0, 1) := dGR_32_c_1051.2.2.2.2.2.2.1
theorem dX12_count_11 : decode cX12_count 11 = .ok (.iconst 1, 1) := dGR_32_c_1051.2.2.2.2.2.2.2.1
theorem dX12_count_12 : decode cX12_count 12 = .ok (.invokevirtual 123, 3) := dGR_32_c_1051.2.2.2.2.2.2.2.2.1
theorem dX12_count_15 : decode cX12_count 15 = .ok (.ireturn, 1) := dGR_32_c_1051.2.2.2.2.2.2.2.2.2.1
theorem dX12_count_16 : decode cX12_count 16 = .ok (.aload_n 0, 1) := dGR_32_c_1051.2.2.2.2.2.2.2.2.2.2.1
theorem dX12_count_17 : decode cX12_count 17 = .ok (.aload_n 0, 1) := dGR_32_c_1051.2.2.2.2.2.2.2.2.2.2.2
set_option maxRecDepth 100000 in
theorem dGR_32_c_1052 : (decode cX12_count 18 = .ok (.iload_n 1, 1)) ∧ (decode cX12_count 19 = .ok (.iconst 2, 1)) ∧ (decode cX12_count 20 = .ok (.iload_n 2, 1)) ∧ (decode cX12_count 21 = .ok (.iconst 1, 1)) ∧ (decode cX12_count 22 = .ok (.iconst 0, 1)) ∧ (decode cX12_count 23 = .ok (.iconst 0, 1)) ∧ (decode cX12_count 24 = .ok (.invokevirtual 492, 3)) ∧ (decode cX12_count 27 = .ok (.invokevirtual 127, 3)) ∧ (decode cX12_count 30 = .ok (.ireturn, 1)) := by decide +kernel
theorem dX12_count_18 : decode cX12_count 18 = .ok (.iload_n 1, 1) := dGR_32_c_1052.1
theorem dX12_count_19 : decode cX12_count 19 = .ok (.iconst 2, 1) := dGR_32_c_1052.2.1
theorem dX12_count_20 : decode cX12_count 20 = .ok (.iload_n 2, 1) := dGR_32_c_1052.2.2.1
theorem dX12_count_21 : decode cX12_count 21 = .ok (.iconst 1, 1) := dGR_32_c_1052.2.2.2.1
theorem dX12_count_22 : decode cX12_count 22 = .ok (.iconst 0, 1) := dGR_32_c_1052.2.2.2.2.1
theorem dX12_count_23 : decode cX12_count 23 = .ok (.iconst 0, 1) := dGR_32_c_1052.2.2.2.2.2.1
theorem dX12_count_24 : decode cX12_count 24 = .ok (.invokevirtual 492, 3) := dGR_32_c_1052.2.2.2.2.2.2.1
theorem dX12_count_27 : decode cX12_count 27 = .ok (.invokevirtual 127, 3) := dGR_32_c_1052.2.2.2.2.2.2.2.1
theorem dX12_count_30 : decode cX12_count 30 = .ok (.ireturn, 1) := dGR_32_c_1052.2.2.2.2.2.2.2.2
abbrev f_c_X12_count : List (Nat × Int) := [(64, 2), (64, 48), (72, -1), (73, -1), (74, -1), (75, -1), (76, -1), (89, -1), (90, -1)]
set_option maxHeartbeats 4000000 in
set_option maxRecDepth 100000 in
theorem c_X12_count (G : KG) (l : Launch) (M : Mem) (a1 : Int) (a2 : Int) (hI_M : Inv true M) (hpre : -2147483648 ≤ a1 ∧ a1 ≤ 2147483647 ∧ -2147483648 ≤ a2 ∧ a2 ≤ 2147483647) : KC true G l yX12_count cX12_count 3 (some .int) (5, 132) [vR G 163, vI a1, vI a2] M (fun A => kQi true G A (fun (r : Int) (N : Mem) => Inv true N ∧ Fr f_c_X12_count M N ∧ (r ≥ -2147483648 ∧ r ≤ 2147483647))) := by
  refine kx_met (lo := [some (vR G 163), some (vI a1), some (vI a2)]) (by decide) (Nat.le_of_ble_eq_true rfl) rfl ?_
  intro X F hQ
  have hF_M : Fr f_c_X12_count M M := Fr.rf _ _
  refine kx_aload_n 1 F 0 dX12_count_0 rfl rfl rfl ?_
  refine kx_iload_n 2 F 1 dX12_count_1 rfl rfl rfl ?_
  refine kx_iload_n 3 F 2 dX12_count_2 rfl rfl rfl ?_
  refine kx_iconst 4 F dX12_count_3 rfl ?_
  refine kx_Vi 7 (ci := 0) F (As := [vI a1, vI a2, vI 0]) (st := []) vd_X12_508 (c_X12_isCount G l M a1 a2 0 hI_M (by omega)) kd_163 rfl rfl rfl ⟨by decide, by decide⟩ rfl rfl (Nat.le_of_ble_eq_true rfl) dX12_count_4 rfl ?_
  intro r_1 N_2 q_3
  obtain ⟨rfl, q_3c⟩ := q_3
  rcases q_3c with q_3c | q_3c
  · refine kx_if_ne 10 F 16 dX12_count_7 (by decide) rfl (by omega) (fun h_4 => ?_) (fun h_4 => (by exfalso; omega))
    refine kx_aload_n 17 F 0 dX12_count_16 rfl rfl rfl ?_
    refine kx_aload_n 18 F 0 dX12_count_17 rfl rfl rfl ?_
    refine kx_iload_n 19 F 1 dX12_count_18 rfl rfl rfl ?_
    refine kx_iconst 20 F dX12_count_19 rfl ?_
    refine kx_iload_n 21 F 2 dX12_count_20 rfl rfl rfl ?_
    refine kx_iconst 22 F dX12_count_21 rfl ?_
    refine kx_iconst 23 F dX12_count_22 rfl ?_
    refine kx_iconst 24 F dX12_count_23 rfl ?_
    refine kx_Vi 27 (ci := 0) F (As := [vI a1, vI 2, vI a2, vI 1, vI 0, vI 0]) (st := [vR G 163]) vd_X12_492 (c_X12_laysWords G l M a1 2 a2 1 0 0 hI_M (by omega)) kd_163 rfl rfl rfl ⟨by decide, by decide⟩ rfl rfl (Nat.le_of_ble_eq_true rfl) dX12_count_24 rfl ?_
    intro r_5 N_6 q_7
    obtain ⟨hI_N_6, hG_N_6, q_7c⟩ := q_7
    have hF_N_6 : Fr f_c_X12_count M N_6 := Fr.c hF_M hG_N_6 rfl
    refine kx_Vi 30 (ci := 0) F (As := [vI r_5]) (st := []) vd_X12_127 (c_X12_gives G l N_6 r_5 hI_N_6 (by omega)) kd_163 rfl rfl rfl ⟨by decide, by decide⟩ rfl rfl (Nat.le_of_ble_eq_true rfl) dX12_count_27 rfl ?_
    intro r_8 N_9 q_10
    obtain ⟨hI_N_9, hG_N_9, q_10c⟩ := q_10
    have hF_N_9 : Fr f_c_X12_count M N_9 := Fr.c hF_N_6 hG_N_9 rfl
    refine kx_topi (e' := r_5) (by omega) ?_
    exact kx_iret F hQ ⟨hI_N_9, hF_N_9, (by omega)⟩ dX12_count_30
  · refine kx_if_ne 10 F 16 dX12_count_7 (by decide) rfl (by omega) (fun h_11 => (by exfalso; omega)) (fun h_11 => ?_)
    refine kx_aload_n 11 F 0 dX12_count_10 rfl rfl rfl ?_
    refine kx_iconst 12 F dX12_count_11 rfl ?_
    refine kx_Vi 15 (ci := 0) F (As := [vI 1]) (st := []) vd_X12_123 (c_X12_refuse G l M 1 hI_M (by omega)) kd_163 rfl rfl rfl ⟨by decide, by decide⟩ rfl rfl (Nat.le_of_ble_eq_true rfl) dX12_count_12 rfl ?_
    intro r_12 N_13 q_14
    obtain ⟨hI_N_13, hG_N_13, q_14c⟩ := q_14
    have hF_N_13 : Fr f_c_X12_count M N_13 := Fr.c hF_M hG_N_13 rfl
    subst q_14c
    exact kx_iret F hQ ⟨hI_N_13, hF_N_13, (by omega)⟩ dX12_count_15
set_option maxRecDepth 100000 in
theorem dGR_32_c_1053 : (decode cX12_share 0 = .ok (.aload_n 0, 1)) ∧ (decode cX12_share 1 = .ok (.iload_n 1, 1)) ∧ (decode cX12_share 2 = .ok (.iload_n 2, 1)) ∧ (decode cX12_share 3 = .ok (.iconst 0, 1)) ∧ (decode cX12_share 4 = .ok (.invokevirtual 508, 3)) ∧ (decode cX12_share 7 = .ok (.ifCond .ne 9, 3)) ∧ (decode cX12_share 10 = .ok (.aload_n 0, 1)) ∧ (decode cX12_share 11 = .ok (.iconst 1, 1)) ∧ (decode cX12_share 12 = .ok (.invokevirtual 130, 3)) ∧ (decode cX12_share 15 = .ok (.ireturn, 1)) ∧ (decode cX12_share 16 = .ok (.lconst 1, 1)) ∧ (decode cX12_share 17 = .ok (.lstore_n 3, 1)) := by decide +kernel
theorem dX12_share_0 : decode cX12_share 0 = .ok (.aload_n 0, 1) := dGR_32_c_1053.1
theorem dX12_share_1 : decode cX12_share 1 = .ok (.iload_n 1, 1) := dGR_32_c_1053.2.1
theorem dX12_share_2 : decode cX12_share 2 = .ok (.iload_n 2, 1) := dGR_32_c_1053.2.2.1
theorem dX12_share_3 : decode cX12_share 3 = .ok (.iconst 0, 1) := dGR_32_c_1053.2.2.2.1
theorem dX12_share_4 : decode cX12_share 4 = .ok (.invokevirtual 508, 3) := dGR_32_c_1053.2.2.2.2.1
theorem dX12_share_7 : decode cX12_share 7 = .ok (.ifCond .ne 9, 3) := dGR_32_c_1053.2.2.2.2.2.1
theorem dX12_share_10 : decode cX12_share 10 = .ok (.aload_n 0, 1) := dGR_32_c_1053.2.2.2.2.2.2.1
theorem dX12_share_11 : decode cX12_share 11 = .ok (.iconst 1, 1) := dGR_32_c_1053.2.2.2.2.2.2.2.1
theorem dX12_share_12 : decode cX12_share 12 = .ok (.invokevirtual 130, 3) := dGR_32_c_1053.2.2.2.2.2.2.2.2.1
theorem dX12_share_15 : decode cX12_share 15 = .ok (.ireturn, 1) := dGR_32_c_1053.2.2.2.2.2.2.2.2.2.1
theorem dX12_share_16 : decode cX12_share 16 = .ok (.lconst 1, 1) := dGR_32_c_1053.2.2.2.2.2.2.2.2.2.2.1
theorem dX12_share_17 : decode cX12_share 17 = .ok (.lstore_n 3, 1) := dGR_32_c_1053.2.2.2.2.2.2.2.2.2.2.2
set_option maxRecDepth 100000 in
theorem dGR_32_c_1054 : (decode cX12_share 18 = .ok (.iconst 0, 1)) ∧ (decode cX12_share 19 = .ok (.istore 5, 2)) ∧ (decode cX12_share 21 = .ok (.iload 5, 2)) ∧ (decode cX12_share 23 = .ok (.iload_n 2, 1)) ∧ (decode cX12_share 24 = .ok (.if_icmp .ge 17, 3)) ∧ (decode cX12_share 27 = .ok (.lload_n 3, 1)) ∧ (decode cX12_share 28 = .ok (.aload_n 0, 1)) ∧ (decode cX12_share 29 = .ok (.invokevirtual 285, 3)) ∧ (decode cX12_share 32 = .ok (.i2l, 1)) ∧ (decode cX12_share 33 = .ok (.lmul, 1)) ∧ (decode cX12_share 34 = .ok (.lstore_n 3, 1)) ∧ (decode cX12_share 35 = .ok (.iinc 5 1, 3)) := by decide +kernel
theorem dX12_share_18 : decode cX12_share 18 = .ok (.iconst 0, 1) := dGR_32_c_1054.1
theorem dX12_share_19 : decode cX12_share 19 = .ok (.istore 5, 2) := dGR_32_c_1054.2.1
theorem dX12_share_21 : decode cX12_share 21 = .ok (.iload 5, 2) := dGR_32_c_1054.2.2.1
theorem dX12_share_23 : decode cX12_share 23 = .ok (.iload_n 2, 1) := dGR_32_c_1054.2.2.2.1
theorem dX12_share_24 : decode cX12_share 24 = .ok (.if_icmp .ge 17, 3) := dGR_32_c_1054.2.2.2.2.1
theorem dX12_share_27 : decode cX12_share 27 = .ok (.lload_n 3, 1) := dGR_32_c_1054.2.2.2.2.2.1
theorem dX12_share_28 : decode cX12_share 28 = .ok (.aload_n 0, 1) := dGR_32_c_1054.2.2.2.2.2.2.1
theorem dX12_share_29 : decode cX12_share 29 = .ok (.invokevirtual 285, 3) := dGR_32_c_1054.2.2.2.2.2.2.2.1
theorem dX12_share_32 : decode cX12_share 32 = .ok (.i2l, 1) := dGR_32_c_1054.2.2.2.2.2.2.2.2.1
theorem dX12_share_33 : decode cX12_share 33 = .ok (.lmul, 1) := dGR_32_c_1054.2.2.2.2.2.2.2.2.2.1
theorem dX12_share_34 : decode cX12_share 34 = .ok (.lstore_n 3, 1) := dGR_32_c_1054.2.2.2.2.2.2.2.2.2.2.1
theorem dX12_share_35 : decode cX12_share 35 = .ok (.iinc 5 1, 3) := dGR_32_c_1054.2.2.2.2.2.2.2.2.2.2.2
set_option maxRecDepth 100000 in
theorem dGR_32_c_1055 : (decode cX12_share 38 = .ok (.goto (-17), 3)) ∧ (decode cX12_share 41 = .ok (.lload_n 3, 1)) ∧ (decode cX12_share 42 = .ok (.lconst 0, 1)) ∧ (decode cX12_share 43 = .ok (.lcmp, 1)) ∧ (decode cX12_share 44 = .ok (.ifCond .ne 10, 3)) ∧ (decode cX12_share 47 = .ok (.aload_n 0, 1)) ∧ (decode cX12_share 48 = .ok (.bipush 6, 2)) ∧ (decode cX12_share 50 = .ok (.invokevirtual 130, 3)) ∧ (decode cX12_share 53 = .ok (.ireturn, 1)) ∧ (decode cX12_share 54 = .ok (.aload_n 0, 1)) ∧ (decode cX12_share 55 = .ok (.aload_n 0, 1)) ∧ (decode cX12_share 56 = .ok (.iload_n 1, 1)) := by decide +kernel
theorem dX12_share_38 : decode cX12_share 38 = .ok (.goto (-17), 3) := dGR_32_c_1055.1
theorem dX12_share_41 : decode cX12_share 41 = .ok (.lload_n 3, 1) := dGR_32_c_1055.2.1
theorem dX12_share_42 : decode cX12_share 42 = .ok (.lconst 0, 1) := dGR_32_c_1055.2.2.1
theorem dX12_share_43 : decode cX12_share 43 = .ok (.lcmp, 1) := dGR_32_c_1055.2.2.2.1
theorem dX12_share_44 : decode cX12_share 44 = .ok (.ifCond .ne 10, 3) := dGR_32_c_1055.2.2.2.2.1
theorem dX12_share_47 : decode cX12_share 47 = .ok (.aload_n 0, 1) := dGR_32_c_1055.2.2.2.2.2.1
theorem dX12_share_48 : decode cX12_share 48 = .ok (.bipush 6, 2) := dGR_32_c_1055.2.2.2.2.2.2.1
theorem dX12_share_50 : decode cX12_share 50 = .ok (.invokevirtual 130, 3) := dGR_32_c_1055.2.2.2.2.2.2.2.1
theorem dX12_share_53 : decode cX12_share 53 = .ok (.ireturn, 1) := dGR_32_c_1055.2.2.2.2.2.2.2.2.1
theorem dX12_share_54 : decode cX12_share 54 = .ok (.aload_n 0, 1) := dGR_32_c_1055.2.2.2.2.2.2.2.2.2.1
theorem dX12_share_55 : decode cX12_share 55 = .ok (.aload_n 0, 1) := dGR_32_c_1055.2.2.2.2.2.2.2.2.2.2.1
theorem dX12_share_56 : decode cX12_share 56 = .ok (.iload_n 1, 1) := dGR_32_c_1055.2.2.2.2.2.2.2.2.2.2.2
set_option maxRecDepth 100000 in
theorem dGR_32_c_1056 : (decode cX12_share 57 = .ok (.iconst 2, 1)) ∧ (decode cX12_share 58 = .ok (.iload_n 2, 1)) ∧ (decode cX12_share 59 = .ok (.iconst 1, 1)) ∧ (decode cX12_share 60 = .ok (.iconst 0, 1)) ∧ (decode cX12_share 61 = .ok (.iconst 0, 1)) ∧ (decode cX12_share 62 = .ok (.invokevirtual 492, 3)) ∧ (decode cX12_share 65 = .ok (.i2l, 1)) ∧ (decode cX12_share 66 = .ok (.lload_n 3, 1)) ∧ (decode cX12_share 67 = .ok (.invokevirtual 384, 3)) ∧ (decode cX12_share 70 = .ok (.ireturn, 1)) := by decide +kernel
theorem dX12_share_57 : decode cX12_share 57 = .ok (.iconst 2, 1) := dGR_32_c_1056.1
theorem dX12_share_58 : decode cX12_share 58 = .ok (.iload_n 2, 1) := dGR_32_c_1056.2.1
theorem dX12_share_59 : decode cX12_share 59 = .ok (.iconst 1, 1) := dGR_32_c_1056.2.2.1
theorem dX12_share_60 : decode cX12_share 60 = .ok (.iconst 0, 1) := dGR_32_c_1056.2.2.2.1
theorem dX12_share_61 : decode cX12_share 61 = .ok (.iconst 0, 1) := dGR_32_c_1056.2.2.2.2.1
theorem dX12_share_62 : decode cX12_share 62 = .ok (.invokevirtual 492, 3) := dGR_32_c_1056.2.2.2.2.2.1
theorem dX12_share_65 : decode cX12_share 65 = .ok (.i2l, 1) := dGR_32_c_1056.2.2.2.2.2.2.1
theorem dX12_share_66 : decode cX12_share 66 = .ok (.lload_n 3, 1) := dGR_32_c_1056.2.2.2.2.2.2.2.1
theorem dX12_share_67 : decode cX12_share 67 = .ok (.invokevirtual 384, 3) := dGR_32_c_1056.2.2.2.2.2.2.2.2.1
theorem dX12_share_70 : decode cX12_share 70 = .ok (.ireturn, 1) := dGR_32_c_1056.2.2.2.2.2.2.2.2.2
set_option maxRecDepth 100000 in
theorem dGR_32_c_1057 : (decode cX12_lastAt 0 = .ok (.aload_n 0, 1)) ∧ (decode cX12_lastAt 1 = .ok (.iload_n 1, 1)) ∧ (decode cX12_lastAt 2 = .ok (.iload_n 2, 1)) ∧ (decode cX12_lastAt 3 = .ok (.iconst 1, 1)) ∧ (decode cX12_lastAt 4 = .ok (.invokevirtual 508, 3)) ∧ (decode cX12_lastAt 7 = .ok (.ifCond .eq 12, 3)) ∧ (decode cX12_lastAt 10 = .ok (.iload_n 3, 1)) ∧ (decode cX12_lastAt 11 = .ok (.ifCond .lt 8, 3)) ∧ (decode cX12_lastAt 14 = .ok (.iload_n 3, 1)) ∧ (decode cX12_lastAt 15 = .ok (.iload_n 2, 1)) ∧ (decode cX12_lastAt 16 = .ok (.if_icmp .lt 9, 3)) ∧ (decode cX12_lastAt 19 = .ok (.aload_n 0, 1)) := by decide +kernel
theorem dX12_lastAt_0 : decode cX12_lastAt 0 = .ok (.aload_n 0, 1) := dGR_32_c_1057.1
theorem dX12_lastAt_1 : decode cX12_lastAt 1 = .ok (.iload_n 1, 1) := dGR_32_c_1057.2.1
theorem dX12_lastAt_2 : decode cX12_lastAt 2 = .ok (.iload_n 2, 1) := dGR_32_c_1057.2.2.1
theorem dX12_lastAt_3 : decode cX12_lastAt 3 = .ok (.iconst 1, 1) := dGR_32_c_1057.2.2.2.1
theorem dX12_lastAt_4 : decode cX12_lastAt 4 = .ok (.invokevirtual 508, 3) := dGR_32_c_1057.2.2.2.2.1
theorem dX12_lastAt_7 : decode cX12_lastAt 7 = .ok (.ifCond .eq 12, 3) := dGR_32_c_1057.2.2.2.2.2.1
theorem dX12_lastAt_10 : decode cX12_lastAt 10 = .ok (.iload_n 3, 1) := dGR_32_c_1057.2.2.2.2.2.2.1
theorem dX12_lastAt_11 : decode cX12_lastAt 11 = .ok (.ifCond .lt 8, 3) := dGR_32_c_1057.2.2.2.2.2.2.2.1
theorem dX12_lastAt_14 : decode cX12_lastAt 14 = .ok (.iload_n 3, 1) := dGR_32_c_1057.2.2.2.2.2.2.2.2.1
theorem dX12_lastAt_15 : decode cX12_lastAt 15 = .ok (.iload_n 2, 1) := dGR_32_c_1057.2.2.2.2.2.2.2.2.2.1
theorem dX12_lastAt_16 : decode cX12_lastAt 16 = .ok (.if_icmp .lt 9, 3) := dGR_32_c_1057.2.2.2.2.2.2.2.2.2.2.1
theorem dX12_lastAt_19 : decode cX12_lastAt 19 = .ok (.aload_n 0, 1) := dGR_32_c_1057.2.2.2.2.2.2.2.2.2.2.2
set_option maxRecDepth 100000 in
theorem dGR_32_c_1058 : (decode cX12_lastAt 20 = .ok (.iconst 1, 1)) ∧ (decode cX12_lastAt 21 = .ok (.invokevirtual 123, 3)) ∧ (decode cX12_lastAt 24 = .ok (.ireturn, 1)) ∧ (decode cX12_lastAt 25 = .ok (.aload_n 0, 1)) ∧ (decode cX12_lastAt 26 = .ok (.iload_n 1, 1)) ∧ (decode cX12_lastAt 27 = .ok (.iconst 2, 1)) ∧ (decode cX12_lastAt 28 = .ok (.iload_n 2, 1)) ∧ (decode cX12_lastAt 29 = .ok (.iconst 1, 1)) ∧ (decode cX12_lastAt 30 = .ok (.iconst 1, 1)) ∧ (decode cX12_lastAt 31 = .ok (.iconst 1, 1)) ∧ (decode cX12_lastAt 32 = .ok (.invokevirtual 492, 3)) ∧ (decode cX12_lastAt 35 = .ok (.ifCond .ne 10, 3)) := by decide +kernel
theorem dX12_lastAt_20 : decode cX12_lastAt 20 = .ok (.iconst 1, 1) := dGR_32_c_1058.1
theorem dX12_lastAt_21 : decode cX12_lastAt 21 = .ok (.invokevirtual 123, 3) := dGR_32_c_1058.2.1
theorem dX12_lastAt_24 : decode cX12_lastAt 24 = .ok (.ireturn, 1) := dGR_32_c_1058.2.2.1
theorem dX12_lastAt_25 : decode cX12_lastAt 25 = .ok (.aload_n 0, 1) := dGR_32_c_1058.2.2.2.1
theorem dX12_lastAt_26 : decode cX12_lastAt 26 = .ok (.iload_n 1, 1) := dGR_32_c_1058.2.2.2.2.1
theorem dX12_lastAt_27 : decode cX12_lastAt 27 = .ok (.iconst 2, 1) := dGR_32_c_1058.2.2.2.2.2.1
theorem dX12_lastAt_28 : decode cX12_lastAt 28 = .ok (.iload_n 2, 1) := dGR_32_c_1058.2.2.2.2.2.2.1
theorem dX12_lastAt_29 : decode cX12_lastAt 29 = .ok (.iconst 1, 1) := dGR_32_c_1058.2.2.2.2.2.2.2.1
theorem dX12_lastAt_30 : decode cX12_lastAt 30 = .ok (.iconst 1, 1) := dGR_32_c_1058.2.2.2.2.2.2.2.2.1
theorem dX12_lastAt_31 : decode cX12_lastAt 31 = .ok (.iconst 1, 1) := dGR_32_c_1058.2.2.2.2.2.2.2.2.2.1
theorem dX12_lastAt_32 : decode cX12_lastAt 32 = .ok (.invokevirtual 492, 3) := dGR_32_c_1058.2.2.2.2.2.2.2.2.2.2.1
theorem dX12_lastAt_35 : decode cX12_lastAt 35 = .ok (.ifCond .ne 10, 3) := dGR_32_c_1058.2.2.2.2.2.2.2.2.2.2.2
set_option maxRecDepth 100000 in
theorem dGR_32_c_1059 : (decode cX12_lastAt 38 = .ok (.aload_n 0, 1)) ∧ (decode cX12_lastAt 39 = .ok (.bipush 6, 2)) ∧ (decode cX12_lastAt 41 = .ok (.invokevirtual 123, 3)) ∧ (decode cX12_lastAt 44 = .ok (.ireturn, 1)) ∧ (decode cX12_lastAt 45 = .ok (.aload_n 0, 1)) ∧ (decode cX12_lastAt 46 = .ok (.aload_n 0, 1)) ∧ (decode cX12_lastAt 47 = .ok (.getfield 107, 3)) ∧ (decode cX12_lastAt 50 = .ok (.iload_n 3, 1)) ∧ (decode cX12_lastAt 51 = .ok (.iaload, 1)) ∧ (decode cX12_lastAt 52 = .ok (.invokevirtual 127, 3)) ∧ (decode cX12_lastAt 55 = .ok (.ireturn, 1)) := by decide +kernel
theorem dX12_lastAt_38 : decode cX12_lastAt 38 = .ok (.aload_n 0, 1) := dGR_32_c_1059.1
theorem dX12_lastAt_39 : decode cX12_lastAt 39 = .ok (.bipush 6, 2) := dGR_32_c_1059.2.1
theorem dX12_lastAt_41 : decode cX12_lastAt 41 = .ok (.invokevirtual 123, 3) := dGR_32_c_1059.2.2.1
theorem dX12_lastAt_44 : decode cX12_lastAt 44 = .ok (.ireturn, 1) := dGR_32_c_1059.2.2.2.1
theorem dX12_lastAt_45 : decode cX12_lastAt 45 = .ok (.aload_n 0, 1) := dGR_32_c_1059.2.2.2.2.1
theorem dX12_lastAt_46 : decode cX12_lastAt 46 = .ok (.aload_n 0, 1) := dGR_32_c_1059.2.2.2.2.2.1
theorem dX12_lastAt_47 : decode cX12_lastAt 47 = .ok (.getfield 107, 3) := dGR_32_c_1059.2.2.2.2.2.2.1
theorem dX12_lastAt_50 : decode cX12_lastAt 50 = .ok (.iload_n 3, 1) := dGR_32_c_1059.2.2.2.2.2.2.2.1
theorem dX12_lastAt_51 : decode cX12_lastAt 51 = .ok (.iaload, 1) := dGR_32_c_1059.2.2.2.2.2.2.2.2.1
theorem dX12_lastAt_52 : decode cX12_lastAt 52 = .ok (.invokevirtual 127, 3) := dGR_32_c_1059.2.2.2.2.2.2.2.2.2.1
theorem dX12_lastAt_55 : decode cX12_lastAt 55 = .ok (.ireturn, 1) := dGR_32_c_1059.2.2.2.2.2.2.2.2.2.2
abbrev f_c_X12_lastAt : List (Nat × Int) := [(64, 2), (64, 48), (72, -1), (73, -1), (74, -1), (75, -1), (76, -1), (89, -1), (90, -1)]
set_option maxHeartbeats 4000000 in
set_option maxRecDepth 100000 in
theorem c_X12_lastAt (G : KG) (l : Launch) (M : Mem) (a1 : Int) (a2 : Int) (a3 : Int) (hI_M : Inv true M) (hpre : -2147483648 ≤ a1 ∧ a1 ≤ 2147483647 ∧ -2147483648 ≤ a2 ∧ a2 ≤ 2147483647 ∧ -2147483648 ≤ a3 ∧ a3 ≤ 2147483647) : KC true G l yX12_lastAt cX12_lastAt 4 (some .int) (5, 132) [vR G 163, vI a1, vI a2, vI a3] M (fun A => kQi true G A (fun (r : Int) (N : Mem) => Inv true N ∧ Fr f_c_X12_lastAt M N ∧ (r ≥ -1 ∧ r ≤ 5))) := by
  refine kx_met (lo := [some (vR G 163), some (vI a1), some (vI a2), some (vI a3)]) (by decide) (Nat.le_of_ble_eq_true rfl) rfl ?_
  intro X F hQ
  have hF_M : Fr f_c_X12_lastAt M M := Fr.rf _ _
  refine kx_aload_n 1 F 0 dX12_lastAt_0 rfl rfl rfl ?_
  refine kx_iload_n 2 F 1 dX12_lastAt_1 rfl rfl rfl ?_
  refine kx_iload_n 3 F 2 dX12_lastAt_2 rfl rfl rfl ?_
  refine kx_iconst 4 F dX12_lastAt_3 rfl ?_
  refine kx_Vi 7 (ci := 0) F (As := [vI a1, vI a2, vI 1]) (st := []) vd_X12_508 (c_X12_isCount G l M a1 a2 1 hI_M (by omega)) kd_163 rfl rfl rfl ⟨by decide, by decide⟩ rfl rfl (Nat.le_of_ble_eq_true rfl) dX12_lastAt_4 rfl ?_
  intro r_1 N_2 q_3
  obtain ⟨rfl, q_3c⟩ := q_3
  rcases q_3c with q_3c | q_3c
  · refine kx_if_eq 10 F 19 dX12_lastAt_7 (by decide) rfl (by omega) (fun h_4 => (by exfalso; omega)) (fun h_4 => ?_)
    refine kx_iload_n 11 F 3 dX12_lastAt_10 rfl rfl rfl ?_
    refine kx_if_lt 14 F 19 dX12_lastAt_11 (by decide) rfl (by omega) (fun h_5 => ?_) (fun h_5 => ?_)
    · refine kx_aload_n 20 F 0 dX12_lastAt_19 rfl rfl rfl ?_
      refine kx_iconst 21 F dX12_lastAt_20 rfl ?_
      refine kx_Vi 24 (ci := 0) F (As := [vI 1]) (st := []) vd_X12_123 (c_X12_refuse G l M 1 hI_M (by omega)) kd_163 rfl rfl rfl ⟨by decide, by decide⟩ rfl rfl (Nat.le_of_ble_eq_true rfl) dX12_lastAt_21 rfl ?_
      intro r_6 N_7 q_8
      obtain ⟨hI_N_7, hG_N_7, q_8c⟩ := q_8
      have hF_N_7 : Fr f_c_X12_lastAt M N_7 := Fr.c hF_M hG_N_7 rfl
      subst q_8c
      exact kx_iret F hQ ⟨hI_N_7, hF_N_7, (by omega)⟩ dX12_lastAt_24
    · refine kx_iload_n 15 F 3 dX12_lastAt_14 rfl rfl rfl ?_
      refine kx_iload_n 16 F 2 dX12_lastAt_15 rfl rfl rfl ?_
      refine kx_icmp_lt 19 F 25 dX12_lastAt_16 (by decide) rfl (by omega) (by omega) (fun h_9 => ?_) (fun h_9 => ?_)
      · refine kx_aload_n 26 F 0 dX12_lastAt_25 rfl rfl rfl ?_
        refine kx_iload_n 27 F 1 dX12_lastAt_26 rfl rfl rfl ?_
        refine kx_iconst 28 F dX12_lastAt_27 rfl ?_
        refine kx_iload_n 29 F 2 dX12_lastAt_28 rfl rfl rfl ?_
        refine kx_iconst 30 F dX12_lastAt_29 rfl ?_
        refine kx_iconst 31 F dX12_lastAt_30 rfl ?_
        refine kx_iconst 32 F dX12_lastAt_31 rfl ?_
        refine kx_Vi 35 (ci := 0) F (As := [vI a1, vI 2, vI a2, vI 1, vI 1, vI 1]) (st := []) vd_X12_492 (c_X12_laysWords G l M a1 2 a2 1 1 1 hI_M (by omega)) kd_163 rfl rfl rfl ⟨by decide, by decide⟩ rfl rfl (Nat.le_of_ble_eq_true rfl) dX12_lastAt_32 rfl ?_
        intro r_10 N_11 q_12
        obtain ⟨hI_N_11, hG_N_11, q_12c⟩ := q_12
        have hF_N_11 : Fr f_c_X12_lastAt M N_11 := Fr.c hF_M hG_N_11 rfl
        refine kx_if_ne 38 F 45 dX12_lastAt_35 (by decide) rfl (by omega) (fun h_13 => ?_) (fun h_13 => ?_)
        · refine kx_aload_n 46 F 0 dX12_lastAt_45 rfl rfl rfl ?_
          refine kx_aload_n 47 F 0 dX12_lastAt_46 rfl rfl rfl ?_
          refine kx_getr 50 F fl_X12_107 kd_163 rfl rfl (j := 46) rfl dX12_lastAt_47 (v := 192) (uq_192 (Inv.r hI_N_11 kd_163 rfl 46 rfl rfl)) rfl ?_
          refine kx_iload_n 51 F 3 dX12_lastAt_50 rfl rfl rfl ?_
          refine kx_iald 52 F kd_192 rfl rfl (by omega) (by decide) dX12_lastAt_51 (v := (N_11 192 a3)) rfl rfl ?_
          have h_14 := Inv.g hI_N_11 kd_192 rfl a3 (a := 0) (b := 5) rfl rfl
          refine kx_Vi 55 (ci := 0) F (As := [vI (N_11 192 a3)]) (st := []) vd_X12_127 (c_X12_gives G l N_11 (N_11 192 a3) hI_N_11 (by omega)) kd_163 rfl rfl rfl ⟨by decide, by decide⟩ rfl rfl (Nat.le_of_ble_eq_true rfl) dX12_lastAt_52 rfl ?_
          intro r_15 N_16 q_17
          obtain ⟨hI_N_16, hG_N_16, q_17c⟩ := q_17
          have hF_N_16 : Fr f_c_X12_lastAt M N_16 := Fr.c hF_N_11 hG_N_16 rfl
          refine kx_topi (e' := (N_11 192 a3)) (by omega) ?_
          exact kx_iret F hQ ⟨hI_N_16, hF_N_16, (by omega)⟩ dX12_lastAt_55
        · refine kx_aload_n 39 F 0 dX12_lastAt_38 rfl rfl rfl ?_
          refine kx_bipush 41 F dX12_lastAt_39 (by decide) rfl ?_
          refine kx_Vi 44 (ci := 0) F (As := [vI 6]) (st := []) vd_X12_123 (c_X12_refuse G l N_11 6 hI_N_11 (by omega)) kd_163 rfl rfl rfl ⟨by decide, by decide⟩ rfl rfl (Nat.le_of_ble_eq_true rfl) dX12_lastAt_41 rfl ?_
          intro r_18 N_19 q_20
          obtain ⟨hI_N_19, hG_N_19, q_20c⟩ := q_20
          have hF_N_19 : Fr f_c_X12_lastAt M N_19 := Fr.c hF_N_11 hG_N_19 rfl
          subst q_20c
          exact kx_iret F hQ ⟨hI_N_19, hF_N_19, (by omega)⟩ dX12_lastAt_44
      · refine kx_aload_n 20 F 0 dX12_lastAt_19 rfl rfl rfl ?_
        refine kx_iconst 21 F dX12_lastAt_20 rfl ?_
        refine kx_Vi 24 (ci := 0) F (As := [vI 1]) (st := []) vd_X12_123 (c_X12_refuse G l M 1 hI_M (by omega)) kd_163 rfl rfl rfl ⟨by decide, by decide⟩ rfl rfl (Nat.le_of_ble_eq_true rfl) dX12_lastAt_21 rfl ?_
        intro r_21 N_22 q_23
        obtain ⟨hI_N_22, hG_N_22, q_23c⟩ := q_23
        have hF_N_22 : Fr f_c_X12_lastAt M N_22 := Fr.c hF_M hG_N_22 rfl
        subst q_23c
        exact kx_iret F hQ ⟨hI_N_22, hF_N_22, (by omega)⟩ dX12_lastAt_24
  · refine kx_if_eq 10 F 19 dX12_lastAt_7 (by decide) rfl (by omega) (fun h_24 => ?_) (fun h_24 => (by exfalso; omega))
    refine kx_aload_n 20 F 0 dX12_lastAt_19 rfl rfl rfl ?_
    refine kx_iconst 21 F dX12_lastAt_20 rfl ?_
    refine kx_Vi 24 (ci := 0) F (As := [vI 1]) (st := []) vd_X12_123 (c_X12_refuse G l M 1 hI_M (by omega)) kd_163 rfl rfl rfl ⟨by decide, by decide⟩ rfl rfl (Nat.le_of_ble_eq_true rfl) dX12_lastAt_21 rfl ?_
    intro r_25 N_26 q_27
    obtain ⟨hI_N_26, hG_N_26, q_27c⟩ := q_27
    have hF_N_26 : Fr f_c_X12_lastAt M N_26 := Fr.c hF_M hG_N_26 rfl
    subst q_27c
    exact kx_iret F hQ ⟨hI_N_26, hF_N_26, (by omega)⟩ dX12_lastAt_24
set_option maxRecDepth 100000 in
theorem dGR_32_c_1060 : (decode cX12_sample 0 = .ok (.aload_n 0, 1)) ∧ (decode cX12_sample 1 = .ok (.iload_n 1, 1)) ∧ (decode cX12_sample 2 = .ok (.iload_n 2, 1)) ∧ (decode cX12_sample 3 = .ok (.invokevirtual 358, 3)) ∧ (decode cX12_sample 6 = .ok (.ifCond .eq 15, 3)) ∧ (decode cX12_sample 9 = .ok (.iload_n 3, 1)) ∧ (decode cX12_sample 10 = .ok (.i2l, 1)) ∧ (decode cX12_sample 11 = .ok (.lconst 0, 1)) ∧ (decode cX12_sample 12 = .ok (.ldc2_w 515, 3)) ∧ (decode cX12_sample 15 = .ok (.invokestatic 338, 3)) ∧ (decode cX12_sample 18 = .ok (.ifCond .ne 9, 3)) ∧ (decode cX12_sample 21 = .ok (.aload_n 0, 1)) := by decide +kernel
theorem dX12_sample_0 : decode cX12_sample 0 = .ok (.aload_n 0, 1) := dGR_32_c_1060.1
theorem dX12_sample_1 : decode cX12_sample 1 = .ok (.iload_n 1, 1) := dGR_32_c_1060.2.1
theorem dX12_sample_2 : decode cX12_sample 2 = .ok (.iload_n 2, 1) := dGR_32_c_1060.2.2.1
theorem dX12_sample_3 : decode cX12_sample 3 = .ok (.invokevirtual 358, 3) := dGR_32_c_1060.2.2.2.1
theorem dX12_sample_6 : decode cX12_sample 6 = .ok (.ifCond .eq 15, 3) := dGR_32_c_1060.2.2.2.2.1
theorem dX12_sample_9 : decode cX12_sample 9 = .ok (.iload_n 3, 1) := dGR_32_c_1060.2.2.2.2.2.1
theorem dX12_sample_10 : decode cX12_sample 10 = .ok (.i2l, 1) := dGR_32_c_1060.2.2.2.2.2.2.1
theorem dX12_sample_11 : decode cX12_sample 11 = .ok (.lconst 0, 1) := dGR_32_c_1060.2.2.2.2.2.2.2.1
theorem dX12_sample_12 : decode cX12_sample 12 = .ok (.ldc2_w 515, 3) := dGR_32_c_1060.2.2.2.2.2.2.2.2.1
theorem dX12_sample_15 : decode cX12_sample 15 = .ok (.invokestatic 338, 3) := dGR_32_c_1060.2.2.2.2.2.2.2.2.2.1
theorem dX12_sample_18 : decode cX12_sample 18 = .ok (.ifCond .ne 9, 3) := dGR_32_c_1060.2.2.2.2.2.2.2.2.2.2.1
theorem dX12_sample_21 : decode cX12_sample 21 = .ok (.aload_n 0, 1) := dGR_32_c_1060.2.2.2.2.2.2.2.2.2.2.2
set_option maxRecDepth 100000 in
theorem dGR_32_c_1061 : (decode cX12_sample 22 = .ok (.iconst 1, 1)) ∧ (decode cX12_sample 23 = .ok (.invokevirtual 130, 3)) ∧ (decode cX12_sample 26 = .ok (.ireturn, 1)) ∧ (decode cX12_sample 27 = .ok (.aload_n 0, 1)) ∧ (decode cX12_sample 28 = .ok (.getfield 24, 3)) ∧ (decode cX12_sample 31 = .ok (.iload_n 1, 1)) ∧ (decode cX12_sample 32 = .ok (.iaload, 1)) ∧ (decode cX12_sample 33 = .ok (.iconst (-1), 1)) ∧ (decode cX12_sample 34 = .ok (.if_icmp .ne 9, 3)) ∧ (decode cX12_sample 37 = .ok (.aload_n 0, 1)) ∧ (decode cX12_sample 38 = .ok (.iconst 2, 1)) ∧ (decode cX12_sample 39 = .ok (.invokevirtual 130, 3)) := by decide +kernel
theorem dX12_sample_22 : decode cX12_sample 22 = .ok (.iconst 1, 1) := dGR_32_c_1061.1
theorem dX12_sample_23 : decode cX12_sample 23 = .ok (.invokevirtual 130, 3) := dGR_32_c_1061.2.1
theorem dX12_sample_26 : decode cX12_sample 26 = .ok (.ireturn, 1) := dGR_32_c_1061.2.2.1
theorem dX12_sample_27 : decode cX12_sample 27 = .ok (.aload_n 0, 1) := dGR_32_c_1061.2.2.2.1
theorem dX12_sample_28 : decode cX12_sample 28 = .ok (.getfield 24, 3) := dGR_32_c_1061.2.2.2.2.1
theorem dX12_sample_31 : decode cX12_sample 31 = .ok (.iload_n 1, 1) := dGR_32_c_1061.2.2.2.2.2.1
theorem dX12_sample_32 : decode cX12_sample 32 = .ok (.iaload, 1) := dGR_32_c_1061.2.2.2.2.2.2.1
theorem dX12_sample_33 : decode cX12_sample 33 = .ok (.iconst (-1), 1) := dGR_32_c_1061.2.2.2.2.2.2.2.1
theorem dX12_sample_34 : decode cX12_sample 34 = .ok (.if_icmp .ne 9, 3) := dGR_32_c_1061.2.2.2.2.2.2.2.2.1
theorem dX12_sample_37 : decode cX12_sample 37 = .ok (.aload_n 0, 1) := dGR_32_c_1061.2.2.2.2.2.2.2.2.2.1
theorem dX12_sample_38 : decode cX12_sample 38 = .ok (.iconst 2, 1) := dGR_32_c_1061.2.2.2.2.2.2.2.2.2.2.1
theorem dX12_sample_39 : decode cX12_sample 39 = .ok (.invokevirtual 130, 3) := dGR_32_c_1061.2.2.2.2.2.2.2.2.2.2.2
set_option maxRecDepth 100000 in
theorem dGR_32_c_1062 : (decode cX12_sample 42 = .ok (.ireturn, 1)) ∧ (decode cX12_sample 43 = .ok (.aload_n 0, 1)) ∧ (decode cX12_sample 44 = .ok (.getfield 24, 3)) ∧ (decode cX12_sample 47 = .ok (.iload_n 1, 1)) ∧ (decode cX12_sample 48 = .ok (.iaload, 1)) ∧ (decode cX12_sample 49 = .ok (.iload_n 2, 1)) ∧ (decode cX12_sample 50 = .ok (.if_icmp .ge 9, 3)) ∧ (decode cX12_sample 53 = .ok (.aload_n 0, 1)) ∧ (decode cX12_sample 54 = .ok (.iconst 3, 1)) ∧ (decode cX12_sample 55 = .ok (.invokevirtual 130, 3)) ∧ (decode cX12_sample 58 = .ok (.ireturn, 1)) ∧ (decode cX12_sample 59 = .ok (.aload_n 0, 1)) := by decide +kernel
theorem dX12_sample_42 : decode cX12_sample 42 = .ok (.ireturn, 1) := dGR_32_c_1062.1
theorem dX12_sample_43 : decode cX12_sample 43 = .ok (.aload_n 0, 1) := dGR_32_c_1062.2.1
theorem dX12_sample_44 : decode cX12_sample 44 = .ok (.getfield 24, 3) := dGR_32_c_1062.2.2.1
theorem dX12_sample_47 : decode cX12_sample 47 = .ok (.iload_n 1, 1) := dGR_32_c_1062.2.2.2.1
theorem dX12_sample_48 : decode cX12_sample 48 = .ok (.iaload, 1) := dGR_32_c_1062.2.2.2.2.1
theorem dX12_sample_49 : decode cX12_sample 49 = .ok (.iload_n 2, 1) := dGR_32_c_1062.2.2.2.2.2.1
theorem dX12_sample_50 : decode cX12_sample 50 = .ok (.if_icmp .ge 9, 3) := dGR_32_c_1062.2.2.2.2.2.2.1
theorem dX12_sample_53 : decode cX12_sample 53 = .ok (.aload_n 0, 1) := dGR_32_c_1062.2.2.2.2.2.2.2.1
theorem dX12_sample_54 : decode cX12_sample 54 = .ok (.iconst 3, 1) := dGR_32_c_1062.2.2.2.2.2.2.2.2.1
theorem dX12_sample_55 : decode cX12_sample 55 = .ok (.invokevirtual 130, 3) := dGR_32_c_1062.2.2.2.2.2.2.2.2.2.1
theorem dX12_sample_58 : decode cX12_sample 58 = .ok (.ireturn, 1) := dGR_32_c_1062.2.2.2.2.2.2.2.2.2.2.1
theorem dX12_sample_59 : decode cX12_sample 59 = .ok (.aload_n 0, 1) := dGR_32_c_1062.2.2.2.2.2.2.2.2.2.2.2
set_option maxRecDepth 100000 in
theorem dGR_32_c_1063 : (decode cX12_sample 60 = .ok (.invokevirtual 285, 3)) ∧ (decode cX12_sample 63 = .ok (.ifCond .ne 14, 3)) ∧ (decode cX12_sample 66 = .ok (.iload_n 2, 1)) ∧ (decode cX12_sample 67 = .ok (.ifCond .le 10, 3)) ∧ (decode cX12_sample 70 = .ok (.aload_n 0, 1)) ∧ (decode cX12_sample 71 = .ok (.bipush 6, 2)) ∧ (decode cX12_sample 73 = .ok (.invokevirtual 130, 3)) ∧ (decode cX12_sample 76 = .ok (.ireturn, 1)) ∧ (decode cX12_sample 77 = .ok (.aload_n 0, 1)) ∧ (decode cX12_sample 78 = .ok (.iload_n 3, 1)) ∧ (decode cX12_sample 79 = .ok (.putfield 511, 3)) ∧ (decode cX12_sample 82 = .ok (.iconst 0, 1)) := by decide +kernel
theorem dX12_sample_60 : decode cX12_sample 60 = .ok (.invokevirtual 285, 3) := dGR_32_c_1063.1
theorem dX12_sample_63 : decode cX12_sample 63 = .ok (.ifCond .ne 14, 3) := dGR_32_c_1063.2.1
theorem dX12_sample_66 : decode cX12_sample 66 = .ok (.iload_n 2, 1) := dGR_32_c_1063.2.2.1
theorem dX12_sample_67 : decode cX12_sample 67 = .ok (.ifCond .le 10, 3) := dGR_32_c_1063.2.2.2.1
theorem dX12_sample_70 : decode cX12_sample 70 = .ok (.aload_n 0, 1) := dGR_32_c_1063.2.2.2.2.1
theorem dX12_sample_71 : decode cX12_sample 71 = .ok (.bipush 6, 2) := dGR_32_c_1063.2.2.2.2.2.1
theorem dX12_sample_73 : decode cX12_sample 73 = .ok (.invokevirtual 130, 3) := dGR_32_c_1063.2.2.2.2.2.2.1
theorem dX12_sample_76 : decode cX12_sample 76 = .ok (.ireturn, 1) := dGR_32_c_1063.2.2.2.2.2.2.2.1
theorem dX12_sample_77 : decode cX12_sample 77 = .ok (.aload_n 0, 1) := dGR_32_c_1063.2.2.2.2.2.2.2.2.1
theorem dX12_sample_78 : decode cX12_sample 78 = .ok (.iload_n 3, 1) := dGR_32_c_1063.2.2.2.2.2.2.2.2.2.1
theorem dX12_sample_79 : decode cX12_sample 79 = .ok (.putfield 511, 3) := dGR_32_c_1063.2.2.2.2.2.2.2.2.2.2.1
theorem dX12_sample_82 : decode cX12_sample 82 = .ok (.iconst 0, 1) := dGR_32_c_1063.2.2.2.2.2.2.2.2.2.2.2
set_option maxRecDepth 100000 in
theorem dGR_32_c_1064 : (decode cX12_sample 83 = .ok (.istore 4, 2)) ∧ (decode cX12_sample 85 = .ok (.iload 4, 2)) ∧ (decode cX12_sample 87 = .ok (.iload_n 2, 1)) ∧ (decode cX12_sample 88 = .ok (.if_icmp .ge 39, 3)) ∧ (decode cX12_sample 91 = .ok (.aload_n 0, 1)) ∧ (decode cX12_sample 92 = .ok (.getfield 27, 3)) ∧ (decode cX12_sample 95 = .ok (.bipush 60, 2)) ∧ (decode cX12_sample 97 = .ok (.iload_n 1, 1)) ∧ (decode cX12_sample 98 = .ok (.imul, 1)) ∧ (decode cX12_sample 99 = .ok (.iload 4, 2)) ∧ (decode cX12_sample 101 = .ok (.iadd, 1)) ∧ (decode cX12_sample 102 = .ok (.aload_n 0, 1)) := by decide +kernel
theorem dX12_sample_83 : decode cX12_sample 83 = .ok (.istore 4, 2) := dGR_32_c_1064.1
theorem dX12_sample_85 : decode cX12_sample 85 = .ok (.iload 4, 2) := dGR_32_c_1064.2.1
theorem dX12_sample_87 : decode cX12_sample 87 = .ok (.iload_n 2, 1) := dGR_32_c_1064.2.2.1
theorem dX12_sample_88 : decode cX12_sample 88 = .ok (.if_icmp .ge 39, 3) := dGR_32_c_1064.2.2.2.1
theorem dX12_sample_91 : decode cX12_sample 91 = .ok (.aload_n 0, 1) := dGR_32_c_1064.2.2.2.2.1
theorem dX12_sample_92 : decode cX12_sample 92 = .ok (.getfield 27, 3) := dGR_32_c_1064.2.2.2.2.2.1
theorem dX12_sample_95 : decode cX12_sample 95 = .ok (.bipush 60, 2) := dGR_32_c_1064.2.2.2.2.2.2.1
theorem dX12_sample_97 : decode cX12_sample 97 = .ok (.iload_n 1, 1) := dGR_32_c_1064.2.2.2.2.2.2.2.1
theorem dX12_sample_98 : decode cX12_sample 98 = .ok (.imul, 1) := dGR_32_c_1064.2.2.2.2.2.2.2.2.1
theorem dX12_sample_99 : decode cX12_sample 99 = .ok (.iload 4, 2) := dGR_32_c_1064.2.2.2.2.2.2.2.2.2.1
theorem dX12_sample_101 : decode cX12_sample 101 = .ok (.iadd, 1) := dGR_32_c_1064.2.2.2.2.2.2.2.2.2.2.1
theorem dX12_sample_102 : decode cX12_sample 102 = .ok (.aload_n 0, 1) := dGR_32_c_1064.2.2.2.2.2.2.2.2.2.2.2
set_option maxRecDepth 100000 in
theorem dGR_32_c_1065 : (decode cX12_sample 103 = .ok (.aload_n 0, 1)) ∧ (decode cX12_sample 104 = .ok (.invokevirtual 285, 3)) ∧ (decode cX12_sample 107 = .ok (.invokevirtual 517, 3)) ∧ (decode cX12_sample 110 = .ok (.i2l, 1)) ∧ (decode cX12_sample 111 = .ok (.aload_n 0, 1)) ∧ (decode cX12_sample 112 = .ok (.getfield 21, 3)) ∧ (decode cX12_sample 115 = .ok (.iload_n 1, 1)) ∧ (decode cX12_sample 116 = .ok (.iaload, 1)) ∧ (decode cX12_sample 117 = .ok (.invokestatic 141, 3)) ∧ (decode cX12_sample 120 = .ok (.lastore, 1)) ∧ (decode cX12_sample 121 = .ok (.iinc 4 1, 3)) ∧ (decode cX12_sample 124 = .ok (.goto (-39), 3)) := by decide +kernel
theorem dX12_sample_103 : decode cX12_sample 103 = .ok (.aload_n 0, 1) := dGR_32_c_1065.1
theorem dX12_sample_104 : decode cX12_sample 104 = .ok (.invokevirtual 285, 3) := dGR_32_c_1065.2.1
theorem dX12_sample_107 : decode cX12_sample 107 = .ok (.invokevirtual 517, 3) := dGR_32_c_1065.2.2.1
theorem dX12_sample_110 : decode cX12_sample 110 = .ok (.i2l, 1) := dGR_32_c_1065.2.2.2.1
theorem dX12_sample_111 : decode cX12_sample 111 = .ok (.aload_n 0, 1) := dGR_32_c_1065.2.2.2.2.1
theorem dX12_sample_112 : decode cX12_sample 112 = .ok (.getfield 21, 3) := dGR_32_c_1065.2.2.2.2.2.1
theorem dX12_sample_115 : decode cX12_sample 115 = .ok (.iload_n 1, 1) := dGR_32_c_1065.2.2.2.2.2.2.1
theorem dX12_sample_116 : decode cX12_sample 116 = .ok (.iaload, 1) := dGR_32_c_1065.2.2.2.2.2.2.2.1
theorem dX12_sample_117 : decode cX12_sample 117 = .ok (.invokestatic 141, 3) := dGR_32_c_1065.2.2.2.2.2.2.2.2.1
theorem dX12_sample_120 : decode cX12_sample 120 = .ok (.lastore, 1) := dGR_32_c_1065.2.2.2.2.2.2.2.2.2.1
theorem dX12_sample_121 : decode cX12_sample 121 = .ok (.iinc 4 1, 3) := dGR_32_c_1065.2.2.2.2.2.2.2.2.2.2.1
theorem dX12_sample_124 : decode cX12_sample 124 = .ok (.goto (-39), 3) := dGR_32_c_1065.2.2.2.2.2.2.2.2.2.2.2
set_option maxRecDepth 100000 in
theorem dGR_32_c_1066 : (decode cX12_sample 127 = .ok (.aload_n 0, 1)) ∧ (decode cX12_sample 128 = .ok (.iconst 0, 1)) ∧ (decode cX12_sample 129 = .ok (.invokevirtual 130, 3)) ∧ (decode cX12_sample 132 = .ok (.ireturn, 1)) := by decide +kernel
theorem dX12_sample_127 : decode cX12_sample 127 = .ok (.aload_n 0, 1) := dGR_32_c_1066.1
theorem dX12_sample_128 : decode cX12_sample 128 = .ok (.iconst 0, 1) := dGR_32_c_1066.2.1
theorem dX12_sample_129 : decode cX12_sample 129 = .ok (.invokevirtual 130, 3) := dGR_32_c_1066.2.2.1
theorem dX12_sample_132 : decode cX12_sample 132 = .ok (.ireturn, 1) := dGR_32_c_1066.2.2.2
set_option maxRecDepth 100000 in
theorem dGR_32_c_1067 : (decode cX12_chance 0 = .ok (.aload_n 0, 1)) ∧ (decode cX12_chance 1 = .ok (.iload_n 1, 1)) ∧ (decode cX12_chance 2 = .ok (.invokevirtual 282, 3)) ∧ (decode cX12_chance 5 = .ok (.ifCond .eq 40, 3)) ∧ (decode cX12_chance 8 = .ok (.iload_n 2, 1)) ∧ (decode cX12_chance 9 = .ok (.i2l, 1)) ∧ (decode cX12_chance 10 = .ok (.lconst 0, 1)) ∧ (decode cX12_chance 11 = .ok (.ldc2_w 356, 3)) ∧ (decode cX12_chance 14 = .ok (.invokestatic 338, 3)) ∧ (decode cX12_chance 17 = .ok (.ifCond .eq 28, 3)) ∧ (decode cX12_chance 20 = .ok (.iload_n 3, 1)) ∧ (decode cX12_chance 21 = .ok (.i2l, 1)) := by decide +kernel
theorem dX12_chance_0 : decode cX12_chance 0 = .ok (.aload_n 0, 1) := dGR_32_c_1067.1
theorem dX12_chance_1 : decode cX12_chance 1 = .ok (.iload_n 1, 1) := dGR_32_c_1067.2.1
theorem dX12_chance_2 : decode cX12_chance 2 = .ok (.invokevirtual 282, 3) := dGR_32_c_1067.2.2.1
theorem dX12_chance_5 : decode cX12_chance 5 = .ok (.ifCond .eq 40, 3) := dGR_32_c_1067.2.2.2.1
theorem dX12_chance_8 : decode cX12_chance 8 = .ok (.iload_n 2, 1) := dGR_32_c_1067.2.2.2.2.1
theorem dX12_chance_9 : decode cX12_chance 9 = .ok (.i2l, 1) := dGR_32_c_1067.2.2.2.2.2.1
theorem dX12_chance_10 : decode cX12_chance 10 = .ok (.lconst 0, 1) := dGR_32_c_1067.2.2.2.2.2.2.1
theorem dX12_chance_11 : decode cX12_chance 11 = .ok (.ldc2_w 356, 3) := dGR_32_c_1067.2.2.2.2.2.2.2.1
theorem dX12_chance_14 : decode cX12_chance 14 = .ok (.invokestatic 338, 3) := dGR_32_c_1067.2.2.2.2.2.2.2.2.1
theorem dX12_chance_17 : decode cX12_chance 17 = .ok (.ifCond .eq 28, 3) := dGR_32_c_1067.2.2.2.2.2.2.2.2.2.1
theorem dX12_chance_20 : decode cX12_chance 20 = .ok (.iload_n 3, 1) := dGR_32_c_1067.2.2.2.2.2.2.2.2.2.2.1
theorem dX12_chance_21 : decode cX12_chance 21 = .ok (.i2l, 1) := dGR_32_c_1067.2.2.2.2.2.2.2.2.2.2.2
set_option maxRecDepth 100000 in
theorem dGR_32_c_1068 : (decode cX12_chance 22 = .ok (.lconst 1, 1)) ∧ (decode cX12_chance 23 = .ok (.ldc2_w 520, 3)) ∧ (decode cX12_chance 26 = .ok (.invokestatic 338, 3)) ∧ (decode cX12_chance 29 = .ok (.ifCond .eq 16, 3)) ∧ (decode cX12_chance 32 = .ok (.iload 4, 2)) ∧ (decode cX12_chance 34 = .ok (.i2l, 1)) ∧ (decode cX12_chance 35 = .ok (.lconst 0, 1)) ∧ (decode cX12_chance 36 = .ok (.ldc2_w 515, 3)) ∧ (decode cX12_chance 39 = .ok (.invokestatic 338, 3)) ∧ (decode cX12_chance 42 = .ok (.ifCond .ne 9, 3)) ∧ (decode cX12_chance 45 = .ok (.aload_n 0, 1)) ∧ (decode cX12_chance 46 = .ok (.iconst 1, 1)) := by decide +kernel
theorem dX12_chance_22 : decode cX12_chance 22 = .ok (.lconst 1, 1) := dGR_32_c_1068.1
theorem dX12_chance_23 : decode cX12_chance 23 = .ok (.ldc2_w 520, 3) := dGR_32_c_1068.2.1
theorem dX12_chance_26 : decode cX12_chance 26 = .ok (.invokestatic 338, 3) := dGR_32_c_1068.2.2.1
theorem dX12_chance_29 : decode cX12_chance 29 = .ok (.ifCond .eq 16, 3) := dGR_32_c_1068.2.2.2.1
theorem dX12_chance_32 : decode cX12_chance 32 = .ok (.iload 4, 2) := dGR_32_c_1068.2.2.2.2.1
theorem dX12_chance_34 : decode cX12_chance 34 = .ok (.i2l, 1) := dGR_32_c_1068.2.2.2.2.2.1
theorem dX12_chance_35 : decode cX12_chance 35 = .ok (.lconst 0, 1) := dGR_32_c_1068.2.2.2.2.2.2.1
theorem dX12_chance_36 : decode cX12_chance 36 = .ok (.ldc2_w 515, 3) := dGR_32_c_1068.2.2.2.2.2.2.2.1
theorem dX12_chance_39 : decode cX12_chance 39 = .ok (.invokestatic 338, 3) := dGR_32_c_1068.2.2.2.2.2.2.2.2.1
theorem dX12_chance_42 : decode cX12_chance 42 = .ok (.ifCond .ne 9, 3) := dGR_32_c_1068.2.2.2.2.2.2.2.2.2.1
theorem dX12_chance_45 : decode cX12_chance 45 = .ok (.aload_n 0, 1) := dGR_32_c_1068.2.2.2.2.2.2.2.2.2.2.1
theorem dX12_chance_46 : decode cX12_chance 46 = .ok (.iconst 1, 1) := dGR_32_c_1068.2.2.2.2.2.2.2.2.2.2.2
set_option maxRecDepth 100000 in
theorem dGR_32_c_1069 : (decode cX12_chance 47 = .ok (.invokevirtual 130, 3)) ∧ (decode cX12_chance 50 = .ok (.ireturn, 1)) ∧ (decode cX12_chance 51 = .ok (.aload_n 0, 1)) ∧ (decode cX12_chance 52 = .ok (.invokevirtual 285, 3)) ∧ (decode cX12_chance 55 = .ok (.ifCond .ne 14, 3)) ∧ (decode cX12_chance 58 = .ok (.iload_n 2, 1)) ∧ (decode cX12_chance 59 = .ok (.ifCond .le 10, 3)) ∧ (decode cX12_chance 62 = .ok (.aload_n 0, 1)) ∧ (decode cX12_chance 63 = .ok (.bipush 6, 2)) ∧ (decode cX12_chance 65 = .ok (.invokevirtual 130, 3)) ∧ (decode cX12_chance 68 = .ok (.ireturn, 1)) ∧ (decode cX12_chance 69 = .ok (.iconst 0, 1)) := by decide +kernel
theorem dX12_chance_47 : decode cX12_chance 47 = .ok (.invokevirtual 130, 3) := dGR_32_c_1069.1
theorem dX12_chance_50 : decode cX12_chance 50 = .ok (.ireturn, 1) := dGR_32_c_1069.2.1
theorem dX12_chance_51 : decode cX12_chance 51 = .ok (.aload_n 0, 1) := dGR_32_c_1069.2.2.1
theorem dX12_chance_52 : decode cX12_chance 52 = .ok (.invokevirtual 285, 3) := dGR_32_c_1069.2.2.2.1
theorem dX12_chance_55 : decode cX12_chance 55 = .ok (.ifCond .ne 14, 3) := dGR_32_c_1069.2.2.2.2.1
theorem dX12_chance_58 : decode cX12_chance 58 = .ok (.iload_n 2, 1) := dGR_32_c_1069.2.2.2.2.2.1
theorem dX12_chance_59 : decode cX12_chance 59 = .ok (.ifCond .le 10, 3) := dGR_32_c_1069.2.2.2.2.2.2.1
theorem dX12_chance_62 : decode cX12_chance 62 = .ok (.aload_n 0, 1) := dGR_32_c_1069.2.2.2.2.2.2.2.1
theorem dX12_chance_63 : decode cX12_chance 63 = .ok (.bipush 6, 2) := dGR_32_c_1069.2.2.2.2.2.2.2.2.1
theorem dX12_chance_65 : decode cX12_chance 65 = .ok (.invokevirtual 130, 3) := dGR_32_c_1069.2.2.2.2.2.2.2.2.2.1
theorem dX12_chance_68 : decode cX12_chance 68 = .ok (.ireturn, 1) := dGR_32_c_1069.2.2.2.2.2.2.2.2.2.2.1
theorem dX12_chance_69 : decode cX12_chance 69 = .ok (.iconst 0, 1) := dGR_32_c_1069.2.2.2.2.2.2.2.2.2.2.2
set_option maxRecDepth 100000 in
theorem dGR_32_c_1070 : (decode cX12_chance 70 = .ok (.istore 5, 2)) ∧ (decode cX12_chance 72 = .ok (.aload_n 0, 1)) ∧ (decode cX12_chance 73 = .ok (.iload 4, 2)) ∧ (decode cX12_chance 75 = .ok (.putfield 511, 3)) ∧ (decode cX12_chance 78 = .ok (.aload_n 0, 1)) ∧ (decode cX12_chance 79 = .ok (.invokevirtual 342, 3)) ∧ (decode cX12_chance 82 = .ok (.iconst 0, 1)) ∧ (decode cX12_chance 83 = .ok (.istore 6, 2)) ∧ (decode cX12_chance 85 = .ok (.iload 6, 2)) ∧ (decode cX12_chance 87 = .ok (.iload_n 3, 1)) ∧ (decode cX12_chance 88 = .ok (.if_icmp .ge 72, 3)) ∧ (decode cX12_chance 91 = .ok (.aload_n 0, 1)) := by decide +kernel
theorem dX12_chance_70 : decode cX12_chance 70 = .ok (.istore 5, 2) := dGR_32_c_1070.1
theorem dX12_chance_72 : decode cX12_chance 72 = .ok (.aload_n 0, 1) := dGR_32_c_1070.2.1
theorem dX12_chance_73 : decode cX12_chance 73 = .ok (.iload 4, 2) := dGR_32_c_1070.2.2.1
theorem dX12_chance_75 : decode cX12_chance 75 = .ok (.putfield 511, 3) := dGR_32_c_1070.2.2.2.1
theorem dX12_chance_78 : decode cX12_chance 78 = .ok (.aload_n 0, 1) := dGR_32_c_1070.2.2.2.2.1
theorem dX12_chance_79 : decode cX12_chance 79 = .ok (.invokevirtual 342, 3) := dGR_32_c_1070.2.2.2.2.2.1
theorem dX12_chance_82 : decode cX12_chance 82 = .ok (.iconst 0, 1) := dGR_32_c_1070.2.2.2.2.2.2.1
theorem dX12_chance_83 : decode cX12_chance 83 = .ok (.istore 6, 2) := dGR_32_c_1070.2.2.2.2.2.2.2.1
theorem dX12_chance_85 : decode cX12_chance 85 = .ok (.iload 6, 2) := dGR_32_c_1070.2.2.2.2.2.2.2.2.1
theorem dX12_chance_87 : decode cX12_chance 87 = .ok (.iload_n 3, 1) := dGR_32_c_1070.2.2.2.2.2.2.2.2.2.1
theorem dX12_chance_88 : decode cX12_chance 88 = .ok (.if_icmp .ge 72, 3) := dGR_32_c_1070.2.2.2.2.2.2.2.2.2.2.1
theorem dX12_chance_91 : decode cX12_chance 91 = .ok (.aload_n 0, 1) := dGR_32_c_1070.2.2.2.2.2.2.2.2.2.2.2
set_option maxRecDepth 100000 in
theorem dGR_32_c_1071 : (decode cX12_chance 92 = .ok (.iload_n 1, 1)) ∧ (decode cX12_chance 93 = .ok (.iconst 0, 1)) ∧ (decode cX12_chance 94 = .ok (.invokevirtual 345, 3)) ∧ (decode cX12_chance 97 = .ok (.iconst 0, 1)) ∧ (decode cX12_chance 98 = .ok (.istore 7, 2)) ∧ (decode cX12_chance 100 = .ok (.iload 7, 2)) ∧ (decode cX12_chance 102 = .ok (.iload_n 2, 1)) ∧ (decode cX12_chance 103 = .ok (.if_icmp .ge 25, 3)) ∧ (decode cX12_chance 106 = .ok (.aload_n 0, 1)) ∧ (decode cX12_chance 107 = .ok (.iload_n 1, 1)) ∧ (decode cX12_chance 108 = .ok (.iconst 0, 1)) ∧ (decode cX12_chance 109 = .ok (.iload 7, 2)) := by decide +kernel
theorem dX12_chance_92 : decode cX12_chance 92 = .ok (.iload_n 1, 1) := dGR_32_c_1071.1
theorem dX12_chance_93 : decode cX12_chance 93 = .ok (.iconst 0, 1) := dGR_32_c_1071.2.1
theorem dX12_chance_94 : decode cX12_chance 94 = .ok (.invokevirtual 345, 3) := dGR_32_c_1071.2.2.1
theorem dX12_chance_97 : decode cX12_chance 97 = .ok (.iconst 0, 1) := dGR_32_c_1071.2.2.2.1
theorem dX12_chance_98 : decode cX12_chance 98 = .ok (.istore 7, 2) := dGR_32_c_1071.2.2.2.2.1
theorem dX12_chance_100 : decode cX12_chance 100 = .ok (.iload 7, 2) := dGR_32_c_1071.2.2.2.2.2.1
theorem dX12_chance_102 : decode cX12_chance 102 = .ok (.iload_n 2, 1) := dGR_32_c_1071.2.2.2.2.2.2.1
theorem dX12_chance_103 : decode cX12_chance 103 = .ok (.if_icmp .ge 25, 3) := dGR_32_c_1071.2.2.2.2.2.2.2.1
theorem dX12_chance_106 : decode cX12_chance 106 = .ok (.aload_n 0, 1) := dGR_32_c_1071.2.2.2.2.2.2.2.2.1
theorem dX12_chance_107 : decode cX12_chance 107 = .ok (.iload_n 1, 1) := dGR_32_c_1071.2.2.2.2.2.2.2.2.2.1
theorem dX12_chance_108 : decode cX12_chance 108 = .ok (.iconst 0, 1) := dGR_32_c_1071.2.2.2.2.2.2.2.2.2.2.1
theorem dX12_chance_109 : decode cX12_chance 109 = .ok (.iload 7, 2) := dGR_32_c_1071.2.2.2.2.2.2.2.2.2.2.2
set_option maxRecDepth 100000 in
theorem dGR_32_c_1072 : (decode cX12_chance 111 = .ok (.aload_n 0, 1)) ∧ (decode cX12_chance 112 = .ok (.aload_n 0, 1)) ∧ (decode cX12_chance 113 = .ok (.invokevirtual 285, 3)) ∧ (decode cX12_chance 116 = .ok (.invokevirtual 517, 3)) ∧ (decode cX12_chance 119 = .ok (.invokevirtual 352, 3)) ∧ (decode cX12_chance 122 = .ok (.iinc 7 1, 3)) ∧ (decode cX12_chance 125 = .ok (.goto (-25), 3)) ∧ (decode cX12_chance 128 = .ok (.iload 5, 2)) ∧ (decode cX12_chance 130 = .ok (.aload_n 0, 1)) ∧ (decode cX12_chance 131 = .ok (.getfield 47, 3)) ∧ (decode cX12_chance 134 = .ok (.iload_n 2, 1)) ∧ (decode cX12_chance 135 = .ok (.iaload, 1)) := by decide +kernel
theorem dX12_chance_111 : decode cX12_chance 111 = .ok (.aload_n 0, 1) := dGR_32_c_1072.1
theorem dX12_chance_112 : decode cX12_chance 112 = .ok (.aload_n 0, 1) := dGR_32_c_1072.2.1
theorem dX12_chance_113 : decode cX12_chance 113 = .ok (.invokevirtual 285, 3) := dGR_32_c_1072.2.2.1
theorem dX12_chance_116 : decode cX12_chance 116 = .ok (.invokevirtual 517, 3) := dGR_32_c_1072.2.2.2.1
theorem dX12_chance_119 : decode cX12_chance 119 = .ok (.invokevirtual 352, 3) := dGR_32_c_1072.2.2.2.2.1
theorem dX12_chance_122 : decode cX12_chance 122 = .ok (.iinc 7 1, 3) := dGR_32_c_1072.2.2.2.2.2.1
theorem dX12_chance_125 : decode cX12_chance 125 = .ok (.goto (-25), 3) := dGR_32_c_1072.2.2.2.2.2.2.1
theorem dX12_chance_128 : decode cX12_chance 128 = .ok (.iload 5, 2) := dGR_32_c_1072.2.2.2.2.2.2.2.1
theorem dX12_chance_130 : decode cX12_chance 130 = .ok (.aload_n 0, 1) := dGR_32_c_1072.2.2.2.2.2.2.2.2.1
theorem dX12_chance_131 : decode cX12_chance 131 = .ok (.getfield 47, 3) := dGR_32_c_1072.2.2.2.2.2.2.2.2.2.1
theorem dX12_chance_134 : decode cX12_chance 134 = .ok (.iload_n 2, 1) := dGR_32_c_1072.2.2.2.2.2.2.2.2.2.2.1
theorem dX12_chance_135 : decode cX12_chance 135 = .ok (.iaload, 1) := dGR_32_c_1072.2.2.2.2.2.2.2.2.2.2.2
set_option maxRecDepth 100000 in
theorem dGR_32_c_1073 : (decode cX12_chance 136 = .ok (.aload_n 0, 1)) ∧ (decode cX12_chance 137 = .ok (.iload_n 1, 1)) ∧ (decode cX12_chance 138 = .ok (.iconst 3, 1)) ∧ (decode cX12_chance 139 = .ok (.invokevirtual 288, 3)) ∧ (decode cX12_chance 142 = .ok (.iand, 1)) ∧ (decode cX12_chance 143 = .ok (.ifCond .eq 7, 3)) ∧ (decode cX12_chance 146 = .ok (.iconst 1, 1)) ∧ (decode cX12_chance 147 = .ok (.goto 4, 3)) ∧ (decode cX12_chance 150 = .ok (.iconst 0, 1)) ∧ (decode cX12_chance 151 = .ok (.iadd, 1)) ∧ (decode cX12_chance 152 = .ok (.istore 5, 2)) ∧ (decode cX12_chance 154 = .ok (.iinc 6 1, 3)) := by decide +kernel
theorem dX12_chance_136 : decode cX12_chance 136 = .ok (.aload_n 0, 1) := dGR_32_c_1073.1
theorem dX12_chance_137 : decode cX12_chance 137 = .ok (.iload_n 1, 1) := dGR_32_c_1073.2.1
theorem dX12_chance_138 : decode cX12_chance 138 = .ok (.iconst 3, 1) := dGR_32_c_1073.2.2.1
theorem dX12_chance_139 : decode cX12_chance 139 = .ok (.invokevirtual 288, 3) := dGR_32_c_1073.2.2.2.1
theorem dX12_chance_142 : decode cX12_chance 142 = .ok (.iand, 1) := dGR_32_c_1073.2.2.2.2.1
theorem dX12_chance_143 : decode cX12_chance 143 = .ok (.ifCond .eq 7, 3) := dGR_32_c_1073.2.2.2.2.2.1
theorem dX12_chance_146 : decode cX12_chance 146 = .ok (.iconst 1, 1) := dGR_32_c_1073.2.2.2.2.2.2.1
theorem dX12_chance_147 : decode cX12_chance 147 = .ok (.goto 4, 3) := dGR_32_c_1073.2.2.2.2.2.2.2.1
theorem dX12_chance_150 : decode cX12_chance 150 = .ok (.iconst 0, 1) := dGR_32_c_1073.2.2.2.2.2.2.2.2.1
theorem dX12_chance_151 : decode cX12_chance 151 = .ok (.iadd, 1) := dGR_32_c_1073.2.2.2.2.2.2.2.2.2.1
theorem dX12_chance_152 : decode cX12_chance 152 = .ok (.istore 5, 2) := dGR_32_c_1073.2.2.2.2.2.2.2.2.2.2.1
theorem dX12_chance_154 : decode cX12_chance 154 = .ok (.iinc 6 1, 3) := dGR_32_c_1073.2.2.2.2.2.2.2.2.2.2.2
set_option maxRecDepth 100000 in
theorem dGR_32_c_1074 : (decode cX12_chance 157 = .ok (.goto (-72), 3)) ∧ (decode cX12_chance 160 = .ok (.aload_n 0, 1)) ∧ (decode cX12_chance 161 = .ok (.iload 5, 2)) ∧ (decode cX12_chance 163 = .ok (.i2l, 1)) ∧ (decode cX12_chance 164 = .ok (.iload_n 3, 1)) ∧ (decode cX12_chance 165 = .ok (.i2l, 1)) ∧ (decode cX12_chance 166 = .ok (.invokevirtual 384, 3)) ∧ (decode cX12_chance 169 = .ok (.ireturn, 1)) := by decide +kernel
theorem dX12_chance_157 : decode cX12_chance 157 = .ok (.goto (-72), 3) := dGR_32_c_1074.1
theorem dX12_chance_160 : decode cX12_chance 160 = .ok (.aload_n 0, 1) := dGR_32_c_1074.2.1
theorem dX12_chance_161 : decode cX12_chance 161 = .ok (.iload 5, 2) := dGR_32_c_1074.2.2.1
theorem dX12_chance_163 : decode cX12_chance 163 = .ok (.i2l, 1) := dGR_32_c_1074.2.2.2.1
theorem dX12_chance_164 : decode cX12_chance 164 = .ok (.iload_n 3, 1) := dGR_32_c_1074.2.2.2.2.1
theorem dX12_chance_165 : decode cX12_chance 165 = .ok (.i2l, 1) := dGR_32_c_1074.2.2.2.2.2.1
theorem dX12_chance_166 : decode cX12_chance 166 = .ok (.invokevirtual 384, 3) := dGR_32_c_1074.2.2.2.2.2.2.1
theorem dX12_chance_169 : decode cX12_chance 169 = .ok (.ireturn, 1) := dGR_32_c_1074.2.2.2.2.2.2.2
