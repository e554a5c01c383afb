set_option maxRecDepth 100000 in
theorem dGR_24_c_719 : (decode cX12_isSign 0 = .ok (.aload_n 0, 1)) ∧ (decode cX12_isSign 1 = .ok (.getfield 168, 3)) ∧ (decode cX12_isSign 4 = .ok (.iconst 4, 1)) ∧ (decode cX12_isSign 5 = .ok (.if_icmp .ne 15, 3)) ∧ (decode cX12_isSign 8 = .ok (.aload_n 0, 1)) ∧ (decode cX12_isSign 9 = .ok (.getfield 165, 3)) ∧ (decode cX12_isSign 12 = .ok (.iload_n 1, 1)) ∧ (decode cX12_isSign 13 = .ok (.if_icmp .ne 7, 3)) ∧ (decode cX12_isSign 16 = .ok (.iconst 1, 1)) ∧ (decode cX12_isSign 17 = .ok (.goto 4, 3)) ∧ (decode cX12_isSign 20 = .ok (.iconst 0, 1)) ∧ (decode cX12_isSign 21 = .ok (.ireturn, 1)) := by decide +kernel
theorem dX12_isSign_0 : decode cX12_isSign 0 = .ok (.aload_n 0, 1) := dGR_24_c_719.1
theorem dX12_isSign_1 : decode cX12_isSign 1 = .ok (.getfield 168, 3) := dGR_24_c_719.2.1
theorem dX12_isSign_4 : decode cX12_isSign 4 = .ok (.iconst 4, 1) := dGR_24_c_719.2.2.1
theorem dX12_isSign_5 : decode cX12_isSign 5 = .ok (.if_icmp .ne 15, 3) := dGR_24_c_719.2.2.2.1
theorem dX12_isSign_8 : decode cX12_isSign 8 = .ok (.aload_n 0, 1) := dGR_24_c_719.2.2.2.2.1
theorem dX12_isSign_9 : decode cX12_isSign 9 = .ok (.getfield 165, 3) := dGR_24_c_719.2.2.2.2.2.1
theorem dX12_isSign_12 : decode cX12_isSign 12 = .ok (.iload_n 1, 1) := dGR_24_c_719.2.2.2.2.2.2.1
theorem dX12_isSign_13 : decode cX12_isSign 13 = .ok (.if_icmp .ne 7, 3) := dGR_24_c_719.2.2.2.2.2.2.2.1
theorem dX12_isSign_16 : decode cX12_isSign 16 = .ok (.iconst 1, 1) := dGR_24_c_719.2.2.2.2.2.2.2.2.1
theorem dX12_isSign_17 : decode cX12_isSign 17 = .ok (.goto 4, 3) := dGR_24_c_719.2.2.2.2.2.2.2.2.2.1
theorem dX12_isSign_20 : decode cX12_isSign 20 = .ok (.iconst 0, 1) := dGR_24_c_719.2.2.2.2.2.2.2.2.2.2.1
theorem dX12_isSign_21 : decode cX12_isSign 21 = .ok (.ireturn, 1) := dGR_24_c_719.2.2.2.2.2.2.2.2.2.2.2
set_option maxRecDepth 100000 in
theorem dGR_24_c_720 : (decode cX12_sortOf 0 = .ok (.iload_n 2, 1)) ∧ (decode cX12_sortOf 1 = .ok (.aload_n 0, 1)) ∧ (decode cX12_sortOf 2 = .ok (.getfield 7, 3)) ∧ (decode cX12_sortOf 5 = .ok (.iload_n 1, 1)) ∧ (decode cX12_sortOf 6 = .ok (.iaload, 1)) ∧ (decode cX12_sortOf 7 = .ok (.if_icmp .ge 7, 3)) ∧ (decode cX12_sortOf 10 = .ok (.iconst 0, 1)) ∧ (decode cX12_sortOf 11 = .ok (.goto 27, 3)) ∧ (decode cX12_sortOf 14 = .ok (.iload_n 2, 1)) ∧ (decode cX12_sortOf 15 = .ok (.aload_n 0, 1)) ∧ (decode cX12_sortOf 16 = .ok (.getfield 7, 3)) ∧ (decode cX12_sortOf 19 = .ok (.iload_n 1, 1)) := by decide +kernel
theorem dX12_sortOf_0 : decode cX12_sortOf 0 = .ok (.iload_n 2, 1) := dGR_24_c_720.1
theorem dX12_sortOf_1 : decode cX12_sortOf 1 = .ok (.aload_n 0, 1) := dGR_24_c_720.2.1
theorem dX12_sortOf_2 : decode cX12_sortOf 2 = .ok (.getfield 7, 3) := dGR_24_c_720.2.2.1
theorem dX12_sortOf_5 : decode cX12_sortOf 5 = .ok (.iload_n 1, 1) := dGR_24_c_720.2.2.2.1
theorem dX12_sortOf_6 : decode cX12_sortOf 6 = .ok (.iaload, 1) := dGR_24_c_720.2.2.2.2.1
theorem dX12_sortOf_7 : decode cX12_sortOf 7 = .ok (.if_icmp .ge 7, 3) := dGR_24_c_720.2.2.2.2.2.1
theorem dX12_sortOf_10 : decode cX12_sortOf 10 = .ok (.iconst 0, 1) := dGR_24_c_720.2.2.2.2.2.2.1
theorem dX12_sortOf_11 : decode cX12_sortOf 11 = .ok (.goto 27, 3) := dGR_24_c_720.2.2.2.2.2.2.2.1
theorem dX12_sortOf_14 : decode cX12_sortOf 14 = .ok (.iload_n 2, 1) := dGR_24_c_720.2.2.2.2.2.2.2.2.1
theorem dX12_sortOf_15 : decode cX12_sortOf 15 = .ok (.aload_n 0, 1) := dGR_24_c_720.2.2.2.2.2.2.2.2.2.1
theorem dX12_sortOf_16 : decode cX12_sortOf 16 = .ok (.getfield 7, 3) := dGR_24_c_720.2.2.2.2.2.2.2.2.2.2.1
theorem dX12_sortOf_19 : decode cX12_sortOf 19 = .ok (.iload_n 1, 1) := dGR_24_c_720.2.2.2.2.2.2.2.2.2.2.2
set_option maxRecDepth 100000 in
theorem dGR_24_c_721 : (decode cX12_sortOf 20 = .ok (.iaload, 1)) ∧ (decode cX12_sortOf 21 = .ok (.aload_n 0, 1)) ∧ (decode cX12_sortOf 22 = .ok (.getfield 7, 3)) ∧ (decode cX12_sortOf 25 = .ok (.iload_n 1, 1)) ∧ (decode cX12_sortOf 26 = .ok (.iconst 1, 1)) ∧ (decode cX12_sortOf 27 = .ok (.iadd, 1)) ∧ (decode cX12_sortOf 28 = .ok (.iaload, 1)) ∧ (decode cX12_sortOf 29 = .ok (.iadd, 1)) ∧ (decode cX12_sortOf 30 = .ok (.if_icmp .ge 7, 3)) ∧ (decode cX12_sortOf 33 = .ok (.iconst 1, 1)) ∧ (decode cX12_sortOf 34 = .ok (.goto 4, 3)) ∧ (decode cX12_sortOf 37 = .ok (.iconst 2, 1)) := by decide +kernel
theorem dX12_sortOf_20 : decode cX12_sortOf 20 = .ok (.iaload, 1) := dGR_24_c_721.1
theorem dX12_sortOf_21 : decode cX12_sortOf 21 = .ok (.aload_n 0, 1) := dGR_24_c_721.2.1
theorem dX12_sortOf_22 : decode cX12_sortOf 22 = .ok (.getfield 7, 3) := dGR_24_c_721.2.2.1
theorem dX12_sortOf_25 : decode cX12_sortOf 25 = .ok (.iload_n 1, 1) := dGR_24_c_721.2.2.2.1
theorem dX12_sortOf_26 : decode cX12_sortOf 26 = .ok (.iconst 1, 1) := dGR_24_c_721.2.2.2.2.1
theorem dX12_sortOf_27 : decode cX12_sortOf 27 = .ok (.iadd, 1) := dGR_24_c_721.2.2.2.2.2.1
theorem dX12_sortOf_28 : decode cX12_sortOf 28 = .ok (.iaload, 1) := dGR_24_c_721.2.2.2.2.2.2.1
theorem dX12_sortOf_29 : decode cX12_sortOf 29 = .ok (.iadd, 1) := dGR_24_c_721.2.2.2.2.2.2.2.1
theorem dX12_sortOf_30 : decode cX12_sortOf 30 = .ok (.if_icmp .ge 7, 3) := dGR_24_c_721.2.2.2.2.2.2.2.2.1
theorem dX12_sortOf_33 : decode cX12_sortOf 33 = .ok (.iconst 1, 1) := dGR_24_c_721.2.2.2.2.2.2.2.2.2.1
theorem dX12_sortOf_34 : decode cX12_sortOf 34 = .ok (.goto 4, 3) := dGR_24_c_721.2.2.2.2.2.2.2.2.2.2.1
theorem dX12_sortOf_37 : decode cX12_sortOf 37 = .ok (.iconst 2, 1) := dGR_24_c_721.2.2.2.2.2.2.2.2.2.2.2
theorem dX12_sortOf_38 : decode cX12_sortOf 38 = .ok (.ireturn, 1) := by decide +kernel
set_option maxHeartbeats 4000000 in
set_option maxRecDepth 100000 in
theorem c_sortOf0 (G : KG) (l : Launch) (M : Mem) (a1 : Int) (a2 : Int) (hI_M : Inv true M) (hpre : -2147483648 ≤ a1 ∧ a1 ≤ 2147483647 ∧ -2147483648 ≤ a2 ∧ a2 ≤ 2147483647 ∧ a1 = 0) : KC true G l yX12_sortOf cX12_sortOf 3 (some .int) (0, 0) [vR G 163, vI a1, vI a2] M (fun A => kQi true G A (fun (r : Int) (N : Mem) => M = N ∧ (0 ≤ r ∧ r ≤ 2))) := by
  refine kx_met (lo := [some (vR G 163), some (vI a1), some (vI a2)]) (by decide) (Nat.le_of_ble_eq_true rfl) rfl ?_
  intro X F hQ
  refine kx_iload_n 1 F 2 dX12_sortOf_0 rfl rfl rfl ?_
  refine kx_aload_n 2 F 0 dX12_sortOf_1 rfl rfl rfl ?_
  refine kx_getr 5 F fl_X12_7 kd_163 rfl rfl (j := 0) rfl dX12_sortOf_2 (v := 164) (uq_164 (Inv.r hI_M kd_163 rfl 0 rfl rfl)) rfl ?_
  refine kx_iload_n 6 F 1 dX12_sortOf_5 rfl rfl rfl ?_
  refine kx_iald 7 F kd_164 rfl rfl (by omega) (by decide) dX12_sortOf_6 (v := (M 164 a1)) rfl rfl ?_
  have ha_1 : atlo a1 = 0 ∧ athi a1 = 2 := at_c a1 0 (o := 0) (lo := 0) (hi := 2) (by omega) (by decide) (by decide) (by decide)
  have h_2 := Inv.g hI_M kd_164 rfl a1 (a := 0) (b := 2) ha_1.1 ha_1.2
  refine kx_icmp_ge 10 F 14 dX12_sortOf_7 (by decide) rfl (by omega) (by omega) (fun h_3 => ?_) (fun h_3 => ?_)
  · refine kx_iload_n 15 F 2 dX12_sortOf_14 rfl rfl rfl ?_
    refine kx_aload_n 16 F 0 dX12_sortOf_15 rfl rfl rfl ?_
    refine kx_getr 19 F fl_X12_7 kd_163 rfl rfl (j := 0) rfl dX12_sortOf_16 (v := 164) (uq_164 (Inv.r hI_M kd_163 rfl 0 rfl rfl)) rfl ?_
    refine kx_iload_n 20 F 1 dX12_sortOf_19 rfl rfl rfl ?_
    refine kx_iald 21 F kd_164 rfl rfl (by omega) (by decide) dX12_sortOf_20 (v := (M 164 a1)) rfl rfl ?_
    refine kx_aload_n 22 F 0 dX12_sortOf_21 rfl rfl rfl ?_
    refine kx_getr 25 F fl_X12_7 kd_163 rfl rfl (j := 0) rfl dX12_sortOf_22 (v := 164) (uq_164 (Inv.r hI_M kd_163 rfl 0 rfl rfl)) rfl ?_
    refine kx_iload_n 26 F 1 dX12_sortOf_25 rfl rfl rfl ?_
    refine kx_iconst 27 F dX12_sortOf_26 rfl ?_
    refine kx_iadd 28 F (v := a1 + 1) dX12_sortOf_27 rfl rfl ?_
    refine kx_iald 29 F kd_164 rfl rfl (by omega) (by decide) dX12_sortOf_28 (v := (M 164 (a1 + 1))) rfl rfl ?_
    have ha_4 : atlo (a1 + 1) = 0 ∧ athi (a1 + 1) = 2 := at_c (a1 + 1) 0 (o := 1) (lo := 0) (hi := 2) (by omega) (by decide) (by decide) (by decide)
    have h_5 := Inv.g hI_M kd_164 rfl (a1 + 1) (a := 0) (b := 2) ha_4.1 ha_4.2
    refine kx_iadd 30 F (v := (M 164 a1) + (M 164 (a1 + 1))) dX12_sortOf_29 rfl rfl ?_
    refine kx_icmp_ge 33 F 37 dX12_sortOf_30 (by decide) rfl (by omega) (by omega) (fun h_6 => ?_) (fun h_6 => ?_)
    · refine kx_iconst 38 F dX12_sortOf_37 rfl ?_
      exact kx_iret F hQ ⟨rfl, (by omega)⟩ dX12_sortOf_38
    · refine kx_iconst 34 F dX12_sortOf_33 rfl ?_
      refine kx_goto 38 F dX12_sortOf_34 (by decide) ?_
      exact kx_iret F hQ ⟨rfl, (by omega)⟩ dX12_sortOf_38
  · refine kx_iconst 11 F dX12_sortOf_10 rfl ?_
    refine kx_goto 38 F dX12_sortOf_11 (by decide) ?_
    exact kx_iret F hQ ⟨rfl, (by omega)⟩ dX12_sortOf_38
set_option maxRecDepth 100000 in
theorem dGR_24_c_722 : (decode cX12_sortNow 0 = .ok (.aload_n 0, 1)) ∧ (decode cX12_sortNow 1 = .ok (.iconst 0, 1)) ∧ (decode cX12_sortNow 2 = .ok (.iload_n 1, 1)) ∧ (decode cX12_sortNow 3 = .ok (.invokevirtual 247, 3)) ∧ (decode cX12_sortNow 6 = .ok (.ireturn, 1)) := by decide +kernel
theorem dX12_sortNow_0 : decode cX12_sortNow 0 = .ok (.aload_n 0, 1) := dGR_24_c_722.1
theorem dX12_sortNow_1 : decode cX12_sortNow 1 = .ok (.iconst 0, 1) := dGR_24_c_722.2.1
theorem dX12_sortNow_2 : decode cX12_sortNow 2 = .ok (.iload_n 1, 1) := dGR_24_c_722.2.2.1
theorem dX12_sortNow_3 : decode cX12_sortNow 3 = .ok (.invokevirtual 247, 3) := dGR_24_c_722.2.2.2.1
theorem dX12_sortNow_6 : decode cX12_sortNow 6 = .ok (.ireturn, 1) := dGR_24_c_722.2.2.2.2
set_option maxHeartbeats 4000000 in
set_option maxRecDepth 100000 in
theorem c_X12_sortNow (G : KG) (l : Launch) (M : Mem) (a1 : Int) (hI_M : Inv true M) (hpre : -2147483648 ≤ a1 ∧ a1 ≤ 2147483647) : KC true G l yX12_sortNow cX12_sortNow 2 (some .int) (1, 22) [vR G 163, vI a1] M (fun A => kQi true G A (fun (r : Int) (N : Mem) => M = N ∧ (0 ≤ r ∧ r ≤ 2))) := by
  refine kx_met (lo := [some (vR G 163), some (vI a1)]) (by decide) (Nat.le_of_ble_eq_true rfl) rfl ?_
  intro X F hQ
  refine kx_aload_n 1 F 0 dX12_sortNow_0 rfl rfl rfl ?_
  refine kx_iconst 2 F dX12_sortNow_1 rfl ?_
  refine kx_iload_n 3 F 1 dX12_sortNow_2 rfl rfl rfl ?_
  refine kx_Vi 6 (ci := 0) F (As := [vI 0, vI a1]) (st := []) vd_X12_247 (c_sortOf0 G l M 0 a1 hI_M (by omega)) kd_163 rfl rfl rfl ⟨by decide, by decide⟩ rfl rfl (Nat.le_of_ble_eq_true rfl) dX12_sortNow_3 rfl ?_
  intro r_1 N_2 q_3
  obtain ⟨rfl, q_3c⟩ := q_3
  exact kx_iret F hQ ⟨rfl, (by omega)⟩ dX12_sortNow_6
set_option maxRecDepth 100000 in
theorem dGR_24_c_723 : (decode cX12_of 0 = .ok (.iload_n 1, 1)) ∧ (decode cX12_of 1 = .ok (.iconst 2, 1)) ∧ (decode cX12_of 2 = .ok (.if_icmp .ne 7, 3)) ∧ (decode cX12_of 5 = .ok (.iconst 1, 1)) ∧ (decode cX12_of 6 = .ok (.goto 15, 3)) ∧ (decode cX12_of 9 = .ok (.aload_n 0, 1)) ∧ (decode cX12_of 10 = .ok (.getfield 7, 3)) ∧ (decode cX12_of 13 = .ok (.iconst 0, 1)) ∧ (decode cX12_of 14 = .ok (.iload_n 1, 1)) ∧ (decode cX12_of 15 = .ok (.invokestatic 216, 3)) ∧ (decode cX12_of 18 = .ok (.iload_n 2, 1)) ∧ (decode cX12_of 19 = .ok (.iadd, 1)) := by decide +kernel
theorem dX12_of_0 : decode cX12_of 0 = .ok (.iload_n 1, 1) := dGR_24_c_723.1
theorem dX12_of_1 : decode cX12_of 1 = .ok (.iconst 2, 1) := dGR_24_c_723.2.1
theorem dX12_of_2 : decode cX12_of 2 = .ok (.if_icmp .ne 7, 3) := dGR_24_c_723.2.2.1
theorem dX12_of_5 : decode cX12_of 5 = .ok (.iconst 1, 1) := dGR_24_c_723.2.2.2.1
theorem dX12_of_6 : decode cX12_of 6 = .ok (.goto 15, 3) := dGR_24_c_723.2.2.2.2.1
theorem dX12_of_9 : decode cX12_of 9 = .ok (.aload_n 0, 1) := dGR_24_c_723.2.2.2.2.2.1
theorem dX12_of_10 : decode cX12_of 10 = .ok (.getfield 7, 3) := dGR_24_c_723.2.2.2.2.2.2.1
theorem dX12_of_13 : decode cX12_of 13 = .ok (.iconst 0, 1) := dGR_24_c_723.2.2.2.2.2.2.2.1
theorem dX12_of_14 : decode cX12_of 14 = .ok (.iload_n 1, 1) := dGR_24_c_723.2.2.2.2.2.2.2.2.1
theorem dX12_of_15 : decode cX12_of 15 = .ok (.invokestatic 216, 3) := dGR_24_c_723.2.2.2.2.2.2.2.2.2.1
theorem dX12_of_18 : decode cX12_of 18 = .ok (.iload_n 2, 1) := dGR_24_c_723.2.2.2.2.2.2.2.2.2.2.1
theorem dX12_of_19 : decode cX12_of 19 = .ok (.iadd, 1) := dGR_24_c_723.2.2.2.2.2.2.2.2.2.2.2
theorem dX12_of_20 : decode cX12_of 20 = .ok (.iaload, 1) := by decide +kernel
theorem dX12_of_21 : decode cX12_of 21 = .ok (.ireturn, 1) := by decide +kernel
set_option maxHeartbeats 4000000 in
set_option maxRecDepth 100000 in
theorem c_of0 (G : KG) (l : Launch) (M : Mem) (a1 : Int) (a2 : Int) (hI_M : Inv true M) (hpre : -2147483648 ≤ a1 ∧ a1 ≤ 2147483647 ∧ -2147483648 ≤ a2 ∧ a2 ≤ 2147483647 ∧ 0 ≤ a1 ∧ a1 ≤ 2 ∧ a2 = 0) : KC true G l yX12_of cX12_of 3 (some .int) (1, 21) [vR G 163, vI a1, vI a2] M (fun A => kQi true G A (fun (r : Int) (N : Mem) => M = N ∧ ((a1 = 2 ∧ r = 1) ∨ (a1 ≤ 1 ∧ r = (M 164 (85 * a1 + 100)) ∧ 0 ≤ r ∧ r ≤ 3)))) := by
  refine kx_met (lo := [some (vR G 163), some (vI a1), some (vI a2)]) (by decide) (Nat.le_of_ble_eq_true rfl) rfl ?_
  intro X F hQ
  have e_1 : M 164 (85 * a1 + a2 + 100) = M 164 (85 * a1 + 100) := by rw [show 85 * a1 + a2 + 100 = 85 * a1 + 100 by omega]
  refine kx_iload_n 1 F 1 dX12_of_0 rfl rfl rfl ?_
  refine kx_iconst 2 F dX12_of_1 rfl ?_
  refine kx_icmp_ne 5 F 9 dX12_of_2 (by decide) rfl (by omega) (by decide) (fun h_2 => ?_) (fun h_2 => ?_)
  · refine kx_aload_n 10 F 0 dX12_of_9 rfl rfl rfl ?_
    refine kx_getr 13 F fl_X12_7 kd_163 rfl rfl (j := 0) rfl dX12_of_10 (v := 164) (uq_164 (Inv.r hI_M kd_163 rfl 0 rfl rfl)) rfl ?_
    refine kx_iconst 14 F dX12_of_13 rfl ?_
    refine kx_iload_n 15 F 1 dX12_of_14 rfl rfl rfl ?_
    refine kx_Si 18 F (As := [vI 0, vI a1]) (st := [vR G 164]) sd_X12_216 (c_X12_rowOf G l M 0 a1 hI_M (by omega)) ⟨by decide, by decide⟩ rfl rfl (Nat.le_of_ble_eq_true rfl) dX12_of_15 rfl ?_
    intro r_3 N_4 q_5
    obtain ⟨rfl, q_5c⟩ := q_5
    refine kx_topi (e' := 85 * a1 + 100) (by omega) ?_
    refine kx_iload_n 19 F 2 dX12_of_18 rfl rfl rfl ?_
    refine kx_iadd 20 F (v := 85 * a1 + a2 + 100) dX12_of_19 (by omega) rfl ?_
    refine kx_iald 21 F kd_164 rfl rfl (by omega) (by decide) dX12_of_20 (v := (M 164 (85 * a1 + a2 + 100))) rfl rfl ?_
    have ha_6 : atlo (85 * a1 + a2 + 100) = 0 ∧ athi (85 * a1 + a2 + 100) = 3 := at_a (85 * a1 + a2 + 100) 0 a1 0 (by omega) (by omega) (by decide)
    have h_7 := Inv.g hI_M kd_164 rfl (85 * a1 + a2 + 100) (a := 0) (b := 3) ha_6.1 ha_6.2
    exact kx_iret F hQ ⟨rfl, (by omega)⟩ dX12_of_21
  · refine kx_iconst 6 F dX12_of_5 rfl ?_
    refine kx_goto 21 F dX12_of_6 (by decide) ?_
    exact kx_iret F hQ ⟨rfl, (by omega)⟩ dX12_of_21
set_option maxHeartbeats 4000000 in
set_option maxRecDepth 100000 in
theorem c_of2 (G : KG) (l : Launch) (M : Mem) (a1 : Int) (a2 : Int) (hI_M : Inv true M) (hpre : -2147483648 ≤ a1 ∧ a1 ≤ 2147483647 ∧ -2147483648 ≤ a2 ∧ a2 ≤ 2147483647 ∧ 0 ≤ a1 ∧ a1 ≤ 2 ∧ a2 = 2) : KC true G l yX12_of cX12_of 3 (some .int) (1, 21) [vR G 163, vI a1, vI a2] M (fun A => kQi true G A (fun (r : Int) (N : Mem) => M = N ∧ (0 ≤ r ∧ r ≤ 7))) := by
  refine kx_met (lo := [some (vR G 163), some (vI a1), some (vI a2)]) (by decide) (Nat.le_of_ble_eq_true rfl) rfl ?_
  intro X F hQ
  refine kx_iload_n 1 F 1 dX12_of_0 rfl rfl rfl ?_
  refine kx_iconst 2 F dX12_of_1 rfl ?_
  refine kx_icmp_ne 5 F 9 dX12_of_2 (by decide) rfl (by omega) (by decide) (fun h_1 => ?_) (fun h_1 => ?_)
  · refine kx_aload_n 10 F 0 dX12_of_9 rfl rfl rfl ?_
    refine kx_getr 13 F fl_X12_7 kd_163 rfl rfl (j := 0) rfl dX12_of_10 (v := 164) (uq_164 (Inv.r hI_M kd_163 rfl 0 rfl rfl)) rfl ?_
    refine kx_iconst 14 F dX12_of_13 rfl ?_
    refine kx_iload_n 15 F 1 dX12_of_14 rfl rfl rfl ?_
    refine kx_Si 18 F (As := [vI 0, vI a1]) (st := [vR G 164]) sd_X12_216 (c_X12_rowOf G l M 0 a1 hI_M (by omega)) ⟨by decide, by decide⟩ rfl rfl (Nat.le_of_ble_eq_true rfl) dX12_of_15 rfl ?_
    intro r_2 N_3 q_4
    obtain ⟨rfl, q_4c⟩ := q_4
    refine kx_topi (e' := 85 * a1 + 100) (by omega) ?_
    refine kx_iload_n 19 F 2 dX12_of_18 rfl rfl rfl ?_
    refine kx_iadd 20 F (v := 85 * a1 + a2 + 100) dX12_of_19 (by omega) rfl ?_
    refine kx_iald 21 F kd_164 rfl rfl (by omega) (by decide) dX12_of_20 (v := (M 164 (85 * a1 + a2 + 100))) rfl rfl ?_
    have ha_5 : atlo (85 * a1 + a2 + 100) = 0 ∧ athi (85 * a1 + a2 + 100) = 7 := at_a (85 * a1 + a2 + 100) 0 a1 2 (by omega) (by omega) (by decide)
    have h_6 := Inv.g hI_M kd_164 rfl (85 * a1 + a2 + 100) (a := 0) (b := 7) ha_5.1 ha_5.2
    exact kx_iret F hQ ⟨rfl, (by omega)⟩ dX12_of_21
  · refine kx_iconst 6 F dX12_of_5 rfl ?_
    refine kx_goto 21 F dX12_of_6 (by decide) ?_
    exact kx_iret F hQ ⟨rfl, (by omega)⟩ dX12_of_21
set_option maxHeartbeats 4000000 in
set_option maxRecDepth 100000 in
theorem c_of3 (G : KG) (l : Launch) (M : Mem) (a1 : Int) (a2 : Int) (hI_M : Inv true M) (hpre : -2147483648 ≤ a1 ∧ a1 ≤ 2147483647 ∧ -2147483648 ≤ a2 ∧ a2 ≤ 2147483647 ∧ 0 ≤ a1 ∧ a1 ≤ 2 ∧ a2 = 3) : KC true G l yX12_of cX12_of 3 (some .int) (1, 21) [vR G 163, vI a1, vI a2] M (fun A => kQi true G A (fun (r : Int) (N : Mem) => M = N ∧ (0 ≤ r ∧ r ≤ 7))) := by
  refine kx_met (lo := [some (vR G 163), some (vI a1), some (vI a2)]) (by decide) (Nat.le_of_ble_eq_true rfl) rfl ?_
  intro X F hQ
  refine kx_iload_n 1 F 1 dX12_of_0 rfl rfl rfl ?_
  refine kx_iconst 2 F dX12_of_1 rfl ?_
  refine kx_icmp_ne 5 F 9 dX12_of_2 (by decide) rfl (by omega) (by decide) (fun h_1 => ?_) (fun h_1 => ?_)
  · refine kx_aload_n 10 F 0 dX12_of_9 rfl rfl rfl ?_
    refine kx_getr 13 F fl_X12_7 kd_163 rfl rfl (j := 0) rfl dX12_of_10 (v := 164) (uq_164 (Inv.r hI_M kd_163 rfl 0 rfl rfl)) rfl ?_
    refine kx_iconst 14 F dX12_of_13 rfl ?_
    refine kx_iload_n 15 F 1 dX12_of_14 rfl rfl rfl ?_
    refine kx_Si 18 F (As := [vI 0, vI a1]) (st := [vR G 164]) sd_X12_216 (c_X12_rowOf G l M 0 a1 hI_M (by omega)) ⟨by decide, by decide⟩ rfl rfl (Nat.le_of_ble_eq_true rfl) dX12_of_15 rfl ?_
    intro r_2 N_3 q_4
    obtain ⟨rfl, q_4c⟩ := q_4
    refine kx_topi (e' := 85 * a1 + 100) (by omega) ?_
    refine kx_iload_n 19 F 2 dX12_of_18 rfl rfl rfl ?_
    refine kx_iadd 20 F (v := 85 * a1 + a2 + 100) dX12_of_19 (by omega) rfl ?_
    refine kx_iald 21 F kd_164 rfl rfl (by omega) (by decide) dX12_of_20 (v := (M 164 (85 * a1 + a2 + 100))) rfl rfl ?_
    have ha_5 : atlo (85 * a1 + a2 + 100) = 0 ∧ athi (85 * a1 + a2 + 100) = 7 := at_a (85 * a1 + a2 + 100) 0 a1 3 (by omega) (by omega) (by decide)
    have h_6 := Inv.g hI_M kd_164 rfl (85 * a1 + a2 + 100) (a := 0) (b := 7) ha_5.1 ha_5.2
    exact kx_iret F hQ ⟨rfl, (by omega)⟩ dX12_of_21
  · refine kx_iconst 6 F dX12_of_5 rfl ?_
    refine kx_goto 21 F dX12_of_6 (by decide) ?_
    exact kx_iret F hQ ⟨rfl, (by omega)⟩ dX12_of_21
set_option maxHeartbeats 4000000 in
set_option maxRecDepth 100000 in
theorem c_of4 (G : KG) (l : Launch) (M : Mem) (a1 : Int) (a2 : Int) (hI_M : Inv true M) (hpre : -2147483648 ≤ a1 ∧ a1 ≤ 2147483647 ∧ -2147483648 ≤ a2 ∧ a2 ≤ 2147483647 ∧ 0 ≤ a1 ∧ a1 ≤ 2 ∧ a2 = 4) : KC true G l yX12_of cX12_of 3 (some .int) (1, 21) [vR G 163, vI a1, vI a2] M (fun A => kQi true G A (fun (r : Int) (N : Mem) => M = N ∧ ((a1 = 2 ∧ r = 1) ∨ (a1 ≤ 1 ∧ r = (M 164 (85 * a1 + 104)) ∧ 0 ≤ r ∧ r ≤ 20)))) := by
  refine kx_met (lo := [some (vR G 163), some (vI a1), some (vI a2)]) (by decide) (Nat.le_of_ble_eq_true rfl) rfl ?_
  intro X F hQ
  have e_1 : M 164 (85 * a1 + a2 + 100) = M 164 (85 * a1 + 104) := by rw [show 85 * a1 + a2 + 100 = 85 * a1 + 104 by omega]
  refine kx_iload_n 1 F 1 dX12_of_0 rfl rfl rfl ?_
  refine kx_iconst 2 F dX12_of_1 rfl ?_
  refine kx_icmp_ne 5 F 9 dX12_of_2 (by decide) rfl (by omega) (by decide) (fun h_2 => ?_) (fun h_2 => ?_)
  · refine kx_aload_n 10 F 0 dX12_of_9 rfl rfl rfl ?_
    refine kx_getr 13 F fl_X12_7 kd_163 rfl rfl (j := 0) rfl dX12_of_10 (v := 164) (uq_164 (Inv.r hI_M kd_163 rfl 0 rfl rfl)) rfl ?_
    refine kx_iconst 14 F dX12_of_13 rfl ?_
    refine kx_iload_n 15 F 1 dX12_of_14 rfl rfl rfl ?_
    refine kx_Si 18 F (As := [vI 0, vI a1]) (st := [vR G 164]) sd_X12_216 (c_X12_rowOf G l M 0 a1 hI_M (by omega)) ⟨by decide, by decide⟩ rfl rfl (Nat.le_of_ble_eq_true rfl) dX12_of_15 rfl ?_
    intro r_3 N_4 q_5
    obtain ⟨rfl, q_5c⟩ := q_5
    refine kx_topi (e' := 85 * a1 + 100) (by omega) ?_
    refine kx_iload_n 19 F 2 dX12_of_18 rfl rfl rfl ?_
    refine kx_iadd 20 F (v := 85 * a1 + a2 + 100) dX12_of_19 (by omega) rfl ?_
    refine kx_iald 21 F kd_164 rfl rfl (by omega) (by decide) dX12_of_20 (v := (M 164 (85 * a1 + a2 + 100))) rfl rfl ?_
    have ha_6 : atlo (85 * a1 + a2 + 100) = 0 ∧ athi (85 * a1 + a2 + 100) = 20 := at_a (85 * a1 + a2 + 100) 0 a1 4 (by omega) (by omega) (by decide)
    have h_7 := Inv.g hI_M kd_164 rfl (85 * a1 + a2 + 100) (a := 0) (b := 20) ha_6.1 ha_6.2
    exact kx_iret F hQ ⟨rfl, (by omega)⟩ dX12_of_21
  · refine kx_iconst 6 F dX12_of_5 rfl ?_
    refine kx_goto 21 F dX12_of_6 (by decide) ?_
    exact kx_iret F hQ ⟨rfl, (by omega)⟩ dX12_of_21
set_option maxRecDepth 100000 in
theorem dGR_24_c_724 : (decode cX12_isState 0 = .ok (.iload_n 2, 1)) ∧ (decode cX12_isState 1 = .ok (.ifCond .lt 17, 3)) ∧ (decode cX12_isState 4 = .ok (.iload_n 2, 1)) ∧ (decode cX12_isState 5 = .ok (.aload_n 0, 1)) ∧ (decode cX12_isState 6 = .ok (.iload_n 1, 1)) ∧ (decode cX12_isState 7 = .ok (.iconst 0, 1)) ∧ (decode cX12_isState 8 = .ok (.invokevirtual 288, 3)) ∧ (decode cX12_isState 11 = .ok (.if_icmp .ge 7, 3)) ∧ (decode cX12_isState 14 = .ok (.iconst 1, 1)) ∧ (decode cX12_isState 15 = .ok (.goto 4, 3)) ∧ (decode cX12_isState 18 = .ok (.iconst 0, 1)) ∧ (decode cX12_isState 19 = .ok (.ireturn, 1)) := by decide +kernel
theorem dX12_isState_0 : decode cX12_isState 0 = .ok (.iload_n 2, 1) := dGR_24_c_724.1
theorem dX12_isState_1 : decode cX12_isState 1 = .ok (.ifCond .lt 17, 3) := dGR_24_c_724.2.1
theorem dX12_isState_4 : decode cX12_isState 4 = .ok (.iload_n 2, 1) := dGR_24_c_724.2.2.1
theorem dX12_isState_5 : decode cX12_isState 5 = .ok (.aload_n 0, 1) := dGR_24_c_724.2.2.2.1
theorem dX12_isState_6 : decode cX12_isState 6 = .ok (.iload_n 1, 1) := dGR_24_c_724.2.2.2.2.1
theorem dX12_isState_7 : decode cX12_isState 7 = .ok (.iconst 0, 1) := dGR_24_c_724.2.2.2.2.2.1
theorem dX12_isState_8 : decode cX12_isState 8 = .ok (.invokevirtual 288, 3) := dGR_24_c_724.2.2.2.2.2.2.1
theorem dX12_isState_11 : decode cX12_isState 11 = .ok (.if_icmp .ge 7, 3) := dGR_24_c_724.2.2.2.2.2.2.2.1
theorem dX12_isState_14 : decode cX12_isState 14 = .ok (.iconst 1, 1) := dGR_24_c_724.2.2.2.2.2.2.2.2.1
theorem dX12_isState_15 : decode cX12_isState 15 = .ok (.goto 4, 3) := dGR_24_c_724.2.2.2.2.2.2.2.2.2.1
theorem dX12_isState_18 : decode cX12_isState 18 = .ok (.iconst 0, 1) := dGR_24_c_724.2.2.2.2.2.2.2.2.2.2.1
theorem dX12_isState_19 : decode cX12_isState 19 = .ok (.ireturn, 1) := dGR_24_c_724.2.2.2.2.2.2.2.2.2.2.2
set_option maxHeartbeats 4000000 in
set_option maxRecDepth 100000 in
theorem c_X12_isState (G : KG) (l : Launch) (M : Mem) (a1 : Int) (a2 : Int) (hI_M : Inv true M) (hpre : -2147483648 ≤ a1 ∧ a1 ≤ 2147483647 ∧ -2147483648 ≤ a2 ∧ a2 ≤ 2147483647 ∧ 0 ≤ a1 ∧ a1 ≤ 2) : KC true G l yX12_isState cX12_isState 3 (some .boolean) (2, 43) [vR G 163, vI a1, vI a2] M (fun A => kQi true G A (fun (r : Int) (N : Mem) => M = N ∧ ((r = 1 ∧ 0 ≤ a2 ∧ a1 ≤ 1 ∧ a2 < (M 164 (85 * a1 + 100)) ∧ a2 ≤ 2) ∨ (r = 1 ∧ a1 = 2 ∧ a2 = 0) ∨ (r = 0)))) := by
  refine kx_met (lo := [some (vR G 163), some (vI a1), some (vI a2)]) (by decide) (Nat.le_of_ble_eq_true rfl) rfl ?_
  intro X F hQ
  refine kx_iload_n 1 F 2 dX12_isState_0 rfl rfl rfl ?_
  refine kx_if_lt 4 F 18 dX12_isState_1 (by decide) rfl (by omega) (fun h_1 => ?_) (fun h_1 => ?_)
  · refine kx_iconst 19 F dX12_isState_18 rfl ?_
    exact kx_zret F hQ (by omega) ⟨rfl, (by omega)⟩ dX12_isState_19
  · refine kx_iload_n 5 F 2 dX12_isState_4 rfl rfl rfl ?_
    refine kx_aload_n 6 F 0 dX12_isState_5 rfl rfl rfl ?_
    refine kx_iload_n 7 F 1 dX12_isState_6 rfl rfl rfl ?_
    refine kx_iconst 8 F dX12_isState_7 rfl ?_
    refine kx_Vi 11 (ci := 0) F (As := [vI a1, vI 0]) (st := [vI a2]) vd_X12_288 (c_of0 G l M a1 0 hI_M (by omega)) kd_163 rfl rfl rfl ⟨by decide, by decide⟩ rfl rfl (Nat.le_of_ble_eq_true rfl) dX12_isState_8 rfl ?_
    intro r_2 N_3 q_4
    obtain ⟨rfl, q_4c⟩ := q_4
    rcases q_4c with q_4c | q_4c
    · refine kx_icmp_ge 14 F 18 dX12_isState_11 (by decide) rfl (by omega) (by omega) (fun h_5 => ?_) (fun h_5 => ?_)
      · refine kx_iconst 19 F dX12_isState_18 rfl ?_
        exact kx_zret F hQ (by omega) ⟨rfl, (by omega)⟩ dX12_isState_19
      · refine kx_iconst 15 F dX12_isState_14 rfl ?_
        refine kx_goto 19 F dX12_isState_15 (by decide) ?_
        exact kx_zret F hQ (by omega) ⟨rfl, (by omega)⟩ dX12_isState_19
    · refine kx_icmp_ge 14 F 18 dX12_isState_11 (by decide) rfl (by omega) (by omega) (fun h_6 => ?_) (fun h_6 => ?_)
      · refine kx_iconst 19 F dX12_isState_18 rfl ?_
        exact kx_zret F hQ (by omega) ⟨rfl, (by omega)⟩ dX12_isState_19
      · refine kx_iconst 15 F dX12_isState_14 rfl ?_
        refine kx_goto 19 F dX12_isState_15 (by decide) ?_
        exact kx_zret F hQ (by omega) ⟨rfl, (by omega)⟩ dX12_isState_19
set_option maxRecDepth 100000 in
theorem dGR_24_c_725 : (decode cX12_pair 0 = .ok (.iconst 1, 1)) ∧ (decode cX12_pair 1 = .ok (.iconst 3, 1)) ∧ (decode cX12_pair 2 = .ok (.iload_n 0, 1)) ∧ (decode cX12_pair 3 = .ok (.imul, 1)) ∧ (decode cX12_pair 4 = .ok (.iload_n 1, 1)) ∧ (decode cX12_pair 5 = .ok (.iadd, 1)) ∧ (decode cX12_pair 6 = .ok (.ishl, 1)) ∧ (decode cX12_pair 7 = .ok (.ireturn, 1)) := by decide +kernel
theorem dX12_pair_0 : decode cX12_pair 0 = .ok (.iconst 1, 1) := dGR_24_c_725.1
theorem dX12_pair_1 : decode cX12_pair 1 = .ok (.iconst 3, 1) := dGR_24_c_725.2.1
theorem dX12_pair_2 : decode cX12_pair 2 = .ok (.iload_n 0, 1) := dGR_24_c_725.2.2.1
theorem dX12_pair_3 : decode cX12_pair 3 = .ok (.imul, 1) := dGR_24_c_725.2.2.2.1
theorem dX12_pair_4 : decode cX12_pair 4 = .ok (.iload_n 1, 1) := dGR_24_c_725.2.2.2.2.1
theorem dX12_pair_5 : decode cX12_pair 5 = .ok (.iadd, 1) := dGR_24_c_725.2.2.2.2.2.1
theorem dX12_pair_6 : decode cX12_pair 6 = .ok (.ishl, 1) := dGR_24_c_725.2.2.2.2.2.2.1
theorem dX12_pair_7 : decode cX12_pair 7 = .ok (.ireturn, 1) := dGR_24_c_725.2.2.2.2.2.2.2
set_option maxHeartbeats 4000000 in
set_option maxRecDepth 100000 in
theorem c_X12_pair (G : KG) (l : Launch) (M : Mem) (a0 : Int) (a1 : Int) (hI_M : Inv true M) (hpre : -2147483648 ≤ a0 ∧ a0 ≤ 2147483647 ∧ -2147483648 ≤ a1 ∧ a1 ≤ 2147483647 ∧ 0 ≤ a0 ∧ a0 ≤ 2 ∧ 0 ≤ a1 ∧ a1 ≤ 2) : KC true G l yX12_pair cX12_pair 2 (some .int) (0, 0) [vI a0, vI a1] M (fun A => kQi true G A (fun (r : Int) (N : Mem) => M = N ∧ (1 ≤ r ∧ r ≤ 256))) := by
  refine kx_met (lo := [some (vI a0), some (vI a1)]) (by decide) (Nat.le_of_ble_eq_true rfl) rfl ?_
  intro X F hQ
  refine kx_iconst 1 F dX12_pair_0 rfl ?_
  refine kx_iconst 2 F dX12_pair_1 rfl ?_
  refine kx_iload_n 3 F 0 dX12_pair_2 rfl rfl rfl ?_
  refine kx_imul 4 F (v := 3 * a0) dX12_pair_3 (by omega) rfl ?_
  refine kx_iload_n 5 F 1 dX12_pair_4 rfl rfl rfl ?_
  refine kx_iadd 6 F (v := 3 * a0 + a1) dX12_pair_5 rfl rfl ?_
  refine kx_ishl 7 F (v := (zshl 1 (3 * a0 + a1))) dX12_pair_6 rfl rfl ?_
  have h_1 := zshl_1 (b := 3 * a0 + a1) 8 (by decide) (by omega)
  exact kx_iret F hQ ⟨rfl, (by omega)⟩ dX12_pair_7
set_option maxRecDepth 100000 in
theorem dGR_24_c_726 : (decode cX12_then 0 = .ok (.iconst 0, 1)) ∧ (decode cX12_then 1 = .ok (.istore_n 2, 1)) ∧ (decode cX12_then 2 = .ok (.iconst 0, 1)) ∧ (decode cX12_then 3 = .ok (.istore_n 3, 1)) ∧ (decode cX12_then 4 = .ok (.iload_n 3, 1)) ∧ (decode cX12_then 5 = .ok (.iconst 3, 1)) ∧ (decode cX12_then 6 = .ok (.if_icmp .ge 51, 3)) ∧ (decode cX12_then 9 = .ok (.iconst 0, 1)) ∧ (decode cX12_then 10 = .ok (.istore 4, 2)) ∧ (decode cX12_then 12 = .ok (.iload 4, 2)) ∧ (decode cX12_then 14 = .ok (.iconst 3, 1)) ∧ (decode cX12_then 15 = .ok (.if_icmp .ge 36, 3)) := by decide +kernel
theorem dX12_then_0 : decode cX12_then 0 = .ok (.iconst 0, 1) := dGR_24_c_726.1
theorem dX12_then_1 : decode cX12_then 1 = .ok (.istore_n 2, 1) := dGR_24_c_726.2.1
theorem dX12_then_2 : decode cX12_then 2 = .ok (.iconst 0, 1) := dGR_24_c_726.2.2.1
theorem dX12_then_3 : decode cX12_then 3 = .ok (.istore_n 3, 1) := dGR_24_c_726.2.2.2.1
theorem dX12_then_4 : decode cX12_then 4 = .ok (.iload_n 3, 1) := dGR_24_c_726.2.2.2.2.1
theorem dX12_then_5 : decode cX12_then 5 = .ok (.iconst 3, 1) := dGR_24_c_726.2.2.2.2.2.1
theorem dX12_then_6 : decode cX12_then 6 = .ok (.if_icmp .ge 51, 3) := dGR_24_c_726.2.2.2.2.2.2.1
theorem dX12_then_9 : decode cX12_then 9 = .ok (.iconst 0, 1) := dGR_24_c_726.2.2.2.2.2.2.2.1
theorem dX12_then_10 : decode cX12_then 10 = .ok (.istore 4, 2) := dGR_24_c_726.2.2.2.2.2.2.2.2.1
theorem dX12_then_12 : decode cX12_then 12 = .ok (.iload 4, 2) := dGR_24_c_726.2.2.2.2.2.2.2.2.2.1
theorem dX12_then_14 : decode cX12_then 14 = .ok (.iconst 3, 1) := dGR_24_c_726.2.2.2.2.2.2.2.2.2.2.1
theorem dX12_then_15 : decode cX12_then 15 = .ok (.if_icmp .ge 36, 3) := dGR_24_c_726.2.2.2.2.2.2.2.2.2.2.2
set_option maxRecDepth 100000 in
theorem dGR_24_c_727 : (decode cX12_then 18 = .ok (.iload_n 0, 1)) ∧ (decode cX12_then 19 = .ok (.iload_n 3, 1)) ∧ (decode cX12_then 20 = .ok (.iload 4, 2)) ∧ (decode cX12_then 22 = .ok (.invokestatic 316, 3)) ∧ (decode cX12_then 25 = .ok (.iand, 1)) ∧ (decode cX12_then 26 = .ok (.ifCond .eq 19, 3)) ∧ (decode cX12_then 29 = .ok (.iload_n 2, 1)) ∧ (decode cX12_then 30 = .ok (.iload_n 1, 1)) ∧ (decode cX12_then 31 = .ok (.iconst 3, 1)) ∧ (decode cX12_then 32 = .ok (.iload 4, 2)) ∧ (decode cX12_then 34 = .ok (.imul, 1)) ∧ (decode cX12_then 35 = .ok (.ishr, 1)) := by decide +kernel
theorem dX12_then_18 : decode cX12_then 18 = .ok (.iload_n 0, 1) := dGR_24_c_727.1
theorem dX12_then_19 : decode cX12_then 19 = .ok (.iload_n 3, 1) := dGR_24_c_727.2.1
theorem dX12_then_20 : decode cX12_then 20 = .ok (.iload 4, 2) := dGR_24_c_727.2.2.1
theorem dX12_then_22 : decode cX12_then 22 = .ok (.invokestatic 316, 3) := dGR_24_c_727.2.2.2.1
theorem dX12_then_25 : decode cX12_then 25 = .ok (.iand, 1) := dGR_24_c_727.2.2.2.2.1
theorem dX12_then_26 : decode cX12_then 26 = .ok (.ifCond .eq 19, 3) := dGR_24_c_727.2.2.2.2.2.1
theorem dX12_then_29 : decode cX12_then 29 = .ok (.iload_n 2, 1) := dGR_24_c_727.2.2.2.2.2.2.1
theorem dX12_then_30 : decode cX12_then 30 = .ok (.iload_n 1, 1) := dGR_24_c_727.2.2.2.2.2.2.2.1
theorem dX12_then_31 : decode cX12_then 31 = .ok (.iconst 3, 1) := dGR_24_c_727.2.2.2.2.2.2.2.2.1
theorem dX12_then_32 : decode cX12_then 32 = .ok (.iload 4, 2) := dGR_24_c_727.2.2.2.2.2.2.2.2.2.1
theorem dX12_then_34 : decode cX12_then 34 = .ok (.imul, 1) := dGR_24_c_727.2.2.2.2.2.2.2.2.2.2.1
theorem dX12_then_35 : decode cX12_then 35 = .ok (.ishr, 1) := dGR_24_c_727.2.2.2.2.2.2.2.2.2.2.2
set_option maxRecDepth 100000 in
theorem dGR_24_c_728 : (decode cX12_then 36 = .ok (.bipush 7, 2)) ∧ (decode cX12_then 38 = .ok (.iand, 1)) ∧ (decode cX12_then 39 = .ok (.iconst 3, 1)) ∧ (decode cX12_then 40 = .ok (.iload_n 3, 1)) ∧ (decode cX12_then 41 = .ok (.imul, 1)) ∧ (decode cX12_then 42 = .ok (.ishl, 1)) ∧ (decode cX12_then 43 = .ok (.ior, 1)) ∧ (decode cX12_then 44 = .ok (.istore_n 2, 1)) ∧ (decode cX12_then 45 = .ok (.iinc 4 1, 3)) ∧ (decode cX12_then 48 = .ok (.goto (-36), 3)) ∧ (decode cX12_then 51 = .ok (.iinc 3 1, 3)) ∧ (decode cX12_then 54 = .ok (.goto (-50), 3)) := by decide +kernel
theorem dX12_then_36 : decode cX12_then 36 = .ok (.bipush 7, 2) := dGR_24_c_728.1
theorem dX12_then_38 : decode cX12_then 38 = .ok (.iand, 1) := dGR_24_c_728.2.1
theorem dX12_then_39 : decode cX12_then 39 = .ok (.iconst 3, 1) := dGR_24_c_728.2.2.1
theorem dX12_then_40 : decode cX12_then 40 = .ok (.iload_n 3, 1) := dGR_24_c_728.2.2.2.1
theorem dX12_then_41 : decode cX12_then 41 = .ok (.imul, 1) := dGR_24_c_728.2.2.2.2.1
theorem dX12_then_42 : decode cX12_then 42 = .ok (.ishl, 1) := dGR_24_c_728.2.2.2.2.2.1
theorem dX12_then_43 : decode cX12_then 43 = .ok (.ior, 1) := dGR_24_c_728.2.2.2.2.2.2.1
theorem dX12_then_44 : decode cX12_then 44 = .ok (.istore_n 2, 1) := dGR_24_c_728.2.2.2.2.2.2.2.1
theorem dX12_then_45 : decode cX12_then 45 = .ok (.iinc 4 1, 3) := dGR_24_c_728.2.2.2.2.2.2.2.2.1
theorem dX12_then_48 : decode cX12_then 48 = .ok (.goto (-36), 3) := dGR_24_c_728.2.2.2.2.2.2.2.2.2.1
theorem dX12_then_51 : decode cX12_then 51 = .ok (.iinc 3 1, 3) := dGR_24_c_728.2.2.2.2.2.2.2.2.2.2.1
theorem dX12_then_54 : decode cX12_then 54 = .ok (.goto (-50), 3) := dGR_24_c_728.2.2.2.2.2.2.2.2.2.2.2
theorem dX12_then_57 : decode cX12_then 57 = .ok (.iload_n 2, 1) := by decide +kernel
theorem dX12_then_58 : decode cX12_then 58 = .ok (.ireturn, 1) := by decide +kernel
set_option maxHeartbeats 4000000 in
set_option maxRecDepth 100000 in
theorem c_X12_then (G : KG) (l : Launch) (M : Mem) (a0 : Int) (a1 : Int) (hI_M : Inv true M) (hpre : -2147483648 ≤ a0 ∧ a0 ≤ 2147483647 ∧ -2147483648 ≤ a1 ∧ a1 ≤ 2147483647) : KC true G l yX12_then cX12_then 5 (some .int) (1, 21) [vI a0, vI a1] M (fun A => kQi true G A (fun (r : Int) (N : Mem) => M = N ∧ (0 ≤ r ∧ r ≤ 511))) := by
  refine kx_met (lo := [some (vI a0), some (vI a1), none, none, none]) (by decide) (Nat.le_of_ble_eq_true rfl) rfl ?_
  intro X F hQ
  refine kx_iconst 1 F dX12_then_0 rfl ?_
  refine kx_istore_n 2 F 2 (lo' := [some (vI a0), some (vI a1), some (vI 0), none, none]) dX12_then_1 rfl (by decide) rfl rfl rfl ?_
  refine kx_iconst 3 F dX12_then_2 rfl ?_
  refine kx_istore_n 4 F 3 (lo' := [some (vI a0), some (vI a1), some (vI 0), some (vI 0), none]) dX12_then_3 rfl (by decide) rfl rfl rfl ?_
  have L_275 : ∀ (n_276 : Nat) (x2_273 : Int) (x3_274 : Int), 0 ≤ x2_273 ∧ x2_273 ≤ 511 ∧ 0 ≤ x3_274 ∧ x3_274 ≤ 3 → (3 - (x3_274)).toNat = n_276 → KJ true G X M 4 [some (vI a0), some (vI a1), some (vI x2_273), some (vI x3_274), none] [] := by
    intro n_276
    refine Nat.strongRecOn n_276 ?_
    intro n_276 ih_277 x2_273 x3_274 h_278 hm_279
    refine kx_iload_n 5 F 3 dX12_then_4 rfl rfl rfl ?_
    refine kx_iconst 6 F dX12_then_5 rfl ?_
    refine kx_icmp_ge 9 F 57 dX12_then_6 (by decide) rfl (by omega) (by decide) (fun h_280 => ?_) (fun h_280 => ?_)
    · refine kx_iload_n 58 F 2 dX12_then_57 rfl rfl rfl ?_
      exact kx_iret F hQ ⟨rfl, (by omega)⟩ dX12_then_58
    · refine kx_iconst 10 F dX12_then_9 rfl ?_
      refine kx_istore 12 F 4 (lo' := [some (vI a0), some (vI a1), some (vI x2_273), some (vI x3_274), some (vI 0)]) dX12_then_10 (by decide) rfl rfl rfl ?_
      have L_331 : ∀ (n_332 : Nat) (x2_329 : Int) (x4_330 : Int), 0 ≤ x2_329 ∧ x2_329 ≤ 511 ∧ 0 ≤ x4_330 ∧ x4_330 ≤ 3 → (3 - (x4_330)).toNat = n_332 → KJ true G X M 12 [some (vI a0), some (vI a1), some (vI x2_329), some (vI x3_274), some (vI x4_330)] [] := by
        intro n_332
        refine Nat.strongRecOn n_332 ?_
        intro n_332 ih_333 x2_329 x4_330 h_334 hm_335
        refine kx_iload 14 F 4 dX12_then_12 rfl rfl ?_
        refine kx_iconst 15 F dX12_then_14 rfl ?_
        refine kx_icmp_ge 18 F 51 dX12_then_15 (by decide) rfl (by omega) (by decide) (fun h_336 => ?_) (fun h_336 => ?_)
        · refine kx_iinc 54 F 3 (v := x3_274 + 1) (lo' := [some (vI a0), some (vI a1), some (vI x2_329), some (vI (x3_274 + 1)), some (vI x4_330)]) dX12_then_51 rfl (by omega) (by decide) rfl rfl rfl ?_
          refine kx_goto 4 F dX12_then_54 (by decide) ?_
          refine kx_drop 4 (lo' := [some (vI a0), some (vI a1), some (vI x2_329), some (vI (x3_274 + 1)), none]) rfl ?_
          exact ih_277 _ (by omega) x2_329 (x3_274 + 1) (by omega) rfl
        · refine kx_iload_n 19 F 0 dX12_then_18 rfl rfl rfl ?_
          refine kx_iload_n 20 F 3 dX12_then_19 rfl rfl rfl ?_
          refine kx_iload 22 F 4 dX12_then_20 rfl rfl ?_
          refine kx_Si 25 F (As := [vI x3_274, vI x4_330]) (st := [vI a0]) sd_X12_316 (c_X12_pair G l M x3_274 x4_330 hI_M (by omega)) ⟨by decide, by decide⟩ rfl rfl (Nat.le_of_ble_eq_true rfl) dX12_then_22 rfl ?_
          intro r_337 N_338 q_339
          obtain ⟨rfl, q_339c⟩ := q_339
          refine kx_iand 26 F (v := (zand a0 r_337)) dX12_then_25 rfl rfl ?_
          have h_340 := zand_r (a := a0) (b := r_337) (by omega)
          have J_347 : ∀ (x2_346 : Int), 0 ≤ x2_346 ∧ x2_346 ≤ 511 → KJ true G X M 45 [some (vI a0), some (vI a1), some (vI x2_346), some (vI x3_274), some (vI x4_330)] [] := by
            intro x2_346 h_348
            refine kx_iinc 48 F 4 (v := x4_330 + 1) (lo' := [some (vI a0), some (vI a1), some (vI x2_346), some (vI x3_274), some (vI (x4_330 + 1))]) dX12_then_45 rfl (by omega) (by decide) rfl rfl rfl ?_
            refine kx_goto 12 F dX12_then_48 (by decide) ?_
            exact ih_333 _ (by omega) x2_346 (x4_330 + 1) (by omega) rfl
          refine kx_if_eq 29 F 45 dX12_then_26 (by decide) rfl (by omega) (fun h_349 => ?_) (fun h_349 => ?_)
          · exact J_347 x2_329 (by omega)
          · refine kx_iload_n 30 F 2 dX12_then_29 rfl rfl rfl ?_
            refine kx_iload_n 31 F 1 dX12_then_30 rfl rfl rfl ?_
            refine kx_iconst 32 F dX12_then_31 rfl ?_
            refine kx_iload 34 F 4 dX12_then_32 rfl rfl ?_
            refine kx_imul 35 F (v := 3 * x4_330) dX12_then_34 (by omega) rfl ?_
            refine kx_ishr 36 F (v := (zshr a1 (3 * x4_330))) dX12_then_35 rfl rfl ?_
            have h_350 := zshr_rng a1 (3 * x4_330)
            refine kx_bipush 38 F dX12_then_36 (by decide) rfl ?_
            refine kx_iand 39 F (v := (zand (zshr a1 (3 * x4_330)) 7)) dX12_then_38 rfl rfl ?_
            have h_351 := zand_r (a := (zshr a1 (3 * x4_330))) (b := 7) (by omega)
            refine kx_iconst 40 F dX12_then_39 rfl ?_
            refine kx_iload_n 41 F 3 dX12_then_40 rfl rfl rfl ?_
            refine kx_imul 42 F (v := 3 * x3_274) dX12_then_41 (by omega) rfl ?_
            refine kx_ishl 43 F (v := (zshl (zand (zshr a1 (3 * x4_330)) 7) (3 * x3_274))) dX12_then_42 rfl rfl ?_
            have h_352 := zshl_r (a := (zand (zshr a1 (3 * x4_330)) 7)) (b := 3 * x3_274) 7 6 (by decide) (by omega) (by omega) (by decide)
            refine kx_ior 44 F (v := (zor x2_329 (zshl (zand (zshr a1 (3 * x4_330)) 7) (3 * x3_274)))) dX12_then_43 rfl rfl ?_
            have h_353 : 0 ≤ (zor x2_329 (zshl (zand (zshr a1 (3 * x4_330)) 7) (3 * x3_274))) ∧ (zor x2_329 (zshl (zand (zshr a1 (3 * x4_330)) 7) (3 * x3_274))) < 512 := zor_lt (a := x2_329) (b := (zshl (zand (zshr a1 (3 * x4_330)) 7) (3 * x3_274))) 9 (by decide) (by omega) (by omega)
            refine kx_istore_n 45 F 2 (lo' := [some (vI a0), some (vI a1), some (vI (zor x2_329 (zshl (zand (zshr a1 (3 * x4_330)) 7) (3 * x3_274)))), some (vI x3_274), some (vI x4_330)]) dX12_then_44 rfl (by decide) rfl rfl rfl ?_
            exact J_347 (zor x2_329 (zshl (zand (zshr a1 (3 * x4_330)) 7) (3 * x3_274))) (by omega)
      exact L_331 _ x2_273 0 (by omega) rfl
  exact L_275 _ 0 0 (by omega) rfl
set_option maxRecDepth 100000 in
theorem dGR_24_c_729 : (decode cX12_image 0 = .ok (.iconst 0, 1)) ∧ (decode cX12_image 1 = .ok (.istore_n 2, 1)) ∧ (decode cX12_image 2 = .ok (.iconst 0, 1)) ∧ (decode cX12_image 3 = .ok (.istore_n 3, 1)) ∧ (decode cX12_image 4 = .ok (.iload_n 3, 1)) ∧ (decode cX12_image 5 = .ok (.iconst 3, 1)) ∧ (decode cX12_image 6 = .ok (.if_icmp .ge 29, 3)) ∧ (decode cX12_image 9 = .ok (.iload_n 0, 1)) ∧ (decode cX12_image 10 = .ok (.iload_n 3, 1)) ∧ (decode cX12_image 11 = .ok (.ishr, 1)) ∧ (decode cX12_image 12 = .ok (.iconst 1, 1)) ∧ (decode cX12_image 13 = .ok (.iand, 1)) := by decide +kernel
theorem dX12_image_0 : decode cX12_image 0 = .ok (.iconst 0, 1) := dGR_24_c_729.1
theorem dX12_image_1 : decode cX12_image 1 = .ok (.istore_n 2, 1) := dGR_24_c_729.2.1
theorem dX12_image_2 : decode cX12_image 2 = .ok (.iconst 0, 1) := dGR_24_c_729.2.2.1
theorem dX12_image_3 : decode cX12_image 3 = .ok (.istore_n 3, 1) := dGR_24_c_729.2.2.2.1
theorem dX12_image_4 : decode cX12_image 4 = .ok (.iload_n 3, 1) := dGR_24_c_729.2.2.2.2.1
theorem dX12_image_5 : decode cX12_image 5 = .ok (.iconst 3, 1) := dGR_24_c_729.2.2.2.2.2.1
theorem dX12_image_6 : decode cX12_image 6 = .ok (.if_icmp .ge 29, 3) := dGR_24_c_729.2.2.2.2.2.2.1
theorem dX12_image_9 : decode cX12_image 9 = .ok (.iload_n 0, 1) := dGR_24_c_729.2.2.2.2.2.2.2.1
theorem dX12_image_10 : decode cX12_image 10 = .ok (.iload_n 3, 1) := dGR_24_c_729.2.2.2.2.2.2.2.2.1
theorem dX12_image_11 : decode cX12_image 11 = .ok (.ishr, 1) := dGR_24_c_729.2.2.2.2.2.2.2.2.2.1
theorem dX12_image_12 : decode cX12_image 12 = .ok (.iconst 1, 1) := dGR_24_c_729.2.2.2.2.2.2.2.2.2.2.1
theorem dX12_image_13 : decode cX12_image 13 = .ok (.iand, 1) := dGR_24_c_729.2.2.2.2.2.2.2.2.2.2.2
set_option maxRecDepth 100000 in
theorem dGR_24_c_730 : (decode cX12_image 14 = .ok (.iconst 1, 1)) ∧ (decode cX12_image 15 = .ok (.if_icmp .ne 14, 3)) ∧ (decode cX12_image 18 = .ok (.iload_n 2, 1)) ∧ (decode cX12_image 19 = .ok (.iload_n 1, 1)) ∧ (decode cX12_image 20 = .ok (.iconst 3, 1)) ∧ (decode cX12_image 21 = .ok (.iload_n 3, 1)) ∧ (decode cX12_image 22 = .ok (.imul, 1)) ∧ (decode cX12_image 23 = .ok (.ishr, 1)) ∧ (decode cX12_image 24 = .ok (.bipush 7, 2)) ∧ (decode cX12_image 26 = .ok (.iand, 1)) ∧ (decode cX12_image 27 = .ok (.ior, 1)) ∧ (decode cX12_image 28 = .ok (.istore_n 2, 1)) := by decide +kernel
theorem dX12_image_14 : decode cX12_image 14 = .ok (.iconst 1, 1) := dGR_24_c_730.1
theorem dX12_image_15 : decode cX12_image 15 = .ok (.if_icmp .ne 14, 3) := dGR_24_c_730.2.1
theorem dX12_image_18 : decode cX12_image 18 = .ok (.iload_n 2, 1) := dGR_24_c_730.2.2.1
theorem dX12_image_19 : decode cX12_image 19 = .ok (.iload_n 1, 1) := dGR_24_c_730.2.2.2.1
theorem dX12_image_20 : decode cX12_image 20 = .ok (.iconst 3, 1) := dGR_24_c_730.2.2.2.2.1
theorem dX12_image_21 : decode cX12_image 21 = .ok (.iload_n 3, 1) := dGR_24_c_730.2.2.2.2.2.1
theorem dX12_image_22 : decode cX12_image 22 = .ok (.imul, 1) := dGR_24_c_730.2.2.2.2.2.2.1
theorem dX12_image_23 : decode cX12_image 23 = .ok (.ishr, 1) := dGR_24_c_730.2.2.2.2.2.2.2.1
theorem dX12_image_24 : decode cX12_image 24 = .ok (.bipush 7, 2) := dGR_24_c_730.2.2.2.2.2.2.2.2.1
theorem dX12_image_26 : decode cX12_image 26 = .ok (.iand, 1) := dGR_24_c_730.2.2.2.2.2.2.2.2.2.1
theorem dX12_image_27 : decode cX12_image 27 = .ok (.ior, 1) := dGR_24_c_730.2.2.2.2.2.2.2.2.2.2.1
theorem dX12_image_28 : decode cX12_image 28 = .ok (.istore_n 2, 1) := dGR_24_c_730.2.2.2.2.2.2.2.2.2.2.2
set_option maxRecDepth 100000 in
theorem dGR_24_c_731 : (decode cX12_image 29 = .ok (.iinc 3 1, 3)) ∧ (decode cX12_image 32 = .ok (.goto (-28), 3)) ∧ (decode cX12_image 35 = .ok (.iload_n 2, 1)) ∧ (decode cX12_image 36 = .ok (.ireturn, 1)) := by decide +kernel
theorem dX12_image_29 : decode cX12_image 29 = .ok (.iinc 3 1, 3) := dGR_24_c_731.1
theorem dX12_image_32 : decode cX12_image 32 = .ok (.goto (-28), 3) := dGR_24_c_731.2.1
theorem dX12_image_35 : decode cX12_image 35 = .ok (.iload_n 2, 1) := dGR_24_c_731.2.2.1
theorem dX12_image_36 : decode cX12_image 36 = .ok (.ireturn, 1) := dGR_24_c_731.2.2.2
set_option maxHeartbeats 4000000 in
set_option maxRecDepth 100000 in
theorem c_X12_image (G : KG) (l : Launch) (M : Mem) (a0 : Int) (a1 : Int) (hI_M : Inv true M) (hpre : -2147483648 ≤ a0 ∧ a0 ≤ 2147483647 ∧ -2147483648 ≤ a1 ∧ a1 ≤ 2147483647) : KC true G l yX12_image cX12_image 4 (some .int) (0, 0) [vI a0, vI a1] M (fun A => kQi true G A (fun (r : Int) (N : Mem) => M = N ∧ (0 ≤ r ∧ r ≤ 7))) := by
  refine kx_met (lo := [some (vI a0), some (vI a1), none, none]) (by decide) (Nat.le_of_ble_eq_true rfl) rfl ?_
  intro X F hQ
  refine kx_iconst 1 F dX12_image_0 rfl ?_
  refine kx_istore_n 2 F 2 (lo' := [some (vI a0), some (vI a1), some (vI 0), none]) dX12_image_1 rfl (by decide) rfl rfl rfl ?_
  refine kx_iconst 3 F dX12_image_2 rfl ?_
  refine kx_istore_n 4 F 3 (lo' := [some (vI a0), some (vI a1), some (vI 0), some (vI 0)]) dX12_image_3 rfl (by decide) rfl rfl rfl ?_
  have L_39 : ∀ (n_40 : Nat) (x2_37 : Int) (x3_38 : Int), 0 ≤ x2_37 ∧ x2_37 ≤ 7 ∧ 0 ≤ x3_38 ∧ x3_38 ≤ 3 → (3 - (x3_38)).toNat = n_40 → KJ true G X M 4 [some (vI a0), some (vI a1), some (vI x2_37), some (vI x3_38)] [] := by
    intro n_40
    refine Nat.strongRecOn n_40 ?_
    intro n_40 ih_41 x2_37 x3_38 h_42 hm_43
    refine kx_iload_n 5 F 3 dX12_image_4 rfl rfl rfl ?_
    refine kx_iconst 6 F dX12_image_5 rfl ?_
    refine kx_icmp_ge 9 F 35 dX12_image_6 (by decide) rfl (by omega) (by decide) (fun h_44 => ?_) (fun h_44 => ?_)
    · refine kx_iload_n 36 F 2 dX12_image_35 rfl rfl rfl ?_
      exact kx_iret F hQ ⟨rfl, (by omega)⟩ dX12_image_36
    · refine kx_iload_n 10 F 0 dX12_image_9 rfl rfl rfl ?_
      refine kx_iload_n 11 F 3 dX12_image_10 rfl rfl rfl ?_
      refine kx_ishr 12 F (v := (zshr a0 x3_38)) dX12_image_11 rfl rfl ?_
      have h_45 := zshr_rng a0 x3_38
      refine kx_iconst 13 F dX12_image_12 rfl ?_
      refine kx_iand 14 F (v := (zand (zshr a0 x3_38) 1)) dX12_image_13 rfl rfl ?_
      have h_46 := zand_r (a := (zshr a0 x3_38)) (b := 1) (by omega)
      refine kx_iconst 15 F dX12_image_14 rfl ?_
      have J_52 : ∀ (x2_51 : Int), 0 ≤ x2_51 ∧ x2_51 ≤ 7 → KJ true G X M 29 [some (vI a0), some (vI a1), some (vI x2_51), some (vI x3_38)] [] := by
        intro x2_51 h_53
        refine kx_iinc 32 F 3 (v := x3_38 + 1) (lo' := [some (vI a0), some (vI a1), some (vI x2_51), some (vI (x3_38 + 1))]) dX12_image_29 rfl (by omega) (by decide) rfl rfl rfl ?_
        refine kx_goto 4 F dX12_image_32 (by decide) ?_
        exact ih_41 _ (by omega) x2_51 (x3_38 + 1) (by omega) rfl
      refine kx_icmp_ne 18 F 29 dX12_image_15 (by decide) rfl (by omega) (by decide) (fun h_54 => ?_) (fun h_54 => ?_)
      · exact J_52 x2_37 (by omega)
      · refine kx_iload_n 19 F 2 dX12_image_18 rfl rfl rfl ?_
        refine kx_iload_n 20 F 1 dX12_image_19 rfl rfl rfl ?_
        refine kx_iconst 21 F dX12_image_20 rfl ?_
        refine kx_iload_n 22 F 3 dX12_image_21 rfl rfl rfl ?_
        refine kx_imul 23 F (v := 3 * x3_38) dX12_image_22 (by omega) rfl ?_
        refine kx_ishr 24 F (v := (zshr a1 (3 * x3_38))) dX12_image_23 rfl rfl ?_
        have h_55 := zshr_rng a1 (3 * x3_38)
        refine kx_bipush 26 F dX12_image_24 (by decide) rfl ?_
        refine kx_iand 27 F (v := (zand (zshr a1 (3 * x3_38)) 7)) dX12_image_26 rfl rfl ?_
        have h_56 := zand_r (a := (zshr a1 (3 * x3_38))) (b := 7) (by omega)
        refine kx_ior 28 F (v := (zor x2_37 (zand (zshr a1 (3 * x3_38)) 7))) dX12_image_27 rfl rfl ?_
        have h_57 : 0 ≤ (zor x2_37 (zand (zshr a1 (3 * x3_38)) 7)) ∧ (zor x2_37 (zand (zshr a1 (3 * x3_38)) 7)) < 8 := zor_lt (a := x2_37) (b := (zand (zshr a1 (3 * x3_38)) 7)) 3 (by decide) (by omega) (by omega)
        refine kx_istore_n 29 F 2 (lo' := [some (vI a0), some (vI a1), some (vI (zor x2_37 (zand (zshr a1 (3 * x3_38)) 7))), some (vI x3_38)]) dX12_image_28 rfl (by decide) rfl rfl rfl ?_
        exact J_52 (zor x2_37 (zand (zshr a1 (3 * x3_38)) 7)) (by omega)
  exact L_39 _ 0 0 (by omega) rfl
set_option maxRecDepth 100000 in
theorem dGR_24_c_732 : (decode cX12_same 0 = .ok (.iconst 0, 1)) ∧ (decode cX12_same 1 = .ok (.istore_n 2, 1)) ∧ (decode cX12_same 2 = .ok (.iconst 0, 1)) ∧ (decode cX12_same 3 = .ok (.istore_n 3, 1)) ∧ (decode cX12_same 4 = .ok (.iload_n 3, 1)) ∧ (decode cX12_same 5 = .ok (.aload_n 0, 1)) ∧ (decode cX12_same 6 = .ok (.iload_n 1, 1)) ∧ (decode cX12_same 7 = .ok (.iconst 0, 1)) ∧ (decode cX12_same 8 = .ok (.invokevirtual 288, 3)) ∧ (decode cX12_same 11 = .ok (.if_icmp .ge 17, 3)) ∧ (decode cX12_same 14 = .ok (.iload_n 2, 1)) ∧ (decode cX12_same 15 = .ok (.iload_n 3, 1)) := by decide +kernel
theorem dX12_same_0 : decode cX12_same 0 = .ok (.iconst 0, 1) := dGR_24_c_732.1
theorem dX12_same_1 : decode cX12_same 1 = .ok (.istore_n 2, 1) := dGR_24_c_732.2.1
theorem dX12_same_2 : decode cX12_same 2 = .ok (.iconst 0, 1) := dGR_24_c_732.2.2.1
theorem dX12_same_3 : decode cX12_same 3 = .ok (.istore_n 3, 1) := dGR_24_c_732.2.2.2.1
theorem dX12_same_4 : decode cX12_same 4 = .ok (.iload_n 3, 1) := dGR_24_c_732.2.2.2.2.1
theorem dX12_same_5 : decode cX12_same 5 = .ok (.aload_n 0, 1) := dGR_24_c_732.2.2.2.2.2.1
theorem dX12_same_6 : decode cX12_same 6 = .ok (.iload_n 1, 1) := dGR_24_c_732.2.2.2.2.2.2.1
theorem dX12_same_7 : decode cX12_same 7 = .ok (.iconst 0, 1) := dGR_24_c_732.2.2.2.2.2.2.2.1
theorem dX12_same_8 : decode cX12_same 8 = .ok (.invokevirtual 288, 3) := dGR_24_c_732.2.2.2.2.2.2.2.2.1
theorem dX12_same_11 : decode cX12_same 11 = .ok (.if_icmp .ge 17, 3) := dGR_24_c_732.2.2.2.2.2.2.2.2.2.1
theorem dX12_same_14 : decode cX12_same 14 = .ok (.iload_n 2, 1) := dGR_24_c_732.2.2.2.2.2.2.2.2.2.2.1
theorem dX12_same_15 : decode cX12_same 15 = .ok (.iload_n 3, 1) := dGR_24_c_732.2.2.2.2.2.2.2.2.2.2.2
set_option maxRecDepth 100000 in
theorem dGR_24_c_733 : (decode cX12_same 16 = .ok (.iload_n 3, 1)) ∧ (decode cX12_same 17 = .ok (.invokestatic 316, 3)) ∧ (decode cX12_same 20 = .ok (.ior, 1)) ∧ (decode cX12_same 21 = .ok (.istore_n 2, 1)) ∧ (decode cX12_same 22 = .ok (.iinc 3 1, 3)) ∧ (decode cX12_same 25 = .ok (.goto (-21), 3)) ∧ (decode cX12_same 28 = .ok (.iload_n 2, 1)) ∧ (decode cX12_same 29 = .ok (.ireturn, 1)) := by decide +kernel
theorem dX12_same_16 : decode cX12_same 16 = .ok (.iload_n 3, 1) := dGR_24_c_733.1
theorem dX12_same_17 : decode cX12_same 17 = .ok (.invokestatic 316, 3) := dGR_24_c_733.2.1
theorem dX12_same_20 : decode cX12_same 20 = .ok (.ior, 1) := dGR_24_c_733.2.2.1
theorem dX12_same_21 : decode cX12_same 21 = .ok (.istore_n 2, 1) := dGR_24_c_733.2.2.2.1
theorem dX12_same_22 : decode cX12_same 22 = .ok (.iinc 3 1, 3) := dGR_24_c_733.2.2.2.2.1
theorem dX12_same_25 : decode cX12_same 25 = .ok (.goto (-21), 3) := dGR_24_c_733.2.2.2.2.2.1
theorem dX12_same_28 : decode cX12_same 28 = .ok (.iload_n 2, 1) := dGR_24_c_733.2.2.2.2.2.2.1
theorem dX12_same_29 : decode cX12_same 29 = .ok (.ireturn, 1) := dGR_24_c_733.2.2.2.2.2.2.2
set_option maxHeartbeats 4000000 in
set_option maxRecDepth 100000 in
theorem c_X12_same (G : KG) (l : Launch) (M : Mem) (a1 : Int) (hI_M : Inv true M) (hpre : -2147483648 ≤ a1 ∧ a1 ≤ 2147483647 ∧ 0 ≤ a1 ∧ a1 ≤ 2) : KC true G l yX12_same cX12_same 4 (some .int) (2, 43) [vR G 163, vI a1] M (fun A => kQi true G A (fun (r : Int) (N : Mem) => M = N ∧ (0 ≤ r ∧ r ≤ 511))) := by
  refine kx_met (lo := [some (vR G 163), some (vI a1), none, none]) (by decide) (Nat.le_of_ble_eq_true rfl) rfl ?_
  intro X F hQ
  refine kx_iconst 1 F dX12_same_0 rfl ?_
  refine kx_istore_n 2 F 2 (lo' := [some (vR G 163), some (vI a1), some (vI 0), none]) dX12_same_1 rfl (by decide) rfl rfl rfl ?_
  refine kx_iconst 3 F dX12_same_2 rfl ?_
  refine kx_istore_n 4 F 3 (lo' := [some (vR G 163), some (vI a1), some (vI 0), some (vI 0)]) dX12_same_3 rfl (by decide) rfl rfl rfl ?_
  have L_63 : ∀ (n_64 : Nat) (x2_61 : Int) (x3_62 : Int), 0 ≤ x2_61 ∧ x2_61 ≤ 511 ∧ 0 ≤ x3_62 ∧ x3_62 ≤ 3 → (3 - (x3_62)).toNat = n_64 → KJ true G X M 4 [some (vR G 163), some (vI a1), some (vI x2_61), some (vI x3_62)] [] := by
    intro n_64
    refine Nat.strongRecOn n_64 ?_
    intro n_64 ih_65 x2_61 x3_62 h_66 hm_67
    refine kx_iload_n 5 F 3 dX12_same_4 rfl rfl rfl ?_
    refine kx_aload_n 6 F 0 dX12_same_5 rfl rfl rfl ?_
    refine kx_iload_n 7 F 1 dX12_same_6 rfl rfl rfl ?_
    refine kx_iconst 8 F dX12_same_7 rfl ?_
    refine kx_Vi 11 (ci := 0) F (As := [vI a1, vI 0]) (st := [vI x3_62]) vd_X12_288 (c_of0 G l M a1 0 hI_M (by omega)) kd_163 rfl rfl rfl ⟨by decide, by decide⟩ rfl rfl (Nat.le_of_ble_eq_true rfl) dX12_same_8 rfl ?_
    intro r_68 N_69 q_70
    obtain ⟨rfl, q_70c⟩ := q_70
    rcases q_70c with q_70c | q_70c
    · refine kx_icmp_ge 14 F 28 dX12_same_11 (by decide) rfl (by omega) (by omega) (fun h_71 => ?_) (fun h_71 => ?_)
      · refine kx_iload_n 29 F 2 dX12_same_28 rfl rfl rfl ?_
        exact kx_iret F hQ ⟨rfl, (by omega)⟩ dX12_same_29
      · refine kx_iload_n 15 F 2 dX12_same_14 rfl rfl rfl ?_
        refine kx_iload_n 16 F 3 dX12_same_15 rfl rfl rfl ?_
        refine kx_iload_n 17 F 3 dX12_same_16 rfl rfl rfl ?_
        refine kx_Si 20 F (As := [vI x3_62, vI x3_62]) (st := [vI x2_61]) sd_X12_316 (c_X12_pair G l M x3_62 x3_62 hI_M (by omega)) ⟨by decide, by decide⟩ rfl rfl (Nat.le_of_ble_eq_true rfl) dX12_same_17 rfl ?_
        intro r_72 N_73 q_74
        obtain ⟨rfl, q_74c⟩ := q_74
        refine kx_ior 21 F (v := (zor x2_61 r_72)) dX12_same_20 rfl rfl ?_
        have h_75 : 0 ≤ (zor x2_61 r_72) ∧ (zor x2_61 r_72) < 512 := zor_lt (a := x2_61) (b := r_72) 9 (by decide) (by omega) (by omega)
        refine kx_istore_n 22 F 2 (lo' := [some (vR G 163), some (vI a1), some (vI (zor x2_61 r_72)), some (vI x3_62)]) dX12_same_21 rfl (by decide) rfl rfl rfl ?_
        refine kx_iinc 25 F 3 (v := x3_62 + 1) (lo' := [some (vR G 163), some (vI a1), some (vI (zor x2_61 r_72)), some (vI (x3_62 + 1))]) dX12_same_22 rfl (by omega) (by decide) rfl rfl rfl ?_
        refine kx_goto 4 F dX12_same_25 (by decide) ?_
        exact ih_65 _ (by omega) (zor x2_61 r_72) (x3_62 + 1) (by omega) rfl
    · refine kx_icmp_ge 14 F 28 dX12_same_11 (by decide) rfl (by omega) (by omega) (fun h_76 => ?_) (fun h_76 => ?_)
      · refine kx_iload_n 29 F 2 dX12_same_28 rfl rfl rfl ?_
        exact kx_iret F hQ ⟨rfl, (by omega)⟩ dX12_same_29
      · refine kx_iload_n 15 F 2 dX12_same_14 rfl rfl rfl ?_
        refine kx_iload_n 16 F 3 dX12_same_15 rfl rfl rfl ?_
        refine kx_iload_n 17 F 3 dX12_same_16 rfl rfl rfl ?_
        refine kx_Si 20 F (As := [vI x3_62, vI x3_62]) (st := [vI x2_61]) sd_X12_316 (c_X12_pair G l M x3_62 x3_62 hI_M (by omega)) ⟨by decide, by decide⟩ rfl rfl (Nat.le_of_ble_eq_true rfl) dX12_same_17 rfl ?_
        intro r_77 N_78 q_79
        obtain ⟨rfl, q_79c⟩ := q_79
        refine kx_ior 21 F (v := (zor x2_61 r_77)) dX12_same_20 rfl rfl ?_
        have h_80 : 0 ≤ (zor x2_61 r_77) ∧ (zor x2_61 r_77) < 512 := zor_lt (a := x2_61) (b := r_77) 9 (by decide) (by omega) (by omega)
        refine kx_istore_n 22 F 2 (lo' := [some (vR G 163), some (vI a1), some (vI (zor x2_61 r_77)), some (vI x3_62)]) dX12_same_21 rfl (by decide) rfl rfl rfl ?_
        refine kx_iinc 25 F 3 (v := x3_62 + 1) (lo' := [some (vR G 163), some (vI a1), some (vI (zor x2_61 r_77)), some (vI (x3_62 + 1))]) dX12_same_22 rfl (by omega) (by decide) rfl rfl rfl ?_
        refine kx_goto 4 F dX12_same_25 (by decide) ?_
        exact ih_65 _ (by omega) (zor x2_61 r_77) (x3_62 + 1) (by omega) rfl
  exact L_63 _ 0 0 (by omega) rfl
set_option maxRecDepth 100000 in
theorem dGR_24_c_734 : (decode cX12_placeOf 0 = .ok (.bipush 54, 2)) ∧ (decode cX12_placeOf 2 = .ok (.iload_n 0, 1)) ∧ (decode cX12_placeOf 3 = .ok (.imul, 1)) ∧ (decode cX12_placeOf 4 = .ok (.bipush 9, 2)) ∧ (decode cX12_placeOf 6 = .ok (.iload_n 1, 1)) ∧ (decode cX12_placeOf 7 = .ok (.imul, 1)) ∧ (decode cX12_placeOf 8 = .ok (.iadd, 1)) ∧ (decode cX12_placeOf 9 = .ok (.iconst 3, 1)) ∧ (decode cX12_placeOf 10 = .ok (.iload_n 2, 1)) ∧ (decode cX12_placeOf 11 = .ok (.imul, 1)) ∧ (decode cX12_placeOf 12 = .ok (.iadd, 1)) ∧ (decode cX12_placeOf 13 = .ok (.iload_n 3, 1)) := by decide +kernel
theorem dX12_placeOf_0 : decode cX12_placeOf 0 = .ok (.bipush 54, 2) := dGR_24_c_734.1
theorem dX12_placeOf_2 : decode cX12_placeOf 2 = .ok (.iload_n 0, 1) := dGR_24_c_734.2.1
theorem dX12_placeOf_3 : decode cX12_placeOf 3 = .ok (.imul, 1) := dGR_24_c_734.2.2.1
theorem dX12_placeOf_4 : decode cX12_placeOf 4 = .ok (.bipush 9, 2) := dGR_24_c_734.2.2.2.1
theorem dX12_placeOf_6 : decode cX12_placeOf 6 = .ok (.iload_n 1, 1) := dGR_24_c_734.2.2.2.2.1
theorem dX12_placeOf_7 : decode cX12_placeOf 7 = .ok (.imul, 1) := dGR_24_c_734.2.2.2.2.2.1
theorem dX12_placeOf_8 : decode cX12_placeOf 8 = .ok (.iadd, 1) := dGR_24_c_734.2.2.2.2.2.2.1
theorem dX12_placeOf_9 : decode cX12_placeOf 9 = .ok (.iconst 3, 1) := dGR_24_c_734.2.2.2.2.2.2.2.1
theorem dX12_placeOf_10 : decode cX12_placeOf 10 = .ok (.iload_n 2, 1) := dGR_24_c_734.2.2.2.2.2.2.2.2.1
theorem dX12_placeOf_11 : decode cX12_placeOf 11 = .ok (.imul, 1) := dGR_24_c_734.2.2.2.2.2.2.2.2.2.1
theorem dX12_placeOf_12 : decode cX12_placeOf 12 = .ok (.iadd, 1) := dGR_24_c_734.2.2.2.2.2.2.2.2.2.2.1
theorem dX12_placeOf_13 : decode cX12_placeOf 13 = .ok (.iload_n 3, 1) := dGR_24_c_734.2.2.2.2.2.2.2.2.2.2.2
theorem dX12_placeOf_14 : decode cX12_placeOf 14 = .ok (.iadd, 1) := by decide +kernel
theorem dX12_placeOf_15 : decode cX12_placeOf 15 = .ok (.ireturn, 1) := by decide +kernel
set_option maxHeartbeats 4000000 in
set_option maxRecDepth 100000 in
theorem c_X12_placeOf (G : KG) (l : Launch) (M : Mem) (a0 : Int) (a1 : Int) (a2 : Int) (a3 : Int) (hI_M : Inv true M) (hpre : -2147483648 ≤ a0 ∧ a0 ≤ 2147483647 ∧ -2147483648 ≤ a1 ∧ a1 ≤ 2147483647 ∧ -2147483648 ≤ a2 ∧ a2 ≤ 2147483647 ∧ -2147483648 ≤ a3 ∧ a3 ≤ 2147483647 ∧ 0 ≤ a0 ∧ a0 ≤ 2 ∧ 0 ≤ a1 ∧ a1 ≤ 5 ∧ 0 ≤ a2 ∧ a2 ≤ 2 ∧ 0 ≤ a3 ∧ a3 ≤ 2) : KC true G l yX12_placeOf cX12_placeOf 4 (some .int) (0, 0) [vI a0, vI a1, vI a2, vI a3] M (fun A => kQi true G A (fun (r : Int) (N : Mem) => M = N ∧ (r = 54 * a0 + 9 * a1 + 3 * a2 + a3))) := by
  refine kx_met (lo := [some (vI a0), some (vI a1), some (vI a2), some (vI a3)]) (by decide) (Nat.le_of_ble_eq_true rfl) rfl ?_
  intro X F hQ
  refine kx_bipush 2 F dX12_placeOf_0 (by decide) rfl ?_
  refine kx_iload_n 3 F 0 dX12_placeOf_2 rfl rfl rfl ?_
  refine kx_imul 4 F (v := 54 * a0) dX12_placeOf_3 (by omega) rfl ?_
  refine kx_bipush 6 F dX12_placeOf_4 (by decide) rfl ?_
  refine kx_iload_n 7 F 1 dX12_placeOf_6 rfl rfl rfl ?_
  refine kx_imul 8 F (v := 9 * a1) dX12_placeOf_7 (by omega) rfl ?_
  refine kx_iadd 9 F (v := 54 * a0 + 9 * a1) dX12_placeOf_8 (by omega) rfl ?_
  refine kx_iconst 10 F dX12_placeOf_9 rfl ?_
  refine kx_iload_n 11 F 2 dX12_placeOf_10 rfl rfl rfl ?_
  refine kx_imul 12 F (v := 3 * a2) dX12_placeOf_11 (by omega) rfl ?_
  refine kx_iadd 13 F (v := 54 * a0 + 9 * a1 + 3 * a2) dX12_placeOf_12 (by omega) rfl ?_
  refine kx_iload_n 14 F 3 dX12_placeOf_13 rfl rfl rfl ?_
  refine kx_iadd 15 F (v := 54 * a0 + 9 * a1 + 3 * a2 + a3) dX12_placeOf_14 rfl rfl ?_
  exact kx_iret F hQ ⟨rfl, (by omega)⟩ dX12_placeOf_15
set_option maxRecDepth 100000 in
theorem dGR_24_c_735 : (decode cX12_leads 0 = .ok (.iconst 0, 1)) ∧ (decode cX12_leads 1 = .ok (.istore 4, 2)) ∧ (decode cX12_leads 3 = .ok (.iconst 0, 1)) ∧ (decode cX12_leads 4 = .ok (.istore 5, 2)) ∧ (decode cX12_leads 6 = .ok (.iload 5, 2)) ∧ (decode cX12_leads 8 = .ok (.iconst 3, 1)) ∧ (decode cX12_leads 9 = .ok (.if_icmp .ge 55, 3)) ∧ (decode cX12_leads 12 = .ok (.iconst 0, 1)) ∧ (decode cX12_leads 13 = .ok (.istore 6, 2)) ∧ (decode cX12_leads 15 = .ok (.iload 6, 2)) ∧ (decode cX12_leads 17 = .ok (.iconst 3, 1)) ∧ (decode cX12_leads 18 = .ok (.if_icmp .ge 40, 3)) := by decide +kernel
theorem dX12_leads_0 : decode cX12_leads 0 = .ok (.iconst 0, 1) := dGR_24_c_735.1
theorem dX12_leads_1 : decode cX12_leads 1 = .ok (.istore 4, 2) := dGR_24_c_735.2.1
theorem dX12_leads_3 : decode cX12_leads 3 = .ok (.iconst 0, 1) := dGR_24_c_735.2.2.1
theorem dX12_leads_4 : decode cX12_leads 4 = .ok (.istore 5, 2) := dGR_24_c_735.2.2.2.1
theorem dX12_leads_6 : decode cX12_leads 6 = .ok (.iload 5, 2) := dGR_24_c_735.2.2.2.2.1
theorem dX12_leads_8 : decode cX12_leads 8 = .ok (.iconst 3, 1) := dGR_24_c_735.2.2.2.2.2.1
theorem dX12_leads_9 : decode cX12_leads 9 = .ok (.if_icmp .ge 55, 3) := dGR_24_c_735.2.2.2.2.2.2.1
theorem dX12_leads_12 : decode cX12_leads 12 = .ok (.iconst 0, 1) := dGR_24_c_735.2.2.2.2.2.2.2.1
theorem dX12_leads_13 : decode cX12_leads 13 = .ok (.istore 6, 2) := dGR_24_c_735.2.2.2.2.2.2.2.2.1
theorem dX12_leads_15 : decode cX12_leads 15 = .ok (.iload 6, 2) := dGR_24_c_735.2.2.2.2.2.2.2.2.2.1
theorem dX12_leads_17 : decode cX12_leads 17 = .ok (.iconst 3, 1) := dGR_24_c_735.2.2.2.2.2.2.2.2.2.2.1
theorem dX12_leads_18 : decode cX12_leads 18 = .ok (.if_icmp .ge 40, 3) := dGR_24_c_735.2.2.2.2.2.2.2.2.2.2.2
set_option maxRecDepth 100000 in
theorem dGR_24_c_736 : (decode cX12_leads 21 = .ok (.aload_n 0, 1)) ∧ (decode cX12_leads 22 = .ok (.getfield 44, 3)) ∧ (decode cX12_leads 25 = .ok (.iload_n 1, 1)) ∧ (decode cX12_leads 26 = .ok (.iload_n 2, 1)) ∧ (decode cX12_leads 27 = .ok (.iload 5, 2)) ∧ (decode cX12_leads 29 = .ok (.iload 6, 2)) ∧ (decode cX12_leads 31 = .ok (.invokestatic 319, 3)) ∧ (decode cX12_leads 34 = .ok (.iaload, 1)) ∧ (decode cX12_leads 35 = .ok (.iload_n 3, 1)) ∧ (decode cX12_leads 36 = .ok (.iand, 1)) ∧ (decode cX12_leads 37 = .ok (.ifCond .eq 15, 3)) ∧ (decode cX12_leads 40 = .ok (.iload 4, 2)) := by decide +kernel
theorem dX12_leads_21 : decode cX12_leads 21 = .ok (.aload_n 0, 1) := dGR_24_c_736.1
theorem dX12_leads_22 : decode cX12_leads 22 = .ok (.getfield 44, 3) := dGR_24_c_736.2.1
theorem dX12_leads_25 : decode cX12_leads 25 = .ok (.iload_n 1, 1) := dGR_24_c_736.2.2.1
theorem dX12_leads_26 : decode cX12_leads 26 = .ok (.iload_n 2, 1) := dGR_24_c_736.2.2.2.1
theorem dX12_leads_27 : decode cX12_leads 27 = .ok (.iload 5, 2) := dGR_24_c_736.2.2.2.2.1
theorem dX12_leads_29 : decode cX12_leads 29 = .ok (.iload 6, 2) := dGR_24_c_736.2.2.2.2.2.1
theorem dX12_leads_31 : decode cX12_leads 31 = .ok (.invokestatic 319, 3) := dGR_24_c_736.2.2.2.2.2.2.1
theorem dX12_leads_34 : decode cX12_leads 34 = .ok (.iaload, 1) := dGR_24_c_736.2.2.2.2.2.2.2.1
theorem dX12_leads_35 : decode cX12_leads 35 = .ok (.iload_n 3, 1) := dGR_24_c_736.2.2.2.2.2.2.2.2.1
theorem dX12_leads_36 : decode cX12_leads 36 = .ok (.iand, 1) := dGR_24_c_736.2.2.2.2.2.2.2.2.2.1
theorem dX12_leads_37 : decode cX12_leads 37 = .ok (.ifCond .eq 15, 3) := dGR_24_c_736.2.2.2.2.2.2.2.2.2.2.1
theorem dX12_leads_40 : decode cX12_leads 40 = .ok (.iload 4, 2) := dGR_24_c_736.2.2.2.2.2.2.2.2.2.2.2
set_option maxRecDepth 100000 in
theorem dGR_24_c_737 : (decode cX12_leads 42 = .ok (.iload 5, 2)) ∧ (decode cX12_leads 44 = .ok (.iload 6, 2)) ∧ (decode cX12_leads 46 = .ok (.invokestatic 316, 3)) ∧ (decode cX12_leads 49 = .ok (.ior, 1)) ∧ (decode cX12_leads 50 = .ok (.istore 4, 2)) ∧ (decode cX12_leads 52 = .ok (.iinc 6 1, 3)) ∧ (decode cX12_leads 55 = .ok (.goto (-40), 3)) ∧ (decode cX12_leads 58 = .ok (.iinc 5 1, 3)) ∧ (decode cX12_leads 61 = .ok (.goto (-55), 3)) ∧ (decode cX12_leads 64 = .ok (.iload 4, 2)) ∧ (decode cX12_leads 66 = .ok (.ireturn, 1)) := by decide +kernel
theorem dX12_leads_42 : decode cX12_leads 42 = .ok (.iload 5, 2) := dGR_24_c_737.1
theorem dX12_leads_44 : decode cX12_leads 44 = .ok (.iload 6, 2) := dGR_24_c_737.2.1
theorem dX12_leads_46 : decode cX12_leads 46 = .ok (.invokestatic 316, 3) := dGR_24_c_737.2.2.1
theorem dX12_leads_49 : decode cX12_leads 49 = .ok (.ior, 1) := dGR_24_c_737.2.2.2.1
theorem dX12_leads_50 : decode cX12_leads 50 = .ok (.istore 4, 2) := dGR_24_c_737.2.2.2.2.1
theorem dX12_leads_52 : decode cX12_leads 52 = .ok (.iinc 6 1, 3) := dGR_24_c_737.2.2.2.2.2.1
theorem dX12_leads_55 : decode cX12_leads 55 = .ok (.goto (-40), 3) := dGR_24_c_737.2.2.2.2.2.2.1
theorem dX12_leads_58 : decode cX12_leads 58 = .ok (.iinc 5 1, 3) := dGR_24_c_737.2.2.2.2.2.2.2.1
theorem dX12_leads_61 : decode cX12_leads 61 = .ok (.goto (-55), 3) := dGR_24_c_737.2.2.2.2.2.2.2.2.1
theorem dX12_leads_64 : decode cX12_leads 64 = .ok (.iload 4, 2) := dGR_24_c_737.2.2.2.2.2.2.2.2.2.1
theorem dX12_leads_66 : decode cX12_leads 66 = .ok (.ireturn, 1) := dGR_24_c_737.2.2.2.2.2.2.2.2.2.2
set_option maxHeartbeats 4000000 in
set_option maxRecDepth 100000 in
theorem c_X12_leads (G : KG) (l : Launch) (M : Mem) (a1 : Int) (a2 : Int) (a3 : Int) (hI_M : Inv true M) (hpre : -2147483648 ≤ a1 ∧ a1 ≤ 2147483647 ∧ -2147483648 ≤ a2 ∧ a2 ≤ 2147483647 ∧ -2147483648 ≤ a3 ∧ a3 ≤ 2147483647 ∧ 0 ≤ a1 ∧ a1 ≤ 2 ∧ 0 ≤ a2 ∧ a2 ≤ 5) : KC true G l yX12_leads cX12_leads 7 (some .int) (1, 23) [vR G 163, vI a1, vI a2, vI a3] M (fun A => kQi true G A (fun (r : Int) (N : Mem) => M = N ∧ (0 ≤ r ∧ r ≤ 511))) := by
  refine kx_met (lo := [some (vR G 163), some (vI a1), some (vI a2), some (vI a3), none, none, none]) (by decide) (Nat.le_of_ble_eq_true rfl) rfl ?_
  intro X F hQ
  refine kx_iconst 1 F dX12_leads_0 rfl ?_
  refine kx_istore 3 F 4 (lo' := [some (vR G 163), some (vI a1), some (vI a2), some (vI a3), some (vI 0), none, none]) dX12_leads_1 (by decide) rfl rfl rfl ?_
  refine kx_iconst 4 F dX12_leads_3 rfl ?_
  refine kx_istore 6 F 5 (lo' := [some (vR G 163), some (vI a1), some (vI a2), some (vI a3), some (vI 0), some (vI 0), none]) dX12_leads_4 (by decide) rfl rfl rfl ?_
  have L_295 : ∀ (n_296 : Nat) (x4_293 : Int) (x5_294 : Int), 0 ≤ x4_293 ∧ x4_293 ≤ 511 ∧ 0 ≤ x5_294 ∧ x5_294 ≤ 3 → (3 - (x5_294)).toNat = n_296 → KJ true G X M 6 [some (vR G 163), some (vI a1), some (vI a2), some (vI a3), some (vI x4_293), some (vI x5_294), none] [] := by
    intro n_296
    refine Nat.strongRecOn n_296 ?_
    intro n_296 ih_297 x4_293 x5_294 h_298 hm_299
    refine kx_iload 8 F 5 dX12_leads_6 rfl rfl ?_
    refine kx_iconst 9 F dX12_leads_8 rfl ?_
    refine kx_icmp_ge 12 F 64 dX12_leads_9 (by decide) rfl (by omega) (by decide) (fun h_300 => ?_) (fun h_300 => ?_)
    · refine kx_iload 66 F 4 dX12_leads_64 rfl rfl ?_
      exact kx_iret F hQ ⟨rfl, (by omega)⟩ dX12_leads_66
    · refine kx_iconst 13 F dX12_leads_12 rfl ?_
      refine kx_istore 15 F 6 (lo' := [some (vR G 163), some (vI a1), some (vI a2), some (vI a3), some (vI x4_293), some (vI x5_294), some (vI 0)]) dX12_leads_13 (by decide) rfl rfl rfl ?_
      have L_355 : ∀ (n_356 : Nat) (x4_353 : Int) (x6_354 : Int), 0 ≤ x4_353 ∧ x4_353 ≤ 511 ∧ 0 ≤ x6_354 ∧ x6_354 ≤ 3 → (3 - (x6_354)).toNat = n_356 → KJ true G X M 15 [some (vR G 163), some (vI a1), some (vI a2), some (vI a3), some (vI x4_353), some (vI x5_294), some (vI x6_354)] [] := by
        intro n_356
        refine Nat.strongRecOn n_356 ?_
        intro n_356 ih_357 x4_353 x6_354 h_358 hm_359
        refine kx_iload 17 F 6 dX12_leads_15 rfl rfl ?_
        refine kx_iconst 18 F dX12_leads_17 rfl ?_
        refine kx_icmp_ge 21 F 58 dX12_leads_18 (by decide) rfl (by omega) (by decide) (fun h_360 => ?_) (fun h_360 => ?_)
        · refine kx_iinc 61 F 5 (v := x5_294 + 1) (lo' := [some (vR G 163), some (vI a1), some (vI a2), some (vI a3), some (vI x4_353), some (vI (x5_294 + 1)), some (vI x6_354)]) dX12_leads_58 rfl (by omega) (by decide) rfl rfl rfl ?_
          refine kx_goto 6 F dX12_leads_61 (by decide) ?_
          refine kx_drop 6 (lo' := [some (vR G 163), some (vI a1), some (vI a2), some (vI a3), some (vI x4_353), some (vI (x5_294 + 1)), none]) rfl ?_
          exact ih_297 _ (by omega) x4_353 (x5_294 + 1) (by omega) rfl
        · refine kx_aload_n 22 F 0 dX12_leads_21 rfl rfl rfl ?_
          refine kx_getr 25 F fl_X12_44 kd_163 rfl rfl (j := 20) rfl dX12_leads_22 (v := 171) (uq_171 (Inv.r hI_M kd_163 rfl 20 rfl rfl)) rfl ?_
          refine kx_iload_n 26 F 1 dX12_leads_25 rfl rfl rfl ?_
          refine kx_iload_n 27 F 2 dX12_leads_26 rfl rfl rfl ?_
          refine kx_iload 29 F 5 dX12_leads_27 rfl rfl ?_
          refine kx_iload 31 F 6 dX12_leads_29 rfl rfl ?_
          refine kx_Si 34 F (As := [vI a1, vI a2, vI x5_294, vI x6_354]) (st := [vR G 171]) sd_X12_319 (c_X12_placeOf G l M a1 a2 x5_294 x6_354 hI_M (by omega)) ⟨by decide, by decide⟩ rfl rfl (Nat.le_of_ble_eq_true rfl) dX12_leads_31 rfl ?_
          intro r_361 N_362 q_363
          obtain ⟨rfl, q_363c⟩ := q_363
          refine kx_topi (e' := 54 * a1 + 9 * a2 + 3 * x5_294 + x6_354) (by omega) ?_
          refine kx_iald 35 F kd_171 rfl rfl (by omega) (by decide) dX12_leads_34 (v := (M 171 (54 * a1 + 9 * a2 + 3 * x5_294 + x6_354))) rfl rfl ?_
          have h_364 := Inv.g hI_M kd_171 rfl (54 * a1 + 9 * a2 + 3 * x5_294 + x6_354) (a := 0) (b := 15) rfl rfl
          refine kx_iload_n 36 F 3 dX12_leads_35 rfl rfl rfl ?_
          refine kx_iand 37 F (v := (zand (M 171 (54 * a1 + 9 * a2 + 3 * x5_294 + x6_354)) a3)) dX12_leads_36 rfl rfl ?_
          have h_365 := zand_l (a := (M 171 (54 * a1 + 9 * a2 + 3 * x5_294 + x6_354))) (b := a3) (by omega)
          have J_372 : ∀ (x4_371 : Int), 0 ≤ x4_371 ∧ x4_371 ≤ 511 → KJ true G X M 52 [some (vR G 163), some (vI a1), some (vI a2), some (vI a3), some (vI x4_371), some (vI x5_294), some (vI x6_354)] [] := by
            intro x4_371 h_373
            refine kx_iinc 55 F 6 (v := x6_354 + 1) (lo' := [some (vR G 163), some (vI a1), some (vI a2), some (vI a3), some (vI x4_371), some (vI x5_294), some (vI (x6_354 + 1))]) dX12_leads_52 rfl (by omega) (by decide) rfl rfl rfl ?_
            refine kx_goto 15 F dX12_leads_55 (by decide) ?_
            exact ih_357 _ (by omega) x4_371 (x6_354 + 1) (by omega) rfl
          refine kx_if_eq 40 F 52 dX12_leads_37 (by decide) rfl (by omega) (fun h_374 => ?_) (fun h_374 => ?_)
          · exact J_372 x4_353 (by omega)
          · refine kx_iload 42 F 4 dX12_leads_40 rfl rfl ?_
            refine kx_iload 44 F 5 dX12_leads_42 rfl rfl ?_
            refine kx_iload 46 F 6 dX12_leads_44 rfl rfl ?_
            refine kx_Si 49 F (As := [vI x5_294, vI x6_354]) (st := [vI x4_353]) sd_X12_316 (c_X12_pair G l M x5_294 x6_354 hI_M (by omega)) ⟨by decide, by decide⟩ rfl rfl (Nat.le_of_ble_eq_true rfl) dX12_leads_46 rfl ?_
            intro r_375 N_376 q_377
            obtain ⟨rfl, q_377c⟩ := q_377
            refine kx_ior 50 F (v := (zor x4_353 r_375)) dX12_leads_49 rfl rfl ?_
            have h_378 : 0 ≤ (zor x4_353 r_375) ∧ (zor x4_353 r_375) < 512 := zor_lt (a := x4_353) (b := r_375) 9 (by decide) (by omega) (by omega)
            refine kx_istore 52 F 4 (lo' := [some (vR G 163), some (vI a1), some (vI a2), some (vI a3), some (vI (zor x4_353 r_375)), some (vI x5_294), some (vI x6_354)]) dX12_leads_50 (by decide) rfl rfl rfl ?_
            exact J_372 (zor x4_353 r_375) (by omega)
      exact L_355 _ x4_293 0 (by omega) rfl
  exact L_295 _ 0 0 (by omega) rfl
set_option maxRecDepth 100000 in
theorem dGR_24_c_738 : (decode cX12_over 0 = .ok (.iconst 0, 1)) ∧ (decode cX12_over 1 = .ok (.istore 5, 2)) ∧ (decode cX12_over 3 = .ok (.iconst 1, 1)) ∧ (decode cX12_over 4 = .ok (.istore 6, 2)) ∧ (decode cX12_over 6 = .ok (.iload 6, 2)) ∧ (decode cX12_over 8 = .ok (.bipush 8, 2)) ∧ (decode cX12_over 10 = .ok (.if_icmp .ge 41, 3)) ∧ (decode cX12_over 13 = .ok (.iload 5, 2)) ∧ (decode cX12_over 15 = .ok (.aload_n 0, 1)) ∧ (decode cX12_over 16 = .ok (.iload_n 1, 1)) ∧ (decode cX12_over 17 = .ok (.iload_n 3, 1)) ∧ (decode cX12_over 18 = .ok (.iload 6, 2)) := by decide +kernel
theorem dX12_over_0 : decode cX12_over 0 = .ok (.iconst 0, 1) := dGR_24_c_738.1
theorem dX12_over_1 : decode cX12_over 1 = .ok (.istore 5, 2) := dGR_24_c_738.2.1
theorem dX12_over_3 : decode cX12_over 3 = .ok (.iconst 1, 1) := dGR_24_c_738.2.2.1
theorem dX12_over_4 : decode cX12_over 4 = .ok (.istore 6, 2) := dGR_24_c_738.2.2.2.1
theorem dX12_over_6 : decode cX12_over 6 = .ok (.iload 6, 2) := dGR_24_c_738.2.2.2.2.1
theorem dX12_over_8 : decode cX12_over 8 = .ok (.bipush 8, 2) := dGR_24_c_738.2.2.2.2.2.1
theorem dX12_over_10 : decode cX12_over 10 = .ok (.if_icmp .ge 41, 3) := dGR_24_c_738.2.2.2.2.2.2.1
theorem dX12_over_13 : decode cX12_over 13 = .ok (.iload 5, 2) := dGR_24_c_738.2.2.2.2.2.2.2.1
theorem dX12_over_15 : decode cX12_over 15 = .ok (.aload_n 0, 1) := dGR_24_c_738.2.2.2.2.2.2.2.2.1
theorem dX12_over_16 : decode cX12_over 16 = .ok (.iload_n 1, 1) := dGR_24_c_738.2.2.2.2.2.2.2.2.2.1
theorem dX12_over_17 : decode cX12_over 17 = .ok (.iload_n 3, 1) := dGR_24_c_738.2.2.2.2.2.2.2.2.2.2.1
theorem dX12_over_18 : decode cX12_over 18 = .ok (.iload 6, 2) := dGR_24_c_738.2.2.2.2.2.2.2.2.2.2.2
set_option maxRecDepth 100000 in
theorem dGR_24_c_739 : (decode cX12_over 20 = .ok (.invokevirtual 323, 3)) ∧ (decode cX12_over 23 = .ok (.iload_n 2, 1)) ∧ (decode cX12_over 24 = .ok (.invokestatic 326, 3)) ∧ (decode cX12_over 27 = .ok (.aload_n 0, 1)) ∧ (decode cX12_over 28 = .ok (.iload_n 1, 1)) ∧ (decode cX12_over 29 = .ok (.iload 4, 2)) ∧ (decode cX12_over 31 = .ok (.iload 6, 2)) ∧ (decode cX12_over 33 = .ok (.invokevirtual 323, 3)) ∧ (decode cX12_over 36 = .ok (.invokestatic 326, 3)) ∧ (decode cX12_over 39 = .ok (.ior, 1)) ∧ (decode cX12_over 40 = .ok (.istore 5, 2)) ∧ (decode cX12_over 42 = .ok (.iload 6, 2)) := by decide +kernel
theorem dX12_over_20 : decode cX12_over 20 = .ok (.invokevirtual 323, 3) := dGR_24_c_739.1
theorem dX12_over_23 : decode cX12_over 23 = .ok (.iload_n 2, 1) := dGR_24_c_739.2.1
theorem dX12_over_24 : decode cX12_over 24 = .ok (.invokestatic 326, 3) := dGR_24_c_739.2.2.1
theorem dX12_over_27 : decode cX12_over 27 = .ok (.aload_n 0, 1) := dGR_24_c_739.2.2.2.1
theorem dX12_over_28 : decode cX12_over 28 = .ok (.iload_n 1, 1) := dGR_24_c_739.2.2.2.2.1
theorem dX12_over_29 : decode cX12_over 29 = .ok (.iload 4, 2) := dGR_24_c_739.2.2.2.2.2.1
theorem dX12_over_31 : decode cX12_over 31 = .ok (.iload 6, 2) := dGR_24_c_739.2.2.2.2.2.2.1
theorem dX12_over_33 : decode cX12_over 33 = .ok (.invokevirtual 323, 3) := dGR_24_c_739.2.2.2.2.2.2.2.1
theorem dX12_over_36 : decode cX12_over 36 = .ok (.invokestatic 326, 3) := dGR_24_c_739.2.2.2.2.2.2.2.2.1
theorem dX12_over_39 : decode cX12_over 39 = .ok (.ior, 1) := dGR_24_c_739.2.2.2.2.2.2.2.2.2.1
theorem dX12_over_40 : decode cX12_over 40 = .ok (.istore 5, 2) := dGR_24_c_739.2.2.2.2.2.2.2.2.2.2.1
theorem dX12_over_42 : decode cX12_over 42 = .ok (.iload 6, 2) := dGR_24_c_739.2.2.2.2.2.2.2.2.2.2.2
set_option maxRecDepth 100000 in
theorem dGR_24_c_740 : (decode cX12_over 44 = .ok (.iconst 2, 1)) ∧ (decode cX12_over 45 = .ok (.imul, 1)) ∧ (decode cX12_over 46 = .ok (.istore 6, 2)) ∧ (decode cX12_over 48 = .ok (.goto (-42), 3)) ∧ (decode cX12_over 51 = .ok (.iload 5, 2)) ∧ (decode cX12_over 53 = .ok (.ireturn, 1)) := by decide +kernel
theorem dX12_over_44 : decode cX12_over 44 = .ok (.iconst 2, 1) := dGR_24_c_740.1
theorem dX12_over_45 : decode cX12_over 45 = .ok (.imul, 1) := dGR_24_c_740.2.1
theorem dX12_over_46 : decode cX12_over 46 = .ok (.istore 6, 2) := dGR_24_c_740.2.2.1
theorem dX12_over_48 : decode cX12_over 48 = .ok (.goto (-42), 3) := dGR_24_c_740.2.2.2.1
theorem dX12_over_51 : decode cX12_over 51 = .ok (.iload 5, 2) := dGR_24_c_740.2.2.2.2.1
theorem dX12_over_53 : decode cX12_over 53 = .ok (.ireturn, 1) := dGR_24_c_740.2.2.2.2.2
set_option maxHeartbeats 4000000 in
set_option maxRecDepth 100000 in
theorem c_X12_over (G : KG) (l : Launch) (M : Mem) (a1 : Int) (a2 : Int) (a3 : Int) (a4 : Int) (hI_M : Inv true M) (hpre : -2147483648 ≤ a1 ∧ a1 ≤ 2147483647 ∧ -2147483648 ≤ a2 ∧ a2 ≤ 2147483647 ∧ -2147483648 ≤ a3 ∧ a3 ≤ 2147483647 ∧ -2147483648 ≤ a4 ∧ a4 ≤ 2147483647 ∧ 0 ≤ a1 ∧ a1 ≤ 2 ∧ 0 ≤ a3 ∧ a3 ≤ 5 ∧ 0 ≤ a4 ∧ a4 ≤ 5) : KC true G l yX12_over cX12_over 7 (some .int) (2, 49) [vR G 163, vI a1, vI a2, vI a3, vI a4] M (fun A => kQi true G A (fun (r : Int) (N : Mem) => M = N ∧ (0 ≤ r ∧ r ≤ 511))) := by
  refine kx_met (lo := [some (vR G 163), some (vI a1), some (vI a2), some (vI a3), some (vI a4), none, none]) (by decide) (Nat.le_of_ble_eq_true rfl) rfl ?_
  intro X F hQ
  refine kx_iconst 1 F dX12_over_0 rfl ?_
  refine kx_istore 3 F 5 (lo' := [some (vR G 163), some (vI a1), some (vI a2), some (vI a3), some (vI a4), some (vI 0), none]) dX12_over_1 (by decide) rfl rfl rfl ?_
  refine kx_iconst 4 F dX12_over_3 rfl ?_
  refine kx_istore 6 F 6 (lo' := [some (vR G 163), some (vI a1), some (vI a2), some (vI a3), some (vI a4), some (vI 0), some (vI 1)]) dX12_over_4 (by decide) rfl rfl rfl ?_
  have L_99 : ∀ (n_100 : Nat) (x5_97 : Int) (x6_98 : Int), 0 ≤ x5_97 ∧ x5_97 ≤ 511 ∧ 1 ≤ x6_98 ∧ x6_98 ≤ 14 → (14 - (x6_98)).toNat = n_100 → KJ true G X M 6 [some (vR G 163), some (vI a1), some (vI a2), some (vI a3), some (vI a4), some (vI x5_97), some (vI x6_98)] [] := by
    intro n_100
    refine Nat.strongRecOn n_100 ?_
    intro n_100 ih_101 x5_97 x6_98 h_102 hm_103
    refine kx_iload 8 F 6 dX12_over_6 rfl rfl ?_
    refine kx_bipush 10 F dX12_over_8 (by decide) rfl ?_
    refine kx_icmp_ge 13 F 51 dX12_over_10 (by decide) rfl (by omega) (by decide) (fun h_104 => ?_) (fun h_104 => ?_)
    · refine kx_iload 53 F 5 dX12_over_51 rfl rfl ?_
      exact kx_iret F hQ ⟨rfl, (by omega)⟩ dX12_over_53
    · refine kx_iload 15 F 5 dX12_over_13 rfl rfl ?_
      refine kx_aload_n 16 F 0 dX12_over_15 rfl rfl rfl ?_
      refine kx_iload_n 17 F 1 dX12_over_16 rfl rfl rfl ?_
      refine kx_iload_n 18 F 3 dX12_over_17 rfl rfl rfl ?_
      refine kx_iload 20 F 6 dX12_over_18 rfl rfl ?_
      refine kx_Vi 23 (ci := 0) F (As := [vI a1, vI a3, vI x6_98]) (st := [vI x5_97]) vd_X12_323 (c_X12_leads G l M a1 a3 x6_98 hI_M (by omega)) kd_163 rfl rfl rfl ⟨by decide, by decide⟩ rfl rfl (Nat.le_of_ble_eq_true rfl) dX12_over_20 rfl ?_
      intro r_105 N_106 q_107
      obtain ⟨rfl, q_107c⟩ := q_107
      refine kx_iload_n 24 F 2 dX12_over_23 rfl rfl rfl ?_
      refine kx_Si 27 F (As := [vI r_105, vI a2]) (st := [vI x5_97]) sd_X12_326 (c_X12_then G l M r_105 a2 hI_M (by omega)) ⟨by decide, by decide⟩ rfl rfl (Nat.le_of_ble_eq_true rfl) dX12_over_24 rfl ?_
      intro r_108 N_109 q_110
      obtain ⟨rfl, q_110c⟩ := q_110
      refine kx_aload_n 28 F 0 dX12_over_27 rfl rfl rfl ?_
      refine kx_iload_n 29 F 1 dX12_over_28 rfl rfl rfl ?_
      refine kx_iload 31 F 4 dX12_over_29 rfl rfl ?_
      refine kx_iload 33 F 6 dX12_over_31 rfl rfl ?_
      refine kx_Vi 36 (ci := 0) F (As := [vI a1, vI a4, vI x6_98]) (st := [vI r_108, vI x5_97]) vd_X12_323 (c_X12_leads G l M a1 a4 x6_98 hI_M (by omega)) kd_163 rfl rfl rfl ⟨by decide, by decide⟩ rfl rfl (Nat.le_of_ble_eq_true rfl) dX12_over_33 rfl ?_
      intro r_111 N_112 q_113
      obtain ⟨rfl, q_113c⟩ := q_113
      refine kx_Si 39 F (As := [vI r_108, vI r_111]) (st := [vI x5_97]) sd_X12_326 (c_X12_then G l M r_108 r_111 hI_M (by omega)) ⟨by decide, by decide⟩ rfl rfl (Nat.le_of_ble_eq_true rfl) dX12_over_36 rfl ?_
      intro r_114 N_115 q_116
      obtain ⟨rfl, q_116c⟩ := q_116
      refine kx_ior 40 F (v := (zor x5_97 r_114)) dX12_over_39 rfl rfl ?_
      have h_117 : 0 ≤ (zor x5_97 r_114) ∧ (zor x5_97 r_114) < 512 := zor_lt (a := x5_97) (b := r_114) 9 (by decide) (by omega) (by omega)
      refine kx_istore 42 F 5 (lo' := [some (vR G 163), some (vI a1), some (vI a2), some (vI a3), some (vI a4), some (vI (zor x5_97 r_114)), some (vI x6_98)]) dX12_over_40 (by decide) rfl rfl rfl ?_
      refine kx_iload 44 F 6 dX12_over_42 rfl rfl ?_
      refine kx_iconst 45 F dX12_over_44 rfl ?_
      refine kx_imul 46 F (v := 2 * x6_98) dX12_over_45 (by omega) rfl ?_
      refine kx_istore 48 F 6 (lo' := [some (vR G 163), some (vI a1), some (vI a2), some (vI a3), some (vI a4), some (vI (zor x5_97 r_114)), some (vI (2 * x6_98))]) dX12_over_46 (by decide) rfl rfl rfl ?_
      refine kx_goto 6 F dX12_over_48 (by decide) ?_
      exact ih_101 _ (by omega) (zor x5_97 r_114) (2 * x6_98) (by omega) rfl
  exact L_99 _ 0 1 (by omega) rfl
set_option maxRecDepth 100000 in
theorem dGR_24_c_741 : (decode cX12_laysRules 0 = .ok (.iconst 0, 1)) ∧ (decode cX12_laysRules 1 = .ok (.istore_n 1, 1)) ∧ (decode cX12_laysRules 2 = .ok (.iload_n 1, 1)) ∧ (decode cX12_laysRules 3 = .ok (.sipush 162, 3)) ∧ (decode cX12_laysRules 6 = .ok (.if_icmp .ge 16, 3)) ∧ (decode cX12_laysRules 9 = .ok (.aload_n 0, 1)) ∧ (decode cX12_laysRules 10 = .ok (.getfield 44, 3)) ∧ (decode cX12_laysRules 13 = .ok (.iload_n 1, 1)) ∧ (decode cX12_laysRules 14 = .ok (.iconst 0, 1)) ∧ (decode cX12_laysRules 15 = .ok (.iastore, 1)) ∧ (decode cX12_laysRules 16 = .ok (.iinc 1 1, 3)) ∧ (decode cX12_laysRules 19 = .ok (.goto (-17), 3)) := by decide +kernel
theorem dX12_laysRules_0 : decode cX12_laysRules 0 = .ok (.iconst 0, 1) := dGR_24_c_741.1
theorem dX12_laysRules_1 : decode cX12_laysRules 1 = .ok (.istore_n 1, 1) := dGR_24_c_741.2.1
theorem dX12_laysRules_2 : decode cX12_laysRules 2 = .ok (.iload_n 1, 1) := dGR_24_c_741.2.2.1
theorem dX12_laysRules_3 : decode cX12_laysRules 3 = .ok (.sipush 162, 3) := dGR_24_c_741.2.2.2.1
theorem dX12_laysRules_6 : decode cX12_laysRules 6 = .ok (.if_icmp .ge 16, 3) := dGR_24_c_741.2.2.2.2.1
theorem dX12_laysRules_9 : decode cX12_laysRules 9 = .ok (.aload_n 0, 1) := dGR_24_c_741.2.2.2.2.2.1
theorem dX12_laysRules_10 : decode cX12_laysRules 10 = .ok (.getfield 44, 3) := dGR_24_c_741.2.2.2.2.2.2.1
theorem dX12_laysRules_13 : decode cX12_laysRules 13 = .ok (.iload_n 1, 1) := dGR_24_c_741.2.2.2.2.2.2.2.1
theorem dX12_laysRules_14 : decode cX12_laysRules 14 = .ok (.iconst 0, 1) := dGR_24_c_741.2.2.2.2.2.2.2.2.1
theorem dX12_laysRules_15 : decode cX12_laysRules 15 = .ok (.iastore, 1) := dGR_24_c_741.2.2.2.2.2.2.2.2.2.1
theorem dX12_laysRules_16 : decode cX12_laysRules 16 = .ok (.iinc 1 1, 3) := dGR_24_c_741.2.2.2.2.2.2.2.2.2.2.1
theorem dX12_laysRules_19 : decode cX12_laysRules 19 = .ok (.goto (-17), 3) := dGR_24_c_741.2.2.2.2.2.2.2.2.2.2.2
set_option maxRecDepth 100000 in
theorem dGR_24_c_742 : (decode cX12_laysRules 22 = .ok (.iconst 0, 1)) ∧ (decode cX12_laysRules 23 = .ok (.istore_n 1, 1)) ∧ (decode cX12_laysRules 24 = .ok (.iload_n 1, 1)) ∧ (decode cX12_laysRules 25 = .ok (.aload_n 0, 1)) ∧ (decode cX12_laysRules 26 = .ok (.getfield 7, 3)) ∧ (decode cX12_laysRules 29 = .ok (.iconst 3, 1)) ∧ (decode cX12_laysRules 30 = .ok (.iaload, 1)) ∧ (decode cX12_laysRules 31 = .ok (.if_icmp .ge 95, 3)) ∧ (decode cX12_laysRules 34 = .ok (.iconst 0, 1)) ∧ (decode cX12_laysRules 35 = .ok (.istore_n 2, 1)) ∧ (decode cX12_laysRules 36 = .ok (.iload_n 2, 1)) ∧ (decode cX12_laysRules 37 = .ok (.aload_n 0, 1)) := by decide +kernel
theorem dX12_laysRules_22 : decode cX12_laysRules 22 = .ok (.iconst 0, 1) := dGR_24_c_742.1
theorem dX12_laysRules_23 : decode cX12_laysRules 23 = .ok (.istore_n 1, 1) := dGR_24_c_742.2.1
theorem dX12_laysRules_24 : decode cX12_laysRules 24 = .ok (.iload_n 1, 1) := dGR_24_c_742.2.2.1
theorem dX12_laysRules_25 : decode cX12_laysRules 25 = .ok (.aload_n 0, 1) := dGR_24_c_742.2.2.2.1
theorem dX12_laysRules_26 : decode cX12_laysRules 26 = .ok (.getfield 7, 3) := dGR_24_c_742.2.2.2.2.1
theorem dX12_laysRules_29 : decode cX12_laysRules 29 = .ok (.iconst 3, 1) := dGR_24_c_742.2.2.2.2.2.1
theorem dX12_laysRules_30 : decode cX12_laysRules 30 = .ok (.iaload, 1) := dGR_24_c_742.2.2.2.2.2.2.1
theorem dX12_laysRules_31 : decode cX12_laysRules 31 = .ok (.if_icmp .ge 95, 3) := dGR_24_c_742.2.2.2.2.2.2.2.1
theorem dX12_laysRules_34 : decode cX12_laysRules 34 = .ok (.iconst 0, 1) := dGR_24_c_742.2.2.2.2.2.2.2.2.1
theorem dX12_laysRules_35 : decode cX12_laysRules 35 = .ok (.istore_n 2, 1) := dGR_24_c_742.2.2.2.2.2.2.2.2.2.1
theorem dX12_laysRules_36 : decode cX12_laysRules 36 = .ok (.iload_n 2, 1) := dGR_24_c_742.2.2.2.2.2.2.2.2.2.2.1
theorem dX12_laysRules_37 : decode cX12_laysRules 37 = .ok (.aload_n 0, 1) := dGR_24_c_742.2.2.2.2.2.2.2.2.2.2.2
set_option maxRecDepth 100000 in
theorem dGR_24_c_743 : (decode cX12_laysRules 38 = .ok (.iload_n 1, 1)) ∧ (decode cX12_laysRules 39 = .ok (.iconst 4, 1)) ∧ (decode cX12_laysRules 40 = .ok (.invokevirtual 288, 3)) ∧ (decode cX12_laysRules 43 = .ok (.if_icmp .ge 77, 3)) ∧ (decode cX12_laysRules 46 = .ok (.iconst 0, 1)) ∧ (decode cX12_laysRules 47 = .ok (.iload_n 1, 1)) ∧ (decode cX12_laysRules 48 = .ok (.iload_n 2, 1)) ∧ (decode cX12_laysRules 49 = .ok (.invokestatic 243, 3)) ∧ (decode cX12_laysRules 52 = .ok (.istore_n 3, 1)) ∧ (decode cX12_laysRules 53 = .ok (.aload_n 0, 1)) ∧ (decode cX12_laysRules 54 = .ok (.getfield 44, 3)) ∧ (decode cX12_laysRules 57 = .ok (.iload_n 1, 1)) := by decide +kernel
theorem dX12_laysRules_38 : decode cX12_laysRules 38 = .ok (.iload_n 1, 1) := dGR_24_c_743.1
theorem dX12_laysRules_39 : decode cX12_laysRules 39 = .ok (.iconst 4, 1) := dGR_24_c_743.2.1
theorem dX12_laysRules_40 : decode cX12_laysRules 40 = .ok (.invokevirtual 288, 3) := dGR_24_c_743.2.2.1
theorem dX12_laysRules_43 : decode cX12_laysRules 43 = .ok (.if_icmp .ge 77, 3) := dGR_24_c_743.2.2.2.1
theorem dX12_laysRules_46 : decode cX12_laysRules 46 = .ok (.iconst 0, 1) := dGR_24_c_743.2.2.2.2.1
theorem dX12_laysRules_47 : decode cX12_laysRules 47 = .ok (.iload_n 1, 1) := dGR_24_c_743.2.2.2.2.2.1
theorem dX12_laysRules_48 : decode cX12_laysRules 48 = .ok (.iload_n 2, 1) := dGR_24_c_743.2.2.2.2.2.2.1
theorem dX12_laysRules_49 : decode cX12_laysRules 49 = .ok (.invokestatic 243, 3) := dGR_24_c_743.2.2.2.2.2.2.2.1
theorem dX12_laysRules_52 : decode cX12_laysRules 52 = .ok (.istore_n 3, 1) := dGR_24_c_743.2.2.2.2.2.2.2.2.1
theorem dX12_laysRules_53 : decode cX12_laysRules 53 = .ok (.aload_n 0, 1) := dGR_24_c_743.2.2.2.2.2.2.2.2.2.1
theorem dX12_laysRules_54 : decode cX12_laysRules 54 = .ok (.getfield 44, 3) := dGR_24_c_743.2.2.2.2.2.2.2.2.2.2.1
theorem dX12_laysRules_57 : decode cX12_laysRules 57 = .ok (.iload_n 1, 1) := dGR_24_c_743.2.2.2.2.2.2.2.2.2.2.2
set_option maxRecDepth 100000 in
theorem dGR_24_c_744 : (decode cX12_laysRules 58 = .ok (.aload_n 0, 1)) ∧ (decode cX12_laysRules 59 = .ok (.getfield 7, 3)) ∧ (decode cX12_laysRules 62 = .ok (.iload_n 3, 1)) ∧ (decode cX12_laysRules 63 = .ok (.iaload, 1)) ∧ (decode cX12_laysRules 64 = .ok (.aload_n 0, 1)) ∧ (decode cX12_laysRules 65 = .ok (.getfield 7, 3)) ∧ (decode cX12_laysRules 68 = .ok (.iload_n 3, 1)) ∧ (decode cX12_laysRules 69 = .ok (.iconst 1, 1)) ∧ (decode cX12_laysRules 70 = .ok (.iadd, 1)) ∧ (decode cX12_laysRules 71 = .ok (.iaload, 1)) ∧ (decode cX12_laysRules 72 = .ok (.aload_n 0, 1)) ∧ (decode cX12_laysRules 73 = .ok (.getfield 7, 3)) := by decide +kernel
theorem dX12_laysRules_58 : decode cX12_laysRules 58 = .ok (.aload_n 0, 1) := dGR_24_c_744.1
theorem dX12_laysRules_59 : decode cX12_laysRules 59 = .ok (.getfield 7, 3) := dGR_24_c_744.2.1
theorem dX12_laysRules_62 : decode cX12_laysRules 62 = .ok (.iload_n 3, 1) := dGR_24_c_744.2.2.1
theorem dX12_laysRules_63 : decode cX12_laysRules 63 = .ok (.iaload, 1) := dGR_24_c_744.2.2.2.1
theorem dX12_laysRules_64 : decode cX12_laysRules 64 = .ok (.aload_n 0, 1) := dGR_24_c_744.2.2.2.2.1
theorem dX12_laysRules_65 : decode cX12_laysRules 65 = .ok (.getfield 7, 3) := dGR_24_c_744.2.2.2.2.2.1
theorem dX12_laysRules_68 : decode cX12_laysRules 68 = .ok (.iload_n 3, 1) := dGR_24_c_744.2.2.2.2.2.2.1
theorem dX12_laysRules_69 : decode cX12_laysRules 69 = .ok (.iconst 1, 1) := dGR_24_c_744.2.2.2.2.2.2.2.1
theorem dX12_laysRules_70 : decode cX12_laysRules 70 = .ok (.iadd, 1) := dGR_24_c_744.2.2.2.2.2.2.2.2.1
theorem dX12_laysRules_71 : decode cX12_laysRules 71 = .ok (.iaload, 1) := dGR_24_c_744.2.2.2.2.2.2.2.2.2.1
theorem dX12_laysRules_72 : decode cX12_laysRules 72 = .ok (.aload_n 0, 1) := dGR_24_c_744.2.2.2.2.2.2.2.2.2.2.1
theorem dX12_laysRules_73 : decode cX12_laysRules 73 = .ok (.getfield 7, 3) := dGR_24_c_744.2.2.2.2.2.2.2.2.2.2.2
set_option maxRecDepth 100000 in
theorem dGR_24_c_745 : (decode cX12_laysRules 76 = .ok (.iload_n 3, 1)) ∧ (decode cX12_laysRules 77 = .ok (.iconst 2, 1)) ∧ (decode cX12_laysRules 78 = .ok (.iadd, 1)) ∧ (decode cX12_laysRules 79 = .ok (.iaload, 1)) ∧ (decode cX12_laysRules 80 = .ok (.invokestatic 319, 3)) ∧ (decode cX12_laysRules 83 = .ok (.dup2, 1)) ∧ (decode cX12_laysRules 84 = .ok (.iaload, 1)) ∧ (decode cX12_laysRules 85 = .ok (.aload_n 0, 1)) ∧ (decode cX12_laysRules 86 = .ok (.getfield 7, 3)) ∧ (decode cX12_laysRules 89 = .ok (.iload_n 3, 1)) ∧ (decode cX12_laysRules 90 = .ok (.iconst 3, 1)) ∧ (decode cX12_laysRules 91 = .ok (.iadd, 1)) := by decide +kernel
theorem dX12_laysRules_76 : decode cX12_laysRules 76 = .ok (.iload_n 3, 1) := dGR_24_c_745.1
theorem dX12_laysRules_77 : decode cX12_laysRules 77 = .ok (.iconst 2, 1) := dGR_24_c_745.2.1
theorem dX12_laysRules_78 : decode cX12_laysRules 78 = .ok (.iadd, 1) := dGR_24_c_745.2.2.1
theorem dX12_laysRules_79 : decode cX12_laysRules 79 = .ok (.iaload, 1) := dGR_24_c_745.2.2.2.1
theorem dX12_laysRules_80 : decode cX12_laysRules 80 = .ok (.invokestatic 319, 3) := dGR_24_c_745.2.2.2.2.1
theorem dX12_laysRules_83 : decode cX12_laysRules 83 = .ok (.dup2, 1) := dGR_24_c_745.2.2.2.2.2.1
theorem dX12_laysRules_84 : decode cX12_laysRules 84 = .ok (.iaload, 1) := dGR_24_c_745.2.2.2.2.2.2.1
theorem dX12_laysRules_85 : decode cX12_laysRules 85 = .ok (.aload_n 0, 1) := dGR_24_c_745.2.2.2.2.2.2.2.1
theorem dX12_laysRules_86 : decode cX12_laysRules 86 = .ok (.getfield 7, 3) := dGR_24_c_745.2.2.2.2.2.2.2.2.1
theorem dX12_laysRules_89 : decode cX12_laysRules 89 = .ok (.iload_n 3, 1) := dGR_24_c_745.2.2.2.2.2.2.2.2.2.1
theorem dX12_laysRules_90 : decode cX12_laysRules 90 = .ok (.iconst 3, 1) := dGR_24_c_745.2.2.2.2.2.2.2.2.2.2.1
theorem dX12_laysRules_91 : decode cX12_laysRules 91 = .ok (.iadd, 1) := dGR_24_c_745.2.2.2.2.2.2.2.2.2.2.2
set_option maxRecDepth 100000 in
theorem dGR_24_c_746 : (decode cX12_laysRules 92 = .ok (.iaload, 1)) ∧ (decode cX12_laysRules 93 = .ok (.iconst (-1), 1)) ∧ (decode cX12_laysRules 94 = .ok (.if_icmp .ne 8, 3)) ∧ (decode cX12_laysRules 97 = .ok (.bipush 8, 2)) ∧ (decode cX12_laysRules 99 = .ok (.goto 13, 3)) ∧ (decode cX12_laysRules 102 = .ok (.iconst 1, 1)) ∧ (decode cX12_laysRules 103 = .ok (.aload_n 0, 1)) ∧ (decode cX12_laysRules 104 = .ok (.getfield 7, 3)) ∧ (decode cX12_laysRules 107 = .ok (.iload_n 3, 1)) ∧ (decode cX12_laysRules 108 = .ok (.iconst 3, 1)) ∧ (decode cX12_laysRules 109 = .ok (.iadd, 1)) ∧ (decode cX12_laysRules 110 = .ok (.iaload, 1)) := by decide +kernel
theorem dX12_laysRules_92 : decode cX12_laysRules 92 = .ok (.iaload, 1) := dGR_24_c_746.1
theorem dX12_laysRules_93 : decode cX12_laysRules 93 = .ok (.iconst (-1), 1) := dGR_24_c_746.2.1
theorem dX12_laysRules_94 : decode cX12_laysRules 94 = .ok (.if_icmp .ne 8, 3) := dGR_24_c_746.2.2.1
theorem dX12_laysRules_97 : decode cX12_laysRules 97 = .ok (.bipush 8, 2) := dGR_24_c_746.2.2.2.1
theorem dX12_laysRules_99 : decode cX12_laysRules 99 = .ok (.goto 13, 3) := dGR_24_c_746.2.2.2.2.1
theorem dX12_laysRules_102 : decode cX12_laysRules 102 = .ok (.iconst 1, 1) := dGR_24_c_746.2.2.2.2.2.1
theorem dX12_laysRules_103 : decode cX12_laysRules 103 = .ok (.aload_n 0, 1) := dGR_24_c_746.2.2.2.2.2.2.1
theorem dX12_laysRules_104 : decode cX12_laysRules 104 = .ok (.getfield 7, 3) := dGR_24_c_746.2.2.2.2.2.2.2.1
theorem dX12_laysRules_107 : decode cX12_laysRules 107 = .ok (.iload_n 3, 1) := dGR_24_c_746.2.2.2.2.2.2.2.2.1
theorem dX12_laysRules_108 : decode cX12_laysRules 108 = .ok (.iconst 3, 1) := dGR_24_c_746.2.2.2.2.2.2.2.2.2.1
theorem dX12_laysRules_109 : decode cX12_laysRules 109 = .ok (.iadd, 1) := dGR_24_c_746.2.2.2.2.2.2.2.2.2.2.1
theorem dX12_laysRules_110 : decode cX12_laysRules 110 = .ok (.iaload, 1) := dGR_24_c_746.2.2.2.2.2.2.2.2.2.2.2
set_option maxRecDepth 100000 in
theorem dGR_24_c_747 : (decode cX12_laysRules 111 = .ok (.ishl, 1)) ∧ (decode cX12_laysRules 112 = .ok (.ior, 1)) ∧ (decode cX12_laysRules 113 = .ok (.iastore, 1)) ∧ (decode cX12_laysRules 114 = .ok (.iinc 2 1, 3)) ∧ (decode cX12_laysRules 117 = .ok (.goto (-81), 3)) ∧ (decode cX12_laysRules 120 = .ok (.iinc 1 1, 3)) ∧ (decode cX12_laysRules 123 = .ok (.goto (-99), 3)) ∧ (decode cX12_laysRules 126 = .ok (.iconst 0, 1)) ∧ (decode cX12_laysRules 127 = .ok (.istore_n 1, 1)) ∧ (decode cX12_laysRules 128 = .ok (.iload_n 1, 1)) ∧ (decode cX12_laysRules 129 = .ok (.aload_n 0, 1)) ∧ (decode cX12_laysRules 130 = .ok (.invokevirtual 285, 3)) := by decide +kernel
theorem dX12_laysRules_111 : decode cX12_laysRules 111 = .ok (.ishl, 1) := dGR_24_c_747.1
theorem dX12_laysRules_112 : decode cX12_laysRules 112 = .ok (.ior, 1) := dGR_24_c_747.2.1
theorem dX12_laysRules_113 : decode cX12_laysRules 113 = .ok (.iastore, 1) := dGR_24_c_747.2.2.1
theorem dX12_laysRules_114 : decode cX12_laysRules 114 = .ok (.iinc 2 1, 3) := dGR_24_c_747.2.2.2.1
theorem dX12_laysRules_117 : decode cX12_laysRules 117 = .ok (.goto (-81), 3) := dGR_24_c_747.2.2.2.2.1
theorem dX12_laysRules_120 : decode cX12_laysRules 120 = .ok (.iinc 1 1, 3) := dGR_24_c_747.2.2.2.2.2.1
theorem dX12_laysRules_123 : decode cX12_laysRules 123 = .ok (.goto (-99), 3) := dGR_24_c_747.2.2.2.2.2.2.1
theorem dX12_laysRules_126 : decode cX12_laysRules 126 = .ok (.iconst 0, 1) := dGR_24_c_747.2.2.2.2.2.2.2.1
theorem dX12_laysRules_127 : decode cX12_laysRules 127 = .ok (.istore_n 1, 1) := dGR_24_c_747.2.2.2.2.2.2.2.2.1
theorem dX12_laysRules_128 : decode cX12_laysRules 128 = .ok (.iload_n 1, 1) := dGR_24_c_747.2.2.2.2.2.2.2.2.2.1
theorem dX12_laysRules_129 : decode cX12_laysRules 129 = .ok (.aload_n 0, 1) := dGR_24_c_747.2.2.2.2.2.2.2.2.2.2.1
theorem dX12_laysRules_130 : decode cX12_laysRules 130 = .ok (.invokevirtual 285, 3) := dGR_24_c_747.2.2.2.2.2.2.2.2.2.2.2
set_option maxRecDepth 100000 in
theorem dGR_24_c_748 : (decode cX12_laysRules 133 = .ok (.if_icmp .ge 49, 3)) ∧ (decode cX12_laysRules 136 = .ok (.aload_n 0, 1)) ∧ (decode cX12_laysRules 137 = .ok (.getfield 44, 3)) ∧ (decode cX12_laysRules 140 = .ok (.iconst 2, 1)) ∧ (decode cX12_laysRules 141 = .ok (.iload_n 1, 1)) ∧ (decode cX12_laysRules 142 = .ok (.iconst 0, 1)) ∧ (decode cX12_laysRules 143 = .ok (.iconst 0, 1)) ∧ (decode cX12_laysRules 144 = .ok (.invokestatic 319, 3)) ∧ (decode cX12_laysRules 147 = .ok (.aload_n 0, 1)) ∧ (decode cX12_laysRules 148 = .ok (.iload_n 1, 1)) ∧ (decode cX12_laysRules 149 = .ok (.invokevirtual 297, 3)) ∧ (decode cX12_laysRules 152 = .ok (.ifCond .ne 7, 3)) := by decide +kernel
theorem dX12_laysRules_133 : decode cX12_laysRules 133 = .ok (.if_icmp .ge 49, 3) := dGR_24_c_748.1
theorem dX12_laysRules_136 : decode cX12_laysRules 136 = .ok (.aload_n 0, 1) := dGR_24_c_748.2.1
theorem dX12_laysRules_137 : decode cX12_laysRules 137 = .ok (.getfield 44, 3) := dGR_24_c_748.2.2.1
theorem dX12_laysRules_140 : decode cX12_laysRules 140 = .ok (.iconst 2, 1) := dGR_24_c_748.2.2.2.1
theorem dX12_laysRules_141 : decode cX12_laysRules 141 = .ok (.iload_n 1, 1) := dGR_24_c_748.2.2.2.2.1
theorem dX12_laysRules_142 : decode cX12_laysRules 142 = .ok (.iconst 0, 1) := dGR_24_c_748.2.2.2.2.2.1
theorem dX12_laysRules_143 : decode cX12_laysRules 143 = .ok (.iconst 0, 1) := dGR_24_c_748.2.2.2.2.2.2.1
theorem dX12_laysRules_144 : decode cX12_laysRules 144 = .ok (.invokestatic 319, 3) := dGR_24_c_748.2.2.2.2.2.2.2.1
theorem dX12_laysRules_147 : decode cX12_laysRules 147 = .ok (.aload_n 0, 1) := dGR_24_c_748.2.2.2.2.2.2.2.2.1
theorem dX12_laysRules_148 : decode cX12_laysRules 148 = .ok (.iload_n 1, 1) := dGR_24_c_748.2.2.2.2.2.2.2.2.2.1
theorem dX12_laysRules_149 : decode cX12_laysRules 149 = .ok (.invokevirtual 297, 3) := dGR_24_c_748.2.2.2.2.2.2.2.2.2.2.1
theorem dX12_laysRules_152 : decode cX12_laysRules 152 = .ok (.ifCond .ne 7, 3) := dGR_24_c_748.2.2.2.2.2.2.2.2.2.2.2
set_option maxRecDepth 100000 in
theorem dGR_24_c_749 : (decode cX12_laysRules 155 = .ok (.iconst 1, 1)) ∧ (decode cX12_laysRules 156 = .ok (.goto 19, 3)) ∧ (decode cX12_laysRules 159 = .ok (.aload_n 0, 1)) ∧ (decode cX12_laysRules 160 = .ok (.iload_n 1, 1)) ∧ (decode cX12_laysRules 161 = .ok (.invokevirtual 297, 3)) ∧ (decode cX12_laysRules 164 = .ok (.iconst 1, 1)) ∧ (decode cX12_laysRules 165 = .ok (.if_icmp .ne 8, 3)) ∧ (decode cX12_laysRules 168 = .ok (.bipush 9, 2)) ∧ (decode cX12_laysRules 170 = .ok (.goto 5, 3)) ∧ (decode cX12_laysRules 173 = .ok (.bipush 8, 2)) ∧ (decode cX12_laysRules 175 = .ok (.iastore, 1)) ∧ (decode cX12_laysRules 176 = .ok (.iinc 1 1, 3)) := by decide +kernel
theorem dX12_laysRules_155 : decode cX12_laysRules 155 = .ok (.iconst 1, 1) := dGR_24_c_749.1
theorem dX12_laysRules_156 : decode cX12_laysRules 156 = .ok (.goto 19, 3) := dGR_24_c_749.2.1
theorem dX12_laysRules_159 : decode cX12_laysRules 159 = .ok (.aload_n 0, 1) := dGR_24_c_749.2.2.1
theorem dX12_laysRules_160 : decode cX12_laysRules 160 = .ok (.iload_n 1, 1) := dGR_24_c_749.2.2.2.1
theorem dX12_laysRules_161 : decode cX12_laysRules 161 = .ok (.invokevirtual 297, 3) := dGR_24_c_749.2.2.2.2.1
theorem dX12_laysRules_164 : decode cX12_laysRules 164 = .ok (.iconst 1, 1) := dGR_24_c_749.2.2.2.2.2.1
theorem dX12_laysRules_165 : decode cX12_laysRules 165 = .ok (.if_icmp .ne 8, 3) := dGR_24_c_749.2.2.2.2.2.2.1
theorem dX12_laysRules_168 : decode cX12_laysRules 168 = .ok (.bipush 9, 2) := dGR_24_c_749.2.2.2.2.2.2.2.1
theorem dX12_laysRules_170 : decode cX12_laysRules 170 = .ok (.goto 5, 3) := dGR_24_c_749.2.2.2.2.2.2.2.2.1
theorem dX12_laysRules_173 : decode cX12_laysRules 173 = .ok (.bipush 8, 2) := dGR_24_c_749.2.2.2.2.2.2.2.2.2.1
theorem dX12_laysRules_175 : decode cX12_laysRules 175 = .ok (.iastore, 1) := dGR_24_c_749.2.2.2.2.2.2.2.2.2.2.1
theorem dX12_laysRules_176 : decode cX12_laysRules 176 = .ok (.iinc 1 1, 3) := dGR_24_c_749.2.2.2.2.2.2.2.2.2.2.2
theorem dX12_laysRules_179 : decode cX12_laysRules 179 = .ok (.goto (-51), 3) := by decide +kernel
theorem dX12_laysRules_182 : decode cX12_laysRules 182 = .ok (.return_, 1) := by decide +kernel
abbrev f_c_X12_laysRules : List (Nat × Int) := [(72, -1)]
set_option maxHeartbeats 4000000 in
set_option maxRecDepth 100000 in
theorem c_X12_laysRules (G : KG) (l : Launch) (M : Mem) (hI_M : Inv true M) : KC true G l yX12_laysRules cX12_laysRules 4 none (2, 43) [vR G 163] M (fun A => kQv true G A (fun (N : Mem) => Inv true N ∧ Fr f_c_X12_laysRules M N)) := by
  refine kx_met (lo := [some (vR G 163), none, none, none]) (by decide) (Nat.le_of_ble_eq_true rfl) rfl ?_
  intro X F hQ
  have hF_M : Fr f_c_X12_laysRules M M := Fr.rf _ _
  refine kx_iconst 1 F dX12_laysRules_0 rfl ?_
  refine kx_istore_n 2 F 1 (lo' := [some (vR G 163), some (vI 0), none, none]) dX12_laysRules_1 rfl (by decide) rfl rfl rfl ?_
  have L_3297 : ∀ (n_3298 : Nat) (x1_3295 : Int) (N_3296 : Mem), Inv true N_3296 → Fr f_c_X12_laysRules M N_3296 → 0 ≤ x1_3295 ∧ x1_3295 ≤ 162 → (162 - (x1_3295)).toNat = n_3298 → KJ true G X N_3296 2 [some (vR G 163), some (vI x1_3295), none, none] [] := by
    intro n_3298
    refine Nat.strongRecOn n_3298 ?_
    intro n_3298 ih_3299 x1_3295 N_3296 hI_N_3296 hF_N_3296 h_3300 hm_3301
    refine kx_iload_n 3 F 1 dX12_laysRules_2 rfl rfl rfl ?_
    refine kx_sipush 6 F dX12_laysRules_3 (by decide) rfl ?_
    refine kx_icmp_ge 9 F 22 dX12_laysRules_6 (by decide) rfl (by omega) (by decide) (fun h_3302 => ?_) (fun h_3302 => ?_)
    · refine kx_iconst 23 F dX12_laysRules_22 rfl ?_
      refine kx_istore_n 24 F 1 (lo' := [some (vR G 163), some (vI 0), none, none]) dX12_laysRules_23 rfl (by decide) rfl rfl rfl ?_
      have L_4526 : ∀ (n_4527 : Nat) (x1_4524 : Int) (N_4525 : Mem), Inv true N_4525 → Fr f_c_X12_laysRules M N_4525 → 0 ≤ x1_4524 ∧ x1_4524 ≤ 2 → (2 - (x1_4524)).toNat = n_4527 → KJ true G X N_4525 24 [some (vR G 163), some (vI x1_4524), none, none] [] := by
        intro n_4527
        refine Nat.strongRecOn n_4527 ?_
        intro n_4527 ih_4528 x1_4524 N_4525 hI_N_4525 hF_N_4525 h_4529 hm_4530
        refine kx_iload_n 25 F 1 dX12_laysRules_24 rfl rfl rfl ?_
        refine kx_aload_n 26 F 0 dX12_laysRules_25 rfl rfl rfl ?_
        refine kx_getr 29 F fl_X12_7 kd_163 rfl rfl (j := 0) rfl dX12_laysRules_26 (v := 164) (uq_164 (Inv.r hI_N_4525 kd_163 rfl 0 rfl rfl)) rfl ?_
        refine kx_iconst 30 F dX12_laysRules_29 rfl ?_
        refine kx_iald 31 F kd_164 rfl rfl (by omega) (by decide) dX12_laysRules_30 (v := (M 164 3)) (by rw [Fr.e hF_N_4525 kd_164 _ rfl]) rfl ?_
        have ha_4531 : atlo 3 = 0 ∧ athi 3 = 2 := at_c 3 0 (o := 3) (lo := 0) (hi := 2) (by omega) (by decide) (by decide) (by decide)
        have h_4532 := Inv.g hI_M kd_164 rfl 3 (a := 0) (b := 2) ha_4531.1 ha_4531.2
        refine kx_icmp_ge 34 F 126 dX12_laysRules_31 (by decide) rfl (by omega) (by omega) (fun h_4533 => ?_) (fun h_4533 => ?_)
        · refine kx_iconst 127 F dX12_laysRules_126 rfl ?_
          refine kx_istore_n 128 F 1 (lo' := [some (vR G 163), some (vI 0), none, none]) dX12_laysRules_127 rfl (by decide) rfl rfl rfl ?_
          have L_4676 : ∀ (n_4677 : Nat) (x1_4674 : Int) (N_4675 : Mem), Inv true N_4675 → Fr f_c_X12_laysRules M N_4675 → 0 ≤ x1_4674 ∧ x1_4674 ≤ 6 → (6 - (x1_4674)).toNat = n_4677 → KJ true G X N_4675 128 [some (vR G 163), some (vI x1_4674), none, none] [] := by
            intro n_4677
            refine Nat.strongRecOn n_4677 ?_
            intro n_4677 ih_4678 x1_4674 N_4675 hI_N_4675 hF_N_4675 h_4679 hm_4680
            refine kx_iload_n 129 F 1 dX12_laysRules_128 rfl rfl rfl ?_
            refine kx_aload_n 130 F 0 dX12_laysRules_129 rfl rfl rfl ?_
            refine kx_Vi 133 (ci := 0) F (As := []) (st := [vI x1_4674]) vd_X12_285 (c_X12_letters G l N_4675  hI_N_4675) kd_163 rfl rfl rfl ⟨by decide, by decide⟩ rfl rfl (Nat.le_of_ble_eq_true rfl) dX12_laysRules_130 rfl ?_
            intro r_4681 N_4682 q_4683
            obtain ⟨rfl, q_4683c⟩ := q_4683
            refine kx_icmp_ge 136 F 182 dX12_laysRules_133 (by decide) rfl (by omega) (by omega) (fun h_4684 => ?_) (fun h_4684 => ?_)
            · exact kx_vret F hQ ⟨hI_N_4675, hF_N_4675⟩ dX12_laysRules_182
            · refine kx_aload_n 137 F 0 dX12_laysRules_136 rfl rfl rfl ?_
              refine kx_getr 140 F fl_X12_44 kd_163 rfl rfl (j := 20) rfl dX12_laysRules_137 (v := 171) (uq_171 (Inv.r hI_N_4675 kd_163 rfl 20 rfl rfl)) rfl ?_
              refine kx_iconst 141 F dX12_laysRules_140 rfl ?_
              refine kx_iload_n 142 F 1 dX12_laysRules_141 rfl rfl rfl ?_
              refine kx_iconst 143 F dX12_laysRules_142 rfl ?_
              refine kx_iconst 144 F dX12_laysRules_143 rfl ?_
              refine kx_Si 147 F (As := [vI 2, vI x1_4674, vI 0, vI 0]) (st := [vR G 171]) sd_X12_319 (c_X12_placeOf G l N_4675 2 x1_4674 0 0 hI_N_4675 (by omega)) ⟨by decide, by decide⟩ rfl rfl (Nat.le_of_ble_eq_true rfl) dX12_laysRules_144 rfl ?_
              intro r_4685 N_4686 q_4687
              obtain ⟨rfl, q_4687c⟩ := q_4687
              refine kx_topi (e' := 9 * x1_4674 + 108) (by omega) ?_
              refine kx_aload_n 148 F 0 dX12_laysRules_147 rfl rfl rfl ?_
              refine kx_iload_n 149 F 1 dX12_laysRules_148 rfl rfl rfl ?_
              refine kx_Vi 152 (ci := 0) F (As := [vI x1_4674]) (st := [vI (9 * x1_4674 + 108), vR G 171]) vd_X12_297 (c_X12_sortNow G l N_4675 x1_4674 hI_N_4675 (by omega)) kd_163 rfl rfl rfl ⟨by decide, by decide⟩ rfl rfl (Nat.le_of_ble_eq_true rfl) dX12_laysRules_149 rfl ?_
              intro r_4688 N_4689 q_4690
              obtain ⟨rfl, q_4690c⟩ := q_4690
              have J_4702 : ∀ (y0_4701 : Int), 1 ≤ y0_4701 ∧ y0_4701 ≤ 9 → KJ true G X N_4675 175 [some (vR G 163), some (vI x1_4674), none, none] [vI y0_4701, vI (9 * x1_4674 + 108), vR G 171] := by
                intro y0_4701 h_4703
                refine kx_iast 176 F kd_171 rfl rfl (by omega) (by decide) dX12_laysRules_175 rfl ?_
                intro N_4704 hM_N_4704
                have hI_N_4704 : Inv true N_4704 := Inv.u hI_N_4675 hM_N_4704 kd_171 (a := 0) (b := 15) rfl rfl rfl (by omega)
                have hF_N_4704 : Fr f_c_X12_laysRules M N_4704 := Fr.u hF_N_4675 hM_N_4704 kd_171 rfl
                refine kx_iinc 179 F 1 (v := x1_4674 + 1) (lo' := [some (vR G 163), some (vI (x1_4674 + 1)), none, none]) dX12_laysRules_176 rfl (by omega) (by decide) rfl rfl rfl ?_
                refine kx_goto 128 F dX12_laysRules_179 (by decide) ?_
                exact ih_4678 _ (by omega) (x1_4674 + 1) N_4704 hI_N_4704 hF_N_4704 (by omega) rfl
              refine kx_if_ne 155 F 159 dX12_laysRules_152 (by decide) rfl (by omega) (fun h_4705 => ?_) (fun h_4705 => ?_)
              · refine kx_aload_n 160 F 0 dX12_laysRules_159 rfl rfl rfl ?_
                refine kx_iload_n 161 F 1 dX12_laysRules_160 rfl rfl rfl ?_
                refine kx_Vi 164 (ci := 0) F (As := [vI x1_4674]) (st := [vI (9 * x1_4674 + 108), vR G 171]) vd_X12_297 (c_X12_sortNow G l N_4675 x1_4674 hI_N_4675 (by omega)) kd_163 rfl rfl rfl ⟨by decide, by decide⟩ rfl rfl (Nat.le_of_ble_eq_true rfl) dX12_laysRules_161 rfl ?_
                intro r_4706 N_4707 q_4708
                obtain ⟨rfl, q_4708c⟩ := q_4708
                refine kx_iconst 165 F dX12_laysRules_164 rfl ?_
                refine kx_icmp_ne 168 F 173 dX12_laysRules_165 (by decide) rfl (by omega) (by decide) (fun h_4709 => ?_) (fun h_4709 => ?_)
                · refine kx_bipush 175 F dX12_laysRules_173 (by decide) rfl ?_
                  exact J_4702 8 (by omega)
                · refine kx_bipush 170 F dX12_laysRules_168 (by decide) rfl ?_
                  refine kx_goto 175 F dX12_laysRules_170 (by decide) ?_
                  exact J_4702 9 (by omega)
              · refine kx_iconst 156 F dX12_laysRules_155 rfl ?_
                refine kx_goto 175 F dX12_laysRules_156 (by decide) ?_
                exact J_4702 1 (by omega)
          exact L_4676 _ 0 N_4525 hI_N_4525 hF_N_4525 (by omega) rfl
        · refine kx_iconst 35 F dX12_laysRules_34 rfl ?_
          refine kx_istore_n 36 F 2 (lo' := [some (vR G 163), some (vI x1_4524), some (vI 0), none]) dX12_laysRules_35 rfl (by decide) rfl rfl rfl ?_
          have L_4915 : ∀ (n_4916 : Nat) (x2_4913 : Int) (N_4914 : Mem), Inv true N_4914 → Fr f_c_X12_laysRules M N_4914 → 0 ≤ x2_4913 ∧ x2_4913 ≤ 20 → (20 - (x2_4913)).toNat = n_4916 → KJ true G X N_4914 36 [some (vR G 163), some (vI x1_4524), some (vI x2_4913), none] [] := by
            intro n_4916
            refine Nat.strongRecOn n_4916 ?_
            intro n_4916 ih_4917 x2_4913 N_4914 hI_N_4914 hF_N_4914 h_4918 hm_4919
            refine kx_iload_n 37 F 2 dX12_laysRules_36 rfl rfl rfl ?_
            refine kx_aload_n 38 F 0 dX12_laysRules_37 rfl rfl rfl ?_
            refine kx_iload_n 39 F 1 dX12_laysRules_38 rfl rfl rfl ?_
            refine kx_iconst 40 F dX12_laysRules_39 rfl ?_
            refine kx_Vi 43 (ci := 0) F (As := [vI x1_4524, vI 4]) (st := [vI x2_4913]) vd_X12_288 (c_of4 G l N_4914 x1_4524 4 hI_N_4914 (by omega)) kd_163 rfl rfl rfl ⟨by decide, by decide⟩ rfl rfl (Nat.le_of_ble_eq_true rfl) dX12_laysRules_40 rfl ?_
            intro r_4920 N_4921 q_4922
            obtain ⟨rfl, q_4922c⟩ := q_4922
            have e_4923 : (N_4914 164 (85 * x1_4524 + 104)) = (M 164 (85 * x1_4524 + 104)) := by rw [Fr.e hF_N_4914 kd_164 _ rfl]
            rcases q_4922c with q_4922c | q_4922c
            · exfalso; omega
            · refine kx_icmp_ge 46 F 120 dX12_laysRules_43 (by decide) rfl (by omega) (by omega) (fun h_4925 => ?_) (fun h_4925 => ?_)
              · refine kx_iinc 123 F 1 (v := x1_4524 + 1) (lo' := [some (vR G 163), some (vI (x1_4524 + 1)), some (vI x2_4913), none]) dX12_laysRules_120 rfl (by omega) (by decide) rfl rfl rfl ?_
                refine kx_goto 24 F dX12_laysRules_123 (by decide) ?_
                refine kx_drop 2 (lo' := [some (vR G 163), some (vI (x1_4524 + 1)), none, none]) rfl ?_
                exact ih_4528 _ (by omega) (x1_4524 + 1) N_4914 hI_N_4914 hF_N_4914 (by omega) rfl
              · refine kx_iconst 47 F dX12_laysRules_46 rfl ?_
                refine kx_iload_n 48 F 1 dX12_laysRules_47 rfl rfl rfl ?_
                refine kx_iload_n 49 F 2 dX12_laysRules_48 rfl rfl rfl ?_
                refine kx_Si 52 F (As := [vI 0, vI x1_4524, vI x2_4913]) (st := []) sd_X12_243 (c_X12_ruleRow G l N_4914 0 x1_4524 x2_4913 hI_N_4914 (by omega)) ⟨by decide, by decide⟩ rfl rfl (Nat.le_of_ble_eq_true rfl) dX12_laysRules_49 rfl ?_
                intro r_4926 N_4927 q_4928
                obtain ⟨rfl, q_4928c⟩ := q_4928
                refine kx_topi (e' := 85 * x1_4524 + 4 * x2_4913 + 105) (by omega) ?_
                refine kx_istore_n 53 F 3 (lo' := [some (vR G 163), some (vI x1_4524), some (vI x2_4913), some (vI (85 * x1_4524 + 4 * x2_4913 + 105))]) dX12_laysRules_52 rfl (by decide) rfl rfl rfl ?_
                refine kx_aload_n 54 F 0 dX12_laysRules_53 rfl rfl rfl ?_
                refine kx_getr 57 F fl_X12_44 kd_163 rfl rfl (j := 20) rfl dX12_laysRules_54 (v := 171) (uq_171 (Inv.r hI_N_4914 kd_163 rfl 20 rfl rfl)) rfl ?_
                refine kx_iload_n 58 F 1 dX12_laysRules_57 rfl rfl rfl ?_
                refine kx_aload_n 59 F 0 dX12_laysRules_58 rfl rfl rfl ?_
                refine kx_getr 62 F fl_X12_7 kd_163 rfl rfl (j := 0) rfl dX12_laysRules_59 (v := 164) (uq_164 (Inv.r hI_N_4914 kd_163 rfl 0 rfl rfl)) rfl ?_
                refine kx_iload_n 63 F 3 dX12_laysRules_62 rfl rfl rfl ?_
                refine kx_iald 64 F kd_164 rfl rfl (by omega) (by decide) dX12_laysRules_63 (v := (M 164 (85 * x1_4524 + 4 * x2_4913 + 105))) (by rw [Fr.e hF_N_4914 kd_164 _ rfl]) rfl ?_
                have ha_4929 : atlo (85 * x1_4524 + 4 * x2_4913 + 105) = 0 ∧ athi (85 * x1_4524 + 4 * x2_4913 + 105) = 5 := at_r (85 * x1_4524 + 4 * x2_4913 + 105) 0 x1_4524 x2_4913 0 (by omega) (by omega) (by omega) (by decide)
                have h_4930 := Inv.g hI_M kd_164 rfl (85 * x1_4524 + 4 * x2_4913 + 105) (a := 0) (b := 5) ha_4929.1 ha_4929.2
                refine kx_aload_n 65 F 0 dX12_laysRules_64 rfl rfl rfl ?_
                refine kx_getr 68 F fl_X12_7 kd_163 rfl rfl (j := 0) rfl dX12_laysRules_65 (v := 164) (uq_164 (Inv.r hI_N_4914 kd_163 rfl 0 rfl rfl)) rfl ?_
                refine kx_iload_n 69 F 3 dX12_laysRules_68 rfl rfl rfl ?_
                refine kx_iconst 70 F dX12_laysRules_69 rfl ?_
                refine kx_iadd 71 F (v := 85 * x1_4524 + 4 * x2_4913 + 106) dX12_laysRules_70 (by omega) rfl ?_
                refine kx_iald 72 F kd_164 rfl rfl (by omega) (by decide) dX12_laysRules_71 (v := (M 164 (85 * x1_4524 + 4 * x2_4913 + 106))) (by rw [Fr.e hF_N_4914 kd_164 _ rfl]) rfl ?_
                have ha_4931 : atlo (85 * x1_4524 + 4 * x2_4913 + 106) = 0 ∧ athi (85 * x1_4524 + 4 * x2_4913 + 106) = 2 := at_r (85 * x1_4524 + 4 * x2_4913 + 106) 0 x1_4524 x2_4913 1 (by omega) (by omega) (by omega) (by decide)
                have h_4932 := Inv.g hI_M kd_164 rfl (85 * x1_4524 + 4 * x2_4913 + 106) (a := 0) (b := 2) ha_4931.1 ha_4931.2
                refine kx_aload_n 73 F 0 dX12_laysRules_72 rfl rfl rfl ?_
                refine kx_getr 76 F fl_X12_7 kd_163 rfl rfl (j := 0) rfl dX12_laysRules_73 (v := 164) (uq_164 (Inv.r hI_N_4914 kd_163 rfl 0 rfl rfl)) rfl ?_
                refine kx_iload_n 77 F 3 dX12_laysRules_76 rfl rfl rfl ?_
                refine kx_iconst 78 F dX12_laysRules_77 rfl ?_
                refine kx_iadd 79 F (v := 85 * x1_4524 + 4 * x2_4913 + 107) dX12_laysRules_78 (by omega) rfl ?_
                refine kx_iald 80 F kd_164 rfl rfl (by omega) (by decide) dX12_laysRules_79 (v := (M 164 (85 * x1_4524 + 4 * x2_4913 + 107))) (by rw [Fr.e hF_N_4914 kd_164 _ rfl]) rfl ?_
                have ha_4933 : atlo (85 * x1_4524 + 4 * x2_4913 + 107) = 0 ∧ athi (85 * x1_4524 + 4 * x2_4913 + 107) = 2 := at_r (85 * x1_4524 + 4 * x2_4913 + 107) 0 x1_4524 x2_4913 2 (by omega) (by omega) (by omega) (by decide)
                have h_4934 := Inv.g hI_M kd_164 rfl (85 * x1_4524 + 4 * x2_4913 + 107) (a := 0) (b := 2) ha_4933.1 ha_4933.2
                refine kx_Si 83 F (As := [vI x1_4524, vI (M 164 (85 * x1_4524 + 4 * x2_4913 + 105)), vI (M 164 (85 * x1_4524 + 4 * x2_4913 + 106)), vI (M 164 (85 * x1_4524 + 4 * x2_4913 + 107))]) (st := [vR G 171]) sd_X12_319 (c_X12_placeOf G l N_4914 x1_4524 (M 164 (85 * x1_4524 + 4 * x2_4913 + 105)) (M 164 (85 * x1_4524 + 4 * x2_4913 + 106)) (M 164 (85 * x1_4524 + 4 * x2_4913 + 107)) hI_N_4914 (by omega)) ⟨by decide, by decide⟩ rfl rfl (Nat.le_of_ble_eq_true rfl) dX12_laysRules_80 rfl ?_
                intro r_4935 N_4936 q_4937
                obtain ⟨rfl, q_4937c⟩ := q_4937
                refine kx_topi (e' := 54 * x1_4524 + 9 * (M 164 (85 * x1_4524 + 4 * x2_4913 + 105)) + 3 * (M 164 (85 * x1_4524 + 4 * x2_4913 + 106)) + (M 164 (85 * x1_4524 + 4 * x2_4913 + 107))) (by omega) ?_
                refine kx_dup2 84 F dX12_laysRules_83 rfl rfl rfl ?_
                refine kx_iald 85 F kd_171 rfl rfl (by omega) (by decide) dX12_laysRules_84 (v := (N_4914 171 (54 * x1_4524 + 9 * (M 164 (85 * x1_4524 + 4 * x2_4913 + 105)) + 3 * (M 164 (85 * x1_4524 + 4 * x2_4913 + 106)) + (M 164 (85 * x1_4524 + 4 * x2_4913 + 107))))) rfl rfl ?_
                have h_4938 := Inv.g hI_N_4914 kd_171 rfl (54 * x1_4524 + 9 * (M 164 (85 * x1_4524 + 4 * x2_4913 + 105)) + 3 * (M 164 (85 * x1_4524 + 4 * x2_4913 + 106)) + (M 164 (85 * x1_4524 + 4 * x2_4913 + 107))) (a := 0) (b := 15) rfl rfl
                refine kx_aload_n 86 F 0 dX12_laysRules_85 rfl rfl rfl ?_
                refine kx_getr 89 F fl_X12_7 kd_163 rfl rfl (j := 0) rfl dX12_laysRules_86 (v := 164) (uq_164 (Inv.r hI_N_4914 kd_163 rfl 0 rfl rfl)) rfl ?_
                refine kx_iload_n 90 F 3 dX12_laysRules_89 rfl rfl rfl ?_
                refine kx_iconst 91 F dX12_laysRules_90 rfl ?_
                refine kx_iadd 92 F (v := 85 * x1_4524 + 4 * x2_4913 + 108) dX12_laysRules_91 (by omega) rfl ?_
                refine kx_iald 93 F kd_164 rfl rfl (by omega) (by decide) dX12_laysRules_92 (v := (M 164 (85 * x1_4524 + 4 * x2_4913 + 108))) (by rw [Fr.e hF_N_4914 kd_164 _ rfl]) rfl ?_
                have ha_4939 : atlo (85 * x1_4524 + 4 * x2_4913 + 108) = (-1) ∧ athi (85 * x1_4524 + 4 * x2_4913 + 108) = 2 := at_r (85 * x1_4524 + 4 * x2_4913 + 108) 0 x1_4524 x2_4913 3 (by omega) (by omega) (by omega) (by decide)
                have h_4940 := Inv.g hI_M kd_164 rfl (85 * x1_4524 + 4 * x2_4913 + 108) (a := (-1)) (b := 2) ha_4939.1 ha_4939.2
                refine kx_iconst 94 F dX12_laysRules_93 rfl ?_
                have J_4946 : ∀ (y0_4945 : Int), 1 ≤ y0_4945 ∧ y0_4945 ≤ 8 → KJ true G X N_4914 112 [some (vR G 163), some (vI x1_4524), some (vI x2_4913), none] [vI y0_4945, vI (N_4914 171 (54 * x1_4524 + 9 * (M 164 (85 * x1_4524 + 4 * x2_4913 + 105)) + 3 * (M 164 (85 * x1_4524 + 4 * x2_4913 + 106)) + (M 164 (85 * x1_4524 + 4 * x2_4913 + 107)))), vI (54 * x1_4524 + 9 * (M 164 (85 * x1_4524 + 4 * x2_4913 + 105)) + 3 * (M 164 (85 * x1_4524 + 4 * x2_4913 + 106)) + (M 164 (85 * x1_4524 + 4 * x2_4913 + 107))), vR G 171] := by
                  intro y0_4945 h_4947
                  refine kx_ior 113 F (v := (zor (N_4914 171 (54 * x1_4524 + 9 * (M 164 (85 * x1_4524 + 4 * x2_4913 + 105)) + 3 * (M 164 (85 * x1_4524 + 4 * x2_4913 + 106)) + (M 164 (85 * x1_4524 + 4 * x2_4913 + 107)))) y0_4945)) dX12_laysRules_112 rfl rfl ?_
                  have h_4948 : 0 ≤ (zor (N_4914 171 (54 * x1_4524 + 9 * (M 164 (85 * x1_4524 + 4 * x2_4913 + 105)) + 3 * (M 164 (85 * x1_4524 + 4 * x2_4913 + 106)) + (M 164 (85 * x1_4524 + 4 * x2_4913 + 107)))) y0_4945) ∧ (zor (N_4914 171 (54 * x1_4524 + 9 * (M 164 (85 * x1_4524 + 4 * x2_4913 + 105)) + 3 * (M 164 (85 * x1_4524 + 4 * x2_4913 + 106)) + (M 164 (85 * x1_4524 + 4 * x2_4913 + 107)))) y0_4945) < 16 := zor_lt (a := (N_4914 171 (54 * x1_4524 + 9 * (M 164 (85 * x1_4524 + 4 * x2_4913 + 105)) + 3 * (M 164 (85 * x1_4524 + 4 * x2_4913 + 106)) + (M 164 (85 * x1_4524 + 4 * x2_4913 + 107))))) (b := y0_4945) 4 (by decide) (by omega) (by omega)
                  refine kx_iast 114 F kd_171 rfl rfl (by omega) (by decide) dX12_laysRules_113 rfl ?_
                  intro N_4949 hM_N_4949
                  have hI_N_4949 : Inv true N_4949 := Inv.u hI_N_4914 hM_N_4949 kd_171 (a := 0) (b := 15) rfl rfl rfl (by omega)
                  have hF_N_4949 : Fr f_c_X12_laysRules M N_4949 := Fr.u hF_N_4914 hM_N_4949 kd_171 rfl
                  refine kx_iinc 117 F 2 (v := x2_4913 + 1) (lo' := [some (vR G 163), some (vI x1_4524), some (vI (x2_4913 + 1)), none]) dX12_laysRules_114 rfl (by omega) (by decide) rfl rfl rfl ?_
                  refine kx_goto 36 F dX12_laysRules_117 (by decide) ?_
                  exact ih_4917 _ (by omega) (x2_4913 + 1) N_4949 hI_N_4949 hF_N_4949 (by omega) rfl
                refine kx_icmp_ne 97 F 102 dX12_laysRules_94 (by decide) rfl (by omega) (by decide) (fun h_4950 => ?_) (fun h_4950 => ?_)
                · refine kx_iconst 103 F dX12_laysRules_102 rfl ?_
                  refine kx_aload_n 104 F 0 dX12_laysRules_103 rfl rfl rfl ?_
                  refine kx_getr 107 F fl_X12_7 kd_163 rfl rfl (j := 0) rfl dX12_laysRules_104 (v := 164) (uq_164 (Inv.r hI_N_4914 kd_163 rfl 0 rfl rfl)) rfl ?_
                  refine kx_iload_n 108 F 3 dX12_laysRules_107 rfl rfl rfl ?_
                  refine kx_iconst 109 F dX12_laysRules_108 rfl ?_
                  refine kx_iadd 110 F (v := 85 * x1_4524 + 4 * x2_4913 + 108) dX12_laysRules_109 (by omega) rfl ?_
                  refine kx_iald 111 F kd_164 rfl rfl (by omega) (by decide) dX12_laysRules_110 (v := (M 164 (85 * x1_4524 + 4 * x2_4913 + 108))) (by rw [Fr.e hF_N_4914 kd_164 _ rfl]) rfl ?_
                  refine kx_ishl 112 F (v := (zshl 1 (M 164 (85 * x1_4524 + 4 * x2_4913 + 108)))) dX12_laysRules_111 rfl rfl ?_
                  have h_4951 := zshl_1 (b := (M 164 (85 * x1_4524 + 4 * x2_4913 + 108))) 2 (by decide) (by omega)
                  refine kx_drop 3 (lo' := [some (vR G 163), some (vI x1_4524), some (vI x2_4913), none]) rfl ?_
                  exact J_4946 (zshl 1 (M 164 (85 * x1_4524 + 4 * x2_4913 + 108))) (by omega)
                · refine kx_bipush 99 F dX12_laysRules_97 (by decide) rfl ?_
                  refine kx_goto 112 F dX12_laysRules_99 (by decide) ?_
                  refine kx_drop 3 (lo' := [some (vR G 163), some (vI x1_4524), some (vI x2_4913), none]) rfl ?_
                  exact J_4946 8 (by omega)
          exact L_4915 _ 0 N_4525 hI_N_4525 hF_N_4525 (by omega) rfl
      exact L_4526 _ 0 N_3296 hI_N_3296 hF_N_3296 (by omega) rfl
    · refine kx_aload_n 10 F 0 dX12_laysRules_9 rfl rfl rfl ?_
      refine kx_getr 13 F fl_X12_44 kd_163 rfl rfl (j := 20) rfl dX12_laysRules_10 (v := 171) (uq_171 (Inv.r hI_N_3296 kd_163 rfl 20 rfl rfl)) rfl ?_
      refine kx_iload_n 14 F 1 dX12_laysRules_13 rfl rfl rfl ?_
      refine kx_iconst 15 F dX12_laysRules_14 rfl ?_
      refine kx_iast 16 F kd_171 rfl rfl (by omega) (by decide) dX12_laysRules_15 rfl ?_
      intro N_4952 hM_N_4952
      have hI_N_4952 : Inv true N_4952 := Inv.u hI_N_3296 hM_N_4952 kd_171 (a := 0) (b := 15) rfl rfl rfl (by omega)
      have hF_N_4952 : Fr f_c_X12_laysRules M N_4952 := Fr.u hF_N_3296 hM_N_4952 kd_171 rfl
      refine kx_iinc 19 F 1 (v := x1_3295 + 1) (lo' := [some (vR G 163), some (vI (x1_3295 + 1)), none, none]) dX12_laysRules_16 rfl (by omega) (by decide) rfl rfl rfl ?_
      refine kx_goto 2 F dX12_laysRules_19 (by decide) ?_
      exact ih_3299 _ (by omega) (x1_3295 + 1) N_4952 hI_N_4952 hF_N_4952 (by omega) rfl
  exact L_3297 _ 0 M hI_M hF_M (by omega) rfl
set_option maxRecDepth 100000 in
theorem dGR_24_c_750 : (decode cX12_isInTable 0 = .ok (.iload_n 1, 1)) ∧ (decode cX12_isInTable 1 = .ok (.ifCond .lt 15, 3)) ∧ (decode cX12_isInTable 4 = .ok (.iload_n 1, 1)) ∧ (decode cX12_isInTable 5 = .ok (.aload_n 0, 1)) ∧ (decode cX12_isInTable 6 = .ok (.getfield 403, 3)) ∧ (decode cX12_isInTable 9 = .ok (.if_icmp .ge 7, 3)) ∧ (decode cX12_isInTable 12 = .ok (.iconst 1, 1)) ∧ (decode cX12_isInTable 13 = .ok (.goto 4, 3)) ∧ (decode cX12_isInTable 16 = .ok (.iconst 0, 1)) ∧ (decode cX12_isInTable 17 = .ok (.ireturn, 1)) := by decide +kernel
theorem dX12_isInTable_0 : decode cX12_isInTable 0 = .ok (.iload_n 1, 1) := dGR_24_c_750.1
theorem dX12_isInTable_1 : decode cX12_isInTable 1 = .ok (.ifCond .lt 15, 3) := dGR_24_c_750.2.1
theorem dX12_isInTable_4 : decode cX12_isInTable 4 = .ok (.iload_n 1, 1) := dGR_24_c_750.2.2.1
theorem dX12_isInTable_5 : decode cX12_isInTable 5 = .ok (.aload_n 0, 1) := dGR_24_c_750.2.2.2.1
theorem dX12_isInTable_6 : decode cX12_isInTable 6 = .ok (.getfield 403, 3) := dGR_24_c_750.2.2.2.2.1
theorem dX12_isInTable_9 : decode cX12_isInTable 9 = .ok (.if_icmp .ge 7, 3) := dGR_24_c_750.2.2.2.2.2.1
theorem dX12_isInTable_12 : decode cX12_isInTable 12 = .ok (.iconst 1, 1) := dGR_24_c_750.2.2.2.2.2.2.1
theorem dX12_isInTable_13 : decode cX12_isInTable 13 = .ok (.goto 4, 3) := dGR_24_c_750.2.2.2.2.2.2.2.1
theorem dX12_isInTable_16 : decode cX12_isInTable 16 = .ok (.iconst 0, 1) := dGR_24_c_750.2.2.2.2.2.2.2.2.1
theorem dX12_isInTable_17 : decode cX12_isInTable 17 = .ok (.ireturn, 1) := dGR_24_c_750.2.2.2.2.2.2.2.2.2
set_option maxRecDepth 100000 in
theorem dGR_24_c_751 : (decode cX12_foundIn 0 = .ok (.iconst 0, 1)) ∧ (decode cX12_foundIn 1 = .ok (.istore_n 3, 1)) ∧ (decode cX12_foundIn 2 = .ok (.iload_n 3, 1)) ∧ (decode cX12_foundIn 3 = .ok (.aload_n 0, 1)) ∧ (decode cX12_foundIn 4 = .ok (.getfield 403, 3)) ∧ (decode cX12_foundIn 7 = .ok (.if_icmp .ge 31, 3)) ∧ (decode cX12_foundIn 10 = .ok (.aload_n 0, 1)) ∧ (decode cX12_foundIn 11 = .ok (.getfield 74, 3)) ∧ (decode cX12_foundIn 14 = .ok (.iload_n 3, 1)) ∧ (decode cX12_foundIn 15 = .ok (.iaload, 1)) ∧ (decode cX12_foundIn 16 = .ok (.iload_n 1, 1)) ∧ (decode cX12_foundIn 17 = .ok (.if_icmp .ne 15, 3)) := by decide +kernel
theorem dX12_foundIn_0 : decode cX12_foundIn 0 = .ok (.iconst 0, 1) := dGR_24_c_751.1
theorem dX12_foundIn_1 : decode cX12_foundIn 1 = .ok (.istore_n 3, 1) := dGR_24_c_751.2.1
theorem dX12_foundIn_2 : decode cX12_foundIn 2 = .ok (.iload_n 3, 1) := dGR_24_c_751.2.2.1
theorem dX12_foundIn_3 : decode cX12_foundIn 3 = .ok (.aload_n 0, 1) := dGR_24_c_751.2.2.2.1
theorem dX12_foundIn_4 : decode cX12_foundIn 4 = .ok (.getfield 403, 3) := dGR_24_c_751.2.2.2.2.1
theorem dX12_foundIn_7 : decode cX12_foundIn 7 = .ok (.if_icmp .ge 31, 3) := dGR_24_c_751.2.2.2.2.2.1
theorem dX12_foundIn_10 : decode cX12_foundIn 10 = .ok (.aload_n 0, 1) := dGR_24_c_751.2.2.2.2.2.2.1
theorem dX12_foundIn_11 : decode cX12_foundIn 11 = .ok (.getfield 74, 3) := dGR_24_c_751.2.2.2.2.2.2.2.1
theorem dX12_foundIn_14 : decode cX12_foundIn 14 = .ok (.iload_n 3, 1) := dGR_24_c_751.2.2.2.2.2.2.2.2.1
theorem dX12_foundIn_15 : decode cX12_foundIn 15 = .ok (.iaload, 1) := dGR_24_c_751.2.2.2.2.2.2.2.2.2.1
theorem dX12_foundIn_16 : decode cX12_foundIn 16 = .ok (.iload_n 1, 1) := dGR_24_c_751.2.2.2.2.2.2.2.2.2.2.1
theorem dX12_foundIn_17 : decode cX12_foundIn 17 = .ok (.if_icmp .ne 15, 3) := dGR_24_c_751.2.2.2.2.2.2.2.2.2.2.2
set_option maxRecDepth 100000 in
theorem dGR_24_c_752 : (decode cX12_foundIn 20 = .ok (.aload_n 0, 1)) ∧ (decode cX12_foundIn 21 = .ok (.getfield 77, 3)) ∧ (decode cX12_foundIn 24 = .ok (.iload_n 3, 1)) ∧ (decode cX12_foundIn 25 = .ok (.iaload, 1)) ∧ (decode cX12_foundIn 26 = .ok (.iload_n 2, 1)) ∧ (decode cX12_foundIn 27 = .ok (.if_icmp .ne 5, 3)) ∧ (decode cX12_foundIn 30 = .ok (.iload_n 3, 1)) ∧ (decode cX12_foundIn 31 = .ok (.ireturn, 1)) ∧ (decode cX12_foundIn 32 = .ok (.iinc 3 1, 3)) ∧ (decode cX12_foundIn 35 = .ok (.goto (-33), 3)) ∧ (decode cX12_foundIn 38 = .ok (.iconst (-1), 1)) ∧ (decode cX12_foundIn 39 = .ok (.ireturn, 1)) := by decide +kernel
theorem dX12_foundIn_20 : decode cX12_foundIn 20 = .ok (.aload_n 0, 1) := dGR_24_c_752.1
theorem dX12_foundIn_21 : decode cX12_foundIn 21 = .ok (.getfield 77, 3) := dGR_24_c_752.2.1
theorem dX12_foundIn_24 : decode cX12_foundIn 24 = .ok (.iload_n 3, 1) := dGR_24_c_752.2.2.1
theorem dX12_foundIn_25 : decode cX12_foundIn 25 = .ok (.iaload, 1) := dGR_24_c_752.2.2.2.1
theorem dX12_foundIn_26 : decode cX12_foundIn 26 = .ok (.iload_n 2, 1) := dGR_24_c_752.2.2.2.2.1
theorem dX12_foundIn_27 : decode cX12_foundIn 27 = .ok (.if_icmp .ne 5, 3) := dGR_24_c_752.2.2.2.2.2.1
theorem dX12_foundIn_30 : decode cX12_foundIn 30 = .ok (.iload_n 3, 1) := dGR_24_c_752.2.2.2.2.2.2.1
theorem dX12_foundIn_31 : decode cX12_foundIn 31 = .ok (.ireturn, 1) := dGR_24_c_752.2.2.2.2.2.2.2.1
theorem dX12_foundIn_32 : decode cX12_foundIn 32 = .ok (.iinc 3 1, 3) := dGR_24_c_752.2.2.2.2.2.2.2.2.1
theorem dX12_foundIn_35 : decode cX12_foundIn 35 = .ok (.goto (-33), 3) := dGR_24_c_752.2.2.2.2.2.2.2.2.2.1
theorem dX12_foundIn_38 : decode cX12_foundIn 38 = .ok (.iconst (-1), 1) := dGR_24_c_752.2.2.2.2.2.2.2.2.2.2.1
theorem dX12_foundIn_39 : decode cX12_foundIn 39 = .ok (.ireturn, 1) := dGR_24_c_752.2.2.2.2.2.2.2.2.2.2.2
set_option maxRecDepth 100000 in
theorem dGR_24_c_753 : (decode cX12_putsIn 0 = .ok (.aload_n 0, 1)) ∧ (decode cX12_putsIn 1 = .ok (.getfield 403, 3)) ∧ (decode cX12_putsIn 4 = .ok (.bipush 40, 2)) ∧ (decode cX12_putsIn 6 = .ok (.if_icmp .gt 13, 3)) ∧ (decode cX12_putsIn 9 = .ok (.aload_n 0, 1)) ∧ (decode cX12_putsIn 10 = .ok (.iload_n 1, 1)) ∧ (decode cX12_putsIn 11 = .ok (.iload_n 2, 1)) ∧ (decode cX12_putsIn 12 = .ok (.invokevirtual 406, 3)) ∧ (decode cX12_putsIn 15 = .ok (.iconst (-1), 1)) ∧ (decode cX12_putsIn 16 = .ok (.if_icmp .eq 4, 3)) ∧ (decode cX12_putsIn 19 = .ok (.return_, 1)) ∧ (decode cX12_putsIn 20 = .ok (.aload_n 0, 1)) := by decide +kernel
theorem dX12_putsIn_0 : decode cX12_putsIn 0 = .ok (.aload_n 0, 1) := dGR_24_c_753.1
theorem dX12_putsIn_1 : decode cX12_putsIn 1 = .ok (.getfield 403, 3) := dGR_24_c_753.2.1
theorem dX12_putsIn_4 : decode cX12_putsIn 4 = .ok (.bipush 40, 2) := dGR_24_c_753.2.2.1
theorem dX12_putsIn_6 : decode cX12_putsIn 6 = .ok (.if_icmp .gt 13, 3) := dGR_24_c_753.2.2.2.1
theorem dX12_putsIn_9 : decode cX12_putsIn 9 = .ok (.aload_n 0, 1) := dGR_24_c_753.2.2.2.2.1
theorem dX12_putsIn_10 : decode cX12_putsIn 10 = .ok (.iload_n 1, 1) := dGR_24_c_753.2.2.2.2.2.1
theorem dX12_putsIn_11 : decode cX12_putsIn 11 = .ok (.iload_n 2, 1) := dGR_24_c_753.2.2.2.2.2.2.1
theorem dX12_putsIn_12 : decode cX12_putsIn 12 = .ok (.invokevirtual 406, 3) := dGR_24_c_753.2.2.2.2.2.2.2.1
theorem dX12_putsIn_15 : decode cX12_putsIn 15 = .ok (.iconst (-1), 1) := dGR_24_c_753.2.2.2.2.2.2.2.2.1
theorem dX12_putsIn_16 : decode cX12_putsIn 16 = .ok (.if_icmp .eq 4, 3) := dGR_24_c_753.2.2.2.2.2.2.2.2.2.1
theorem dX12_putsIn_19 : decode cX12_putsIn 19 = .ok (.return_, 1) := dGR_24_c_753.2.2.2.2.2.2.2.2.2.2.1
theorem dX12_putsIn_20 : decode cX12_putsIn 20 = .ok (.aload_n 0, 1) := dGR_24_c_753.2.2.2.2.2.2.2.2.2.2.2
set_option maxRecDepth 100000 in
theorem dGR_24_c_754 : (decode cX12_putsIn 21 = .ok (.getfield 74, 3)) ∧ (decode cX12_putsIn 24 = .ok (.aload_n 0, 1)) ∧ (decode cX12_putsIn 25 = .ok (.getfield 403, 3)) ∧ (decode cX12_putsIn 28 = .ok (.iload_n 1, 1)) ∧ (decode cX12_putsIn 29 = .ok (.iastore, 1)) ∧ (decode cX12_putsIn 30 = .ok (.aload_n 0, 1)) ∧ (decode cX12_putsIn 31 = .ok (.getfield 77, 3)) ∧ (decode cX12_putsIn 34 = .ok (.aload_n 0, 1)) ∧ (decode cX12_putsIn 35 = .ok (.getfield 403, 3)) ∧ (decode cX12_putsIn 38 = .ok (.iload_n 2, 1)) ∧ (decode cX12_putsIn 39 = .ok (.iastore, 1)) ∧ (decode cX12_putsIn 40 = .ok (.aload_n 0, 1)) := by decide +kernel
theorem dX12_putsIn_21 : decode cX12_putsIn 21 = .ok (.getfield 74, 3) := dGR_24_c_754.1
theorem dX12_putsIn_24 : decode cX12_putsIn 24 = .ok (.aload_n 0, 1) := dGR_24_c_754.2.1
theorem dX12_putsIn_25 : decode cX12_putsIn 25 = .ok (.getfield 403, 3) := dGR_24_c_754.2.2.1
theorem dX12_putsIn_28 : decode cX12_putsIn 28 = .ok (.iload_n 1, 1) := dGR_24_c_754.2.2.2.1
theorem dX12_putsIn_29 : decode cX12_putsIn 29 = .ok (.iastore, 1) := dGR_24_c_754.2.2.2.2.1
theorem dX12_putsIn_30 : decode cX12_putsIn 30 = .ok (.aload_n 0, 1) := dGR_24_c_754.2.2.2.2.2.1
theorem dX12_putsIn_31 : decode cX12_putsIn 31 = .ok (.getfield 77, 3) := dGR_24_c_754.2.2.2.2.2.2.1
theorem dX12_putsIn_34 : decode cX12_putsIn 34 = .ok (.aload_n 0, 1) := dGR_24_c_754.2.2.2.2.2.2.2.1
theorem dX12_putsIn_35 : decode cX12_putsIn 35 = .ok (.getfield 403, 3) := dGR_24_c_754.2.2.2.2.2.2.2.2.1
theorem dX12_putsIn_38 : decode cX12_putsIn 38 = .ok (.iload_n 2, 1) := dGR_24_c_754.2.2.2.2.2.2.2.2.2.1
theorem dX12_putsIn_39 : decode cX12_putsIn 39 = .ok (.iastore, 1) := dGR_24_c_754.2.2.2.2.2.2.2.2.2.2.1
theorem dX12_putsIn_40 : decode cX12_putsIn 40 = .ok (.aload_n 0, 1) := dGR_24_c_754.2.2.2.2.2.2.2.2.2.2.2
set_option maxRecDepth 100000 in
theorem dGR_24_c_755 : (decode cX12_putsIn 41 = .ok (.dup, 1)) ∧ (decode cX12_putsIn 42 = .ok (.getfield 403, 3)) ∧ (decode cX12_putsIn 45 = .ok (.iconst 1, 1)) ∧ (decode cX12_putsIn 46 = .ok (.iadd, 1)) ∧ (decode cX12_putsIn 47 = .ok (.putfield 403, 3)) ∧ (decode cX12_putsIn 50 = .ok (.return_, 1)) := by decide +kernel
theorem dX12_putsIn_41 : decode cX12_putsIn 41 = .ok (.dup, 1) := dGR_24_c_755.1
theorem dX12_putsIn_42 : decode cX12_putsIn 42 = .ok (.getfield 403, 3) := dGR_24_c_755.2.1
theorem dX12_putsIn_45 : decode cX12_putsIn 45 = .ok (.iconst 1, 1) := dGR_24_c_755.2.2.1
theorem dX12_putsIn_46 : decode cX12_putsIn 46 = .ok (.iadd, 1) := dGR_24_c_755.2.2.2.1
theorem dX12_putsIn_47 : decode cX12_putsIn 47 = .ok (.putfield 403, 3) := dGR_24_c_755.2.2.2.2.1
theorem dX12_putsIn_50 : decode cX12_putsIn 50 = .ok (.return_, 1) := dGR_24_c_755.2.2.2.2.2
set_option maxRecDepth 100000 in
theorem dGR_24_c_756 : (decode cX12_nextR 0 = .ok (.aload_n 0, 1)) ∧ (decode cX12_nextR 1 = .ok (.getfield 74, 3)) ∧ (decode cX12_nextR 4 = .ok (.iload_n 2, 1)) ∧ (decode cX12_nextR 5 = .ok (.iaload, 1)) ∧ (decode cX12_nextR 6 = .ok (.aload_n 0, 1)) ∧ (decode cX12_nextR 7 = .ok (.iload_n 1, 1)) ∧ (decode cX12_nextR 8 = .ok (.iload_n 3, 1)) ∧ (decode cX12_nextR 9 = .ok (.aload_n 0, 1)) ∧ (decode cX12_nextR 10 = .ok (.iload_n 3, 1)) ∧ (decode cX12_nextR 11 = .ok (.invokevirtual 297, 3)) ∧ (decode cX12_nextR 14 = .ok (.ifCond .ne 8, 3)) ∧ (decode cX12_nextR 17 = .ok (.bipush 7, 2)) := by decide +kernel
theorem dX12_nextR_0 : decode cX12_nextR 0 = .ok (.aload_n 0, 1) := dGR_24_c_756.1
theorem dX12_nextR_1 : decode cX12_nextR 1 = .ok (.getfield 74, 3) := dGR_24_c_756.2.1
theorem dX12_nextR_4 : decode cX12_nextR 4 = .ok (.iload_n 2, 1) := dGR_24_c_756.2.2.1
theorem dX12_nextR_5 : decode cX12_nextR 5 = .ok (.iaload, 1) := dGR_24_c_756.2.2.2.1
theorem dX12_nextR_6 : decode cX12_nextR 6 = .ok (.aload_n 0, 1) := dGR_24_c_756.2.2.2.2.1
theorem dX12_nextR_7 : decode cX12_nextR 7 = .ok (.iload_n 1, 1) := dGR_24_c_756.2.2.2.2.2.1
theorem dX12_nextR_8 : decode cX12_nextR 8 = .ok (.iload_n 3, 1) := dGR_24_c_756.2.2.2.2.2.2.1
theorem dX12_nextR_9 : decode cX12_nextR 9 = .ok (.aload_n 0, 1) := dGR_24_c_756.2.2.2.2.2.2.2.1
theorem dX12_nextR_10 : decode cX12_nextR 10 = .ok (.iload_n 3, 1) := dGR_24_c_756.2.2.2.2.2.2.2.2.1
theorem dX12_nextR_11 : decode cX12_nextR 11 = .ok (.invokevirtual 297, 3) := dGR_24_c_756.2.2.2.2.2.2.2.2.2.1
theorem dX12_nextR_14 : decode cX12_nextR 14 = .ok (.ifCond .ne 8, 3) := dGR_24_c_756.2.2.2.2.2.2.2.2.2.2.1
theorem dX12_nextR_17 : decode cX12_nextR 17 = .ok (.bipush 7, 2) := dGR_24_c_756.2.2.2.2.2.2.2.2.2.2.2
set_option maxRecDepth 100000 in
theorem dGR_24_c_757 : (decode cX12_nextR 19 = .ok (.goto 5, 3)) ∧ (decode cX12_nextR 22 = .ok (.bipush 8, 2)) ∧ (decode cX12_nextR 24 = .ok (.invokevirtual 323, 3)) ∧ (decode cX12_nextR 27 = .ok (.invokestatic 332, 3)) ∧ (decode cX12_nextR 30 = .ok (.ireturn, 1)) := by decide +kernel
theorem dX12_nextR_19 : decode cX12_nextR 19 = .ok (.goto 5, 3) := dGR_24_c_757.1
theorem dX12_nextR_22 : decode cX12_nextR 22 = .ok (.bipush 8, 2) := dGR_24_c_757.2.1
theorem dX12_nextR_24 : decode cX12_nextR 24 = .ok (.invokevirtual 323, 3) := dGR_24_c_757.2.2.1
theorem dX12_nextR_27 : decode cX12_nextR 27 = .ok (.invokestatic 332, 3) := dGR_24_c_757.2.2.2.1
theorem dX12_nextR_30 : decode cX12_nextR 30 = .ok (.ireturn, 1) := dGR_24_c_757.2.2.2.2
set_option maxHeartbeats 4000000 in
set_option maxRecDepth 100000 in
theorem c_X12_nextR (G : KG) (l : Launch) (M : Mem) (a1 : Int) (a2 : Int) (a3 : Int) (hI_M : Inv true M) (hpre : -2147483648 ≤ a1 ∧ a1 ≤ 2147483647 ∧ -2147483648 ≤ a2 ∧ a2 ≤ 2147483647 ∧ -2147483648 ≤ a3 ∧ a3 ≤ 2147483647 ∧ 0 ≤ a1 ∧ a1 ≤ 2 ∧ 0 ≤ a2 ∧ a2 ≤ 40 ∧ 0 ≤ a3 ∧ a3 ≤ 5) : KC true G l yX12_nextR cX12_nextR 4 (some .int) (2, 49) [vR G 163, vI a1, vI a2, vI a3] M (fun A => kQi true G A (fun (r : Int) (N : Mem) => M = N ∧ (0 ≤ r ∧ r ≤ 7))) := by
  refine kx_met (lo := [some (vR G 163), some (vI a1), some (vI a2), some (vI a3)]) (by decide) (Nat.le_of_ble_eq_true rfl) rfl ?_
  intro X F hQ
  refine kx_aload_n 1 F 0 dX12_nextR_0 rfl rfl rfl ?_
  refine kx_getr 4 F fl_X12_74 kd_163 rfl rfl (j := 33) rfl dX12_nextR_1 (v := 181) (uq_181 (Inv.r hI_M kd_163 rfl 33 rfl rfl)) rfl ?_
  refine kx_iload_n 5 F 2 dX12_nextR_4 rfl rfl rfl ?_
  refine kx_iald 6 F kd_181 rfl rfl (by omega) (by decide) dX12_nextR_5 (v := (M 181 a2)) rfl rfl ?_
  have h_1 := Inv.g hI_M kd_181 rfl a2 (a := 0) (b := 7) rfl rfl
  refine kx_aload_n 7 F 0 dX12_nextR_6 rfl rfl rfl ?_
  refine kx_iload_n 8 F 1 dX12_nextR_7 rfl rfl rfl ?_
  refine kx_iload_n 9 F 3 dX12_nextR_8 rfl rfl rfl ?_
  refine kx_aload_n 10 F 0 dX12_nextR_9 rfl rfl rfl ?_
  refine kx_iload_n 11 F 3 dX12_nextR_10 rfl rfl rfl ?_
  refine kx_Vi 14 (ci := 0) F (As := [vI a3]) (st := [vI a3, vI a1, vR G 163, vI (M 181 a2)]) vd_X12_297 (c_X12_sortNow G l M a3 hI_M (by omega)) kd_163 rfl rfl rfl ⟨by decide, by decide⟩ rfl rfl (Nat.le_of_ble_eq_true rfl) dX12_nextR_11 rfl ?_
  intro r_2 N_3 q_4
  obtain ⟨rfl, q_4c⟩ := q_4
  have J_8 : ∀ (y0_7 : Int), 7 ≤ y0_7 ∧ y0_7 ≤ 8 → KJ true G X M 24 [none, none, none, none] [vI y0_7, vI a3, vI a1, vR G 163, vI (M 181 a2)] := by
    intro y0_7 h_9
    refine kx_Vi 27 (ci := 0) F (As := [vI a1, vI a3, vI y0_7]) (st := [vI (M 181 a2)]) vd_X12_323 (c_X12_leads G l M a1 a3 y0_7 hI_M (by omega)) kd_163 rfl rfl rfl ⟨by decide, by decide⟩ rfl rfl (Nat.le_of_ble_eq_true rfl) dX12_nextR_24 rfl ?_
    intro r_10 N_11 q_12
    obtain ⟨rfl, q_12c⟩ := q_12
    refine kx_Si 30 F (As := [vI (M 181 a2), vI r_10]) (st := []) sd_X12_332 (c_X12_image G l M (M 181 a2) r_10 hI_M (by omega)) ⟨by decide, by decide⟩ rfl rfl (Nat.le_of_ble_eq_true rfl) dX12_nextR_27 rfl ?_
    intro r_13 N_14 q_15
    obtain ⟨rfl, q_15c⟩ := q_15
    exact kx_iret F hQ ⟨rfl, (by omega)⟩ dX12_nextR_30
  refine kx_if_ne 17 F 22 dX12_nextR_14 (by decide) rfl (by omega) (fun h_16 => ?_) (fun h_16 => ?_)
  · refine kx_bipush 24 F dX12_nextR_22 (by decide) rfl ?_
    refine kx_drop 0 (lo' := [none, some (vI a1), some (vI a2), some (vI a3)]) rfl ?_
    refine kx_drop 1 (lo' := [none, none, some (vI a2), some (vI a3)]) rfl ?_
    refine kx_drop 2 (lo' := [none, none, none, some (vI a3)]) rfl ?_
    refine kx_drop 3 (lo' := [none, none, none, none]) rfl ?_
    exact J_8 8 (by omega)
  · refine kx_bipush 19 F dX12_nextR_17 (by decide) rfl ?_
    refine kx_goto 24 F dX12_nextR_19 (by decide) ?_
    refine kx_drop 0 (lo' := [none, some (vI a1), some (vI a2), some (vI a3)]) rfl ?_
    refine kx_drop 1 (lo' := [none, none, some (vI a2), some (vI a3)]) rfl ?_
    refine kx_drop 2 (lo' := [none, none, none, some (vI a3)]) rfl ?_
    refine kx_drop 3 (lo' := [none, none, none, none]) rfl ?_
    exact J_8 7 (by omega)
set_option maxRecDepth 100000 in
theorem dGR_24_c_758 : (decode cX12_nextS 0 = .ok (.aload_n 0, 1)) ∧ (decode cX12_nextS 1 = .ok (.iload_n 3, 1)) ∧ (decode cX12_nextS 2 = .ok (.invokevirtual 297, 3)) ∧ (decode cX12_nextS 5 = .ok (.ifCond .ne 11, 3)) ∧ (decode cX12_nextS 8 = .ok (.aload_n 0, 1)) ∧ (decode cX12_nextS 9 = .ok (.iload_n 1, 1)) ∧ (decode cX12_nextS 10 = .ok (.invokevirtual 329, 3)) ∧ (decode cX12_nextS 13 = .ok (.goto 20, 3)) ∧ (decode cX12_nextS 16 = .ok (.aload_n 0, 1)) ∧ (decode cX12_nextS 17 = .ok (.getfield 77, 3)) ∧ (decode cX12_nextS 20 = .ok (.iload_n 2, 1)) ∧ (decode cX12_nextS 21 = .ok (.iaload, 1)) := by decide +kernel
theorem dX12_nextS_0 : decode cX12_nextS 0 = .ok (.aload_n 0, 1) := dGR_24_c_758.1
theorem dX12_nextS_1 : decode cX12_nextS 1 = .ok (.iload_n 3, 1) := dGR_24_c_758.2.1
theorem dX12_nextS_2 : decode cX12_nextS 2 = .ok (.invokevirtual 297, 3) := dGR_24_c_758.2.2.1
theorem dX12_nextS_5 : decode cX12_nextS 5 = .ok (.ifCond .ne 11, 3) := dGR_24_c_758.2.2.2.1
theorem dX12_nextS_8 : decode cX12_nextS 8 = .ok (.aload_n 0, 1) := dGR_24_c_758.2.2.2.2.1
theorem dX12_nextS_9 : decode cX12_nextS 9 = .ok (.iload_n 1, 1) := dGR_24_c_758.2.2.2.2.2.1
theorem dX12_nextS_10 : decode cX12_nextS 10 = .ok (.invokevirtual 329, 3) := dGR_24_c_758.2.2.2.2.2.2.1
theorem dX12_nextS_13 : decode cX12_nextS 13 = .ok (.goto 20, 3) := dGR_24_c_758.2.2.2.2.2.2.2.1
theorem dX12_nextS_16 : decode cX12_nextS 16 = .ok (.aload_n 0, 1) := dGR_24_c_758.2.2.2.2.2.2.2.2.1
theorem dX12_nextS_17 : decode cX12_nextS 17 = .ok (.getfield 77, 3) := dGR_24_c_758.2.2.2.2.2.2.2.2.2.1
theorem dX12_nextS_20 : decode cX12_nextS 20 = .ok (.iload_n 2, 1) := dGR_24_c_758.2.2.2.2.2.2.2.2.2.2.1
theorem dX12_nextS_21 : decode cX12_nextS 21 = .ok (.iaload, 1) := dGR_24_c_758.2.2.2.2.2.2.2.2.2.2.2
set_option maxRecDepth 100000 in
theorem dGR_24_c_759 : (decode cX12_nextS 22 = .ok (.aload_n 0, 1)) ∧ (decode cX12_nextS 23 = .ok (.iload_n 1, 1)) ∧ (decode cX12_nextS 24 = .ok (.iload_n 3, 1)) ∧ (decode cX12_nextS 25 = .ok (.bipush 8, 2)) ∧ (decode cX12_nextS 27 = .ok (.invokevirtual 323, 3)) ∧ (decode cX12_nextS 30 = .ok (.invokestatic 326, 3)) ∧ (decode cX12_nextS 33 = .ok (.ireturn, 1)) := by decide +kernel
theorem dX12_nextS_22 : decode cX12_nextS 22 = .ok (.aload_n 0, 1) := dGR_24_c_759.1
theorem dX12_nextS_23 : decode cX12_nextS 23 = .ok (.iload_n 1, 1) := dGR_24_c_759.2.1
theorem dX12_nextS_24 : decode cX12_nextS 24 = .ok (.iload_n 3, 1) := dGR_24_c_759.2.2.1
theorem dX12_nextS_25 : decode cX12_nextS 25 = .ok (.bipush 8, 2) := dGR_24_c_759.2.2.2.1
theorem dX12_nextS_27 : decode cX12_nextS 27 = .ok (.invokevirtual 323, 3) := dGR_24_c_759.2.2.2.2.1
theorem dX12_nextS_30 : decode cX12_nextS 30 = .ok (.invokestatic 326, 3) := dGR_24_c_759.2.2.2.2.2.1
theorem dX12_nextS_33 : decode cX12_nextS 33 = .ok (.ireturn, 1) := dGR_24_c_759.2.2.2.2.2.2
set_option maxRecDepth 100000 in
theorem dGR_24_c_760 : (decode cX12_putsBack 0 = .ok (.aload_n 0, 1)) ∧ (decode cX12_putsBack 1 = .ok (.iload_n 1, 1)) ∧ (decode cX12_putsBack 2 = .ok (.aload_n 0, 1)) ∧ (decode cX12_putsBack 3 = .ok (.getfield 77, 3)) ∧ (decode cX12_putsBack 6 = .ok (.iload_n 2, 1)) ∧ (decode cX12_putsBack 7 = .ok (.iaload, 1)) ∧ (decode cX12_putsBack 8 = .ok (.iload 5, 2)) ∧ (decode cX12_putsBack 10 = .ok (.iload_n 3, 1)) ∧ (decode cX12_putsBack 11 = .ok (.invokevirtual 335, 3)) ∧ (decode cX12_putsBack 14 = .ok (.istore 6, 2)) ∧ (decode cX12_putsBack 16 = .ok (.aload_n 0, 1)) ∧ (decode cX12_putsBack 17 = .ok (.aload_n 0, 1)) := by decide +kernel
theorem dX12_putsBack_0 : decode cX12_putsBack 0 = .ok (.aload_n 0, 1) := dGR_24_c_760.1
theorem dX12_putsBack_1 : decode cX12_putsBack 1 = .ok (.iload_n 1, 1) := dGR_24_c_760.2.1
theorem dX12_putsBack_2 : decode cX12_putsBack 2 = .ok (.aload_n 0, 1) := dGR_24_c_760.2.2.1
theorem dX12_putsBack_3 : decode cX12_putsBack 3 = .ok (.getfield 77, 3) := dGR_24_c_760.2.2.2.1
theorem dX12_putsBack_6 : decode cX12_putsBack 6 = .ok (.iload_n 2, 1) := dGR_24_c_760.2.2.2.2.1
theorem dX12_putsBack_7 : decode cX12_putsBack 7 = .ok (.iaload, 1) := dGR_24_c_760.2.2.2.2.2.1
theorem dX12_putsBack_8 : decode cX12_putsBack 8 = .ok (.iload 5, 2) := dGR_24_c_760.2.2.2.2.2.2.1
theorem dX12_putsBack_10 : decode cX12_putsBack 10 = .ok (.iload_n 3, 1) := dGR_24_c_760.2.2.2.2.2.2.2.1
theorem dX12_putsBack_11 : decode cX12_putsBack 11 = .ok (.invokevirtual 335, 3) := dGR_24_c_760.2.2.2.2.2.2.2.2.1
theorem dX12_putsBack_14 : decode cX12_putsBack 14 = .ok (.istore 6, 2) := dGR_24_c_760.2.2.2.2.2.2.2.2.2.1
theorem dX12_putsBack_16 : decode cX12_putsBack 16 = .ok (.aload_n 0, 1) := dGR_24_c_760.2.2.2.2.2.2.2.2.2.2.1
theorem dX12_putsBack_17 : decode cX12_putsBack 17 = .ok (.aload_n 0, 1) := dGR_24_c_760.2.2.2.2.2.2.2.2.2.2.2
set_option maxRecDepth 100000 in
theorem dGR_24_c_761 : (decode cX12_putsBack 18 = .ok (.getfield 74, 3)) ∧ (decode cX12_putsBack 21 = .ok (.iload 4, 2)) ∧ (decode cX12_putsBack 23 = .ok (.iaload, 1)) ∧ (decode cX12_putsBack 24 = .ok (.iload 6, 2)) ∧ (decode cX12_putsBack 26 = .ok (.invokestatic 332, 3)) ∧ (decode cX12_putsBack 29 = .ok (.aload_n 0, 1)) ∧ (decode cX12_putsBack 30 = .ok (.getfield 77, 3)) ∧ (decode cX12_putsBack 33 = .ok (.iload 4, 2)) ∧ (decode cX12_putsBack 35 = .ok (.iaload, 1)) ∧ (decode cX12_putsBack 36 = .ok (.iload 6, 2)) ∧ (decode cX12_putsBack 38 = .ok (.invokestatic 326, 3)) ∧ (decode cX12_putsBack 41 = .ok (.invokevirtual 409, 3)) := by decide +kernel
theorem dX12_putsBack_18 : decode cX12_putsBack 18 = .ok (.getfield 74, 3) := dGR_24_c_761.1
theorem dX12_putsBack_21 : decode cX12_putsBack 21 = .ok (.iload 4, 2) := dGR_24_c_761.2.1
theorem dX12_putsBack_23 : decode cX12_putsBack 23 = .ok (.iaload, 1) := dGR_24_c_761.2.2.1
theorem dX12_putsBack_24 : decode cX12_putsBack 24 = .ok (.iload 6, 2) := dGR_24_c_761.2.2.2.1
theorem dX12_putsBack_26 : decode cX12_putsBack 26 = .ok (.invokestatic 332, 3) := dGR_24_c_761.2.2.2.2.1
theorem dX12_putsBack_29 : decode cX12_putsBack 29 = .ok (.aload_n 0, 1) := dGR_24_c_761.2.2.2.2.2.1
theorem dX12_putsBack_30 : decode cX12_putsBack 30 = .ok (.getfield 77, 3) := dGR_24_c_761.2.2.2.2.2.2.1
theorem dX12_putsBack_33 : decode cX12_putsBack 33 = .ok (.iload 4, 2) := dGR_24_c_761.2.2.2.2.2.2.2.1
theorem dX12_putsBack_35 : decode cX12_putsBack 35 = .ok (.iaload, 1) := dGR_24_c_761.2.2.2.2.2.2.2.2.1
theorem dX12_putsBack_36 : decode cX12_putsBack 36 = .ok (.iload 6, 2) := dGR_24_c_761.2.2.2.2.2.2.2.2.2.1
theorem dX12_putsBack_38 : decode cX12_putsBack 38 = .ok (.invokestatic 326, 3) := dGR_24_c_761.2.2.2.2.2.2.2.2.2.2.1
theorem dX12_putsBack_41 : decode cX12_putsBack 41 = .ok (.invokevirtual 409, 3) := dGR_24_c_761.2.2.2.2.2.2.2.2.2.2.2
theorem dX12_putsBack_44 : decode cX12_putsBack 44 = .ok (.return_, 1) := by decide +kernel
set_option maxRecDepth 100000 in
theorem dGR_24_c_762 : (decode cX12_told 0 = .ok (.iload_n 1, 1)) ∧ (decode cX12_told 1 = .ok (.ifCond .lt 8, 3)) ∧ (decode cX12_told 4 = .ok (.iload_n 1, 1)) ∧ (decode cX12_told 5 = .ok (.iconst 3, 1)) ∧ (decode cX12_told 6 = .ok (.if_icmp .le 11, 3)) ∧ (decode cX12_told 9 = .ok (.aload_n 0, 1)) ∧ (decode cX12_told 10 = .ok (.iconst 1, 1)) ∧ (decode cX12_told 11 = .ok (.invokevirtual 123, 3)) ∧ (decode cX12_told 14 = .ok (.goto 13, 3)) ∧ (decode cX12_told 17 = .ok (.aload_n 0, 1)) ∧ (decode cX12_told 18 = .ok (.aload_n 0, 1)) ∧ (decode cX12_told 19 = .ok (.getfield 7, 3)) := by decide +kernel
theorem dX12_told_0 : decode cX12_told 0 = .ok (.iload_n 1, 1) := dGR_24_c_762.1
theorem dX12_told_1 : decode cX12_told 1 = .ok (.ifCond .lt 8, 3) := dGR_24_c_762.2.1
theorem dX12_told_4 : decode cX12_told 4 = .ok (.iload_n 1, 1) := dGR_24_c_762.2.2.1
theorem dX12_told_5 : decode cX12_told 5 = .ok (.iconst 3, 1) := dGR_24_c_762.2.2.2.1
theorem dX12_told_6 : decode cX12_told 6 = .ok (.if_icmp .le 11, 3) := dGR_24_c_762.2.2.2.2.1
theorem dX12_told_9 : decode cX12_told 9 = .ok (.aload_n 0, 1) := dGR_24_c_762.2.2.2.2.2.1
theorem dX12_told_10 : decode cX12_told 10 = .ok (.iconst 1, 1) := dGR_24_c_762.2.2.2.2.2.2.1
theorem dX12_told_11 : decode cX12_told 11 = .ok (.invokevirtual 123, 3) := dGR_24_c_762.2.2.2.2.2.2.2.1
theorem dX12_told_14 : decode cX12_told 14 = .ok (.goto 13, 3) := dGR_24_c_762.2.2.2.2.2.2.2.2.1
theorem dX12_told_17 : decode cX12_told 17 = .ok (.aload_n 0, 1) := dGR_24_c_762.2.2.2.2.2.2.2.2.2.1
theorem dX12_told_18 : decode cX12_told 18 = .ok (.aload_n 0, 1) := dGR_24_c_762.2.2.2.2.2.2.2.2.2.2.1
theorem dX12_told_19 : decode cX12_told 19 = .ok (.getfield 7, 3) := dGR_24_c_762.2.2.2.2.2.2.2.2.2.2.2
set_option maxRecDepth 100000 in
theorem dGR_24_c_763 : (decode cX12_told 22 = .ok (.iload_n 1, 1)) ∧ (decode cX12_told 23 = .ok (.iaload, 1)) ∧ (decode cX12_told 24 = .ok (.invokevirtual 127, 3)) ∧ (decode cX12_told 27 = .ok (.ireturn, 1)) := by decide +kernel
theorem dX12_told_22 : decode cX12_told 22 = .ok (.iload_n 1, 1) := dGR_24_c_763.1
theorem dX12_told_23 : decode cX12_told 23 = .ok (.iaload, 1) := dGR_24_c_763.2.1
theorem dX12_told_24 : decode cX12_told 24 = .ok (.invokevirtual 127, 3) := dGR_24_c_763.2.2.1
theorem dX12_told_27 : decode cX12_told 27 = .ok (.ireturn, 1) := dGR_24_c_763.2.2.2
set_option maxRecDepth 100000 in
theorem dGR_24_c_764 : (decode cX12_automaton 0 = .ok (.aload_n 0, 1)) ∧ (decode cX12_automaton 1 = .ok (.iload_n 1, 1)) ∧ (decode cX12_automaton 2 = .ok (.invokevirtual 282, 3)) ∧ (decode cX12_automaton 5 = .ok (.ifCond .eq 12, 3)) ∧ (decode cX12_automaton 8 = .ok (.iload_n 2, 1)) ∧ (decode cX12_automaton 9 = .ok (.ifCond .lt 8, 3)) ∧ (decode cX12_automaton 12 = .ok (.iload_n 2, 1)) ∧ (decode cX12_automaton 13 = .ok (.iconst 4, 1)) ∧ (decode cX12_automaton 14 = .ok (.if_icmp .le 11, 3)) ∧ (decode cX12_automaton 17 = .ok (.aload_n 0, 1)) ∧ (decode cX12_automaton 18 = .ok (.iconst 1, 1)) ∧ (decode cX12_automaton 19 = .ok (.invokevirtual 123, 3)) := by decide +kernel
theorem dX12_automaton_0 : decode cX12_automaton 0 = .ok (.aload_n 0, 1) := dGR_24_c_764.1
theorem dX12_automaton_1 : decode cX12_automaton 1 = .ok (.iload_n 1, 1) := dGR_24_c_764.2.1
theorem dX12_automaton_2 : decode cX12_automaton 2 = .ok (.invokevirtual 282, 3) := dGR_24_c_764.2.2.1
theorem dX12_automaton_5 : decode cX12_automaton 5 = .ok (.ifCond .eq 12, 3) := dGR_24_c_764.2.2.2.1
theorem dX12_automaton_8 : decode cX12_automaton 8 = .ok (.iload_n 2, 1) := dGR_24_c_764.2.2.2.2.1
theorem dX12_automaton_9 : decode cX12_automaton 9 = .ok (.ifCond .lt 8, 3) := dGR_24_c_764.2.2.2.2.2.1
theorem dX12_automaton_12 : decode cX12_automaton 12 = .ok (.iload_n 2, 1) := dGR_24_c_764.2.2.2.2.2.2.1
theorem dX12_automaton_13 : decode cX12_automaton 13 = .ok (.iconst 4, 1) := dGR_24_c_764.2.2.2.2.2.2.2.1
theorem dX12_automaton_14 : decode cX12_automaton 14 = .ok (.if_icmp .le 11, 3) := dGR_24_c_764.2.2.2.2.2.2.2.2.1
theorem dX12_automaton_17 : decode cX12_automaton 17 = .ok (.aload_n 0, 1) := dGR_24_c_764.2.2.2.2.2.2.2.2.2.1
theorem dX12_automaton_18 : decode cX12_automaton 18 = .ok (.iconst 1, 1) := dGR_24_c_764.2.2.2.2.2.2.2.2.2.2.1
theorem dX12_automaton_19 : decode cX12_automaton 19 = .ok (.invokevirtual 123, 3) := dGR_24_c_764.2.2.2.2.2.2.2.2.2.2.2
set_option maxRecDepth 100000 in
theorem dGR_24_c_765 : (decode cX12_automaton 22 = .ok (.goto 13, 3)) ∧ (decode cX12_automaton 25 = .ok (.aload_n 0, 1)) ∧ (decode cX12_automaton 26 = .ok (.aload_n 0, 1)) ∧ (decode cX12_automaton 27 = .ok (.iload_n 1, 1)) ∧ (decode cX12_automaton 28 = .ok (.iload_n 2, 1)) ∧ (decode cX12_automaton 29 = .ok (.invokevirtual 288, 3)) ∧ (decode cX12_automaton 32 = .ok (.invokevirtual 127, 3)) ∧ (decode cX12_automaton 35 = .ok (.ireturn, 1)) := by decide +kernel
theorem dX12_automaton_22 : decode cX12_automaton 22 = .ok (.goto 13, 3) := dGR_24_c_765.1
theorem dX12_automaton_25 : decode cX12_automaton 25 = .ok (.aload_n 0, 1) := dGR_24_c_765.2.1
theorem dX12_automaton_26 : decode cX12_automaton 26 = .ok (.aload_n 0, 1) := dGR_24_c_765.2.2.1
theorem dX12_automaton_27 : decode cX12_automaton 27 = .ok (.iload_n 1, 1) := dGR_24_c_765.2.2.2.1
theorem dX12_automaton_28 : decode cX12_automaton 28 = .ok (.iload_n 2, 1) := dGR_24_c_765.2.2.2.2.1
theorem dX12_automaton_29 : decode cX12_automaton 29 = .ok (.invokevirtual 288, 3) := dGR_24_c_765.2.2.2.2.2.1
theorem dX12_automaton_32 : decode cX12_automaton 32 = .ok (.invokevirtual 127, 3) := dGR_24_c_765.2.2.2.2.2.2.1
theorem dX12_automaton_35 : decode cX12_automaton 35 = .ok (.ireturn, 1) := dGR_24_c_765.2.2.2.2.2.2.2
set_option maxRecDepth 100000 in
theorem dGR_24_c_766 : (decode cX12_isRuleAt 0 = .ok (.aload_n 0, 1)) ∧ (decode cX12_isRuleAt 1 = .ok (.iload_n 1, 1)) ∧ (decode cX12_isRuleAt 2 = .ok (.invokevirtual 282, 3)) ∧ (decode cX12_isRuleAt 5 = .ok (.ifCond .eq 21, 3)) ∧ (decode cX12_isRuleAt 8 = .ok (.iload_n 2, 1)) ∧ (decode cX12_isRuleAt 9 = .ok (.ifCond .lt 17, 3)) ∧ (decode cX12_isRuleAt 12 = .ok (.iload_n 2, 1)) ∧ (decode cX12_isRuleAt 13 = .ok (.aload_n 0, 1)) ∧ (decode cX12_isRuleAt 14 = .ok (.iload_n 1, 1)) ∧ (decode cX12_isRuleAt 15 = .ok (.iconst 4, 1)) ∧ (decode cX12_isRuleAt 16 = .ok (.invokevirtual 288, 3)) ∧ (decode cX12_isRuleAt 19 = .ok (.if_icmp .ge 7, 3)) := by decide +kernel
theorem dX12_isRuleAt_0 : decode cX12_isRuleAt 0 = .ok (.aload_n 0, 1) := dGR_24_c_766.1
theorem dX12_isRuleAt_1 : decode cX12_isRuleAt 1 = .ok (.iload_n 1, 1) := dGR_24_c_766.2.1
theorem dX12_isRuleAt_2 : decode cX12_isRuleAt 2 = .ok (.invokevirtual 282, 3) := dGR_24_c_766.2.2.1
theorem dX12_isRuleAt_5 : decode cX12_isRuleAt 5 = .ok (.ifCond .eq 21, 3) := dGR_24_c_766.2.2.2.1
theorem dX12_isRuleAt_8 : decode cX12_isRuleAt 8 = .ok (.iload_n 2, 1) := dGR_24_c_766.2.2.2.2.1
theorem dX12_isRuleAt_9 : decode cX12_isRuleAt 9 = .ok (.ifCond .lt 17, 3) := dGR_24_c_766.2.2.2.2.2.1
theorem dX12_isRuleAt_12 : decode cX12_isRuleAt 12 = .ok (.iload_n 2, 1) := dGR_24_c_766.2.2.2.2.2.2.1
theorem dX12_isRuleAt_13 : decode cX12_isRuleAt 13 = .ok (.aload_n 0, 1) := dGR_24_c_766.2.2.2.2.2.2.2.1
theorem dX12_isRuleAt_14 : decode cX12_isRuleAt 14 = .ok (.iload_n 1, 1) := dGR_24_c_766.2.2.2.2.2.2.2.2.1
theorem dX12_isRuleAt_15 : decode cX12_isRuleAt 15 = .ok (.iconst 4, 1) := dGR_24_c_766.2.2.2.2.2.2.2.2.2.1
theorem dX12_isRuleAt_16 : decode cX12_isRuleAt 16 = .ok (.invokevirtual 288, 3) := dGR_24_c_766.2.2.2.2.2.2.2.2.2.2.1
theorem dX12_isRuleAt_19 : decode cX12_isRuleAt 19 = .ok (.if_icmp .ge 7, 3) := dGR_24_c_766.2.2.2.2.2.2.2.2.2.2.2
set_option maxRecDepth 100000 in
theorem dGR_24_c_767 : (decode cX12_isRuleAt 22 = .ok (.iconst 1, 1)) ∧ (decode cX12_isRuleAt 23 = .ok (.goto 4, 3)) ∧ (decode cX12_isRuleAt 26 = .ok (.iconst 0, 1)) ∧ (decode cX12_isRuleAt 27 = .ok (.ireturn, 1)) := by decide +kernel
theorem dX12_isRuleAt_22 : decode cX12_isRuleAt 22 = .ok (.iconst 1, 1) := dGR_24_c_767.1
theorem dX12_isRuleAt_23 : decode cX12_isRuleAt 23 = .ok (.goto 4, 3) := dGR_24_c_767.2.1
theorem dX12_isRuleAt_26 : decode cX12_isRuleAt 26 = .ok (.iconst 0, 1) := dGR_24_c_767.2.2.1
theorem dX12_isRuleAt_27 : decode cX12_isRuleAt 27 = .ok (.ireturn, 1) := dGR_24_c_767.2.2.2
set_option maxRecDepth 100000 in
theorem dGR_24_c_768 : (decode cX12_isSymbol 0 = .ok (.aload_n 0, 1)) ∧ (decode cX12_isSymbol 1 = .ok (.iload_n 2, 1)) ∧ (decode cX12_isSymbol 2 = .ok (.invokevirtual 297, 3)) ∧ (decode cX12_isSymbol 5 = .ok (.istore 4, 2)) ∧ (decode cX12_isSymbol 7 = .ok (.iload_n 3, 1)) ∧ (decode cX12_isSymbol 8 = .ok (.ifCond .lt 17, 3)) ∧ (decode cX12_isSymbol 11 = .ok (.iload_n 3, 1)) ∧ (decode cX12_isSymbol 12 = .ok (.aload_n 0, 1)) ∧ (decode cX12_isSymbol 13 = .ok (.iload_n 1, 1)) ∧ (decode cX12_isSymbol 14 = .ok (.iconst 1, 1)) ∧ (decode cX12_isSymbol 15 = .ok (.invokevirtual 288, 3)) ∧ (decode cX12_isSymbol 18 = .ok (.if_icmp .ge 7, 3)) := by decide +kernel
theorem dX12_isSymbol_0 : decode cX12_isSymbol 0 = .ok (.aload_n 0, 1) := dGR_24_c_768.1
theorem dX12_isSymbol_1 : decode cX12_isSymbol 1 = .ok (.iload_n 2, 1) := dGR_24_c_768.2.1
theorem dX12_isSymbol_2 : decode cX12_isSymbol 2 = .ok (.invokevirtual 297, 3) := dGR_24_c_768.2.2.1
theorem dX12_isSymbol_5 : decode cX12_isSymbol 5 = .ok (.istore 4, 2) := dGR_24_c_768.2.2.2.1
theorem dX12_isSymbol_7 : decode cX12_isSymbol 7 = .ok (.iload_n 3, 1) := dGR_24_c_768.2.2.2.2.1
theorem dX12_isSymbol_8 : decode cX12_isSymbol 8 = .ok (.ifCond .lt 17, 3) := dGR_24_c_768.2.2.2.2.2.1
theorem dX12_isSymbol_11 : decode cX12_isSymbol 11 = .ok (.iload_n 3, 1) := dGR_24_c_768.2.2.2.2.2.2.1
theorem dX12_isSymbol_12 : decode cX12_isSymbol 12 = .ok (.aload_n 0, 1) := dGR_24_c_768.2.2.2.2.2.2.2.1
theorem dX12_isSymbol_13 : decode cX12_isSymbol 13 = .ok (.iload_n 1, 1) := dGR_24_c_768.2.2.2.2.2.2.2.2.1
theorem dX12_isSymbol_14 : decode cX12_isSymbol 14 = .ok (.iconst 1, 1) := dGR_24_c_768.2.2.2.2.2.2.2.2.2.1
theorem dX12_isSymbol_15 : decode cX12_isSymbol 15 = .ok (.invokevirtual 288, 3) := dGR_24_c_768.2.2.2.2.2.2.2.2.2.2.1
theorem dX12_isSymbol_18 : decode cX12_isSymbol 18 = .ok (.if_icmp .ge 7, 3) := dGR_24_c_768.2.2.2.2.2.2.2.2.2.2.2
set_option maxRecDepth 100000 in
theorem dGR_24_c_769 : (decode cX12_isSymbol 21 = .ok (.iconst 1, 1)) ∧ (decode cX12_isSymbol 22 = .ok (.goto 4, 3)) ∧ (decode cX12_isSymbol 25 = .ok (.iconst 0, 1)) ∧ (decode cX12_isSymbol 26 = .ok (.istore 5, 2)) ∧ (decode cX12_isSymbol 28 = .ok (.iload 4, 2)) ∧ (decode cX12_isSymbol 30 = .ok (.ifCond .ne 8, 3)) ∧ (decode cX12_isSymbol 33 = .ok (.iload 5, 2)) ∧ (decode cX12_isSymbol 35 = .ok (.goto 24, 3)) ∧ (decode cX12_isSymbol 38 = .ok (.iload_n 3, 1)) ∧ (decode cX12_isSymbol 39 = .ok (.iconst (-1), 1)) ∧ (decode cX12_isSymbol 40 = .ok (.if_icmp .eq 14, 3)) ∧ (decode cX12_isSymbol 43 = .ok (.iload 4, 2)) := by decide +kernel
theorem dX12_isSymbol_21 : decode cX12_isSymbol 21 = .ok (.iconst 1, 1) := dGR_24_c_769.1
theorem dX12_isSymbol_22 : decode cX12_isSymbol 22 = .ok (.goto 4, 3) := dGR_24_c_769.2.1
theorem dX12_isSymbol_25 : decode cX12_isSymbol 25 = .ok (.iconst 0, 1) := dGR_24_c_769.2.2.1
theorem dX12_isSymbol_26 : decode cX12_isSymbol 26 = .ok (.istore 5, 2) := dGR_24_c_769.2.2.2.1
theorem dX12_isSymbol_28 : decode cX12_isSymbol 28 = .ok (.iload 4, 2) := dGR_24_c_769.2.2.2.2.1
theorem dX12_isSymbol_30 : decode cX12_isSymbol 30 = .ok (.ifCond .ne 8, 3) := dGR_24_c_769.2.2.2.2.2.1
theorem dX12_isSymbol_33 : decode cX12_isSymbol 33 = .ok (.iload 5, 2) := dGR_24_c_769.2.2.2.2.2.2.1
theorem dX12_isSymbol_35 : decode cX12_isSymbol 35 = .ok (.goto 24, 3) := dGR_24_c_769.2.2.2.2.2.2.2.1
theorem dX12_isSymbol_38 : decode cX12_isSymbol 38 = .ok (.iload_n 3, 1) := dGR_24_c_769.2.2.2.2.2.2.2.2.1
theorem dX12_isSymbol_39 : decode cX12_isSymbol 39 = .ok (.iconst (-1), 1) := dGR_24_c_769.2.2.2.2.2.2.2.2.2.1
theorem dX12_isSymbol_40 : decode cX12_isSymbol 40 = .ok (.if_icmp .eq 14, 3) := dGR_24_c_769.2.2.2.2.2.2.2.2.2.2.1
theorem dX12_isSymbol_43 : decode cX12_isSymbol 43 = .ok (.iload 4, 2) := dGR_24_c_769.2.2.2.2.2.2.2.2.2.2.2
set_option maxRecDepth 100000 in
theorem dGR_24_c_770 : (decode cX12_isSymbol 45 = .ok (.iconst 1, 1)) ∧ (decode cX12_isSymbol 46 = .ok (.if_icmp .ne 12, 3)) ∧ (decode cX12_isSymbol 49 = .ok (.iload 5, 2)) ∧ (decode cX12_isSymbol 51 = .ok (.ifCond .eq 7, 3)) ∧ (decode cX12_isSymbol 54 = .ok (.iconst 1, 1)) ∧ (decode cX12_isSymbol 55 = .ok (.goto 4, 3)) ∧ (decode cX12_isSymbol 58 = .ok (.iconst 0, 1)) ∧ (decode cX12_isSymbol 59 = .ok (.ireturn, 1)) := by decide +kernel
theorem dX12_isSymbol_45 : decode cX12_isSymbol 45 = .ok (.iconst 1, 1) := dGR_24_c_770.1
theorem dX12_isSymbol_46 : decode cX12_isSymbol 46 = .ok (.if_icmp .ne 12, 3) := dGR_24_c_770.2.1
theorem dX12_isSymbol_49 : decode cX12_isSymbol 49 = .ok (.iload 5, 2) := dGR_24_c_770.2.2.1
theorem dX12_isSymbol_51 : decode cX12_isSymbol 51 = .ok (.ifCond .eq 7, 3) := dGR_24_c_770.2.2.2.1
theorem dX12_isSymbol_54 : decode cX12_isSymbol 54 = .ok (.iconst 1, 1) := dGR_24_c_770.2.2.2.2.1
theorem dX12_isSymbol_55 : decode cX12_isSymbol 55 = .ok (.goto 4, 3) := dGR_24_c_770.2.2.2.2.2.1
theorem dX12_isSymbol_58 : decode cX12_isSymbol 58 = .ok (.iconst 0, 1) := dGR_24_c_770.2.2.2.2.2.2.1
theorem dX12_isSymbol_59 : decode cX12_isSymbol 59 = .ok (.ireturn, 1) := dGR_24_c_770.2.2.2.2.2.2.2
set_option maxRecDepth 100000 in
theorem dGR_24_c_771 : (decode cX12_letterAt 0 = .ok (.aload_n 0, 1)) ∧ (decode cX12_letterAt 1 = .ok (.getfield 27, 3)) ∧ (decode cX12_letterAt 4 = .ok (.bipush 60, 2)) ∧ (decode cX12_letterAt 6 = .ok (.iload_n 1, 1)) ∧ (decode cX12_letterAt 7 = .ok (.imul, 1)) ∧ (decode cX12_letterAt 8 = .ok (.iload_n 2, 1)) ∧ (decode cX12_letterAt 9 = .ok (.iadd, 1)) ∧ (decode cX12_letterAt 10 = .ok (.laload, 1)) ∧ (decode cX12_letterAt 11 = .ok (.l2i, 1)) ∧ (decode cX12_letterAt 12 = .ok (.ireturn, 1)) := by decide +kernel
theorem dX12_letterAt_0 : decode cX12_letterAt 0 = .ok (.aload_n 0, 1) := dGR_24_c_771.1
theorem dX12_letterAt_1 : decode cX12_letterAt 1 = .ok (.getfield 27, 3) := dGR_24_c_771.2.1
theorem dX12_letterAt_4 : decode cX12_letterAt 4 = .ok (.bipush 60, 2) := dGR_24_c_771.2.2.1
theorem dX12_letterAt_6 : decode cX12_letterAt 6 = .ok (.iload_n 1, 1) := dGR_24_c_771.2.2.2.1
theorem dX12_letterAt_7 : decode cX12_letterAt 7 = .ok (.imul, 1) := dGR_24_c_771.2.2.2.2.1
theorem dX12_letterAt_8 : decode cX12_letterAt 8 = .ok (.iload_n 2, 1) := dGR_24_c_771.2.2.2.2.2.1
theorem dX12_letterAt_9 : decode cX12_letterAt 9 = .ok (.iadd, 1) := dGR_24_c_771.2.2.2.2.2.2.1
theorem dX12_letterAt_10 : decode cX12_letterAt 10 = .ok (.laload, 1) := dGR_24_c_771.2.2.2.2.2.2.2.1
theorem dX12_letterAt_11 : decode cX12_letterAt 11 = .ok (.l2i, 1) := dGR_24_c_771.2.2.2.2.2.2.2.2.1
theorem dX12_letterAt_12 : decode cX12_letterAt 12 = .ok (.ireturn, 1) := dGR_24_c_771.2.2.2.2.2.2.2.2.2
set_option maxRecDepth 100000 in
theorem dGR_24_c_772 : (decode cX12_isWordCall 0 = .ok (.iload_n 1, 1)) ∧ (decode cX12_isWordCall 1 = .ok (.invokestatic 134, 3)) ∧ (decode cX12_isWordCall 4 = .ok (.ifCond .eq 19, 3)) ∧ (decode cX12_isWordCall 7 = .ok (.iload_n 2, 1)) ∧ (decode cX12_isWordCall 8 = .ok (.i2l, 1)) ∧ (decode cX12_isWordCall 9 = .ok (.lconst 0, 1)) ∧ (decode cX12_isWordCall 10 = .ok (.ldc2_w 356, 3)) ∧ (decode cX12_isWordCall 13 = .ok (.invokestatic 338, 3)) ∧ (decode cX12_isWordCall 16 = .ok (.ifCond .eq 7, 3)) ∧ (decode cX12_isWordCall 19 = .ok (.iconst 1, 1)) ∧ (decode cX12_isWordCall 20 = .ok (.goto 4, 3)) ∧ (decode cX12_isWordCall 23 = .ok (.iconst 0, 1)) := by decide +kernel
theorem dX12_isWordCall_0 : decode cX12_isWordCall 0 = .ok (.iload_n 1, 1) := dGR_24_c_772.1
theorem dX12_isWordCall_1 : decode cX12_isWordCall 1 = .ok (.invokestatic 134, 3) := dGR_24_c_772.2.1
theorem dX12_isWordCall_4 : decode cX12_isWordCall 4 = .ok (.ifCond .eq 19, 3) := dGR_24_c_772.2.2.1
theorem dX12_isWordCall_7 : decode cX12_isWordCall 7 = .ok (.iload_n 2, 1) := dGR_24_c_772.2.2.2.1
theorem dX12_isWordCall_8 : decode cX12_isWordCall 8 = .ok (.i2l, 1) := dGR_24_c_772.2.2.2.2.1
theorem dX12_isWordCall_9 : decode cX12_isWordCall 9 = .ok (.lconst 0, 1) := dGR_24_c_772.2.2.2.2.2.1
theorem dX12_isWordCall_10 : decode cX12_isWordCall 10 = .ok (.ldc2_w 356, 3) := dGR_24_c_772.2.2.2.2.2.2.1
theorem dX12_isWordCall_13 : decode cX12_isWordCall 13 = .ok (.invokestatic 338, 3) := dGR_24_c_772.2.2.2.2.2.2.2.1
theorem dX12_isWordCall_16 : decode cX12_isWordCall 16 = .ok (.ifCond .eq 7, 3) := dGR_24_c_772.2.2.2.2.2.2.2.2.1
theorem dX12_isWordCall_19 : decode cX12_isWordCall 19 = .ok (.iconst 1, 1) := dGR_24_c_772.2.2.2.2.2.2.2.2.2.1
theorem dX12_isWordCall_20 : decode cX12_isWordCall 20 = .ok (.goto 4, 3) := dGR_24_c_772.2.2.2.2.2.2.2.2.2.2.1
theorem dX12_isWordCall_23 : decode cX12_isWordCall 23 = .ok (.iconst 0, 1) := dGR_24_c_772.2.2.2.2.2.2.2.2.2.2.2
theorem dX12_isWordCall_24 : decode cX12_isWordCall 24 = .ok (.ireturn, 1) := by decide +kernel
set_option maxRecDepth 100000 in
theorem dGR_24_c_773 : (decode cX12_bits 0 = .ok (.iconst 0, 1)) ∧ (decode cX12_bits 1 = .ok (.istore_n 1, 1)) ∧ (decode cX12_bits 2 = .ok (.iload_n 0, 1)) ∧ (decode cX12_bits 3 = .ok (.istore_n 2, 1)) ∧ (decode cX12_bits 4 = .ok (.iload_n 2, 1)) ∧ (decode cX12_bits 5 = .ok (.ifCond .eq 15, 3)) ∧ (decode cX12_bits 8 = .ok (.iinc 1 1, 3)) ∧ (decode cX12_bits 11 = .ok (.iload_n 2, 1)) ∧ (decode cX12_bits 12 = .ok (.iload_n 2, 1)) ∧ (decode cX12_bits 13 = .ok (.iconst 1, 1)) ∧ (decode cX12_bits 14 = .ok (.isub, 1)) ∧ (decode cX12_bits 15 = .ok (.iand, 1)) := by decide +kernel
theorem dX12_bits_0 : decode cX12_bits 0 = .ok (.iconst 0, 1) := dGR_24_c_773.1
theorem dX12_bits_1 : decode cX12_bits 1 = .ok (.istore_n 1, 1) := dGR_24_c_773.2.1
theorem dX12_bits_2 : decode cX12_bits 2 = .ok (.iload_n 0, 1) := dGR_24_c_773.2.2.1
theorem dX12_bits_3 : decode cX12_bits 3 = .ok (.istore_n 2, 1) := dGR_24_c_773.2.2.2.1
theorem dX12_bits_4 : decode cX12_bits 4 = .ok (.iload_n 2, 1) := dGR_24_c_773.2.2.2.2.1
theorem dX12_bits_5 : decode cX12_bits 5 = .ok (.ifCond .eq 15, 3) := dGR_24_c_773.2.2.2.2.2.1
theorem dX12_bits_8 : decode cX12_bits 8 = .ok (.iinc 1 1, 3) := dGR_24_c_773.2.2.2.2.2.2.1
theorem dX12_bits_11 : decode cX12_bits 11 = .ok (.iload_n 2, 1) := dGR_24_c_773.2.2.2.2.2.2.2.1
theorem dX12_bits_12 : decode cX12_bits 12 = .ok (.iload_n 2, 1) := dGR_24_c_773.2.2.2.2.2.2.2.2.1
theorem dX12_bits_13 : decode cX12_bits 13 = .ok (.iconst 1, 1) := dGR_24_c_773.2.2.2.2.2.2.2.2.2.1
theorem dX12_bits_14 : decode cX12_bits 14 = .ok (.isub, 1) := dGR_24_c_773.2.2.2.2.2.2.2.2.2.2.1
theorem dX12_bits_15 : decode cX12_bits 15 = .ok (.iand, 1) := dGR_24_c_773.2.2.2.2.2.2.2.2.2.2.2
set_option maxRecDepth 100000 in
theorem dGR_24_c_774 : (decode cX12_bits 16 = .ok (.istore_n 2, 1)) ∧ (decode cX12_bits 17 = .ok (.goto (-13), 3)) ∧ (decode cX12_bits 20 = .ok (.iload_n 1, 1)) ∧ (decode cX12_bits 21 = .ok (.ireturn, 1)) := by decide +kernel
theorem dX12_bits_16 : decode cX12_bits 16 = .ok (.istore_n 2, 1) := dGR_24_c_774.1
theorem dX12_bits_17 : decode cX12_bits 17 = .ok (.goto (-13), 3) := dGR_24_c_774.2.1
theorem dX12_bits_20 : decode cX12_bits 20 = .ok (.iload_n 1, 1) := dGR_24_c_774.2.2.1
theorem dX12_bits_21 : decode cX12_bits 21 = .ok (.ireturn, 1) := dGR_24_c_774.2.2.2
set_option maxHeartbeats 4000000 in
set_option maxRecDepth 100000 in
theorem c_X12_bits (G : KG) (l : Launch) (M : Mem) (a0 : Int) (hI_M : Inv true M) (hpre : -2147483648 ≤ a0 ∧ a0 ≤ 2147483647 ∧ 0 ≤ a0 ∧ a0 ≤ 15) : KC true G l yX12_bits cX12_bits 3 (some .int) (0, 0) [vI a0] M (fun A => kQi true G A (fun (r : Int) (N : Mem) => M = N ∧ (0 ≤ r ∧ r ≤ 15))) := by
  refine kx_met (lo := [some (vI a0), none, none]) (by decide) (Nat.le_of_ble_eq_true rfl) rfl ?_
  intro X F hQ
  refine kx_iconst 1 F dX12_bits_0 rfl ?_
  refine kx_istore_n 2 F 1 (lo' := [some (vI a0), some (vI 0), none]) dX12_bits_1 rfl (by decide) rfl rfl rfl ?_
  refine kx_iload_n 3 F 0 dX12_bits_2 rfl rfl rfl ?_
  refine kx_istore_n 4 F 2 (lo' := [some (vI a0), some (vI 0), some (vI a0)]) dX12_bits_3 rfl (by decide) rfl rfl rfl ?_
  have L_7 : ∀ (n_8 : Nat) (x1_5 : Int) (x2_6 : Int), 0 ≤ x1_5 ∧ x1_5 ≤ 15 ∧ 0 ≤ x2_6 ∧ x2_6 ≤ 15 ∧ x1_5 + x2_6 ≤ 15 → (15 - (x1_5)).toNat = n_8 → KJ true G X M 4 [none, some (vI x1_5), some (vI x2_6)] [] := by
    intro n_8
    refine Nat.strongRecOn n_8 ?_
    intro n_8 ih_9 x1_5 x2_6 h_10 hm_11
    refine kx_iload_n 5 F 2 dX12_bits_4 rfl rfl rfl ?_
    refine kx_if_eq 8 F 20 dX12_bits_5 (by decide) rfl (by omega) (fun h_12 => ?_) (fun h_12 => ?_)
    · refine kx_iload_n 21 F 1 dX12_bits_20 rfl rfl rfl ?_
      exact kx_iret F hQ ⟨rfl, (by omega)⟩ dX12_bits_21
    · refine kx_iinc 11 F 1 (v := x1_5 + 1) (lo' := [none, some (vI (x1_5 + 1)), some (vI x2_6)]) dX12_bits_8 rfl (by omega) (by decide) rfl rfl rfl ?_
      refine kx_iload_n 12 F 2 dX12_bits_11 rfl rfl rfl ?_
      refine kx_iload_n 13 F 2 dX12_bits_12 rfl rfl rfl ?_
      refine kx_iconst 14 F dX12_bits_13 rfl ?_
      refine kx_isub 15 F (v := x2_6 - 1) dX12_bits_14 rfl rfl ?_
      refine kx_iand 16 F (v := (zand x2_6 (x2_6 - 1))) dX12_bits_15 rfl rfl ?_
      have h_13 := zand_r (a := x2_6) (b := x2_6 - 1) (by omega)
      refine kx_istore_n 17 F 2 (lo' := [none, some (vI (x1_5 + 1)), some (vI (zand x2_6 (x2_6 - 1)))]) dX12_bits_16 rfl (by decide) rfl rfl rfl ?_
      refine kx_goto 4 F dX12_bits_17 (by decide) ?_
      exact ih_9 _ (by omega) (x1_5 + 1) (zand x2_6 (x2_6 - 1)) (by omega) rfl
  refine kx_drop 0 (lo' := [none, some (vI 0), some (vI a0)]) rfl ?_
  exact L_7 _ 0 a0 (by omega) rfl
set_option maxRecDepth 100000 in
theorem dGR_24_c_775 : (decode cX12_belowRow 0 = .ok (.bipush 10, 2)) ∧ (decode cX12_belowRow 2 = .ok (.iconst 3, 1)) ∧ (decode cX12_belowRow 3 = .ok (.iload_n 1, 1)) ∧ (decode cX12_belowRow 4 = .ok (.imul, 1)) ∧ (decode cX12_belowRow 5 = .ok (.iadd, 1)) ∧ (decode cX12_belowRow 6 = .ok (.ireturn, 1)) := by decide +kernel
theorem dX12_belowRow_0 : decode cX12_belowRow 0 = .ok (.bipush 10, 2) := dGR_24_c_775.1
theorem dX12_belowRow_2 : decode cX12_belowRow 2 = .ok (.iconst 3, 1) := dGR_24_c_775.2.1
theorem dX12_belowRow_3 : decode cX12_belowRow 3 = .ok (.iload_n 1, 1) := dGR_24_c_775.2.2.1
theorem dX12_belowRow_4 : decode cX12_belowRow 4 = .ok (.imul, 1) := dGR_24_c_775.2.2.2.1
theorem dX12_belowRow_5 : decode cX12_belowRow 5 = .ok (.iadd, 1) := dGR_24_c_775.2.2.2.2.1
theorem dX12_belowRow_6 : decode cX12_belowRow 6 = .ok (.ireturn, 1) := dGR_24_c_775.2.2.2.2.2
set_option maxRecDepth 100000 in
theorem dGR_24_c_776 : (decode cX12_lowers 0 = .ok (.iload_n 3, 1)) ∧ (decode cX12_lowers 1 = .ok (.aload_n 1, 1)) ∧ (decode cX12_lowers 2 = .ok (.iload_n 2, 1)) ∧ (decode cX12_lowers 3 = .ok (.iaload, 1)) ∧ (decode cX12_lowers 4 = .ok (.if_icmp .lt 5, 3)) ∧ (decode cX12_lowers 7 = .ok (.iconst 0, 1)) ∧ (decode cX12_lowers 8 = .ok (.ireturn, 1)) ∧ (decode cX12_lowers 9 = .ok (.aload_n 1, 1)) ∧ (decode cX12_lowers 10 = .ok (.iload_n 2, 1)) ∧ (decode cX12_lowers 11 = .ok (.iload_n 3, 1)) ∧ (decode cX12_lowers 12 = .ok (.iastore, 1)) ∧ (decode cX12_lowers 13 = .ok (.iconst 1, 1)) := by decide +kernel
theorem dX12_lowers_0 : decode cX12_lowers 0 = .ok (.iload_n 3, 1) := dGR_24_c_776.1
theorem dX12_lowers_1 : decode cX12_lowers 1 = .ok (.aload_n 1, 1) := dGR_24_c_776.2.1
theorem dX12_lowers_2 : decode cX12_lowers 2 = .ok (.iload_n 2, 1) := dGR_24_c_776.2.2.1
theorem dX12_lowers_3 : decode cX12_lowers 3 = .ok (.iaload, 1) := dGR_24_c_776.2.2.2.1
theorem dX12_lowers_4 : decode cX12_lowers 4 = .ok (.if_icmp .lt 5, 3) := dGR_24_c_776.2.2.2.2.1
theorem dX12_lowers_7 : decode cX12_lowers 7 = .ok (.iconst 0, 1) := dGR_24_c_776.2.2.2.2.2.1
theorem dX12_lowers_8 : decode cX12_lowers 8 = .ok (.ireturn, 1) := dGR_24_c_776.2.2.2.2.2.2.1
theorem dX12_lowers_9 : decode cX12_lowers 9 = .ok (.aload_n 1, 1) := dGR_24_c_776.2.2.2.2.2.2.2.1
theorem dX12_lowers_10 : decode cX12_lowers 10 = .ok (.iload_n 2, 1) := dGR_24_c_776.2.2.2.2.2.2.2.2.1
theorem dX12_lowers_11 : decode cX12_lowers 11 = .ok (.iload_n 3, 1) := dGR_24_c_776.2.2.2.2.2.2.2.2.2.1
theorem dX12_lowers_12 : decode cX12_lowers 12 = .ok (.iastore, 1) := dGR_24_c_776.2.2.2.2.2.2.2.2.2.2.1
theorem dX12_lowers_13 : decode cX12_lowers 13 = .ok (.iconst 1, 1) := dGR_24_c_776.2.2.2.2.2.2.2.2.2.2.2
theorem dX12_lowers_14 : decode cX12_lowers 14 = .ok (.ireturn, 1) := by decide +kernel
set_option maxRecDepth 100000 in
theorem dGR_24_c_777 : (decode cX12_draw 0 = .ok (.aload_n 0, 1)) ∧ (decode cX12_draw 1 = .ok (.aload_n 0, 1)) ∧ (decode cX12_draw 2 = .ok (.getfield 511, 3)) ∧ (decode cX12_draw 5 = .ok (.sipush 3287, 3)) ∧ (decode cX12_draw 8 = .ok (.imul, 1)) ∧ (decode cX12_draw 9 = .ok (.sipush 11519, 3)) ∧ (decode cX12_draw 12 = .ok (.iadd, 1)) ∧ (decode cX12_draw 13 = .ok (.ldc_w 514, 3)) ∧ (decode cX12_draw 16 = .ok (.irem, 1)) ∧ (decode cX12_draw 17 = .ok (.putfield 511, 3)) ∧ (decode cX12_draw 20 = .ok (.aload_n 0, 1)) ∧ (decode cX12_draw 21 = .ok (.getfield 511, 3)) := by decide +kernel
theorem dX12_draw_0 : decode cX12_draw 0 = .ok (.aload_n 0, 1) := dGR_24_c_777.1
theorem dX12_draw_1 : decode cX12_draw 1 = .ok (.aload_n 0, 1) := dGR_24_c_777.2.1
theorem dX12_draw_2 : decode cX12_draw 2 = .ok (.getfield 511, 3) := dGR_24_c_777.2.2.1
theorem dX12_draw_5 : decode cX12_draw 5 = .ok (.sipush 3287, 3) := dGR_24_c_777.2.2.2.1
theorem dX12_draw_8 : decode cX12_draw 8 = .ok (.imul, 1) := dGR_24_c_777.2.2.2.2.1
theorem dX12_draw_9 : decode cX12_draw 9 = .ok (.sipush 11519, 3) := dGR_24_c_777.2.2.2.2.2.1
theorem dX12_draw_12 : decode cX12_draw 12 = .ok (.iadd, 1) := dGR_24_c_777.2.2.2.2.2.2.1
theorem dX12_draw_13 : decode cX12_draw 13 = .ok (.ldc_w 514, 3) := dGR_24_c_777.2.2.2.2.2.2.2.1
theorem dX12_draw_16 : decode cX12_draw 16 = .ok (.irem, 1) := dGR_24_c_777.2.2.2.2.2.2.2.2.1
theorem dX12_draw_17 : decode cX12_draw 17 = .ok (.putfield 511, 3) := dGR_24_c_777.2.2.2.2.2.2.2.2.2.1
theorem dX12_draw_20 : decode cX12_draw 20 = .ok (.aload_n 0, 1) := dGR_24_c_777.2.2.2.2.2.2.2.2.2.2.1
theorem dX12_draw_21 : decode cX12_draw 21 = .ok (.getfield 511, 3) := dGR_24_c_777.2.2.2.2.2.2.2.2.2.2.2
set_option maxRecDepth 100000 in
theorem dGR_24_c_778 : (decode cX12_draw 24 = .ok (.bipush 8, 2)) ∧ (decode cX12_draw 26 = .ok (.idiv, 1)) ∧ (decode cX12_draw 27 = .ok (.iload_n 1, 1)) ∧ (decode cX12_draw 28 = .ok (.irem, 1)) ∧ (decode cX12_draw 29 = .ok (.ireturn, 1)) := by decide +kernel
theorem dX12_draw_24 : decode cX12_draw 24 = .ok (.bipush 8, 2) := dGR_24_c_778.1
theorem dX12_draw_26 : decode cX12_draw 26 = .ok (.idiv, 1) := dGR_24_c_778.2.1
theorem dX12_draw_27 : decode cX12_draw 27 = .ok (.iload_n 1, 1) := dGR_24_c_778.2.2.1
theorem dX12_draw_28 : decode cX12_draw 28 = .ok (.irem, 1) := dGR_24_c_778.2.2.2.1
theorem dX12_draw_29 : decode cX12_draw 29 = .ok (.ireturn, 1) := dGR_24_c_778.2.2.2.2
set_option maxRecDepth 100000 in
theorem dGR_24_c_779 : (decode cX12_fits 0 = .ok (.aload_n 0, 1)) ∧ (decode cX12_fits 1 = .ok (.getfield 44, 3)) ∧ (decode cX12_fits 4 = .ok (.iload_n 1, 1)) ∧ (decode cX12_fits 5 = .ok (.iload_n 2, 1)) ∧ (decode cX12_fits 6 = .ok (.iload_n 3, 1)) ∧ (decode cX12_fits 7 = .ok (.iload 4, 2)) ∧ (decode cX12_fits 9 = .ok (.invokestatic 319, 3)) ∧ (decode cX12_fits 12 = .ok (.iaload, 1)) ∧ (decode cX12_fits 13 = .ok (.aload_n 0, 1)) ∧ (decode cX12_fits 14 = .ok (.getfield 44, 3)) ∧ (decode cX12_fits 17 = .ok (.iload_n 1, 1)) ∧ (decode cX12_fits 18 = .ok (.iload 5, 2)) := by decide +kernel
theorem dX12_fits_0 : decode cX12_fits 0 = .ok (.aload_n 0, 1) := dGR_24_c_779.1
theorem dX12_fits_1 : decode cX12_fits 1 = .ok (.getfield 44, 3) := dGR_24_c_779.2.1
theorem dX12_fits_4 : decode cX12_fits 4 = .ok (.iload_n 1, 1) := dGR_24_c_779.2.2.1
theorem dX12_fits_5 : decode cX12_fits 5 = .ok (.iload_n 2, 1) := dGR_24_c_779.2.2.2.1
theorem dX12_fits_6 : decode cX12_fits 6 = .ok (.iload_n 3, 1) := dGR_24_c_779.2.2.2.2.1
theorem dX12_fits_7 : decode cX12_fits 7 = .ok (.iload 4, 2) := dGR_24_c_779.2.2.2.2.2.1
theorem dX12_fits_9 : decode cX12_fits 9 = .ok (.invokestatic 319, 3) := dGR_24_c_779.2.2.2.2.2.2.1
theorem dX12_fits_12 : decode cX12_fits 12 = .ok (.iaload, 1) := dGR_24_c_779.2.2.2.2.2.2.2.1
theorem dX12_fits_13 : decode cX12_fits 13 = .ok (.aload_n 0, 1) := dGR_24_c_779.2.2.2.2.2.2.2.2.1
theorem dX12_fits_14 : decode cX12_fits 14 = .ok (.getfield 44, 3) := dGR_24_c_779.2.2.2.2.2.2.2.2.2.1
theorem dX12_fits_17 : decode cX12_fits 17 = .ok (.iload_n 1, 1) := dGR_24_c_779.2.2.2.2.2.2.2.2.2.2.1
theorem dX12_fits_18 : decode cX12_fits 18 = .ok (.iload 5, 2) := dGR_24_c_779.2.2.2.2.2.2.2.2.2.2.2
set_option maxRecDepth 100000 in
theorem dGR_24_c_780 : (decode cX12_fits 20 = .ok (.iload 6, 2)) ∧ (decode cX12_fits 22 = .ok (.iload 7, 2)) ∧ (decode cX12_fits 24 = .ok (.invokestatic 319, 3)) ∧ (decode cX12_fits 27 = .ok (.iaload, 1)) ∧ (decode cX12_fits 28 = .ok (.iand, 1)) ∧ (decode cX12_fits 29 = .ok (.bipush 7, 2)) ∧ (decode cX12_fits 31 = .ok (.iand, 1)) ∧ (decode cX12_fits 32 = .ok (.ifCond .eq 7, 3)) ∧ (decode cX12_fits 35 = .ok (.iconst 1, 1)) ∧ (decode cX12_fits 36 = .ok (.goto 4, 3)) ∧ (decode cX12_fits 39 = .ok (.iconst 0, 1)) ∧ (decode cX12_fits 40 = .ok (.ireturn, 1)) := by decide +kernel
theorem dX12_fits_20 : decode cX12_fits 20 = .ok (.iload 6, 2) := dGR_24_c_780.1
theorem dX12_fits_22 : decode cX12_fits 22 = .ok (.iload 7, 2) := dGR_24_c_780.2.1
theorem dX12_fits_24 : decode cX12_fits 24 = .ok (.invokestatic 319, 3) := dGR_24_c_780.2.2.1
theorem dX12_fits_27 : decode cX12_fits 27 = .ok (.iaload, 1) := dGR_24_c_780.2.2.2.1
theorem dX12_fits_28 : decode cX12_fits 28 = .ok (.iand, 1) := dGR_24_c_780.2.2.2.2.1
theorem dX12_fits_29 : decode cX12_fits 29 = .ok (.bipush 7, 2) := dGR_24_c_780.2.2.2.2.2.1
theorem dX12_fits_31 : decode cX12_fits 31 = .ok (.iand, 1) := dGR_24_c_780.2.2.2.2.2.2.1
theorem dX12_fits_32 : decode cX12_fits 32 = .ok (.ifCond .eq 7, 3) := dGR_24_c_780.2.2.2.2.2.2.2.1
theorem dX12_fits_35 : decode cX12_fits 35 = .ok (.iconst 1, 1) := dGR_24_c_780.2.2.2.2.2.2.2.2.1
theorem dX12_fits_36 : decode cX12_fits 36 = .ok (.goto 4, 3) := dGR_24_c_780.2.2.2.2.2.2.2.2.2.1
theorem dX12_fits_39 : decode cX12_fits 39 = .ok (.iconst 0, 1) := dGR_24_c_780.2.2.2.2.2.2.2.2.2.2.1
theorem dX12_fits_40 : decode cX12_fits 40 = .ok (.ireturn, 1) := dGR_24_c_780.2.2.2.2.2.2.2.2.2.2.2
set_option maxHeartbeats 4000000 in
set_option maxRecDepth 100000 in
theorem c_X12_fits (G : KG) (l : Launch) (M : Mem) (a1 : Int) (a2 : Int) (a3 : Int) (a4 : Int) (a5 : Int) (a6 : Int) (a7 : Int) (hI_M : Inv true M) (hpre : -2147483648 ≤ a1 ∧ a1 ≤ 2147483647 ∧ -2147483648 ≤ a2 ∧ a2 ≤ 2147483647 ∧ -2147483648 ≤ a3 ∧ a3 ≤ 2147483647 ∧ -2147483648 ≤ a4 ∧ a4 ≤ 2147483647 ∧ -2147483648 ≤ a5 ∧ a5 ≤ 2147483647 ∧ -2147483648 ≤ a6 ∧ a6 ≤ 2147483647 ∧ -2147483648 ≤ a7 ∧ a7 ≤ 2147483647 ∧ 0 ≤ a1 ∧ a1 ≤ 2 ∧ 0 ≤ a2 ∧ a2 ≤ 5 ∧ 0 ≤ a3 ∧ a3 ≤ 2 ∧ 0 ≤ a4 ∧ a4 ≤ 2 ∧ 0 ≤ a5 ∧ a5 ≤ 5 ∧ 0 ≤ a6 ∧ a6 ≤ 2 ∧ 0 ≤ a7 ∧ a7 ≤ 2) : KC true G l yX12_fits cX12_fits 8 (some .boolean) (1, 23) [vR G 163, vI a1, vI a2, vI a3, vI a4, vI a5, vI a6, vI a7] M (fun A => kQi true G A (fun (r : Int) (N : Mem) => M = N ∧ (0 ≤ r ∧ r ≤ 1))) := by
  refine kx_met (lo := [some (vR G 163), some (vI a1), some (vI a2), some (vI a3), some (vI a4), some (vI a5), some (vI a6), some (vI a7)]) (by decide) (Nat.le_of_ble_eq_true rfl) rfl ?_
  intro X F hQ
  refine kx_aload_n 1 F 0 dX12_fits_0 rfl rfl rfl ?_
  refine kx_getr 4 F fl_X12_44 kd_163 rfl rfl (j := 20) rfl dX12_fits_1 (v := 171) (uq_171 (Inv.r hI_M kd_163 rfl 20 rfl rfl)) rfl ?_
  refine kx_iload_n 5 F 1 dX12_fits_4 rfl rfl rfl ?_
  refine kx_iload_n 6 F 2 dX12_fits_5 rfl rfl rfl ?_
  refine kx_iload_n 7 F 3 dX12_fits_6 rfl rfl rfl ?_
  refine kx_iload 9 F 4 dX12_fits_7 rfl rfl ?_
  refine kx_Si 12 F (As := [vI a1, vI a2, vI a3, vI a4]) (st := [vR G 171]) sd_X12_319 (c_X12_placeOf G l M a1 a2 a3 a4 hI_M (by omega)) ⟨by decide, by decide⟩ rfl rfl (Nat.le_of_ble_eq_true rfl) dX12_fits_9 rfl ?_
  intro r_1 N_2 q_3
  obtain ⟨rfl, q_3c⟩ := q_3
  refine kx_topi (e' := 54 * a1 + 9 * a2 + 3 * a3 + a4) (by omega) ?_
  refine kx_iald 13 F kd_171 rfl rfl (by omega) (by decide) dX12_fits_12 (v := (M 171 (54 * a1 + 9 * a2 + 3 * a3 + a4))) rfl rfl ?_
  have h_4 := Inv.g hI_M kd_171 rfl (54 * a1 + 9 * a2 + 3 * a3 + a4) (a := 0) (b := 15) rfl rfl
  refine kx_aload_n 14 F 0 dX12_fits_13 rfl rfl rfl ?_
  refine kx_getr 17 F fl_X12_44 kd_163 rfl rfl (j := 20) rfl dX12_fits_14 (v := 171) (uq_171 (Inv.r hI_M kd_163 rfl 20 rfl rfl)) rfl ?_
  refine kx_iload_n 18 F 1 dX12_fits_17 rfl rfl rfl ?_
  refine kx_iload 20 F 5 dX12_fits_18 rfl rfl ?_
  refine kx_iload 22 F 6 dX12_fits_20 rfl rfl ?_
  refine kx_iload 24 F 7 dX12_fits_22 rfl rfl ?_
  refine kx_Si 27 F (As := [vI a1, vI a5, vI a6, vI a7]) (st := [vR G 171, vI (M 171 (54 * a1 + 9 * a2 + 3 * a3 + a4))]) sd_X12_319 (c_X12_placeOf G l M a1 a5 a6 a7 hI_M (by omega)) ⟨by decide, by decide⟩ rfl rfl (Nat.le_of_ble_eq_true rfl) dX12_fits_24 rfl ?_
  intro r_5 N_6 q_7
  obtain ⟨rfl, q_7c⟩ := q_7
  refine kx_topi (e' := 54 * a1 + 9 * a5 + 3 * a6 + a7) (by omega) ?_
  refine kx_iald 28 F kd_171 rfl rfl (by omega) (by decide) dX12_fits_27 (v := (M 171 (54 * a1 + 9 * a5 + 3 * a6 + a7))) rfl rfl ?_
  have h_8 := Inv.g hI_M kd_171 rfl (54 * a1 + 9 * a5 + 3 * a6 + a7) (a := 0) (b := 15) rfl rfl
  refine kx_iand 29 F (v := (zand (M 171 (54 * a1 + 9 * a2 + 3 * a3 + a4)) (M 171 (54 * a1 + 9 * a5 + 3 * a6 + a7)))) dX12_fits_28 rfl rfl ?_
  have h_9 := zand_r (a := (M 171 (54 * a1 + 9 * a2 + 3 * a3 + a4))) (b := (M 171 (54 * a1 + 9 * a5 + 3 * a6 + a7))) (by omega)
  refine kx_bipush 31 F dX12_fits_29 (by decide) rfl ?_
  refine kx_iand 32 F (v := (zand (zand (M 171 (54 * a1 + 9 * a2 + 3 * a3 + a4)) (M 171 (54 * a1 + 9 * a5 + 3 * a6 + a7))) 7)) dX12_fits_31 rfl rfl ?_
  have h_10 := zand_r (a := (zand (M 171 (54 * a1 + 9 * a2 + 3 * a3 + a4)) (M 171 (54 * a1 + 9 * a5 + 3 * a6 + a7)))) (b := 7) (by omega)
  refine kx_if_eq 35 F 39 dX12_fits_32 (by decide) rfl (by omega) (fun h_11 => ?_) (fun h_11 => ?_)
  · refine kx_iconst 40 F dX12_fits_39 rfl ?_
    exact kx_zret F hQ (by omega) ⟨rfl, (by omega)⟩ dX12_fits_40
  · refine kx_iconst 36 F dX12_fits_35 rfl ?_
    refine kx_goto 40 F dX12_fits_36 (by decide) ?_
    exact kx_zret F hQ (by omega) ⟨rfl, (by omega)⟩ dX12_fits_40
set_option maxRecDepth 100000 in
theorem dGR_24_c_781 : (decode cX12_bothLead 0 = .ok (.aload_n 0, 1)) ∧ (decode cX12_bothLead 1 = .ok (.getfield 44, 3)) ∧ (decode cX12_bothLead 4 = .ok (.iload_n 1, 1)) ∧ (decode cX12_bothLead 5 = .ok (.iload_n 3, 1)) ∧ (decode cX12_bothLead 6 = .ok (.iload 4, 2)) ∧ (decode cX12_bothLead 8 = .ok (.iconst 3, 1)) ∧ (decode cX12_bothLead 9 = .ok (.idiv, 1)) ∧ (decode cX12_bothLead 10 = .ok (.iload 5, 2)) ∧ (decode cX12_bothLead 12 = .ok (.iconst 3, 1)) ∧ (decode cX12_bothLead 13 = .ok (.idiv, 1)) ∧ (decode cX12_bothLead 14 = .ok (.invokestatic 319, 3)) ∧ (decode cX12_bothLead 17 = .ok (.iaload, 1)) := by decide +kernel
theorem dX12_bothLead_0 : decode cX12_bothLead 0 = .ok (.aload_n 0, 1) := dGR_24_c_781.1
theorem dX12_bothLead_1 : decode cX12_bothLead 1 = .ok (.getfield 44, 3) := dGR_24_c_781.2.1
theorem dX12_bothLead_4 : decode cX12_bothLead 4 = .ok (.iload_n 1, 1) := dGR_24_c_781.2.2.1
theorem dX12_bothLead_5 : decode cX12_bothLead 5 = .ok (.iload_n 3, 1) := dGR_24_c_781.2.2.2.1
theorem dX12_bothLead_6 : decode cX12_bothLead 6 = .ok (.iload 4, 2) := dGR_24_c_781.2.2.2.2.1
theorem dX12_bothLead_8 : decode cX12_bothLead 8 = .ok (.iconst 3, 1) := dGR_24_c_781.2.2.2.2.2.1
theorem dX12_bothLead_9 : decode cX12_bothLead 9 = .ok (.idiv, 1) := dGR_24_c_781.2.2.2.2.2.2.1
theorem dX12_bothLead_10 : decode cX12_bothLead 10 = .ok (.iload 5, 2) := dGR_24_c_781.2.2.2.2.2.2.2.1
theorem dX12_bothLead_12 : decode cX12_bothLead 12 = .ok (.iconst 3, 1) := dGR_24_c_781.2.2.2.2.2.2.2.2.1
theorem dX12_bothLead_13 : decode cX12_bothLead 13 = .ok (.idiv, 1) := dGR_24_c_781.2.2.2.2.2.2.2.2.2.1
theorem dX12_bothLead_14 : decode cX12_bothLead 14 = .ok (.invokestatic 319, 3) := dGR_24_c_781.2.2.2.2.2.2.2.2.2.2.1
theorem dX12_bothLead_17 : decode cX12_bothLead 17 = .ok (.iaload, 1) := dGR_24_c_781.2.2.2.2.2.2.2.2.2.2.2
set_option maxRecDepth 100000 in
theorem dGR_24_c_782 : (decode cX12_bothLead 18 = .ok (.iload 6, 2)) ∧ (decode cX12_bothLead 20 = .ok (.iand, 1)) ∧ (decode cX12_bothLead 21 = .ok (.ifCond .eq 31, 3)) ∧ (decode cX12_bothLead 24 = .ok (.aload_n 0, 1)) ∧ (decode cX12_bothLead 25 = .ok (.getfield 44, 3)) ∧ (decode cX12_bothLead 28 = .ok (.iload_n 2, 1)) ∧ (decode cX12_bothLead 29 = .ok (.iload_n 3, 1)) ∧ (decode cX12_bothLead 30 = .ok (.iload 4, 2)) ∧ (decode cX12_bothLead 32 = .ok (.iconst 3, 1)) ∧ (decode cX12_bothLead 33 = .ok (.irem, 1)) ∧ (decode cX12_bothLead 34 = .ok (.iload 5, 2)) ∧ (decode cX12_bothLead 36 = .ok (.iconst 3, 1)) := by decide +kernel
theorem dX12_bothLead_18 : decode cX12_bothLead 18 = .ok (.iload 6, 2) := dGR_24_c_782.1
theorem dX12_bothLead_20 : decode cX12_bothLead 20 = .ok (.iand, 1) := dGR_24_c_782.2.1
theorem dX12_bothLead_21 : decode cX12_bothLead 21 = .ok (.ifCond .eq 31, 3) := dGR_24_c_782.2.2.1
theorem dX12_bothLead_24 : decode cX12_bothLead 24 = .ok (.aload_n 0, 1) := dGR_24_c_782.2.2.2.1
theorem dX12_bothLead_25 : decode cX12_bothLead 25 = .ok (.getfield 44, 3) := dGR_24_c_782.2.2.2.2.1
theorem dX12_bothLead_28 : decode cX12_bothLead 28 = .ok (.iload_n 2, 1) := dGR_24_c_782.2.2.2.2.2.1
theorem dX12_bothLead_29 : decode cX12_bothLead 29 = .ok (.iload_n 3, 1) := dGR_24_c_782.2.2.2.2.2.2.1
theorem dX12_bothLead_30 : decode cX12_bothLead 30 = .ok (.iload 4, 2) := dGR_24_c_782.2.2.2.2.2.2.2.1
theorem dX12_bothLead_32 : decode cX12_bothLead 32 = .ok (.iconst 3, 1) := dGR_24_c_782.2.2.2.2.2.2.2.2.1
theorem dX12_bothLead_33 : decode cX12_bothLead 33 = .ok (.irem, 1) := dGR_24_c_782.2.2.2.2.2.2.2.2.2.1
theorem dX12_bothLead_34 : decode cX12_bothLead 34 = .ok (.iload 5, 2) := dGR_24_c_782.2.2.2.2.2.2.2.2.2.2.1
theorem dX12_bothLead_36 : decode cX12_bothLead 36 = .ok (.iconst 3, 1) := dGR_24_c_782.2.2.2.2.2.2.2.2.2.2.2
set_option maxRecDepth 100000 in
theorem dGR_24_c_783 : (decode cX12_bothLead 37 = .ok (.irem, 1)) ∧ (decode cX12_bothLead 38 = .ok (.invokestatic 319, 3)) ∧ (decode cX12_bothLead 41 = .ok (.iaload, 1)) ∧ (decode cX12_bothLead 42 = .ok (.iload 6, 2)) ∧ (decode cX12_bothLead 44 = .ok (.iand, 1)) ∧ (decode cX12_bothLead 45 = .ok (.ifCond .eq 7, 3)) ∧ (decode cX12_bothLead 48 = .ok (.iconst 1, 1)) ∧ (decode cX12_bothLead 49 = .ok (.goto 4, 3)) ∧ (decode cX12_bothLead 52 = .ok (.iconst 0, 1)) ∧ (decode cX12_bothLead 53 = .ok (.ireturn, 1)) := by decide +kernel
theorem dX12_bothLead_37 : decode cX12_bothLead 37 = .ok (.irem, 1) := dGR_24_c_783.1
theorem dX12_bothLead_38 : decode cX12_bothLead 38 = .ok (.invokestatic 319, 3) := dGR_24_c_783.2.1
theorem dX12_bothLead_41 : decode cX12_bothLead 41 = .ok (.iaload, 1) := dGR_24_c_783.2.2.1
theorem dX12_bothLead_42 : decode cX12_bothLead 42 = .ok (.iload 6, 2) := dGR_24_c_783.2.2.2.1
theorem dX12_bothLead_44 : decode cX12_bothLead 44 = .ok (.iand, 1) := dGR_24_c_783.2.2.2.2.1
theorem dX12_bothLead_45 : decode cX12_bothLead 45 = .ok (.ifCond .eq 7, 3) := dGR_24_c_783.2.2.2.2.2.1
theorem dX12_bothLead_48 : decode cX12_bothLead 48 = .ok (.iconst 1, 1) := dGR_24_c_783.2.2.2.2.2.2.1
theorem dX12_bothLead_49 : decode cX12_bothLead 49 = .ok (.goto 4, 3) := dGR_24_c_783.2.2.2.2.2.2.2.1
theorem dX12_bothLead_52 : decode cX12_bothLead 52 = .ok (.iconst 0, 1) := dGR_24_c_783.2.2.2.2.2.2.2.2.1
theorem dX12_bothLead_53 : decode cX12_bothLead 53 = .ok (.ireturn, 1) := dGR_24_c_783.2.2.2.2.2.2.2.2.2
set_option maxHeartbeats 4000000 in
set_option maxRecDepth 100000 in
theorem c_X12_bothLead (G : KG) (l : Launch) (M : Mem) (a1 : Int) (a2 : Int) (a3 : Int) (a4 : Int) (a5 : Int) (a6 : Int) (hI_M : Inv true M) (hpre : -2147483648 ≤ a1 ∧ a1 ≤ 2147483647 ∧ -2147483648 ≤ a2 ∧ a2 ≤ 2147483647 ∧ -2147483648 ≤ a3 ∧ a3 ≤ 2147483647 ∧ -2147483648 ≤ a4 ∧ a4 ≤ 2147483647 ∧ -2147483648 ≤ a5 ∧ a5 ≤ 2147483647 ∧ -2147483648 ≤ a6 ∧ a6 ≤ 2147483647 ∧ 0 ≤ a1 ∧ a1 ≤ 2 ∧ 0 ≤ a2 ∧ a2 ≤ 2 ∧ 0 ≤ a3 ∧ a3 ≤ 5 ∧ 0 ≤ a4 ∧ a4 ≤ 8 ∧ 0 ≤ a5 ∧ a5 ≤ 8) : KC true G l yX12_bothLead cX12_bothLead 7 (some .boolean) (1, 23) [vR G 163, vI a1, vI a2, vI a3, vI a4, vI a5, vI a6] M (fun A => kQi true G A (fun (r : Int) (N : Mem) => M = N ∧ (0 ≤ r ∧ r ≤ 1))) := by
  refine kx_met (lo := [some (vR G 163), some (vI a1), some (vI a2), some (vI a3), some (vI a4), some (vI a5), some (vI a6)]) (by decide) (Nat.le_of_ble_eq_true rfl) rfl ?_
  intro X F hQ
  refine kx_aload_n 1 F 0 dX12_bothLead_0 rfl rfl rfl ?_
  refine kx_getr 4 F fl_X12_44 kd_163 rfl rfl (j := 20) rfl dX12_bothLead_1 (v := 171) (uq_171 (Inv.r hI_M kd_163 rfl 20 rfl rfl)) rfl ?_
  refine kx_iload_n 5 F 1 dX12_bothLead_4 rfl rfl rfl ?_
  refine kx_iload_n 6 F 3 dX12_bothLead_5 rfl rfl rfl ?_
  refine kx_iload 8 F 4 dX12_bothLead_6 rfl rfl ?_
  refine kx_iconst 9 F dX12_bothLead_8 rfl ?_
  refine kx_idiv 10 F (v := (a4 / 3)) dX12_bothLead_9 (by omega) (by decide) rfl rfl ?_
  refine kx_iload 12 F 5 dX12_bothLead_10 rfl rfl ?_
  refine kx_iconst 13 F dX12_bothLead_12 rfl ?_
  refine kx_idiv 14 F (v := (a5 / 3)) dX12_bothLead_13 (by omega) (by decide) rfl rfl ?_
  refine kx_Si 17 F (As := [vI a1, vI a3, vI (a4 / 3), vI (a5 / 3)]) (st := [vR G 171]) sd_X12_319 (c_X12_placeOf G l M a1 a3 (a4 / 3) (a5 / 3) hI_M (by omega)) ⟨by decide, by decide⟩ rfl rfl (Nat.le_of_ble_eq_true rfl) dX12_bothLead_14 rfl ?_
  intro r_1 N_2 q_3
  obtain ⟨rfl, q_3c⟩ := q_3
  refine kx_topi (e' := 54 * a1 + 9 * a3 + 3 * (a4 / 3) + (a5 / 3)) (by omega) ?_
  refine kx_iald 18 F kd_171 rfl rfl (by omega) (by decide) dX12_bothLead_17 (v := (M 171 (54 * a1 + 9 * a3 + 3 * (a4 / 3) + (a5 / 3)))) rfl rfl ?_
  have h_4 := Inv.g hI_M kd_171 rfl (54 * a1 + 9 * a3 + 3 * (a4 / 3) + (a5 / 3)) (a := 0) (b := 15) rfl rfl
  refine kx_iload 20 F 6 dX12_bothLead_18 rfl rfl ?_
  refine kx_iand 21 F (v := (zand (M 171 (54 * a1 + 9 * a3 + 3 * (a4 / 3) + (a5 / 3))) a6)) dX12_bothLead_20 rfl rfl ?_
  have h_5 := zand_l (a := (M 171 (54 * a1 + 9 * a3 + 3 * (a4 / 3) + (a5 / 3)))) (b := a6) (by omega)
  refine kx_if_eq 24 F 52 dX12_bothLead_21 (by decide) rfl (by omega) (fun h_6 => ?_) (fun h_6 => ?_)
  · refine kx_iconst 53 F dX12_bothLead_52 rfl ?_
    exact kx_zret F hQ (by omega) ⟨rfl, (by omega)⟩ dX12_bothLead_53
  · refine kx_aload_n 25 F 0 dX12_bothLead_24 rfl rfl rfl ?_
    refine kx_getr 28 F fl_X12_44 kd_163 rfl rfl (j := 20) rfl dX12_bothLead_25 (v := 171) (uq_171 (Inv.r hI_M kd_163 rfl 20 rfl rfl)) rfl ?_
    refine kx_iload_n 29 F 2 dX12_bothLead_28 rfl rfl rfl ?_
    refine kx_iload_n 30 F 3 dX12_bothLead_29 rfl rfl rfl ?_
    refine kx_iload 32 F 4 dX12_bothLead_30 rfl rfl ?_
    refine kx_iconst 33 F dX12_bothLead_32 rfl ?_
    refine kx_irem 34 F (v := (a4 % 3)) dX12_bothLead_33 (by omega) (by decide) rfl rfl ?_
    refine kx_iload 36 F 5 dX12_bothLead_34 rfl rfl ?_
    refine kx_iconst 37 F dX12_bothLead_36 rfl ?_
    refine kx_irem 38 F (v := (a5 % 3)) dX12_bothLead_37 (by omega) (by decide) rfl rfl ?_
    refine kx_Si 41 F (As := [vI a2, vI a3, vI (a4 % 3), vI (a5 % 3)]) (st := [vR G 171]) sd_X12_319 (c_X12_placeOf G l M a2 a3 (a4 % 3) (a5 % 3) hI_M (by omega)) ⟨by decide, by decide⟩ rfl rfl (Nat.le_of_ble_eq_true rfl) dX12_bothLead_38 rfl ?_
    intro r_7 N_8 q_9
    obtain ⟨rfl, q_9c⟩ := q_9
    refine kx_topi (e' := 54 * a2 + 9 * a3 + 3 * (a4 % 3) + (a5 % 3)) (by omega) ?_
    refine kx_iald 42 F kd_171 rfl rfl (by omega) (by decide) dX12_bothLead_41 (v := (M 171 (54 * a2 + 9 * a3 + 3 * (a4 % 3) + (a5 % 3)))) rfl rfl ?_
    have h_10 := Inv.g hI_M kd_171 rfl (54 * a2 + 9 * a3 + 3 * (a4 % 3) + (a5 % 3)) (a := 0) (b := 15) rfl rfl
    refine kx_iload 44 F 6 dX12_bothLead_42 rfl rfl ?_
    refine kx_iand 45 F (v := (zand (M 171 (54 * a2 + 9 * a3 + 3 * (a4 % 3) + (a5 % 3))) a6)) dX12_bothLead_44 rfl rfl ?_
    have h_11 := zand_l (a := (M 171 (54 * a2 + 9 * a3 + 3 * (a4 % 3) + (a5 % 3)))) (b := a6) (by omega)
    refine kx_if_eq 48 F 52 dX12_bothLead_45 (by decide) rfl (by omega) (fun h_12 => ?_) (fun h_12 => ?_)
    · refine kx_iconst 53 F dX12_bothLead_52 rfl ?_
      exact kx_zret F hQ (by omega) ⟨rfl, (by omega)⟩ dX12_bothLead_53
    · refine kx_iconst 49 F dX12_bothLead_48 rfl ?_
      refine kx_goto 53 F dX12_bothLead_49 (by decide) ?_
      exact kx_zret F hQ (by omega) ⟨rfl, (by omega)⟩ dX12_bothLead_53
set_option maxRecDepth 100000 in
theorem dGR_24_c_784 : (decode cX12_isPair 0 = .ok (.aload_n 0, 1)) ∧ (decode cX12_isPair 1 = .ok (.iload_n 1, 1)) ∧ (decode cX12_isPair 2 = .ok (.iload_n 3, 1)) ∧ (decode cX12_isPair 3 = .ok (.iconst 3, 1)) ∧ (decode cX12_isPair 4 = .ok (.idiv, 1)) ∧ (decode cX12_isPair 5 = .ok (.invokevirtual 303, 3)) ∧ (decode cX12_isPair 8 = .ok (.ifCond .eq 18, 3)) ∧ (decode cX12_isPair 11 = .ok (.aload_n 0, 1)) ∧ (decode cX12_isPair 12 = .ok (.iload_n 2, 1)) ∧ (decode cX12_isPair 13 = .ok (.iload_n 3, 1)) ∧ (decode cX12_isPair 14 = .ok (.iconst 3, 1)) ∧ (decode cX12_isPair 15 = .ok (.irem, 1)) := by decide +kernel
theorem dX12_isPair_0 : decode cX12_isPair 0 = .ok (.aload_n 0, 1) := dGR_24_c_784.1
theorem dX12_isPair_1 : decode cX12_isPair 1 = .ok (.iload_n 1, 1) := dGR_24_c_784.2.1
theorem dX12_isPair_2 : decode cX12_isPair 2 = .ok (.iload_n 3, 1) := dGR_24_c_784.2.2.1
theorem dX12_isPair_3 : decode cX12_isPair 3 = .ok (.iconst 3, 1) := dGR_24_c_784.2.2.2.1
theorem dX12_isPair_4 : decode cX12_isPair 4 = .ok (.idiv, 1) := dGR_24_c_784.2.2.2.2.1
theorem dX12_isPair_5 : decode cX12_isPair 5 = .ok (.invokevirtual 303, 3) := dGR_24_c_784.2.2.2.2.2.1
theorem dX12_isPair_8 : decode cX12_isPair 8 = .ok (.ifCond .eq 18, 3) := dGR_24_c_784.2.2.2.2.2.2.1
theorem dX12_isPair_11 : decode cX12_isPair 11 = .ok (.aload_n 0, 1) := dGR_24_c_784.2.2.2.2.2.2.2.1
theorem dX12_isPair_12 : decode cX12_isPair 12 = .ok (.iload_n 2, 1) := dGR_24_c_784.2.2.2.2.2.2.2.2.1
theorem dX12_isPair_13 : decode cX12_isPair 13 = .ok (.iload_n 3, 1) := dGR_24_c_784.2.2.2.2.2.2.2.2.2.1
theorem dX12_isPair_14 : decode cX12_isPair 14 = .ok (.iconst 3, 1) := dGR_24_c_784.2.2.2.2.2.2.2.2.2.2.1
theorem dX12_isPair_15 : decode cX12_isPair 15 = .ok (.irem, 1) := dGR_24_c_784.2.2.2.2.2.2.2.2.2.2.2
set_option maxRecDepth 100000 in
theorem dGR_24_c_785 : (decode cX12_isPair 16 = .ok (.invokevirtual 303, 3)) ∧ (decode cX12_isPair 19 = .ok (.ifCond .eq 7, 3)) ∧ (decode cX12_isPair 22 = .ok (.iconst 1, 1)) ∧ (decode cX12_isPair 23 = .ok (.goto 4, 3)) ∧ (decode cX12_isPair 26 = .ok (.iconst 0, 1)) ∧ (decode cX12_isPair 27 = .ok (.ireturn, 1)) := by decide +kernel
theorem dX12_isPair_16 : decode cX12_isPair 16 = .ok (.invokevirtual 303, 3) := dGR_24_c_785.1
theorem dX12_isPair_19 : decode cX12_isPair 19 = .ok (.ifCond .eq 7, 3) := dGR_24_c_785.2.1
theorem dX12_isPair_22 : decode cX12_isPair 22 = .ok (.iconst 1, 1) := dGR_24_c_785.2.2.1
theorem dX12_isPair_23 : decode cX12_isPair 23 = .ok (.goto 4, 3) := dGR_24_c_785.2.2.2.1
theorem dX12_isPair_26 : decode cX12_isPair 26 = .ok (.iconst 0, 1) := dGR_24_c_785.2.2.2.2.1
theorem dX12_isPair_27 : decode cX12_isPair 27 = .ok (.ireturn, 1) := dGR_24_c_785.2.2.2.2.2
set_option maxHeartbeats 4000000 in
set_option maxRecDepth 100000 in
theorem c_X12_isPair (G : KG) (l : Launch) (M : Mem) (a1 : Int) (a2 : Int) (a3 : Int) (hI_M : Inv true M) (hpre : -2147483648 ≤ a1 ∧ a1 ≤ 2147483647 ∧ -2147483648 ≤ a2 ∧ a2 ≤ 2147483647 ∧ -2147483648 ≤ a3 ∧ a3 ≤ 2147483647 ∧ 0 ≤ a1 ∧ a1 ≤ 2 ∧ 0 ≤ a2 ∧ a2 ≤ 2 ∧ 0 ≤ a3 ∧ a3 ≤ 8) : KC true G l yX12_isPair cX12_isPair 4 (some .boolean) (3, 65) [vR G 163, vI a1, vI a2, vI a3] M (fun A => kQi true G A (fun (r : Int) (N : Mem) => M = N ∧ (0 ≤ r ∧ r ≤ 1))) := by
  refine kx_met (lo := [some (vR G 163), some (vI a1), some (vI a2), some (vI a3)]) (by decide) (Nat.le_of_ble_eq_true rfl) rfl ?_
  intro X F hQ
  refine kx_aload_n 1 F 0 dX12_isPair_0 rfl rfl rfl ?_
  refine kx_iload_n 2 F 1 dX12_isPair_1 rfl rfl rfl ?_
  refine kx_iload_n 3 F 3 dX12_isPair_2 rfl rfl rfl ?_
  refine kx_iconst 4 F dX12_isPair_3 rfl ?_
  refine kx_idiv 5 F (v := (a3 / 3)) dX12_isPair_4 (by omega) (by decide) rfl rfl ?_
  refine kx_Vi 8 (ci := 0) F (As := [vI a1, vI (a3 / 3)]) (st := []) vd_X12_303 (c_X12_isState G l M a1 (a3 / 3) hI_M (by omega)) kd_163 rfl rfl rfl ⟨by decide, by decide⟩ rfl rfl (Nat.le_of_ble_eq_true rfl) dX12_isPair_5 rfl ?_
  intro r_1 N_2 q_3
  obtain ⟨rfl, q_3c⟩ := q_3
  rcases q_3c with q_3c | q_3c | q_3c
  · refine kx_if_eq 11 F 26 dX12_isPair_8 (by decide) rfl (by omega) (fun h_4 => (by exfalso; omega)) (fun h_4 => ?_)
    refine kx_aload_n 12 F 0 dX12_isPair_11 rfl rfl rfl ?_
    refine kx_iload_n 13 F 2 dX12_isPair_12 rfl rfl rfl ?_
    refine kx_iload_n 14 F 3 dX12_isPair_13 rfl rfl rfl ?_
    refine kx_iconst 15 F dX12_isPair_14 rfl ?_
    refine kx_irem 16 F (v := (a3 % 3)) dX12_isPair_15 (by omega) (by decide) rfl rfl ?_
    refine kx_Vi 19 (ci := 0) F (As := [vI a2, vI (a3 % 3)]) (st := []) vd_X12_303 (c_X12_isState G l M a2 (a3 % 3) hI_M (by omega)) kd_163 rfl rfl rfl ⟨by decide, by decide⟩ rfl rfl (Nat.le_of_ble_eq_true rfl) dX12_isPair_16 rfl ?_
    intro r_5 N_6 q_7
    obtain ⟨rfl, q_7c⟩ := q_7
    rcases q_7c with q_7c | q_7c | q_7c
    · refine kx_if_eq 22 F 26 dX12_isPair_19 (by decide) rfl (by omega) (fun h_8 => (by exfalso; omega)) (fun h_8 => ?_)
      refine kx_iconst 23 F dX12_isPair_22 rfl ?_
      refine kx_goto 27 F dX12_isPair_23 (by decide) ?_
      exact kx_zret F hQ (by omega) ⟨rfl, (by omega)⟩ dX12_isPair_27
    · refine kx_if_eq 22 F 26 dX12_isPair_19 (by decide) rfl (by omega) (fun h_9 => (by exfalso; omega)) (fun h_9 => ?_)
      refine kx_iconst 23 F dX12_isPair_22 rfl ?_
      refine kx_goto 27 F dX12_isPair_23 (by decide) ?_
      exact kx_zret F hQ (by omega) ⟨rfl, (by omega)⟩ dX12_isPair_27
    · refine kx_if_eq 22 F 26 dX12_isPair_19 (by decide) rfl (by omega) (fun h_10 => ?_) (fun h_10 => (by exfalso; omega))
      refine kx_iconst 27 F dX12_isPair_26 rfl ?_
      exact kx_zret F hQ (by omega) ⟨rfl, (by omega)⟩ dX12_isPair_27
  · refine kx_if_eq 11 F 26 dX12_isPair_8 (by decide) rfl (by omega) (fun h_11 => (by exfalso; omega)) (fun h_11 => ?_)
    refine kx_aload_n 12 F 0 dX12_isPair_11 rfl rfl rfl ?_
    refine kx_iload_n 13 F 2 dX12_isPair_12 rfl rfl rfl ?_
    refine kx_iload_n 14 F 3 dX12_isPair_13 rfl rfl rfl ?_
    refine kx_iconst 15 F dX12_isPair_14 rfl ?_
    refine kx_irem 16 F (v := (a3 % 3)) dX12_isPair_15 (by omega) (by decide) rfl rfl ?_
    refine kx_Vi 19 (ci := 0) F (As := [vI a2, vI (a3 % 3)]) (st := []) vd_X12_303 (c_X12_isState G l M a2 (a3 % 3) hI_M (by omega)) kd_163 rfl rfl rfl ⟨by decide, by decide⟩ rfl rfl (Nat.le_of_ble_eq_true rfl) dX12_isPair_16 rfl ?_
    intro r_12 N_13 q_14
    obtain ⟨rfl, q_14c⟩ := q_14
    rcases q_14c with q_14c | q_14c | q_14c
    · refine kx_if_eq 22 F 26 dX12_isPair_19 (by decide) rfl (by omega) (fun h_15 => (by exfalso; omega)) (fun h_15 => ?_)
      refine kx_iconst 23 F dX12_isPair_22 rfl ?_
      refine kx_goto 27 F dX12_isPair_23 (by decide) ?_
      exact kx_zret F hQ (by omega) ⟨rfl, (by omega)⟩ dX12_isPair_27
    · refine kx_if_eq 22 F 26 dX12_isPair_19 (by decide) rfl (by omega) (fun h_16 => (by exfalso; omega)) (fun h_16 => ?_)
      refine kx_iconst 23 F dX12_isPair_22 rfl ?_
      refine kx_goto 27 F dX12_isPair_23 (by decide) ?_
      exact kx_zret F hQ (by omega) ⟨rfl, (by omega)⟩ dX12_isPair_27
    · refine kx_if_eq 22 F 26 dX12_isPair_19 (by decide) rfl (by omega) (fun h_17 => ?_) (fun h_17 => (by exfalso; omega))
      refine kx_iconst 27 F dX12_isPair_26 rfl ?_
      exact kx_zret F hQ (by omega) ⟨rfl, (by omega)⟩ dX12_isPair_27
  · refine kx_if_eq 11 F 26 dX12_isPair_8 (by decide) rfl (by omega) (fun h_18 => ?_) (fun h_18 => (by exfalso; omega))
    refine kx_iconst 27 F dX12_isPair_26 rfl ?_
    exact kx_zret F hQ (by omega) ⟨rfl, (by omega)⟩ dX12_isPair_27
set_option maxRecDepth 100000 in
theorem dGR_24_c_786 : (decode cX12_leadsBoth 0 = .ok (.iload 5, 2)) ∧ (decode cX12_leadsBoth 2 = .ok (.ifCond .eq 7, 3)) ∧ (decode cX12_leadsBoth 5 = .ok (.iconst 0, 1)) ∧ (decode cX12_leadsBoth 6 = .ok (.goto 9, 3)) ∧ (decode cX12_leadsBoth 9 = .ok (.aload_n 0, 1)) ∧ (decode cX12_leadsBoth 10 = .ok (.getfield 7, 3)) ∧ (decode cX12_leadsBoth 13 = .ok (.iconst 0, 1)) ∧ (decode cX12_leadsBoth 14 = .ok (.iaload, 1)) ∧ (decode cX12_leadsBoth 15 = .ok (.istore 6, 2)) ∧ (decode cX12_leadsBoth 17 = .ok (.iload 5, 2)) ∧ (decode cX12_leadsBoth 19 = .ok (.ifCond .eq 12, 3)) ∧ (decode cX12_leadsBoth 22 = .ok (.aload_n 0, 1)) := by decide +kernel
theorem dX12_leadsBoth_0 : decode cX12_leadsBoth 0 = .ok (.iload 5, 2) := dGR_24_c_786.1
theorem dX12_leadsBoth_2 : decode cX12_leadsBoth 2 = .ok (.ifCond .eq 7, 3) := dGR_24_c_786.2.1
theorem dX12_leadsBoth_5 : decode cX12_leadsBoth 5 = .ok (.iconst 0, 1) := dGR_24_c_786.2.2.1
theorem dX12_leadsBoth_6 : decode cX12_leadsBoth 6 = .ok (.goto 9, 3) := dGR_24_c_786.2.2.2.1
theorem dX12_leadsBoth_9 : decode cX12_leadsBoth 9 = .ok (.aload_n 0, 1) := dGR_24_c_786.2.2.2.2.1
theorem dX12_leadsBoth_10 : decode cX12_leadsBoth 10 = .ok (.getfield 7, 3) := dGR_24_c_786.2.2.2.2.2.1
theorem dX12_leadsBoth_13 : decode cX12_leadsBoth 13 = .ok (.iconst 0, 1) := dGR_24_c_786.2.2.2.2.2.2.1
theorem dX12_leadsBoth_14 : decode cX12_leadsBoth 14 = .ok (.iaload, 1) := dGR_24_c_786.2.2.2.2.2.2.2.1
theorem dX12_leadsBoth_15 : decode cX12_leadsBoth 15 = .ok (.istore 6, 2) := dGR_24_c_786.2.2.2.2.2.2.2.2.1
theorem dX12_leadsBoth_17 : decode cX12_leadsBoth 17 = .ok (.iload 5, 2) := dGR_24_c_786.2.2.2.2.2.2.2.2.2.1
theorem dX12_leadsBoth_19 : decode cX12_leadsBoth 19 = .ok (.ifCond .eq 12, 3) := dGR_24_c_786.2.2.2.2.2.2.2.2.2.2.1
theorem dX12_leadsBoth_22 : decode cX12_leadsBoth 22 = .ok (.aload_n 0, 1) := dGR_24_c_786.2.2.2.2.2.2.2.2.2.2.2
set_option maxRecDepth 100000 in
theorem dGR_24_c_787 : (decode cX12_leadsBoth 23 = .ok (.getfield 7, 3)) ∧ (decode cX12_leadsBoth 26 = .ok (.iconst 0, 1)) ∧ (decode cX12_leadsBoth 27 = .ok (.iaload, 1)) ∧ (decode cX12_leadsBoth 28 = .ok (.goto 16, 3)) ∧ (decode cX12_leadsBoth 31 = .ok (.aload_n 0, 1)) ∧ (decode cX12_leadsBoth 32 = .ok (.getfield 7, 3)) ∧ (decode cX12_leadsBoth 35 = .ok (.iconst 0, 1)) ∧ (decode cX12_leadsBoth 36 = .ok (.iaload, 1)) ∧ (decode cX12_leadsBoth 37 = .ok (.aload_n 0, 1)) ∧ (decode cX12_leadsBoth 38 = .ok (.getfield 7, 3)) ∧ (decode cX12_leadsBoth 41 = .ok (.iconst 1, 1)) ∧ (decode cX12_leadsBoth 42 = .ok (.iaload, 1)) := by decide +kernel
theorem dX12_leadsBoth_23 : decode cX12_leadsBoth 23 = .ok (.getfield 7, 3) := dGR_24_c_787.1
theorem dX12_leadsBoth_26 : decode cX12_leadsBoth 26 = .ok (.iconst 0, 1) := dGR_24_c_787.2.1
theorem dX12_leadsBoth_27 : decode cX12_leadsBoth 27 = .ok (.iaload, 1) := dGR_24_c_787.2.2.1
theorem dX12_leadsBoth_28 : decode cX12_leadsBoth 28 = .ok (.goto 16, 3) := dGR_24_c_787.2.2.2.1
theorem dX12_leadsBoth_31 : decode cX12_leadsBoth 31 = .ok (.aload_n 0, 1) := dGR_24_c_787.2.2.2.2.1
theorem dX12_leadsBoth_32 : decode cX12_leadsBoth 32 = .ok (.getfield 7, 3) := dGR_24_c_787.2.2.2.2.2.1
theorem dX12_leadsBoth_35 : decode cX12_leadsBoth 35 = .ok (.iconst 0, 1) := dGR_24_c_787.2.2.2.2.2.2.1
theorem dX12_leadsBoth_36 : decode cX12_leadsBoth 36 = .ok (.iaload, 1) := dGR_24_c_787.2.2.2.2.2.2.2.1
theorem dX12_leadsBoth_37 : decode cX12_leadsBoth 37 = .ok (.aload_n 0, 1) := dGR_24_c_787.2.2.2.2.2.2.2.2.1
theorem dX12_leadsBoth_38 : decode cX12_leadsBoth 38 = .ok (.getfield 7, 3) := dGR_24_c_787.2.2.2.2.2.2.2.2.2.1
theorem dX12_leadsBoth_41 : decode cX12_leadsBoth 41 = .ok (.iconst 1, 1) := dGR_24_c_787.2.2.2.2.2.2.2.2.2.2.1
theorem dX12_leadsBoth_42 : decode cX12_leadsBoth 42 = .ok (.iaload, 1) := dGR_24_c_787.2.2.2.2.2.2.2.2.2.2.2
set_option maxRecDepth 100000 in
theorem dGR_24_c_788 : (decode cX12_leadsBoth 43 = .ok (.iadd, 1)) ∧ (decode cX12_leadsBoth 44 = .ok (.istore 7, 2)) ∧ (decode cX12_leadsBoth 46 = .ok (.iload 6, 2)) ∧ (decode cX12_leadsBoth 48 = .ok (.istore 8, 2)) ∧ (decode cX12_leadsBoth 50 = .ok (.iload 8, 2)) ∧ (decode cX12_leadsBoth 52 = .ok (.iload 7, 2)) ∧ (decode cX12_leadsBoth 54 = .ok (.if_icmp .ge 55, 3)) ∧ (decode cX12_leadsBoth 57 = .ok (.iload 5, 2)) ∧ (decode cX12_leadsBoth 59 = .ok (.ifCond .ne 21, 3)) ∧ (decode cX12_leadsBoth 62 = .ok (.aload_n 0, 1)) ∧ (decode cX12_leadsBoth 63 = .ok (.iload_n 1, 1)) ∧ (decode cX12_leadsBoth 64 = .ok (.iload_n 2, 1)) := by decide +kernel
theorem dX12_leadsBoth_43 : decode cX12_leadsBoth 43 = .ok (.iadd, 1) := dGR_24_c_788.1
theorem dX12_leadsBoth_44 : decode cX12_leadsBoth 44 = .ok (.istore 7, 2) := dGR_24_c_788.2.1
theorem dX12_leadsBoth_46 : decode cX12_leadsBoth 46 = .ok (.iload 6, 2) := dGR_24_c_788.2.2.1
theorem dX12_leadsBoth_48 : decode cX12_leadsBoth 48 = .ok (.istore 8, 2) := dGR_24_c_788.2.2.2.1
theorem dX12_leadsBoth_50 : decode cX12_leadsBoth 50 = .ok (.iload 8, 2) := dGR_24_c_788.2.2.2.2.1
theorem dX12_leadsBoth_52 : decode cX12_leadsBoth 52 = .ok (.iload 7, 2) := dGR_24_c_788.2.2.2.2.2.1
theorem dX12_leadsBoth_54 : decode cX12_leadsBoth 54 = .ok (.if_icmp .ge 55, 3) := dGR_24_c_788.2.2.2.2.2.2.1
theorem dX12_leadsBoth_57 : decode cX12_leadsBoth 57 = .ok (.iload 5, 2) := dGR_24_c_788.2.2.2.2.2.2.2.1
theorem dX12_leadsBoth_59 : decode cX12_leadsBoth 59 = .ok (.ifCond .ne 21, 3) := dGR_24_c_788.2.2.2.2.2.2.2.2.1
theorem dX12_leadsBoth_62 : decode cX12_leadsBoth 62 = .ok (.aload_n 0, 1) := dGR_24_c_788.2.2.2.2.2.2.2.2.2.1
theorem dX12_leadsBoth_63 : decode cX12_leadsBoth 63 = .ok (.iload_n 1, 1) := dGR_24_c_788.2.2.2.2.2.2.2.2.2.2.1
theorem dX12_leadsBoth_64 : decode cX12_leadsBoth 64 = .ok (.iload_n 2, 1) := dGR_24_c_788.2.2.2.2.2.2.2.2.2.2.2
set_option maxRecDepth 100000 in
theorem dGR_24_c_789 : (decode cX12_leadsBoth 65 = .ok (.iload 8, 2)) ∧ (decode cX12_leadsBoth 67 = .ok (.iload_n 3, 1)) ∧ (decode cX12_leadsBoth 68 = .ok (.iload 4, 2)) ∧ (decode cX12_leadsBoth 70 = .ok (.bipush 8, 2)) ∧ (decode cX12_leadsBoth 72 = .ok (.invokevirtual 432, 3)) ∧ (decode cX12_leadsBoth 75 = .ok (.ifCond .eq 5, 3)) ∧ (decode cX12_leadsBoth 78 = .ok (.iconst 1, 1)) ∧ (decode cX12_leadsBoth 79 = .ok (.ireturn, 1)) ∧ (decode cX12_leadsBoth 80 = .ok (.iload 5, 2)) ∧ (decode cX12_leadsBoth 82 = .ok (.ifCond .eq 21, 3)) ∧ (decode cX12_leadsBoth 85 = .ok (.aload_n 0, 1)) ∧ (decode cX12_leadsBoth 86 = .ok (.iload_n 1, 1)) := by decide +kernel
theorem dX12_leadsBoth_65 : decode cX12_leadsBoth 65 = .ok (.iload 8, 2) := dGR_24_c_789.1
theorem dX12_leadsBoth_67 : decode cX12_leadsBoth 67 = .ok (.iload_n 3, 1) := dGR_24_c_789.2.1
theorem dX12_leadsBoth_68 : decode cX12_leadsBoth 68 = .ok (.iload 4, 2) := dGR_24_c_789.2.2.1
theorem dX12_leadsBoth_70 : decode cX12_leadsBoth 70 = .ok (.bipush 8, 2) := dGR_24_c_789.2.2.2.1
theorem dX12_leadsBoth_72 : decode cX12_leadsBoth 72 = .ok (.invokevirtual 432, 3) := dGR_24_c_789.2.2.2.2.1
theorem dX12_leadsBoth_75 : decode cX12_leadsBoth 75 = .ok (.ifCond .eq 5, 3) := dGR_24_c_789.2.2.2.2.2.1
theorem dX12_leadsBoth_78 : decode cX12_leadsBoth 78 = .ok (.iconst 1, 1) := dGR_24_c_789.2.2.2.2.2.2.1
theorem dX12_leadsBoth_79 : decode cX12_leadsBoth 79 = .ok (.ireturn, 1) := dGR_24_c_789.2.2.2.2.2.2.2.1
theorem dX12_leadsBoth_80 : decode cX12_leadsBoth 80 = .ok (.iload 5, 2) := dGR_24_c_789.2.2.2.2.2.2.2.2.1
theorem dX12_leadsBoth_82 : decode cX12_leadsBoth 82 = .ok (.ifCond .eq 21, 3) := dGR_24_c_789.2.2.2.2.2.2.2.2.2.1
theorem dX12_leadsBoth_85 : decode cX12_leadsBoth 85 = .ok (.aload_n 0, 1) := dGR_24_c_789.2.2.2.2.2.2.2.2.2.2.1
theorem dX12_leadsBoth_86 : decode cX12_leadsBoth 86 = .ok (.iload_n 1, 1) := dGR_24_c_789.2.2.2.2.2.2.2.2.2.2.2
set_option maxRecDepth 100000 in
theorem dGR_24_c_790 : (decode cX12_leadsBoth 87 = .ok (.iload_n 2, 1)) ∧ (decode cX12_leadsBoth 88 = .ok (.iload 8, 2)) ∧ (decode cX12_leadsBoth 90 = .ok (.iload_n 3, 1)) ∧ (decode cX12_leadsBoth 91 = .ok (.iload 4, 2)) ∧ (decode cX12_leadsBoth 93 = .ok (.bipush 7, 2)) ∧ (decode cX12_leadsBoth 95 = .ok (.invokevirtual 432, 3)) ∧ (decode cX12_leadsBoth 98 = .ok (.ifCond .eq 5, 3)) ∧ (decode cX12_leadsBoth 101 = .ok (.iconst 1, 1)) ∧ (decode cX12_leadsBoth 102 = .ok (.ireturn, 1)) ∧ (decode cX12_leadsBoth 103 = .ok (.iinc 8 1, 3)) ∧ (decode cX12_leadsBoth 106 = .ok (.goto (-56), 3)) ∧ (decode cX12_leadsBoth 109 = .ok (.iconst 0, 1)) := by decide +kernel
theorem dX12_leadsBoth_87 : decode cX12_leadsBoth 87 = .ok (.iload_n 2, 1) := dGR_24_c_790.1
theorem dX12_leadsBoth_88 : decode cX12_leadsBoth 88 = .ok (.iload 8, 2) := dGR_24_c_790.2.1
theorem dX12_leadsBoth_90 : decode cX12_leadsBoth 90 = .ok (.iload_n 3, 1) := dGR_24_c_790.2.2.1
theorem dX12_leadsBoth_91 : decode cX12_leadsBoth 91 = .ok (.iload 4, 2) := dGR_24_c_790.2.2.2.1
theorem dX12_leadsBoth_93 : decode cX12_leadsBoth 93 = .ok (.bipush 7, 2) := dGR_24_c_790.2.2.2.2.1
theorem dX12_leadsBoth_95 : decode cX12_leadsBoth 95 = .ok (.invokevirtual 432, 3) := dGR_24_c_790.2.2.2.2.2.1
theorem dX12_leadsBoth_98 : decode cX12_leadsBoth 98 = .ok (.ifCond .eq 5, 3) := dGR_24_c_790.2.2.2.2.2.2.1
theorem dX12_leadsBoth_101 : decode cX12_leadsBoth 101 = .ok (.iconst 1, 1) := dGR_24_c_790.2.2.2.2.2.2.2.1
theorem dX12_leadsBoth_102 : decode cX12_leadsBoth 102 = .ok (.ireturn, 1) := dGR_24_c_790.2.2.2.2.2.2.2.2.1
theorem dX12_leadsBoth_103 : decode cX12_leadsBoth 103 = .ok (.iinc 8 1, 3) := dGR_24_c_790.2.2.2.2.2.2.2.2.2.1
theorem dX12_leadsBoth_106 : decode cX12_leadsBoth 106 = .ok (.goto (-56), 3) := dGR_24_c_790.2.2.2.2.2.2.2.2.2.2.1
theorem dX12_leadsBoth_109 : decode cX12_leadsBoth 109 = .ok (.iconst 0, 1) := dGR_24_c_790.2.2.2.2.2.2.2.2.2.2.2
theorem dX12_leadsBoth_110 : decode cX12_leadsBoth 110 = .ok (.ireturn, 1) := by decide +kernel
set_option maxHeartbeats 4000000 in
set_option maxRecDepth 100000 in
theorem c_X12_leadsBoth (G : KG) (l : Launch) (M : Mem) (a1 : Int) (a2 : Int) (a3 : Int) (a4 : Int) (a5 : Int) (hI_M : Inv true M) (hpre : -2147483648 ≤ a1 ∧ a1 ≤ 2147483647 ∧ -2147483648 ≤ a2 ∧ a2 ≤ 2147483647 ∧ -2147483648 ≤ a3 ∧ a3 ≤ 2147483647 ∧ -2147483648 ≤ a4 ∧ a4 ≤ 2147483647 ∧ 0 ≤ a5 ∧ a5 ≤ 1 ∧ 0 ≤ a1 ∧ a1 ≤ 2 ∧ 0 ≤ a2 ∧ a2 ≤ 2 ∧ 0 ≤ a3 ∧ a3 ≤ 8 ∧ 0 ≤ a4 ∧ a4 ≤ 8) : KC true G l yX12_leadsBoth cX12_leadsBoth 9 (some .boolean) (2, 49) [vR G 163, vI a1, vI a2, vI a3, vI a4, vI a5] M (fun A => kQi true G A (fun (r : Int) (N : Mem) => M = N ∧ (0 ≤ r ∧ r ≤ 1))) := by
  refine kx_met (lo := [some (vR G 163), some (vI a1), some (vI a2), some (vI a3), some (vI a4), some (vI a5), none, none, none]) (by decide) (Nat.le_of_ble_eq_true rfl) rfl ?_
  intro X F hQ
  refine kx_iload 2 F 5 dX12_leadsBoth_0 rfl rfl ?_
  have J_8 : ∀ (y0_7 : Int), 0 ≤ y0_7 ∧ y0_7 ≤ 2 → KJ true G X M 15 [some (vR G 163), some (vI a1), some (vI a2), some (vI a3), some (vI a4), some (vI a5), none, none, none] [vI y0_7] := by
    intro y0_7 h_9
    refine kx_istore 17 F 6 (lo' := [some (vR G 163), some (vI a1), some (vI a2), some (vI a3), some (vI a4), some (vI a5), some (vI y0_7), none, none]) dX12_leadsBoth_15 (by decide) rfl rfl rfl ?_
    refine kx_iload 19 F 5 dX12_leadsBoth_17 rfl rfl ?_
    have J_25 : ∀ (y0_24 : Int), 0 ≤ y0_24 ∧ y0_24 ≤ 4 → KJ true G X M 44 [some (vR G 163), some (vI a1), some (vI a2), some (vI a3), some (vI a4), some (vI a5), some (vI y0_7), none, none] [vI y0_24] := by
      intro y0_24 h_26
      refine kx_istore 46 F 7 (lo' := [some (vR G 163), some (vI a1), some (vI a2), some (vI a3), some (vI a4), some (vI a5), some (vI y0_7), some (vI y0_24), none]) dX12_leadsBoth_44 (by decide) rfl rfl rfl ?_
      refine kx_iload 48 F 6 dX12_leadsBoth_46 rfl rfl ?_
      refine kx_istore 50 F 8 (lo' := [some (vR G 163), some (vI a1), some (vI a2), some (vI a3), some (vI a4), some (vI a5), some (vI y0_7), some (vI y0_24), some (vI y0_7)]) dX12_leadsBoth_48 (by decide) rfl rfl rfl ?_
      have L_67 : ∀ (n_68 : Nat) (x8_66 : Int), 0 ≤ x8_66 ∧ x8_66 ≤ 4 ∧ y0_7 ≤ x8_66 → (4 - (x8_66)).toNat = n_68 → KJ true G X M 50 [some (vR G 163), some (vI a1), some (vI a2), some (vI a3), some (vI a4), some (vI a5), none, some (vI y0_24), some (vI x8_66)] [] := by
        intro n_68
        refine Nat.strongRecOn n_68 ?_
        intro n_68 ih_69 x8_66 h_70 hm_71
        refine kx_iload 52 F 8 dX12_leadsBoth_50 rfl rfl ?_
        refine kx_iload 54 F 7 dX12_leadsBoth_52 rfl rfl ?_
        refine kx_icmp_ge 57 F 109 dX12_leadsBoth_54 (by decide) rfl (by omega) (by omega) (fun h_72 => ?_) (fun h_72 => ?_)
        · refine kx_iconst 110 F dX12_leadsBoth_109 rfl ?_
          exact kx_zret F hQ (by omega) ⟨rfl, (by omega)⟩ dX12_leadsBoth_110
        · refine kx_iload 59 F 5 dX12_leadsBoth_57 rfl rfl ?_
          have J_78 : KJ true G X M 80 [some (vR G 163), some (vI a1), some (vI a2), some (vI a3), some (vI a4), some (vI a5), none, some (vI y0_24), some (vI x8_66)] [] := by
            refine kx_iload 82 F 5 dX12_leadsBoth_80 rfl rfl ?_
            have J_85 : KJ true G X M 103 [some (vR G 163), some (vI a1), some (vI a2), some (vI a3), some (vI a4), some (vI a5), none, some (vI y0_24), some (vI x8_66)] [] := by
              refine kx_iinc 106 F 8 (v := x8_66 + 1) (lo' := [some (vR G 163), some (vI a1), some (vI a2), some (vI a3), some (vI a4), some (vI a5), none, some (vI y0_24), some (vI (x8_66 + 1))]) dX12_leadsBoth_103 rfl (by omega) (by decide) rfl rfl rfl ?_
              refine kx_goto 50 F dX12_leadsBoth_106 (by decide) ?_
              exact ih_69 _ (by omega) (x8_66 + 1) (by omega) rfl
            refine kx_if_eq 85 F 103 dX12_leadsBoth_82 (by decide) rfl (by omega) (fun h_87 => ?_) (fun h_87 => ?_)
            · exact J_85
            · refine kx_aload_n 86 F 0 dX12_leadsBoth_85 rfl rfl rfl ?_
              refine kx_iload_n 87 F 1 dX12_leadsBoth_86 rfl rfl rfl ?_
              refine kx_iload_n 88 F 2 dX12_leadsBoth_87 rfl rfl rfl ?_
              refine kx_iload 90 F 8 dX12_leadsBoth_88 rfl rfl ?_
              refine kx_iload_n 91 F 3 dX12_leadsBoth_90 rfl rfl rfl ?_
              refine kx_iload 93 F 4 dX12_leadsBoth_91 rfl rfl ?_
              refine kx_bipush 95 F dX12_leadsBoth_93 (by decide) rfl ?_
              refine kx_Vi 98 (ci := 0) F (As := [vI a1, vI a2, vI x8_66, vI a3, vI a4, vI 7]) (st := []) vd_X12_432 (c_X12_bothLead G l M a1 a2 x8_66 a3 a4 7 hI_M (by omega)) kd_163 rfl rfl rfl ⟨by decide, by decide⟩ rfl rfl (Nat.le_of_ble_eq_true rfl) dX12_leadsBoth_95 rfl ?_
              intro r_88 N_89 q_90
              obtain ⟨rfl, q_90c⟩ := q_90
              refine kx_if_eq 101 F 103 dX12_leadsBoth_98 (by decide) rfl (by omega) (fun h_91 => ?_) (fun h_91 => ?_)
              · exact J_85
              · refine kx_iconst 102 F dX12_leadsBoth_101 rfl ?_
                exact kx_zret F hQ (by omega) ⟨rfl, (by omega)⟩ dX12_leadsBoth_102
          refine kx_if_ne 62 F 80 dX12_leadsBoth_59 (by decide) rfl (by omega) (fun h_92 => ?_) (fun h_92 => ?_)
          · exact J_78
          · refine kx_aload_n 63 F 0 dX12_leadsBoth_62 rfl rfl rfl ?_
            refine kx_iload_n 64 F 1 dX12_leadsBoth_63 rfl rfl rfl ?_
            refine kx_iload_n 65 F 2 dX12_leadsBoth_64 rfl rfl rfl ?_
            refine kx_iload 67 F 8 dX12_leadsBoth_65 rfl rfl ?_
            refine kx_iload_n 68 F 3 dX12_leadsBoth_67 rfl rfl rfl ?_
            refine kx_iload 70 F 4 dX12_leadsBoth_68 rfl rfl ?_
            refine kx_bipush 72 F dX12_leadsBoth_70 (by decide) rfl ?_
            refine kx_Vi 75 (ci := 0) F (As := [vI a1, vI a2, vI x8_66, vI a3, vI a4, vI 8]) (st := []) vd_X12_432 (c_X12_bothLead G l M a1 a2 x8_66 a3 a4 8 hI_M (by omega)) kd_163 rfl rfl rfl ⟨by decide, by decide⟩ rfl rfl (Nat.le_of_ble_eq_true rfl) dX12_leadsBoth_72 rfl ?_
            intro r_93 N_94 q_95
            obtain ⟨rfl, q_95c⟩ := q_95
            refine kx_if_eq 78 F 80 dX12_leadsBoth_75 (by decide) rfl (by omega) (fun h_96 => ?_) (fun h_96 => ?_)
            · exact J_78
            · refine kx_iconst 79 F dX12_leadsBoth_78 rfl ?_
              exact kx_zret F hQ (by omega) ⟨rfl, (by omega)⟩ dX12_leadsBoth_79
      refine kx_drop 6 (lo' := [some (vR G 163), some (vI a1), some (vI a2), some (vI a3), some (vI a4), some (vI a5), none, some (vI y0_24), some (vI y0_7)]) rfl ?_
      exact L_67 _ y0_7 (by omega) rfl
    refine kx_if_eq 22 F 31 dX12_leadsBoth_19 (by decide) rfl (by omega) (fun h_97 => ?_) (fun h_97 => ?_)
    · refine kx_aload_n 32 F 0 dX12_leadsBoth_31 rfl rfl rfl ?_
      refine kx_getr 35 F fl_X12_7 kd_163 rfl rfl (j := 0) rfl dX12_leadsBoth_32 (v := 164) (uq_164 (Inv.r hI_M kd_163 rfl 0 rfl rfl)) rfl ?_
      refine kx_iconst 36 F dX12_leadsBoth_35 rfl ?_
      refine kx_iald 37 F kd_164 rfl rfl (by omega) (by decide) dX12_leadsBoth_36 (v := (M 164 0)) rfl rfl ?_
      have ha_98 : atlo 0 = 0 ∧ athi 0 = 2 := at_c 0 0 (o := 0) (lo := 0) (hi := 2) (by omega) (by decide) (by decide) (by decide)
      have h_99 := Inv.g hI_M kd_164 rfl 0 (a := 0) (b := 2) ha_98.1 ha_98.2
      refine kx_aload_n 38 F 0 dX12_leadsBoth_37 rfl rfl rfl ?_
      refine kx_getr 41 F fl_X12_7 kd_163 rfl rfl (j := 0) rfl dX12_leadsBoth_38 (v := 164) (uq_164 (Inv.r hI_M kd_163 rfl 0 rfl rfl)) rfl ?_
      refine kx_iconst 42 F dX12_leadsBoth_41 rfl ?_
      refine kx_iald 43 F kd_164 rfl rfl (by omega) (by decide) dX12_leadsBoth_42 (v := (M 164 1)) rfl rfl ?_
      have ha_100 : atlo 1 = 0 ∧ athi 1 = 2 := at_c 1 0 (o := 1) (lo := 0) (hi := 2) (by omega) (by decide) (by decide) (by decide)
      have h_101 := Inv.g hI_M kd_164 rfl 1 (a := 0) (b := 2) ha_100.1 ha_100.2
      refine kx_iadd 44 F (v := (M 164 0) + (M 164 1)) dX12_leadsBoth_43 rfl rfl ?_
      exact J_25 ((M 164 0) + (M 164 1)) (by omega)
    · refine kx_aload_n 23 F 0 dX12_leadsBoth_22 rfl rfl rfl ?_
      refine kx_getr 26 F fl_X12_7 kd_163 rfl rfl (j := 0) rfl dX12_leadsBoth_23 (v := 164) (uq_164 (Inv.r hI_M kd_163 rfl 0 rfl rfl)) rfl ?_
      refine kx_iconst 27 F dX12_leadsBoth_26 rfl ?_
      refine kx_iald 28 F kd_164 rfl rfl (by omega) (by decide) dX12_leadsBoth_27 (v := (M 164 0)) rfl rfl ?_
      have ha_102 : atlo 0 = 0 ∧ athi 0 = 2 := at_c 0 0 (o := 0) (lo := 0) (hi := 2) (by omega) (by decide) (by decide) (by decide)
      have h_103 := Inv.g hI_M kd_164 rfl 0 (a := 0) (b := 2) ha_102.1 ha_102.2
      refine kx_goto 44 F dX12_leadsBoth_28 (by decide) ?_
      exact J_25 (M 164 0) (by omega)
  refine kx_if_eq 5 F 9 dX12_leadsBoth_2 (by decide) rfl (by omega) (fun h_104 => ?_) (fun h_104 => ?_)
  · refine kx_aload_n 10 F 0 dX12_leadsBoth_9 rfl rfl rfl ?_
    refine kx_getr 13 F fl_X12_7 kd_163 rfl rfl (j := 0) rfl dX12_leadsBoth_10 (v := 164) (uq_164 (Inv.r hI_M kd_163 rfl 0 rfl rfl)) rfl ?_
    refine kx_iconst 14 F dX12_leadsBoth_13 rfl ?_
    refine kx_iald 15 F kd_164 rfl rfl (by omega) (by decide) dX12_leadsBoth_14 (v := (M 164 0)) rfl rfl ?_
    have ha_105 : atlo 0 = 0 ∧ athi 0 = 2 := at_c 0 0 (o := 0) (lo := 0) (hi := 2) (by omega) (by decide) (by decide) (by decide)
    have h_106 := Inv.g hI_M kd_164 rfl 0 (a := 0) (b := 2) ha_105.1 ha_105.2
    exact J_8 (M 164 0) (by omega)
  · refine kx_iconst 6 F dX12_leadsBoth_5 rfl ?_
    refine kx_goto 15 F dX12_leadsBoth_6 (by decide) ?_
    exact J_8 0 (by omega)
set_option maxRecDepth 100000 in
theorem dGR_24_c_791 : (decode cX12_stepBy 0 = .ok (.aload_n 0, 1)) ∧ (decode cX12_stepBy 1 = .ok (.getfield 7, 3)) ∧ (decode cX12_stepBy 4 = .ok (.iconst 0, 1)) ∧ (decode cX12_stepBy 5 = .ok (.iaload, 1)) ∧ (decode cX12_stepBy 6 = .ok (.aload_n 0, 1)) ∧ (decode cX12_stepBy 7 = .ok (.getfield 7, 3)) ∧ (decode cX12_stepBy 10 = .ok (.iconst 1, 1)) ∧ (decode cX12_stepBy 11 = .ok (.iaload, 1)) ∧ (decode cX12_stepBy 12 = .ok (.iadd, 1)) ∧ (decode cX12_stepBy 13 = .ok (.istore 5, 2)) ∧ (decode cX12_stepBy 15 = .ok (.iload 5, 2)) ∧ (decode cX12_stepBy 17 = .ok (.aload_n 0, 1)) := by decide +kernel
theorem dX12_stepBy_0 : decode cX12_stepBy 0 = .ok (.aload_n 0, 1) := dGR_24_c_791.1
theorem dX12_stepBy_1 : decode cX12_stepBy 1 = .ok (.getfield 7, 3) := dGR_24_c_791.2.1
theorem dX12_stepBy_4 : decode cX12_stepBy 4 = .ok (.iconst 0, 1) := dGR_24_c_791.2.2.1
theorem dX12_stepBy_5 : decode cX12_stepBy 5 = .ok (.iaload, 1) := dGR_24_c_791.2.2.2.1
theorem dX12_stepBy_6 : decode cX12_stepBy 6 = .ok (.aload_n 0, 1) := dGR_24_c_791.2.2.2.2.1
theorem dX12_stepBy_7 : decode cX12_stepBy 7 = .ok (.getfield 7, 3) := dGR_24_c_791.2.2.2.2.2.1
theorem dX12_stepBy_10 : decode cX12_stepBy 10 = .ok (.iconst 1, 1) := dGR_24_c_791.2.2.2.2.2.2.1
theorem dX12_stepBy_11 : decode cX12_stepBy 11 = .ok (.iaload, 1) := dGR_24_c_791.2.2.2.2.2.2.2.1
theorem dX12_stepBy_12 : decode cX12_stepBy 12 = .ok (.iadd, 1) := dGR_24_c_791.2.2.2.2.2.2.2.2.1
theorem dX12_stepBy_13 : decode cX12_stepBy 13 = .ok (.istore 5, 2) := dGR_24_c_791.2.2.2.2.2.2.2.2.2.1
theorem dX12_stepBy_15 : decode cX12_stepBy 15 = .ok (.iload 5, 2) := dGR_24_c_791.2.2.2.2.2.2.2.2.2.2.1
theorem dX12_stepBy_17 : decode cX12_stepBy 17 = .ok (.aload_n 0, 1) := dGR_24_c_791.2.2.2.2.2.2.2.2.2.2.2
set_option maxRecDepth 100000 in
theorem dGR_24_c_792 : (decode cX12_stepBy 18 = .ok (.invokevirtual 285, 3)) ∧ (decode cX12_stepBy 21 = .ok (.if_icmp .ge 27, 3)) ∧ (decode cX12_stepBy 24 = .ok (.aload_n 0, 1)) ∧ (decode cX12_stepBy 25 = .ok (.iload_n 1, 1)) ∧ (decode cX12_stepBy 26 = .ok (.iload_n 2, 1)) ∧ (decode cX12_stepBy 27 = .ok (.iload 5, 2)) ∧ (decode cX12_stepBy 29 = .ok (.iload_n 3, 1)) ∧ (decode cX12_stepBy 30 = .ok (.iload 4, 2)) ∧ (decode cX12_stepBy 32 = .ok (.bipush 8, 2)) ∧ (decode cX12_stepBy 34 = .ok (.invokevirtual 432, 3)) ∧ (decode cX12_stepBy 37 = .ok (.ifCond .eq 5, 3)) ∧ (decode cX12_stepBy 40 = .ok (.iconst 1, 1)) := by decide +kernel
theorem dX12_stepBy_18 : decode cX12_stepBy 18 = .ok (.invokevirtual 285, 3) := dGR_24_c_792.1
theorem dX12_stepBy_21 : decode cX12_stepBy 21 = .ok (.if_icmp .ge 27, 3) := dGR_24_c_792.2.1
theorem dX12_stepBy_24 : decode cX12_stepBy 24 = .ok (.aload_n 0, 1) := dGR_24_c_792.2.2.1
theorem dX12_stepBy_25 : decode cX12_stepBy 25 = .ok (.iload_n 1, 1) := dGR_24_c_792.2.2.2.1
theorem dX12_stepBy_26 : decode cX12_stepBy 26 = .ok (.iload_n 2, 1) := dGR_24_c_792.2.2.2.2.1
theorem dX12_stepBy_27 : decode cX12_stepBy 27 = .ok (.iload 5, 2) := dGR_24_c_792.2.2.2.2.2.1
theorem dX12_stepBy_29 : decode cX12_stepBy 29 = .ok (.iload_n 3, 1) := dGR_24_c_792.2.2.2.2.2.2.1
theorem dX12_stepBy_30 : decode cX12_stepBy 30 = .ok (.iload 4, 2) := dGR_24_c_792.2.2.2.2.2.2.2.1
theorem dX12_stepBy_32 : decode cX12_stepBy 32 = .ok (.bipush 8, 2) := dGR_24_c_792.2.2.2.2.2.2.2.2.1
theorem dX12_stepBy_34 : decode cX12_stepBy 34 = .ok (.invokevirtual 432, 3) := dGR_24_c_792.2.2.2.2.2.2.2.2.2.1
theorem dX12_stepBy_37 : decode cX12_stepBy 37 = .ok (.ifCond .eq 5, 3) := dGR_24_c_792.2.2.2.2.2.2.2.2.2.2.1
theorem dX12_stepBy_40 : decode cX12_stepBy 40 = .ok (.iconst 1, 1) := dGR_24_c_792.2.2.2.2.2.2.2.2.2.2.2
set_option maxRecDepth 100000 in
theorem dGR_24_c_793 : (decode cX12_stepBy 41 = .ok (.ireturn, 1)) ∧ (decode cX12_stepBy 42 = .ok (.iinc 5 1, 3)) ∧ (decode cX12_stepBy 45 = .ok (.goto (-30), 3)) ∧ (decode cX12_stepBy 48 = .ok (.aload_n 0, 1)) ∧ (decode cX12_stepBy 49 = .ok (.getfield 83, 3)) ∧ (decode cX12_stepBy 52 = .ok (.bipush 9, 2)) ∧ (decode cX12_stepBy 54 = .ok (.iload_n 3, 1)) ∧ (decode cX12_stepBy 55 = .ok (.imul, 1)) ∧ (decode cX12_stepBy 56 = .ok (.iload 4, 2)) ∧ (decode cX12_stepBy 58 = .ok (.iadd, 1)) ∧ (decode cX12_stepBy 59 = .ok (.iaload, 1)) ∧ (decode cX12_stepBy 60 = .ok (.ireturn, 1)) := by decide +kernel
theorem dX12_stepBy_41 : decode cX12_stepBy 41 = .ok (.ireturn, 1) := dGR_24_c_793.1
theorem dX12_stepBy_42 : decode cX12_stepBy 42 = .ok (.iinc 5 1, 3) := dGR_24_c_793.2.1
theorem dX12_stepBy_45 : decode cX12_stepBy 45 = .ok (.goto (-30), 3) := dGR_24_c_793.2.2.1
theorem dX12_stepBy_48 : decode cX12_stepBy 48 = .ok (.aload_n 0, 1) := dGR_24_c_793.2.2.2.1
theorem dX12_stepBy_49 : decode cX12_stepBy 49 = .ok (.getfield 83, 3) := dGR_24_c_793.2.2.2.2.1
theorem dX12_stepBy_52 : decode cX12_stepBy 52 = .ok (.bipush 9, 2) := dGR_24_c_793.2.2.2.2.2.1
theorem dX12_stepBy_54 : decode cX12_stepBy 54 = .ok (.iload_n 3, 1) := dGR_24_c_793.2.2.2.2.2.2.1
theorem dX12_stepBy_55 : decode cX12_stepBy 55 = .ok (.imul, 1) := dGR_24_c_793.2.2.2.2.2.2.2.1
theorem dX12_stepBy_56 : decode cX12_stepBy 56 = .ok (.iload 4, 2) := dGR_24_c_793.2.2.2.2.2.2.2.2.1
theorem dX12_stepBy_58 : decode cX12_stepBy 58 = .ok (.iadd, 1) := dGR_24_c_793.2.2.2.2.2.2.2.2.2.1
theorem dX12_stepBy_59 : decode cX12_stepBy 59 = .ok (.iaload, 1) := dGR_24_c_793.2.2.2.2.2.2.2.2.2.2.1
theorem dX12_stepBy_60 : decode cX12_stepBy 60 = .ok (.ireturn, 1) := dGR_24_c_793.2.2.2.2.2.2.2.2.2.2.2
set_option maxHeartbeats 4000000 in
set_option maxRecDepth 100000 in
theorem c_X12_stepBy (G : KG) (l : Launch) (M : Mem) (a1 : Int) (a2 : Int) (a3 : Int) (a4 : Int) (hI_M : Inv true M) (hpre : -2147483648 ≤ a1 ∧ a1 ≤ 2147483647 ∧ -2147483648 ≤ a2 ∧ a2 ≤ 2147483647 ∧ -2147483648 ≤ a3 ∧ a3 ≤ 2147483647 ∧ -2147483648 ≤ a4 ∧ a4 ≤ 2147483647 ∧ 0 ≤ a1 ∧ a1 ≤ 2 ∧ 0 ≤ a2 ∧ a2 ≤ 2 ∧ 0 ≤ a3 ∧ a3 ≤ 8 ∧ 0 ≤ a4 ∧ a4 ≤ 8) : KC true G l yX12_stepBy cX12_stepBy 6 (some .int) (2, 49) [vR G 163, vI a1, vI a2, vI a3, vI a4] M (fun A => kQi true G A (fun (r : Int) (N : Mem) => M = N ∧ (0 ≤ r ∧ r ≤ 1000000))) := by
  refine kx_met (lo := [some (vR G 163), some (vI a1), some (vI a2), some (vI a3), some (vI a4), none]) (by decide) (Nat.le_of_ble_eq_true rfl) rfl ?_
  intro X F hQ
  refine kx_aload_n 1 F 0 dX12_stepBy_0 rfl rfl rfl ?_
  refine kx_getr 4 F fl_X12_7 kd_163 rfl rfl (j := 0) rfl dX12_stepBy_1 (v := 164) (uq_164 (Inv.r hI_M kd_163 rfl 0 rfl rfl)) rfl ?_
  refine kx_iconst 5 F dX12_stepBy_4 rfl ?_
  refine kx_iald 6 F kd_164 rfl rfl (by omega) (by decide) dX12_stepBy_5 (v := (M 164 0)) rfl rfl ?_
  have ha_1 : atlo 0 = 0 ∧ athi 0 = 2 := at_c 0 0 (o := 0) (lo := 0) (hi := 2) (by omega) (by decide) (by decide) (by decide)
  have h_2 := Inv.g hI_M kd_164 rfl 0 (a := 0) (b := 2) ha_1.1 ha_1.2
  refine kx_aload_n 7 F 0 dX12_stepBy_6 rfl rfl rfl ?_
  refine kx_getr 10 F fl_X12_7 kd_163 rfl rfl (j := 0) rfl dX12_stepBy_7 (v := 164) (uq_164 (Inv.r hI_M kd_163 rfl 0 rfl rfl)) rfl ?_
  refine kx_iconst 11 F dX12_stepBy_10 rfl ?_
  refine kx_iald 12 F kd_164 rfl rfl (by omega) (by decide) dX12_stepBy_11 (v := (M 164 1)) rfl rfl ?_
  have ha_3 : atlo 1 = 0 ∧ athi 1 = 2 := at_c 1 0 (o := 1) (lo := 0) (hi := 2) (by omega) (by decide) (by decide) (by decide)
  have h_4 := Inv.g hI_M kd_164 rfl 1 (a := 0) (b := 2) ha_3.1 ha_3.2
  refine kx_iadd 13 F (v := (M 164 0) + (M 164 1)) dX12_stepBy_12 rfl rfl ?_
  refine kx_istore 15 F 5 (lo' := [some (vR G 163), some (vI a1), some (vI a2), some (vI a3), some (vI a4), some (vI ((M 164 0) + (M 164 1)))]) dX12_stepBy_13 (by decide) rfl rfl rfl ?_
  have L_36 : ∀ (n_37 : Nat) (x5_35 : Int), 0 ≤ x5_35 ∧ x5_35 ≤ 6 ∧ (M 164 0) + (M 164 1) ≤ x5_35 → (6 - (x5_35)).toNat = n_37 → KJ true G X M 15 [some (vR G 163), some (vI a1), some (vI a2), some (vI a3), some (vI a4), some (vI x5_35)] [] := by
    intro n_37
    refine Nat.strongRecOn n_37 ?_
    intro n_37 ih_38 x5_35 h_39 hm_40
    refine kx_iload 17 F 5 dX12_stepBy_15 rfl rfl ?_
    refine kx_aload_n 18 F 0 dX12_stepBy_17 rfl rfl rfl ?_
    refine kx_Vi 21 (ci := 0) F (As := []) (st := [vI x5_35]) vd_X12_285 (c_X12_letters G l M  hI_M) kd_163 rfl rfl rfl ⟨by decide, by decide⟩ rfl rfl (Nat.le_of_ble_eq_true rfl) dX12_stepBy_18 rfl ?_
    intro r_41 N_42 q_43
    obtain ⟨rfl, q_43c⟩ := q_43
    refine kx_icmp_ge 24 F 48 dX12_stepBy_21 (by decide) rfl (by omega) (by omega) (fun h_44 => ?_) (fun h_44 => ?_)
    · refine kx_aload_n 49 F 0 dX12_stepBy_48 rfl rfl rfl ?_
      refine kx_getr 52 F fl_X12_83 kd_163 rfl rfl (j := 37) rfl dX12_stepBy_49 (v := 184) (uq_184 (Inv.r hI_M kd_163 rfl 37 rfl rfl)) rfl ?_
      refine kx_bipush 54 F dX12_stepBy_52 (by decide) rfl ?_
      refine kx_iload_n 55 F 3 dX12_stepBy_54 rfl rfl rfl ?_
      refine kx_imul 56 F (v := 9 * a3) dX12_stepBy_55 (by omega) rfl ?_
      refine kx_iload 58 F 4 dX12_stepBy_56 rfl rfl ?_
      refine kx_iadd 59 F (v := 9 * a3 + a4) dX12_stepBy_58 rfl rfl ?_
      refine kx_iald 60 F kd_184 rfl rfl (by omega) (by decide) dX12_stepBy_59 (v := (M 184 (9 * a3 + a4))) rfl rfl ?_
      have h_45 := Inv.g hI_M kd_184 rfl (9 * a3 + a4) (a := 0) (b := 1000000) rfl rfl
      exact kx_iret F hQ ⟨rfl, (by omega)⟩ dX12_stepBy_60
    · refine kx_aload_n 25 F 0 dX12_stepBy_24 rfl rfl rfl ?_
      refine kx_iload_n 26 F 1 dX12_stepBy_25 rfl rfl rfl ?_
      refine kx_iload_n 27 F 2 dX12_stepBy_26 rfl rfl rfl ?_
      refine kx_iload 29 F 5 dX12_stepBy_27 rfl rfl ?_
      refine kx_iload_n 30 F 3 dX12_stepBy_29 rfl rfl rfl ?_
      refine kx_iload 32 F 4 dX12_stepBy_30 rfl rfl ?_
      refine kx_bipush 34 F dX12_stepBy_32 (by decide) rfl ?_
      refine kx_Vi 37 (ci := 0) F (As := [vI a1, vI a2, vI x5_35, vI a3, vI a4, vI 8]) (st := []) vd_X12_432 (c_X12_bothLead G l M a1 a2 x5_35 a3 a4 8 hI_M (by omega)) kd_163 rfl rfl rfl ⟨by decide, by decide⟩ rfl rfl (Nat.le_of_ble_eq_true rfl) dX12_stepBy_34 rfl ?_
      intro r_46 N_47 q_48
      obtain ⟨rfl, q_48c⟩ := q_48
      refine kx_if_eq 40 F 42 dX12_stepBy_37 (by decide) rfl (by omega) (fun h_49 => ?_) (fun h_49 => ?_)
      · refine kx_iinc 45 F 5 (v := x5_35 + 1) (lo' := [some (vR G 163), some (vI a1), some (vI a2), some (vI a3), some (vI a4), some (vI (x5_35 + 1))]) dX12_stepBy_42 rfl (by omega) (by decide) rfl rfl rfl ?_
        refine kx_goto 15 F dX12_stepBy_45 (by decide) ?_
        exact ih_38 _ (by omega) (x5_35 + 1) (by omega) rfl
      · refine kx_iconst 41 F dX12_stepBy_40 rfl ?_
        exact kx_iret F hQ ⟨rfl, (by omega)⟩ dX12_stepBy_41
  exact L_36 _ ((M 164 0) + (M 164 1)) (by omega) rfl
