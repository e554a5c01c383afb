theorem dX12_status_0 : decode cX12_status 0 = .ok (.aload_n 0, 1) := by decide +kernel
theorem dX12_status_1 : decode cX12_status 1 = .ok (.getfield 117, 3) := by decide +kernel
theorem dX12_status_4 : decode cX12_status 4 = .ok (.ireturn, 1) := by decide +kernel
set_option maxHeartbeats 4000000 in
set_option maxRecDepth 100000 in
theorem c_X12_status (G : KG) (l : Launch) (M : Mem) (hI_M : Inv true M) : KC true G l yX12_status cX12_status 1 (some .int) (0, 0) [vR G 163] M (fun A => kQi true G A (fun (r : Int) (N : Mem) => M = N ∧ (r ≥ -2147483648 ∧ r ≤ 2147483647))) := by
  refine kx_met (lo := [some (vR G 163)]) (by decide) (Nat.le_of_ble_eq_true rfl) rfl ?_
  intro X F hQ
  refine kx_aload_n 1 F 0 dX12_status_0 rfl rfl rfl ?_
  refine kx_geti 4 F fl_X12_117 kd_163 rfl rfl (j := 2) rfl dX12_status_1 (v := (M 163 2)) rfl rfl ?_
  have h_1 := Inv.g hI_M kd_163 rfl 2 (a := (-2147483648)) (b := 2147483647) rfl rfl
  exact kx_iret F hQ ⟨rfl, (by omega)⟩ dX12_status_4
theorem dX12_top_0 : decode cX12_top 0 = .ok (.aload_n 0, 1) := by decide +kernel
theorem dX12_top_1 : decode cX12_top 1 = .ok (.getfield 120, 3) := by decide +kernel
theorem dX12_top_4 : decode cX12_top 4 = .ok (.lreturn, 1) := by decide +kernel
set_option maxHeartbeats 4000000 in
set_option maxRecDepth 100000 in
theorem c_X12_top (G : KG) (l : Launch) (M : Mem) (hI_M : Inv true M) : KC true G l yX12_top cX12_top 1 (some .long) (0, 0) [vR G 163] M (fun A => kQl true G A (fun (r : Int) (N : Mem) => M = N ∧ (r ≥ -9223372036854775808 ∧ r ≤ 9223372036854775807))) := by
  refine kx_met (lo := [some (vR G 163)]) (by decide) (Nat.le_of_ble_eq_true rfl) rfl ?_
  intro X F hQ
  refine kx_aload_n 1 F 0 dX12_top_0 rfl rfl rfl ?_
  refine kx_getl 4 F fl_X12_120 kd_163 rfl rfl (j := 3) rfl dX12_top_1 (v := (M 163 3)) rfl rfl ?_
  have h_1 := Inv.g hI_M kd_163 rfl 3 (a := (-9223372036854775808)) (b := 9223372036854775807) rfl rfl
  exact kx_lret F hQ ⟨rfl, (by omega)⟩ dX12_top_4
theorem dX12_bottom_0 : decode cX12_bottom 0 = .ok (.aload_n 0, 1) := by decide +kernel
theorem dX12_bottom_1 : decode cX12_bottom 1 = .ok (.getfield 17, 3) := by decide +kernel
theorem dX12_bottom_4 : decode cX12_bottom 4 = .ok (.lreturn, 1) := by decide +kernel
set_option maxHeartbeats 4000000 in
set_option maxRecDepth 100000 in
theorem c_X12_bottom (G : KG) (l : Launch) (M : Mem) (hI_M : Inv true M) : KC true G l yX12_bottom cX12_bottom 1 (some .long) (0, 0) [vR G 163] M (fun A => kQl true G A (fun (r : Int) (N : Mem) => M = N ∧ (r ≥ -9223372036854775808 ∧ r ≤ 9223372036854775807))) := by
  refine kx_met (lo := [some (vR G 163)]) (by decide) (Nat.le_of_ble_eq_true rfl) rfl ?_
  intro X F hQ
  refine kx_aload_n 1 F 0 dX12_bottom_0 rfl rfl rfl ?_
  refine kx_getl 4 F fl_X12_17 kd_163 rfl rfl (j := 4) rfl dX12_bottom_1 (v := (M 163 4)) rfl rfl ?_
  have h_1 := Inv.g hI_M kd_163 rfl 4 (a := (-9223372036854775808)) (b := 9223372036854775807) rfl rfl
  exact kx_lret F hQ ⟨rfl, (by omega)⟩ dX12_bottom_4
theorem dX12_is_0 : decode cX12_is 0 = .ok (.aload_n 0, 1) := by decide +kernel
theorem dX12_is_1 : decode cX12_is 1 = .ok (.iload_n 1, 1) := by decide +kernel
theorem dX12_is_2 : decode cX12_is 2 = .ok (.putfield 117, 3) := by decide +kernel
theorem dX12_is_5 : decode cX12_is 5 = .ok (.iload_n 1, 1) := by decide +kernel
theorem dX12_is_6 : decode cX12_is 6 = .ok (.ifCond .ne 7, 3) := by decide +kernel
theorem dX12_is_9 : decode cX12_is 9 = .ok (.iconst 1, 1) := by decide +kernel
theorem dX12_is_10 : decode cX12_is 10 = .ok (.goto 4, 3) := by decide +kernel
theorem dX12_is_13 : decode cX12_is 13 = .ok (.iconst 0, 1) := by decide +kernel
theorem dX12_is_14 : decode cX12_is 14 = .ok (.ireturn, 1) := by decide +kernel
abbrev f_c_X12_is : List (Nat × Int) := [(64, 2)]
set_option maxHeartbeats 4000000 in
set_option maxRecDepth 100000 in
theorem c_X12_is (G : KG) (l : Launch) (M : Mem) (a1 : Int) (hI_M : Inv true M) (hpre : -2147483648 ≤ a1 ∧ a1 ≤ 2147483647) : KC true G l yX12_is cX12_is 2 (some .boolean) (0, 0) [vR G 163, vI a1] M (fun A => kQi true G A (fun (r : Int) (N : Mem) => Inv true N ∧ Fr f_c_X12_is M N ∧ ((a1 = 0 ∧ r = 1) ∨ (a1 ≠ 0 ∧ r = 0)))) := by
  refine kx_met (lo := [some (vR G 163), some (vI a1)]) (by decide) (Nat.le_of_ble_eq_true rfl) rfl ?_
  intro X F hQ
  have hF_M : Fr f_c_X12_is M M := Fr.rf _ _
  refine kx_aload_n 1 F 0 dX12_is_0 rfl rfl rfl ?_
  refine kx_iload_n 2 F 1 dX12_is_1 rfl rfl rfl ?_
  refine kx_puti 5 F fw_X12_117 rfl kd_163 rfl rfl (j := 2) rfl dX12_is_2 rfl ?_
  intro N_1 hM_N_1
  have hI_N_1 : Inv true N_1 := Inv.u hI_M hM_N_1 kd_163 (a := (-2147483648)) (b := 2147483647) rfl rfl rfl (by omega)
  have hF_N_1 : Fr f_c_X12_is M N_1 := Fr.u hF_M hM_N_1 kd_163 rfl
  refine kx_iload_n 6 F 1 dX12_is_5 rfl rfl rfl ?_
  refine kx_if_ne 9 F 13 dX12_is_6 (by decide) rfl (by omega) (fun h_2 => ?_) (fun h_2 => ?_)
  · refine kx_iconst 14 F dX12_is_13 rfl ?_
    exact kx_zret F hQ (by omega) ⟨hI_N_1, hF_N_1, (by omega)⟩ dX12_is_14
  · refine kx_iconst 10 F dX12_is_9 rfl ?_
    refine kx_goto 14 F dX12_is_10 (by decide) ?_
    exact kx_zret F hQ (by omega) ⟨hI_N_1, hF_N_1, (by omega)⟩ dX12_is_14
theorem dX12_refuse_0 : decode cX12_refuse 0 = .ok (.aload_n 0, 1) := by decide +kernel
theorem dX12_refuse_1 : decode cX12_refuse 1 = .ok (.iload_n 1, 1) := by decide +kernel
theorem dX12_refuse_2 : decode cX12_refuse 2 = .ok (.putfield 117, 3) := by decide +kernel
theorem dX12_refuse_5 : decode cX12_refuse 5 = .ok (.iconst (-1), 1) := by decide +kernel
theorem dX12_refuse_6 : decode cX12_refuse 6 = .ok (.ireturn, 1) := by decide +kernel
abbrev f_c_X12_refuse : List (Nat × Int) := [(64, 2)]
set_option maxHeartbeats 4000000 in
set_option maxRecDepth 100000 in
theorem c_X12_refuse (G : KG) (l : Launch) (M : Mem) (a1 : Int) (hI_M : Inv true M) (hpre : -2147483648 ≤ a1 ∧ a1 ≤ 2147483647) : KC true G l yX12_refuse cX12_refuse 2 (some .int) (0, 0) [vR G 163, vI a1] M (fun A => kQi true G A (fun (r : Int) (N : Mem) => Inv true N ∧ Fr f_c_X12_refuse M N ∧ (r = -1))) := by
  refine kx_met (lo := [some (vR G 163), some (vI a1)]) (by decide) (Nat.le_of_ble_eq_true rfl) rfl ?_
  intro X F hQ
  have hF_M : Fr f_c_X12_refuse M M := Fr.rf _ _
  refine kx_aload_n 1 F 0 dX12_refuse_0 rfl rfl rfl ?_
  refine kx_iload_n 2 F 1 dX12_refuse_1 rfl rfl rfl ?_
  refine kx_puti 5 F fw_X12_117 rfl kd_163 rfl rfl (j := 2) rfl dX12_refuse_2 rfl ?_
  intro N_1 hM_N_1
  have hI_N_1 : Inv true N_1 := Inv.u hI_M hM_N_1 kd_163 (a := (-2147483648)) (b := 2147483647) rfl rfl rfl (by omega)
  have hF_N_1 : Fr f_c_X12_refuse M N_1 := Fr.u hF_M hM_N_1 kd_163 rfl
  refine kx_iconst 6 F dX12_refuse_5 rfl ?_
  exact kx_iret F hQ ⟨hI_N_1, hF_N_1, (by omega)⟩ dX12_refuse_6
theorem dX12_gives_0 : decode cX12_gives 0 = .ok (.aload_n 0, 1) := by decide +kernel
theorem dX12_gives_1 : decode cX12_gives 1 = .ok (.iconst 0, 1) := by decide +kernel
theorem dX12_gives_2 : decode cX12_gives 2 = .ok (.putfield 117, 3) := by decide +kernel
theorem dX12_gives_5 : decode cX12_gives 5 = .ok (.iload_n 1, 1) := by decide +kernel
theorem dX12_gives_6 : decode cX12_gives 6 = .ok (.ireturn, 1) := by decide +kernel
abbrev f_c_X12_gives : List (Nat × Int) := [(64, 2)]
set_option maxHeartbeats 4000000 in
set_option maxRecDepth 100000 in
theorem c_X12_gives (G : KG) (l : Launch) (M : Mem) (a1 : Int) (hI_M : Inv true M) (hpre : -2147483648 ≤ a1 ∧ a1 ≤ 2147483647) : KC true G l yX12_gives cX12_gives 2 (some .int) (0, 0) [vR G 163, vI a1] M (fun A => kQi true G A (fun (r : Int) (N : Mem) => Inv true N ∧ Fr f_c_X12_gives M N ∧ (r = a1))) := by
  refine kx_met (lo := [some (vR G 163), some (vI a1)]) (by decide) (Nat.le_of_ble_eq_true rfl) rfl ?_
  intro X F hQ
  have hF_M : Fr f_c_X12_gives M M := Fr.rf _ _
  refine kx_aload_n 1 F 0 dX12_gives_0 rfl rfl rfl ?_
  refine kx_iconst 2 F dX12_gives_1 rfl ?_
  refine kx_puti 5 F fw_X12_117 rfl kd_163 rfl rfl (j := 2) rfl dX12_gives_2 rfl ?_
  intro N_1 hM_N_1
  have hI_N_1 : Inv true N_1 := Inv.u hI_M hM_N_1 kd_163 (a := (-2147483648)) (b := 2147483647) rfl rfl rfl (by omega)
  have hF_N_1 : Fr f_c_X12_gives M N_1 := Fr.u hF_M hM_N_1 kd_163 rfl
  refine kx_iload_n 6 F 1 dX12_gives_5 rfl rfl rfl ?_
  exact kx_iret F hQ ⟨hI_N_1, hF_N_1, (by omega)⟩ dX12_gives_6
theorem dX12_orNone_0 : decode cX12_orNone 0 = .ok (.iload_n 1, 1) := by decide +kernel
theorem dX12_orNone_1 : decode cX12_orNone 1 = .ok (.iconst (-1), 1) := by decide +kernel
theorem dX12_orNone_2 : decode cX12_orNone 2 = .ok (.if_icmp .ne 10, 3) := by decide +kernel
theorem dX12_orNone_5 : decode cX12_orNone 5 = .ok (.aload_n 0, 1) := by decide +kernel
theorem dX12_orNone_6 : decode cX12_orNone 6 = .ok (.bipush 6, 2) := by decide +kernel
theorem dX12_orNone_8 : decode cX12_orNone 8 = .ok (.invokevirtual 123, 3) := by decide +kernel
theorem dX12_orNone_11 : decode cX12_orNone 11 = .ok (.ireturn, 1) := by decide +kernel
theorem dX12_orNone_12 : decode cX12_orNone 12 = .ok (.aload_n 0, 1) := by decide +kernel
theorem dX12_orNone_13 : decode cX12_orNone 13 = .ok (.iload_n 1, 1) := by decide +kernel
theorem dX12_orNone_14 : decode cX12_orNone 14 = .ok (.invokevirtual 127, 3) := by decide +kernel
theorem dX12_orNone_17 : decode cX12_orNone 17 = .ok (.ireturn, 1) := by decide +kernel
abbrev f_c_X12_orNone : List (Nat × Int) := [(64, 2)]
set_option maxHeartbeats 4000000 in
set_option maxRecDepth 100000 in
theorem c_X12_orNone (G : KG) (l : Launch) (M : Mem) (a1 : Int) (hI_M : Inv true M) (hpre : -2147483648 ≤ a1 ∧ a1 ≤ 2147483647) : KC true G l yX12_orNone cX12_orNone 2 (some .int) (1, 21) [vR G 163, vI a1] M (fun A => kQi true G A (fun (r : Int) (N : Mem) => Inv true N ∧ Fr f_c_X12_orNone M N ∧ (r ≥ -2147483648 ∧ r ≤ 2147483647))) := by
  refine kx_met (lo := [some (vR G 163), some (vI a1)]) (by decide) (Nat.le_of_ble_eq_true rfl) rfl ?_
  intro X F hQ
  have hF_M : Fr f_c_X12_orNone M M := Fr.rf _ _
  refine kx_iload_n 1 F 1 dX12_orNone_0 rfl rfl rfl ?_
  refine kx_iconst 2 F dX12_orNone_1 rfl ?_
  refine kx_icmp_ne 5 F 12 dX12_orNone_2 (by decide) rfl (by omega) (by decide) (fun h_1 => ?_) (fun h_1 => ?_)
  · refine kx_aload_n 13 F 0 dX12_orNone_12 rfl rfl rfl ?_
    refine kx_iload_n 14 F 1 dX12_orNone_13 rfl rfl rfl ?_
    refine kx_Vi 17 (ci := 0) F (As := [vI a1]) (st := []) vd_X12_127 (c_X12_gives G l M a1 hI_M (by omega)) kd_163 rfl rfl rfl ⟨by decide, by decide⟩ rfl rfl (Nat.le_of_ble_eq_true rfl) dX12_orNone_14 rfl ?_
    intro r_2 N_3 q_4
    obtain ⟨hI_N_3, hG_N_3, q_4c⟩ := q_4
    have hF_N_3 : Fr f_c_X12_orNone M N_3 := Fr.c hF_M hG_N_3 rfl
    refine kx_topi (e' := a1) (by omega) ?_
    exact kx_iret F hQ ⟨hI_N_3, hF_N_3, (by omega)⟩ dX12_orNone_17
  · refine kx_aload_n 6 F 0 dX12_orNone_5 rfl rfl rfl ?_
    refine kx_bipush 8 F dX12_orNone_6 (by decide) rfl ?_
    refine kx_Vi 11 (ci := 0) F (As := [vI 6]) (st := []) vd_X12_123 (c_X12_refuse G l M 6 hI_M (by omega)) kd_163 rfl rfl rfl ⟨by decide, by decide⟩ rfl rfl (Nat.le_of_ble_eq_true rfl) dX12_orNone_8 rfl ?_
    intro r_5 N_6 q_7
    obtain ⟨hI_N_6, hG_N_6, q_7c⟩ := q_7
    have hF_N_6 : Fr f_c_X12_orNone M N_6 := Fr.c hF_M hG_N_6 rfl
    subst q_7c
    exact kx_iret F hQ ⟨hI_N_6, hF_N_6, (by omega)⟩ dX12_orNone_11
theorem dX12_isTray_0 : decode cX12_isTray 0 = .ok (.iload_n 0, 1) := by decide +kernel
theorem dX12_isTray_1 : decode cX12_isTray 1 = .ok (.ifCond .lt 12, 3) := by decide +kernel
theorem dX12_isTray_4 : decode cX12_isTray 4 = .ok (.iload_n 0, 1) := by decide +kernel
theorem dX12_isTray_5 : decode cX12_isTray 5 = .ok (.iconst 4, 1) := by decide +kernel
theorem dX12_isTray_6 : decode cX12_isTray 6 = .ok (.if_icmp .ge 7, 3) := by decide +kernel
theorem dX12_isTray_9 : decode cX12_isTray 9 = .ok (.iconst 1, 1) := by decide +kernel
theorem dX12_isTray_10 : decode cX12_isTray 10 = .ok (.goto 4, 3) := by decide +kernel
theorem dX12_isTray_13 : decode cX12_isTray 13 = .ok (.iconst 0, 1) := by decide +kernel
theorem dX12_isTray_14 : decode cX12_isTray 14 = .ok (.ireturn, 1) := by decide +kernel
set_option maxHeartbeats 4000000 in
set_option maxRecDepth 100000 in
theorem c_X12_isTray (G : KG) (l : Launch) (M : Mem) (a0 : Int) (hI_M : Inv true M) (hpre : -2147483648 ≤ a0 ∧ a0 ≤ 2147483647) : KC true G l yX12_isTray cX12_isTray 1 (some .boolean) (0, 0) [vI a0] M (fun A => kQi true G A (fun (r : Int) (N : Mem) => M = N ∧ ((r = 1 ∧ 0 ≤ a0 ∧ a0 ≤ 3) ∨ (r = 0)))) := by
  refine kx_met (lo := [some (vI a0)]) (by decide) (Nat.le_of_ble_eq_true rfl) rfl ?_
  intro X F hQ
  refine kx_iload_n 1 F 0 dX12_isTray_0 rfl rfl rfl ?_
  refine kx_if_lt 4 F 13 dX12_isTray_1 (by decide) rfl (by omega) (fun h_1 => ?_) (fun h_1 => ?_)
  · refine kx_iconst 14 F dX12_isTray_13 rfl ?_
    exact kx_zret F hQ (by omega) ⟨rfl, (by omega)⟩ dX12_isTray_14
  · refine kx_iload_n 5 F 0 dX12_isTray_4 rfl rfl rfl ?_
    refine kx_iconst 6 F dX12_isTray_5 rfl ?_
    refine kx_icmp_ge 9 F 13 dX12_isTray_6 (by decide) rfl (by omega) (by decide) (fun h_2 => ?_) (fun h_2 => ?_)
    · refine kx_iconst 14 F dX12_isTray_13 rfl ?_
      exact kx_zret F hQ (by omega) ⟨rfl, (by omega)⟩ dX12_isTray_14
    · refine kx_iconst 10 F dX12_isTray_9 rfl ?_
      refine kx_goto 14 F dX12_isTray_10 (by decide) ?_
      exact kx_zret F hQ (by omega) ⟨rfl, (by omega)⟩ dX12_isTray_14
theorem dX12_cut_0 : decode cX12_cut 0 = .ok (.iload_n 2, 1) := by decide +kernel
theorem dX12_cut_1 : decode cX12_cut 1 = .ok (.ifCond .ne 10, 3) := by decide +kernel
theorem dX12_cut_4 : decode cX12_cut 4 = .ok (.lload_n 0, 1) := by decide +kernel
theorem dX12_cut_5 : decode cX12_cut 5 = .ok (.l2i, 1) := by decide +kernel
theorem dX12_cut_6 : decode cX12_cut 6 = .ok (.i2b, 1) := by decide +kernel
theorem dX12_cut_7 : decode cX12_cut 7 = .ok (.i2l, 1) := by decide +kernel
theorem dX12_cut_8 : decode cX12_cut 8 = .ok (.goto 27, 3) := by decide +kernel
theorem dX12_cut_11 : decode cX12_cut 11 = .ok (.iload_n 2, 1) := by decide +kernel
theorem dX12_cut_12 : decode cX12_cut 12 = .ok (.iconst 1, 1) := by decide +kernel
theorem dX12_cut_13 : decode cX12_cut 13 = .ok (.if_icmp .ne 10, 3) := by decide +kernel
theorem dX12_cut_16 : decode cX12_cut 16 = .ok (.lload_n 0, 1) := by decide +kernel
theorem dX12_cut_17 : decode cX12_cut 17 = .ok (.l2i, 1) := by decide +kernel
theorem dX12_cut_18 : decode cX12_cut 18 = .ok (.i2s, 1) := by decide +kernel
theorem dX12_cut_19 : decode cX12_cut 19 = .ok (.i2l, 1) := by decide +kernel
theorem dX12_cut_20 : decode cX12_cut 20 = .ok (.goto 15, 3) := by decide +kernel
theorem dX12_cut_23 : decode cX12_cut 23 = .ok (.iload_n 2, 1) := by decide +kernel
theorem dX12_cut_24 : decode cX12_cut 24 = .ok (.iconst 2, 1) := by decide +kernel
theorem dX12_cut_25 : decode cX12_cut 25 = .ok (.if_icmp .ne 9, 3) := by decide +kernel
theorem dX12_cut_28 : decode cX12_cut 28 = .ok (.lload_n 0, 1) := by decide +kernel
theorem dX12_cut_29 : decode cX12_cut 29 = .ok (.l2i, 1) := by decide +kernel
theorem dX12_cut_30 : decode cX12_cut 30 = .ok (.i2l, 1) := by decide +kernel
theorem dX12_cut_31 : decode cX12_cut 31 = .ok (.goto 4, 3) := by decide +kernel
theorem dX12_cut_34 : decode cX12_cut 34 = .ok (.lload_n 0, 1) := by decide +kernel
theorem dX12_cut_35 : decode cX12_cut 35 = .ok (.lreturn, 1) := by decide +kernel
set_option maxHeartbeats 4000000 in
set_option maxRecDepth 100000 in
theorem c_X12_cut (G : KG) (l : Launch) (M : Mem) (a0 : Int) (a1 : Int) (hI_M : Inv true M) (hpre : -9223372036854775808 ≤ a0 ∧ a0 ≤ 9223372036854775807 ∧ -2147483648 ≤ a1 ∧ a1 ≤ 2147483647) : KC true G l yX12_cut cX12_cut 3 (some .long) (0, 0) [vL a0, vI a1] M (fun A => kQl true G A (fun (r : Int) (N : Mem) => M = N ∧ (r ≥ -9223372036854775808 ∧ r ≤ 9223372036854775807))) := by
  refine kx_met (lo := [some (vL a0), none, some (vI a1)]) (by decide) (Nat.le_of_ble_eq_true rfl) rfl ?_
  intro X F hQ
  refine kx_iload_n 1 F 2 dX12_cut_0 rfl rfl rfl ?_
  refine kx_if_ne 4 F 11 dX12_cut_1 (by decide) rfl (by omega) (fun h_1 => ?_) (fun h_1 => ?_)
  · refine kx_iload_n 12 F 2 dX12_cut_11 rfl rfl rfl ?_
    refine kx_iconst 13 F dX12_cut_12 rfl ?_
    refine kx_icmp_ne 16 F 23 dX12_cut_13 (by decide) rfl (by omega) (by decide) (fun h_2 => ?_) (fun h_2 => ?_)
    · refine kx_iload_n 24 F 2 dX12_cut_23 rfl rfl rfl ?_
      refine kx_iconst 25 F dX12_cut_24 rfl ?_
      refine kx_icmp_ne 28 F 34 dX12_cut_25 (by decide) rfl (by omega) (by decide) (fun h_3 => ?_) (fun h_3 => ?_)
      · refine kx_lload_n 35 F 0 dX12_cut_34 rfl rfl rfl ?_
        exact kx_lret F hQ ⟨rfl, (by omega)⟩ dX12_cut_35
      · refine kx_lload_n 29 F 0 dX12_cut_28 rfl rfl rfl ?_
        refine kx_l2i 30 F dX12_cut_29 rfl ?_
        refine kx_wrapi (fun w_4 h_5 _ => ?_)
        refine kx_i2l 31 F dX12_cut_30 (by omega) rfl ?_
        refine kx_goto 35 F dX12_cut_31 (by decide) ?_
        exact kx_lret F hQ ⟨rfl, (by omega)⟩ dX12_cut_35
    · refine kx_lload_n 17 F 0 dX12_cut_16 rfl rfl rfl ?_
      refine kx_l2i 18 F dX12_cut_17 rfl ?_
      refine kx_wrapi (fun w_6 h_7 _ => ?_)
      refine kx_i2s 19 F dX12_cut_18 rfl (fun w_8 h_9 _ => ?_)
      refine kx_i2l 20 F dX12_cut_19 (by omega) rfl ?_
      refine kx_goto 35 F dX12_cut_20 (by decide) ?_
      exact kx_lret F hQ ⟨rfl, (by omega)⟩ dX12_cut_35
  · refine kx_lload_n 5 F 0 dX12_cut_4 rfl rfl rfl ?_
    refine kx_l2i 6 F dX12_cut_5 rfl ?_
    refine kx_wrapi (fun w_10 h_11 _ => ?_)
    refine kx_i2b 7 F dX12_cut_6 rfl (fun w_12 h_13 _ => ?_)
    refine kx_i2l 8 F dX12_cut_7 (by omega) rfl ?_
    refine kx_goto 35 F dX12_cut_8 (by decide) ?_
    exact kx_lret F hQ ⟨rfl, (by omega)⟩ dX12_cut_35
theorem dX12_plain_0 : decode cX12_plain 0 = .ok (.iconst 0, 1) := by decide +kernel
theorem dX12_plain_1 : decode cX12_plain 1 = .ok (.istore_n 2, 1) := by decide +kernel
theorem dX12_plain_2 : decode cX12_plain 2 = .ok (.iload_n 2, 1) := by decide +kernel
theorem dX12_plain_3 : decode cX12_plain 3 = .ok (.sipush 272, 3) := by decide +kernel
theorem dX12_plain_6 : decode cX12_plain 6 = .ok (.if_icmp .ge 18, 3) := by decide +kernel
theorem dX12_plain_9 : decode cX12_plain 9 = .ok (.aload_n 0, 1) := by decide +kernel
theorem dX12_plain_10 : decode cX12_plain 10 = .ok (.getfield 7, 3) := by decide +kernel
theorem dX12_plain_13 : decode cX12_plain 13 = .ok (.iload_n 1, 1) := by decide +kernel
theorem dX12_plain_14 : decode cX12_plain 14 = .ok (.iload_n 2, 1) := by decide +kernel
theorem dX12_plain_15 : decode cX12_plain 15 = .ok (.iadd, 1) := by decide +kernel
theorem dX12_plain_16 : decode cX12_plain 16 = .ok (.iconst 0, 1) := by decide +kernel
theorem dX12_plain_17 : decode cX12_plain 17 = .ok (.iastore, 1) := by decide +kernel
theorem dX12_plain_18 : decode cX12_plain 18 = .ok (.iinc 2 1, 3) := by decide +kernel
theorem dX12_plain_21 : decode cX12_plain 21 = .ok (.goto (-19), 3) := by decide +kernel
theorem dX12_plain_24 : decode cX12_plain 24 = .ok (.aload_n 0, 1) := by decide +kernel
theorem dX12_plain_25 : decode cX12_plain 25 = .ok (.getfield 7, 3) := by decide +kernel
theorem dX12_plain_28 : decode cX12_plain 28 = .ok (.iload_n 1, 1) := by decide +kernel
theorem dX12_plain_29 : decode cX12_plain 29 = .ok (.iconst 4, 1) := by decide +kernel
theorem dX12_plain_30 : decode cX12_plain 30 = .ok (.iadd, 1) := by decide +kernel
theorem dX12_plain_31 : decode cX12_plain 31 = .ok (.iconst (-1), 1) := by decide +kernel
theorem dX12_plain_32 : decode cX12_plain 32 = .ok (.iastore, 1) := by decide +kernel
theorem dX12_plain_33 : decode cX12_plain 33 = .ok (.return_, 1) := by decide +kernel
abbrev f_c_plain0 : List (Nat × Int) := [(65, -1)]
set_option maxHeartbeats 4000000 in
set_option maxRecDepth 100000 in
theorem c_plain0 (G : KG) (l : Launch) (M : Mem) (a1 : Int) (hI_M : Inv true M) (hpre : -2147483648 ≤ a1 ∧ a1 ≤ 2147483647 ∧ a1 = 0) : KC true G l yX12_plain cX12_plain 3 none (0, 0) [vR G 163, vI a1] M (fun A => kQv true G A (fun (N : Mem) => Inv true N ∧ Fr f_c_plain0 M N)) := by
  refine kx_met (lo := [some (vR G 163), some (vI a1), none]) (by decide) (Nat.le_of_ble_eq_true rfl) rfl ?_
  intro X F hQ
  have hF_M : Fr f_c_plain0 M M := Fr.rf _ _
  refine kx_iconst 1 F dX12_plain_0 rfl ?_
  refine kx_istore_n 2 F 2 (lo' := [some (vR G 163), some (vI a1), some (vI 0)]) dX12_plain_1 rfl (by decide) rfl rfl rfl ?_
  have L_42 : ∀ (n_43 : Nat) (x2_40 : Int) (N_41 : Mem), Inv true N_41 → Fr f_c_plain0 M N_41 → 0 ≤ x2_40 ∧ x2_40 ≤ 272 → (272 - (x2_40)).toNat = n_43 → KJ true G X N_41 2 [some (vR G 163), some (vI a1), some (vI x2_40)] [] := by
    intro n_43
    refine Nat.strongRecOn n_43 ?_
    intro n_43 ih_44 x2_40 N_41 hI_N_41 hF_N_41 h_45 hm_46
    refine kx_iload_n 3 F 2 dX12_plain_2 rfl rfl rfl ?_
    refine kx_sipush 6 F dX12_plain_3 (by decide) rfl ?_
    refine kx_icmp_ge 9 F 24 dX12_plain_6 (by decide) rfl (by omega) (by decide) (fun h_47 => ?_) (fun h_47 => ?_)
    · refine kx_aload_n 25 F 0 dX12_plain_24 rfl rfl rfl ?_
      refine kx_getr 28 F fl_X12_7 kd_163 rfl rfl (j := 0) rfl dX12_plain_25 (v := 164) (uq_164 (Inv.r hI_N_41 kd_163 rfl 0 rfl rfl)) rfl ?_
      refine kx_iload_n 29 F 1 dX12_plain_28 rfl rfl rfl ?_
      refine kx_iconst 30 F dX12_plain_29 rfl ?_
      refine kx_iadd 31 F (v := a1 + 4) dX12_plain_30 rfl rfl ?_
      refine kx_iconst 32 F dX12_plain_31 rfl ?_
      refine kx_iast 33 F kd_164 rfl rfl (by omega) (by decide) dX12_plain_32 rfl ?_
      intro N_48 hM_N_48
      have ha_49 : atlo (a1 + 4) = (-1) ∧ athi (a1 + 4) = 1 := at_c (a1 + 4) 0 (o := 4) (lo := (-1)) (hi := 1) (by omega) (by decide) (by decide) (by decide)
      have hI_N_48 : Inv true N_48 := Inv.u hI_N_41 hM_N_48 kd_164 (a := (-1)) (b := 1) ha_49.1 ha_49.2 rfl (by omega)
      have hF_N_48 : Fr f_c_plain0 M N_48 := Fr.u hF_N_41 hM_N_48 kd_164 rfl
      exact kx_vret F hQ ⟨hI_N_48, hF_N_48⟩ dX12_plain_33
    · refine kx_aload_n 10 F 0 dX12_plain_9 rfl rfl rfl ?_
      refine kx_getr 13 F fl_X12_7 kd_163 rfl rfl (j := 0) rfl dX12_plain_10 (v := 164) (uq_164 (Inv.r hI_N_41 kd_163 rfl 0 rfl rfl)) rfl ?_
      refine kx_iload_n 14 F 1 dX12_plain_13 rfl rfl rfl ?_
      refine kx_iload_n 15 F 2 dX12_plain_14 rfl rfl rfl ?_
      refine kx_iadd 16 F (v := a1 + x2_40) dX12_plain_15 rfl rfl ?_
      refine kx_iconst 17 F dX12_plain_16 rfl ?_
      refine kx_iast 18 F kd_164 rfl rfl (by omega) (by decide) dX12_plain_17 rfl ?_
      intro N_50 hM_N_50
      have h_51 := at_0 (a1 + x2_40)
      have hI_N_50 : Inv true N_50 := Inv.u hI_N_41 hM_N_50 kd_164 (a := atlo (a1 + x2_40)) (b := athi (a1 + x2_40)) rfl rfl rfl (by omega)
      have hF_N_50 : Fr f_c_plain0 M N_50 := Fr.u hF_N_41 hM_N_50 kd_164 rfl
      refine kx_iinc 21 F 2 (v := x2_40 + 1) (lo' := [some (vR G 163), some (vI a1), some (vI (x2_40 + 1))]) dX12_plain_18 rfl (by omega) (by decide) rfl rfl rfl ?_
      refine kx_goto 2 F dX12_plain_21 (by decide) ?_
      exact ih_44 _ (by omega) (x2_40 + 1) N_50 hI_N_50 hF_N_50 (by omega) rfl
  exact L_42 _ 0 M hI_M hF_M (by omega) rfl
abbrev f_c_plainN : List (Nat × Int) := [(65, -1)]
set_option maxHeartbeats 4000000 in
set_option maxRecDepth 100000 in
theorem c_plainN (G : KG) (l : Launch) (M : Mem) (a1 : Int) (hI_M : Inv true M) (hpre : -2147483648 ≤ a1 ∧ a1 ≤ 2147483647 ∧ a1 = 1088) : KC true G l yX12_plain cX12_plain 3 none (0, 0) [vR G 163, vI a1] M (fun A => kQv true G A (fun (N : Mem) => Inv true N ∧ Fr f_c_plainN M N ∧ (LO N M ∧ R4 N))) := by
  refine kx_met (lo := [some (vR G 163), some (vI a1), none]) (by decide) (Nat.le_of_ble_eq_true rfl) rfl ?_
  intro X F hQ
  have hF_M : Fr f_c_plainN M M := Fr.rf _ _
  refine kx_iconst 1 F dX12_plain_0 rfl ?_
  refine kx_istore_n 2 F 2 (lo' := [some (vR G 163), some (vI a1), some (vI 0)]) dX12_plain_1 rfl (by decide) rfl rfl rfl ?_
  have L_42 : ∀ (n_43 : Nat) (x2_40 : Int) (N_41 : Mem), Inv true N_41 → Fr f_c_plainN M N_41 → PZ N_41 M x2_40 → 0 ≤ x2_40 ∧ x2_40 ≤ 272 → (272 - (x2_40)).toNat = n_43 → KJ true G X N_41 2 [some (vR G 163), some (vI a1), some (vI x2_40)] [] := by
    intro n_43
    refine Nat.strongRecOn n_43 ?_
    intro n_43 ih_44 x2_40 N_41 hI_N_41 hF_N_41 hp_47 h_45 hm_46
    refine kx_iload_n 3 F 2 dX12_plain_2 rfl rfl rfl ?_
    refine kx_sipush 6 F dX12_plain_3 (by decide) rfl ?_
    refine kx_icmp_ge 9 F 24 dX12_plain_6 (by decide) rfl (by omega) (by decide) (fun h_48 => ?_) (fun h_48 => ?_)
    · refine kx_aload_n 25 F 0 dX12_plain_24 rfl rfl rfl ?_
      refine kx_getr 28 F fl_X12_7 kd_163 rfl rfl (j := 0) rfl dX12_plain_25 (v := 164) (uq_164 (Inv.r hI_N_41 kd_163 rfl 0 rfl rfl)) rfl ?_
      refine kx_iload_n 29 F 1 dX12_plain_28 rfl rfl rfl ?_
      refine kx_iconst 30 F dX12_plain_29 rfl ?_
      refine kx_iadd 31 F (v := a1 + 4) dX12_plain_30 rfl rfl ?_
      refine kx_iconst 32 F dX12_plain_31 rfl ?_
      refine kx_iast 33 F kd_164 rfl rfl (by omega) (by decide) dX12_plain_32 rfl ?_
      intro N_49 hM_N_49
      have ha_50 : atlo (a1 + 4) = (-1) ∧ athi (a1 + 4) = 1 := at_c (a1 + 4) 4 (o := 4) (lo := (-1)) (hi := 1) (by omega) (by decide) (by decide) (by decide)
      have hI_N_49 : Inv true N_49 := Inv.u hI_N_41 hM_N_49 kd_164 (a := (-1)) (b := 1) ha_50.1 ha_50.2 rfl (by omega)
      have hF_N_49 : Fr f_c_plainN M N_49 := Fr.u hF_N_41 hM_N_49 kd_164 rfl
      exact kx_vret F hQ ⟨hI_N_49, hF_N_49, (PZ.done (by rw [show (272 : Int) = x2_40 by omega]; exact hp_47) (by rw [hM_N_49, show a1 + 4 = 1092 by omega]))⟩ dX12_plain_33
    · refine kx_aload_n 10 F 0 dX12_plain_9 rfl rfl rfl ?_
      refine kx_getr 13 F fl_X12_7 kd_163 rfl rfl (j := 0) rfl dX12_plain_10 (v := 164) (uq_164 (Inv.r hI_N_41 kd_163 rfl 0 rfl rfl)) rfl ?_
      refine kx_iload_n 14 F 1 dX12_plain_13 rfl rfl rfl ?_
      refine kx_iload_n 15 F 2 dX12_plain_14 rfl rfl rfl ?_
      refine kx_iadd 16 F (v := a1 + x2_40) dX12_plain_15 rfl rfl ?_
      refine kx_iconst 17 F dX12_plain_16 rfl ?_
      refine kx_iast 18 F kd_164 rfl rfl (by omega) (by decide) dX12_plain_17 rfl ?_
      intro N_51 hM_N_51
      have h_52 := at_0 (a1 + x2_40)
      have hI_N_51 : Inv true N_51 := Inv.u hI_N_41 hM_N_51 kd_164 (a := atlo (a1 + x2_40)) (b := athi (a1 + x2_40)) rfl rfl rfl (by omega)
      have hF_N_51 : Fr f_c_plainN M N_51 := Fr.u hF_N_41 hM_N_51 kd_164 rfl
      refine kx_iinc 21 F 2 (v := x2_40 + 1) (lo' := [some (vR G 163), some (vI a1), some (vI (x2_40 + 1))]) dX12_plain_18 rfl (by omega) (by decide) rfl rfl rfl ?_
      refine kx_goto 2 F dX12_plain_21 (by decide) ?_
      exact ih_44 _ (by omega) (x2_40 + 1) N_51 hI_N_51 hF_N_51 (PZ.step hp_47 (by omega) hM_N_51 (by omega) (by omega)) (by omega) rfl
  exact L_42 _ 0 M hI_M hF_M (PZ.nil M) (by omega) rfl
theorem dX12_tray_0 : decode cX12_tray 0 = .ok (.iload_n 1, 1) := by decide +kernel
theorem dX12_tray_1 : decode cX12_tray 1 = .ok (.invokestatic 134, 3) := by decide +kernel
theorem dX12_tray_4 : decode cX12_tray 4 = .ok (.ifCond .eq 22, 3) := by decide +kernel
theorem dX12_tray_7 : decode cX12_tray 7 = .ok (.iload_n 2, 1) := by decide +kernel
theorem dX12_tray_8 : decode cX12_tray 8 = .ok (.ifCond .lt 18, 3) := by decide +kernel
theorem dX12_tray_11 : decode cX12_tray 11 = .ok (.iload_n 2, 1) := by decide +kernel
theorem dX12_tray_12 : decode cX12_tray 12 = .ok (.iconst 3, 1) := by decide +kernel
theorem dX12_tray_13 : decode cX12_tray 13 = .ok (.if_icmp .gt 13, 3) := by decide +kernel
theorem dX12_tray_16 : decode cX12_tray 16 = .ok (.iload_n 3, 1) := by decide +kernel
theorem dX12_tray_17 : decode cX12_tray 17 = .ok (.ifCond .lt 9, 3) := by decide +kernel
theorem dX12_tray_20 : decode cX12_tray 20 = .ok (.iload_n 3, 1) := by decide +kernel
theorem dX12_tray_21 : decode cX12_tray 21 = .ok (.bipush 60, 2) := by decide +kernel
theorem dX12_tray_23 : decode cX12_tray 23 = .ok (.if_icmp .le 9, 3) := by decide +kernel
theorem dX12_tray_26 : decode cX12_tray 26 = .ok (.aload_n 0, 1) := by decide +kernel
theorem dX12_tray_27 : decode cX12_tray 27 = .ok (.iconst 1, 1) := by decide +kernel
theorem dX12_tray_28 : decode cX12_tray 28 = .ok (.invokevirtual 130, 3) := by decide +kernel
theorem dX12_tray_31 : decode cX12_tray 31 = .ok (.ireturn, 1) := by decide +kernel
theorem dX12_tray_32 : decode cX12_tray 32 = .ok (.aload_n 0, 1) := by decide +kernel
theorem dX12_tray_33 : decode cX12_tray 33 = .ok (.getfield 21, 3) := by decide +kernel
theorem dX12_tray_36 : decode cX12_tray 36 = .ok (.iload_n 1, 1) := by decide +kernel
theorem dX12_tray_37 : decode cX12_tray 37 = .ok (.iload_n 2, 1) := by decide +kernel
theorem dX12_tray_38 : decode cX12_tray 38 = .ok (.iastore, 1) := by decide +kernel
theorem dX12_tray_39 : decode cX12_tray 39 = .ok (.aload_n 0, 1) := by decide +kernel
theorem dX12_tray_40 : decode cX12_tray 40 = .ok (.getfield 24, 3) := by decide +kernel
theorem dX12_tray_43 : decode cX12_tray 43 = .ok (.iload_n 1, 1) := by decide +kernel
theorem dX12_tray_44 : decode cX12_tray 44 = .ok (.iload_n 3, 1) := by decide +kernel
theorem dX12_tray_45 : decode cX12_tray 45 = .ok (.iastore, 1) := by decide +kernel
theorem dX12_tray_46 : decode cX12_tray 46 = .ok (.iconst 0, 1) := by decide +kernel
theorem dX12_tray_47 : decode cX12_tray 47 = .ok (.istore 4, 2) := by decide +kernel
theorem dX12_tray_49 : decode cX12_tray 49 = .ok (.iload 4, 2) := by decide +kernel
theorem dX12_tray_51 : decode cX12_tray 51 = .ok (.iload_n 3, 1) := by decide +kernel
theorem dX12_tray_52 : decode cX12_tray 52 = .ok (.if_icmp .ge 22, 3) := by decide +kernel
theorem dX12_tray_55 : decode cX12_tray 55 = .ok (.aload_n 0, 1) := by decide +kernel
theorem dX12_tray_56 : decode cX12_tray 56 = .ok (.getfield 27, 3) := by decide +kernel
theorem dX12_tray_59 : decode cX12_tray 59 = .ok (.bipush 60, 2) := by decide +kernel
theorem dX12_tray_61 : decode cX12_tray 61 = .ok (.iload_n 1, 1) := by decide +kernel
theorem dX12_tray_62 : decode cX12_tray 62 = .ok (.imul, 1) := by decide +kernel
theorem dX12_tray_63 : decode cX12_tray 63 = .ok (.iload 4, 2) := by decide +kernel
theorem dX12_tray_65 : decode cX12_tray 65 = .ok (.iadd, 1) := by decide +kernel
theorem dX12_tray_66 : decode cX12_tray 66 = .ok (.lconst 0, 1) := by decide +kernel
theorem dX12_tray_67 : decode cX12_tray 67 = .ok (.lastore, 1) := by decide +kernel
theorem dX12_tray_68 : decode cX12_tray 68 = .ok (.iinc 4 1, 3) := by decide +kernel
theorem dX12_tray_71 : decode cX12_tray 71 = .ok (.goto (-22), 3) := by decide +kernel
theorem dX12_tray_74 : decode cX12_tray 74 = .ok (.aload_n 0, 1) := by decide +kernel
theorem dX12_tray_75 : decode cX12_tray 75 = .ok (.iconst 0, 1) := by decide +kernel
theorem dX12_tray_76 : decode cX12_tray 76 = .ok (.invokevirtual 130, 3) := by decide +kernel
theorem dX12_tray_79 : decode cX12_tray 79 = .ok (.ireturn, 1) := by decide +kernel
abbrev f_c_X12_tray : List (Nat × Int) := [(64, 2), (67, -1), (68, -1), (69, -1)]
set_option maxHeartbeats 4000000 in
set_option maxRecDepth 100000 in
theorem c_X12_tray (G : KG) (l : Launch) (M : Mem) (a1 : Int) (a2 : Int) (a3 : Int) (hI_M : Inv true M) (hpre : -2147483648 ≤ a1 ∧ a1 ≤ 2147483647 ∧ -2147483648 ≤ a2 ∧ a2 ≤ 2147483647 ∧ -2147483648 ≤ a3 ∧ a3 ≤ 2147483647) : KC true G l yX12_tray cX12_tray 5 (some .boolean) (1, 21) [vR G 163, vI a1, vI a2, vI a3] M (fun A => kQi true G A (fun (r : Int) (N : Mem) => Inv true N ∧ Fr f_c_X12_tray M N ∧ (0 ≤ r ∧ r ≤ 1))) := by
  refine kx_met (lo := [some (vR G 163), some (vI a1), some (vI a2), some (vI a3), none]) (by decide) (Nat.le_of_ble_eq_true rfl) rfl ?_
  intro X F hQ
  have hF_M : Fr f_c_X12_tray M M := Fr.rf _ _
  refine kx_iload_n 1 F 1 dX12_tray_0 rfl rfl rfl ?_
  refine kx_Si 4 F (As := [vI a1]) (st := []) sd_X12_134 (c_X12_isTray G l M a1 hI_M (by omega)) ⟨by decide, by decide⟩ rfl rfl (Nat.le_of_ble_eq_true rfl) dX12_tray_1 rfl ?_
  intro r_1 N_2 q_3
  obtain ⟨rfl, q_3c⟩ := q_3
  rcases q_3c with q_3c | q_3c
  · refine kx_if_eq 7 F 26 dX12_tray_4 (by decide) rfl (by omega) (fun h_4 => (by exfalso; omega)) (fun h_4 => ?_)
    refine kx_iload_n 8 F 2 dX12_tray_7 rfl rfl rfl ?_
    refine kx_if_lt 11 F 26 dX12_tray_8 (by decide) rfl (by omega) (fun h_5 => ?_) (fun h_5 => ?_)
    · refine kx_aload_n 27 F 0 dX12_tray_26 rfl rfl rfl ?_
      refine kx_iconst 28 F dX12_tray_27 rfl ?_
      refine kx_Vi 31 (ci := 0) F (As := [vI 1]) (st := []) vd_X12_130 (c_X12_is G l M 1 hI_M (by omega)) kd_163 rfl rfl rfl ⟨by decide, by decide⟩ rfl rfl (Nat.le_of_ble_eq_true rfl) dX12_tray_28 rfl ?_
      intro r_6 N_7 q_8
      obtain ⟨hI_N_7, hG_N_7, q_8c⟩ := q_8
      have hF_N_7 : Fr f_c_X12_tray M N_7 := Fr.c hF_M hG_N_7 rfl
      rcases q_8c with q_8c | q_8c
      · exfalso; omega
      · exact kx_zret F hQ (by omega) ⟨hI_N_7, hF_N_7, (by omega)⟩ dX12_tray_31
    · refine kx_iload_n 12 F 2 dX12_tray_11 rfl rfl rfl ?_
      refine kx_iconst 13 F dX12_tray_12 rfl ?_
      refine kx_icmp_gt 16 F 26 dX12_tray_13 (by decide) rfl (by omega) (by decide) (fun h_9 => ?_) (fun h_9 => ?_)
      · refine kx_aload_n 27 F 0 dX12_tray_26 rfl rfl rfl ?_
        refine kx_iconst 28 F dX12_tray_27 rfl ?_
        refine kx_Vi 31 (ci := 0) F (As := [vI 1]) (st := []) vd_X12_130 (c_X12_is G l M 1 hI_M (by omega)) kd_163 rfl rfl rfl ⟨by decide, by decide⟩ rfl rfl (Nat.le_of_ble_eq_true rfl) dX12_tray_28 rfl ?_
        intro r_10 N_11 q_12
        obtain ⟨hI_N_11, hG_N_11, q_12c⟩ := q_12
        have hF_N_11 : Fr f_c_X12_tray M N_11 := Fr.c hF_M hG_N_11 rfl
        rcases q_12c with q_12c | q_12c
        · exfalso; omega
        · exact kx_zret F hQ (by omega) ⟨hI_N_11, hF_N_11, (by omega)⟩ dX12_tray_31
      · refine kx_iload_n 17 F 3 dX12_tray_16 rfl rfl rfl ?_
        refine kx_if_lt 20 F 26 dX12_tray_17 (by decide) rfl (by omega) (fun h_13 => ?_) (fun h_13 => ?_)
        · refine kx_aload_n 27 F 0 dX12_tray_26 rfl rfl rfl ?_
          refine kx_iconst 28 F dX12_tray_27 rfl ?_
          refine kx_Vi 31 (ci := 0) F (As := [vI 1]) (st := []) vd_X12_130 (c_X12_is G l M 1 hI_M (by omega)) kd_163 rfl rfl rfl ⟨by decide, by decide⟩ rfl rfl (Nat.le_of_ble_eq_true rfl) dX12_tray_28 rfl ?_
          intro r_14 N_15 q_16
          obtain ⟨hI_N_15, hG_N_15, q_16c⟩ := q_16
          have hF_N_15 : Fr f_c_X12_tray M N_15 := Fr.c hF_M hG_N_15 rfl
          rcases q_16c with q_16c | q_16c
          · exfalso; omega
          · exact kx_zret F hQ (by omega) ⟨hI_N_15, hF_N_15, (by omega)⟩ dX12_tray_31
        · refine kx_iload_n 21 F 3 dX12_tray_20 rfl rfl rfl ?_
          refine kx_bipush 23 F dX12_tray_21 (by decide) rfl ?_
          refine kx_icmp_le 26 F 32 dX12_tray_23 (by decide) rfl (by omega) (by decide) (fun h_17 => ?_) (fun h_17 => ?_)
          · refine kx_aload_n 33 F 0 dX12_tray_32 rfl rfl rfl ?_
            refine kx_getr 36 F fl_X12_21 kd_163 rfl rfl (j := 5) rfl dX12_tray_33 (v := 166) (uq_166 (Inv.r hI_M kd_163 rfl 5 rfl rfl)) rfl ?_
            refine kx_iload_n 37 F 1 dX12_tray_36 rfl rfl rfl ?_
            refine kx_iload_n 38 F 2 dX12_tray_37 rfl rfl rfl ?_
            refine kx_iast 39 F kd_166 rfl rfl (by omega) (by decide) dX12_tray_38 rfl ?_
            intro N_18 hM_N_18
            have hI_N_18 : Inv true N_18 := Inv.u hI_M hM_N_18 kd_166 (a := 0) (b := 3) rfl rfl rfl (by omega)
            have hF_N_18 : Fr f_c_X12_tray M N_18 := Fr.u hF_M hM_N_18 kd_166 rfl
            refine kx_aload_n 40 F 0 dX12_tray_39 rfl rfl rfl ?_
            refine kx_getr 43 F fl_X12_24 kd_163 rfl rfl (j := 6) rfl dX12_tray_40 (v := 167) (uq_167 (Inv.r hI_N_18 kd_163 rfl 6 rfl rfl)) rfl ?_
            refine kx_iload_n 44 F 1 dX12_tray_43 rfl rfl rfl ?_
            refine kx_iload_n 45 F 3 dX12_tray_44 rfl rfl rfl ?_
            refine kx_iast 46 F kd_167 rfl rfl (by omega) (by decide) dX12_tray_45 rfl ?_
            intro N_19 hM_N_19
            have hI_N_19 : Inv true N_19 := Inv.u hI_N_18 hM_N_19 kd_167 (a := (-1)) (b := 60) rfl rfl rfl (by omega)
            have hF_N_19 : Fr f_c_X12_tray M N_19 := Fr.u hF_N_18 hM_N_19 kd_167 rfl
            refine kx_iconst 47 F dX12_tray_46 rfl ?_
            refine kx_istore 49 F 4 (lo' := [some (vR G 163), some (vI a1), some (vI a2), some (vI a3), some (vI 0)]) dX12_tray_47 (by decide) rfl rfl rfl ?_
            have L_71 : ∀ (n_72 : Nat) (x4_69 : Int) (N_70 : Mem), Inv true N_70 → Fr f_c_X12_tray M N_70 → 0 ≤ x4_69 ∧ x4_69 ≤ 60 → (60 - (x4_69)).toNat = n_72 → KJ true G X N_70 49 [some (vR G 163), some (vI a1), none, some (vI a3), some (vI x4_69)] [] := by
              intro n_72
              refine Nat.strongRecOn n_72 ?_
              intro n_72 ih_73 x4_69 N_70 hI_N_70 hF_N_70 h_74 hm_75
              refine kx_iload 51 F 4 dX12_tray_49 rfl rfl ?_
              refine kx_iload_n 52 F 3 dX12_tray_51 rfl rfl rfl ?_
              refine kx_icmp_ge 55 F 74 dX12_tray_52 (by decide) rfl (by omega) (by omega) (fun h_76 => ?_) (fun h_76 => ?_)
              · refine kx_aload_n 75 F 0 dX12_tray_74 rfl rfl rfl ?_
                refine kx_iconst 76 F dX12_tray_75 rfl ?_
                refine kx_Vi 79 (ci := 0) F (As := [vI 0]) (st := []) vd_X12_130 (c_X12_is G l N_70 0 hI_N_70 (by omega)) kd_163 rfl rfl rfl ⟨by decide, by decide⟩ rfl rfl (Nat.le_of_ble_eq_true rfl) dX12_tray_76 rfl ?_
                intro r_77 N_78 q_79
                obtain ⟨hI_N_78, hG_N_78, q_79c⟩ := q_79
                have hF_N_78 : Fr f_c_X12_tray M N_78 := Fr.c hF_N_70 hG_N_78 rfl
                rcases q_79c with q_79c | q_79c
                · exact kx_zret F hQ (by omega) ⟨hI_N_78, hF_N_78, (by omega)⟩ dX12_tray_79
                · exact kx_zret F hQ (by omega) ⟨hI_N_78, hF_N_78, (by omega)⟩ dX12_tray_79
              · refine kx_aload_n 56 F 0 dX12_tray_55 rfl rfl rfl ?_
                refine kx_getr 59 F fl_X12_27 kd_163 rfl rfl (j := 7) rfl dX12_tray_56 (v := 168) (uq_168 (Inv.r hI_N_70 kd_163 rfl 7 rfl rfl)) rfl ?_
                refine kx_bipush 61 F dX12_tray_59 (by decide) rfl ?_
                refine kx_iload_n 62 F 1 dX12_tray_61 rfl rfl rfl ?_
                refine kx_imul 63 F (v := 60 * a1) dX12_tray_62 (by omega) rfl ?_
                refine kx_iload 65 F 4 dX12_tray_63 rfl rfl ?_
                refine kx_iadd 66 F (v := 60 * a1 + x4_69) dX12_tray_65 rfl rfl ?_
                refine kx_lconst 67 (z := 0) F dX12_tray_66 (by decide) rfl ?_
                refine kx_last 68 F kd_168 rfl rfl (by omega) (by decide) dX12_tray_67 rfl ?_
                intro N_80 hM_N_80
                have hI_N_80 : Inv true N_80 := Inv.u hI_N_70 hM_N_80 kd_168 (a := (-9223372036854775808)) (b := 9223372036854775807) rfl rfl rfl (by omega)
                have hF_N_80 : Fr f_c_X12_tray M N_80 := Fr.u hF_N_70 hM_N_80 kd_168 rfl
                refine kx_iinc 71 F 4 (v := x4_69 + 1) (lo' := [some (vR G 163), some (vI a1), none, some (vI a3), some (vI (x4_69 + 1))]) dX12_tray_68 rfl (by omega) (by decide) rfl rfl rfl ?_
                refine kx_goto 49 F dX12_tray_71 (by decide) ?_
                exact ih_73 _ (by omega) (x4_69 + 1) N_80 hI_N_80 hF_N_80 (by omega) rfl
            refine kx_drop 2 (lo' := [some (vR G 163), some (vI a1), none, some (vI a3), some (vI 0)]) rfl ?_
            exact L_71 _ 0 N_19 hI_N_19 hF_N_19 (by omega) rfl
          · refine kx_aload_n 27 F 0 dX12_tray_26 rfl rfl rfl ?_
            refine kx_iconst 28 F dX12_tray_27 rfl ?_
            refine kx_Vi 31 (ci := 0) F (As := [vI 1]) (st := []) vd_X12_130 (c_X12_is G l M 1 hI_M (by omega)) kd_163 rfl rfl rfl ⟨by decide, by decide⟩ rfl rfl (Nat.le_of_ble_eq_true rfl) dX12_tray_28 rfl ?_
            intro r_81 N_82 q_83
            obtain ⟨hI_N_82, hG_N_82, q_83c⟩ := q_83
            have hF_N_82 : Fr f_c_X12_tray M N_82 := Fr.c hF_M hG_N_82 rfl
            rcases q_83c with q_83c | q_83c
            · exfalso; omega
            · exact kx_zret F hQ (by omega) ⟨hI_N_82, hF_N_82, (by omega)⟩ dX12_tray_31
  · refine kx_if_eq 7 F 26 dX12_tray_4 (by decide) rfl (by omega) (fun h_84 => ?_) (fun h_84 => (by exfalso; omega))
    refine kx_aload_n 27 F 0 dX12_tray_26 rfl rfl rfl ?_
    refine kx_iconst 28 F dX12_tray_27 rfl ?_
    refine kx_Vi 31 (ci := 0) F (As := [vI 1]) (st := []) vd_X12_130 (c_X12_is G l M 1 hI_M (by omega)) kd_163 rfl rfl rfl ⟨by decide, by decide⟩ rfl rfl (Nat.le_of_ble_eq_true rfl) dX12_tray_28 rfl ?_
    intro r_85 N_86 q_87
    obtain ⟨hI_N_86, hG_N_86, q_87c⟩ := q_87
    have hF_N_86 : Fr f_c_X12_tray M N_86 := Fr.c hF_M hG_N_86 rfl
    rcases q_87c with q_87c | q_87c
    · exfalso; omega
    · exact kx_zret F hQ (by omega) ⟨hI_N_86, hF_N_86, (by omega)⟩ dX12_tray_31
theorem dX12_wrongPlace_0 : decode cX12_wrongPlace 0 = .ok (.iload_n 1, 1) := by decide +kernel
theorem dX12_wrongPlace_1 : decode cX12_wrongPlace 1 = .ok (.invokestatic 134, 3) := by decide +kernel
theorem dX12_wrongPlace_4 : decode cX12_wrongPlace 4 = .ok (.ifCond .ne 7, 3) := by decide +kernel
theorem dX12_wrongPlace_7 : decode cX12_wrongPlace 7 = .ok (.iconst 1, 1) := by decide +kernel
theorem dX12_wrongPlace_8 : decode cX12_wrongPlace 8 = .ok (.goto 36, 3) := by decide +kernel
theorem dX12_wrongPlace_11 : decode cX12_wrongPlace 11 = .ok (.aload_n 0, 1) := by decide +kernel
theorem dX12_wrongPlace_12 : decode cX12_wrongPlace 12 = .ok (.getfield 24, 3) := by decide +kernel
theorem dX12_wrongPlace_15 : decode cX12_wrongPlace 15 = .ok (.iload_n 1, 1) := by decide +kernel
theorem dX12_wrongPlace_16 : decode cX12_wrongPlace 16 = .ok (.iaload, 1) := by decide +kernel
theorem dX12_wrongPlace_17 : decode cX12_wrongPlace 17 = .ok (.iconst (-1), 1) := by decide +kernel
theorem dX12_wrongPlace_18 : decode cX12_wrongPlace 18 = .ok (.if_icmp .ne 7, 3) := by decide +kernel
theorem dX12_wrongPlace_21 : decode cX12_wrongPlace 21 = .ok (.iconst 2, 1) := by decide +kernel
theorem dX12_wrongPlace_22 : decode cX12_wrongPlace 22 = .ok (.goto 22, 3) := by decide +kernel
theorem dX12_wrongPlace_25 : decode cX12_wrongPlace 25 = .ok (.iload_n 2, 1) := by decide +kernel
theorem dX12_wrongPlace_26 : decode cX12_wrongPlace 26 = .ok (.ifCond .lt 13, 3) := by decide +kernel
theorem dX12_wrongPlace_29 : decode cX12_wrongPlace 29 = .ok (.iload_n 2, 1) := by decide +kernel
theorem dX12_wrongPlace_30 : decode cX12_wrongPlace 30 = .ok (.aload_n 0, 1) := by decide +kernel
theorem dX12_wrongPlace_31 : decode cX12_wrongPlace 31 = .ok (.getfield 24, 3) := by decide +kernel
theorem dX12_wrongPlace_34 : decode cX12_wrongPlace 34 = .ok (.iload_n 1, 1) := by decide +kernel
theorem dX12_wrongPlace_35 : decode cX12_wrongPlace 35 = .ok (.iaload, 1) := by decide +kernel
theorem dX12_wrongPlace_36 : decode cX12_wrongPlace 36 = .ok (.if_icmp .lt 7, 3) := by decide +kernel
theorem dX12_wrongPlace_39 : decode cX12_wrongPlace 39 = .ok (.iconst 3, 1) := by decide +kernel
theorem dX12_wrongPlace_40 : decode cX12_wrongPlace 40 = .ok (.goto 4, 3) := by decide +kernel
theorem dX12_wrongPlace_43 : decode cX12_wrongPlace 43 = .ok (.iconst 0, 1) := by decide +kernel
theorem dX12_wrongPlace_44 : decode cX12_wrongPlace 44 = .ok (.ireturn, 1) := by decide +kernel
set_option maxHeartbeats 4000000 in
set_option maxRecDepth 100000 in
theorem c_X12_wrongPlace (G : KG) (l : Launch) (M : Mem) (a1 : Int) (a2 : Int) (hI_M : Inv true M) (hpre : -2147483648 ≤ a1 ∧ a1 ≤ 2147483647 ∧ -2147483648 ≤ a2 ∧ a2 ≤ 2147483647) : KC true G l yX12_wrongPlace cX12_wrongPlace 3 (some .int) (1, 20) [vR G 163, vI a1, vI a2] M (fun A => kQi true G A (fun (r : Int) (N : Mem) => M = N ∧ ((r = 0 ∧ 0 ≤ a1 ∧ a1 ≤ 3 ∧ 0 ≤ a2 ∧ a2 ≤ 59) ∨ (r ≥ 1 ∧ r ≤ 3)))) := by
  refine kx_met (lo := [some (vR G 163), some (vI a1), some (vI a2)]) (by decide) (Nat.le_of_ble_eq_true rfl) rfl ?_
  intro X F hQ
  refine kx_iload_n 1 F 1 dX12_wrongPlace_0 rfl rfl rfl ?_
  refine kx_Si 4 F (As := [vI a1]) (st := []) sd_X12_134 (c_X12_isTray G l M a1 hI_M (by omega)) ⟨by decide, by decide⟩ rfl rfl (Nat.le_of_ble_eq_true rfl) dX12_wrongPlace_1 rfl ?_
  intro r_1 N_2 q_3
  obtain ⟨rfl, q_3c⟩ := q_3
  rcases q_3c with q_3c | q_3c
  · refine kx_if_ne 7 F 11 dX12_wrongPlace_4 (by decide) rfl (by omega) (fun h_4 => ?_) (fun h_4 => (by exfalso; omega))
    refine kx_aload_n 12 F 0 dX12_wrongPlace_11 rfl rfl rfl ?_
    refine kx_getr 15 F fl_X12_24 kd_163 rfl rfl (j := 6) rfl dX12_wrongPlace_12 (v := 167) (uq_167 (Inv.r hI_M kd_163 rfl 6 rfl rfl)) rfl ?_
    refine kx_iload_n 16 F 1 dX12_wrongPlace_15 rfl rfl rfl ?_
    refine kx_iald 17 F kd_167 rfl rfl (by omega) (by decide) dX12_wrongPlace_16 (v := (M 167 a1)) rfl rfl ?_
    have h_5 := Inv.g hI_M kd_167 rfl a1 (a := (-1)) (b := 60) rfl rfl
    refine kx_iconst 18 F dX12_wrongPlace_17 rfl ?_
    refine kx_icmp_ne 21 F 25 dX12_wrongPlace_18 (by decide) rfl (by omega) (by decide) (fun h_6 => ?_) (fun h_6 => ?_)
    · refine kx_iload_n 26 F 2 dX12_wrongPlace_25 rfl rfl rfl ?_
      refine kx_if_lt 29 F 39 dX12_wrongPlace_26 (by decide) rfl (by omega) (fun h_7 => ?_) (fun h_7 => ?_)
      · refine kx_iconst 40 F dX12_wrongPlace_39 rfl ?_
        refine kx_goto 44 F dX12_wrongPlace_40 (by decide) ?_
        exact kx_iret F hQ ⟨rfl, (by omega)⟩ dX12_wrongPlace_44
      · refine kx_iload_n 30 F 2 dX12_wrongPlace_29 rfl rfl rfl ?_
        refine kx_aload_n 31 F 0 dX12_wrongPlace_30 rfl rfl rfl ?_
        refine kx_getr 34 F fl_X12_24 kd_163 rfl rfl (j := 6) rfl dX12_wrongPlace_31 (v := 167) (uq_167 (Inv.r hI_M kd_163 rfl 6 rfl rfl)) rfl ?_
        refine kx_iload_n 35 F 1 dX12_wrongPlace_34 rfl rfl rfl ?_
        refine kx_iald 36 F kd_167 rfl rfl (by omega) (by decide) dX12_wrongPlace_35 (v := (M 167 a1)) rfl rfl ?_
        refine kx_icmp_lt 39 F 43 dX12_wrongPlace_36 (by decide) rfl (by omega) (by omega) (fun h_8 => ?_) (fun h_8 => ?_)
        · refine kx_iconst 44 F dX12_wrongPlace_43 rfl ?_
          exact kx_iret F hQ ⟨rfl, (by omega)⟩ dX12_wrongPlace_44
        · refine kx_iconst 40 F dX12_wrongPlace_39 rfl ?_
          refine kx_goto 44 F dX12_wrongPlace_40 (by decide) ?_
          exact kx_iret F hQ ⟨rfl, (by omega)⟩ dX12_wrongPlace_44
    · refine kx_iconst 22 F dX12_wrongPlace_21 rfl ?_
      refine kx_goto 44 F dX12_wrongPlace_22 (by decide) ?_
      exact kx_iret F hQ ⟨rfl, (by omega)⟩ dX12_wrongPlace_44
  · refine kx_if_ne 7 F 11 dX12_wrongPlace_4 (by decide) rfl (by omega) (fun h_9 => (by exfalso; omega)) (fun h_9 => ?_)
    refine kx_iconst 8 F dX12_wrongPlace_7 rfl ?_
    refine kx_goto 44 F dX12_wrongPlace_8 (by decide) ?_
    exact kx_iret F hQ ⟨rfl, (by omega)⟩ dX12_wrongPlace_44
theorem dX12_write_0 : decode cX12_write 0 = .ok (.aload_n 0, 1) := by decide +kernel
theorem dX12_write_1 : decode cX12_write 1 = .ok (.iload_n 1, 1) := by decide +kernel
theorem dX12_write_2 : decode cX12_write 2 = .ok (.iload_n 2, 1) := by decide +kernel
theorem dX12_write_3 : decode cX12_write 3 = .ok (.invokevirtual 137, 3) := by decide +kernel
theorem dX12_write_6 : decode cX12_write 6 = .ok (.istore 5, 2) := by decide +kernel
theorem dX12_write_8 : decode cX12_write 8 = .ok (.iload 5, 2) := by decide +kernel
theorem dX12_write_10 : decode cX12_write 10 = .ok (.ifCond .ne 24, 3) := by decide +kernel
theorem dX12_write_13 : decode cX12_write 13 = .ok (.aload_n 0, 1) := by decide +kernel
theorem dX12_write_14 : decode cX12_write 14 = .ok (.getfield 27, 3) := by decide +kernel
theorem dX12_write_17 : decode cX12_write 17 = .ok (.bipush 60, 2) := by decide +kernel
theorem dX12_write_19 : decode cX12_write 19 = .ok (.iload_n 1, 1) := by decide +kernel
theorem dX12_write_20 : decode cX12_write 20 = .ok (.imul, 1) := by decide +kernel
theorem dX12_write_21 : decode cX12_write 21 = .ok (.iload_n 2, 1) := by decide +kernel
theorem dX12_write_22 : decode cX12_write 22 = .ok (.iadd, 1) := by decide +kernel
theorem dX12_write_23 : decode cX12_write 23 = .ok (.lload_n 3, 1) := by decide +kernel
theorem dX12_write_24 : decode cX12_write 24 = .ok (.aload_n 0, 1) := by decide +kernel
theorem dX12_write_25 : decode cX12_write 25 = .ok (.getfield 21, 3) := by decide +kernel
theorem dX12_write_28 : decode cX12_write 28 = .ok (.iload_n 1, 1) := by decide +kernel
theorem dX12_write_29 : decode cX12_write 29 = .ok (.iaload, 1) := by decide +kernel
theorem dX12_write_30 : decode cX12_write 30 = .ok (.invokestatic 141, 3) := by decide +kernel
theorem dX12_write_33 : decode cX12_write 33 = .ok (.lastore, 1) := by decide +kernel
theorem dX12_write_34 : decode cX12_write 34 = .ok (.aload_n 0, 1) := by decide +kernel
theorem dX12_write_35 : decode cX12_write 35 = .ok (.iload 5, 2) := by decide +kernel
theorem dX12_write_37 : decode cX12_write 37 = .ok (.invokevirtual 130, 3) := by decide +kernel
theorem dX12_write_40 : decode cX12_write 40 = .ok (.ireturn, 1) := by decide +kernel
abbrev f_c_X12_write : List (Nat × Int) := [(64, 2), (69, -1)]
set_option maxHeartbeats 4000000 in
set_option maxRecDepth 100000 in
theorem c_X12_write (G : KG) (l : Launch) (M : Mem) (a1 : Int) (a2 : Int) (a3 : Int) (hI_M : Inv true M) (hpre : -2147483648 ≤ a1 ∧ a1 ≤ 2147483647 ∧ -2147483648 ≤ a2 ∧ a2 ≤ 2147483647 ∧ -9223372036854775808 ≤ a3 ∧ a3 ≤ 9223372036854775807) : KC true G l yX12_write cX12_write 6 (some .boolean) (2, 42) [vR G 163, vI a1, vI a2, vL a3] M (fun A => kQi true G A (fun (r : Int) (N : Mem) => Inv true N ∧ Fr f_c_X12_write M N ∧ (0 ≤ r ∧ r ≤ 1))) := by
  refine kx_met (lo := [some (vR G 163), some (vI a1), some (vI a2), some (vL a3), none, none]) (by decide) (Nat.le_of_ble_eq_true rfl) rfl ?_
  intro X F hQ
  have hF_M : Fr f_c_X12_write M M := Fr.rf _ _
  refine kx_aload_n 1 F 0 dX12_write_0 rfl rfl rfl ?_
  refine kx_iload_n 2 F 1 dX12_write_1 rfl rfl rfl ?_
  refine kx_iload_n 3 F 2 dX12_write_2 rfl rfl rfl ?_
  refine kx_Vi 6 (ci := 0) F (As := [vI a1, vI a2]) (st := []) vd_X12_137 (c_X12_wrongPlace G l M a1 a2 hI_M (by omega)) kd_163 rfl rfl rfl ⟨by decide, by decide⟩ rfl rfl (Nat.le_of_ble_eq_true rfl) dX12_write_3 rfl ?_
  intro r_1 N_2 q_3
  obtain ⟨rfl, q_3c⟩ := q_3
  rcases q_3c with q_3c | q_3c
  · refine kx_istore 8 F 5 (lo' := [some (vR G 163), some (vI a1), some (vI a2), some (vL a3), none, some (vI r_1)]) dX12_write_6 (by decide) rfl rfl rfl ?_
    refine kx_iload 10 F 5 dX12_write_8 rfl rfl ?_
    refine kx_if_ne 13 F 34 dX12_write_10 (by decide) rfl (by omega) (fun h_4 => (by exfalso; omega)) (fun h_4 => ?_)
    refine kx_aload_n 14 F 0 dX12_write_13 rfl rfl rfl ?_
    refine kx_getr 17 F fl_X12_27 kd_163 rfl rfl (j := 7) rfl dX12_write_14 (v := 168) (uq_168 (Inv.r hI_M kd_163 rfl 7 rfl rfl)) rfl ?_
    refine kx_bipush 19 F dX12_write_17 (by decide) rfl ?_
    refine kx_iload_n 20 F 1 dX12_write_19 rfl rfl rfl ?_
    refine kx_imul 21 F (v := 60 * a1) dX12_write_20 (by omega) rfl ?_
    refine kx_iload_n 22 F 2 dX12_write_21 rfl rfl rfl ?_
    refine kx_iadd 23 F (v := 60 * a1 + a2) dX12_write_22 rfl rfl ?_
    refine kx_lload_n 24 F 3 dX12_write_23 rfl rfl rfl ?_
    refine kx_aload_n 25 F 0 dX12_write_24 rfl rfl rfl ?_
    refine kx_getr 28 F fl_X12_21 kd_163 rfl rfl (j := 5) rfl dX12_write_25 (v := 166) (uq_166 (Inv.r hI_M kd_163 rfl 5 rfl rfl)) rfl ?_
    refine kx_iload_n 29 F 1 dX12_write_28 rfl rfl rfl ?_
    refine kx_iald 30 F kd_166 rfl rfl (by omega) (by decide) dX12_write_29 (v := (M 166 a1)) rfl rfl ?_
    have h_5 := Inv.g hI_M kd_166 rfl a1 (a := 0) (b := 3) rfl rfl
    refine kx_Sl 33 F (As := [vL a3, vI (M 166 a1)]) (st := [vI (60 * a1 + a2), vR G 168]) sd_X12_141 (c_X12_cut G l M a3 (M 166 a1) hI_M (by omega)) ⟨by decide, by decide⟩ rfl rfl (Nat.le_of_ble_eq_true rfl) dX12_write_30 rfl ?_
    intro r_6 N_7 q_8
    obtain ⟨rfl, q_8c⟩ := q_8
    refine kx_last 34 F kd_168 rfl rfl (by omega) (by decide) dX12_write_33 rfl ?_
    intro N_9 hM_N_9
    have hI_N_9 : Inv true N_9 := Inv.u hI_M hM_N_9 kd_168 (a := (-9223372036854775808)) (b := 9223372036854775807) rfl rfl rfl (by omega)
    have hF_N_9 : Fr f_c_X12_write M N_9 := Fr.u hF_M hM_N_9 kd_168 rfl
    refine kx_aload_n 35 F 0 dX12_write_34 rfl rfl rfl ?_
    refine kx_iload 37 F 5 dX12_write_35 rfl rfl ?_
    refine kx_Vi 40 (ci := 0) F (As := [vI r_1]) (st := []) vd_X12_130 (c_X12_is G l N_9 r_1 hI_N_9 (by omega)) kd_163 rfl rfl rfl ⟨by decide, by decide⟩ rfl rfl (Nat.le_of_ble_eq_true rfl) dX12_write_37 rfl ?_
    intro r_10 N_11 q_12
    obtain ⟨hI_N_11, hG_N_11, q_12c⟩ := q_12
    have hF_N_11 : Fr f_c_X12_write M N_11 := Fr.c hF_N_9 hG_N_11 rfl
    rcases q_12c with q_12c | q_12c
    · exact kx_zret F hQ (by omega) ⟨hI_N_11, hF_N_11, (by omega)⟩ dX12_write_40
    · exfalso; omega
  · refine kx_istore 8 F 5 (lo' := [some (vR G 163), some (vI a1), some (vI a2), some (vL a3), none, some (vI r_1)]) dX12_write_6 (by decide) rfl rfl rfl ?_
    refine kx_iload 10 F 5 dX12_write_8 rfl rfl ?_
    refine kx_if_ne 13 F 34 dX12_write_10 (by decide) rfl (by omega) (fun h_13 => ?_) (fun h_13 => (by exfalso; omega))
    refine kx_aload_n 35 F 0 dX12_write_34 rfl rfl rfl ?_
    refine kx_iload 37 F 5 dX12_write_35 rfl rfl ?_
    refine kx_Vi 40 (ci := 0) F (As := [vI r_1]) (st := []) vd_X12_130 (c_X12_is G l M r_1 hI_M (by omega)) kd_163 rfl rfl rfl ⟨by decide, by decide⟩ rfl rfl (Nat.le_of_ble_eq_true rfl) dX12_write_37 rfl ?_
    intro r_14 N_15 q_16
    obtain ⟨hI_N_15, hG_N_15, q_16c⟩ := q_16
    have hF_N_15 : Fr f_c_X12_write M N_15 := Fr.c hF_M hG_N_15 rfl
    rcases q_16c with q_16c | q_16c
    · exfalso; omega
    · exact kx_zret F hQ (by omega) ⟨hI_N_15, hF_N_15, (by omega)⟩ dX12_write_40
theorem dX12_read_0 : decode cX12_read 0 = .ok (.aload_n 0, 1) := by decide +kernel
theorem dX12_read_1 : decode cX12_read 1 = .ok (.aload_n 0, 1) := by decide +kernel
theorem dX12_read_2 : decode cX12_read 2 = .ok (.iload_n 1, 1) := by decide +kernel
theorem dX12_read_3 : decode cX12_read 3 = .ok (.iload_n 2, 1) := by decide +kernel
theorem dX12_read_4 : decode cX12_read 4 = .ok (.invokevirtual 137, 3) := by decide +kernel
theorem dX12_read_7 : decode cX12_read 7 = .ok (.putfield 117, 3) := by decide +kernel
theorem dX12_read_10 : decode cX12_read 10 = .ok (.aload_n 0, 1) := by decide +kernel
theorem dX12_read_11 : decode cX12_read 11 = .ok (.getfield 117, 3) := by decide +kernel
theorem dX12_read_14 : decode cX12_read 14 = .ok (.ifCond .le 9, 3) := by decide +kernel
theorem dX12_read_17 : decode cX12_read 17 = .ok (.ldc2_w 145, 3) := by decide +kernel
theorem dX12_read_20 : decode cX12_read 20 = .ok (.goto 14, 3) := by decide +kernel
theorem dX12_read_23 : decode cX12_read 23 = .ok (.aload_n 0, 1) := by decide +kernel
theorem dX12_read_24 : decode cX12_read 24 = .ok (.getfield 27, 3) := by decide +kernel
theorem dX12_read_27 : decode cX12_read 27 = .ok (.bipush 60, 2) := by decide +kernel
theorem dX12_read_29 : decode cX12_read 29 = .ok (.iload_n 1, 1) := by decide +kernel
theorem dX12_read_30 : decode cX12_read 30 = .ok (.imul, 1) := by decide +kernel
theorem dX12_read_31 : decode cX12_read 31 = .ok (.iload_n 2, 1) := by decide +kernel
theorem dX12_read_32 : decode cX12_read 32 = .ok (.iadd, 1) := by decide +kernel
theorem dX12_read_33 : decode cX12_read 33 = .ok (.laload, 1) := by decide +kernel
theorem dX12_read_34 : decode cX12_read 34 = .ok (.lreturn, 1) := by decide +kernel
abbrev f_c_X12_read : List (Nat × Int) := [(64, 2)]
set_option maxHeartbeats 4000000 in
set_option maxRecDepth 100000 in
theorem c_X12_read (G : KG) (l : Launch) (M : Mem) (a1 : Int) (a2 : Int) (hI_M : Inv true M) (hpre : -2147483648 ≤ a1 ∧ a1 ≤ 2147483647 ∧ -2147483648 ≤ a2 ∧ a2 ≤ 2147483647) : KC true G l yX12_read cX12_read 3 (some .long) (2, 42) [vR G 163, vI a1, vI a2] M (fun A => kQl true G A (fun (r : Int) (N : Mem) => Inv true N ∧ Fr f_c_X12_read M N ∧ (r ≥ -9223372036854775808 ∧ r ≤ 9223372036854775807))) := by
  refine kx_met (lo := [some (vR G 163), some (vI a1), some (vI a2)]) (by decide) (Nat.le_of_ble_eq_true rfl) rfl ?_
  intro X F hQ
  have hF_M : Fr f_c_X12_read M M := Fr.rf _ _
  refine kx_aload_n 1 F 0 dX12_read_0 rfl rfl rfl ?_
  refine kx_aload_n 2 F 0 dX12_read_1 rfl rfl rfl ?_
  refine kx_iload_n 3 F 1 dX12_read_2 rfl rfl rfl ?_
  refine kx_iload_n 4 F 2 dX12_read_3 rfl rfl rfl ?_
  refine kx_Vi 7 (ci := 0) F (As := [vI a1, vI a2]) (st := [vR G 163]) vd_X12_137 (c_X12_wrongPlace G l M a1 a2 hI_M (by omega)) kd_163 rfl rfl rfl ⟨by decide, by decide⟩ rfl rfl (Nat.le_of_ble_eq_true rfl) dX12_read_4 rfl ?_
  intro r_1 N_2 q_3
  obtain ⟨rfl, q_3c⟩ := q_3
  rcases q_3c with q_3c | q_3c
  · refine kx_puti 10 F fw_X12_117 rfl kd_163 rfl rfl (j := 2) rfl dX12_read_7 rfl ?_
    intro N_4 hM_N_4
    have hI_N_4 : Inv true N_4 := Inv.u hI_M hM_N_4 kd_163 (a := (-2147483648)) (b := 2147483647) rfl rfl rfl (by omega)
    have hF_N_4 : Fr f_c_X12_read M N_4 := Fr.u hF_M hM_N_4 kd_163 rfl
    refine kx_aload_n 11 F 0 dX12_read_10 rfl rfl rfl ?_
    refine kx_geti 14 F fl_X12_117 kd_163 rfl rfl (j := 2) rfl dX12_read_11 (v := r_1) (by rw [hM_N_4, mu_s]) rfl ?_
    refine kx_if_le 17 F 23 dX12_read_14 (by decide) rfl (by omega) (fun h_5 => ?_) (fun h_5 => (by exfalso; omega))
    refine kx_aload_n 24 F 0 dX12_read_23 rfl rfl rfl ?_
    refine kx_getr 27 F fl_X12_27 kd_163 rfl rfl (j := 7) rfl dX12_read_24 (v := 168) (uq_168 (Inv.r hI_N_4 kd_163 rfl 7 rfl rfl)) rfl ?_
    refine kx_bipush 29 F dX12_read_27 (by decide) rfl ?_
    refine kx_iload_n 30 F 1 dX12_read_29 rfl rfl rfl ?_
    refine kx_imul 31 F (v := 60 * a1) dX12_read_30 (by omega) rfl ?_
    refine kx_iload_n 32 F 2 dX12_read_31 rfl rfl rfl ?_
    refine kx_iadd 33 F (v := 60 * a1 + a2) dX12_read_32 rfl rfl ?_
    refine kx_lald 34 F kd_168 rfl rfl (by omega) (by decide) dX12_read_33 (v := (M 168 (60 * a1 + a2))) (by rw [hM_N_4, mu_k kd_168 kd_163 rfl]) rfl ?_
    have h_6 := Inv.g hI_M kd_168 rfl (60 * a1 + a2) (a := (-9223372036854775808)) (b := 9223372036854775807) rfl rfl
    exact kx_lret F hQ ⟨hI_N_4, hF_N_4, (by omega)⟩ dX12_read_34
  · refine kx_puti 10 F fw_X12_117 rfl kd_163 rfl rfl (j := 2) rfl dX12_read_7 rfl ?_
    intro N_7 hM_N_7
    have hI_N_7 : Inv true N_7 := Inv.u hI_M hM_N_7 kd_163 (a := (-2147483648)) (b := 2147483647) rfl rfl rfl (by omega)
    have hF_N_7 : Fr f_c_X12_read M N_7 := Fr.u hF_M hM_N_7 kd_163 rfl
    refine kx_aload_n 11 F 0 dX12_read_10 rfl rfl rfl ?_
    refine kx_geti 14 F fl_X12_117 kd_163 rfl rfl (j := 2) rfl dX12_read_11 (v := r_1) (by rw [hM_N_7, mu_s]) rfl ?_
    refine kx_if_le 17 F 23 dX12_read_14 (by decide) rfl (by omega) (fun h_8 => (by exfalso; omega)) (fun h_8 => ?_)
    refine kx_ldc2 20 (z := (-1)) F dX12_read_17 ct_X12_145 rfl ?_
    refine kx_goto 34 F dX12_read_20 (by decide) ?_
    exact kx_lret F hQ ⟨hI_N_7, hF_N_7, (by omega)⟩ dX12_read_34
theorem dX12_pour_0 : decode cX12_pour 0 = .ok (.iload_n 1, 1) := by decide +kernel
theorem dX12_pour_1 : decode cX12_pour 1 = .ok (.invokestatic 134, 3) := by decide +kernel
theorem dX12_pour_4 : decode cX12_pour 4 = .ok (.ifCond .eq 24, 3) := by decide +kernel
theorem dX12_pour_7 : decode cX12_pour 7 = .ok (.iload_n 3, 1) := by decide +kernel
theorem dX12_pour_8 : decode cX12_pour 8 = .ok (.invokestatic 134, 3) := by decide +kernel
theorem dX12_pour_11 : decode cX12_pour 11 = .ok (.ifCond .eq 17, 3) := by decide +kernel
theorem dX12_pour_14 : decode cX12_pour 14 = .ok (.iload_n 2, 1) := by decide +kernel
theorem dX12_pour_15 : decode cX12_pour 15 = .ok (.ifCond .lt 13, 3) := by decide +kernel
theorem dX12_pour_18 : decode cX12_pour 18 = .ok (.iload 4, 2) := by decide +kernel
theorem dX12_pour_20 : decode cX12_pour 20 = .ok (.ifCond .lt 8, 3) := by decide +kernel
theorem dX12_pour_23 : decode cX12_pour 23 = .ok (.iload 5, 2) := by decide +kernel
theorem dX12_pour_25 : decode cX12_pour 25 = .ok (.ifCond .ge 9, 3) := by decide +kernel
theorem dX12_pour_28 : decode cX12_pour 28 = .ok (.aload_n 0, 1) := by decide +kernel
theorem dX12_pour_29 : decode cX12_pour 29 = .ok (.iconst 1, 1) := by decide +kernel
theorem dX12_pour_30 : decode cX12_pour 30 = .ok (.invokevirtual 130, 3) := by decide +kernel
theorem dX12_pour_33 : decode cX12_pour 33 = .ok (.ireturn, 1) := by decide +kernel
theorem dX12_pour_34 : decode cX12_pour 34 = .ok (.aload_n 0, 1) := by decide +kernel
theorem dX12_pour_35 : decode cX12_pour 35 = .ok (.getfield 24, 3) := by decide +kernel
theorem dX12_pour_38 : decode cX12_pour 38 = .ok (.iload_n 1, 1) := by decide +kernel
theorem dX12_pour_39 : decode cX12_pour 39 = .ok (.iaload, 1) := by decide +kernel
theorem dX12_pour_40 : decode cX12_pour 40 = .ok (.iconst (-1), 1) := by decide +kernel
theorem dX12_pour_41 : decode cX12_pour 41 = .ok (.if_icmp .eq 13, 3) := by decide +kernel
theorem dX12_pour_44 : decode cX12_pour 44 = .ok (.aload_n 0, 1) := by decide +kernel
theorem dX12_pour_45 : decode cX12_pour 45 = .ok (.getfield 24, 3) := by decide +kernel
theorem dX12_pour_48 : decode cX12_pour 48 = .ok (.iload_n 3, 1) := by decide +kernel
theorem dX12_pour_49 : decode cX12_pour 49 = .ok (.iaload, 1) := by decide +kernel
theorem dX12_pour_50 : decode cX12_pour 50 = .ok (.iconst (-1), 1) := by decide +kernel
theorem dX12_pour_51 : decode cX12_pour 51 = .ok (.if_icmp .ne 9, 3) := by decide +kernel
theorem dX12_pour_54 : decode cX12_pour 54 = .ok (.aload_n 0, 1) := by decide +kernel
theorem dX12_pour_55 : decode cX12_pour 55 = .ok (.iconst 2, 1) := by decide +kernel
theorem dX12_pour_56 : decode cX12_pour 56 = .ok (.invokevirtual 130, 3) := by decide +kernel
theorem dX12_pour_59 : decode cX12_pour 59 = .ok (.ireturn, 1) := by decide +kernel
theorem dX12_pour_60 : decode cX12_pour 60 = .ok (.aload_n 0, 1) := by decide +kernel
theorem dX12_pour_61 : decode cX12_pour 61 = .ok (.getfield 21, 3) := by decide +kernel
theorem dX12_pour_64 : decode cX12_pour 64 = .ok (.iload_n 1, 1) := by decide +kernel
theorem dX12_pour_65 : decode cX12_pour 65 = .ok (.iaload, 1) := by decide +kernel
theorem dX12_pour_66 : decode cX12_pour 66 = .ok (.aload_n 0, 1) := by decide +kernel
theorem dX12_pour_67 : decode cX12_pour 67 = .ok (.getfield 21, 3) := by decide +kernel
theorem dX12_pour_70 : decode cX12_pour 70 = .ok (.iload_n 3, 1) := by decide +kernel
theorem dX12_pour_71 : decode cX12_pour 71 = .ok (.iaload, 1) := by decide +kernel
theorem dX12_pour_72 : decode cX12_pour 72 = .ok (.if_icmp .eq 10, 3) := by decide +kernel
theorem dX12_pour_75 : decode cX12_pour 75 = .ok (.aload_n 0, 1) := by decide +kernel
theorem dX12_pour_76 : decode cX12_pour 76 = .ok (.bipush 8, 2) := by decide +kernel
theorem dX12_pour_78 : decode cX12_pour 78 = .ok (.invokevirtual 130, 3) := by decide +kernel
theorem dX12_pour_81 : decode cX12_pour 81 = .ok (.ireturn, 1) := by decide +kernel
theorem dX12_pour_82 : decode cX12_pour 82 = .ok (.iload 5, 2) := by decide +kernel
theorem dX12_pour_84 : decode cX12_pour 84 = .ok (.aload_n 0, 1) := by decide +kernel
theorem dX12_pour_85 : decode cX12_pour 85 = .ok (.getfield 24, 3) := by decide +kernel
theorem dX12_pour_88 : decode cX12_pour 88 = .ok (.iload_n 1, 1) := by decide +kernel
theorem dX12_pour_89 : decode cX12_pour 89 = .ok (.iaload, 1) := by decide +kernel
theorem dX12_pour_90 : decode cX12_pour 90 = .ok (.iload_n 2, 1) := by decide +kernel
theorem dX12_pour_91 : decode cX12_pour 91 = .ok (.isub, 1) := by decide +kernel
theorem dX12_pour_92 : decode cX12_pour 92 = .ok (.if_icmp .gt 17, 3) := by decide +kernel
theorem dX12_pour_95 : decode cX12_pour 95 = .ok (.iload 5, 2) := by decide +kernel
theorem dX12_pour_97 : decode cX12_pour 97 = .ok (.aload_n 0, 1) := by decide +kernel
theorem dX12_pour_98 : decode cX12_pour 98 = .ok (.getfield 24, 3) := by decide +kernel
theorem dX12_pour_101 : decode cX12_pour 101 = .ok (.iload_n 3, 1) := by decide +kernel
theorem dX12_pour_102 : decode cX12_pour 102 = .ok (.iaload, 1) := by decide +kernel
theorem dX12_pour_103 : decode cX12_pour 103 = .ok (.iload 4, 2) := by decide +kernel
theorem dX12_pour_105 : decode cX12_pour 105 = .ok (.isub, 1) := by decide +kernel
theorem dX12_pour_106 : decode cX12_pour 106 = .ok (.if_icmp .le 9, 3) := by decide +kernel
theorem dX12_pour_109 : decode cX12_pour 109 = .ok (.aload_n 0, 1) := by decide +kernel
theorem dX12_pour_110 : decode cX12_pour 110 = .ok (.iconst 3, 1) := by decide +kernel
theorem dX12_pour_111 : decode cX12_pour 111 = .ok (.invokevirtual 130, 3) := by decide +kernel
theorem dX12_pour_114 : decode cX12_pour 114 = .ok (.ireturn, 1) := by decide +kernel
theorem dX12_pour_115 : decode cX12_pour 115 = .ok (.iconst 0, 1) := by decide +kernel
theorem dX12_pour_116 : decode cX12_pour 116 = .ok (.istore 6, 2) := by decide +kernel
theorem dX12_pour_118 : decode cX12_pour 118 = .ok (.iload 6, 2) := by decide +kernel
theorem dX12_pour_120 : decode cX12_pour 120 = .ok (.iload 5, 2) := by decide +kernel
theorem dX12_pour_122 : decode cX12_pour 122 = .ok (.if_icmp .ge 58, 3) := by decide +kernel
theorem dX12_pour_125 : decode cX12_pour 125 = .ok (.iload_n 2, 1) := by decide +kernel
theorem dX12_pour_126 : decode cX12_pour 126 = .ok (.iload 4, 2) := by decide +kernel
theorem dX12_pour_128 : decode cX12_pour 128 = .ok (.if_icmp .ge 13, 3) := by decide +kernel
theorem dX12_pour_131 : decode cX12_pour 131 = .ok (.iload 5, 2) := by decide +kernel
theorem dX12_pour_133 : decode cX12_pour 133 = .ok (.iconst 1, 1) := by decide +kernel
theorem dX12_pour_134 : decode cX12_pour 134 = .ok (.isub, 1) := by decide +kernel
theorem dX12_pour_135 : decode cX12_pour 135 = .ok (.iload 6, 2) := by decide +kernel
theorem dX12_pour_137 : decode cX12_pour 137 = .ok (.isub, 1) := by decide +kernel
theorem dX12_pour_138 : decode cX12_pour 138 = .ok (.goto 5, 3) := by decide +kernel
theorem dX12_pour_141 : decode cX12_pour 141 = .ok (.iload 6, 2) := by decide +kernel
theorem dX12_pour_143 : decode cX12_pour 143 = .ok (.istore 7, 2) := by decide +kernel
theorem dX12_pour_145 : decode cX12_pour 145 = .ok (.aload_n 0, 1) := by decide +kernel
theorem dX12_pour_146 : decode cX12_pour 146 = .ok (.getfield 27, 3) := by decide +kernel
theorem dX12_pour_149 : decode cX12_pour 149 = .ok (.bipush 60, 2) := by decide +kernel
theorem dX12_pour_151 : decode cX12_pour 151 = .ok (.iload_n 3, 1) := by decide +kernel
theorem dX12_pour_152 : decode cX12_pour 152 = .ok (.imul, 1) := by decide +kernel
theorem dX12_pour_153 : decode cX12_pour 153 = .ok (.iload 4, 2) := by decide +kernel
theorem dX12_pour_155 : decode cX12_pour 155 = .ok (.iadd, 1) := by decide +kernel
theorem dX12_pour_156 : decode cX12_pour 156 = .ok (.iload 7, 2) := by decide +kernel
theorem dX12_pour_158 : decode cX12_pour 158 = .ok (.iadd, 1) := by decide +kernel
theorem dX12_pour_159 : decode cX12_pour 159 = .ok (.aload_n 0, 1) := by decide +kernel
theorem dX12_pour_160 : decode cX12_pour 160 = .ok (.getfield 27, 3) := by decide +kernel
theorem dX12_pour_163 : decode cX12_pour 163 = .ok (.bipush 60, 2) := by decide +kernel
theorem dX12_pour_165 : decode cX12_pour 165 = .ok (.iload_n 1, 1) := by decide +kernel
theorem dX12_pour_166 : decode cX12_pour 166 = .ok (.imul, 1) := by decide +kernel
theorem dX12_pour_167 : decode cX12_pour 167 = .ok (.iload_n 2, 1) := by decide +kernel
theorem dX12_pour_168 : decode cX12_pour 168 = .ok (.iadd, 1) := by decide +kernel
theorem dX12_pour_169 : decode cX12_pour 169 = .ok (.iload 7, 2) := by decide +kernel
theorem dX12_pour_171 : decode cX12_pour 171 = .ok (.iadd, 1) := by decide +kernel
theorem dX12_pour_172 : decode cX12_pour 172 = .ok (.laload, 1) := by decide +kernel
theorem dX12_pour_173 : decode cX12_pour 173 = .ok (.lastore, 1) := by decide +kernel
theorem dX12_pour_174 : decode cX12_pour 174 = .ok (.iinc 6 1, 3) := by decide +kernel
theorem dX12_pour_177 : decode cX12_pour 177 = .ok (.goto (-59), 3) := by decide +kernel
theorem dX12_pour_180 : decode cX12_pour 180 = .ok (.aload_n 0, 1) := by decide +kernel
theorem dX12_pour_181 : decode cX12_pour 181 = .ok (.iconst 0, 1) := by decide +kernel
theorem dX12_pour_182 : decode cX12_pour 182 = .ok (.invokevirtual 130, 3) := by decide +kernel
theorem dX12_pour_185 : decode cX12_pour 185 = .ok (.ireturn, 1) := by decide +kernel
abbrev f_c_X12_pour : List (Nat × Int) := [(64, 2), (69, -1)]
set_option maxHeartbeats 4000000 in
set_option maxRecDepth 100000 in
theorem c_X12_pour (G : KG) (l : Launch) (M : Mem) (a1 : Int) (a2 : Int) (a3 : Int) (a4 : Int) (a5 : Int) (hI_M : Inv true M) (hpre : -2147483648 ≤ a1 ∧ a1 ≤ 2147483647 ∧ -2147483648 ≤ a2 ∧ a2 ≤ 2147483647 ∧ -2147483648 ≤ a3 ∧ a3 ≤ 2147483647 ∧ -2147483648 ≤ a4 ∧ a4 ≤ 2147483647 ∧ -2147483648 ≤ a5 ∧ a5 ≤ 2147483647) : KC true G l yX12_pour cX12_pour 8 (some .boolean) (1, 21) [vR G 163, vI a1, vI a2, vI a3, vI a4, vI a5] M (fun A => kQi true G A (fun (r : Int) (N : Mem) => Inv true N ∧ Fr f_c_X12_pour M N ∧ (0 ≤ r ∧ r ≤ 1))) := by
  refine kx_met (lo := [some (vR G 163), some (vI a1), some (vI a2), some (vI a3), some (vI a4), some (vI a5), none, none]) (by decide) (Nat.le_of_ble_eq_true rfl) rfl ?_
  intro X F hQ
  have hF_M : Fr f_c_X12_pour M M := Fr.rf _ _
  refine kx_iload_n 1 F 1 dX12_pour_0 rfl rfl rfl ?_
  refine kx_Si 4 F (As := [vI a1]) (st := []) sd_X12_134 (c_X12_isTray G l M a1 hI_M (by omega)) ⟨by decide, by decide⟩ rfl rfl (Nat.le_of_ble_eq_true rfl) dX12_pour_1 rfl ?_
  intro r_1 N_2 q_3
  obtain ⟨rfl, q_3c⟩ := q_3
  rcases q_3c with q_3c | q_3c
  · refine kx_if_eq 7 F 28 dX12_pour_4 (by decide) rfl (by omega) (fun h_4 => (by exfalso; omega)) (fun h_4 => ?_)
    refine kx_iload_n 8 F 3 dX12_pour_7 rfl rfl rfl ?_
    refine kx_Si 11 F (As := [vI a3]) (st := []) sd_X12_134 (c_X12_isTray G l M a3 hI_M (by omega)) ⟨by decide, by decide⟩ rfl rfl (Nat.le_of_ble_eq_true rfl) dX12_pour_8 rfl ?_
    intro r_5 N_6 q_7
    obtain ⟨rfl, q_7c⟩ := q_7
    rcases q_7c with q_7c | q_7c
    · refine kx_if_eq 14 F 28 dX12_pour_11 (by decide) rfl (by omega) (fun h_8 => (by exfalso; omega)) (fun h_8 => ?_)
      refine kx_iload_n 15 F 2 dX12_pour_14 rfl rfl rfl ?_
      refine kx_if_lt 18 F 28 dX12_pour_15 (by decide) rfl (by omega) (fun h_9 => ?_) (fun h_9 => ?_)
      · refine kx_aload_n 29 F 0 dX12_pour_28 rfl rfl rfl ?_
        refine kx_iconst 30 F dX12_pour_29 rfl ?_
        refine kx_Vi 33 (ci := 0) F (As := [vI 1]) (st := []) vd_X12_130 (c_X12_is G l M 1 hI_M (by omega)) kd_163 rfl rfl rfl ⟨by decide, by decide⟩ rfl rfl (Nat.le_of_ble_eq_true rfl) dX12_pour_30 rfl ?_
        intro r_10 N_11 q_12
        obtain ⟨hI_N_11, hG_N_11, q_12c⟩ := q_12
        have hF_N_11 : Fr f_c_X12_pour M N_11 := Fr.c hF_M hG_N_11 rfl
        rcases q_12c with q_12c | q_12c
        · exfalso; omega
        · exact kx_zret F hQ (by omega) ⟨hI_N_11, hF_N_11, (by omega)⟩ dX12_pour_33
      · refine kx_iload 20 F 4 dX12_pour_18 rfl rfl ?_
        refine kx_if_lt 23 F 28 dX12_pour_20 (by decide) rfl (by omega) (fun h_13 => ?_) (fun h_13 => ?_)
        · refine kx_aload_n 29 F 0 dX12_pour_28 rfl rfl rfl ?_
          refine kx_iconst 30 F dX12_pour_29 rfl ?_
          refine kx_Vi 33 (ci := 0) F (As := [vI 1]) (st := []) vd_X12_130 (c_X12_is G l M 1 hI_M (by omega)) kd_163 rfl rfl rfl ⟨by decide, by decide⟩ rfl rfl (Nat.le_of_ble_eq_true rfl) dX12_pour_30 rfl ?_
          intro r_14 N_15 q_16
          obtain ⟨hI_N_15, hG_N_15, q_16c⟩ := q_16
          have hF_N_15 : Fr f_c_X12_pour M N_15 := Fr.c hF_M hG_N_15 rfl
          rcases q_16c with q_16c | q_16c
          · exfalso; omega
          · exact kx_zret F hQ (by omega) ⟨hI_N_15, hF_N_15, (by omega)⟩ dX12_pour_33
        · refine kx_iload 25 F 5 dX12_pour_23 rfl rfl ?_
          refine kx_if_ge 28 F 34 dX12_pour_25 (by decide) rfl (by omega) (fun h_17 => ?_) (fun h_17 => ?_)
          · refine kx_aload_n 35 F 0 dX12_pour_34 rfl rfl rfl ?_
            refine kx_getr 38 F fl_X12_24 kd_163 rfl rfl (j := 6) rfl dX12_pour_35 (v := 167) (uq_167 (Inv.r hI_M kd_163 rfl 6 rfl rfl)) rfl ?_
            refine kx_iload_n 39 F 1 dX12_pour_38 rfl rfl rfl ?_
            refine kx_iald 40 F kd_167 rfl rfl (by omega) (by decide) dX12_pour_39 (v := (M 167 a1)) rfl rfl ?_
            have h_18 := Inv.g hI_M kd_167 rfl a1 (a := (-1)) (b := 60) rfl rfl
            refine kx_iconst 41 F dX12_pour_40 rfl ?_
            refine kx_icmp_eq 44 F 54 dX12_pour_41 (by decide) rfl (by omega) (by decide) (fun h_19 => ?_) (fun h_19 => ?_)
            · refine kx_aload_n 55 F 0 dX12_pour_54 rfl rfl rfl ?_
              refine kx_iconst 56 F dX12_pour_55 rfl ?_
              refine kx_Vi 59 (ci := 0) F (As := [vI 2]) (st := []) vd_X12_130 (c_X12_is G l M 2 hI_M (by omega)) kd_163 rfl rfl rfl ⟨by decide, by decide⟩ rfl rfl (Nat.le_of_ble_eq_true rfl) dX12_pour_56 rfl ?_
              intro r_20 N_21 q_22
              obtain ⟨hI_N_21, hG_N_21, q_22c⟩ := q_22
              have hF_N_21 : Fr f_c_X12_pour M N_21 := Fr.c hF_M hG_N_21 rfl
              rcases q_22c with q_22c | q_22c
              · exfalso; omega
              · exact kx_zret F hQ (by omega) ⟨hI_N_21, hF_N_21, (by omega)⟩ dX12_pour_59
            · refine kx_aload_n 45 F 0 dX12_pour_44 rfl rfl rfl ?_
              refine kx_getr 48 F fl_X12_24 kd_163 rfl rfl (j := 6) rfl dX12_pour_45 (v := 167) (uq_167 (Inv.r hI_M kd_163 rfl 6 rfl rfl)) rfl ?_
              refine kx_iload_n 49 F 3 dX12_pour_48 rfl rfl rfl ?_
              refine kx_iald 50 F kd_167 rfl rfl (by omega) (by decide) dX12_pour_49 (v := (M 167 a3)) rfl rfl ?_
              have h_23 := Inv.g hI_M kd_167 rfl a3 (a := (-1)) (b := 60) rfl rfl
              refine kx_iconst 51 F dX12_pour_50 rfl ?_
              refine kx_icmp_ne 54 F 60 dX12_pour_51 (by decide) rfl (by omega) (by decide) (fun h_24 => ?_) (fun h_24 => ?_)
              · refine kx_aload_n 61 F 0 dX12_pour_60 rfl rfl rfl ?_
                refine kx_getr 64 F fl_X12_21 kd_163 rfl rfl (j := 5) rfl dX12_pour_61 (v := 166) (uq_166 (Inv.r hI_M kd_163 rfl 5 rfl rfl)) rfl ?_
                refine kx_iload_n 65 F 1 dX12_pour_64 rfl rfl rfl ?_
                refine kx_iald 66 F kd_166 rfl rfl (by omega) (by decide) dX12_pour_65 (v := (M 166 a1)) rfl rfl ?_
                have h_25 := Inv.g hI_M kd_166 rfl a1 (a := 0) (b := 3) rfl rfl
                refine kx_aload_n 67 F 0 dX12_pour_66 rfl rfl rfl ?_
                refine kx_getr 70 F fl_X12_21 kd_163 rfl rfl (j := 5) rfl dX12_pour_67 (v := 166) (uq_166 (Inv.r hI_M kd_163 rfl 5 rfl rfl)) rfl ?_
                refine kx_iload_n 71 F 3 dX12_pour_70 rfl rfl rfl ?_
                refine kx_iald 72 F kd_166 rfl rfl (by omega) (by decide) dX12_pour_71 (v := (M 166 a3)) rfl rfl ?_
                have h_26 := Inv.g hI_M kd_166 rfl a3 (a := 0) (b := 3) rfl rfl
                refine kx_icmp_eq 75 F 82 dX12_pour_72 (by decide) rfl (by omega) (by omega) (fun h_27 => ?_) (fun h_27 => ?_)
                · refine kx_iload 84 F 5 dX12_pour_82 rfl rfl ?_
                  refine kx_aload_n 85 F 0 dX12_pour_84 rfl rfl rfl ?_
                  refine kx_getr 88 F fl_X12_24 kd_163 rfl rfl (j := 6) rfl dX12_pour_85 (v := 167) (uq_167 (Inv.r hI_M kd_163 rfl 6 rfl rfl)) rfl ?_
                  refine kx_iload_n 89 F 1 dX12_pour_88 rfl rfl rfl ?_
                  refine kx_iald 90 F kd_167 rfl rfl (by omega) (by decide) dX12_pour_89 (v := (M 167 a1)) rfl rfl ?_
                  refine kx_iload_n 91 F 2 dX12_pour_90 rfl rfl rfl ?_
                  refine kx_isub 92 F (v := (M 167 a1) - a2) dX12_pour_91 rfl rfl ?_
                  refine kx_icmp_gt 95 F 109 dX12_pour_92 (by decide) rfl (by omega) (by omega) (fun h_28 => ?_) (fun h_28 => ?_)
                  · refine kx_aload_n 110 F 0 dX12_pour_109 rfl rfl rfl ?_
                    refine kx_iconst 111 F dX12_pour_110 rfl ?_
                    refine kx_Vi 114 (ci := 0) F (As := [vI 3]) (st := []) vd_X12_130 (c_X12_is G l M 3 hI_M (by omega)) kd_163 rfl rfl rfl ⟨by decide, by decide⟩ rfl rfl (Nat.le_of_ble_eq_true rfl) dX12_pour_111 rfl ?_
                    intro r_29 N_30 q_31
                    obtain ⟨hI_N_30, hG_N_30, q_31c⟩ := q_31
                    have hF_N_30 : Fr f_c_X12_pour M N_30 := Fr.c hF_M hG_N_30 rfl
                    rcases q_31c with q_31c | q_31c
                    · exfalso; omega
                    · exact kx_zret F hQ (by omega) ⟨hI_N_30, hF_N_30, (by omega)⟩ dX12_pour_114
                  · refine kx_iload 97 F 5 dX12_pour_95 rfl rfl ?_
                    refine kx_aload_n 98 F 0 dX12_pour_97 rfl rfl rfl ?_
                    refine kx_getr 101 F fl_X12_24 kd_163 rfl rfl (j := 6) rfl dX12_pour_98 (v := 167) (uq_167 (Inv.r hI_M kd_163 rfl 6 rfl rfl)) rfl ?_
                    refine kx_iload_n 102 F 3 dX12_pour_101 rfl rfl rfl ?_
                    refine kx_iald 103 F kd_167 rfl rfl (by omega) (by decide) dX12_pour_102 (v := (M 167 a3)) rfl rfl ?_
                    refine kx_iload 105 F 4 dX12_pour_103 rfl rfl ?_
                    refine kx_isub 106 F (v := (M 167 a3) - a4) dX12_pour_105 rfl rfl ?_
                    refine kx_icmp_le 109 F 115 dX12_pour_106 (by decide) rfl (by omega) (by omega) (fun h_32 => ?_) (fun h_32 => ?_)
                    · refine kx_iconst 116 F dX12_pour_115 rfl ?_
                      refine kx_istore 118 F 6 (lo' := [some (vR G 163), some (vI a1), some (vI a2), some (vI a3), some (vI a4), some (vI a5), some (vI 0), none]) dX12_pour_116 (by decide) rfl rfl rfl ?_
                      have L_112 : ∀ (n_113 : Nat) (x6_110 : Int) (N_111 : Mem), Inv true N_111 → Fr f_c_X12_pour M N_111 → 0 ≤ x6_110 ∧ x6_110 ≤ 60 → (60 - (x6_110)).toNat = n_113 → KJ true G X N_111 118 [some (vR G 163), some (vI a1), some (vI a2), some (vI a3), some (vI a4), some (vI a5), some (vI x6_110), none] [] := by
                        intro n_113
                        refine Nat.strongRecOn n_113 ?_
                        intro n_113 ih_114 x6_110 N_111 hI_N_111 hF_N_111 h_115 hm_116
                        refine kx_iload 120 F 6 dX12_pour_118 rfl rfl ?_
                        refine kx_iload 122 F 5 dX12_pour_120 rfl rfl ?_
                        refine kx_icmp_ge 125 F 180 dX12_pour_122 (by decide) rfl (by omega) (by omega) (fun h_117 => ?_) (fun h_117 => ?_)
                        · refine kx_aload_n 181 F 0 dX12_pour_180 rfl rfl rfl ?_
                          refine kx_iconst 182 F dX12_pour_181 rfl ?_
                          refine kx_Vi 185 (ci := 0) F (As := [vI 0]) (st := []) vd_X12_130 (c_X12_is G l N_111 0 hI_N_111 (by omega)) kd_163 rfl rfl rfl ⟨by decide, by decide⟩ rfl rfl (Nat.le_of_ble_eq_true rfl) dX12_pour_182 rfl ?_
                          intro r_118 N_119 q_120
                          obtain ⟨hI_N_119, hG_N_119, q_120c⟩ := q_120
                          have hF_N_119 : Fr f_c_X12_pour M N_119 := Fr.c hF_N_111 hG_N_119 rfl
                          rcases q_120c with q_120c | q_120c
                          · exact kx_zret F hQ (by omega) ⟨hI_N_119, hF_N_119, (by omega)⟩ dX12_pour_185
                          · exact kx_zret F hQ (by omega) ⟨hI_N_119, hF_N_119, (by omega)⟩ dX12_pour_185
                        · refine kx_iload_n 126 F 2 dX12_pour_125 rfl rfl rfl ?_
                          refine kx_iload 128 F 4 dX12_pour_126 rfl rfl ?_
                          refine kx_icmp_ge 131 F 141 dX12_pour_128 (by decide) rfl (by omega) (by omega) (fun h_121 => ?_) (fun h_121 => ?_)
                          · refine kx_iload 143 F 6 dX12_pour_141 rfl rfl ?_
                            refine kx_istore 145 F 7 (lo' := [some (vR G 163), some (vI a1), some (vI a2), some (vI a3), some (vI a4), some (vI a5), some (vI x6_110), some (vI x6_110)]) dX12_pour_143 (by decide) rfl rfl rfl ?_
                            refine kx_aload_n 146 F 0 dX12_pour_145 rfl rfl rfl ?_
                            refine kx_getr 149 F fl_X12_27 kd_163 rfl rfl (j := 7) rfl dX12_pour_146 (v := 168) (uq_168 (Inv.r hI_N_111 kd_163 rfl 7 rfl rfl)) rfl ?_
                            refine kx_bipush 151 F dX12_pour_149 (by decide) rfl ?_
                            refine kx_iload_n 152 F 3 dX12_pour_151 rfl rfl rfl ?_
                            refine kx_imul 153 F (v := 60 * a3) dX12_pour_152 (by omega) rfl ?_
                            refine kx_iload 155 F 4 dX12_pour_153 rfl rfl ?_
                            refine kx_iadd 156 F (v := 60 * a3 + a4) dX12_pour_155 rfl rfl ?_
                            refine kx_iload 158 F 7 dX12_pour_156 rfl rfl ?_
                            refine kx_iadd 159 F (v := 60 * a3 + a4 + x6_110) dX12_pour_158 rfl rfl ?_
                            refine kx_aload_n 160 F 0 dX12_pour_159 rfl rfl rfl ?_
                            refine kx_getr 163 F fl_X12_27 kd_163 rfl rfl (j := 7) rfl dX12_pour_160 (v := 168) (uq_168 (Inv.r hI_N_111 kd_163 rfl 7 rfl rfl)) rfl ?_
                            refine kx_bipush 165 F dX12_pour_163 (by decide) rfl ?_
                            refine kx_iload_n 166 F 1 dX12_pour_165 rfl rfl rfl ?_
                            refine kx_imul 167 F (v := 60 * a1) dX12_pour_166 (by omega) rfl ?_
                            refine kx_iload_n 168 F 2 dX12_pour_167 rfl rfl rfl ?_
                            refine kx_iadd 169 F (v := 60 * a1 + a2) dX12_pour_168 rfl rfl ?_
                            refine kx_iload 171 F 7 dX12_pour_169 rfl rfl ?_
                            refine kx_iadd 172 F (v := 60 * a1 + a2 + x6_110) dX12_pour_171 rfl rfl ?_
                            refine kx_lald 173 F kd_168 rfl rfl (by omega) (by decide) dX12_pour_172 (v := (N_111 168 (60 * a1 + a2 + x6_110))) rfl rfl ?_
                            have h_122 := Inv.g hI_N_111 kd_168 rfl (60 * a1 + a2 + x6_110) (a := (-9223372036854775808)) (b := 9223372036854775807) rfl rfl
                            refine kx_last 174 F kd_168 rfl rfl (by omega) (by decide) dX12_pour_173 rfl ?_
                            intro N_123 hM_N_123
                            have hI_N_123 : Inv true N_123 := Inv.u hI_N_111 hM_N_123 kd_168 (a := (-9223372036854775808)) (b := 9223372036854775807) rfl rfl rfl (by omega)
                            have hF_N_123 : Fr f_c_X12_pour M N_123 := Fr.u hF_N_111 hM_N_123 kd_168 rfl
                            refine kx_iinc 177 F 6 (v := x6_110 + 1) (lo' := [some (vR G 163), some (vI a1), some (vI a2), some (vI a3), some (vI a4), some (vI a5), some (vI (x6_110 + 1)), some (vI x6_110)]) dX12_pour_174 rfl (by omega) (by decide) rfl rfl rfl ?_
                            refine kx_goto 118 F dX12_pour_177 (by decide) ?_
                            refine kx_drop 7 (lo' := [some (vR G 163), some (vI a1), some (vI a2), some (vI a3), some (vI a4), some (vI a5), some (vI (x6_110 + 1)), none]) rfl ?_
                            exact ih_114 _ (by omega) (x6_110 + 1) N_123 hI_N_123 hF_N_123 (by omega) rfl
                          · refine kx_iload 133 F 5 dX12_pour_131 rfl rfl ?_
                            refine kx_iconst 134 F dX12_pour_133 rfl ?_
                            refine kx_isub 135 F (v := a5 - 1) dX12_pour_134 rfl rfl ?_
                            refine kx_iload 137 F 6 dX12_pour_135 rfl rfl ?_
                            refine kx_isub 138 F (v := a5 - x6_110 - 1) dX12_pour_137 (by omega) rfl ?_
                            refine kx_goto 143 F dX12_pour_138 (by decide) ?_
                            refine kx_istore 145 F 7 (lo' := [some (vR G 163), some (vI a1), some (vI a2), some (vI a3), some (vI a4), some (vI a5), some (vI x6_110), some (vI (a5 - x6_110 - 1))]) dX12_pour_143 (by decide) rfl rfl rfl ?_
                            refine kx_aload_n 146 F 0 dX12_pour_145 rfl rfl rfl ?_
                            refine kx_getr 149 F fl_X12_27 kd_163 rfl rfl (j := 7) rfl dX12_pour_146 (v := 168) (uq_168 (Inv.r hI_N_111 kd_163 rfl 7 rfl rfl)) rfl ?_
                            refine kx_bipush 151 F dX12_pour_149 (by decide) rfl ?_
                            refine kx_iload_n 152 F 3 dX12_pour_151 rfl rfl rfl ?_
                            refine kx_imul 153 F (v := 60 * a3) dX12_pour_152 (by omega) rfl ?_
                            refine kx_iload 155 F 4 dX12_pour_153 rfl rfl ?_
                            refine kx_iadd 156 F (v := 60 * a3 + a4) dX12_pour_155 rfl rfl ?_
                            refine kx_iload 158 F 7 dX12_pour_156 rfl rfl ?_
                            refine kx_iadd 159 F (v := 60 * a3 + a4 + a5 - x6_110 - 1) dX12_pour_158 (by omega) rfl ?_
                            refine kx_aload_n 160 F 0 dX12_pour_159 rfl rfl rfl ?_
                            refine kx_getr 163 F fl_X12_27 kd_163 rfl rfl (j := 7) rfl dX12_pour_160 (v := 168) (uq_168 (Inv.r hI_N_111 kd_163 rfl 7 rfl rfl)) rfl ?_
                            refine kx_bipush 165 F dX12_pour_163 (by decide) rfl ?_
                            refine kx_iload_n 166 F 1 dX12_pour_165 rfl rfl rfl ?_
                            refine kx_imul 167 F (v := 60 * a1) dX12_pour_166 (by omega) rfl ?_
                            refine kx_iload_n 168 F 2 dX12_pour_167 rfl rfl rfl ?_
                            refine kx_iadd 169 F (v := 60 * a1 + a2) dX12_pour_168 rfl rfl ?_
                            refine kx_iload 171 F 7 dX12_pour_169 rfl rfl ?_
                            refine kx_iadd 172 F (v := 60 * a1 + a2 + a5 - x6_110 - 1) dX12_pour_171 (by omega) rfl ?_
                            refine kx_lald 173 F kd_168 rfl rfl (by omega) (by decide) dX12_pour_172 (v := (N_111 168 (60 * a1 + a2 + a5 - x6_110 - 1))) rfl rfl ?_
                            have h_124 := Inv.g hI_N_111 kd_168 rfl (60 * a1 + a2 + a5 - x6_110 - 1) (a := (-9223372036854775808)) (b := 9223372036854775807) rfl rfl
                            refine kx_last 174 F kd_168 rfl rfl (by omega) (by decide) dX12_pour_173 rfl ?_
                            intro N_125 hM_N_125
                            have hI_N_125 : Inv true N_125 := Inv.u hI_N_111 hM_N_125 kd_168 (a := (-9223372036854775808)) (b := 9223372036854775807) rfl rfl rfl (by omega)
                            have hF_N_125 : Fr f_c_X12_pour M N_125 := Fr.u hF_N_111 hM_N_125 kd_168 rfl
                            refine kx_iinc 177 F 6 (v := x6_110 + 1) (lo' := [some (vR G 163), some (vI a1), some (vI a2), some (vI a3), some (vI a4), some (vI a5), some (vI (x6_110 + 1)), some (vI (a5 - x6_110 - 1))]) dX12_pour_174 rfl (by omega) (by decide) rfl rfl rfl ?_
                            refine kx_goto 118 F dX12_pour_177 (by decide) ?_
                            refine kx_drop 7 (lo' := [some (vR G 163), some (vI a1), some (vI a2), some (vI a3), some (vI a4), some (vI a5), some (vI (x6_110 + 1)), none]) rfl ?_
                            exact ih_114 _ (by omega) (x6_110 + 1) N_125 hI_N_125 hF_N_125 (by omega) rfl
                      exact L_112 _ 0 M hI_M hF_M (by omega) rfl
                    · refine kx_aload_n 110 F 0 dX12_pour_109 rfl rfl rfl ?_
                      refine kx_iconst 111 F dX12_pour_110 rfl ?_
                      refine kx_Vi 114 (ci := 0) F (As := [vI 3]) (st := []) vd_X12_130 (c_X12_is G l M 3 hI_M (by omega)) kd_163 rfl rfl rfl ⟨by decide, by decide⟩ rfl rfl (Nat.le_of_ble_eq_true rfl) dX12_pour_111 rfl ?_
                      intro r_126 N_127 q_128
                      obtain ⟨hI_N_127, hG_N_127, q_128c⟩ := q_128
                      have hF_N_127 : Fr f_c_X12_pour M N_127 := Fr.c hF_M hG_N_127 rfl
                      rcases q_128c with q_128c | q_128c
                      · exfalso; omega
                      · exact kx_zret F hQ (by omega) ⟨hI_N_127, hF_N_127, (by omega)⟩ dX12_pour_114
                · refine kx_aload_n 76 F 0 dX12_pour_75 rfl rfl rfl ?_
                  refine kx_bipush 78 F dX12_pour_76 (by decide) rfl ?_
                  refine kx_Vi 81 (ci := 0) F (As := [vI 8]) (st := []) vd_X12_130 (c_X12_is G l M 8 hI_M (by omega)) kd_163 rfl rfl rfl ⟨by decide, by decide⟩ rfl rfl (Nat.le_of_ble_eq_true rfl) dX12_pour_78 rfl ?_
                  intro r_129 N_130 q_131
                  obtain ⟨hI_N_130, hG_N_130, q_131c⟩ := q_131
                  have hF_N_130 : Fr f_c_X12_pour M N_130 := Fr.c hF_M hG_N_130 rfl
                  rcases q_131c with q_131c | q_131c
                  · exfalso; omega
                  · exact kx_zret F hQ (by omega) ⟨hI_N_130, hF_N_130, (by omega)⟩ dX12_pour_81
              · refine kx_aload_n 55 F 0 dX12_pour_54 rfl rfl rfl ?_
                refine kx_iconst 56 F dX12_pour_55 rfl ?_
                refine kx_Vi 59 (ci := 0) F (As := [vI 2]) (st := []) vd_X12_130 (c_X12_is G l M 2 hI_M (by omega)) kd_163 rfl rfl rfl ⟨by decide, by decide⟩ rfl rfl (Nat.le_of_ble_eq_true rfl) dX12_pour_56 rfl ?_
                intro r_132 N_133 q_134
                obtain ⟨hI_N_133, hG_N_133, q_134c⟩ := q_134
                have hF_N_133 : Fr f_c_X12_pour M N_133 := Fr.c hF_M hG_N_133 rfl
                rcases q_134c with q_134c | q_134c
                · exfalso; omega
                · exact kx_zret F hQ (by omega) ⟨hI_N_133, hF_N_133, (by omega)⟩ dX12_pour_59
          · refine kx_aload_n 29 F 0 dX12_pour_28 rfl rfl rfl ?_
            refine kx_iconst 30 F dX12_pour_29 rfl ?_
            refine kx_Vi 33 (ci := 0) F (As := [vI 1]) (st := []) vd_X12_130 (c_X12_is G l M 1 hI_M (by omega)) kd_163 rfl rfl rfl ⟨by decide, by decide⟩ rfl rfl (Nat.le_of_ble_eq_true rfl) dX12_pour_30 rfl ?_
            intro r_135 N_136 q_137
            obtain ⟨hI_N_136, hG_N_136, q_137c⟩ := q_137
            have hF_N_136 : Fr f_c_X12_pour M N_136 := Fr.c hF_M hG_N_136 rfl
            rcases q_137c with q_137c | q_137c
            · exfalso; omega
            · exact kx_zret F hQ (by omega) ⟨hI_N_136, hF_N_136, (by omega)⟩ dX12_pour_33
    · refine kx_if_eq 14 F 28 dX12_pour_11 (by decide) rfl (by omega) (fun h_138 => ?_) (fun h_138 => (by exfalso; omega))
      refine kx_aload_n 29 F 0 dX12_pour_28 rfl rfl rfl ?_
      refine kx_iconst 30 F dX12_pour_29 rfl ?_
      refine kx_Vi 33 (ci := 0) F (As := [vI 1]) (st := []) vd_X12_130 (c_X12_is G l M 1 hI_M (by omega)) kd_163 rfl rfl rfl ⟨by decide, by decide⟩ rfl rfl (Nat.le_of_ble_eq_true rfl) dX12_pour_30 rfl ?_
      intro r_139 N_140 q_141
      obtain ⟨hI_N_140, hG_N_140, q_141c⟩ := q_141
      have hF_N_140 : Fr f_c_X12_pour M N_140 := Fr.c hF_M hG_N_140 rfl
      rcases q_141c with q_141c | q_141c
      · exfalso; omega
      · exact kx_zret F hQ (by omega) ⟨hI_N_140, hF_N_140, (by omega)⟩ dX12_pour_33
  · refine kx_if_eq 7 F 28 dX12_pour_4 (by decide) rfl (by omega) (fun h_142 => ?_) (fun h_142 => (by exfalso; omega))
    refine kx_aload_n 29 F 0 dX12_pour_28 rfl rfl rfl ?_
    refine kx_iconst 30 F dX12_pour_29 rfl ?_
    refine kx_Vi 33 (ci := 0) F (As := [vI 1]) (st := []) vd_X12_130 (c_X12_is G l M 1 hI_M (by omega)) kd_163 rfl rfl rfl ⟨by decide, by decide⟩ rfl rfl (Nat.le_of_ble_eq_true rfl) dX12_pour_30 rfl ?_
    intro r_143 N_144 q_145
    obtain ⟨hI_N_144, hG_N_144, q_145c⟩ := q_145
    have hF_N_144 : Fr f_c_X12_pour M N_144 := Fr.c hF_M hG_N_144 rfl
    rcases q_145c with q_145c | q_145c
    · exfalso; omega
    · exact kx_zret F hQ (by omega) ⟨hI_N_144, hF_N_144, (by omega)⟩ dX12_pour_33
theorem dX12_isFrom_0 : decode cX12_isFrom 0 = .ok (.lload_n 0, 1) := by decide +kernel
theorem dX12_isFrom_1 : decode cX12_isFrom 1 = .ok (.lload_n 2, 1) := by decide +kernel
theorem dX12_isFrom_2 : decode cX12_isFrom 2 = .ok (.lcmp, 1) := by decide +kernel
theorem dX12_isFrom_3 : decode cX12_isFrom 3 = .ok (.ifCond .lt 14, 3) := by decide +kernel
theorem dX12_isFrom_6 : decode cX12_isFrom 6 = .ok (.lload_n 0, 1) := by decide +kernel
theorem dX12_isFrom_7 : decode cX12_isFrom 7 = .ok (.lload 4, 2) := by decide +kernel
theorem dX12_isFrom_9 : decode cX12_isFrom 9 = .ok (.lcmp, 1) := by decide +kernel
theorem dX12_isFrom_10 : decode cX12_isFrom 10 = .ok (.ifCond .gt 7, 3) := by decide +kernel
theorem dX12_isFrom_13 : decode cX12_isFrom 13 = .ok (.iconst 1, 1) := by decide +kernel
theorem dX12_isFrom_14 : decode cX12_isFrom 14 = .ok (.goto 4, 3) := by decide +kernel
theorem dX12_isFrom_17 : decode cX12_isFrom 17 = .ok (.iconst 0, 1) := by decide +kernel
theorem dX12_isFrom_18 : decode cX12_isFrom 18 = .ok (.ireturn, 1) := by decide +kernel
set_option maxHeartbeats 4000000 in
set_option maxRecDepth 100000 in
theorem c_X12_isFrom (G : KG) (l : Launch) (M : Mem) (a0 : Int) (a1 : Int) (a2 : Int) (hI_M : Inv true M) (hpre : -9223372036854775808 ≤ a0 ∧ a0 ≤ 9223372036854775807 ∧ -9223372036854775808 ≤ a1 ∧ a1 ≤ 9223372036854775807 ∧ -9223372036854775808 ≤ a2 ∧ a2 ≤ 9223372036854775807) : KC true G l yX12_isFrom cX12_isFrom 6 (some .boolean) (0, 0) [vL a0, vL a1, vL a2] M (fun A => kQi true G A (fun (r : Int) (N : Mem) => M = N ∧ ((r = 1 ∧ a1 ≤ a0 ∧ a0 ≤ a2) ∨ (r = 0)))) := by
  refine kx_met (lo := [some (vL a0), none, some (vL a1), none, some (vL a2), none]) (by decide) (Nat.le_of_ble_eq_true rfl) rfl ?_
  intro X F hQ
  refine kx_lload_n 1 F 0 dX12_isFrom_0 rfl rfl rfl ?_
  refine kx_lload_n 2 F 2 dX12_isFrom_1 rfl rfl rfl ?_
  refine kx_lcmp 3 F dX12_isFrom_2 (by omega) (by omega) rfl (fun w_1 h_2 => ?_)
  refine kx_if_lt 6 F 17 dX12_isFrom_3 (by decide) rfl (by omega) (fun h_3 => ?_) (fun h_3 => ?_)
  · refine kx_iconst 18 F dX12_isFrom_17 rfl ?_
    exact kx_zret F hQ (by omega) ⟨rfl, (by omega)⟩ dX12_isFrom_18
  · refine kx_lload_n 7 F 0 dX12_isFrom_6 rfl rfl rfl ?_
    refine kx_lload 9 F 4 dX12_isFrom_7 rfl rfl ?_
    refine kx_lcmp 10 F dX12_isFrom_9 (by omega) (by omega) rfl (fun w_4 h_5 => ?_)
    refine kx_if_gt 13 F 17 dX12_isFrom_10 (by decide) rfl (by omega) (fun h_6 => ?_) (fun h_6 => ?_)
    · refine kx_iconst 18 F dX12_isFrom_17 rfl ?_
      exact kx_zret F hQ (by omega) ⟨rfl, (by omega)⟩ dX12_isFrom_18
    · refine kx_iconst 14 F dX12_isFrom_13 rfl ?_
      refine kx_goto 18 F dX12_isFrom_14 (by decide) ?_
      exact kx_zret F hQ (by omega) ⟨rfl, (by omega)⟩ dX12_isFrom_18
theorem dX12_four_0 : decode cX12_four 0 = .ok (.bipush 24, 2) := by decide +kernel
theorem dX12_four_2 : decode cX12_four 2 = .ok (.istore_n 2, 1) := by decide +kernel
theorem dX12_four_3 : decode cX12_four 3 = .ok (.iload_n 2, 1) := by decide +kernel
theorem dX12_four_4 : decode cX12_four 4 = .ok (.ifCond .lt 32, 3) := by decide +kernel
theorem dX12_four_7 : decode cX12_four 7 = .ok (.aload_n 0, 1) := by decide +kernel
theorem dX12_four_8 : decode cX12_four 8 = .ok (.getfield 30, 3) := by decide +kernel
theorem dX12_four_11 : decode cX12_four 11 = .ok (.aload_n 0, 1) := by decide +kernel
theorem dX12_four_12 : decode cX12_four 12 = .ok (.getfield 147, 3) := by decide +kernel
theorem dX12_four_15 : decode cX12_four 15 = .ok (.iload_n 1, 1) := by decide +kernel
theorem dX12_four_16 : decode cX12_four 16 = .ok (.iload_n 2, 1) := by decide +kernel
theorem dX12_four_17 : decode cX12_four 17 = .ok (.ishr, 1) := by decide +kernel
theorem dX12_four_18 : decode cX12_four 18 = .ok (.i2b, 1) := by decide +kernel
theorem dX12_four_19 : decode cX12_four 19 = .ok (.bastore, 1) := by decide +kernel
theorem dX12_four_20 : decode cX12_four 20 = .ok (.aload_n 0, 1) := by decide +kernel
theorem dX12_four_21 : decode cX12_four 21 = .ok (.dup, 1) := by decide +kernel
theorem dX12_four_22 : decode cX12_four 22 = .ok (.getfield 147, 3) := by decide +kernel
theorem dX12_four_25 : decode cX12_four 25 = .ok (.iconst 1, 1) := by decide +kernel
theorem dX12_four_26 : decode cX12_four 26 = .ok (.iadd, 1) := by decide +kernel
theorem dX12_four_27 : decode cX12_four 27 = .ok (.putfield 147, 3) := by decide +kernel
theorem dX12_four_30 : decode cX12_four 30 = .ok (.iinc 2 (-8), 3) := by decide +kernel
theorem dX12_four_33 : decode cX12_four 33 = .ok (.goto (-30), 3) := by decide +kernel
theorem dX12_four_36 : decode cX12_four 36 = .ok (.return_, 1) := by decide +kernel
abbrev f_c_X12_four : List (Nat × Int) := [(64, 10), (70, -1)]
set_option maxHeartbeats 4000000 in
set_option maxRecDepth 100000 in
theorem c_X12_four (G : KG) (l : Launch) (M : Mem) (a1 : Int) (hI_M : Inv true M) (hpre : -2147483648 ≤ a1 ∧ a1 ≤ 2147483647 ∧ (M 163 10) ≤ 896) : KC true G l yX12_four cX12_four 3 none (0, 0) [vR G 163, vI a1] M (fun A => kQv true G A (fun (N : Mem) => Inv true N ∧ Fr f_c_X12_four M N ∧ ((N 163 10) = (M 163 10) + 4))) := by
  refine kx_met (lo := [some (vR G 163), some (vI a1), none]) (by decide) (Nat.le_of_ble_eq_true rfl) rfl ?_
  intro X F hQ
  have hF_M : Fr f_c_X12_four M M := Fr.rf _ _
  have h_1 := Inv.g hI_M kd_163 rfl 10 (a := 0) (b := 900) rfl rfl
  refine kx_bipush 2 F dX12_four_0 (by decide) rfl ?_
  refine kx_istore_n 3 F 2 (lo' := [some (vR G 163), some (vI a1), some (vI 24)]) dX12_four_2 rfl (by decide) rfl rfl rfl ?_
  have L_60 : ∀ (n_61 : Nat) (x2_58 : Int) (N_59 : Mem), Inv true N_59 → Fr f_c_X12_four M N_59 → (-8) ≤ x2_58 ∧ x2_58 ≤ 24 ∧ 8 * (N_59 163 10) + x2_58 = 8 * (M 163 10) + 24 → ((x2_58) - (-8)).toNat = n_61 → KJ true G X N_59 3 [some (vR G 163), some (vI a1), some (vI x2_58)] [] := by
    intro n_61
    refine Nat.strongRecOn n_61 ?_
    intro n_61 ih_62 x2_58 N_59 hI_N_59 hF_N_59 h_63 hm_64
    refine kx_iload_n 4 F 2 dX12_four_3 rfl rfl rfl ?_
    refine kx_if_lt 7 F 36 dX12_four_4 (by decide) rfl (by omega) (fun h_65 => ?_) (fun h_65 => ?_)
    · have h_66 := Inv.g hI_N_59 kd_163 rfl 10 (a := 0) (b := 900) rfl rfl
      exact kx_vret F hQ ⟨hI_N_59, hF_N_59, (by omega)⟩ dX12_four_36
    · refine kx_aload_n 8 F 0 dX12_four_7 rfl rfl rfl ?_
      refine kx_getr 11 F fl_X12_30 kd_163 rfl rfl (j := 8) rfl dX12_four_8 (v := 169) (uq_169 (Inv.r hI_N_59 kd_163 rfl 8 rfl rfl)) rfl ?_
      refine kx_aload_n 12 F 0 dX12_four_11 rfl rfl rfl ?_
      refine kx_geti 15 F fl_X12_147 kd_163 rfl rfl (j := 10) rfl dX12_four_12 (v := (N_59 163 10)) rfl rfl ?_
      have h_67 := Inv.g hI_N_59 kd_163 rfl 10 (a := 0) (b := 900) rfl rfl
      refine kx_iload_n 16 F 1 dX12_four_15 rfl rfl rfl ?_
      refine kx_iload_n 17 F 2 dX12_four_16 rfl rfl rfl ?_
      refine kx_ishr 18 F (v := (zshr a1 x2_58)) dX12_four_17 rfl rfl ?_
      have h_68 := zshr_rng a1 x2_58
      refine kx_i2b 19 F dX12_four_18 rfl (fun w_69 h_70 _ => ?_)
      refine kx_bast 20 F (by omega) kd_169 rfl rfl (by omega) (by decide) dX12_four_19 rfl ?_
      intro N_71 hM_N_71
      have hI_N_71 : Inv true N_71 := Inv.u hI_N_59 hM_N_71 kd_169 (a := (-128)) (b := 127) rfl rfl rfl (by omega)
      have hF_N_71 : Fr f_c_X12_four M N_71 := Fr.u hF_N_59 hM_N_71 kd_169 rfl
      refine kx_aload_n 21 F 0 dX12_four_20 rfl rfl rfl ?_
      refine kx_dup 22 F dX12_four_21 rfl rfl ?_
      refine kx_geti 25 F fl_X12_147 kd_163 rfl rfl (j := 10) rfl dX12_four_22 (v := (N_59 163 10)) (by rw [hM_N_71, mu_k kd_163 kd_169 rfl]) rfl ?_
      refine kx_iconst 26 F dX12_four_25 rfl ?_
      refine kx_iadd 27 F (v := (N_59 163 10) + 1) dX12_four_26 rfl rfl ?_
      refine kx_puti 30 F fw_X12_147 rfl kd_163 rfl rfl (j := 10) rfl dX12_four_27 rfl ?_
      intro N_72 hM_N_72
      have hI_N_72 : Inv true N_72 := Inv.u hI_N_71 hM_N_72 kd_163 (a := 0) (b := 900) rfl rfl rfl (by omega)
      have hF_N_72 : Fr f_c_X12_four M N_72 := Fr.u hF_N_71 hM_N_72 kd_163 rfl
      refine kx_iinc 33 F 2 (v := x2_58 - 8) (lo' := [some (vR G 163), some (vI a1), some (vI (x2_58 - 8))]) dX12_four_30 rfl (by omega) (by decide) rfl rfl rfl ?_
      refine kx_goto 3 F dX12_four_33 (by decide) ?_
      have e_73 : (N_72 163 10) = (N_59 163 10) + 1 := by rw [hM_N_72, mu_s]
      exact ih_62 _ (by omega) (x2_58 - 8) N_72 hI_N_72 hF_N_72 (by omega) rfl
  exact L_60 _ 24 M hI_M hF_M (by omega) rfl
theorem dX12_feed_0 : decode cX12_feed 0 = .ok (.aload_n 0, 1) := by decide +kernel
theorem dX12_feed_1 : decode cX12_feed 1 = .ok (.getfield 147, 3) := by decide +kernel
theorem dX12_feed_4 : decode cX12_feed 4 = .ok (.bipush 20, 2) := by decide +kernel
theorem dX12_feed_6 : decode cX12_feed 6 = .ok (.iadd, 1) := by decide +kernel
theorem dX12_feed_7 : decode cX12_feed 7 = .ok (.sipush 900, 3) := by decide +kernel
theorem dX12_feed_10 : decode cX12_feed 10 = .ok (.if_icmp .le 5, 3) := by decide +kernel
theorem dX12_feed_13 : decode cX12_feed 13 = .ok (.iconst (-1), 1) := by decide +kernel
theorem dX12_feed_14 : decode cX12_feed 14 = .ok (.ireturn, 1) := by decide +kernel
theorem dX12_feed_15 : decode cX12_feed 15 = .ok (.aload_n 0, 1) := by decide +kernel
theorem dX12_feed_16 : decode cX12_feed 16 = .ok (.iload_n 1, 1) := by decide +kernel
theorem dX12_feed_17 : decode cX12_feed 17 = .ok (.invokevirtual 150, 3) := by decide +kernel
theorem dX12_feed_20 : decode cX12_feed 20 = .ok (.aload_n 0, 1) := by decide +kernel
theorem dX12_feed_21 : decode cX12_feed 21 = .ok (.iload_n 2, 1) := by decide +kernel
theorem dX12_feed_22 : decode cX12_feed 22 = .ok (.invokevirtual 150, 3) := by decide +kernel
theorem dX12_feed_25 : decode cX12_feed 25 = .ok (.aload_n 0, 1) := by decide +kernel
theorem dX12_feed_26 : decode cX12_feed 26 = .ok (.iload_n 3, 1) := by decide +kernel
theorem dX12_feed_27 : decode cX12_feed 27 = .ok (.invokevirtual 150, 3) := by decide +kernel
theorem dX12_feed_30 : decode cX12_feed 30 = .ok (.aload_n 0, 1) := by decide +kernel
theorem dX12_feed_31 : decode cX12_feed 31 = .ok (.iload 4, 2) := by decide +kernel
theorem dX12_feed_33 : decode cX12_feed 33 = .ok (.invokevirtual 150, 3) := by decide +kernel
theorem dX12_feed_36 : decode cX12_feed 36 = .ok (.aload_n 0, 1) := by decide +kernel
theorem dX12_feed_37 : decode cX12_feed 37 = .ok (.iload 5, 2) := by decide +kernel
theorem dX12_feed_39 : decode cX12_feed 39 = .ok (.invokevirtual 150, 3) := by decide +kernel
theorem dX12_feed_42 : decode cX12_feed 42 = .ok (.aload_n 0, 1) := by decide +kernel
theorem dX12_feed_43 : decode cX12_feed 43 = .ok (.getfield 147, 3) := by decide +kernel
theorem dX12_feed_46 : decode cX12_feed 46 = .ok (.ireturn, 1) := by decide +kernel
abbrev f_c_X12_feed : List (Nat × Int) := [(64, 10), (70, -1)]
set_option maxHeartbeats 4000000 in
set_option maxRecDepth 100000 in
theorem c_X12_feed (G : KG) (l : Launch) (M : Mem) (a1 : Int) (a2 : Int) (a3 : Int) (a4 : Int) (a5 : Int) (hI_M : Inv true M) (hpre : -2147483648 ≤ a1 ∧ a1 ≤ 2147483647 ∧ -2147483648 ≤ a2 ∧ a2 ≤ 2147483647 ∧ -2147483648 ≤ a3 ∧ a3 ≤ 2147483647 ∧ -2147483648 ≤ a4 ∧ a4 ≤ 2147483647 ∧ -2147483648 ≤ a5 ∧ a5 ≤ 2147483647) : KC true G l yX12_feed cX12_feed 6 (some .int) (1, 22) [vR G 163, vI a1, vI a2, vI a3, vI a4, vI a5] M (fun A => kQi true G A (fun (r : Int) (N : Mem) => Inv true N ∧ Fr f_c_X12_feed M N ∧ (r ≥ -1 ∧ r ≤ 900))) := by
  refine kx_met (lo := [some (vR G 163), some (vI a1), some (vI a2), some (vI a3), some (vI a4), some (vI a5)]) (by decide) (Nat.le_of_ble_eq_true rfl) rfl ?_
  intro X F hQ
  have hF_M : Fr f_c_X12_feed M M := Fr.rf _ _
  refine kx_aload_n 1 F 0 dX12_feed_0 rfl rfl rfl ?_
  refine kx_geti 4 F fl_X12_147 kd_163 rfl rfl (j := 10) rfl dX12_feed_1 (v := (M 163 10)) rfl rfl ?_
  have h_1 := Inv.g hI_M kd_163 rfl 10 (a := 0) (b := 900) rfl rfl
  refine kx_bipush 6 F dX12_feed_4 (by decide) rfl ?_
  refine kx_iadd 7 F (v := (M 163 10) + 20) dX12_feed_6 rfl rfl ?_
  refine kx_sipush 10 F dX12_feed_7 (by decide) rfl ?_
  refine kx_icmp_le 13 F 15 dX12_feed_10 (by decide) rfl (by omega) (by decide) (fun h_2 => ?_) (fun h_2 => ?_)
  · refine kx_aload_n 16 F 0 dX12_feed_15 rfl rfl rfl ?_
    refine kx_iload_n 17 F 1 dX12_feed_16 rfl rfl rfl ?_
    refine kx_Vv 20 (ci := 0) F (As := [vI a1]) (st := []) vd_X12_150 (c_X12_four G l M a1 hI_M (by omega)) kd_163 rfl rfl rfl ⟨by decide, by decide⟩ rfl rfl (Nat.le_of_ble_eq_true rfl) dX12_feed_17 rfl ?_
    intro N_3 q_4
    obtain ⟨hI_N_3, hG_N_3, q_4c⟩ := q_4
    have hF_N_3 : Fr f_c_X12_feed M N_3 := Fr.c hF_M hG_N_3 rfl
    have h_5 := Inv.g hI_N_3 kd_163 rfl 10 (a := 0) (b := 900) rfl rfl
    refine kx_aload_n 21 F 0 dX12_feed_20 rfl rfl rfl ?_
    refine kx_iload_n 22 F 2 dX12_feed_21 rfl rfl rfl ?_
    refine kx_Vv 25 (ci := 0) F (As := [vI a2]) (st := []) vd_X12_150 (c_X12_four G l N_3 a2 hI_N_3 (by omega)) kd_163 rfl rfl rfl ⟨by decide, by decide⟩ rfl rfl (Nat.le_of_ble_eq_true rfl) dX12_feed_22 rfl ?_
    intro N_6 q_7
    obtain ⟨hI_N_6, hG_N_6, q_7c⟩ := q_7
    have hF_N_6 : Fr f_c_X12_feed M N_6 := Fr.c hF_N_3 hG_N_6 rfl
    have h_8 := Inv.g hI_N_6 kd_163 rfl 10 (a := 0) (b := 900) rfl rfl
    refine kx_aload_n 26 F 0 dX12_feed_25 rfl rfl rfl ?_
    refine kx_iload_n 27 F 3 dX12_feed_26 rfl rfl rfl ?_
    refine kx_Vv 30 (ci := 0) F (As := [vI a3]) (st := []) vd_X12_150 (c_X12_four G l N_6 a3 hI_N_6 (by omega)) kd_163 rfl rfl rfl ⟨by decide, by decide⟩ rfl rfl (Nat.le_of_ble_eq_true rfl) dX12_feed_27 rfl ?_
    intro N_9 q_10
    obtain ⟨hI_N_9, hG_N_9, q_10c⟩ := q_10
    have hF_N_9 : Fr f_c_X12_feed M N_9 := Fr.c hF_N_6 hG_N_9 rfl
    have h_11 := Inv.g hI_N_9 kd_163 rfl 10 (a := 0) (b := 900) rfl rfl
    refine kx_aload_n 31 F 0 dX12_feed_30 rfl rfl rfl ?_
    refine kx_iload 33 F 4 dX12_feed_31 rfl rfl ?_
    refine kx_Vv 36 (ci := 0) F (As := [vI a4]) (st := []) vd_X12_150 (c_X12_four G l N_9 a4 hI_N_9 (by omega)) kd_163 rfl rfl rfl ⟨by decide, by decide⟩ rfl rfl (Nat.le_of_ble_eq_true rfl) dX12_feed_33 rfl ?_
    intro N_12 q_13
    obtain ⟨hI_N_12, hG_N_12, q_13c⟩ := q_13
    have hF_N_12 : Fr f_c_X12_feed M N_12 := Fr.c hF_N_9 hG_N_12 rfl
    have h_14 := Inv.g hI_N_12 kd_163 rfl 10 (a := 0) (b := 900) rfl rfl
    refine kx_aload_n 37 F 0 dX12_feed_36 rfl rfl rfl ?_
    refine kx_iload 39 F 5 dX12_feed_37 rfl rfl ?_
    refine kx_Vv 42 (ci := 0) F (As := [vI a5]) (st := []) vd_X12_150 (c_X12_four G l N_12 a5 hI_N_12 (by omega)) kd_163 rfl rfl rfl ⟨by decide, by decide⟩ rfl rfl (Nat.le_of_ble_eq_true rfl) dX12_feed_39 rfl ?_
    intro N_15 q_16
    obtain ⟨hI_N_15, hG_N_15, q_16c⟩ := q_16
    have hF_N_15 : Fr f_c_X12_feed M N_15 := Fr.c hF_N_12 hG_N_15 rfl
    have h_17 := Inv.g hI_N_15 kd_163 rfl 10 (a := 0) (b := 900) rfl rfl
    refine kx_aload_n 43 F 0 dX12_feed_42 rfl rfl rfl ?_
    refine kx_geti 46 F fl_X12_147 kd_163 rfl rfl (j := 10) rfl dX12_feed_43 (v := (N_15 163 10)) rfl rfl ?_
    exact kx_iret F hQ ⟨hI_N_15, hF_N_15, (by omega)⟩ dX12_feed_46
  · refine kx_iconst 14 F dX12_feed_13 rfl ?_
    exact kx_iret F hQ ⟨hI_M, hF_M, (by omega)⟩ dX12_feed_14
theorem dX12_byteAt_0 : decode cX12_byteAt 0 = .ok (.iload_n 1, 1) := by decide +kernel
theorem dX12_byteAt_1 : decode cX12_byteAt 1 = .ok (.aload_n 0, 1) := by decide +kernel
theorem dX12_byteAt_2 : decode cX12_byteAt 2 = .ok (.getfield 153, 3) := by decide +kernel
theorem dX12_byteAt_5 : decode cX12_byteAt 5 = .ok (.if_icmp .ge 16, 3) := by decide +kernel
theorem dX12_byteAt_8 : decode cX12_byteAt 8 = .ok (.aload_n 0, 1) := by decide +kernel
theorem dX12_byteAt_9 : decode cX12_byteAt 9 = .ok (.getfield 34, 3) := by decide +kernel
theorem dX12_byteAt_12 : decode cX12_byteAt 12 = .ok (.iload_n 1, 1) := by decide +kernel
theorem dX12_byteAt_13 : decode cX12_byteAt 13 = .ok (.baload, 1) := by decide +kernel
theorem dX12_byteAt_14 : decode cX12_byteAt 14 = .ok (.sipush 255, 3) := by decide +kernel
theorem dX12_byteAt_17 : decode cX12_byteAt 17 = .ok (.iand, 1) := by decide +kernel
theorem dX12_byteAt_18 : decode cX12_byteAt 18 = .ok (.goto 4, 3) := by decide +kernel
theorem dX12_byteAt_21 : decode cX12_byteAt 21 = .ok (.iconst (-1), 1) := by decide +kernel
theorem dX12_byteAt_22 : decode cX12_byteAt 22 = .ok (.ireturn, 1) := by decide +kernel
set_option maxHeartbeats 4000000 in
set_option maxRecDepth 100000 in
theorem c_X12_byteAt (G : KG) (l : Launch) (M : Mem) (a1 : Int) (hI_M : Inv true M) (hpre : -2147483648 ≤ a1 ∧ a1 ≤ 2147483647 ∧ 0 ≤ a1) : KC true G l yX12_byteAt cX12_byteAt 2 (some .int) (0, 0) [vR G 163, vI a1] M (fun A => kQi true G A (fun (r : Int) (N : Mem) => M = N ∧ ((r = -1 ∧ a1 ≥ (M 163 11)) ∨ (r = (tbv M a1) ∧ r ≥ 0 ∧ r ≤ 255 ∧ a1 < (M 163 11))))) := by
  refine kx_met (lo := [some (vR G 163), some (vI a1)]) (by decide) (Nat.le_of_ble_eq_true rfl) rfl ?_
  intro X F hQ
  have h_1 : tbv M a1 = zand (M 170 a1) 255 := rfl
  refine kx_iload_n 1 F 1 dX12_byteAt_0 rfl rfl rfl ?_
  refine kx_aload_n 2 F 0 dX12_byteAt_1 rfl rfl rfl ?_
  refine kx_geti 5 F fl_X12_153 kd_163 rfl rfl (j := 11) rfl dX12_byteAt_2 (v := (M 163 11)) rfl rfl ?_
  have h_2 := Inv.g hI_M kd_163 rfl 11 (a := 0) (b := 900) rfl rfl
  refine kx_icmp_ge 8 F 21 dX12_byteAt_5 (by decide) rfl (by omega) (by omega) (fun h_3 => ?_) (fun h_3 => ?_)
  · refine kx_iconst 22 F dX12_byteAt_21 rfl ?_
    exact kx_iret F hQ ⟨rfl, (by omega)⟩ dX12_byteAt_22
  · refine kx_aload_n 9 F 0 dX12_byteAt_8 rfl rfl rfl ?_
    refine kx_getr 12 F fl_X12_34 kd_163 rfl rfl (j := 9) rfl dX12_byteAt_9 (v := 170) (uq_170 (Inv.r hI_M kd_163 rfl 9 rfl rfl)) rfl ?_
    refine kx_iload_n 13 F 1 dX12_byteAt_12 rfl rfl rfl ?_
    refine kx_bald 14 F kd_170 rfl rfl (by omega) (by decide) dX12_byteAt_13 (v := (M 170 a1)) rfl rfl ?_
    have h_4 := Inv.g hI_M kd_170 rfl a1 (a := (-128)) (b := 127) rfl rfl
    refine kx_sipush 17 F dX12_byteAt_14 (by decide) rfl ?_
    refine kx_iand 18 F (v := (zand (M 170 a1) 255)) dX12_byteAt_17 rfl rfl ?_
    have h_5 := zand_r (a := (M 170 a1)) (b := 255) (by omega)
    refine kx_goto 22 F dX12_byteAt_18 (by decide) ?_
    exact kx_iret F hQ ⟨rfl, (by omega)⟩ dX12_byteAt_22
theorem dX12_isSmall_0 : decode cX12_isSmall 0 = .ok (.iload_n 0, 1) := by decide +kernel
theorem dX12_isSmall_1 : decode cX12_isSmall 1 = .ok (.bipush 97, 2) := by decide +kernel
theorem dX12_isSmall_3 : decode cX12_isSmall 3 = .ok (.if_icmp .lt 13, 3) := by decide +kernel
theorem dX12_isSmall_6 : decode cX12_isSmall 6 = .ok (.iload_n 0, 1) := by decide +kernel
theorem dX12_isSmall_7 : decode cX12_isSmall 7 = .ok (.bipush 122, 2) := by decide +kernel
theorem dX12_isSmall_9 : decode cX12_isSmall 9 = .ok (.if_icmp .gt 7, 3) := by decide +kernel
theorem dX12_isSmall_12 : decode cX12_isSmall 12 = .ok (.iconst 1, 1) := by decide +kernel
theorem dX12_isSmall_13 : decode cX12_isSmall 13 = .ok (.goto 4, 3) := by decide +kernel
theorem dX12_isSmall_16 : decode cX12_isSmall 16 = .ok (.iconst 0, 1) := by decide +kernel
theorem dX12_isSmall_17 : decode cX12_isSmall 17 = .ok (.ireturn, 1) := by decide +kernel
set_option maxHeartbeats 4000000 in
set_option maxRecDepth 100000 in
theorem c_X12_isSmall (G : KG) (l : Launch) (M : Mem) (a0 : Int) (hI_M : Inv true M) (hpre : -2147483648 ≤ a0 ∧ a0 ≤ 2147483647) : KC true G l yX12_isSmall cX12_isSmall 1 (some .boolean) (0, 0) [vI a0] M (fun A => kQi true G A (fun (r : Int) (N : Mem) => M = N ∧ ((r = 1 ∧ 97 ≤ a0 ∧ a0 ≤ 122) ∨ (r = 0 ∧ a0 ≤ 96) ∨ (r = 0 ∧ a0 ≥ 123)))) := by
  refine kx_met (lo := [some (vI a0)]) (by decide) (Nat.le_of_ble_eq_true rfl) rfl ?_
  intro X F hQ
  refine kx_iload_n 1 F 0 dX12_isSmall_0 rfl rfl rfl ?_
  refine kx_bipush 3 F dX12_isSmall_1 (by decide) rfl ?_
  refine kx_icmp_lt 6 F 16 dX12_isSmall_3 (by decide) rfl (by omega) (by decide) (fun h_1 => ?_) (fun h_1 => ?_)
  · refine kx_iconst 17 F dX12_isSmall_16 rfl ?_
    exact kx_zret F hQ (by omega) ⟨rfl, (by omega)⟩ dX12_isSmall_17
  · refine kx_iload_n 7 F 0 dX12_isSmall_6 rfl rfl rfl ?_
    refine kx_bipush 9 F dX12_isSmall_7 (by decide) rfl ?_
    refine kx_icmp_gt 12 F 16 dX12_isSmall_9 (by decide) rfl (by omega) (by decide) (fun h_2 => ?_) (fun h_2 => ?_)
    · refine kx_iconst 17 F dX12_isSmall_16 rfl ?_
      exact kx_zret F hQ (by omega) ⟨rfl, (by omega)⟩ dX12_isSmall_17
    · refine kx_iconst 13 F dX12_isSmall_12 rfl ?_
      refine kx_goto 17 F dX12_isSmall_13 (by decide) ?_
      exact kx_zret F hQ (by omega) ⟨rfl, (by omega)⟩ dX12_isSmall_17
theorem dX12_isDigit_0 : decode cX12_isDigit 0 = .ok (.iload_n 0, 1) := by decide +kernel
theorem dX12_isDigit_1 : decode cX12_isDigit 1 = .ok (.bipush 48, 2) := by decide +kernel
theorem dX12_isDigit_3 : decode cX12_isDigit 3 = .ok (.if_icmp .lt 13, 3) := by decide +kernel
theorem dX12_isDigit_6 : decode cX12_isDigit 6 = .ok (.iload_n 0, 1) := by decide +kernel
theorem dX12_isDigit_7 : decode cX12_isDigit 7 = .ok (.bipush 57, 2) := by decide +kernel
theorem dX12_isDigit_9 : decode cX12_isDigit 9 = .ok (.if_icmp .gt 7, 3) := by decide +kernel
theorem dX12_isDigit_12 : decode cX12_isDigit 12 = .ok (.iconst 1, 1) := by decide +kernel
theorem dX12_isDigit_13 : decode cX12_isDigit 13 = .ok (.goto 4, 3) := by decide +kernel
theorem dX12_isDigit_16 : decode cX12_isDigit 16 = .ok (.iconst 0, 1) := by decide +kernel
theorem dX12_isDigit_17 : decode cX12_isDigit 17 = .ok (.ireturn, 1) := by decide +kernel
set_option maxHeartbeats 4000000 in
set_option maxRecDepth 100000 in
theorem c_X12_isDigit (G : KG) (l : Launch) (M : Mem) (a0 : Int) (hI_M : Inv true M) (hpre : -2147483648 ≤ a0 ∧ a0 ≤ 2147483647) : KC true G l yX12_isDigit cX12_isDigit 1 (some .boolean) (0, 0) [vI a0] M (fun A => kQi true G A (fun (r : Int) (N : Mem) => M = N ∧ ((r = 1 ∧ 48 ≤ a0 ∧ a0 ≤ 57) ∨ (r = 0 ∧ a0 ≤ 47) ∨ (r = 0 ∧ a0 ≥ 58)))) := by
  refine kx_met (lo := [some (vI a0)]) (by decide) (Nat.le_of_ble_eq_true rfl) rfl ?_
  intro X F hQ
  refine kx_iload_n 1 F 0 dX12_isDigit_0 rfl rfl rfl ?_
  refine kx_bipush 3 F dX12_isDigit_1 (by decide) rfl ?_
  refine kx_icmp_lt 6 F 16 dX12_isDigit_3 (by decide) rfl (by omega) (by decide) (fun h_1 => ?_) (fun h_1 => ?_)
  · refine kx_iconst 17 F dX12_isDigit_16 rfl ?_
    exact kx_zret F hQ (by omega) ⟨rfl, (by omega)⟩ dX12_isDigit_17
  · refine kx_iload_n 7 F 0 dX12_isDigit_6 rfl rfl rfl ?_
    refine kx_bipush 9 F dX12_isDigit_7 (by decide) rfl ?_
    refine kx_icmp_gt 12 F 16 dX12_isDigit_9 (by decide) rfl (by omega) (by decide) (fun h_2 => ?_) (fun h_2 => ?_)
    · refine kx_iconst 17 F dX12_isDigit_16 rfl ?_
      exact kx_zret F hQ (by omega) ⟨rfl, (by omega)⟩ dX12_isDigit_17
    · refine kx_iconst 13 F dX12_isDigit_12 rfl ?_
      refine kx_goto 17 F dX12_isDigit_13 (by decide) ?_
      exact kx_zret F hQ (by omega) ⟨rfl, (by omega)⟩ dX12_isDigit_17
theorem dX12_fault_0 : decode cX12_fault 0 = .ok (.iload_n 1, 1) := by decide +kernel
theorem dX12_fault_1 : decode cX12_fault 1 = .ok (.ifCond .ne 10, 3) := by decide +kernel
theorem dX12_fault_4 : decode cX12_fault 4 = .ok (.aload_n 0, 1) := by decide +kernel
theorem dX12_fault_5 : decode cX12_fault 5 = .ok (.getfield 37, 3) := by decide +kernel
theorem dX12_fault_8 : decode cX12_fault 8 = .ok (.goto 16, 3) := by decide +kernel
theorem dX12_fault_11 : decode cX12_fault 11 = .ok (.iload_n 1, 1) := by decide +kernel
theorem dX12_fault_12 : decode cX12_fault 12 = .ok (.iconst 1, 1) := by decide +kernel
theorem dX12_fault_13 : decode cX12_fault 13 = .ok (.if_icmp .ne 10, 3) := by decide +kernel
theorem dX12_fault_16 : decode cX12_fault 16 = .ok (.aload_n 0, 1) := by decide +kernel
theorem dX12_fault_17 : decode cX12_fault 17 = .ok (.getfield 41, 3) := by decide +kernel
theorem dX12_fault_20 : decode cX12_fault 20 = .ok (.goto 4, 3) := by decide +kernel
theorem dX12_fault_23 : decode cX12_fault 23 = .ok (.iconst (-1), 1) := by decide +kernel
theorem dX12_fault_24 : decode cX12_fault 24 = .ok (.ireturn, 1) := by decide +kernel
set_option maxHeartbeats 4000000 in
set_option maxRecDepth 100000 in
theorem c_X12_fault (G : KG) (l : Launch) (M : Mem) (a1 : Int) (hI_M : Inv true M) (hpre : -2147483648 ≤ a1 ∧ a1 ≤ 2147483647) : KC true G l yX12_fault cX12_fault 2 (some .int) (0, 0) [vR G 163, vI a1] M (fun A => kQi true G A (fun (r : Int) (N : Mem) => M = N ∧ (r ≥ -2147483648 ∧ r ≤ 2147483647))) := by
  refine kx_met (lo := [some (vR G 163), some (vI a1)]) (by decide) (Nat.le_of_ble_eq_true rfl) rfl ?_
  intro X F hQ
  refine kx_iload_n 1 F 1 dX12_fault_0 rfl rfl rfl ?_
  refine kx_if_ne 4 F 11 dX12_fault_1 (by decide) rfl (by omega) (fun h_1 => ?_) (fun h_1 => ?_)
  · refine kx_iload_n 12 F 1 dX12_fault_11 rfl rfl rfl ?_
    refine kx_iconst 13 F dX12_fault_12 rfl ?_
    refine kx_icmp_ne 16 F 23 dX12_fault_13 (by decide) rfl (by omega) (by decide) (fun h_2 => ?_) (fun h_2 => ?_)
    · refine kx_iconst 24 F dX12_fault_23 rfl ?_
      exact kx_iret F hQ ⟨rfl, (by omega)⟩ dX12_fault_24
    · refine kx_aload_n 17 F 0 dX12_fault_16 rfl rfl rfl ?_
      refine kx_geti 20 F fl_X12_41 kd_163 rfl rfl (j := 17) rfl dX12_fault_17 (v := (M 163 17)) rfl rfl ?_
      have h_3 := Inv.g hI_M kd_163 rfl 17 (a := (-2147483648)) (b := 2147483647) rfl rfl
      refine kx_goto 24 F dX12_fault_20 (by decide) ?_
      exact kx_iret F hQ ⟨rfl, (by omega)⟩ dX12_fault_24
  · refine kx_aload_n 5 F 0 dX12_fault_4 rfl rfl rfl ?_
    refine kx_geti 8 F fl_X12_37 kd_163 rfl rfl (j := 16) rfl dX12_fault_5 (v := (M 163 16)) rfl rfl ?_
    have h_4 := Inv.g hI_M kd_163 rfl 16 (a := (-2147483648)) (b := 2147483647) rfl rfl
    refine kx_goto 24 F dX12_fault_8 (by decide) ?_
    exact kx_iret F hQ ⟨rfl, (by omega)⟩ dX12_fault_24
theorem dX12_rowOf_0 : decode cX12_rowOf 0 = .ok (.iload_n 0, 1) := by decide +kernel
theorem dX12_rowOf_1 : decode cX12_rowOf 1 = .ok (.bipush 100, 2) := by decide +kernel
theorem dX12_rowOf_3 : decode cX12_rowOf 3 = .ok (.iadd, 1) := by decide +kernel
theorem dX12_rowOf_4 : decode cX12_rowOf 4 = .ok (.bipush 85, 2) := by decide +kernel
theorem dX12_rowOf_6 : decode cX12_rowOf 6 = .ok (.iload_n 1, 1) := by decide +kernel
theorem dX12_rowOf_7 : decode cX12_rowOf 7 = .ok (.imul, 1) := by decide +kernel
theorem dX12_rowOf_8 : decode cX12_rowOf 8 = .ok (.iadd, 1) := by decide +kernel
theorem dX12_rowOf_9 : decode cX12_rowOf 9 = .ok (.ireturn, 1) := by decide +kernel
set_option maxHeartbeats 4000000 in
set_option maxRecDepth 100000 in
theorem c_X12_rowOf (G : KG) (l : Launch) (M : Mem) (a0 : Int) (a1 : Int) (hI_M : Inv true M) (hpre : -2147483648 ≤ a0 ∧ a0 ≤ 2147483647 ∧ -2147483648 ≤ a1 ∧ a1 ≤ 2147483647 ∧ 0 ≤ a0 ∧ a0 ≤ 1088 ∧ 0 ≤ a1 ∧ a1 ≤ 2) : KC true G l yX12_rowOf cX12_rowOf 2 (some .int) (0, 0) [vI a0, vI a1] M (fun A => kQi true G A (fun (r : Int) (N : Mem) => M = N ∧ (r = a0 + 85 * a1 + 100))) := by
  refine kx_met (lo := [some (vI a0), some (vI a1)]) (by decide) (Nat.le_of_ble_eq_true rfl) rfl ?_
  intro X F hQ
  refine kx_iload_n 1 F 0 dX12_rowOf_0 rfl rfl rfl ?_
  refine kx_bipush 3 F dX12_rowOf_1 (by decide) rfl ?_
  refine kx_iadd 4 F (v := a0 + 100) dX12_rowOf_3 rfl rfl ?_
  refine kx_bipush 6 F dX12_rowOf_4 (by decide) rfl ?_
  refine kx_iload_n 7 F 1 dX12_rowOf_6 rfl rfl rfl ?_
  refine kx_imul 8 F (v := 85 * a1) dX12_rowOf_7 (by omega) rfl ?_
  refine kx_iadd 9 F (v := a0 + 85 * a1 + 100) dX12_rowOf_8 (by omega) rfl ?_
  exact kx_iret F hQ ⟨rfl, (by omega)⟩ dX12_rowOf_9
theorem dX12_ruleRow_0 : decode cX12_ruleRow 0 = .ok (.iload_n 0, 1) := by decide +kernel
theorem dX12_ruleRow_1 : decode cX12_ruleRow 1 = .ok (.iload_n 1, 1) := by decide +kernel
theorem dX12_ruleRow_2 : decode cX12_ruleRow 2 = .ok (.invokestatic 216, 3) := by decide +kernel
theorem dX12_ruleRow_5 : decode cX12_ruleRow 5 = .ok (.iconst 5, 1) := by decide +kernel
theorem dX12_ruleRow_6 : decode cX12_ruleRow 6 = .ok (.iadd, 1) := by decide +kernel
theorem dX12_ruleRow_7 : decode cX12_ruleRow 7 = .ok (.iconst 4, 1) := by decide +kernel
theorem dX12_ruleRow_8 : decode cX12_ruleRow 8 = .ok (.iload_n 2, 1) := by decide +kernel
theorem dX12_ruleRow_9 : decode cX12_ruleRow 9 = .ok (.imul, 1) := by decide +kernel
theorem dX12_ruleRow_10 : decode cX12_ruleRow 10 = .ok (.iadd, 1) := by decide +kernel
theorem dX12_ruleRow_11 : decode cX12_ruleRow 11 = .ok (.ireturn, 1) := by decide +kernel
set_option maxHeartbeats 4000000 in
set_option maxRecDepth 100000 in
theorem c_X12_ruleRow (G : KG) (l : Launch) (M : Mem) (a0 : Int) (a1 : Int) (a2 : Int) (hI_M : Inv true M) (hpre : -2147483648 ≤ a0 ∧ a0 ≤ 2147483647 ∧ -2147483648 ≤ a1 ∧ a1 ≤ 2147483647 ∧ -2147483648 ≤ a2 ∧ a2 ≤ 2147483647 ∧ 0 ≤ a0 ∧ a0 ≤ 1088 ∧ 0 ≤ a1 ∧ a1 ≤ 2 ∧ 0 ≤ a2 ∧ a2 ≤ 20) : KC true G l yX12_ruleRow cX12_ruleRow 3 (some .int) (1, 21) [vI a0, vI a1, vI a2] M (fun A => kQi true G A (fun (r : Int) (N : Mem) => M = N ∧ (r = a0 + 85 * a1 + 4 * a2 + 105))) := by
  refine kx_met (lo := [some (vI a0), some (vI a1), some (vI a2)]) (by decide) (Nat.le_of_ble_eq_true rfl) rfl ?_
  intro X F hQ
  refine kx_iload_n 1 F 0 dX12_ruleRow_0 rfl rfl rfl ?_
  refine kx_iload_n 2 F 1 dX12_ruleRow_1 rfl rfl rfl ?_
  refine kx_Si 5 F (As := [vI a0, vI a1]) (st := []) sd_X12_216 (c_X12_rowOf G l M a0 a1 hI_M (by omega)) ⟨by decide, by decide⟩ rfl rfl (Nat.le_of_ble_eq_true rfl) dX12_ruleRow_2 rfl ?_
  intro r_1 N_2 q_3
  obtain ⟨rfl, q_3c⟩ := q_3
  refine kx_topi (e' := a0 + 85 * a1 + 100) (by omega) ?_
  refine kx_iconst 6 F dX12_ruleRow_5 rfl ?_
  refine kx_iadd 7 F (v := a0 + 85 * a1 + 105) dX12_ruleRow_6 (by omega) rfl ?_
  refine kx_iconst 8 F dX12_ruleRow_7 rfl ?_
  refine kx_iload_n 9 F 2 dX12_ruleRow_8 rfl rfl rfl ?_
  refine kx_imul 10 F (v := 4 * a2) dX12_ruleRow_9 (by omega) rfl ?_
  refine kx_iadd 11 F (v := a0 + 85 * a1 + 4 * a2 + 105) dX12_ruleRow_10 (by omega) rfl ?_
  exact kx_iret F hQ ⟨rfl, (by omega)⟩ dX12_ruleRow_11
theorem dX12_isIn_0 : decode cX12_isIn 0 = .ok (.iload_n 1, 1) := by decide +kernel
theorem dX12_isIn_1 : decode cX12_isIn 1 = .ok (.iload_n 2, 1) := by decide +kernel
theorem dX12_isIn_2 : decode cX12_isIn 2 = .ok (.ishr, 1) := by decide +kernel
theorem dX12_isIn_3 : decode cX12_isIn 3 = .ok (.iconst 1, 1) := by decide +kernel
theorem dX12_isIn_4 : decode cX12_isIn 4 = .ok (.iand, 1) := by decide +kernel
theorem dX12_isIn_5 : decode cX12_isIn 5 = .ok (.iconst 1, 1) := by decide +kernel
theorem dX12_isIn_6 : decode cX12_isIn 6 = .ok (.if_icmp .ne 7, 3) := by decide +kernel
theorem dX12_isIn_9 : decode cX12_isIn 9 = .ok (.iconst 1, 1) := by decide +kernel
theorem dX12_isIn_10 : decode cX12_isIn 10 = .ok (.goto 4, 3) := by decide +kernel
theorem dX12_isIn_13 : decode cX12_isIn 13 = .ok (.iconst 0, 1) := by decide +kernel
theorem dX12_isIn_14 : decode cX12_isIn 14 = .ok (.ireturn, 1) := by decide +kernel
set_option maxHeartbeats 4000000 in
set_option maxRecDepth 100000 in
theorem c_X12_isIn (G : KG) (l : Launch) (M : Mem) (a1 : Int) (a2 : Int) (hI_M : Inv true M) (hpre : -2147483648 ≤ a1 ∧ a1 ≤ 2147483647 ∧ -2147483648 ≤ a2 ∧ a2 ≤ 2147483647) : KC true G l yX12_isIn cX12_isIn 3 (some .boolean) (0, 0) [vR G 163, vI a1, vI a2] M (fun A => kQi true G A (fun (r : Int) (N : Mem) => M = N ∧ (0 ≤ r ∧ r ≤ 1))) := by
  refine kx_met (lo := [some (vR G 163), some (vI a1), some (vI a2)]) (by decide) (Nat.le_of_ble_eq_true rfl) rfl ?_
  intro X F hQ
  refine kx_iload_n 1 F 1 dX12_isIn_0 rfl rfl rfl ?_
  refine kx_iload_n 2 F 2 dX12_isIn_1 rfl rfl rfl ?_
  refine kx_ishr 3 F (v := (zshr a1 a2)) dX12_isIn_2 rfl rfl ?_
  have h_1 := zshr_rng a1 a2
  refine kx_iconst 4 F dX12_isIn_3 rfl ?_
  refine kx_iand 5 F (v := (zand (zshr a1 a2) 1)) dX12_isIn_4 rfl rfl ?_
  have h_2 := zand_r (a := (zshr a1 a2)) (b := 1) (by omega)
  refine kx_iconst 6 F dX12_isIn_5 rfl ?_
  refine kx_icmp_ne 9 F 13 dX12_isIn_6 (by decide) rfl (by omega) (by decide) (fun h_3 => ?_) (fun h_3 => ?_)
  · refine kx_iconst 14 F dX12_isIn_13 rfl ?_
    exact kx_zret F hQ (by omega) ⟨rfl, (by omega)⟩ dX12_isIn_14
  · refine kx_iconst 10 F dX12_isIn_9 rfl ?_
    refine kx_goto 14 F dX12_isIn_10 (by decide) ?_
    exact kx_zret F hQ (by omega) ⟨rfl, (by omega)⟩ dX12_isIn_14
theorem dX12_isAutomaton_0 : decode cX12_isAutomaton 0 = .ok (.iload_n 1, 1) := by decide +kernel
theorem dX12_isAutomaton_1 : decode cX12_isAutomaton 1 = .ok (.ifCond .lt 17, 3) := by decide +kernel
theorem dX12_isAutomaton_4 : decode cX12_isAutomaton 4 = .ok (.iload_n 1, 1) := by decide +kernel
theorem dX12_isAutomaton_5 : decode cX12_isAutomaton 5 = .ok (.aload_n 0, 1) := by decide +kernel
theorem dX12_isAutomaton_6 : decode cX12_isAutomaton 6 = .ok (.getfield 7, 3) := by decide +kernel
theorem dX12_isAutomaton_9 : decode cX12_isAutomaton 9 = .ok (.iconst 3, 1) := by decide +kernel
theorem dX12_isAutomaton_10 : decode cX12_isAutomaton 10 = .ok (.iaload, 1) := by decide +kernel
theorem dX12_isAutomaton_11 : decode cX12_isAutomaton 11 = .ok (.if_icmp .ge 7, 3) := by decide +kernel
theorem dX12_isAutomaton_14 : decode cX12_isAutomaton 14 = .ok (.iconst 1, 1) := by decide +kernel
theorem dX12_isAutomaton_15 : decode cX12_isAutomaton 15 = .ok (.goto 4, 3) := by decide +kernel
theorem dX12_isAutomaton_18 : decode cX12_isAutomaton 18 = .ok (.iconst 0, 1) := by decide +kernel
theorem dX12_isAutomaton_19 : decode cX12_isAutomaton 19 = .ok (.ireturn, 1) := by decide +kernel
set_option maxHeartbeats 4000000 in
set_option maxRecDepth 100000 in
theorem c_X12_isAutomaton (G : KG) (l : Launch) (M : Mem) (a1 : Int) (hI_M : Inv true M) (hpre : -2147483648 ≤ a1 ∧ a1 ≤ 2147483647) : KC true G l yX12_isAutomaton cX12_isAutomaton 2 (some .boolean) (0, 0) [vR G 163, vI a1] M (fun A => kQi true G A (fun (r : Int) (N : Mem) => M = N ∧ ((r = 1 ∧ 0 ≤ a1 ∧ a1 ≤ 1) ∨ (r = 0)))) := by
  refine kx_met (lo := [some (vR G 163), some (vI a1)]) (by decide) (Nat.le_of_ble_eq_true rfl) rfl ?_
  intro X F hQ
  refine kx_iload_n 1 F 1 dX12_isAutomaton_0 rfl rfl rfl ?_
  refine kx_if_lt 4 F 18 dX12_isAutomaton_1 (by decide) rfl (by omega) (fun h_1 => ?_) (fun h_1 => ?_)
  · refine kx_iconst 19 F dX12_isAutomaton_18 rfl ?_
    exact kx_zret F hQ (by omega) ⟨rfl, (by omega)⟩ dX12_isAutomaton_19
  · refine kx_iload_n 5 F 1 dX12_isAutomaton_4 rfl rfl rfl ?_
    refine kx_aload_n 6 F 0 dX12_isAutomaton_5 rfl rfl rfl ?_
    refine kx_getr 9 F fl_X12_7 kd_163 rfl rfl (j := 0) rfl dX12_isAutomaton_6 (v := 164) (uq_164 (Inv.r hI_M kd_163 rfl 0 rfl rfl)) rfl ?_
    refine kx_iconst 10 F dX12_isAutomaton_9 rfl ?_
    refine kx_iald 11 F kd_164 rfl rfl (by omega) (by decide) dX12_isAutomaton_10 (v := (M 164 3)) rfl rfl ?_
    have ha_2 : atlo 3 = 0 ∧ athi 3 = 2 := at_c 3 0 (o := 3) (lo := 0) (hi := 2) (by omega) (by decide) (by decide) (by decide)
    have h_3 := Inv.g hI_M kd_164 rfl 3 (a := 0) (b := 2) ha_2.1 ha_2.2
    refine kx_icmp_ge 14 F 18 dX12_isAutomaton_11 (by decide) rfl (by omega) (by omega) (fun h_4 => ?_) (fun h_4 => ?_)
    · refine kx_iconst 19 F dX12_isAutomaton_18 rfl ?_
      exact kx_zret F hQ (by omega) ⟨rfl, (by omega)⟩ dX12_isAutomaton_19
    · refine kx_iconst 15 F dX12_isAutomaton_14 rfl ?_
      refine kx_goto 19 F dX12_isAutomaton_15 (by decide) ?_
      exact kx_zret F hQ (by omega) ⟨rfl, (by omega)⟩ dX12_isAutomaton_19
theorem dX12_areTwo_0 : decode cX12_areTwo 0 = .ok (.aload_n 0, 1) := by decide +kernel
theorem dX12_areTwo_1 : decode cX12_areTwo 1 = .ok (.iload_n 1, 1) := by decide +kernel
theorem dX12_areTwo_2 : decode cX12_areTwo 2 = .ok (.invokevirtual 282, 3) := by decide +kernel
theorem dX12_areTwo_5 : decode cX12_areTwo 5 = .ok (.ifCond .eq 20, 3) := by decide +kernel
theorem dX12_areTwo_8 : decode cX12_areTwo 8 = .ok (.aload_n 0, 1) := by decide +kernel
theorem dX12_areTwo_9 : decode cX12_areTwo 9 = .ok (.iload_n 2, 1) := by decide +kernel
theorem dX12_areTwo_10 : decode cX12_areTwo 10 = .ok (.invokevirtual 282, 3) := by decide +kernel
theorem dX12_areTwo_13 : decode cX12_areTwo 13 = .ok (.ifCond .eq 12, 3) := by decide +kernel
theorem dX12_areTwo_16 : decode cX12_areTwo 16 = .ok (.iload_n 1, 1) := by decide +kernel
theorem dX12_areTwo_17 : decode cX12_areTwo 17 = .ok (.iload_n 2, 1) := by decide +kernel
theorem dX12_areTwo_18 : decode cX12_areTwo 18 = .ok (.if_icmp .eq 7, 3) := by decide +kernel
theorem dX12_areTwo_21 : decode cX12_areTwo 21 = .ok (.iconst 1, 1) := by decide +kernel
theorem dX12_areTwo_22 : decode cX12_areTwo 22 = .ok (.goto 4, 3) := by decide +kernel
theorem dX12_areTwo_25 : decode cX12_areTwo 25 = .ok (.iconst 0, 1) := by decide +kernel
theorem dX12_areTwo_26 : decode cX12_areTwo 26 = .ok (.ireturn, 1) := by decide +kernel
set_option maxHeartbeats 4000000 in
set_option maxRecDepth 100000 in
theorem c_X12_areTwo (G : KG) (l : Launch) (M : Mem) (a1 : Int) (a2 : Int) (hI_M : Inv true M) (hpre : -2147483648 ≤ a1 ∧ a1 ≤ 2147483647 ∧ -2147483648 ≤ a2 ∧ a2 ≤ 2147483647) : KC true G l yX12_areTwo cX12_areTwo 3 (some .boolean) (1, 21) [vR G 163, vI a1, vI a2] M (fun A => kQi true G A (fun (r : Int) (N : Mem) => M = N ∧ ((r = 1 ∧ 0 ≤ a1 ∧ a1 ≤ 1 ∧ 0 ≤ a2 ∧ a2 ≤ 1 ∧ a1 ≠ a2) ∨ (r = 0)))) := by
  refine kx_met (lo := [some (vR G 163), some (vI a1), some (vI a2)]) (by decide) (Nat.le_of_ble_eq_true rfl) rfl ?_
  intro X F hQ
  refine kx_aload_n 1 F 0 dX12_areTwo_0 rfl rfl rfl ?_
  refine kx_iload_n 2 F 1 dX12_areTwo_1 rfl rfl rfl ?_
  refine kx_Vi 5 (ci := 0) F (As := [vI a1]) (st := []) vd_X12_282 (c_X12_isAutomaton G l M a1 hI_M (by omega)) kd_163 rfl rfl rfl ⟨by decide, by decide⟩ rfl rfl (Nat.le_of_ble_eq_true rfl) dX12_areTwo_2 rfl ?_
  intro r_1 N_2 q_3
  obtain ⟨rfl, q_3c⟩ := q_3
  rcases q_3c with q_3c | q_3c
  · refine kx_if_eq 8 F 25 dX12_areTwo_5 (by decide) rfl (by omega) (fun h_4 => (by exfalso; omega)) (fun h_4 => ?_)
    refine kx_aload_n 9 F 0 dX12_areTwo_8 rfl rfl rfl ?_
    refine kx_iload_n 10 F 2 dX12_areTwo_9 rfl rfl rfl ?_
    refine kx_Vi 13 (ci := 0) F (As := [vI a2]) (st := []) vd_X12_282 (c_X12_isAutomaton G l M a2 hI_M (by omega)) kd_163 rfl rfl rfl ⟨by decide, by decide⟩ rfl rfl (Nat.le_of_ble_eq_true rfl) dX12_areTwo_10 rfl ?_
    intro r_5 N_6 q_7
    obtain ⟨rfl, q_7c⟩ := q_7
    rcases q_7c with q_7c | q_7c
    · refine kx_if_eq 16 F 25 dX12_areTwo_13 (by decide) rfl (by omega) (fun h_8 => (by exfalso; omega)) (fun h_8 => ?_)
      refine kx_iload_n 17 F 1 dX12_areTwo_16 rfl rfl rfl ?_
      refine kx_iload_n 18 F 2 dX12_areTwo_17 rfl rfl rfl ?_
      refine kx_icmp_eq 21 F 25 dX12_areTwo_18 (by decide) rfl (by omega) (by omega) (fun h_9 => ?_) (fun h_9 => ?_)
      · refine kx_iconst 26 F dX12_areTwo_25 rfl ?_
        exact kx_zret F hQ (by omega) ⟨rfl, (by omega)⟩ dX12_areTwo_26
      · refine kx_iconst 22 F dX12_areTwo_21 rfl ?_
        refine kx_goto 26 F dX12_areTwo_22 (by decide) ?_
        exact kx_zret F hQ (by omega) ⟨rfl, (by omega)⟩ dX12_areTwo_26
    · refine kx_if_eq 16 F 25 dX12_areTwo_13 (by decide) rfl (by omega) (fun h_10 => ?_) (fun h_10 => (by exfalso; omega))
      refine kx_iconst 26 F dX12_areTwo_25 rfl ?_
      exact kx_zret F hQ (by omega) ⟨rfl, (by omega)⟩ dX12_areTwo_26
  · refine kx_if_eq 8 F 25 dX12_areTwo_5 (by decide) rfl (by omega) (fun h_11 => ?_) (fun h_11 => (by exfalso; omega))
    refine kx_iconst 26 F dX12_areTwo_25 rfl ?_
    exact kx_zret F hQ (by omega) ⟨rfl, (by omega)⟩ dX12_areTwo_26
theorem dX12_letters_0 : decode cX12_letters 0 = .ok (.aload_n 0, 1) := by decide +kernel
theorem dX12_letters_1 : decode cX12_letters 1 = .ok (.getfield 7, 3) := by decide +kernel
theorem dX12_letters_4 : decode cX12_letters 4 = .ok (.iconst 0, 1) := by decide +kernel
theorem dX12_letters_5 : decode cX12_letters 5 = .ok (.iaload, 1) := by decide +kernel
theorem dX12_letters_6 : decode cX12_letters 6 = .ok (.aload_n 0, 1) := by decide +kernel
theorem dX12_letters_7 : decode cX12_letters 7 = .ok (.getfield 7, 3) := by decide +kernel
theorem dX12_letters_10 : decode cX12_letters 10 = .ok (.iconst 1, 1) := by decide +kernel
theorem dX12_letters_11 : decode cX12_letters 11 = .ok (.iaload, 1) := by decide +kernel
theorem dX12_letters_12 : decode cX12_letters 12 = .ok (.iadd, 1) := by decide +kernel
theorem dX12_letters_13 : decode cX12_letters 13 = .ok (.aload_n 0, 1) := by decide +kernel
theorem dX12_letters_14 : decode cX12_letters 14 = .ok (.getfield 7, 3) := by decide +kernel
theorem dX12_letters_17 : decode cX12_letters 17 = .ok (.iconst 2, 1) := by decide +kernel
theorem dX12_letters_18 : decode cX12_letters 18 = .ok (.iaload, 1) := by decide +kernel
theorem dX12_letters_19 : decode cX12_letters 19 = .ok (.iadd, 1) := by decide +kernel
theorem dX12_letters_20 : decode cX12_letters 20 = .ok (.ireturn, 1) := by decide +kernel
set_option maxHeartbeats 4000000 in
set_option maxRecDepth 100000 in
theorem c_X12_letters (G : KG) (l : Launch) (M : Mem) (hI_M : Inv true M) : KC true G l yX12_letters cX12_letters 1 (some .int) (0, 0) [vR G 163] M (fun A => kQi true G A (fun (r : Int) (N : Mem) => M = N ∧ (0 ≤ r ∧ r ≤ 6))) := by
  refine kx_met (lo := [some (vR G 163)]) (by decide) (Nat.le_of_ble_eq_true rfl) rfl ?_
  intro X F hQ
  refine kx_aload_n 1 F 0 dX12_letters_0 rfl rfl rfl ?_
  refine kx_getr 4 F fl_X12_7 kd_163 rfl rfl (j := 0) rfl dX12_letters_1 (v := 164) (uq_164 (Inv.r hI_M kd_163 rfl 0 rfl rfl)) rfl ?_
  refine kx_iconst 5 F dX12_letters_4 rfl ?_
  refine kx_iald 6 F kd_164 rfl rfl (by omega) (by decide) dX12_letters_5 (v := (M 164 0)) rfl rfl ?_
  have ha_1 : atlo 0 = 0 ∧ athi 0 = 2 := at_c 0 0 (o := 0) (lo := 0) (hi := 2) (by omega) (by decide) (by decide) (by decide)
  have h_2 := Inv.g hI_M kd_164 rfl 0 (a := 0) (b := 2) ha_1.1 ha_1.2
  refine kx_aload_n 7 F 0 dX12_letters_6 rfl rfl rfl ?_
  refine kx_getr 10 F fl_X12_7 kd_163 rfl rfl (j := 0) rfl dX12_letters_7 (v := 164) (uq_164 (Inv.r hI_M kd_163 rfl 0 rfl rfl)) rfl ?_
  refine kx_iconst 11 F dX12_letters_10 rfl ?_
  refine kx_iald 12 F kd_164 rfl rfl (by omega) (by decide) dX12_letters_11 (v := (M 164 1)) rfl rfl ?_
  have ha_3 : atlo 1 = 0 ∧ athi 1 = 2 := at_c 1 0 (o := 1) (lo := 0) (hi := 2) (by omega) (by decide) (by decide) (by decide)
  have h_4 := Inv.g hI_M kd_164 rfl 1 (a := 0) (b := 2) ha_3.1 ha_3.2
  refine kx_iadd 13 F (v := (M 164 0) + (M 164 1)) dX12_letters_12 rfl rfl ?_
  refine kx_aload_n 14 F 0 dX12_letters_13 rfl rfl rfl ?_
  refine kx_getr 17 F fl_X12_7 kd_163 rfl rfl (j := 0) rfl dX12_letters_14 (v := 164) (uq_164 (Inv.r hI_M kd_163 rfl 0 rfl rfl)) rfl ?_
  refine kx_iconst 18 F dX12_letters_17 rfl ?_
  refine kx_iald 19 F kd_164 rfl rfl (by omega) (by decide) dX12_letters_18 (v := (M 164 2)) rfl rfl ?_
  have ha_5 : atlo 2 = 0 ∧ athi 2 = 2 := at_c 2 0 (o := 2) (lo := 0) (hi := 2) (by omega) (by decide) (by decide) (by decide)
  have h_6 := Inv.g hI_M kd_164 rfl 2 (a := 0) (b := 2) ha_5.1 ha_5.2
  refine kx_iadd 20 F (v := (M 164 0) + (M 164 1) + (M 164 2)) dX12_letters_19 rfl rfl ?_
  exact kx_iret F hQ ⟨rfl, (by omega)⟩ dX12_letters_20
theorem dX12_isLetter_0 : decode cX12_isLetter 0 = .ok (.iload_n 1, 1) := by decide +kernel
theorem dX12_isLetter_1 : decode cX12_isLetter 1 = .ok (.ifCond .lt 15, 3) := by decide +kernel
theorem dX12_isLetter_4 : decode cX12_isLetter 4 = .ok (.iload_n 1, 1) := by decide +kernel
theorem dX12_isLetter_5 : decode cX12_isLetter 5 = .ok (.aload_n 0, 1) := by decide +kernel
theorem dX12_isLetter_6 : decode cX12_isLetter 6 = .ok (.invokevirtual 285, 3) := by decide +kernel
theorem dX12_isLetter_9 : decode cX12_isLetter 9 = .ok (.if_icmp .ge 7, 3) := by decide +kernel
theorem dX12_isLetter_12 : decode cX12_isLetter 12 = .ok (.iconst 1, 1) := by decide +kernel
theorem dX12_isLetter_13 : decode cX12_isLetter 13 = .ok (.goto 4, 3) := by decide +kernel
theorem dX12_isLetter_16 : decode cX12_isLetter 16 = .ok (.iconst 0, 1) := by decide +kernel
theorem dX12_isLetter_17 : decode cX12_isLetter 17 = .ok (.ireturn, 1) := by decide +kernel
set_option maxHeartbeats 4000000 in
set_option maxRecDepth 100000 in
theorem c_X12_isLetter (G : KG) (l : Launch) (M : Mem) (a1 : Int) (hI_M : Inv true M) (hpre : -2147483648 ≤ a1 ∧ a1 ≤ 2147483647) : KC true G l yX12_isLetter cX12_isLetter 2 (some .boolean) (1, 20) [vR G 163, vI a1] M (fun A => kQi true G A (fun (r : Int) (N : Mem) => M = N ∧ ((r = 1 ∧ 0 ≤ a1 ∧ a1 ≤ 5) ∨ (r = 0)))) := by
  refine kx_met (lo := [some (vR G 163), some (vI a1)]) (by decide) (Nat.le_of_ble_eq_true rfl) rfl ?_
  intro X F hQ
  refine kx_iload_n 1 F 1 dX12_isLetter_0 rfl rfl rfl ?_
  refine kx_if_lt 4 F 16 dX12_isLetter_1 (by decide) rfl (by omega) (fun h_1 => ?_) (fun h_1 => ?_)
  · refine kx_iconst 17 F dX12_isLetter_16 rfl ?_
    exact kx_zret F hQ (by omega) ⟨rfl, (by omega)⟩ dX12_isLetter_17
  · refine kx_iload_n 5 F 1 dX12_isLetter_4 rfl rfl rfl ?_
    refine kx_aload_n 6 F 0 dX12_isLetter_5 rfl rfl rfl ?_
    refine kx_Vi 9 (ci := 0) F (As := []) (st := [vI a1]) vd_X12_285 (c_X12_letters G l M  hI_M) kd_163 rfl rfl rfl ⟨by decide, by decide⟩ rfl rfl (Nat.le_of_ble_eq_true rfl) dX12_isLetter_6 rfl ?_
    intro r_2 N_3 q_4
    obtain ⟨rfl, q_4c⟩ := q_4
    refine kx_icmp_ge 12 F 16 dX12_isLetter_9 (by decide) rfl (by omega) (by omega) (fun h_5 => ?_) (fun h_5 => ?_)
    · refine kx_iconst 17 F dX12_isLetter_16 rfl ?_
      exact kx_zret F hQ (by omega) ⟨rfl, (by omega)⟩ dX12_isLetter_17
    · refine kx_iconst 13 F dX12_isLetter_12 rfl ?_
      refine kx_goto 17 F dX12_isLetter_13 (by decide) ?_
      exact kx_zret F hQ (by omega) ⟨rfl, (by omega)⟩ dX12_isLetter_17
theorem dX12_ahead_0 : decode cX12_ahead 0 = .ok (.aload_n 0, 1) := by decide +kernel
theorem dX12_ahead_1 : decode cX12_ahead 1 = .ok (.aload_n 0, 1) := by decide +kernel
theorem dX12_ahead_2 : decode cX12_ahead 2 = .ok (.getfield 156, 3) := by decide +kernel
theorem dX12_ahead_5 : decode cX12_ahead 5 = .ok (.invokevirtual 159, 3) := by decide +kernel
theorem dX12_ahead_8 : decode cX12_ahead 8 = .ok (.bipush 32, 2) := by decide +kernel
theorem dX12_ahead_10 : decode cX12_ahead 10 = .ok (.if_icmp .eq 16, 3) := by decide +kernel
theorem dX12_ahead_13 : decode cX12_ahead 13 = .ok (.aload_n 0, 1) := by decide +kernel
theorem dX12_ahead_14 : decode cX12_ahead 14 = .ok (.aload_n 0, 1) := by decide +kernel
theorem dX12_ahead_15 : decode cX12_ahead 15 = .ok (.getfield 156, 3) := by decide +kernel
theorem dX12_ahead_18 : decode cX12_ahead 18 = .ok (.invokevirtual 159, 3) := by decide +kernel
theorem dX12_ahead_21 : decode cX12_ahead 21 = .ok (.bipush 10, 2) := by decide +kernel
theorem dX12_ahead_23 : decode cX12_ahead 23 = .ok (.if_icmp .ne 16, 3) := by decide +kernel
theorem dX12_ahead_26 : decode cX12_ahead 26 = .ok (.aload_n 0, 1) := by decide +kernel
theorem dX12_ahead_27 : decode cX12_ahead 27 = .ok (.dup, 1) := by decide +kernel
theorem dX12_ahead_28 : decode cX12_ahead 28 = .ok (.getfield 156, 3) := by decide +kernel
theorem dX12_ahead_31 : decode cX12_ahead 31 = .ok (.iconst 1, 1) := by decide +kernel
theorem dX12_ahead_32 : decode cX12_ahead 32 = .ok (.iadd, 1) := by decide +kernel
theorem dX12_ahead_33 : decode cX12_ahead 33 = .ok (.putfield 156, 3) := by decide +kernel
theorem dX12_ahead_36 : decode cX12_ahead 36 = .ok (.goto (-36), 3) := by decide +kernel
theorem dX12_ahead_39 : decode cX12_ahead 39 = .ok (.aload_n 0, 1) := by decide +kernel
theorem dX12_ahead_40 : decode cX12_ahead 40 = .ok (.aload_n 0, 1) := by decide +kernel
theorem dX12_ahead_41 : decode cX12_ahead 41 = .ok (.getfield 156, 3) := by decide +kernel
theorem dX12_ahead_44 : decode cX12_ahead 44 = .ok (.putfield 162, 3) := by decide +kernel
theorem dX12_ahead_47 : decode cX12_ahead 47 = .ok (.aload_n 0, 1) := by decide +kernel
theorem dX12_ahead_48 : decode cX12_ahead 48 = .ok (.aload_n 0, 1) := by decide +kernel
theorem dX12_ahead_49 : decode cX12_ahead 49 = .ok (.getfield 156, 3) := by decide +kernel
theorem dX12_ahead_52 : decode cX12_ahead 52 = .ok (.invokevirtual 159, 3) := by decide +kernel
theorem dX12_ahead_55 : decode cX12_ahead 55 = .ok (.istore_n 1, 1) := by decide +kernel
theorem dX12_ahead_56 : decode cX12_ahead 56 = .ok (.aload_n 0, 1) := by decide +kernel
theorem dX12_ahead_57 : decode cX12_ahead 57 = .ok (.iload_n 1, 1) := by decide +kernel
theorem dX12_ahead_58 : decode cX12_ahead 58 = .ok (.putfield 165, 3) := by decide +kernel
theorem dX12_ahead_61 : decode cX12_ahead 61 = .ok (.iload_n 1, 1) := by decide +kernel
theorem dX12_ahead_62 : decode cX12_ahead 62 = .ok (.iconst (-1), 1) := by decide +kernel
theorem dX12_ahead_63 : decode cX12_ahead 63 = .ok (.if_icmp .ne 11, 3) := by decide +kernel
theorem dX12_ahead_66 : decode cX12_ahead 66 = .ok (.aload_n 0, 1) := by decide +kernel
theorem dX12_ahead_67 : decode cX12_ahead 67 = .ok (.iconst 0, 1) := by decide +kernel
theorem dX12_ahead_68 : decode cX12_ahead 68 = .ok (.putfield 168, 3) := by decide +kernel
theorem dX12_ahead_71 : decode cX12_ahead 71 = .ok (.goto 162, 3) := by decide +kernel
theorem dX12_ahead_74 : decode cX12_ahead 74 = .ok (.iload_n 1, 1) := by decide +kernel
theorem dX12_ahead_75 : decode cX12_ahead 75 = .ok (.invokestatic 171, 3) := by decide +kernel
theorem dX12_ahead_78 : decode cX12_ahead 78 = .ok (.ifCond .eq 38, 3) := by decide +kernel
theorem dX12_ahead_81 : decode cX12_ahead 81 = .ok (.aload_n 0, 1) := by decide +kernel
theorem dX12_ahead_82 : decode cX12_ahead 82 = .ok (.aload_n 0, 1) := by decide +kernel
theorem dX12_ahead_83 : decode cX12_ahead 83 = .ok (.getfield 156, 3) := by decide +kernel
theorem dX12_ahead_86 : decode cX12_ahead 86 = .ok (.invokevirtual 159, 3) := by decide +kernel
theorem dX12_ahead_89 : decode cX12_ahead 89 = .ok (.invokestatic 171, 3) := by decide +kernel
theorem dX12_ahead_92 : decode cX12_ahead 92 = .ok (.ifCond .eq 16, 3) := by decide +kernel
theorem dX12_ahead_95 : decode cX12_ahead 95 = .ok (.aload_n 0, 1) := by decide +kernel
theorem dX12_ahead_96 : decode cX12_ahead 96 = .ok (.dup, 1) := by decide +kernel
theorem dX12_ahead_97 : decode cX12_ahead 97 = .ok (.getfield 156, 3) := by decide +kernel
theorem dX12_ahead_100 : decode cX12_ahead 100 = .ok (.iconst 1, 1) := by decide +kernel
theorem dX12_ahead_101 : decode cX12_ahead 101 = .ok (.iadd, 1) := by decide +kernel
theorem dX12_ahead_102 : decode cX12_ahead 102 = .ok (.putfield 156, 3) := by decide +kernel
theorem dX12_ahead_105 : decode cX12_ahead 105 = .ok (.goto (-24), 3) := by decide +kernel
theorem dX12_ahead_108 : decode cX12_ahead 108 = .ok (.aload_n 0, 1) := by decide +kernel
theorem dX12_ahead_109 : decode cX12_ahead 109 = .ok (.iconst 2, 1) := by decide +kernel
theorem dX12_ahead_110 : decode cX12_ahead 110 = .ok (.putfield 168, 3) := by decide +kernel
theorem dX12_ahead_113 : decode cX12_ahead 113 = .ok (.goto 120, 3) := by decide +kernel
theorem dX12_ahead_116 : decode cX12_ahead 116 = .ok (.iload_n 1, 1) := by decide +kernel
theorem dX12_ahead_117 : decode cX12_ahead 117 = .ok (.invokestatic 174, 3) := by decide +kernel
theorem dX12_ahead_120 : decode cX12_ahead 120 = .ok (.ifCond .eq 88, 3) := by decide +kernel
theorem dX12_ahead_123 : decode cX12_ahead 123 = .ok (.aload_n 0, 1) := by decide +kernel
theorem dX12_ahead_124 : decode cX12_ahead 124 = .ok (.iconst 0, 1) := by decide +kernel
theorem dX12_ahead_125 : decode cX12_ahead 125 = .ok (.putfield 165, 3) := by decide +kernel
theorem dX12_ahead_128 : decode cX12_ahead 128 = .ok (.aload_n 0, 1) := by decide +kernel
theorem dX12_ahead_129 : decode cX12_ahead 129 = .ok (.aload_n 0, 1) := by decide +kernel
theorem dX12_ahead_130 : decode cX12_ahead 130 = .ok (.getfield 156, 3) := by decide +kernel
theorem dX12_ahead_133 : decode cX12_ahead 133 = .ok (.invokevirtual 159, 3) := by decide +kernel
theorem dX12_ahead_136 : decode cX12_ahead 136 = .ok (.invokestatic 174, 3) := by decide +kernel
theorem dX12_ahead_139 : decode cX12_ahead 139 = .ok (.ifCond .eq 44, 3) := by decide +kernel
theorem dX12_ahead_142 : decode cX12_ahead 142 = .ok (.aload_n 0, 1) := by decide +kernel
theorem dX12_ahead_143 : decode cX12_ahead 143 = .ok (.ldc 177, 2) := by decide +kernel
theorem dX12_ahead_145 : decode cX12_ahead 145 = .ok (.bipush 10, 2) := by decide +kernel
theorem dX12_ahead_147 : decode cX12_ahead 147 = .ok (.aload_n 0, 1) := by decide +kernel
theorem dX12_ahead_148 : decode cX12_ahead 148 = .ok (.getfield 165, 3) := by decide +kernel
theorem dX12_ahead_151 : decode cX12_ahead 151 = .ok (.imul, 1) := by decide +kernel
theorem dX12_ahead_152 : decode cX12_ahead 152 = .ok (.aload_n 0, 1) := by decide +kernel
theorem dX12_ahead_153 : decode cX12_ahead 153 = .ok (.aload_n 0, 1) := by decide +kernel
theorem dX12_ahead_154 : decode cX12_ahead 154 = .ok (.getfield 156, 3) := by decide +kernel
theorem dX12_ahead_157 : decode cX12_ahead 157 = .ok (.invokevirtual 159, 3) := by decide +kernel
theorem dX12_ahead_160 : decode cX12_ahead 160 = .ok (.iadd, 1) := by decide +kernel
theorem dX12_ahead_161 : decode cX12_ahead 161 = .ok (.bipush 48, 2) := by decide +kernel
theorem dX12_ahead_163 : decode cX12_ahead 163 = .ok (.isub, 1) := by decide +kernel
theorem dX12_ahead_164 : decode cX12_ahead 164 = .ok (.invokestatic 178, 3) := by decide +kernel
theorem dX12_ahead_167 : decode cX12_ahead 167 = .ok (.putfield 165, 3) := by decide +kernel
theorem dX12_ahead_170 : decode cX12_ahead 170 = .ok (.aload_n 0, 1) := by decide +kernel
theorem dX12_ahead_171 : decode cX12_ahead 171 = .ok (.dup, 1) := by decide +kernel
theorem dX12_ahead_172 : decode cX12_ahead 172 = .ok (.getfield 156, 3) := by decide +kernel
theorem dX12_ahead_175 : decode cX12_ahead 175 = .ok (.iconst 1, 1) := by decide +kernel
theorem dX12_ahead_176 : decode cX12_ahead 176 = .ok (.iadd, 1) := by decide +kernel
theorem dX12_ahead_177 : decode cX12_ahead 177 = .ok (.putfield 156, 3) := by decide +kernel
theorem dX12_ahead_180 : decode cX12_ahead 180 = .ok (.goto (-52), 3) := by decide +kernel
theorem dX12_ahead_183 : decode cX12_ahead 183 = .ok (.aload_n 0, 1) := by decide +kernel
theorem dX12_ahead_184 : decode cX12_ahead 184 = .ok (.aload_n 0, 1) := by decide +kernel
theorem dX12_ahead_185 : decode cX12_ahead 185 = .ok (.getfield 156, 3) := by decide +kernel
theorem dX12_ahead_188 : decode cX12_ahead 188 = .ok (.aload_n 0, 1) := by decide +kernel
theorem dX12_ahead_189 : decode cX12_ahead 189 = .ok (.getfield 162, 3) := by decide +kernel
theorem dX12_ahead_192 : decode cX12_ahead 192 = .ok (.isub, 1) := by decide +kernel
theorem dX12_ahead_193 : decode cX12_ahead 193 = .ok (.iconst 4, 1) := by decide +kernel
theorem dX12_ahead_194 : decode cX12_ahead 194 = .ok (.if_icmp .le 7, 3) := by decide +kernel
theorem dX12_ahead_197 : decode cX12_ahead 197 = .ok (.iconst 1, 1) := by decide +kernel
theorem dX12_ahead_198 : decode cX12_ahead 198 = .ok (.goto 4, 3) := by decide +kernel
theorem dX12_ahead_201 : decode cX12_ahead 201 = .ok (.iconst 3, 1) := by decide +kernel
theorem dX12_ahead_202 : decode cX12_ahead 202 = .ok (.putfield 168, 3) := by decide +kernel
theorem dX12_ahead_205 : decode cX12_ahead 205 = .ok (.goto 28, 3) := by decide +kernel
theorem dX12_ahead_208 : decode cX12_ahead 208 = .ok (.aload_n 0, 1) := by decide +kernel
theorem dX12_ahead_209 : decode cX12_ahead 209 = .ok (.dup, 1) := by decide +kernel
theorem dX12_ahead_210 : decode cX12_ahead 210 = .ok (.getfield 156, 3) := by decide +kernel
theorem dX12_ahead_213 : decode cX12_ahead 213 = .ok (.iconst 1, 1) := by decide +kernel
theorem dX12_ahead_214 : decode cX12_ahead 214 = .ok (.iadd, 1) := by decide +kernel
theorem dX12_ahead_215 : decode cX12_ahead 215 = .ok (.putfield 156, 3) := by decide +kernel
theorem dX12_ahead_218 : decode cX12_ahead 218 = .ok (.aload_n 0, 1) := by decide +kernel
theorem dX12_ahead_219 : decode cX12_ahead 219 = .ok (.iload_n 1, 1) := by decide +kernel
theorem dX12_ahead_220 : decode cX12_ahead 220 = .ok (.bipush 59, 2) := by decide +kernel
theorem dX12_ahead_222 : decode cX12_ahead 222 = .ok (.if_icmp .ne 7, 3) := by decide +kernel
theorem dX12_ahead_225 : decode cX12_ahead 225 = .ok (.iconst 4, 1) := by decide +kernel
theorem dX12_ahead_226 : decode cX12_ahead 226 = .ok (.goto 4, 3) := by decide +kernel
theorem dX12_ahead_229 : decode cX12_ahead 229 = .ok (.iconst 1, 1) := by decide +kernel
theorem dX12_ahead_230 : decode cX12_ahead 230 = .ok (.putfield 168, 3) := by decide +kernel
theorem dX12_ahead_233 : decode cX12_ahead 233 = .ok (.return_, 1) := by decide +kernel
abbrev f_c_X12_ahead : List (Nat × Int) := [(64, 12), (64, 13), (64, 14), (64, 15)]
set_option maxHeartbeats 4000000 in
set_option maxRecDepth 100000 in
theorem c_X12_ahead (G : KG) (l : Launch) (M : Mem) (hI_M : Inv true M) : KC true G l yX12_ahead cX12_ahead 2 none (1, 21) [vR G 163] M (fun A => kQv true G A (fun (N : Mem) => Inv true N ∧ Fr f_c_X12_ahead M N ∧ (((N 163 12) = 0 ∧ (N 163 14) ≥ (M 163 14)) ∨ ((N 163 12) ≥ 1 ∧ (N 163 12) ≤ 4 ∧ (N 163 14) ≥ (M 163 14) + 1)))) := by
  refine kx_met (lo := [some (vR G 163), none]) (by decide) (Nat.le_of_ble_eq_true rfl) rfl ?_
  intro X F hQ
  have hF_M : Fr f_c_X12_ahead M M := Fr.rf _ _
  have h_1 := Inv.g hI_M kd_163 rfl 14 (a := 0) (b := 900) rfl rfl
  have L_777 : ∀ (n_778 : Nat) (N_776 : Mem), Inv true N_776 → Fr f_c_X12_ahead M N_776 → (N_776 163 14) ≤ 900 ∧ (N_776 163 14) ≥ (M 163 14) → (900 - N_776 163 14).toNat = n_778 → KJ true G X N_776 0 [some (vR G 163), none] [] := by
    intro n_778
    refine Nat.strongRecOn n_778 ?_
    intro n_778 ih_779  N_776 hI_N_776 hF_N_776 h_780 hm_781
    refine kx_aload_n 1 F 0 dX12_ahead_0 rfl rfl rfl ?_
    refine kx_aload_n 2 F 0 dX12_ahead_1 rfl rfl rfl ?_
    refine kx_geti 5 F fl_X12_156 kd_163 rfl rfl (j := 14) rfl dX12_ahead_2 (v := (N_776 163 14)) rfl rfl ?_
    have h_782 := Inv.g hI_N_776 kd_163 rfl 14 (a := 0) (b := 900) rfl rfl
    refine kx_Vi 8 (ci := 0) F (As := [vI (N_776 163 14)]) (st := []) vd_X12_159 (c_X12_byteAt G l N_776 (N_776 163 14) hI_N_776 (by omega)) kd_163 rfl rfl rfl ⟨by decide, by decide⟩ rfl rfl (Nat.le_of_ble_eq_true rfl) dX12_ahead_5 rfl ?_
    intro r_783 N_784 q_785
    obtain ⟨rfl, q_785c⟩ := q_785
    have e_786 : (tbv N_776 (N_776 163 14)) = (tbv M (N_776 163 14)) := tbv_fr hF_N_776 rfl
    have e_787 : (N_776 163 11) = (M 163 11) := by rw [Fr.e hF_N_776 kd_163 _ rfl]
    have h_788 := Inv.g hI_M kd_163 rfl 11 (a := 0) (b := 900) rfl rfl
    have e_789 : (N_776 163 11) = (M 163 11) := by rw [Fr.e hF_N_776 kd_163 _ rfl]
    have e_790 : (N_776 163 11) = (M 163 11) := by rw [Fr.e hF_N_776 kd_163 _ rfl]
    have h_791 := Inv.g hI_M kd_163 rfl 11 (a := 0) (b := 900) rfl rfl
    have e_792 : (N_776 163 11) = (M 163 11) := by rw [Fr.e hF_N_776 kd_163 _ rfl]
    rcases q_785c with q_785c | q_785c
    · refine kx_bipush 10 F dX12_ahead_8 (by decide) rfl ?_
      refine kx_icmp_eq 13 F 26 dX12_ahead_10 (by decide) rfl (by omega) (by decide) (fun h_1173 => (by exfalso; omega)) (fun h_1173 => ?_)
      refine kx_aload_n 14 F 0 dX12_ahead_13 rfl rfl rfl ?_
      refine kx_aload_n 15 F 0 dX12_ahead_14 rfl rfl rfl ?_
      refine kx_geti 18 F fl_X12_156 kd_163 rfl rfl (j := 14) rfl dX12_ahead_15 (v := (N_776 163 14)) rfl rfl ?_
      refine kx_Vi 21 (ci := 0) F (As := [vI (N_776 163 14)]) (st := []) vd_X12_159 (c_X12_byteAt G l N_776 (N_776 163 14) hI_N_776 (by omega)) kd_163 rfl rfl rfl ⟨by decide, by decide⟩ rfl rfl (Nat.le_of_ble_eq_true rfl) dX12_ahead_18 rfl ?_
      intro r_1174 N_1175 q_1176
      obtain ⟨rfl, q_1176c⟩ := q_1176
      have e_1177 : (N_776 163 11) = (M 163 11) := by rw [Fr.e hF_N_776 kd_163 _ rfl]
      have e_1178 : (N_776 163 11) = (M 163 11) := by rw [Fr.e hF_N_776 kd_163 _ rfl]
      have e_1179 : (N_776 163 11) = (M 163 11) := by rw [Fr.e hF_N_776 kd_163 _ rfl]
      have e_1180 : (N_776 163 11) = (M 163 11) := by rw [Fr.e hF_N_776 kd_163 _ rfl]
      rcases q_1176c with q_1176c | q_1176c
      · refine kx_bipush 23 F dX12_ahead_21 (by decide) rfl ?_
        refine kx_icmp_ne 26 F 39 dX12_ahead_23 (by decide) rfl (by omega) (by decide) (fun h_1181 => ?_) (fun h_1181 => (by exfalso; omega))
        refine kx_aload_n 40 F 0 dX12_ahead_39 rfl rfl rfl ?_
        refine kx_aload_n 41 F 0 dX12_ahead_40 rfl rfl rfl ?_
        refine kx_geti 44 F fl_X12_156 kd_163 rfl rfl (j := 14) rfl dX12_ahead_41 (v := (N_776 163 14)) rfl rfl ?_
        refine kx_puti 47 F fw_X12_162 rfl kd_163 rfl rfl (j := 13) rfl dX12_ahead_44 rfl ?_
        intro N_1182 hM_N_1182
        have hI_N_1182 : Inv true N_1182 := Inv.u hI_N_776 hM_N_1182 kd_163 (a := 0) (b := 900) rfl rfl rfl (by omega)
        have hF_N_1182 : Fr f_c_X12_ahead M N_1182 := Fr.u hF_N_776 hM_N_1182 kd_163 rfl
        refine kx_aload_n 48 F 0 dX12_ahead_47 rfl rfl rfl ?_
        refine kx_aload_n 49 F 0 dX12_ahead_48 rfl rfl rfl ?_
        refine kx_geti 52 F fl_X12_156 kd_163 rfl rfl (j := 14) rfl dX12_ahead_49 (v := (N_776 163 14)) (by rw [hM_N_1182, mu_i (by omega)]) rfl ?_
        refine kx_Vi 55 (ci := 0) F (As := [vI (N_776 163 14)]) (st := []) vd_X12_159 (c_X12_byteAt G l N_1182 (N_776 163 14) hI_N_1182 (by omega)) kd_163 rfl rfl rfl ⟨by decide, by decide⟩ rfl rfl (Nat.le_of_ble_eq_true rfl) dX12_ahead_52 rfl ?_
        intro r_1183 N_1184 q_1185
        obtain ⟨rfl, q_1185c⟩ := q_1185
        have e_1186 : (tbv N_1182 (N_776 163 14)) = (tbv M (N_776 163 14)) := tbv_fr hF_N_1182 rfl
        have e_1187 : (N_1182 163 11) = (M 163 11) := by rw [hM_N_1182, mu_i (by omega), Fr.e hF_N_776 kd_163 _ rfl]
        have e_1188 : (N_1182 163 11) = (M 163 11) := by rw [hM_N_1182, mu_i (by omega), Fr.e hF_N_776 kd_163 _ rfl]
        have e_1189 : (N_1182 163 11) = (M 163 11) := by rw [hM_N_1182, mu_i (by omega), Fr.e hF_N_776 kd_163 _ rfl]
        have e_1190 : (N_1182 163 11) = (M 163 11) := by rw [hM_N_1182, mu_i (by omega), Fr.e hF_N_776 kd_163 _ rfl]
        rcases q_1185c with q_1185c | q_1185c
        · refine kx_istore_n 56 F 1 (lo' := [some (vR G 163), some (vI r_1183)]) dX12_ahead_55 rfl (by decide) rfl rfl rfl ?_
          refine kx_aload_n 57 F 0 dX12_ahead_56 rfl rfl rfl ?_
          refine kx_iload_n 58 F 1 dX12_ahead_57 rfl rfl rfl ?_
          refine kx_puti 61 F fw_X12_165 rfl kd_163 rfl rfl (j := 15) rfl dX12_ahead_58 rfl ?_
          intro N_1191 hM_N_1191
          have hI_N_1191 : Inv true N_1191 := Inv.u hI_N_1182 hM_N_1191 kd_163 (a := (-2147483648)) (b := 2147483647) rfl rfl rfl (by omega)
          have hF_N_1191 : Fr f_c_X12_ahead M N_1191 := Fr.u hF_N_1182 hM_N_1191 kd_163 rfl
          refine kx_iload_n 62 F 1 dX12_ahead_61 rfl rfl rfl ?_
          refine kx_iconst 63 F dX12_ahead_62 rfl ?_
          refine kx_icmp_ne 66 F 74 dX12_ahead_63 (by decide) rfl (by omega) (by decide) (fun h_1192 => (by exfalso; omega)) (fun h_1192 => ?_)
          refine kx_aload_n 67 F 0 dX12_ahead_66 rfl rfl rfl ?_
          refine kx_iconst 68 F dX12_ahead_67 rfl ?_
          refine kx_puti 71 F fw_X12_168 rfl kd_163 rfl rfl (j := 12) rfl dX12_ahead_68 rfl ?_
          intro N_1193 hM_N_1193
          have hI_N_1193 : Inv true N_1193 := Inv.u hI_N_1191 hM_N_1193 kd_163 (a := 0) (b := 4) rfl rfl rfl (by omega)
          have hF_N_1193 : Fr f_c_X12_ahead M N_1193 := Fr.u hF_N_1191 hM_N_1193 kd_163 rfl
          refine kx_goto 233 F dX12_ahead_71 (by decide) ?_
          have e_1194 : (N_1193 163 12) = 0 := by rw [hM_N_1193, mu_s]
          have e_1195 : (N_1193 163 14) = (N_776 163 14) := by rw [hM_N_1193, mu_i (by omega), hM_N_1191, mu_i (by omega), hM_N_1182, mu_i (by omega)]
          have e_1196 : (N_1193 163 12) = 0 := by rw [hM_N_1193, mu_s]
          have e_1197 : (N_1193 163 12) = 0 := by rw [hM_N_1193, mu_s]
          have e_1198 : (N_1193 163 14) = (N_776 163 14) := by rw [hM_N_1193, mu_i (by omega), hM_N_1191, mu_i (by omega), hM_N_1182, mu_i (by omega)]
          exact kx_vret F hQ ⟨hI_N_1193, hF_N_1193, (by omega)⟩ dX12_ahead_233
        · refine kx_istore_n 56 F 1 (lo' := [some (vR G 163), some (vI r_1183)]) dX12_ahead_55 rfl (by decide) rfl rfl rfl ?_
          refine kx_aload_n 57 F 0 dX12_ahead_56 rfl rfl rfl ?_
          refine kx_iload_n 58 F 1 dX12_ahead_57 rfl rfl rfl ?_
          refine kx_puti 61 F fw_X12_165 rfl kd_163 rfl rfl (j := 15) rfl dX12_ahead_58 rfl ?_
          intro N_1199 hM_N_1199
          have hI_N_1199 : Inv true N_1199 := Inv.u hI_N_1182 hM_N_1199 kd_163 (a := (-2147483648)) (b := 2147483647) rfl rfl rfl (by omega)
          have hF_N_1199 : Fr f_c_X12_ahead M N_1199 := Fr.u hF_N_1182 hM_N_1199 kd_163 rfl
          refine kx_iload_n 62 F 1 dX12_ahead_61 rfl rfl rfl ?_
          refine kx_iconst 63 F dX12_ahead_62 rfl ?_
          refine kx_icmp_ne 66 F 74 dX12_ahead_63 (by decide) rfl (by omega) (by decide) (fun h_1200 => ?_) (fun h_1200 => (by exfalso; omega))
          refine kx_iload_n 75 F 1 dX12_ahead_74 rfl rfl rfl ?_
          refine kx_Si 78 F (As := [vI r_1183]) (st := []) sd_X12_171 (c_X12_isSmall G l N_1199 r_1183 hI_N_1199 (by omega)) ⟨by decide, by decide⟩ rfl rfl (Nat.le_of_ble_eq_true rfl) dX12_ahead_75 rfl ?_
          intro r_1201 N_1202 q_1203
          obtain ⟨rfl, q_1203c⟩ := q_1203
          rcases q_1203c with q_1203c | q_1203c | q_1203c
          · refine kx_if_eq 81 F 116 dX12_ahead_78 (by decide) rfl (by omega) (fun h_1204 => (by exfalso; omega)) (fun h_1204 => ?_)
            refine kx_aload_n 82 F 0 dX12_ahead_81 rfl rfl rfl ?_
            refine kx_aload_n 83 F 0 dX12_ahead_82 rfl rfl rfl ?_
            refine kx_geti 86 F fl_X12_156 kd_163 rfl rfl (j := 14) rfl dX12_ahead_83 (v := (N_776 163 14)) (by rw [hM_N_1199, mu_i (by omega), hM_N_1182, mu_i (by omega)]) rfl ?_
            refine kx_Vi 89 (ci := 0) F (As := [vI (N_776 163 14)]) (st := []) vd_X12_159 (c_X12_byteAt G l N_1199 (N_776 163 14) hI_N_1199 (by omega)) kd_163 rfl rfl rfl ⟨by decide, by decide⟩ rfl rfl (Nat.le_of_ble_eq_true rfl) dX12_ahead_86 rfl ?_
            intro r_1205 N_1206 q_1207
            obtain ⟨rfl, q_1207c⟩ := q_1207
            have e_1208 : (tbv N_1199 (N_776 163 14)) = (tbv M (N_776 163 14)) := tbv_fr hF_N_1199 rfl
            have e_1209 : (N_1199 163 11) = (M 163 11) := by rw [hM_N_1199, mu_i (by omega), hM_N_1182, mu_i (by omega), Fr.e hF_N_776 kd_163 _ rfl]
            have e_1210 : (N_1199 163 11) = (M 163 11) := by rw [hM_N_1199, mu_i (by omega), hM_N_1182, mu_i (by omega), Fr.e hF_N_776 kd_163 _ rfl]
            have e_1211 : (N_1199 163 11) = (M 163 11) := by rw [hM_N_1199, mu_i (by omega), hM_N_1182, mu_i (by omega), Fr.e hF_N_776 kd_163 _ rfl]
            have e_1212 : (N_1199 163 11) = (M 163 11) := by rw [hM_N_1199, mu_i (by omega), hM_N_1182, mu_i (by omega), Fr.e hF_N_776 kd_163 _ rfl]
            rcases q_1207c with q_1207c | q_1207c
            · refine kx_Si 92 F (As := [vI r_1205]) (st := []) sd_X12_171 (c_X12_isSmall G l N_1199 r_1205 hI_N_1199 (by omega)) ⟨by decide, by decide⟩ rfl rfl (Nat.le_of_ble_eq_true rfl) dX12_ahead_89 rfl ?_
              intro r_1213 N_1214 q_1215
              obtain ⟨rfl, q_1215c⟩ := q_1215
              rcases q_1215c with q_1215c | q_1215c | q_1215c
              · exfalso; omega
              · refine kx_if_eq 95 F 108 dX12_ahead_92 (by decide) rfl (by omega) (fun h_1216 => ?_) (fun h_1216 => (by exfalso; omega))
                refine kx_aload_n 109 F 0 dX12_ahead_108 rfl rfl rfl ?_
                refine kx_iconst 110 F dX12_ahead_109 rfl ?_
                refine kx_puti 113 F fw_X12_168 rfl kd_163 rfl rfl (j := 12) rfl dX12_ahead_110 rfl ?_
                intro N_1217 hM_N_1217
                have hI_N_1217 : Inv true N_1217 := Inv.u hI_N_1199 hM_N_1217 kd_163 (a := 0) (b := 4) rfl rfl rfl (by omega)
                have hF_N_1217 : Fr f_c_X12_ahead M N_1217 := Fr.u hF_N_1199 hM_N_1217 kd_163 rfl
                refine kx_goto 233 F dX12_ahead_113 (by decide) ?_
                have e_1218 : (N_1217 163 12) = 2 := by rw [hM_N_1217, mu_s]
                have e_1219 : (N_1217 163 14) = (N_776 163 14) := by rw [hM_N_1217, mu_i (by omega), hM_N_1199, mu_i (by omega), hM_N_1182, mu_i (by omega)]
                have e_1220 : (N_1217 163 12) = 2 := by rw [hM_N_1217, mu_s]
                have e_1221 : (N_1217 163 12) = 2 := by rw [hM_N_1217, mu_s]
                have e_1222 : (N_1217 163 14) = (N_776 163 14) := by rw [hM_N_1217, mu_i (by omega), hM_N_1199, mu_i (by omega), hM_N_1182, mu_i (by omega)]
                exact kx_vret F hQ ⟨hI_N_1217, hF_N_1217, (by omega)⟩ dX12_ahead_233
              · exfalso; omega
            · refine kx_Si 92 F (As := [vI r_1205]) (st := []) sd_X12_171 (c_X12_isSmall G l N_1199 r_1205 hI_N_1199 (by omega)) ⟨by decide, by decide⟩ rfl rfl (Nat.le_of_ble_eq_true rfl) dX12_ahead_89 rfl ?_
              intro r_1223 N_1224 q_1225
              obtain ⟨rfl, q_1225c⟩ := q_1225
              rcases q_1225c with q_1225c | q_1225c | q_1225c
              · refine kx_if_eq 95 F 108 dX12_ahead_92 (by decide) rfl (by omega) (fun h_1226 => (by exfalso; omega)) (fun h_1226 => ?_)
                refine kx_aload_n 96 F 0 dX12_ahead_95 rfl rfl rfl ?_
                refine kx_dup 97 F dX12_ahead_96 rfl rfl ?_
                refine kx_geti 100 F fl_X12_156 kd_163 rfl rfl (j := 14) rfl dX12_ahead_97 (v := (N_776 163 14)) (by rw [hM_N_1199, mu_i (by omega), hM_N_1182, mu_i (by omega)]) rfl ?_
                refine kx_iconst 101 F dX12_ahead_100 rfl ?_
                refine kx_iadd 102 F (v := (N_776 163 14) + 1) dX12_ahead_101 rfl rfl ?_
                refine kx_puti 105 F fw_X12_156 rfl kd_163 rfl rfl (j := 14) rfl dX12_ahead_102 rfl ?_
                intro N_1227 hM_N_1227
                have hI_N_1227 : Inv true N_1227 := Inv.u hI_N_1199 hM_N_1227 kd_163 (a := 0) (b := 900) rfl rfl rfl (by omega)
                have hF_N_1227 : Fr f_c_X12_ahead M N_1227 := Fr.u hF_N_1199 hM_N_1227 kd_163 rfl
                refine kx_goto 81 F dX12_ahead_105 (by decide) ?_
                have L_1268 : ∀ (n_1269 : Nat) (N_1267 : Mem), Inv true N_1267 → Fr f_c_X12_ahead M N_1267 → (N_1267 163 14) ≤ 900 ∧ (N_1267 163 14) ≥ (N_1267 163 13) + 1 ∧ (N_1267 163 13) ≥ (M 163 14) → (900 - N_1267 163 14).toNat = n_1269 → KJ true G X N_1267 81 [some (vR G 163), none] [] := by
                  intro n_1269
                  refine Nat.strongRecOn n_1269 ?_
                  intro n_1269 ih_1270  N_1267 hI_N_1267 hF_N_1267 h_1271 hm_1272
                  refine kx_aload_n 82 F 0 dX12_ahead_81 rfl rfl rfl ?_
                  refine kx_aload_n 83 F 0 dX12_ahead_82 rfl rfl rfl ?_
                  refine kx_geti 86 F fl_X12_156 kd_163 rfl rfl (j := 14) rfl dX12_ahead_83 (v := (N_1267 163 14)) rfl rfl ?_
                  have h_1273 := Inv.g hI_N_1267 kd_163 rfl 14 (a := 0) (b := 900) rfl rfl
                  refine kx_Vi 89 (ci := 0) F (As := [vI (N_1267 163 14)]) (st := []) vd_X12_159 (c_X12_byteAt G l N_1267 (N_1267 163 14) hI_N_1267 (by omega)) kd_163 rfl rfl rfl ⟨by decide, by decide⟩ rfl rfl (Nat.le_of_ble_eq_true rfl) dX12_ahead_86 rfl ?_
                  intro r_1274 N_1275 q_1276
                  obtain ⟨rfl, q_1276c⟩ := q_1276
                  have e_1277 : (tbv N_1267 (N_1267 163 14)) = (tbv M (N_1267 163 14)) := tbv_fr hF_N_1267 rfl
                  have e_1278 : (N_1267 163 11) = (M 163 11) := by rw [Fr.e hF_N_1267 kd_163 _ rfl]
                  have e_1279 : (N_1267 163 11) = (M 163 11) := by rw [Fr.e hF_N_1267 kd_163 _ rfl]
                  have e_1280 : (N_1267 163 11) = (M 163 11) := by rw [Fr.e hF_N_1267 kd_163 _ rfl]
                  have e_1281 : (N_1267 163 11) = (M 163 11) := by rw [Fr.e hF_N_1267 kd_163 _ rfl]
                  rcases q_1276c with q_1276c | q_1276c
                  · refine kx_Si 92 F (As := [vI r_1274]) (st := []) sd_X12_171 (c_X12_isSmall G l N_1267 r_1274 hI_N_1267 (by omega)) ⟨by decide, by decide⟩ rfl rfl (Nat.le_of_ble_eq_true rfl) dX12_ahead_89 rfl ?_
                    intro r_1282 N_1283 q_1284
                    obtain ⟨rfl, q_1284c⟩ := q_1284
                    rcases q_1284c with q_1284c | q_1284c | q_1284c
                    · exfalso; omega
                    · refine kx_if_eq 95 F 108 dX12_ahead_92 (by decide) rfl (by omega) (fun h_1285 => ?_) (fun h_1285 => (by exfalso; omega))
                      refine kx_aload_n 109 F 0 dX12_ahead_108 rfl rfl rfl ?_
                      refine kx_iconst 110 F dX12_ahead_109 rfl ?_
                      refine kx_puti 113 F fw_X12_168 rfl kd_163 rfl rfl (j := 12) rfl dX12_ahead_110 rfl ?_
                      intro N_1286 hM_N_1286
                      have hI_N_1286 : Inv true N_1286 := Inv.u hI_N_1267 hM_N_1286 kd_163 (a := 0) (b := 4) rfl rfl rfl (by omega)
                      have hF_N_1286 : Fr f_c_X12_ahead M N_1286 := Fr.u hF_N_1267 hM_N_1286 kd_163 rfl
                      refine kx_goto 233 F dX12_ahead_113 (by decide) ?_
                      have e_1287 : (N_1286 163 12) = 2 := by rw [hM_N_1286, mu_s]
                      have e_1288 : (N_1286 163 14) = (N_1267 163 14) := by rw [hM_N_1286, mu_i (by omega)]
                      have e_1289 : (N_1286 163 12) = 2 := by rw [hM_N_1286, mu_s]
                      have e_1290 : (N_1286 163 12) = 2 := by rw [hM_N_1286, mu_s]
                      have e_1291 : (N_1286 163 14) = (N_1267 163 14) := by rw [hM_N_1286, mu_i (by omega)]
                      exact kx_vret F hQ ⟨hI_N_1286, hF_N_1286, (by omega)⟩ dX12_ahead_233
                    · exfalso; omega
                  · refine kx_Si 92 F (As := [vI r_1274]) (st := []) sd_X12_171 (c_X12_isSmall G l N_1267 r_1274 hI_N_1267 (by omega)) ⟨by decide, by decide⟩ rfl rfl (Nat.le_of_ble_eq_true rfl) dX12_ahead_89 rfl ?_
                    intro r_1292 N_1293 q_1294
                    obtain ⟨rfl, q_1294c⟩ := q_1294
                    rcases q_1294c with q_1294c | q_1294c | q_1294c
                    · refine kx_if_eq 95 F 108 dX12_ahead_92 (by decide) rfl (by omega) (fun h_1295 => (by exfalso; omega)) (fun h_1295 => ?_)
                      refine kx_aload_n 96 F 0 dX12_ahead_95 rfl rfl rfl ?_
                      refine kx_dup 97 F dX12_ahead_96 rfl rfl ?_
                      refine kx_geti 100 F fl_X12_156 kd_163 rfl rfl (j := 14) rfl dX12_ahead_97 (v := (N_1267 163 14)) rfl rfl ?_
                      refine kx_iconst 101 F dX12_ahead_100 rfl ?_
                      refine kx_iadd 102 F (v := (N_1267 163 14) + 1) dX12_ahead_101 rfl rfl ?_
                      refine kx_puti 105 F fw_X12_156 rfl kd_163 rfl rfl (j := 14) rfl dX12_ahead_102 rfl ?_
                      intro N_1296 hM_N_1296
                      have hI_N_1296 : Inv true N_1296 := Inv.u hI_N_1267 hM_N_1296 kd_163 (a := 0) (b := 900) rfl rfl rfl (by omega)
                      have hF_N_1296 : Fr f_c_X12_ahead M N_1296 := Fr.u hF_N_1267 hM_N_1296 kd_163 rfl
                      refine kx_goto 81 F dX12_ahead_105 (by decide) ?_
                      have e_1297 : (N_1296 163 14) = (N_1267 163 14) + 1 := by rw [hM_N_1296, mu_s]
                      have e_1298 : (N_1296 163 14) = (N_1267 163 14) + 1 := by rw [hM_N_1296, mu_s]
                      have e_1299 : (N_1296 163 13) = (N_1267 163 13) := by rw [hM_N_1296, mu_i (by omega)]
                      have h_1300 := Inv.g hI_N_1267 kd_163 rfl 13 (a := 0) (b := 900) rfl rfl
                      have e_1301 : (N_1296 163 13) = (N_1267 163 13) := by rw [hM_N_1296, mu_i (by omega)]
                      exact ih_1270 _ (by omega) N_1296 hI_N_1296 hF_N_1296 (by omega) rfl
                    · refine kx_if_eq 95 F 108 dX12_ahead_92 (by decide) rfl (by omega) (fun h_1302 => ?_) (fun h_1302 => (by exfalso; omega))
                      refine kx_aload_n 109 F 0 dX12_ahead_108 rfl rfl rfl ?_
                      refine kx_iconst 110 F dX12_ahead_109 rfl ?_
                      refine kx_puti 113 F fw_X12_168 rfl kd_163 rfl rfl (j := 12) rfl dX12_ahead_110 rfl ?_
                      intro N_1303 hM_N_1303
                      have hI_N_1303 : Inv true N_1303 := Inv.u hI_N_1267 hM_N_1303 kd_163 (a := 0) (b := 4) rfl rfl rfl (by omega)
                      have hF_N_1303 : Fr f_c_X12_ahead M N_1303 := Fr.u hF_N_1267 hM_N_1303 kd_163 rfl
                      refine kx_goto 233 F dX12_ahead_113 (by decide) ?_
                      have e_1304 : (N_1303 163 12) = 2 := by rw [hM_N_1303, mu_s]
                      have e_1305 : (N_1303 163 14) = (N_1267 163 14) := by rw [hM_N_1303, mu_i (by omega)]
                      have e_1306 : (N_1303 163 12) = 2 := by rw [hM_N_1303, mu_s]
                      have e_1307 : (N_1303 163 12) = 2 := by rw [hM_N_1303, mu_s]
                      have e_1308 : (N_1303 163 14) = (N_1267 163 14) := by rw [hM_N_1303, mu_i (by omega)]
                      exact kx_vret F hQ ⟨hI_N_1303, hF_N_1303, (by omega)⟩ dX12_ahead_233
                    · refine kx_if_eq 95 F 108 dX12_ahead_92 (by decide) rfl (by omega) (fun h_1309 => ?_) (fun h_1309 => (by exfalso; omega))
                      refine kx_aload_n 109 F 0 dX12_ahead_108 rfl rfl rfl ?_
                      refine kx_iconst 110 F dX12_ahead_109 rfl ?_
                      refine kx_puti 113 F fw_X12_168 rfl kd_163 rfl rfl (j := 12) rfl dX12_ahead_110 rfl ?_
                      intro N_1310 hM_N_1310
                      have hI_N_1310 : Inv true N_1310 := Inv.u hI_N_1267 hM_N_1310 kd_163 (a := 0) (b := 4) rfl rfl rfl (by omega)
                      have hF_N_1310 : Fr f_c_X12_ahead M N_1310 := Fr.u hF_N_1267 hM_N_1310 kd_163 rfl
                      refine kx_goto 233 F dX12_ahead_113 (by decide) ?_
                      have e_1311 : (N_1310 163 12) = 2 := by rw [hM_N_1310, mu_s]
                      have e_1312 : (N_1310 163 14) = (N_1267 163 14) := by rw [hM_N_1310, mu_i (by omega)]
                      have e_1313 : (N_1310 163 12) = 2 := by rw [hM_N_1310, mu_s]
                      have e_1314 : (N_1310 163 12) = 2 := by rw [hM_N_1310, mu_s]
                      have e_1315 : (N_1310 163 14) = (N_1267 163 14) := by rw [hM_N_1310, mu_i (by omega)]
                      exact kx_vret F hQ ⟨hI_N_1310, hF_N_1310, (by omega)⟩ dX12_ahead_233
                refine kx_drop 1 (lo' := [some (vR G 163), none]) rfl ?_
                have e_1316 : (N_1227 163 14) = (N_776 163 14) + 1 := by rw [hM_N_1227, mu_s]
                have e_1317 : (N_1227 163 14) = (N_776 163 14) + 1 := by rw [hM_N_1227, mu_s]
                have e_1318 : (N_1227 163 13) = (N_776 163 14) := by rw [hM_N_1227, mu_i (by omega), hM_N_1199, mu_i (by omega), hM_N_1182, mu_s]
                have e_1319 : (N_1227 163 13) = (N_776 163 14) := by rw [hM_N_1227, mu_i (by omega), hM_N_1199, mu_i (by omega), hM_N_1182, mu_s]
                exact L_1268 _ N_1227 hI_N_1227 hF_N_1227 (by omega) rfl
              · exfalso; omega
              · exfalso; omega
          · refine kx_if_eq 81 F 116 dX12_ahead_78 (by decide) rfl (by omega) (fun h_1320 => ?_) (fun h_1320 => (by exfalso; omega))
            refine kx_iload_n 117 F 1 dX12_ahead_116 rfl rfl rfl ?_
            refine kx_Si 120 F (As := [vI r_1183]) (st := []) sd_X12_174 (c_X12_isDigit G l N_1199 r_1183 hI_N_1199 (by omega)) ⟨by decide, by decide⟩ rfl rfl (Nat.le_of_ble_eq_true rfl) dX12_ahead_117 rfl ?_
            intro r_1321 N_1322 q_1323
            obtain ⟨rfl, q_1323c⟩ := q_1323
            rcases q_1323c with q_1323c | q_1323c | q_1323c
            · refine kx_if_eq 123 F 208 dX12_ahead_120 (by decide) rfl (by omega) (fun h_1324 => (by exfalso; omega)) (fun h_1324 => ?_)
              refine kx_aload_n 124 F 0 dX12_ahead_123 rfl rfl rfl ?_
              refine kx_iconst 125 F dX12_ahead_124 rfl ?_
              refine kx_puti 128 F fw_X12_165 rfl kd_163 rfl rfl (j := 15) rfl dX12_ahead_125 rfl ?_
              intro N_1325 hM_N_1325
              have hI_N_1325 : Inv true N_1325 := Inv.u hI_N_1199 hM_N_1325 kd_163 (a := (-2147483648)) (b := 2147483647) rfl rfl rfl (by omega)
              have hF_N_1325 : Fr f_c_X12_ahead M N_1325 := Fr.u hF_N_1199 hM_N_1325 kd_163 rfl
              refine kx_aload_n 129 F 0 dX12_ahead_128 rfl rfl rfl ?_
              refine kx_aload_n 130 F 0 dX12_ahead_129 rfl rfl rfl ?_
              refine kx_geti 133 F fl_X12_156 kd_163 rfl rfl (j := 14) rfl dX12_ahead_130 (v := (N_776 163 14)) (by rw [hM_N_1325, mu_i (by omega), hM_N_1199, mu_i (by omega), hM_N_1182, mu_i (by omega)]) rfl ?_
              refine kx_Vi 136 (ci := 0) F (As := [vI (N_776 163 14)]) (st := []) vd_X12_159 (c_X12_byteAt G l N_1325 (N_776 163 14) hI_N_1325 (by omega)) kd_163 rfl rfl rfl ⟨by decide, by decide⟩ rfl rfl (Nat.le_of_ble_eq_true rfl) dX12_ahead_133 rfl ?_
              intro r_1326 N_1327 q_1328
              obtain ⟨rfl, q_1328c⟩ := q_1328
              have e_1329 : (tbv N_1325 (N_776 163 14)) = (tbv M (N_776 163 14)) := tbv_fr hF_N_1325 rfl
              have e_1330 : (N_1325 163 11) = (M 163 11) := by rw [hM_N_1325, mu_i (by omega), hM_N_1199, mu_i (by omega), hM_N_1182, mu_i (by omega), Fr.e hF_N_776 kd_163 _ rfl]
              have e_1331 : (N_1325 163 11) = (M 163 11) := by rw [hM_N_1325, mu_i (by omega), hM_N_1199, mu_i (by omega), hM_N_1182, mu_i (by omega), Fr.e hF_N_776 kd_163 _ rfl]
              have e_1332 : (N_1325 163 11) = (M 163 11) := by rw [hM_N_1325, mu_i (by omega), hM_N_1199, mu_i (by omega), hM_N_1182, mu_i (by omega), Fr.e hF_N_776 kd_163 _ rfl]
              have e_1333 : (N_1325 163 11) = (M 163 11) := by rw [hM_N_1325, mu_i (by omega), hM_N_1199, mu_i (by omega), hM_N_1182, mu_i (by omega), Fr.e hF_N_776 kd_163 _ rfl]
              rcases q_1328c with q_1328c | q_1328c
              · refine kx_Si 139 F (As := [vI r_1326]) (st := []) sd_X12_174 (c_X12_isDigit G l N_1325 r_1326 hI_N_1325 (by omega)) ⟨by decide, by decide⟩ rfl rfl (Nat.le_of_ble_eq_true rfl) dX12_ahead_136 rfl ?_
                intro r_1334 N_1335 q_1336
                obtain ⟨rfl, q_1336c⟩ := q_1336
                rcases q_1336c with q_1336c | q_1336c | q_1336c
                · exfalso; omega
                · refine kx_if_eq 142 F 183 dX12_ahead_139 (by decide) rfl (by omega) (fun h_1337 => ?_) (fun h_1337 => (by exfalso; omega))
                  refine kx_aload_n 184 F 0 dX12_ahead_183 rfl rfl rfl ?_
                  refine kx_aload_n 185 F 0 dX12_ahead_184 rfl rfl rfl ?_
                  refine kx_geti 188 F fl_X12_156 kd_163 rfl rfl (j := 14) rfl dX12_ahead_185 (v := (N_776 163 14)) (by rw [hM_N_1325, mu_i (by omega), hM_N_1199, mu_i (by omega), hM_N_1182, mu_i (by omega)]) rfl ?_
                  refine kx_aload_n 189 F 0 dX12_ahead_188 rfl rfl rfl ?_
                  refine kx_geti 192 F fl_X12_162 kd_163 rfl rfl (j := 13) rfl dX12_ahead_189 (v := (N_776 163 14)) (by rw [hM_N_1325, mu_i (by omega), hM_N_1199, mu_i (by omega), hM_N_1182, mu_s]) rfl ?_
                  refine kx_isub 193 F (v := 0) dX12_ahead_192 (by omega) rfl ?_
                  refine kx_iconst 194 F dX12_ahead_193 rfl ?_
                  refine kx_icmp_le 197 F 201 dX12_ahead_194 (by decide) rfl (by decide) (by decide) (fun h_1338 => ?_) (fun h_1338 => (by exfalso; omega))
                  refine kx_iconst 202 F dX12_ahead_201 rfl ?_
                  refine kx_puti 205 F fw_X12_168 rfl kd_163 rfl rfl (j := 12) rfl dX12_ahead_202 rfl ?_
                  intro N_1339 hM_N_1339
                  have hI_N_1339 : Inv true N_1339 := Inv.u hI_N_1325 hM_N_1339 kd_163 (a := 0) (b := 4) rfl rfl rfl (by omega)
                  have hF_N_1339 : Fr f_c_X12_ahead M N_1339 := Fr.u hF_N_1325 hM_N_1339 kd_163 rfl
                  refine kx_goto 233 F dX12_ahead_205 (by decide) ?_
                  have e_1340 : (N_1339 163 12) = 3 := by rw [hM_N_1339, mu_s]
                  have e_1341 : (N_1339 163 14) = (N_776 163 14) := by rw [hM_N_1339, mu_i (by omega), hM_N_1325, mu_i (by omega), hM_N_1199, mu_i (by omega), hM_N_1182, mu_i (by omega)]
                  have e_1342 : (N_1339 163 12) = 3 := by rw [hM_N_1339, mu_s]
                  have e_1343 : (N_1339 163 12) = 3 := by rw [hM_N_1339, mu_s]
                  have e_1344 : (N_1339 163 14) = (N_776 163 14) := by rw [hM_N_1339, mu_i (by omega), hM_N_1325, mu_i (by omega), hM_N_1199, mu_i (by omega), hM_N_1182, mu_i (by omega)]
                  exact kx_vret F hQ ⟨hI_N_1339, hF_N_1339, (by omega)⟩ dX12_ahead_233
                · exfalso; omega
              · refine kx_Si 139 F (As := [vI r_1326]) (st := []) sd_X12_174 (c_X12_isDigit G l N_1325 r_1326 hI_N_1325 (by omega)) ⟨by decide, by decide⟩ rfl rfl (Nat.le_of_ble_eq_true rfl) dX12_ahead_136 rfl ?_
                intro r_1345 N_1346 q_1347
                obtain ⟨rfl, q_1347c⟩ := q_1347
                rcases q_1347c with q_1347c | q_1347c | q_1347c
                · refine kx_if_eq 142 F 183 dX12_ahead_139 (by decide) rfl (by omega) (fun h_1348 => (by exfalso; omega)) (fun h_1348 => ?_)
                  refine kx_aload_n 143 F 0 dX12_ahead_142 rfl rfl rfl ?_
                  refine kx_ldc 145 (z := 100000) F dX12_ahead_143 ct_X12_177 rfl ?_
                  refine kx_bipush 147 F dX12_ahead_145 (by decide) rfl ?_
                  refine kx_aload_n 148 F 0 dX12_ahead_147 rfl rfl rfl ?_
                  refine kx_geti 151 F fl_X12_165 kd_163 rfl rfl (j := 15) rfl dX12_ahead_148 (v := 0) (by rw [hM_N_1325, mu_s]) rfl ?_
                  refine kx_imul 152 F (v := 0) dX12_ahead_151 (by omega) rfl ?_
                  refine kx_aload_n 153 F 0 dX12_ahead_152 rfl rfl rfl ?_
                  refine kx_aload_n 154 F 0 dX12_ahead_153 rfl rfl rfl ?_
                  refine kx_geti 157 F fl_X12_156 kd_163 rfl rfl (j := 14) rfl dX12_ahead_154 (v := (N_776 163 14)) (by rw [hM_N_1325, mu_i (by omega), hM_N_1199, mu_i (by omega), hM_N_1182, mu_i (by omega)]) rfl ?_
                  refine kx_Vi 160 (ci := 0) F (As := [vI (N_776 163 14)]) (st := [vI 0, vI 100000, vR G 163]) vd_X12_159 (c_X12_byteAt G l N_1325 (N_776 163 14) hI_N_1325 (by omega)) kd_163 rfl rfl rfl ⟨by decide, by decide⟩ rfl rfl (Nat.le_of_ble_eq_true rfl) dX12_ahead_157 rfl ?_
                  intro r_1349 N_1350 q_1351
                  obtain ⟨rfl, q_1351c⟩ := q_1351
                  have e_1352 : (N_1325 163 11) = (M 163 11) := by rw [hM_N_1325, mu_i (by omega), hM_N_1199, mu_i (by omega), hM_N_1182, mu_i (by omega), Fr.e hF_N_776 kd_163 _ rfl]
                  have e_1353 : (N_1325 163 11) = (M 163 11) := by rw [hM_N_1325, mu_i (by omega), hM_N_1199, mu_i (by omega), hM_N_1182, mu_i (by omega), Fr.e hF_N_776 kd_163 _ rfl]
                  have e_1354 : (N_1325 163 11) = (M 163 11) := by rw [hM_N_1325, mu_i (by omega), hM_N_1199, mu_i (by omega), hM_N_1182, mu_i (by omega), Fr.e hF_N_776 kd_163 _ rfl]
                  have e_1355 : (N_1325 163 11) = (M 163 11) := by rw [hM_N_1325, mu_i (by omega), hM_N_1199, mu_i (by omega), hM_N_1182, mu_i (by omega), Fr.e hF_N_776 kd_163 _ rfl]
                  rcases q_1351c with q_1351c | q_1351c
                  · exfalso; omega
                  · refine kx_iadd 161 F (v := r_1349) dX12_ahead_160 (by omega) rfl ?_
                    refine kx_bipush 163 F dX12_ahead_161 (by decide) rfl ?_
                    refine kx_isub 164 F (v := r_1349 - 48) dX12_ahead_163 rfl rfl ?_
                    refine kx_mmin 167 F dX12_ahead_164 (tt lm_1833 rfl) (tt lm_800 rfl) (tt lm_180 rfl) (tt lm_801 rfl) (by decide) (Nat.le_of_ble_eq_true rfl) (by omega) (by omega) rfl (fun w_1356 h_1357 => ?_)
                    refine kx_puti 170 F fw_X12_165 rfl kd_163 rfl rfl (j := 15) rfl dX12_ahead_167 rfl ?_
                    intro N_1358 hM_N_1358
                    have hI_N_1358 : Inv true N_1358 := Inv.u hI_N_1325 hM_N_1358 kd_163 (a := (-2147483648)) (b := 2147483647) rfl rfl rfl (by omega)
                    have hF_N_1358 : Fr f_c_X12_ahead M N_1358 := Fr.u hF_N_1325 hM_N_1358 kd_163 rfl
                    refine kx_aload_n 171 F 0 dX12_ahead_170 rfl rfl rfl ?_
                    refine kx_dup 172 F dX12_ahead_171 rfl rfl ?_
                    refine kx_geti 175 F fl_X12_156 kd_163 rfl rfl (j := 14) rfl dX12_ahead_172 (v := (N_776 163 14)) (by rw [hM_N_1358, mu_i (by omega), hM_N_1325, mu_i (by omega), hM_N_1199, mu_i (by omega), hM_N_1182, mu_i (by omega)]) rfl ?_
                    refine kx_iconst 176 F dX12_ahead_175 rfl ?_
                    refine kx_iadd 177 F (v := (N_776 163 14) + 1) dX12_ahead_176 rfl rfl ?_
                    refine kx_puti 180 F fw_X12_156 rfl kd_163 rfl rfl (j := 14) rfl dX12_ahead_177 rfl ?_
                    intro N_1359 hM_N_1359
                    have hI_N_1359 : Inv true N_1359 := Inv.u hI_N_1358 hM_N_1359 kd_163 (a := 0) (b := 900) rfl rfl rfl (by omega)
                    have hF_N_1359 : Fr f_c_X12_ahead M N_1359 := Fr.u hF_N_1358 hM_N_1359 kd_163 rfl
                    refine kx_goto 128 F dX12_ahead_180 (by decide) ?_
                    have L_1441 : ∀ (n_1442 : Nat) (N_1440 : Mem), Inv true N_1440 → Fr f_c_X12_ahead M N_1440 → (N_1440 163 14) ≤ 900 ∧ (N_1440 163 14) ≥ (N_1440 163 13) + 1 ∧ (N_1440 163 13) ≥ (M 163 14) → (900 - N_1440 163 14).toNat = n_1442 → KJ true G X N_1440 128 [some (vR G 163), none] [] := by
                      intro n_1442
                      refine Nat.strongRecOn n_1442 ?_
                      intro n_1442 ih_1443  N_1440 hI_N_1440 hF_N_1440 h_1444 hm_1445
                      refine kx_aload_n 129 F 0 dX12_ahead_128 rfl rfl rfl ?_
                      refine kx_aload_n 130 F 0 dX12_ahead_129 rfl rfl rfl ?_
                      refine kx_geti 133 F fl_X12_156 kd_163 rfl rfl (j := 14) rfl dX12_ahead_130 (v := (N_1440 163 14)) rfl rfl ?_
                      have h_1446 := Inv.g hI_N_1440 kd_163 rfl 14 (a := 0) (b := 900) rfl rfl
                      refine kx_Vi 136 (ci := 0) F (As := [vI (N_1440 163 14)]) (st := []) vd_X12_159 (c_X12_byteAt G l N_1440 (N_1440 163 14) hI_N_1440 (by omega)) kd_163 rfl rfl rfl ⟨by decide, by decide⟩ rfl rfl (Nat.le_of_ble_eq_true rfl) dX12_ahead_133 rfl ?_
                      intro r_1447 N_1448 q_1449
                      obtain ⟨rfl, q_1449c⟩ := q_1449
                      have e_1450 : (tbv N_1440 (N_1440 163 14)) = (tbv M (N_1440 163 14)) := tbv_fr hF_N_1440 rfl
                      have e_1451 : (N_1440 163 11) = (M 163 11) := by rw [Fr.e hF_N_1440 kd_163 _ rfl]
                      have e_1452 : (N_1440 163 11) = (M 163 11) := by rw [Fr.e hF_N_1440 kd_163 _ rfl]
                      have e_1453 : (N_1440 163 11) = (M 163 11) := by rw [Fr.e hF_N_1440 kd_163 _ rfl]
                      have e_1454 : (N_1440 163 11) = (M 163 11) := by rw [Fr.e hF_N_1440 kd_163 _ rfl]
                      rcases q_1449c with q_1449c | q_1449c
                      · refine kx_Si 139 F (As := [vI r_1447]) (st := []) sd_X12_174 (c_X12_isDigit G l N_1440 r_1447 hI_N_1440 (by omega)) ⟨by decide, by decide⟩ rfl rfl (Nat.le_of_ble_eq_true rfl) dX12_ahead_136 rfl ?_
                        intro r_1455 N_1456 q_1457
                        obtain ⟨rfl, q_1457c⟩ := q_1457
                        rcases q_1457c with q_1457c | q_1457c | q_1457c
                        · exfalso; omega
                        · refine kx_if_eq 142 F 183 dX12_ahead_139 (by decide) rfl (by omega) (fun h_1458 => ?_) (fun h_1458 => (by exfalso; omega))
                          refine kx_aload_n 184 F 0 dX12_ahead_183 rfl rfl rfl ?_
                          refine kx_aload_n 185 F 0 dX12_ahead_184 rfl rfl rfl ?_
                          refine kx_geti 188 F fl_X12_156 kd_163 rfl rfl (j := 14) rfl dX12_ahead_185 (v := (N_1440 163 14)) rfl rfl ?_
                          refine kx_aload_n 189 F 0 dX12_ahead_188 rfl rfl rfl ?_
                          refine kx_geti 192 F fl_X12_162 kd_163 rfl rfl (j := 13) rfl dX12_ahead_189 (v := (N_1440 163 13)) rfl rfl ?_
                          have h_1459 := Inv.g hI_N_1440 kd_163 rfl 13 (a := 0) (b := 900) rfl rfl
                          refine kx_isub 193 F (v := (N_1440 163 14) - (N_1440 163 13)) dX12_ahead_192 rfl rfl ?_
                          refine kx_iconst 194 F dX12_ahead_193 rfl ?_
                          refine kx_icmp_le 197 F 201 dX12_ahead_194 (by decide) rfl (by omega) (by decide) (fun h_1460 => ?_) (fun h_1460 => ?_)
                          · refine kx_iconst 202 F dX12_ahead_201 rfl ?_
                            refine kx_puti 205 F fw_X12_168 rfl kd_163 rfl rfl (j := 12) rfl dX12_ahead_202 rfl ?_
                            intro N_1461 hM_N_1461
                            have hI_N_1461 : Inv true N_1461 := Inv.u hI_N_1440 hM_N_1461 kd_163 (a := 0) (b := 4) rfl rfl rfl (by omega)
                            have hF_N_1461 : Fr f_c_X12_ahead M N_1461 := Fr.u hF_N_1440 hM_N_1461 kd_163 rfl
                            refine kx_goto 233 F dX12_ahead_205 (by decide) ?_
                            have e_1462 : (N_1461 163 12) = 3 := by rw [hM_N_1461, mu_s]
                            have e_1463 : (N_1461 163 14) = (N_1440 163 14) := by rw [hM_N_1461, mu_i (by omega)]
                            have e_1464 : (N_1461 163 12) = 3 := by rw [hM_N_1461, mu_s]
                            have e_1465 : (N_1461 163 12) = 3 := by rw [hM_N_1461, mu_s]
                            have e_1466 : (N_1461 163 14) = (N_1440 163 14) := by rw [hM_N_1461, mu_i (by omega)]
                            exact kx_vret F hQ ⟨hI_N_1461, hF_N_1461, (by omega)⟩ dX12_ahead_233
                          · refine kx_iconst 198 F dX12_ahead_197 rfl ?_
                            refine kx_goto 202 F dX12_ahead_198 (by decide) ?_
                            refine kx_puti 205 F fw_X12_168 rfl kd_163 rfl rfl (j := 12) rfl dX12_ahead_202 rfl ?_
                            intro N_1467 hM_N_1467
                            have hI_N_1467 : Inv true N_1467 := Inv.u hI_N_1440 hM_N_1467 kd_163 (a := 0) (b := 4) rfl rfl rfl (by omega)
                            have hF_N_1467 : Fr f_c_X12_ahead M N_1467 := Fr.u hF_N_1440 hM_N_1467 kd_163 rfl
                            refine kx_goto 233 F dX12_ahead_205 (by decide) ?_
                            have e_1468 : (N_1467 163 12) = 1 := by rw [hM_N_1467, mu_s]
                            have e_1469 : (N_1467 163 14) = (N_1440 163 14) := by rw [hM_N_1467, mu_i (by omega)]
                            have e_1470 : (N_1467 163 12) = 1 := by rw [hM_N_1467, mu_s]
                            have e_1471 : (N_1467 163 12) = 1 := by rw [hM_N_1467, mu_s]
                            have e_1472 : (N_1467 163 14) = (N_1440 163 14) := by rw [hM_N_1467, mu_i (by omega)]
                            exact kx_vret F hQ ⟨hI_N_1467, hF_N_1467, (by omega)⟩ dX12_ahead_233
                        · exfalso; omega
                      · refine kx_Si 139 F (As := [vI r_1447]) (st := []) sd_X12_174 (c_X12_isDigit G l N_1440 r_1447 hI_N_1440 (by omega)) ⟨by decide, by decide⟩ rfl rfl (Nat.le_of_ble_eq_true rfl) dX12_ahead_136 rfl ?_
                        intro r_1473 N_1474 q_1475
                        obtain ⟨rfl, q_1475c⟩ := q_1475
                        rcases q_1475c with q_1475c | q_1475c | q_1475c
                        · refine kx_if_eq 142 F 183 dX12_ahead_139 (by decide) rfl (by omega) (fun h_1476 => (by exfalso; omega)) (fun h_1476 => ?_)
                          refine kx_aload_n 143 F 0 dX12_ahead_142 rfl rfl rfl ?_
                          refine kx_ldc 145 (z := 100000) F dX12_ahead_143 ct_X12_177 rfl ?_
                          refine kx_bipush 147 F dX12_ahead_145 (by decide) rfl ?_
                          refine kx_aload_n 148 F 0 dX12_ahead_147 rfl rfl rfl ?_
                          refine kx_geti 151 F fl_X12_165 kd_163 rfl rfl (j := 15) rfl dX12_ahead_148 (v := (N_1440 163 15)) rfl rfl ?_
                          have h_1477 := Inv.g hI_N_1440 kd_163 rfl 15 (a := (-2147483648)) (b := 2147483647) rfl rfl
                          refine kx_imul 152 F (v := 10 * (N_1440 163 15)) dX12_ahead_151 (by omega) rfl ?_
                          refine kx_wrapi (fun w_1478 h_1479 _ => ?_)
                          refine kx_aload_n 153 F 0 dX12_ahead_152 rfl rfl rfl ?_
                          refine kx_aload_n 154 F 0 dX12_ahead_153 rfl rfl rfl ?_
                          refine kx_geti 157 F fl_X12_156 kd_163 rfl rfl (j := 14) rfl dX12_ahead_154 (v := (N_1440 163 14)) rfl rfl ?_
                          refine kx_Vi 160 (ci := 0) F (As := [vI (N_1440 163 14)]) (st := [vI w_1478, vI 100000, vR G 163]) vd_X12_159 (c_X12_byteAt G l N_1440 (N_1440 163 14) hI_N_1440 (by omega)) kd_163 rfl rfl rfl ⟨by decide, by decide⟩ rfl rfl (Nat.le_of_ble_eq_true rfl) dX12_ahead_157 rfl ?_
                          intro r_1480 N_1481 q_1482
                          obtain ⟨rfl, q_1482c⟩ := q_1482
                          have e_1483 : (N_1440 163 11) = (M 163 11) := by rw [Fr.e hF_N_1440 kd_163 _ rfl]
                          have e_1484 : (N_1440 163 11) = (M 163 11) := by rw [Fr.e hF_N_1440 kd_163 _ rfl]
                          have e_1485 : (N_1440 163 11) = (M 163 11) := by rw [Fr.e hF_N_1440 kd_163 _ rfl]
                          have e_1486 : (N_1440 163 11) = (M 163 11) := by rw [Fr.e hF_N_1440 kd_163 _ rfl]
                          rcases q_1482c with q_1482c | q_1482c
                          · exfalso; omega
                          · refine kx_iadd 161 F (v := w_1478 + r_1480) dX12_ahead_160 rfl rfl ?_
                            refine kx_wrapi (fun w_1487 h_1488 _ => ?_)
                            refine kx_bipush 163 F dX12_ahead_161 (by decide) rfl ?_
                            refine kx_isub 164 F (v := w_1487 - 48) dX12_ahead_163 rfl rfl ?_
                            refine kx_wrapi (fun w_1489 h_1490 _ => ?_)
                            refine kx_mmin 167 F dX12_ahead_164 (tt lm_1833 rfl) (tt lm_800 rfl) (tt lm_180 rfl) (tt lm_801 rfl) (by decide) (Nat.le_of_ble_eq_true rfl) (by omega) (by omega) rfl (fun w_1491 h_1492 => ?_)
                            refine kx_puti 170 F fw_X12_165 rfl kd_163 rfl rfl (j := 15) rfl dX12_ahead_167 rfl ?_
                            intro N_1493 hM_N_1493
                            have hI_N_1493 : Inv true N_1493 := Inv.u hI_N_1440 hM_N_1493 kd_163 (a := (-2147483648)) (b := 2147483647) rfl rfl rfl (by omega)
                            have hF_N_1493 : Fr f_c_X12_ahead M N_1493 := Fr.u hF_N_1440 hM_N_1493 kd_163 rfl
                            refine kx_aload_n 171 F 0 dX12_ahead_170 rfl rfl rfl ?_
                            refine kx_dup 172 F dX12_ahead_171 rfl rfl ?_
                            refine kx_geti 175 F fl_X12_156 kd_163 rfl rfl (j := 14) rfl dX12_ahead_172 (v := (N_1440 163 14)) (by rw [hM_N_1493, mu_i (by omega)]) rfl ?_
                            refine kx_iconst 176 F dX12_ahead_175 rfl ?_
                            refine kx_iadd 177 F (v := (N_1440 163 14) + 1) dX12_ahead_176 rfl rfl ?_
                            refine kx_puti 180 F fw_X12_156 rfl kd_163 rfl rfl (j := 14) rfl dX12_ahead_177 rfl ?_
                            intro N_1494 hM_N_1494
                            have hI_N_1494 : Inv true N_1494 := Inv.u hI_N_1493 hM_N_1494 kd_163 (a := 0) (b := 900) rfl rfl rfl (by omega)
                            have hF_N_1494 : Fr f_c_X12_ahead M N_1494 := Fr.u hF_N_1493 hM_N_1494 kd_163 rfl
                            refine kx_goto 128 F dX12_ahead_180 (by decide) ?_
                            have e_1495 : (N_1494 163 14) = (N_1440 163 14) + 1 := by rw [hM_N_1494, mu_s]
                            have e_1496 : (N_1494 163 14) = (N_1440 163 14) + 1 := by rw [hM_N_1494, mu_s]
                            have e_1497 : (N_1494 163 13) = (N_1440 163 13) := by rw [hM_N_1494, mu_i (by omega), hM_N_1493, mu_i (by omega)]
                            have h_1498 := Inv.g hI_N_1440 kd_163 rfl 13 (a := 0) (b := 900) rfl rfl
                            have e_1499 : (N_1494 163 13) = (N_1440 163 13) := by rw [hM_N_1494, mu_i (by omega), hM_N_1493, mu_i (by omega)]
                            exact ih_1443 _ (by omega) N_1494 hI_N_1494 hF_N_1494 (by omega) rfl
                        · refine kx_if_eq 142 F 183 dX12_ahead_139 (by decide) rfl (by omega) (fun h_1500 => ?_) (fun h_1500 => (by exfalso; omega))
                          refine kx_aload_n 184 F 0 dX12_ahead_183 rfl rfl rfl ?_
                          refine kx_aload_n 185 F 0 dX12_ahead_184 rfl rfl rfl ?_
                          refine kx_geti 188 F fl_X12_156 kd_163 rfl rfl (j := 14) rfl dX12_ahead_185 (v := (N_1440 163 14)) rfl rfl ?_
                          refine kx_aload_n 189 F 0 dX12_ahead_188 rfl rfl rfl ?_
                          refine kx_geti 192 F fl_X12_162 kd_163 rfl rfl (j := 13) rfl dX12_ahead_189 (v := (N_1440 163 13)) rfl rfl ?_
                          have h_1501 := Inv.g hI_N_1440 kd_163 rfl 13 (a := 0) (b := 900) rfl rfl
                          refine kx_isub 193 F (v := (N_1440 163 14) - (N_1440 163 13)) dX12_ahead_192 rfl rfl ?_
                          refine kx_iconst 194 F dX12_ahead_193 rfl ?_
                          refine kx_icmp_le 197 F 201 dX12_ahead_194 (by decide) rfl (by omega) (by decide) (fun h_1502 => ?_) (fun h_1502 => ?_)
                          · refine kx_iconst 202 F dX12_ahead_201 rfl ?_
                            refine kx_puti 205 F fw_X12_168 rfl kd_163 rfl rfl (j := 12) rfl dX12_ahead_202 rfl ?_
                            intro N_1503 hM_N_1503
                            have hI_N_1503 : Inv true N_1503 := Inv.u hI_N_1440 hM_N_1503 kd_163 (a := 0) (b := 4) rfl rfl rfl (by omega)
                            have hF_N_1503 : Fr f_c_X12_ahead M N_1503 := Fr.u hF_N_1440 hM_N_1503 kd_163 rfl
                            refine kx_goto 233 F dX12_ahead_205 (by decide) ?_
                            have e_1504 : (N_1503 163 12) = 3 := by rw [hM_N_1503, mu_s]
                            have e_1505 : (N_1503 163 14) = (N_1440 163 14) := by rw [hM_N_1503, mu_i (by omega)]
                            have e_1506 : (N_1503 163 12) = 3 := by rw [hM_N_1503, mu_s]
                            have e_1507 : (N_1503 163 12) = 3 := by rw [hM_N_1503, mu_s]
                            have e_1508 : (N_1503 163 14) = (N_1440 163 14) := by rw [hM_N_1503, mu_i (by omega)]
                            exact kx_vret F hQ ⟨hI_N_1503, hF_N_1503, (by omega)⟩ dX12_ahead_233
                          · refine kx_iconst 198 F dX12_ahead_197 rfl ?_
                            refine kx_goto 202 F dX12_ahead_198 (by decide) ?_
                            refine kx_puti 205 F fw_X12_168 rfl kd_163 rfl rfl (j := 12) rfl dX12_ahead_202 rfl ?_
                            intro N_1509 hM_N_1509
                            have hI_N_1509 : Inv true N_1509 := Inv.u hI_N_1440 hM_N_1509 kd_163 (a := 0) (b := 4) rfl rfl rfl (by omega)
                            have hF_N_1509 : Fr f_c_X12_ahead M N_1509 := Fr.u hF_N_1440 hM_N_1509 kd_163 rfl
                            refine kx_goto 233 F dX12_ahead_205 (by decide) ?_
                            have e_1510 : (N_1509 163 12) = 1 := by rw [hM_N_1509, mu_s]
                            have e_1511 : (N_1509 163 14) = (N_1440 163 14) := by rw [hM_N_1509, mu_i (by omega)]
                            have e_1512 : (N_1509 163 12) = 1 := by rw [hM_N_1509, mu_s]
                            have e_1513 : (N_1509 163 12) = 1 := by rw [hM_N_1509, mu_s]
                            have e_1514 : (N_1509 163 14) = (N_1440 163 14) := by rw [hM_N_1509, mu_i (by omega)]
                            exact kx_vret F hQ ⟨hI_N_1509, hF_N_1509, (by omega)⟩ dX12_ahead_233
                        · refine kx_if_eq 142 F 183 dX12_ahead_139 (by decide) rfl (by omega) (fun h_1515 => ?_) (fun h_1515 => (by exfalso; omega))
                          refine kx_aload_n 184 F 0 dX12_ahead_183 rfl rfl rfl ?_
                          refine kx_aload_n 185 F 0 dX12_ahead_184 rfl rfl rfl ?_
                          refine kx_geti 188 F fl_X12_156 kd_163 rfl rfl (j := 14) rfl dX12_ahead_185 (v := (N_1440 163 14)) rfl rfl ?_
                          refine kx_aload_n 189 F 0 dX12_ahead_188 rfl rfl rfl ?_
                          refine kx_geti 192 F fl_X12_162 kd_163 rfl rfl (j := 13) rfl dX12_ahead_189 (v := (N_1440 163 13)) rfl rfl ?_
                          have h_1516 := Inv.g hI_N_1440 kd_163 rfl 13 (a := 0) (b := 900) rfl rfl
                          refine kx_isub 193 F (v := (N_1440 163 14) - (N_1440 163 13)) dX12_ahead_192 rfl rfl ?_
                          refine kx_iconst 194 F dX12_ahead_193 rfl ?_
                          refine kx_icmp_le 197 F 201 dX12_ahead_194 (by decide) rfl (by omega) (by decide) (fun h_1517 => ?_) (fun h_1517 => ?_)
                          · refine kx_iconst 202 F dX12_ahead_201 rfl ?_
                            refine kx_puti 205 F fw_X12_168 rfl kd_163 rfl rfl (j := 12) rfl dX12_ahead_202 rfl ?_
                            intro N_1518 hM_N_1518
                            have hI_N_1518 : Inv true N_1518 := Inv.u hI_N_1440 hM_N_1518 kd_163 (a := 0) (b := 4) rfl rfl rfl (by omega)
                            have hF_N_1518 : Fr f_c_X12_ahead M N_1518 := Fr.u hF_N_1440 hM_N_1518 kd_163 rfl
                            refine kx_goto 233 F dX12_ahead_205 (by decide) ?_
                            have e_1519 : (N_1518 163 12) = 3 := by rw [hM_N_1518, mu_s]
                            have e_1520 : (N_1518 163 14) = (N_1440 163 14) := by rw [hM_N_1518, mu_i (by omega)]
                            have e_1521 : (N_1518 163 12) = 3 := by rw [hM_N_1518, mu_s]
                            have e_1522 : (N_1518 163 12) = 3 := by rw [hM_N_1518, mu_s]
                            have e_1523 : (N_1518 163 14) = (N_1440 163 14) := by rw [hM_N_1518, mu_i (by omega)]
                            exact kx_vret F hQ ⟨hI_N_1518, hF_N_1518, (by omega)⟩ dX12_ahead_233
                          · refine kx_iconst 198 F dX12_ahead_197 rfl ?_
                            refine kx_goto 202 F dX12_ahead_198 (by decide) ?_
                            refine kx_puti 205 F fw_X12_168 rfl kd_163 rfl rfl (j := 12) rfl dX12_ahead_202 rfl ?_
                            intro N_1524 hM_N_1524
                            have hI_N_1524 : Inv true N_1524 := Inv.u hI_N_1440 hM_N_1524 kd_163 (a := 0) (b := 4) rfl rfl rfl (by omega)
                            have hF_N_1524 : Fr f_c_X12_ahead M N_1524 := Fr.u hF_N_1440 hM_N_1524 kd_163 rfl
                            refine kx_goto 233 F dX12_ahead_205 (by decide) ?_
                            have e_1525 : (N_1524 163 12) = 1 := by rw [hM_N_1524, mu_s]
                            have e_1526 : (N_1524 163 14) = (N_1440 163 14) := by rw [hM_N_1524, mu_i (by omega)]
                            have e_1527 : (N_1524 163 12) = 1 := by rw [hM_N_1524, mu_s]
                            have e_1528 : (N_1524 163 12) = 1 := by rw [hM_N_1524, mu_s]
                            have e_1529 : (N_1524 163 14) = (N_1440 163 14) := by rw [hM_N_1524, mu_i (by omega)]
                            exact kx_vret F hQ ⟨hI_N_1524, hF_N_1524, (by omega)⟩ dX12_ahead_233
                    refine kx_drop 1 (lo' := [some (vR G 163), none]) rfl ?_
                    have e_1530 : (N_1359 163 14) = (N_776 163 14) + 1 := by rw [hM_N_1359, mu_s]
                    have e_1531 : (N_1359 163 14) = (N_776 163 14) + 1 := by rw [hM_N_1359, mu_s]
                    have e_1532 : (N_1359 163 13) = (N_776 163 14) := by rw [hM_N_1359, mu_i (by omega), hM_N_1358, mu_i (by omega), hM_N_1325, mu_i (by omega), hM_N_1199, mu_i (by omega), hM_N_1182, mu_s]
                    have e_1533 : (N_1359 163 13) = (N_776 163 14) := by rw [hM_N_1359, mu_i (by omega), hM_N_1358, mu_i (by omega), hM_N_1325, mu_i (by omega), hM_N_1199, mu_i (by omega), hM_N_1182, mu_s]
                    exact L_1441 _ N_1359 hI_N_1359 hF_N_1359 (by omega) rfl
                · exfalso; omega
                · exfalso; omega
            · refine kx_if_eq 123 F 208 dX12_ahead_120 (by decide) rfl (by omega) (fun h_1534 => ?_) (fun h_1534 => (by exfalso; omega))
              refine kx_aload_n 209 F 0 dX12_ahead_208 rfl rfl rfl ?_
              refine kx_dup 210 F dX12_ahead_209 rfl rfl ?_
              refine kx_geti 213 F fl_X12_156 kd_163 rfl rfl (j := 14) rfl dX12_ahead_210 (v := (N_776 163 14)) (by rw [hM_N_1199, mu_i (by omega), hM_N_1182, mu_i (by omega)]) rfl ?_
              refine kx_iconst 214 F dX12_ahead_213 rfl ?_
              refine kx_iadd 215 F (v := (N_776 163 14) + 1) dX12_ahead_214 rfl rfl ?_
              refine kx_puti 218 F fw_X12_156 rfl kd_163 rfl rfl (j := 14) rfl dX12_ahead_215 rfl ?_
              intro N_1535 hM_N_1535
              have hI_N_1535 : Inv true N_1535 := Inv.u hI_N_1199 hM_N_1535 kd_163 (a := 0) (b := 900) rfl rfl rfl (by omega)
              have hF_N_1535 : Fr f_c_X12_ahead M N_1535 := Fr.u hF_N_1199 hM_N_1535 kd_163 rfl
              refine kx_aload_n 219 F 0 dX12_ahead_218 rfl rfl rfl ?_
              refine kx_iload_n 220 F 1 dX12_ahead_219 rfl rfl rfl ?_
              refine kx_bipush 222 F dX12_ahead_220 (by decide) rfl ?_
              refine kx_icmp_ne 225 F 229 dX12_ahead_222 (by decide) rfl (by omega) (by decide) (fun h_1536 => ?_) (fun h_1536 => (by exfalso; omega))
              refine kx_iconst 230 F dX12_ahead_229 rfl ?_
              refine kx_puti 233 F fw_X12_168 rfl kd_163 rfl rfl (j := 12) rfl dX12_ahead_230 rfl ?_
              intro N_1537 hM_N_1537
              have hI_N_1537 : Inv true N_1537 := Inv.u hI_N_1535 hM_N_1537 kd_163 (a := 0) (b := 4) rfl rfl rfl (by omega)
              have hF_N_1537 : Fr f_c_X12_ahead M N_1537 := Fr.u hF_N_1535 hM_N_1537 kd_163 rfl
              have e_1538 : (N_1537 163 12) = 1 := by rw [hM_N_1537, mu_s]
              have e_1539 : (N_1537 163 14) = (N_776 163 14) + 1 := by rw [hM_N_1537, mu_i (by omega), hM_N_1535, mu_s]
              have e_1540 : (N_1537 163 12) = 1 := by rw [hM_N_1537, mu_s]
              have e_1541 : (N_1537 163 12) = 1 := by rw [hM_N_1537, mu_s]
              have e_1542 : (N_1537 163 14) = (N_776 163 14) + 1 := by rw [hM_N_1537, mu_i (by omega), hM_N_1535, mu_s]
              exact kx_vret F hQ ⟨hI_N_1537, hF_N_1537, (by omega)⟩ dX12_ahead_233
            · refine kx_if_eq 123 F 208 dX12_ahead_120 (by decide) rfl (by omega) (fun h_1543 => ?_) (fun h_1543 => (by exfalso; omega))
              refine kx_aload_n 209 F 0 dX12_ahead_208 rfl rfl rfl ?_
              refine kx_dup 210 F dX12_ahead_209 rfl rfl ?_
              refine kx_geti 213 F fl_X12_156 kd_163 rfl rfl (j := 14) rfl dX12_ahead_210 (v := (N_776 163 14)) (by rw [hM_N_1199, mu_i (by omega), hM_N_1182, mu_i (by omega)]) rfl ?_
              refine kx_iconst 214 F dX12_ahead_213 rfl ?_
              refine kx_iadd 215 F (v := (N_776 163 14) + 1) dX12_ahead_214 rfl rfl ?_
              refine kx_puti 218 F fw_X12_156 rfl kd_163 rfl rfl (j := 14) rfl dX12_ahead_215 rfl ?_
              intro N_1544 hM_N_1544
              have hI_N_1544 : Inv true N_1544 := Inv.u hI_N_1199 hM_N_1544 kd_163 (a := 0) (b := 900) rfl rfl rfl (by omega)
              have hF_N_1544 : Fr f_c_X12_ahead M N_1544 := Fr.u hF_N_1199 hM_N_1544 kd_163 rfl
              refine kx_aload_n 219 F 0 dX12_ahead_218 rfl rfl rfl ?_
              refine kx_iload_n 220 F 1 dX12_ahead_219 rfl rfl rfl ?_
              refine kx_bipush 222 F dX12_ahead_220 (by decide) rfl ?_
              refine kx_icmp_ne 225 F 229 dX12_ahead_222 (by decide) rfl (by omega) (by decide) (fun h_1545 => ?_) (fun h_1545 => ?_)
              · refine kx_iconst 230 F dX12_ahead_229 rfl ?_
                refine kx_puti 233 F fw_X12_168 rfl kd_163 rfl rfl (j := 12) rfl dX12_ahead_230 rfl ?_
                intro N_1546 hM_N_1546
                have hI_N_1546 : Inv true N_1546 := Inv.u hI_N_1544 hM_N_1546 kd_163 (a := 0) (b := 4) rfl rfl rfl (by omega)
                have hF_N_1546 : Fr f_c_X12_ahead M N_1546 := Fr.u hF_N_1544 hM_N_1546 kd_163 rfl
                have e_1547 : (N_1546 163 12) = 1 := by rw [hM_N_1546, mu_s]
                have e_1548 : (N_1546 163 14) = (N_776 163 14) + 1 := by rw [hM_N_1546, mu_i (by omega), hM_N_1544, mu_s]
                have e_1549 : (N_1546 163 12) = 1 := by rw [hM_N_1546, mu_s]
                have e_1550 : (N_1546 163 12) = 1 := by rw [hM_N_1546, mu_s]
                have e_1551 : (N_1546 163 14) = (N_776 163 14) + 1 := by rw [hM_N_1546, mu_i (by omega), hM_N_1544, mu_s]
                exact kx_vret F hQ ⟨hI_N_1546, hF_N_1546, (by omega)⟩ dX12_ahead_233
              · refine kx_iconst 226 F dX12_ahead_225 rfl ?_
                refine kx_goto 230 F dX12_ahead_226 (by decide) ?_
                refine kx_puti 233 F fw_X12_168 rfl kd_163 rfl rfl (j := 12) rfl dX12_ahead_230 rfl ?_
                intro N_1552 hM_N_1552
                have hI_N_1552 : Inv true N_1552 := Inv.u hI_N_1544 hM_N_1552 kd_163 (a := 0) (b := 4) rfl rfl rfl (by omega)
                have hF_N_1552 : Fr f_c_X12_ahead M N_1552 := Fr.u hF_N_1544 hM_N_1552 kd_163 rfl
                have e_1553 : (N_1552 163 12) = 4 := by rw [hM_N_1552, mu_s]
                have e_1554 : (N_1552 163 14) = (N_776 163 14) + 1 := by rw [hM_N_1552, mu_i (by omega), hM_N_1544, mu_s]
                have e_1555 : (N_1552 163 12) = 4 := by rw [hM_N_1552, mu_s]
                have e_1556 : (N_1552 163 12) = 4 := by rw [hM_N_1552, mu_s]
                have e_1557 : (N_1552 163 14) = (N_776 163 14) + 1 := by rw [hM_N_1552, mu_i (by omega), hM_N_1544, mu_s]
                exact kx_vret F hQ ⟨hI_N_1552, hF_N_1552, (by omega)⟩ dX12_ahead_233
          · refine kx_if_eq 81 F 116 dX12_ahead_78 (by decide) rfl (by omega) (fun h_1558 => ?_) (fun h_1558 => (by exfalso; omega))
            refine kx_iload_n 117 F 1 dX12_ahead_116 rfl rfl rfl ?_
            refine kx_Si 120 F (As := [vI r_1183]) (st := []) sd_X12_174 (c_X12_isDigit G l N_1199 r_1183 hI_N_1199 (by omega)) ⟨by decide, by decide⟩ rfl rfl (Nat.le_of_ble_eq_true rfl) dX12_ahead_117 rfl ?_
            intro r_1559 N_1560 q_1561
            obtain ⟨rfl, q_1561c⟩ := q_1561
            rcases q_1561c with q_1561c | q_1561c | q_1561c
            · exfalso; omega
            · exfalso; omega
            · refine kx_if_eq 123 F 208 dX12_ahead_120 (by decide) rfl (by omega) (fun h_1562 => ?_) (fun h_1562 => (by exfalso; omega))
              refine kx_aload_n 209 F 0 dX12_ahead_208 rfl rfl rfl ?_
              refine kx_dup 210 F dX12_ahead_209 rfl rfl ?_
              refine kx_geti 213 F fl_X12_156 kd_163 rfl rfl (j := 14) rfl dX12_ahead_210 (v := (N_776 163 14)) (by rw [hM_N_1199, mu_i (by omega), hM_N_1182, mu_i (by omega)]) rfl ?_
              refine kx_iconst 214 F dX12_ahead_213 rfl ?_
              refine kx_iadd 215 F (v := (N_776 163 14) + 1) dX12_ahead_214 rfl rfl ?_
              refine kx_puti 218 F fw_X12_156 rfl kd_163 rfl rfl (j := 14) rfl dX12_ahead_215 rfl ?_
              intro N_1563 hM_N_1563
              have hI_N_1563 : Inv true N_1563 := Inv.u hI_N_1199 hM_N_1563 kd_163 (a := 0) (b := 900) rfl rfl rfl (by omega)
              have hF_N_1563 : Fr f_c_X12_ahead M N_1563 := Fr.u hF_N_1199 hM_N_1563 kd_163 rfl
              refine kx_aload_n 219 F 0 dX12_ahead_218 rfl rfl rfl ?_
              refine kx_iload_n 220 F 1 dX12_ahead_219 rfl rfl rfl ?_
              refine kx_bipush 222 F dX12_ahead_220 (by decide) rfl ?_
              refine kx_icmp_ne 225 F 229 dX12_ahead_222 (by decide) rfl (by omega) (by decide) (fun h_1564 => ?_) (fun h_1564 => (by exfalso; omega))
              refine kx_iconst 230 F dX12_ahead_229 rfl ?_
              refine kx_puti 233 F fw_X12_168 rfl kd_163 rfl rfl (j := 12) rfl dX12_ahead_230 rfl ?_
              intro N_1565 hM_N_1565
              have hI_N_1565 : Inv true N_1565 := Inv.u hI_N_1563 hM_N_1565 kd_163 (a := 0) (b := 4) rfl rfl rfl (by omega)
              have hF_N_1565 : Fr f_c_X12_ahead M N_1565 := Fr.u hF_N_1563 hM_N_1565 kd_163 rfl
              have e_1566 : (N_1565 163 12) = 1 := by rw [hM_N_1565, mu_s]
              have e_1567 : (N_1565 163 14) = (N_776 163 14) + 1 := by rw [hM_N_1565, mu_i (by omega), hM_N_1563, mu_s]
              have e_1568 : (N_1565 163 12) = 1 := by rw [hM_N_1565, mu_s]
              have e_1569 : (N_1565 163 12) = 1 := by rw [hM_N_1565, mu_s]
              have e_1570 : (N_1565 163 14) = (N_776 163 14) + 1 := by rw [hM_N_1565, mu_i (by omega), hM_N_1563, mu_s]
              exact kx_vret F hQ ⟨hI_N_1565, hF_N_1565, (by omega)⟩ dX12_ahead_233
      · exfalso; omega
    · refine kx_bipush 10 F dX12_ahead_8 (by decide) rfl ?_
      have J_1951 : (N_776 163 14) ≤ 899 → KJ true G X N_776 26 [some (vR G 163), none] [] := by
        intro h_1952
        refine kx_aload_n 27 F 0 dX12_ahead_26 rfl rfl rfl ?_
        refine kx_dup 28 F dX12_ahead_27 rfl rfl ?_
        refine kx_geti 31 F fl_X12_156 kd_163 rfl rfl (j := 14) rfl dX12_ahead_28 (v := (N_776 163 14)) rfl rfl ?_
        refine kx_iconst 32 F dX12_ahead_31 rfl ?_
        refine kx_iadd 33 F (v := (N_776 163 14) + 1) dX12_ahead_32 rfl rfl ?_
        refine kx_puti 36 F fw_X12_156 rfl kd_163 rfl rfl (j := 14) rfl dX12_ahead_33 rfl ?_
        intro N_1953 hM_N_1953
        have hI_N_1953 : Inv true N_1953 := Inv.u hI_N_776 hM_N_1953 kd_163 (a := 0) (b := 900) rfl rfl rfl (by omega)
        have hF_N_1953 : Fr f_c_X12_ahead M N_1953 := Fr.u hF_N_776 hM_N_1953 kd_163 rfl
        refine kx_goto 0 F dX12_ahead_36 (by decide) ?_
        have e_1954 : (N_1953 163 14) = (N_776 163 14) + 1 := by rw [hM_N_1953, mu_s]
        have e_1955 : (N_1953 163 14) = (N_776 163 14) + 1 := by rw [hM_N_1953, mu_s]
        exact ih_779 _ (by omega) N_1953 hI_N_1953 hF_N_1953 (by omega) rfl
      refine kx_icmp_eq 13 F 26 dX12_ahead_10 (by decide) rfl (by omega) (by decide) (fun h_1956 => ?_) (fun h_1956 => ?_)
      · exact J_1951 (by omega)
      · refine kx_aload_n 14 F 0 dX12_ahead_13 rfl rfl rfl ?_
        refine kx_aload_n 15 F 0 dX12_ahead_14 rfl rfl rfl ?_
        refine kx_geti 18 F fl_X12_156 kd_163 rfl rfl (j := 14) rfl dX12_ahead_15 (v := (N_776 163 14)) rfl rfl ?_
        refine kx_Vi 21 (ci := 0) F (As := [vI (N_776 163 14)]) (st := []) vd_X12_159 (c_X12_byteAt G l N_776 (N_776 163 14) hI_N_776 (by omega)) kd_163 rfl rfl rfl ⟨by decide, by decide⟩ rfl rfl (Nat.le_of_ble_eq_true rfl) dX12_ahead_18 rfl ?_
        intro r_1957 N_1958 q_1959
        obtain ⟨rfl, q_1959c⟩ := q_1959
        have e_1960 : (N_776 163 11) = (M 163 11) := by rw [Fr.e hF_N_776 kd_163 _ rfl]
        have e_1961 : (N_776 163 11) = (M 163 11) := by rw [Fr.e hF_N_776 kd_163 _ rfl]
        have e_1962 : (N_776 163 11) = (M 163 11) := by rw [Fr.e hF_N_776 kd_163 _ rfl]
        have e_1963 : (N_776 163 11) = (M 163 11) := by rw [Fr.e hF_N_776 kd_163 _ rfl]
        rcases q_1959c with q_1959c | q_1959c
        · exfalso; omega
        · refine kx_bipush 23 F dX12_ahead_21 (by decide) rfl ?_
          refine kx_icmp_ne 26 F 39 dX12_ahead_23 (by decide) rfl (by omega) (by decide) (fun h_1964 => ?_) (fun h_1964 => ?_)
          · refine kx_aload_n 40 F 0 dX12_ahead_39 rfl rfl rfl ?_
            refine kx_aload_n 41 F 0 dX12_ahead_40 rfl rfl rfl ?_
            refine kx_geti 44 F fl_X12_156 kd_163 rfl rfl (j := 14) rfl dX12_ahead_41 (v := (N_776 163 14)) rfl rfl ?_
            refine kx_puti 47 F fw_X12_162 rfl kd_163 rfl rfl (j := 13) rfl dX12_ahead_44 rfl ?_
            intro N_1965 hM_N_1965
            have hI_N_1965 : Inv true N_1965 := Inv.u hI_N_776 hM_N_1965 kd_163 (a := 0) (b := 900) rfl rfl rfl (by omega)
            have hF_N_1965 : Fr f_c_X12_ahead M N_1965 := Fr.u hF_N_776 hM_N_1965 kd_163 rfl
            refine kx_aload_n 48 F 0 dX12_ahead_47 rfl rfl rfl ?_
            refine kx_aload_n 49 F 0 dX12_ahead_48 rfl rfl rfl ?_
            refine kx_geti 52 F fl_X12_156 kd_163 rfl rfl (j := 14) rfl dX12_ahead_49 (v := (N_776 163 14)) (by rw [hM_N_1965, mu_i (by omega)]) rfl ?_
            refine kx_Vi 55 (ci := 0) F (As := [vI (N_776 163 14)]) (st := []) vd_X12_159 (c_X12_byteAt G l N_1965 (N_776 163 14) hI_N_1965 (by omega)) kd_163 rfl rfl rfl ⟨by decide, by decide⟩ rfl rfl (Nat.le_of_ble_eq_true rfl) dX12_ahead_52 rfl ?_
            intro r_1966 N_1967 q_1968
            obtain ⟨rfl, q_1968c⟩ := q_1968
            have e_1969 : (tbv N_1965 (N_776 163 14)) = (tbv M (N_776 163 14)) := tbv_fr hF_N_1965 rfl
            have e_1970 : (N_1965 163 11) = (M 163 11) := by rw [hM_N_1965, mu_i (by omega), Fr.e hF_N_776 kd_163 _ rfl]
            have e_1971 : (N_1965 163 11) = (M 163 11) := by rw [hM_N_1965, mu_i (by omega), Fr.e hF_N_776 kd_163 _ rfl]
            have e_1972 : (N_1965 163 11) = (M 163 11) := by rw [hM_N_1965, mu_i (by omega), Fr.e hF_N_776 kd_163 _ rfl]
            have e_1973 : (N_1965 163 11) = (M 163 11) := by rw [hM_N_1965, mu_i (by omega), Fr.e hF_N_776 kd_163 _ rfl]
            rcases q_1968c with q_1968c | q_1968c
            · refine kx_istore_n 56 F 1 (lo' := [some (vR G 163), some (vI r_1966)]) dX12_ahead_55 rfl (by decide) rfl rfl rfl ?_
              refine kx_aload_n 57 F 0 dX12_ahead_56 rfl rfl rfl ?_
              refine kx_iload_n 58 F 1 dX12_ahead_57 rfl rfl rfl ?_
              refine kx_puti 61 F fw_X12_165 rfl kd_163 rfl rfl (j := 15) rfl dX12_ahead_58 rfl ?_
              intro N_1974 hM_N_1974
              have hI_N_1974 : Inv true N_1974 := Inv.u hI_N_1965 hM_N_1974 kd_163 (a := (-2147483648)) (b := 2147483647) rfl rfl rfl (by omega)
              have hF_N_1974 : Fr f_c_X12_ahead M N_1974 := Fr.u hF_N_1965 hM_N_1974 kd_163 rfl
              refine kx_iload_n 62 F 1 dX12_ahead_61 rfl rfl rfl ?_
              refine kx_iconst 63 F dX12_ahead_62 rfl ?_
              refine kx_icmp_ne 66 F 74 dX12_ahead_63 (by decide) rfl (by omega) (by decide) (fun h_1975 => (by exfalso; omega)) (fun h_1975 => ?_)
              refine kx_aload_n 67 F 0 dX12_ahead_66 rfl rfl rfl ?_
              refine kx_iconst 68 F dX12_ahead_67 rfl ?_
              refine kx_puti 71 F fw_X12_168 rfl kd_163 rfl rfl (j := 12) rfl dX12_ahead_68 rfl ?_
              intro N_1976 hM_N_1976
              have hI_N_1976 : Inv true N_1976 := Inv.u hI_N_1974 hM_N_1976 kd_163 (a := 0) (b := 4) rfl rfl rfl (by omega)
              have hF_N_1976 : Fr f_c_X12_ahead M N_1976 := Fr.u hF_N_1974 hM_N_1976 kd_163 rfl
              refine kx_goto 233 F dX12_ahead_71 (by decide) ?_
              have e_1977 : (N_1976 163 12) = 0 := by rw [hM_N_1976, mu_s]
              have e_1978 : (N_1976 163 14) = (N_776 163 14) := by rw [hM_N_1976, mu_i (by omega), hM_N_1974, mu_i (by omega), hM_N_1965, mu_i (by omega)]
              have e_1979 : (N_1976 163 12) = 0 := by rw [hM_N_1976, mu_s]
              have e_1980 : (N_1976 163 12) = 0 := by rw [hM_N_1976, mu_s]
              have e_1981 : (N_1976 163 14) = (N_776 163 14) := by rw [hM_N_1976, mu_i (by omega), hM_N_1974, mu_i (by omega), hM_N_1965, mu_i (by omega)]
              exact kx_vret F hQ ⟨hI_N_1976, hF_N_1976, (by omega)⟩ dX12_ahead_233
            · refine kx_istore_n 56 F 1 (lo' := [some (vR G 163), some (vI r_1966)]) dX12_ahead_55 rfl (by decide) rfl rfl rfl ?_
              refine kx_aload_n 57 F 0 dX12_ahead_56 rfl rfl rfl ?_
              refine kx_iload_n 58 F 1 dX12_ahead_57 rfl rfl rfl ?_
              refine kx_puti 61 F fw_X12_165 rfl kd_163 rfl rfl (j := 15) rfl dX12_ahead_58 rfl ?_
              intro N_1982 hM_N_1982
              have hI_N_1982 : Inv true N_1982 := Inv.u hI_N_1965 hM_N_1982 kd_163 (a := (-2147483648)) (b := 2147483647) rfl rfl rfl (by omega)
              have hF_N_1982 : Fr f_c_X12_ahead M N_1982 := Fr.u hF_N_1965 hM_N_1982 kd_163 rfl
              refine kx_iload_n 62 F 1 dX12_ahead_61 rfl rfl rfl ?_
              refine kx_iconst 63 F dX12_ahead_62 rfl ?_
              refine kx_icmp_ne 66 F 74 dX12_ahead_63 (by decide) rfl (by omega) (by decide) (fun h_1983 => ?_) (fun h_1983 => (by exfalso; omega))
              refine kx_iload_n 75 F 1 dX12_ahead_74 rfl rfl rfl ?_
              refine kx_Si 78 F (As := [vI r_1966]) (st := []) sd_X12_171 (c_X12_isSmall G l N_1982 r_1966 hI_N_1982 (by omega)) ⟨by decide, by decide⟩ rfl rfl (Nat.le_of_ble_eq_true rfl) dX12_ahead_75 rfl ?_
              intro r_1984 N_1985 q_1986
              obtain ⟨rfl, q_1986c⟩ := q_1986
              rcases q_1986c with q_1986c | q_1986c | q_1986c
              · refine kx_if_eq 81 F 116 dX12_ahead_78 (by decide) rfl (by omega) (fun h_1987 => (by exfalso; omega)) (fun h_1987 => ?_)
                refine kx_aload_n 82 F 0 dX12_ahead_81 rfl rfl rfl ?_
                refine kx_aload_n 83 F 0 dX12_ahead_82 rfl rfl rfl ?_
                refine kx_geti 86 F fl_X12_156 kd_163 rfl rfl (j := 14) rfl dX12_ahead_83 (v := (N_776 163 14)) (by rw [hM_N_1982, mu_i (by omega), hM_N_1965, mu_i (by omega)]) rfl ?_
                refine kx_Vi 89 (ci := 0) F (As := [vI (N_776 163 14)]) (st := []) vd_X12_159 (c_X12_byteAt G l N_1982 (N_776 163 14) hI_N_1982 (by omega)) kd_163 rfl rfl rfl ⟨by decide, by decide⟩ rfl rfl (Nat.le_of_ble_eq_true rfl) dX12_ahead_86 rfl ?_
                intro r_1988 N_1989 q_1990
                obtain ⟨rfl, q_1990c⟩ := q_1990
                have e_1991 : (tbv N_1982 (N_776 163 14)) = (tbv M (N_776 163 14)) := tbv_fr hF_N_1982 rfl
                have e_1992 : (N_1982 163 11) = (M 163 11) := by rw [hM_N_1982, mu_i (by omega), hM_N_1965, mu_i (by omega), Fr.e hF_N_776 kd_163 _ rfl]
                have e_1993 : (N_1982 163 11) = (M 163 11) := by rw [hM_N_1982, mu_i (by omega), hM_N_1965, mu_i (by omega), Fr.e hF_N_776 kd_163 _ rfl]
                have e_1994 : (N_1982 163 11) = (M 163 11) := by rw [hM_N_1982, mu_i (by omega), hM_N_1965, mu_i (by omega), Fr.e hF_N_776 kd_163 _ rfl]
                have e_1995 : (N_1982 163 11) = (M 163 11) := by rw [hM_N_1982, mu_i (by omega), hM_N_1965, mu_i (by omega), Fr.e hF_N_776 kd_163 _ rfl]
                rcases q_1990c with q_1990c | q_1990c
                · refine kx_Si 92 F (As := [vI r_1988]) (st := []) sd_X12_171 (c_X12_isSmall G l N_1982 r_1988 hI_N_1982 (by omega)) ⟨by decide, by decide⟩ rfl rfl (Nat.le_of_ble_eq_true rfl) dX12_ahead_89 rfl ?_
                  intro r_1996 N_1997 q_1998
                  obtain ⟨rfl, q_1998c⟩ := q_1998
                  rcases q_1998c with q_1998c | q_1998c | q_1998c
                  · exfalso; omega
                  · refine kx_if_eq 95 F 108 dX12_ahead_92 (by decide) rfl (by omega) (fun h_1999 => ?_) (fun h_1999 => (by exfalso; omega))
                    refine kx_aload_n 109 F 0 dX12_ahead_108 rfl rfl rfl ?_
                    refine kx_iconst 110 F dX12_ahead_109 rfl ?_
                    refine kx_puti 113 F fw_X12_168 rfl kd_163 rfl rfl (j := 12) rfl dX12_ahead_110 rfl ?_
                    intro N_2000 hM_N_2000
                    have hI_N_2000 : Inv true N_2000 := Inv.u hI_N_1982 hM_N_2000 kd_163 (a := 0) (b := 4) rfl rfl rfl (by omega)
                    have hF_N_2000 : Fr f_c_X12_ahead M N_2000 := Fr.u hF_N_1982 hM_N_2000 kd_163 rfl
                    refine kx_goto 233 F dX12_ahead_113 (by decide) ?_
                    have e_2001 : (N_2000 163 12) = 2 := by rw [hM_N_2000, mu_s]
                    have e_2002 : (N_2000 163 14) = (N_776 163 14) := by rw [hM_N_2000, mu_i (by omega), hM_N_1982, mu_i (by omega), hM_N_1965, mu_i (by omega)]
                    have e_2003 : (N_2000 163 12) = 2 := by rw [hM_N_2000, mu_s]
                    have e_2004 : (N_2000 163 12) = 2 := by rw [hM_N_2000, mu_s]
                    have e_2005 : (N_2000 163 14) = (N_776 163 14) := by rw [hM_N_2000, mu_i (by omega), hM_N_1982, mu_i (by omega), hM_N_1965, mu_i (by omega)]
                    exact kx_vret F hQ ⟨hI_N_2000, hF_N_2000, (by omega)⟩ dX12_ahead_233
                  · exfalso; omega
                · refine kx_Si 92 F (As := [vI r_1988]) (st := []) sd_X12_171 (c_X12_isSmall G l N_1982 r_1988 hI_N_1982 (by omega)) ⟨by decide, by decide⟩ rfl rfl (Nat.le_of_ble_eq_true rfl) dX12_ahead_89 rfl ?_
                  intro r_2006 N_2007 q_2008
                  obtain ⟨rfl, q_2008c⟩ := q_2008
                  rcases q_2008c with q_2008c | q_2008c | q_2008c
                  · refine kx_if_eq 95 F 108 dX12_ahead_92 (by decide) rfl (by omega) (fun h_2009 => (by exfalso; omega)) (fun h_2009 => ?_)
                    refine kx_aload_n 96 F 0 dX12_ahead_95 rfl rfl rfl ?_
                    refine kx_dup 97 F dX12_ahead_96 rfl rfl ?_
                    refine kx_geti 100 F fl_X12_156 kd_163 rfl rfl (j := 14) rfl dX12_ahead_97 (v := (N_776 163 14)) (by rw [hM_N_1982, mu_i (by omega), hM_N_1965, mu_i (by omega)]) rfl ?_
                    refine kx_iconst 101 F dX12_ahead_100 rfl ?_
                    refine kx_iadd 102 F (v := (N_776 163 14) + 1) dX12_ahead_101 rfl rfl ?_
                    refine kx_puti 105 F fw_X12_156 rfl kd_163 rfl rfl (j := 14) rfl dX12_ahead_102 rfl ?_
                    intro N_2010 hM_N_2010
                    have hI_N_2010 : Inv true N_2010 := Inv.u hI_N_1982 hM_N_2010 kd_163 (a := 0) (b := 900) rfl rfl rfl (by omega)
                    have hF_N_2010 : Fr f_c_X12_ahead M N_2010 := Fr.u hF_N_1982 hM_N_2010 kd_163 rfl
                    refine kx_goto 81 F dX12_ahead_105 (by decide) ?_
                    have L_2051 : ∀ (n_2052 : Nat) (N_2050 : Mem), Inv true N_2050 → Fr f_c_X12_ahead M N_2050 → (N_2050 163 14) ≤ 900 ∧ (N_2050 163 14) ≥ (N_2050 163 13) + 1 ∧ (N_2050 163 13) ≥ (M 163 14) → (900 - N_2050 163 14).toNat = n_2052 → KJ true G X N_2050 81 [some (vR G 163), none] [] := by
                      intro n_2052
                      refine Nat.strongRecOn n_2052 ?_
                      intro n_2052 ih_2053  N_2050 hI_N_2050 hF_N_2050 h_2054 hm_2055
                      refine kx_aload_n 82 F 0 dX12_ahead_81 rfl rfl rfl ?_
                      refine kx_aload_n 83 F 0 dX12_ahead_82 rfl rfl rfl ?_
                      refine kx_geti 86 F fl_X12_156 kd_163 rfl rfl (j := 14) rfl dX12_ahead_83 (v := (N_2050 163 14)) rfl rfl ?_
                      have h_2056 := Inv.g hI_N_2050 kd_163 rfl 14 (a := 0) (b := 900) rfl rfl
                      refine kx_Vi 89 (ci := 0) F (As := [vI (N_2050 163 14)]) (st := []) vd_X12_159 (c_X12_byteAt G l N_2050 (N_2050 163 14) hI_N_2050 (by omega)) kd_163 rfl rfl rfl ⟨by decide, by decide⟩ rfl rfl (Nat.le_of_ble_eq_true rfl) dX12_ahead_86 rfl ?_
                      intro r_2057 N_2058 q_2059
                      obtain ⟨rfl, q_2059c⟩ := q_2059
                      have e_2060 : (tbv N_2050 (N_2050 163 14)) = (tbv M (N_2050 163 14)) := tbv_fr hF_N_2050 rfl
                      have e_2061 : (N_2050 163 11) = (M 163 11) := by rw [Fr.e hF_N_2050 kd_163 _ rfl]
                      have e_2062 : (N_2050 163 11) = (M 163 11) := by rw [Fr.e hF_N_2050 kd_163 _ rfl]
                      have e_2063 : (N_2050 163 11) = (M 163 11) := by rw [Fr.e hF_N_2050 kd_163 _ rfl]
                      have e_2064 : (N_2050 163 11) = (M 163 11) := by rw [Fr.e hF_N_2050 kd_163 _ rfl]
                      rcases q_2059c with q_2059c | q_2059c
                      · refine kx_Si 92 F (As := [vI r_2057]) (st := []) sd_X12_171 (c_X12_isSmall G l N_2050 r_2057 hI_N_2050 (by omega)) ⟨by decide, by decide⟩ rfl rfl (Nat.le_of_ble_eq_true rfl) dX12_ahead_89 rfl ?_
                        intro r_2065 N_2066 q_2067
                        obtain ⟨rfl, q_2067c⟩ := q_2067
                        rcases q_2067c with q_2067c | q_2067c | q_2067c
                        · exfalso; omega
                        · refine kx_if_eq 95 F 108 dX12_ahead_92 (by decide) rfl (by omega) (fun h_2068 => ?_) (fun h_2068 => (by exfalso; omega))
                          refine kx_aload_n 109 F 0 dX12_ahead_108 rfl rfl rfl ?_
                          refine kx_iconst 110 F dX12_ahead_109 rfl ?_
                          refine kx_puti 113 F fw_X12_168 rfl kd_163 rfl rfl (j := 12) rfl dX12_ahead_110 rfl ?_
                          intro N_2069 hM_N_2069
                          have hI_N_2069 : Inv true N_2069 := Inv.u hI_N_2050 hM_N_2069 kd_163 (a := 0) (b := 4) rfl rfl rfl (by omega)
                          have hF_N_2069 : Fr f_c_X12_ahead M N_2069 := Fr.u hF_N_2050 hM_N_2069 kd_163 rfl
                          refine kx_goto 233 F dX12_ahead_113 (by decide) ?_
                          have e_2070 : (N_2069 163 12) = 2 := by rw [hM_N_2069, mu_s]
                          have e_2071 : (N_2069 163 14) = (N_2050 163 14) := by rw [hM_N_2069, mu_i (by omega)]
                          have e_2072 : (N_2069 163 12) = 2 := by rw [hM_N_2069, mu_s]
                          have e_2073 : (N_2069 163 12) = 2 := by rw [hM_N_2069, mu_s]
                          have e_2074 : (N_2069 163 14) = (N_2050 163 14) := by rw [hM_N_2069, mu_i (by omega)]
                          exact kx_vret F hQ ⟨hI_N_2069, hF_N_2069, (by omega)⟩ dX12_ahead_233
                        · exfalso; omega
                      · refine kx_Si 92 F (As := [vI r_2057]) (st := []) sd_X12_171 (c_X12_isSmall G l N_2050 r_2057 hI_N_2050 (by omega)) ⟨by decide, by decide⟩ rfl rfl (Nat.le_of_ble_eq_true rfl) dX12_ahead_89 rfl ?_
                        intro r_2075 N_2076 q_2077
                        obtain ⟨rfl, q_2077c⟩ := q_2077
                        rcases q_2077c with q_2077c | q_2077c | q_2077c
                        · refine kx_if_eq 95 F 108 dX12_ahead_92 (by decide) rfl (by omega) (fun h_2078 => (by exfalso; omega)) (fun h_2078 => ?_)
                          refine kx_aload_n 96 F 0 dX12_ahead_95 rfl rfl rfl ?_
                          refine kx_dup 97 F dX12_ahead_96 rfl rfl ?_
                          refine kx_geti 100 F fl_X12_156 kd_163 rfl rfl (j := 14) rfl dX12_ahead_97 (v := (N_2050 163 14)) rfl rfl ?_
                          refine kx_iconst 101 F dX12_ahead_100 rfl ?_
                          refine kx_iadd 102 F (v := (N_2050 163 14) + 1) dX12_ahead_101 rfl rfl ?_
                          refine kx_puti 105 F fw_X12_156 rfl kd_163 rfl rfl (j := 14) rfl dX12_ahead_102 rfl ?_
                          intro N_2079 hM_N_2079
                          have hI_N_2079 : Inv true N_2079 := Inv.u hI_N_2050 hM_N_2079 kd_163 (a := 0) (b := 900) rfl rfl rfl (by omega)
                          have hF_N_2079 : Fr f_c_X12_ahead M N_2079 := Fr.u hF_N_2050 hM_N_2079 kd_163 rfl
                          refine kx_goto 81 F dX12_ahead_105 (by decide) ?_
                          have e_2080 : (N_2079 163 14) = (N_2050 163 14) + 1 := by rw [hM_N_2079, mu_s]
                          have e_2081 : (N_2079 163 14) = (N_2050 163 14) + 1 := by rw [hM_N_2079, mu_s]
                          have e_2082 : (N_2079 163 13) = (N_2050 163 13) := by rw [hM_N_2079, mu_i (by omega)]
                          have h_2083 := Inv.g hI_N_2050 kd_163 rfl 13 (a := 0) (b := 900) rfl rfl
                          have e_2084 : (N_2079 163 13) = (N_2050 163 13) := by rw [hM_N_2079, mu_i (by omega)]
                          exact ih_2053 _ (by omega) N_2079 hI_N_2079 hF_N_2079 (by omega) rfl
                        · refine kx_if_eq 95 F 108 dX12_ahead_92 (by decide) rfl (by omega) (fun h_2085 => ?_) (fun h_2085 => (by exfalso; omega))
                          refine kx_aload_n 109 F 0 dX12_ahead_108 rfl rfl rfl ?_
                          refine kx_iconst 110 F dX12_ahead_109 rfl ?_
                          refine kx_puti 113 F fw_X12_168 rfl kd_163 rfl rfl (j := 12) rfl dX12_ahead_110 rfl ?_
                          intro N_2086 hM_N_2086
                          have hI_N_2086 : Inv true N_2086 := Inv.u hI_N_2050 hM_N_2086 kd_163 (a := 0) (b := 4) rfl rfl rfl (by omega)
                          have hF_N_2086 : Fr f_c_X12_ahead M N_2086 := Fr.u hF_N_2050 hM_N_2086 kd_163 rfl
                          refine kx_goto 233 F dX12_ahead_113 (by decide) ?_
                          have e_2087 : (N_2086 163 12) = 2 := by rw [hM_N_2086, mu_s]
                          have e_2088 : (N_2086 163 14) = (N_2050 163 14) := by rw [hM_N_2086, mu_i (by omega)]
                          have e_2089 : (N_2086 163 12) = 2 := by rw [hM_N_2086, mu_s]
                          have e_2090 : (N_2086 163 12) = 2 := by rw [hM_N_2086, mu_s]
                          have e_2091 : (N_2086 163 14) = (N_2050 163 14) := by rw [hM_N_2086, mu_i (by omega)]
                          exact kx_vret F hQ ⟨hI_N_2086, hF_N_2086, (by omega)⟩ dX12_ahead_233
                        · refine kx_if_eq 95 F 108 dX12_ahead_92 (by decide) rfl (by omega) (fun h_2092 => ?_) (fun h_2092 => (by exfalso; omega))
                          refine kx_aload_n 109 F 0 dX12_ahead_108 rfl rfl rfl ?_
                          refine kx_iconst 110 F dX12_ahead_109 rfl ?_
                          refine kx_puti 113 F fw_X12_168 rfl kd_163 rfl rfl (j := 12) rfl dX12_ahead_110 rfl ?_
                          intro N_2093 hM_N_2093
                          have hI_N_2093 : Inv true N_2093 := Inv.u hI_N_2050 hM_N_2093 kd_163 (a := 0) (b := 4) rfl rfl rfl (by omega)
                          have hF_N_2093 : Fr f_c_X12_ahead M N_2093 := Fr.u hF_N_2050 hM_N_2093 kd_163 rfl
                          refine kx_goto 233 F dX12_ahead_113 (by decide) ?_
                          have e_2094 : (N_2093 163 12) = 2 := by rw [hM_N_2093, mu_s]
                          have e_2095 : (N_2093 163 14) = (N_2050 163 14) := by rw [hM_N_2093, mu_i (by omega)]
                          have e_2096 : (N_2093 163 12) = 2 := by rw [hM_N_2093, mu_s]
                          have e_2097 : (N_2093 163 12) = 2 := by rw [hM_N_2093, mu_s]
                          have e_2098 : (N_2093 163 14) = (N_2050 163 14) := by rw [hM_N_2093, mu_i (by omega)]
                          exact kx_vret F hQ ⟨hI_N_2093, hF_N_2093, (by omega)⟩ dX12_ahead_233
                    refine kx_drop 1 (lo' := [some (vR G 163), none]) rfl ?_
                    have e_2099 : (N_2010 163 14) = (N_776 163 14) + 1 := by rw [hM_N_2010, mu_s]
                    have e_2100 : (N_2010 163 14) = (N_776 163 14) + 1 := by rw [hM_N_2010, mu_s]
                    have e_2101 : (N_2010 163 13) = (N_776 163 14) := by rw [hM_N_2010, mu_i (by omega), hM_N_1982, mu_i (by omega), hM_N_1965, mu_s]
                    have e_2102 : (N_2010 163 13) = (N_776 163 14) := by rw [hM_N_2010, mu_i (by omega), hM_N_1982, mu_i (by omega), hM_N_1965, mu_s]
                    exact L_2051 _ N_2010 hI_N_2010 hF_N_2010 (by omega) rfl
                  · exfalso; omega
                  · exfalso; omega
              · refine kx_if_eq 81 F 116 dX12_ahead_78 (by decide) rfl (by omega) (fun h_2103 => ?_) (fun h_2103 => (by exfalso; omega))
                refine kx_iload_n 117 F 1 dX12_ahead_116 rfl rfl rfl ?_
                refine kx_Si 120 F (As := [vI r_1966]) (st := []) sd_X12_174 (c_X12_isDigit G l N_1982 r_1966 hI_N_1982 (by omega)) ⟨by decide, by decide⟩ rfl rfl (Nat.le_of_ble_eq_true rfl) dX12_ahead_117 rfl ?_
                intro r_2104 N_2105 q_2106
                obtain ⟨rfl, q_2106c⟩ := q_2106
                rcases q_2106c with q_2106c | q_2106c | q_2106c
                · refine kx_if_eq 123 F 208 dX12_ahead_120 (by decide) rfl (by omega) (fun h_2107 => (by exfalso; omega)) (fun h_2107 => ?_)
                  refine kx_aload_n 124 F 0 dX12_ahead_123 rfl rfl rfl ?_
                  refine kx_iconst 125 F dX12_ahead_124 rfl ?_
                  refine kx_puti 128 F fw_X12_165 rfl kd_163 rfl rfl (j := 15) rfl dX12_ahead_125 rfl ?_
                  intro N_2108 hM_N_2108
                  have hI_N_2108 : Inv true N_2108 := Inv.u hI_N_1982 hM_N_2108 kd_163 (a := (-2147483648)) (b := 2147483647) rfl rfl rfl (by omega)
                  have hF_N_2108 : Fr f_c_X12_ahead M N_2108 := Fr.u hF_N_1982 hM_N_2108 kd_163 rfl
                  refine kx_aload_n 129 F 0 dX12_ahead_128 rfl rfl rfl ?_
                  refine kx_aload_n 130 F 0 dX12_ahead_129 rfl rfl rfl ?_
                  refine kx_geti 133 F fl_X12_156 kd_163 rfl rfl (j := 14) rfl dX12_ahead_130 (v := (N_776 163 14)) (by rw [hM_N_2108, mu_i (by omega), hM_N_1982, mu_i (by omega), hM_N_1965, mu_i (by omega)]) rfl ?_
                  refine kx_Vi 136 (ci := 0) F (As := [vI (N_776 163 14)]) (st := []) vd_X12_159 (c_X12_byteAt G l N_2108 (N_776 163 14) hI_N_2108 (by omega)) kd_163 rfl rfl rfl ⟨by decide, by decide⟩ rfl rfl (Nat.le_of_ble_eq_true rfl) dX12_ahead_133 rfl ?_
                  intro r_2109 N_2110 q_2111
                  obtain ⟨rfl, q_2111c⟩ := q_2111
                  have e_2112 : (tbv N_2108 (N_776 163 14)) = (tbv M (N_776 163 14)) := tbv_fr hF_N_2108 rfl
                  have e_2113 : (N_2108 163 11) = (M 163 11) := by rw [hM_N_2108, mu_i (by omega), hM_N_1982, mu_i (by omega), hM_N_1965, mu_i (by omega), Fr.e hF_N_776 kd_163 _ rfl]
                  have e_2114 : (N_2108 163 11) = (M 163 11) := by rw [hM_N_2108, mu_i (by omega), hM_N_1982, mu_i (by omega), hM_N_1965, mu_i (by omega), Fr.e hF_N_776 kd_163 _ rfl]
                  have e_2115 : (N_2108 163 11) = (M 163 11) := by rw [hM_N_2108, mu_i (by omega), hM_N_1982, mu_i (by omega), hM_N_1965, mu_i (by omega), Fr.e hF_N_776 kd_163 _ rfl]
                  have e_2116 : (N_2108 163 11) = (M 163 11) := by rw [hM_N_2108, mu_i (by omega), hM_N_1982, mu_i (by omega), hM_N_1965, mu_i (by omega), Fr.e hF_N_776 kd_163 _ rfl]
                  rcases q_2111c with q_2111c | q_2111c
                  · refine kx_Si 139 F (As := [vI r_2109]) (st := []) sd_X12_174 (c_X12_isDigit G l N_2108 r_2109 hI_N_2108 (by omega)) ⟨by decide, by decide⟩ rfl rfl (Nat.le_of_ble_eq_true rfl) dX12_ahead_136 rfl ?_
                    intro r_2117 N_2118 q_2119
                    obtain ⟨rfl, q_2119c⟩ := q_2119
                    rcases q_2119c with q_2119c | q_2119c | q_2119c
                    · exfalso; omega
                    · refine kx_if_eq 142 F 183 dX12_ahead_139 (by decide) rfl (by omega) (fun h_2120 => ?_) (fun h_2120 => (by exfalso; omega))
                      refine kx_aload_n 184 F 0 dX12_ahead_183 rfl rfl rfl ?_
                      refine kx_aload_n 185 F 0 dX12_ahead_184 rfl rfl rfl ?_
                      refine kx_geti 188 F fl_X12_156 kd_163 rfl rfl (j := 14) rfl dX12_ahead_185 (v := (N_776 163 14)) (by rw [hM_N_2108, mu_i (by omega), hM_N_1982, mu_i (by omega), hM_N_1965, mu_i (by omega)]) rfl ?_
                      refine kx_aload_n 189 F 0 dX12_ahead_188 rfl rfl rfl ?_
                      refine kx_geti 192 F fl_X12_162 kd_163 rfl rfl (j := 13) rfl dX12_ahead_189 (v := (N_776 163 14)) (by rw [hM_N_2108, mu_i (by omega), hM_N_1982, mu_i (by omega), hM_N_1965, mu_s]) rfl ?_
                      refine kx_isub 193 F (v := 0) dX12_ahead_192 (by omega) rfl ?_
                      refine kx_iconst 194 F dX12_ahead_193 rfl ?_
                      refine kx_icmp_le 197 F 201 dX12_ahead_194 (by decide) rfl (by decide) (by decide) (fun h_2121 => ?_) (fun h_2121 => (by exfalso; omega))
                      refine kx_iconst 202 F dX12_ahead_201 rfl ?_
                      refine kx_puti 205 F fw_X12_168 rfl kd_163 rfl rfl (j := 12) rfl dX12_ahead_202 rfl ?_
                      intro N_2122 hM_N_2122
                      have hI_N_2122 : Inv true N_2122 := Inv.u hI_N_2108 hM_N_2122 kd_163 (a := 0) (b := 4) rfl rfl rfl (by omega)
                      have hF_N_2122 : Fr f_c_X12_ahead M N_2122 := Fr.u hF_N_2108 hM_N_2122 kd_163 rfl
                      refine kx_goto 233 F dX12_ahead_205 (by decide) ?_
                      have e_2123 : (N_2122 163 12) = 3 := by rw [hM_N_2122, mu_s]
                      have e_2124 : (N_2122 163 14) = (N_776 163 14) := by rw [hM_N_2122, mu_i (by omega), hM_N_2108, mu_i (by omega), hM_N_1982, mu_i (by omega), hM_N_1965, mu_i (by omega)]
                      have e_2125 : (N_2122 163 12) = 3 := by rw [hM_N_2122, mu_s]
                      have e_2126 : (N_2122 163 12) = 3 := by rw [hM_N_2122, mu_s]
                      have e_2127 : (N_2122 163 14) = (N_776 163 14) := by rw [hM_N_2122, mu_i (by omega), hM_N_2108, mu_i (by omega), hM_N_1982, mu_i (by omega), hM_N_1965, mu_i (by omega)]
                      exact kx_vret F hQ ⟨hI_N_2122, hF_N_2122, (by omega)⟩ dX12_ahead_233
                    · exfalso; omega
                  · refine kx_Si 139 F (As := [vI r_2109]) (st := []) sd_X12_174 (c_X12_isDigit G l N_2108 r_2109 hI_N_2108 (by omega)) ⟨by decide, by decide⟩ rfl rfl (Nat.le_of_ble_eq_true rfl) dX12_ahead_136 rfl ?_
                    intro r_2128 N_2129 q_2130
                    obtain ⟨rfl, q_2130c⟩ := q_2130
                    rcases q_2130c with q_2130c | q_2130c | q_2130c
                    · refine kx_if_eq 142 F 183 dX12_ahead_139 (by decide) rfl (by omega) (fun h_2131 => (by exfalso; omega)) (fun h_2131 => ?_)
                      refine kx_aload_n 143 F 0 dX12_ahead_142 rfl rfl rfl ?_
                      refine kx_ldc 145 (z := 100000) F dX12_ahead_143 ct_X12_177 rfl ?_
                      refine kx_bipush 147 F dX12_ahead_145 (by decide) rfl ?_
                      refine kx_aload_n 148 F 0 dX12_ahead_147 rfl rfl rfl ?_
                      refine kx_geti 151 F fl_X12_165 kd_163 rfl rfl (j := 15) rfl dX12_ahead_148 (v := 0) (by rw [hM_N_2108, mu_s]) rfl ?_
                      refine kx_imul 152 F (v := 0) dX12_ahead_151 (by omega) rfl ?_
                      refine kx_aload_n 153 F 0 dX12_ahead_152 rfl rfl rfl ?_
                      refine kx_aload_n 154 F 0 dX12_ahead_153 rfl rfl rfl ?_
                      refine kx_geti 157 F fl_X12_156 kd_163 rfl rfl (j := 14) rfl dX12_ahead_154 (v := (N_776 163 14)) (by rw [hM_N_2108, mu_i (by omega), hM_N_1982, mu_i (by omega), hM_N_1965, mu_i (by omega)]) rfl ?_
                      refine kx_Vi 160 (ci := 0) F (As := [vI (N_776 163 14)]) (st := [vI 0, vI 100000, vR G 163]) vd_X12_159 (c_X12_byteAt G l N_2108 (N_776 163 14) hI_N_2108 (by omega)) kd_163 rfl rfl rfl ⟨by decide, by decide⟩ rfl rfl (Nat.le_of_ble_eq_true rfl) dX12_ahead_157 rfl ?_
                      intro r_2132 N_2133 q_2134
                      obtain ⟨rfl, q_2134c⟩ := q_2134
                      have e_2135 : (N_2108 163 11) = (M 163 11) := by rw [hM_N_2108, mu_i (by omega), hM_N_1982, mu_i (by omega), hM_N_1965, mu_i (by omega), Fr.e hF_N_776 kd_163 _ rfl]
                      have e_2136 : (N_2108 163 11) = (M 163 11) := by rw [hM_N_2108, mu_i (by omega), hM_N_1982, mu_i (by omega), hM_N_1965, mu_i (by omega), Fr.e hF_N_776 kd_163 _ rfl]
                      have e_2137 : (N_2108 163 11) = (M 163 11) := by rw [hM_N_2108, mu_i (by omega), hM_N_1982, mu_i (by omega), hM_N_1965, mu_i (by omega), Fr.e hF_N_776 kd_163 _ rfl]
                      have e_2138 : (N_2108 163 11) = (M 163 11) := by rw [hM_N_2108, mu_i (by omega), hM_N_1982, mu_i (by omega), hM_N_1965, mu_i (by omega), Fr.e hF_N_776 kd_163 _ rfl]
                      rcases q_2134c with q_2134c | q_2134c
                      · exfalso; omega
                      · refine kx_iadd 161 F (v := r_2132) dX12_ahead_160 (by omega) rfl ?_
                        refine kx_bipush 163 F dX12_ahead_161 (by decide) rfl ?_
                        refine kx_isub 164 F (v := r_2132 - 48) dX12_ahead_163 rfl rfl ?_
                        refine kx_mmin 167 F dX12_ahead_164 (tt lm_1833 rfl) (tt lm_800 rfl) (tt lm_180 rfl) (tt lm_801 rfl) (by decide) (Nat.le_of_ble_eq_true rfl) (by omega) (by omega) rfl (fun w_2139 h_2140 => ?_)
                        refine kx_puti 170 F fw_X12_165 rfl kd_163 rfl rfl (j := 15) rfl dX12_ahead_167 rfl ?_
                        intro N_2141 hM_N_2141
                        have hI_N_2141 : Inv true N_2141 := Inv.u hI_N_2108 hM_N_2141 kd_163 (a := (-2147483648)) (b := 2147483647) rfl rfl rfl (by omega)
                        have hF_N_2141 : Fr f_c_X12_ahead M N_2141 := Fr.u hF_N_2108 hM_N_2141 kd_163 rfl
                        refine kx_aload_n 171 F 0 dX12_ahead_170 rfl rfl rfl ?_
                        refine kx_dup 172 F dX12_ahead_171 rfl rfl ?_
                        refine kx_geti 175 F fl_X12_156 kd_163 rfl rfl (j := 14) rfl dX12_ahead_172 (v := (N_776 163 14)) (by rw [hM_N_2141, mu_i (by omega), hM_N_2108, mu_i (by omega), hM_N_1982, mu_i (by omega), hM_N_1965, mu_i (by omega)]) rfl ?_
                        refine kx_iconst 176 F dX12_ahead_175 rfl ?_
                        refine kx_iadd 177 F (v := (N_776 163 14) + 1) dX12_ahead_176 rfl rfl ?_
                        refine kx_puti 180 F fw_X12_156 rfl kd_163 rfl rfl (j := 14) rfl dX12_ahead_177 rfl ?_
                        intro N_2142 hM_N_2142
                        have hI_N_2142 : Inv true N_2142 := Inv.u hI_N_2141 hM_N_2142 kd_163 (a := 0) (b := 900) rfl rfl rfl (by omega)
                        have hF_N_2142 : Fr f_c_X12_ahead M N_2142 := Fr.u hF_N_2141 hM_N_2142 kd_163 rfl
                        refine kx_goto 128 F dX12_ahead_180 (by decide) ?_
                        have L_2224 : ∀ (n_2225 : Nat) (N_2223 : Mem), Inv true N_2223 → Fr f_c_X12_ahead M N_2223 → (N_2223 163 14) ≤ 900 ∧ (N_2223 163 14) ≥ (N_2223 163 13) + 1 ∧ (N_2223 163 13) ≥ (M 163 14) → (900 - N_2223 163 14).toNat = n_2225 → KJ true G X N_2223 128 [some (vR G 163), none] [] := by
                          intro n_2225
                          refine Nat.strongRecOn n_2225 ?_
                          intro n_2225 ih_2226  N_2223 hI_N_2223 hF_N_2223 h_2227 hm_2228
                          refine kx_aload_n 129 F 0 dX12_ahead_128 rfl rfl rfl ?_
                          refine kx_aload_n 130 F 0 dX12_ahead_129 rfl rfl rfl ?_
                          refine kx_geti 133 F fl_X12_156 kd_163 rfl rfl (j := 14) rfl dX12_ahead_130 (v := (N_2223 163 14)) rfl rfl ?_
                          have h_2229 := Inv.g hI_N_2223 kd_163 rfl 14 (a := 0) (b := 900) rfl rfl
                          refine kx_Vi 136 (ci := 0) F (As := [vI (N_2223 163 14)]) (st := []) vd_X12_159 (c_X12_byteAt G l N_2223 (N_2223 163 14) hI_N_2223 (by omega)) kd_163 rfl rfl rfl ⟨by decide, by decide⟩ rfl rfl (Nat.le_of_ble_eq_true rfl) dX12_ahead_133 rfl ?_
                          intro r_2230 N_2231 q_2232
                          obtain ⟨rfl, q_2232c⟩ := q_2232
                          have e_2233 : (tbv N_2223 (N_2223 163 14)) = (tbv M (N_2223 163 14)) := tbv_fr hF_N_2223 rfl
                          have e_2234 : (N_2223 163 11) = (M 163 11) := by rw [Fr.e hF_N_2223 kd_163 _ rfl]
                          have e_2235 : (N_2223 163 11) = (M 163 11) := by rw [Fr.e hF_N_2223 kd_163 _ rfl]
                          have e_2236 : (N_2223 163 11) = (M 163 11) := by rw [Fr.e hF_N_2223 kd_163 _ rfl]
                          have e_2237 : (N_2223 163 11) = (M 163 11) := by rw [Fr.e hF_N_2223 kd_163 _ rfl]
                          rcases q_2232c with q_2232c | q_2232c
                          · refine kx_Si 139 F (As := [vI r_2230]) (st := []) sd_X12_174 (c_X12_isDigit G l N_2223 r_2230 hI_N_2223 (by omega)) ⟨by decide, by decide⟩ rfl rfl (Nat.le_of_ble_eq_true rfl) dX12_ahead_136 rfl ?_
                            intro r_2238 N_2239 q_2240
                            obtain ⟨rfl, q_2240c⟩ := q_2240
                            rcases q_2240c with q_2240c | q_2240c | q_2240c
                            · exfalso; omega
                            · refine kx_if_eq 142 F 183 dX12_ahead_139 (by decide) rfl (by omega) (fun h_2241 => ?_) (fun h_2241 => (by exfalso; omega))
                              refine kx_aload_n 184 F 0 dX12_ahead_183 rfl rfl rfl ?_
                              refine kx_aload_n 185 F 0 dX12_ahead_184 rfl rfl rfl ?_
                              refine kx_geti 188 F fl_X12_156 kd_163 rfl rfl (j := 14) rfl dX12_ahead_185 (v := (N_2223 163 14)) rfl rfl ?_
                              refine kx_aload_n 189 F 0 dX12_ahead_188 rfl rfl rfl ?_
                              refine kx_geti 192 F fl_X12_162 kd_163 rfl rfl (j := 13) rfl dX12_ahead_189 (v := (N_2223 163 13)) rfl rfl ?_
                              have h_2242 := Inv.g hI_N_2223 kd_163 rfl 13 (a := 0) (b := 900) rfl rfl
                              refine kx_isub 193 F (v := (N_2223 163 14) - (N_2223 163 13)) dX12_ahead_192 rfl rfl ?_
                              refine kx_iconst 194 F dX12_ahead_193 rfl ?_
                              refine kx_icmp_le 197 F 201 dX12_ahead_194 (by decide) rfl (by omega) (by decide) (fun h_2243 => ?_) (fun h_2243 => ?_)
                              · refine kx_iconst 202 F dX12_ahead_201 rfl ?_
                                refine kx_puti 205 F fw_X12_168 rfl kd_163 rfl rfl (j := 12) rfl dX12_ahead_202 rfl ?_
                                intro N_2244 hM_N_2244
                                have hI_N_2244 : Inv true N_2244 := Inv.u hI_N_2223 hM_N_2244 kd_163 (a := 0) (b := 4) rfl rfl rfl (by omega)
                                have hF_N_2244 : Fr f_c_X12_ahead M N_2244 := Fr.u hF_N_2223 hM_N_2244 kd_163 rfl
                                refine kx_goto 233 F dX12_ahead_205 (by decide) ?_
                                have e_2245 : (N_2244 163 12) = 3 := by rw [hM_N_2244, mu_s]
                                have e_2246 : (N_2244 163 14) = (N_2223 163 14) := by rw [hM_N_2244, mu_i (by omega)]
                                have e_2247 : (N_2244 163 12) = 3 := by rw [hM_N_2244, mu_s]
                                have e_2248 : (N_2244 163 12) = 3 := by rw [hM_N_2244, mu_s]
                                have e_2249 : (N_2244 163 14) = (N_2223 163 14) := by rw [hM_N_2244, mu_i (by omega)]
                                exact kx_vret F hQ ⟨hI_N_2244, hF_N_2244, (by omega)⟩ dX12_ahead_233
                              · refine kx_iconst 198 F dX12_ahead_197 rfl ?_
                                refine kx_goto 202 F dX12_ahead_198 (by decide) ?_
                                refine kx_puti 205 F fw_X12_168 rfl kd_163 rfl rfl (j := 12) rfl dX12_ahead_202 rfl ?_
                                intro N_2250 hM_N_2250
                                have hI_N_2250 : Inv true N_2250 := Inv.u hI_N_2223 hM_N_2250 kd_163 (a := 0) (b := 4) rfl rfl rfl (by omega)
                                have hF_N_2250 : Fr f_c_X12_ahead M N_2250 := Fr.u hF_N_2223 hM_N_2250 kd_163 rfl
                                refine kx_goto 233 F dX12_ahead_205 (by decide) ?_
                                have e_2251 : (N_2250 163 12) = 1 := by rw [hM_N_2250, mu_s]
                                have e_2252 : (N_2250 163 14) = (N_2223 163 14) := by rw [hM_N_2250, mu_i (by omega)]
                                have e_2253 : (N_2250 163 12) = 1 := by rw [hM_N_2250, mu_s]
                                have e_2254 : (N_2250 163 12) = 1 := by rw [hM_N_2250, mu_s]
                                have e_2255 : (N_2250 163 14) = (N_2223 163 14) := by rw [hM_N_2250, mu_i (by omega)]
                                exact kx_vret F hQ ⟨hI_N_2250, hF_N_2250, (by omega)⟩ dX12_ahead_233
                            · exfalso; omega
                          · refine kx_Si 139 F (As := [vI r_2230]) (st := []) sd_X12_174 (c_X12_isDigit G l N_2223 r_2230 hI_N_2223 (by omega)) ⟨by decide, by decide⟩ rfl rfl (Nat.le_of_ble_eq_true rfl) dX12_ahead_136 rfl ?_
                            intro r_2256 N_2257 q_2258
                            obtain ⟨rfl, q_2258c⟩ := q_2258
                            rcases q_2258c with q_2258c | q_2258c | q_2258c
                            · refine kx_if_eq 142 F 183 dX12_ahead_139 (by decide) rfl (by omega) (fun h_2259 => (by exfalso; omega)) (fun h_2259 => ?_)
                              refine kx_aload_n 143 F 0 dX12_ahead_142 rfl rfl rfl ?_
                              refine kx_ldc 145 (z := 100000) F dX12_ahead_143 ct_X12_177 rfl ?_
                              refine kx_bipush 147 F dX12_ahead_145 (by decide) rfl ?_
                              refine kx_aload_n 148 F 0 dX12_ahead_147 rfl rfl rfl ?_
                              refine kx_geti 151 F fl_X12_165 kd_163 rfl rfl (j := 15) rfl dX12_ahead_148 (v := (N_2223 163 15)) rfl rfl ?_
                              have h_2260 := Inv.g hI_N_2223 kd_163 rfl 15 (a := (-2147483648)) (b := 2147483647) rfl rfl
                              refine kx_imul 152 F (v := 10 * (N_2223 163 15)) dX12_ahead_151 (by omega) rfl ?_
                              refine kx_wrapi (fun w_2261 h_2262 _ => ?_)
                              refine kx_aload_n 153 F 0 dX12_ahead_152 rfl rfl rfl ?_
                              refine kx_aload_n 154 F 0 dX12_ahead_153 rfl rfl rfl ?_
                              refine kx_geti 157 F fl_X12_156 kd_163 rfl rfl (j := 14) rfl dX12_ahead_154 (v := (N_2223 163 14)) rfl rfl ?_
                              refine kx_Vi 160 (ci := 0) F (As := [vI (N_2223 163 14)]) (st := [vI w_2261, vI 100000, vR G 163]) vd_X12_159 (c_X12_byteAt G l N_2223 (N_2223 163 14) hI_N_2223 (by omega)) kd_163 rfl rfl rfl ⟨by decide, by decide⟩ rfl rfl (Nat.le_of_ble_eq_true rfl) dX12_ahead_157 rfl ?_
                              intro r_2263 N_2264 q_2265
                              obtain ⟨rfl, q_2265c⟩ := q_2265
                              have e_2266 : (N_2223 163 11) = (M 163 11) := by rw [Fr.e hF_N_2223 kd_163 _ rfl]
                              have e_2267 : (N_2223 163 11) = (M 163 11) := by rw [Fr.e hF_N_2223 kd_163 _ rfl]
                              have e_2268 : (N_2223 163 11) = (M 163 11) := by rw [Fr.e hF_N_2223 kd_163 _ rfl]
                              have e_2269 : (N_2223 163 11) = (M 163 11) := by rw [Fr.e hF_N_2223 kd_163 _ rfl]
                              rcases q_2265c with q_2265c | q_2265c
                              · exfalso; omega
                              · refine kx_iadd 161 F (v := w_2261 + r_2263) dX12_ahead_160 rfl rfl ?_
                                refine kx_wrapi (fun w_2270 h_2271 _ => ?_)
                                refine kx_bipush 163 F dX12_ahead_161 (by decide) rfl ?_
                                refine kx_isub 164 F (v := w_2270 - 48) dX12_ahead_163 rfl rfl ?_
                                refine kx_wrapi (fun w_2272 h_2273 _ => ?_)
                                refine kx_mmin 167 F dX12_ahead_164 (tt lm_1833 rfl) (tt lm_800 rfl) (tt lm_180 rfl) (tt lm_801 rfl) (by decide) (Nat.le_of_ble_eq_true rfl) (by omega) (by omega) rfl (fun w_2274 h_2275 => ?_)
                                refine kx_puti 170 F fw_X12_165 rfl kd_163 rfl rfl (j := 15) rfl dX12_ahead_167 rfl ?_
                                intro N_2276 hM_N_2276
                                have hI_N_2276 : Inv true N_2276 := Inv.u hI_N_2223 hM_N_2276 kd_163 (a := (-2147483648)) (b := 2147483647) rfl rfl rfl (by omega)
                                have hF_N_2276 : Fr f_c_X12_ahead M N_2276 := Fr.u hF_N_2223 hM_N_2276 kd_163 rfl
                                refine kx_aload_n 171 F 0 dX12_ahead_170 rfl rfl rfl ?_
                                refine kx_dup 172 F dX12_ahead_171 rfl rfl ?_
                                refine kx_geti 175 F fl_X12_156 kd_163 rfl rfl (j := 14) rfl dX12_ahead_172 (v := (N_2223 163 14)) (by rw [hM_N_2276, mu_i (by omega)]) rfl ?_
                                refine kx_iconst 176 F dX12_ahead_175 rfl ?_
                                refine kx_iadd 177 F (v := (N_2223 163 14) + 1) dX12_ahead_176 rfl rfl ?_
                                refine kx_puti 180 F fw_X12_156 rfl kd_163 rfl rfl (j := 14) rfl dX12_ahead_177 rfl ?_
                                intro N_2277 hM_N_2277
                                have hI_N_2277 : Inv true N_2277 := Inv.u hI_N_2276 hM_N_2277 kd_163 (a := 0) (b := 900) rfl rfl rfl (by omega)
                                have hF_N_2277 : Fr f_c_X12_ahead M N_2277 := Fr.u hF_N_2276 hM_N_2277 kd_163 rfl
                                refine kx_goto 128 F dX12_ahead_180 (by decide) ?_
                                have e_2278 : (N_2277 163 14) = (N_2223 163 14) + 1 := by rw [hM_N_2277, mu_s]
                                have e_2279 : (N_2277 163 14) = (N_2223 163 14) + 1 := by rw [hM_N_2277, mu_s]
                                have e_2280 : (N_2277 163 13) = (N_2223 163 13) := by rw [hM_N_2277, mu_i (by omega), hM_N_2276, mu_i (by omega)]
                                have h_2281 := Inv.g hI_N_2223 kd_163 rfl 13 (a := 0) (b := 900) rfl rfl
                                have e_2282 : (N_2277 163 13) = (N_2223 163 13) := by rw [hM_N_2277, mu_i (by omega), hM_N_2276, mu_i (by omega)]
                                exact ih_2226 _ (by omega) N_2277 hI_N_2277 hF_N_2277 (by omega) rfl
                            · refine kx_if_eq 142 F 183 dX12_ahead_139 (by decide) rfl (by omega) (fun h_2283 => ?_) (fun h_2283 => (by exfalso; omega))
                              refine kx_aload_n 184 F 0 dX12_ahead_183 rfl rfl rfl ?_
                              refine kx_aload_n 185 F 0 dX12_ahead_184 rfl rfl rfl ?_
                              refine kx_geti 188 F fl_X12_156 kd_163 rfl rfl (j := 14) rfl dX12_ahead_185 (v := (N_2223 163 14)) rfl rfl ?_
                              refine kx_aload_n 189 F 0 dX12_ahead_188 rfl rfl rfl ?_
                              refine kx_geti 192 F fl_X12_162 kd_163 rfl rfl (j := 13) rfl dX12_ahead_189 (v := (N_2223 163 13)) rfl rfl ?_
                              have h_2284 := Inv.g hI_N_2223 kd_163 rfl 13 (a := 0) (b := 900) rfl rfl
                              refine kx_isub 193 F (v := (N_2223 163 14) - (N_2223 163 13)) dX12_ahead_192 rfl rfl ?_
                              refine kx_iconst 194 F dX12_ahead_193 rfl ?_
                              refine kx_icmp_le 197 F 201 dX12_ahead_194 (by decide) rfl (by omega) (by decide) (fun h_2285 => ?_) (fun h_2285 => ?_)
                              · refine kx_iconst 202 F dX12_ahead_201 rfl ?_
                                refine kx_puti 205 F fw_X12_168 rfl kd_163 rfl rfl (j := 12) rfl dX12_ahead_202 rfl ?_
                                intro N_2286 hM_N_2286
                                have hI_N_2286 : Inv true N_2286 := Inv.u hI_N_2223 hM_N_2286 kd_163 (a := 0) (b := 4) rfl rfl rfl (by omega)
                                have hF_N_2286 : Fr f_c_X12_ahead M N_2286 := Fr.u hF_N_2223 hM_N_2286 kd_163 rfl
                                refine kx_goto 233 F dX12_ahead_205 (by decide) ?_
                                have e_2287 : (N_2286 163 12) = 3 := by rw [hM_N_2286, mu_s]
                                have e_2288 : (N_2286 163 14) = (N_2223 163 14) := by rw [hM_N_2286, mu_i (by omega)]
                                have e_2289 : (N_2286 163 12) = 3 := by rw [hM_N_2286, mu_s]
                                have e_2290 : (N_2286 163 12) = 3 := by rw [hM_N_2286, mu_s]
                                have e_2291 : (N_2286 163 14) = (N_2223 163 14) := by rw [hM_N_2286, mu_i (by omega)]
                                exact kx_vret F hQ ⟨hI_N_2286, hF_N_2286, (by omega)⟩ dX12_ahead_233
                              · refine kx_iconst 198 F dX12_ahead_197 rfl ?_
                                refine kx_goto 202 F dX12_ahead_198 (by decide) ?_
                                refine kx_puti 205 F fw_X12_168 rfl kd_163 rfl rfl (j := 12) rfl dX12_ahead_202 rfl ?_
                                intro N_2292 hM_N_2292
                                have hI_N_2292 : Inv true N_2292 := Inv.u hI_N_2223 hM_N_2292 kd_163 (a := 0) (b := 4) rfl rfl rfl (by omega)
                                have hF_N_2292 : Fr f_c_X12_ahead M N_2292 := Fr.u hF_N_2223 hM_N_2292 kd_163 rfl
                                refine kx_goto 233 F dX12_ahead_205 (by decide) ?_
                                have e_2293 : (N_2292 163 12) = 1 := by rw [hM_N_2292, mu_s]
                                have e_2294 : (N_2292 163 14) = (N_2223 163 14) := by rw [hM_N_2292, mu_i (by omega)]
                                have e_2295 : (N_2292 163 12) = 1 := by rw [hM_N_2292, mu_s]
                                have e_2296 : (N_2292 163 12) = 1 := by rw [hM_N_2292, mu_s]
                                have e_2297 : (N_2292 163 14) = (N_2223 163 14) := by rw [hM_N_2292, mu_i (by omega)]
                                exact kx_vret F hQ ⟨hI_N_2292, hF_N_2292, (by omega)⟩ dX12_ahead_233
                            · refine kx_if_eq 142 F 183 dX12_ahead_139 (by decide) rfl (by omega) (fun h_2298 => ?_) (fun h_2298 => (by exfalso; omega))
                              refine kx_aload_n 184 F 0 dX12_ahead_183 rfl rfl rfl ?_
                              refine kx_aload_n 185 F 0 dX12_ahead_184 rfl rfl rfl ?_
                              refine kx_geti 188 F fl_X12_156 kd_163 rfl rfl (j := 14) rfl dX12_ahead_185 (v := (N_2223 163 14)) rfl rfl ?_
                              refine kx_aload_n 189 F 0 dX12_ahead_188 rfl rfl rfl ?_
                              refine kx_geti 192 F fl_X12_162 kd_163 rfl rfl (j := 13) rfl dX12_ahead_189 (v := (N_2223 163 13)) rfl rfl ?_
                              have h_2299 := Inv.g hI_N_2223 kd_163 rfl 13 (a := 0) (b := 900) rfl rfl
                              refine kx_isub 193 F (v := (N_2223 163 14) - (N_2223 163 13)) dX12_ahead_192 rfl rfl ?_
                              refine kx_iconst 194 F dX12_ahead_193 rfl ?_
                              refine kx_icmp_le 197 F 201 dX12_ahead_194 (by decide) rfl (by omega) (by decide) (fun h_2300 => ?_) (fun h_2300 => ?_)
                              · refine kx_iconst 202 F dX12_ahead_201 rfl ?_
                                refine kx_puti 205 F fw_X12_168 rfl kd_163 rfl rfl (j := 12) rfl dX12_ahead_202 rfl ?_
                                intro N_2301 hM_N_2301
                                have hI_N_2301 : Inv true N_2301 := Inv.u hI_N_2223 hM_N_2301 kd_163 (a := 0) (b := 4) rfl rfl rfl (by omega)
                                have hF_N_2301 : Fr f_c_X12_ahead M N_2301 := Fr.u hF_N_2223 hM_N_2301 kd_163 rfl
                                refine kx_goto 233 F dX12_ahead_205 (by decide) ?_
                                have e_2302 : (N_2301 163 12) = 3 := by rw [hM_N_2301, mu_s]
                                have e_2303 : (N_2301 163 14) = (N_2223 163 14) := by rw [hM_N_2301, mu_i (by omega)]
                                have e_2304 : (N_2301 163 12) = 3 := by rw [hM_N_2301, mu_s]
                                have e_2305 : (N_2301 163 12) = 3 := by rw [hM_N_2301, mu_s]
                                have e_2306 : (N_2301 163 14) = (N_2223 163 14) := by rw [hM_N_2301, mu_i (by omega)]
                                exact kx_vret F hQ ⟨hI_N_2301, hF_N_2301, (by omega)⟩ dX12_ahead_233
                              · refine kx_iconst 198 F dX12_ahead_197 rfl ?_
                                refine kx_goto 202 F dX12_ahead_198 (by decide) ?_
                                refine kx_puti 205 F fw_X12_168 rfl kd_163 rfl rfl (j := 12) rfl dX12_ahead_202 rfl ?_
                                intro N_2307 hM_N_2307
                                have hI_N_2307 : Inv true N_2307 := Inv.u hI_N_2223 hM_N_2307 kd_163 (a := 0) (b := 4) rfl rfl rfl (by omega)
                                have hF_N_2307 : Fr f_c_X12_ahead M N_2307 := Fr.u hF_N_2223 hM_N_2307 kd_163 rfl
                                refine kx_goto 233 F dX12_ahead_205 (by decide) ?_
                                have e_2308 : (N_2307 163 12) = 1 := by rw [hM_N_2307, mu_s]
                                have e_2309 : (N_2307 163 14) = (N_2223 163 14) := by rw [hM_N_2307, mu_i (by omega)]
                                have e_2310 : (N_2307 163 12) = 1 := by rw [hM_N_2307, mu_s]
                                have e_2311 : (N_2307 163 12) = 1 := by rw [hM_N_2307, mu_s]
                                have e_2312 : (N_2307 163 14) = (N_2223 163 14) := by rw [hM_N_2307, mu_i (by omega)]
                                exact kx_vret F hQ ⟨hI_N_2307, hF_N_2307, (by omega)⟩ dX12_ahead_233
                        refine kx_drop 1 (lo' := [some (vR G 163), none]) rfl ?_
                        have e_2313 : (N_2142 163 14) = (N_776 163 14) + 1 := by rw [hM_N_2142, mu_s]
                        have e_2314 : (N_2142 163 14) = (N_776 163 14) + 1 := by rw [hM_N_2142, mu_s]
                        have e_2315 : (N_2142 163 13) = (N_776 163 14) := by rw [hM_N_2142, mu_i (by omega), hM_N_2141, mu_i (by omega), hM_N_2108, mu_i (by omega), hM_N_1982, mu_i (by omega), hM_N_1965, mu_s]
                        have e_2316 : (N_2142 163 13) = (N_776 163 14) := by rw [hM_N_2142, mu_i (by omega), hM_N_2141, mu_i (by omega), hM_N_2108, mu_i (by omega), hM_N_1982, mu_i (by omega), hM_N_1965, mu_s]
                        exact L_2224 _ N_2142 hI_N_2142 hF_N_2142 (by omega) rfl
                    · exfalso; omega
                    · exfalso; omega
                · refine kx_if_eq 123 F 208 dX12_ahead_120 (by decide) rfl (by omega) (fun h_2317 => ?_) (fun h_2317 => (by exfalso; omega))
                  refine kx_aload_n 209 F 0 dX12_ahead_208 rfl rfl rfl ?_
                  refine kx_dup 210 F dX12_ahead_209 rfl rfl ?_
                  refine kx_geti 213 F fl_X12_156 kd_163 rfl rfl (j := 14) rfl dX12_ahead_210 (v := (N_776 163 14)) (by rw [hM_N_1982, mu_i (by omega), hM_N_1965, mu_i (by omega)]) rfl ?_
                  refine kx_iconst 214 F dX12_ahead_213 rfl ?_
                  refine kx_iadd 215 F (v := (N_776 163 14) + 1) dX12_ahead_214 rfl rfl ?_
                  refine kx_puti 218 F fw_X12_156 rfl kd_163 rfl rfl (j := 14) rfl dX12_ahead_215 rfl ?_
                  intro N_2318 hM_N_2318
                  have hI_N_2318 : Inv true N_2318 := Inv.u hI_N_1982 hM_N_2318 kd_163 (a := 0) (b := 900) rfl rfl rfl (by omega)
                  have hF_N_2318 : Fr f_c_X12_ahead M N_2318 := Fr.u hF_N_1982 hM_N_2318 kd_163 rfl
                  refine kx_aload_n 219 F 0 dX12_ahead_218 rfl rfl rfl ?_
                  refine kx_iload_n 220 F 1 dX12_ahead_219 rfl rfl rfl ?_
                  refine kx_bipush 222 F dX12_ahead_220 (by decide) rfl ?_
                  refine kx_icmp_ne 225 F 229 dX12_ahead_222 (by decide) rfl (by omega) (by decide) (fun h_2319 => ?_) (fun h_2319 => (by exfalso; omega))
                  refine kx_iconst 230 F dX12_ahead_229 rfl ?_
                  refine kx_puti 233 F fw_X12_168 rfl kd_163 rfl rfl (j := 12) rfl dX12_ahead_230 rfl ?_
                  intro N_2320 hM_N_2320
                  have hI_N_2320 : Inv true N_2320 := Inv.u hI_N_2318 hM_N_2320 kd_163 (a := 0) (b := 4) rfl rfl rfl (by omega)
                  have hF_N_2320 : Fr f_c_X12_ahead M N_2320 := Fr.u hF_N_2318 hM_N_2320 kd_163 rfl
                  have e_2321 : (N_2320 163 12) = 1 := by rw [hM_N_2320, mu_s]
                  have e_2322 : (N_2320 163 14) = (N_776 163 14) + 1 := by rw [hM_N_2320, mu_i (by omega), hM_N_2318, mu_s]
                  have e_2323 : (N_2320 163 12) = 1 := by rw [hM_N_2320, mu_s]
                  have e_2324 : (N_2320 163 12) = 1 := by rw [hM_N_2320, mu_s]
                  have e_2325 : (N_2320 163 14) = (N_776 163 14) + 1 := by rw [hM_N_2320, mu_i (by omega), hM_N_2318, mu_s]
                  exact kx_vret F hQ ⟨hI_N_2320, hF_N_2320, (by omega)⟩ dX12_ahead_233
                · refine kx_if_eq 123 F 208 dX12_ahead_120 (by decide) rfl (by omega) (fun h_2326 => ?_) (fun h_2326 => (by exfalso; omega))
                  refine kx_aload_n 209 F 0 dX12_ahead_208 rfl rfl rfl ?_
                  refine kx_dup 210 F dX12_ahead_209 rfl rfl ?_
                  refine kx_geti 213 F fl_X12_156 kd_163 rfl rfl (j := 14) rfl dX12_ahead_210 (v := (N_776 163 14)) (by rw [hM_N_1982, mu_i (by omega), hM_N_1965, mu_i (by omega)]) rfl ?_
                  refine kx_iconst 214 F dX12_ahead_213 rfl ?_
                  refine kx_iadd 215 F (v := (N_776 163 14) + 1) dX12_ahead_214 rfl rfl ?_
                  refine kx_puti 218 F fw_X12_156 rfl kd_163 rfl rfl (j := 14) rfl dX12_ahead_215 rfl ?_
                  intro N_2327 hM_N_2327
                  have hI_N_2327 : Inv true N_2327 := Inv.u hI_N_1982 hM_N_2327 kd_163 (a := 0) (b := 900) rfl rfl rfl (by omega)
                  have hF_N_2327 : Fr f_c_X12_ahead M N_2327 := Fr.u hF_N_1982 hM_N_2327 kd_163 rfl
                  refine kx_aload_n 219 F 0 dX12_ahead_218 rfl rfl rfl ?_
                  refine kx_iload_n 220 F 1 dX12_ahead_219 rfl rfl rfl ?_
                  refine kx_bipush 222 F dX12_ahead_220 (by decide) rfl ?_
                  refine kx_icmp_ne 225 F 229 dX12_ahead_222 (by decide) rfl (by omega) (by decide) (fun h_2328 => ?_) (fun h_2328 => ?_)
                  · refine kx_iconst 230 F dX12_ahead_229 rfl ?_
                    refine kx_puti 233 F fw_X12_168 rfl kd_163 rfl rfl (j := 12) rfl dX12_ahead_230 rfl ?_
                    intro N_2329 hM_N_2329
                    have hI_N_2329 : Inv true N_2329 := Inv.u hI_N_2327 hM_N_2329 kd_163 (a := 0) (b := 4) rfl rfl rfl (by omega)
                    have hF_N_2329 : Fr f_c_X12_ahead M N_2329 := Fr.u hF_N_2327 hM_N_2329 kd_163 rfl
                    have e_2330 : (N_2329 163 12) = 1 := by rw [hM_N_2329, mu_s]
                    have e_2331 : (N_2329 163 14) = (N_776 163 14) + 1 := by rw [hM_N_2329, mu_i (by omega), hM_N_2327, mu_s]
                    have e_2332 : (N_2329 163 12) = 1 := by rw [hM_N_2329, mu_s]
                    have e_2333 : (N_2329 163 12) = 1 := by rw [hM_N_2329, mu_s]
                    have e_2334 : (N_2329 163 14) = (N_776 163 14) + 1 := by rw [hM_N_2329, mu_i (by omega), hM_N_2327, mu_s]
                    exact kx_vret F hQ ⟨hI_N_2329, hF_N_2329, (by omega)⟩ dX12_ahead_233
                  · refine kx_iconst 226 F dX12_ahead_225 rfl ?_
                    refine kx_goto 230 F dX12_ahead_226 (by decide) ?_
                    refine kx_puti 233 F fw_X12_168 rfl kd_163 rfl rfl (j := 12) rfl dX12_ahead_230 rfl ?_
                    intro N_2335 hM_N_2335
                    have hI_N_2335 : Inv true N_2335 := Inv.u hI_N_2327 hM_N_2335 kd_163 (a := 0) (b := 4) rfl rfl rfl (by omega)
                    have hF_N_2335 : Fr f_c_X12_ahead M N_2335 := Fr.u hF_N_2327 hM_N_2335 kd_163 rfl
                    have e_2336 : (N_2335 163 12) = 4 := by rw [hM_N_2335, mu_s]
                    have e_2337 : (N_2335 163 14) = (N_776 163 14) + 1 := by rw [hM_N_2335, mu_i (by omega), hM_N_2327, mu_s]
                    have e_2338 : (N_2335 163 12) = 4 := by rw [hM_N_2335, mu_s]
                    have e_2339 : (N_2335 163 12) = 4 := by rw [hM_N_2335, mu_s]
                    have e_2340 : (N_2335 163 14) = (N_776 163 14) + 1 := by rw [hM_N_2335, mu_i (by omega), hM_N_2327, mu_s]
                    exact kx_vret F hQ ⟨hI_N_2335, hF_N_2335, (by omega)⟩ dX12_ahead_233
              · refine kx_if_eq 81 F 116 dX12_ahead_78 (by decide) rfl (by omega) (fun h_2341 => ?_) (fun h_2341 => (by exfalso; omega))
                refine kx_iload_n 117 F 1 dX12_ahead_116 rfl rfl rfl ?_
                refine kx_Si 120 F (As := [vI r_1966]) (st := []) sd_X12_174 (c_X12_isDigit G l N_1982 r_1966 hI_N_1982 (by omega)) ⟨by decide, by decide⟩ rfl rfl (Nat.le_of_ble_eq_true rfl) dX12_ahead_117 rfl ?_
                intro r_2342 N_2343 q_2344
                obtain ⟨rfl, q_2344c⟩ := q_2344
                rcases q_2344c with q_2344c | q_2344c | q_2344c
                · exfalso; omega
                · exfalso; omega
                · refine kx_if_eq 123 F 208 dX12_ahead_120 (by decide) rfl (by omega) (fun h_2345 => ?_) (fun h_2345 => (by exfalso; omega))
                  refine kx_aload_n 209 F 0 dX12_ahead_208 rfl rfl rfl ?_
                  refine kx_dup 210 F dX12_ahead_209 rfl rfl ?_
                  refine kx_geti 213 F fl_X12_156 kd_163 rfl rfl (j := 14) rfl dX12_ahead_210 (v := (N_776 163 14)) (by rw [hM_N_1982, mu_i (by omega), hM_N_1965, mu_i (by omega)]) rfl ?_
                  refine kx_iconst 214 F dX12_ahead_213 rfl ?_
                  refine kx_iadd 215 F (v := (N_776 163 14) + 1) dX12_ahead_214 rfl rfl ?_
                  refine kx_puti 218 F fw_X12_156 rfl kd_163 rfl rfl (j := 14) rfl dX12_ahead_215 rfl ?_
                  intro N_2346 hM_N_2346
                  have hI_N_2346 : Inv true N_2346 := Inv.u hI_N_1982 hM_N_2346 kd_163 (a := 0) (b := 900) rfl rfl rfl (by omega)
                  have hF_N_2346 : Fr f_c_X12_ahead M N_2346 := Fr.u hF_N_1982 hM_N_2346 kd_163 rfl
                  refine kx_aload_n 219 F 0 dX12_ahead_218 rfl rfl rfl ?_
                  refine kx_iload_n 220 F 1 dX12_ahead_219 rfl rfl rfl ?_
                  refine kx_bipush 222 F dX12_ahead_220 (by decide) rfl ?_
                  refine kx_icmp_ne 225 F 229 dX12_ahead_222 (by decide) rfl (by omega) (by decide) (fun h_2347 => ?_) (fun h_2347 => (by exfalso; omega))
                  refine kx_iconst 230 F dX12_ahead_229 rfl ?_
                  refine kx_puti 233 F fw_X12_168 rfl kd_163 rfl rfl (j := 12) rfl dX12_ahead_230 rfl ?_
                  intro N_2348 hM_N_2348
                  have hI_N_2348 : Inv true N_2348 := Inv.u hI_N_2346 hM_N_2348 kd_163 (a := 0) (b := 4) rfl rfl rfl (by omega)
                  have hF_N_2348 : Fr f_c_X12_ahead M N_2348 := Fr.u hF_N_2346 hM_N_2348 kd_163 rfl
                  have e_2349 : (N_2348 163 12) = 1 := by rw [hM_N_2348, mu_s]
                  have e_2350 : (N_2348 163 14) = (N_776 163 14) + 1 := by rw [hM_N_2348, mu_i (by omega), hM_N_2346, mu_s]
                  have e_2351 : (N_2348 163 12) = 1 := by rw [hM_N_2348, mu_s]
                  have e_2352 : (N_2348 163 12) = 1 := by rw [hM_N_2348, mu_s]
                  have e_2353 : (N_2348 163 14) = (N_776 163 14) + 1 := by rw [hM_N_2348, mu_i (by omega), hM_N_2346, mu_s]
                  exact kx_vret F hQ ⟨hI_N_2348, hF_N_2348, (by omega)⟩ dX12_ahead_233
          · exact J_1951 (by omega)
  exact L_777 _ M hI_M hF_M (by omega) rfl
