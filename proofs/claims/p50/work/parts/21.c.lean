theorem dX12_status_0 : decode cX12_status 0 = .ok (.aload_n 0, 1) := by decide +kernel
theorem dX12_status_1 : decode cX12_status 1 = .ok (.getfield 117, 3) := by decide +kernel
theorem dX12_status_4 : decode cX12_status 4 = .ok (.ireturn, 1) := by decide +kernel
set_option maxHeartbeats 4000000 in
set_option maxRecDepth 100000 in
theorem c_X12_status (G : KG) (l : Launch) (M : Mem) (c0 : Int) (hI_M : Inv true M) (hk_c0 : kd c0 = 64) : KC true G l yX12_status cX12_status 1 (some .int) (0, 0) [vR G c0] M (fun A => kQi true G A (fun (r : Int) (N : Mem) => M = N ∧ (r ≥ -2147483648 ∧ r ≤ 2147483647))) := by
  refine kx_met (lo := [some (vR G c0)]) (by decide) (Nat.le_of_ble_eq_true rfl) rfl ?_
  intro X F hQ
  refine kx_aload_n 1 F 0 dX12_status_0 rfl rfl rfl ?_
  refine kx_geti 4 F fl_X12_117 hk_c0 rfl rfl (j := 2) rfl dX12_status_1 (v := (M c0 2)) rfl rfl ?_
  have h_1 := Inv.g hI_M hk_c0 rfl 2 (a := (-2147483648)) (b := 2147483647) rfl rfl
  exact kx_iret F hQ ⟨rfl, (by omega)⟩ dX12_status_4
theorem dX12_top_0 : decode cX12_top 0 = .ok (.aload_n 0, 1) := by decide +kernel
theorem dX12_top_1 : decode cX12_top 1 = .ok (.getfield 120, 3) := by decide +kernel
theorem dX12_top_4 : decode cX12_top 4 = .ok (.lreturn, 1) := by decide +kernel
set_option maxHeartbeats 4000000 in
set_option maxRecDepth 100000 in
theorem c_X12_top (G : KG) (l : Launch) (M : Mem) (c0 : Int) (hI_M : Inv true M) (hk_c0 : kd c0 = 64) : KC true G l yX12_top cX12_top 1 (some .long) (0, 0) [vR G c0] M (fun A => kQl true G A (fun (r : Int) (N : Mem) => M = N ∧ (r ≥ -9223372036854775808 ∧ r ≤ 9223372036854775807))) := by
  refine kx_met (lo := [some (vR G c0)]) (by decide) (Nat.le_of_ble_eq_true rfl) rfl ?_
  intro X F hQ
  refine kx_aload_n 1 F 0 dX12_top_0 rfl rfl rfl ?_
  refine kx_getl 4 F fl_X12_120 hk_c0 rfl rfl (j := 3) rfl dX12_top_1 (v := (M c0 3)) rfl rfl ?_
  have h_1 := Inv.g hI_M hk_c0 rfl 3 (a := (-9223372036854775808)) (b := 9223372036854775807) rfl rfl
  exact kx_lret F hQ ⟨rfl, (by omega)⟩ dX12_top_4
theorem dX12_bottom_0 : decode cX12_bottom 0 = .ok (.aload_n 0, 1) := by decide +kernel
theorem dX12_bottom_1 : decode cX12_bottom 1 = .ok (.getfield 17, 3) := by decide +kernel
theorem dX12_bottom_4 : decode cX12_bottom 4 = .ok (.lreturn, 1) := by decide +kernel
set_option maxHeartbeats 4000000 in
set_option maxRecDepth 100000 in
theorem c_X12_bottom (G : KG) (l : Launch) (M : Mem) (c0 : Int) (hI_M : Inv true M) (hk_c0 : kd c0 = 64) : KC true G l yX12_bottom cX12_bottom 1 (some .long) (0, 0) [vR G c0] M (fun A => kQl true G A (fun (r : Int) (N : Mem) => M = N ∧ (r ≥ -9223372036854775808 ∧ r ≤ 9223372036854775807))) := by
  refine kx_met (lo := [some (vR G c0)]) (by decide) (Nat.le_of_ble_eq_true rfl) rfl ?_
  intro X F hQ
  refine kx_aload_n 1 F 0 dX12_bottom_0 rfl rfl rfl ?_
  refine kx_getl 4 F fl_X12_17 hk_c0 rfl rfl (j := 4) rfl dX12_bottom_1 (v := (M c0 4)) rfl rfl ?_
  have h_1 := Inv.g hI_M hk_c0 rfl 4 (a := (-9223372036854775808)) (b := 9223372036854775807) rfl rfl
  exact kx_lret F hQ ⟨rfl, (by omega)⟩ dX12_bottom_4
theorem dX12_is_0 : decode cX12_is 0 = .ok (.aload_n 0, 1) := by decide +kernel
theorem dX12_is_1 : decode cX12_is 1 = .ok (.iload_n 1, 1) := by decide +kernel
theorem dX12_is_2 : decode cX12_is 2 = .ok (.putfield 117, 3) := by decide +kernel
theorem dX12_is_5 : decode cX12_is 5 = .ok (.iload_n 1, 1) := by decide +kernel
theorem dX12_is_6 : decode cX12_is 6 = .ok (.ifCond .ne 7, 3) := by decide +kernel
theorem dX12_is_9 : decode cX12_is 9 = .ok (.iconst 1, 1) := by decide +kernel
theorem dX12_is_10 : decode cX12_is 10 = .ok (.goto 4, 3) := by decide +kernel
theorem dX12_is_13 : decode cX12_is 13 = .ok (.iconst 0, 1) := by decide +kernel
theorem dX12_is_14 : decode cX12_is 14 = .ok (.ireturn, 1) := by decide +kernel
abbrev f_c_X12_is : List (Nat × Int) := [(64, 2)]
set_option maxHeartbeats 4000000 in
set_option maxRecDepth 100000 in
theorem c_X12_is (G : KG) (l : Launch) (M : Mem) (c0 : Int) (a1 : Int) (hI_M : Inv true M) (hk_c0 : kd c0 = 64) (hpre : -2147483648 ≤ a1 ∧ a1 ≤ 2147483647) : KC true G l yX12_is cX12_is 2 (some .boolean) (0, 0) [vR G c0, vI a1] M (fun A => kQi true G A (fun (r : Int) (N : Mem) => Inv true N ∧ Fr f_c_X12_is M N ∧ ((a1 = 0 ∧ r = 1) ∨ (a1 ≠ 0 ∧ r = 0)))) := by
  refine kx_met (lo := [some (vR G c0), some (vI a1)]) (by decide) (Nat.le_of_ble_eq_true rfl) rfl ?_
  intro X F hQ
  have hF_M : Fr f_c_X12_is M M := Fr.rf _ _
  refine kx_aload_n 1 F 0 dX12_is_0 rfl rfl rfl ?_
  refine kx_iload_n 2 F 1 dX12_is_1 rfl rfl rfl ?_
  refine kx_puti 5 F fw_X12_117 rfl hk_c0 rfl rfl (j := 2) rfl dX12_is_2 rfl ?_
  intro N_1 hM_N_1
  have hI_N_1 : Inv true N_1 := Inv.u hI_M hM_N_1 hk_c0 (a := (-2147483648)) (b := 2147483647) rfl rfl rfl (by omega)
  have hF_N_1 : Fr f_c_X12_is M N_1 := Fr.u hF_M hM_N_1 hk_c0 rfl
  refine kx_iload_n 6 F 1 dX12_is_5 rfl rfl rfl ?_
  refine kx_if_ne 9 F 13 dX12_is_6 (by decide) rfl (by omega) (fun h_2 => ?_) (fun h_2 => ?_)
  · refine kx_iconst 14 F dX12_is_13 rfl ?_
    exact kx_zret F hQ (by omega) ⟨hI_N_1, hF_N_1, (by omega)⟩ dX12_is_14
  · refine kx_iconst 10 F dX12_is_9 rfl ?_
    refine kx_goto 14 F dX12_is_10 (by decide) ?_
    exact kx_zret F hQ (by omega) ⟨hI_N_1, hF_N_1, (by omega)⟩ dX12_is_14
theorem dX12_refuse_0 : decode cX12_refuse 0 = .ok (.aload_n 0, 1) := by decide +kernel
theorem dX12_refuse_1 : decode cX12_refuse 1 = .ok (.iload_n 1, 1) := by decide +kernel
theorem dX12_refuse_2 : decode cX12_refuse 2 = .ok (.putfield 117, 3) := by decide +kernel
theorem dX12_refuse_5 : decode cX12_refuse 5 = .ok (.iconst (-1), 1) := by decide +kernel
theorem dX12_refuse_6 : decode cX12_refuse 6 = .ok (.ireturn, 1) := by decide +kernel
abbrev f_c_X12_refuse : List (Nat × Int) := [(64, 2)]
set_option maxHeartbeats 4000000 in
set_option maxRecDepth 100000 in
theorem c_X12_refuse (G : KG) (l : Launch) (M : Mem) (c0 : Int) (a1 : Int) (hI_M : Inv true M) (hk_c0 : kd c0 = 64) (hpre : -2147483648 ≤ a1 ∧ a1 ≤ 2147483647) : KC true G l yX12_refuse cX12_refuse 2 (some .int) (0, 0) [vR G c0, vI a1] M (fun A => kQi true G A (fun (r : Int) (N : Mem) => Inv true N ∧ Fr f_c_X12_refuse M N ∧ (r = -1))) := by
  refine kx_met (lo := [some (vR G c0), some (vI a1)]) (by decide) (Nat.le_of_ble_eq_true rfl) rfl ?_
  intro X F hQ
  have hF_M : Fr f_c_X12_refuse M M := Fr.rf _ _
  refine kx_aload_n 1 F 0 dX12_refuse_0 rfl rfl rfl ?_
  refine kx_iload_n 2 F 1 dX12_refuse_1 rfl rfl rfl ?_
  refine kx_puti 5 F fw_X12_117 rfl hk_c0 rfl rfl (j := 2) rfl dX12_refuse_2 rfl ?_
  intro N_1 hM_N_1
  have hI_N_1 : Inv true N_1 := Inv.u hI_M hM_N_1 hk_c0 (a := (-2147483648)) (b := 2147483647) rfl rfl rfl (by omega)
  have hF_N_1 : Fr f_c_X12_refuse M N_1 := Fr.u hF_M hM_N_1 hk_c0 rfl
  refine kx_iconst 6 F dX12_refuse_5 rfl ?_
  exact kx_iret F hQ ⟨hI_N_1, hF_N_1, (by omega)⟩ dX12_refuse_6
theorem dX12_gives_0 : decode cX12_gives 0 = .ok (.aload_n 0, 1) := by decide +kernel
theorem dX12_gives_1 : decode cX12_gives 1 = .ok (.iconst 0, 1) := by decide +kernel
theorem dX12_gives_2 : decode cX12_gives 2 = .ok (.putfield 117, 3) := by decide +kernel
theorem dX12_gives_5 : decode cX12_gives 5 = .ok (.iload_n 1, 1) := by decide +kernel
theorem dX12_gives_6 : decode cX12_gives 6 = .ok (.ireturn, 1) := by decide +kernel
abbrev f_c_X12_gives : List (Nat × Int) := [(64, 2)]
set_option maxHeartbeats 4000000 in
set_option maxRecDepth 100000 in
theorem c_X12_gives (G : KG) (l : Launch) (M : Mem) (c0 : Int) (a1 : Int) (hI_M : Inv true M) (hk_c0 : kd c0 = 64) (hpre : -2147483648 ≤ a1 ∧ a1 ≤ 2147483647) : KC true G l yX12_gives cX12_gives 2 (some .int) (0, 0) [vR G c0, vI a1] M (fun A => kQi true G A (fun (r : Int) (N : Mem) => Inv true N ∧ Fr f_c_X12_gives M N ∧ (r = a1))) := by
  refine kx_met (lo := [some (vR G c0), some (vI a1)]) (by decide) (Nat.le_of_ble_eq_true rfl) rfl ?_
  intro X F hQ
  have hF_M : Fr f_c_X12_gives M M := Fr.rf _ _
  refine kx_aload_n 1 F 0 dX12_gives_0 rfl rfl rfl ?_
  refine kx_iconst 2 F dX12_gives_1 rfl ?_
  refine kx_puti 5 F fw_X12_117 rfl hk_c0 rfl rfl (j := 2) rfl dX12_gives_2 rfl ?_
  intro N_1 hM_N_1
  have hI_N_1 : Inv true N_1 := Inv.u hI_M hM_N_1 hk_c0 (a := (-2147483648)) (b := 2147483647) rfl rfl rfl (by omega)
  have hF_N_1 : Fr f_c_X12_gives M N_1 := Fr.u hF_M hM_N_1 hk_c0 rfl
  refine kx_iload_n 6 F 1 dX12_gives_5 rfl rfl rfl ?_
  exact kx_iret F hQ ⟨hI_N_1, hF_N_1, (by omega)⟩ dX12_gives_6
theorem dX12_orNone_0 : decode cX12_orNone 0 = .ok (.iload_n 1, 1) := by decide +kernel
theorem dX12_orNone_1 : decode cX12_orNone 1 = .ok (.iconst (-1), 1) := by decide +kernel
theorem dX12_orNone_2 : decode cX12_orNone 2 = .ok (.if_icmp .ne 10, 3) := by decide +kernel
theorem dX12_orNone_5 : decode cX12_orNone 5 = .ok (.aload_n 0, 1) := by decide +kernel
theorem dX12_orNone_6 : decode cX12_orNone 6 = .ok (.bipush 6, 2) := by decide +kernel
theorem dX12_orNone_8 : decode cX12_orNone 8 = .ok (.invokevirtual 123, 3) := by decide +kernel
theorem dX12_orNone_11 : decode cX12_orNone 11 = .ok (.ireturn, 1) := by decide +kernel
theorem dX12_orNone_12 : decode cX12_orNone 12 = .ok (.aload_n 0, 1) := by decide +kernel
theorem dX12_orNone_13 : decode cX12_orNone 13 = .ok (.iload_n 1, 1) := by decide +kernel
theorem dX12_orNone_14 : decode cX12_orNone 14 = .ok (.invokevirtual 127, 3) := by decide +kernel
theorem dX12_orNone_17 : decode cX12_orNone 17 = .ok (.ireturn, 1) := by decide +kernel
abbrev f_c_X12_orNone : List (Nat × Int) := [(64, 2)]
set_option maxHeartbeats 4000000 in
set_option maxRecDepth 100000 in
theorem c_X12_orNone (G : KG) (l : Launch) (M : Mem) (c0 : Int) (a1 : Int) (hI_M : Inv true M) (hk_c0 : kd c0 = 64) (hpre : -2147483648 ≤ a1 ∧ a1 ≤ 2147483647) : KC true G l yX12_orNone cX12_orNone 2 (some .int) (1, 21) [vR G c0, vI a1] M (fun A => kQi true G A (fun (r : Int) (N : Mem) => Inv true N ∧ Fr f_c_X12_orNone M N ∧ (r ≥ -2147483648 ∧ r ≤ 2147483647))) := by
  refine kx_met (lo := [some (vR G c0), some (vI a1)]) (by decide) (Nat.le_of_ble_eq_true rfl) rfl ?_
  intro X F hQ
  have hF_M : Fr f_c_X12_orNone M M := Fr.rf _ _
  refine kx_iload_n 1 F 1 dX12_orNone_0 rfl rfl rfl ?_
  refine kx_iconst 2 F dX12_orNone_1 rfl ?_
  refine kx_icmp_ne 5 F 12 dX12_orNone_2 (by decide) rfl (by omega) (by decide) (fun h_1 => ?_) (fun h_1 => ?_)
  · refine kx_aload_n 13 F 0 dX12_orNone_12 rfl rfl rfl ?_
    refine kx_iload_n 14 F 1 dX12_orNone_13 rfl rfl rfl ?_
    refine kx_Vi 17 (ci := 0) F (As := [vI a1]) (st := []) vd_X12_127 (c_X12_gives G l M c0 a1 hI_M hk_c0 (by omega)) hk_c0 rfl rfl rfl ⟨by decide, by decide⟩ rfl rfl (Nat.le_of_ble_eq_true rfl) dX12_orNone_14 rfl ?_
    intro r_2 N_3 q_4
    obtain ⟨hI_N_3, hG_N_3, q_4c⟩ := q_4
    have hF_N_3 : Fr f_c_X12_orNone M N_3 := Fr.c hF_M hG_N_3 rfl
    refine kx_topi (e' := a1) (by omega) ?_
    exact kx_iret F hQ ⟨hI_N_3, hF_N_3, (by omega)⟩ dX12_orNone_17
  · refine kx_aload_n 6 F 0 dX12_orNone_5 rfl rfl rfl ?_
    refine kx_bipush 8 F dX12_orNone_6 (by decide) rfl ?_
    refine kx_Vi 11 (ci := 0) F (As := [vI 6]) (st := []) vd_X12_123 (c_X12_refuse G l M c0 6 hI_M hk_c0 (by omega)) hk_c0 rfl rfl rfl ⟨by decide, by decide⟩ rfl rfl (Nat.le_of_ble_eq_true rfl) dX12_orNone_8 rfl ?_
    intro r_5 N_6 q_7
    obtain ⟨hI_N_6, hG_N_6, q_7c⟩ := q_7
    have hF_N_6 : Fr f_c_X12_orNone M N_6 := Fr.c hF_M hG_N_6 rfl
    subst q_7c
    exact kx_iret F hQ ⟨hI_N_6, hF_N_6, (by omega)⟩ dX12_orNone_11
theorem dX12_isTray_0 : decode cX12_isTray 0 = .ok (.iload_n 0, 1) := by decide +kernel
theorem dX12_isTray_1 : decode cX12_isTray 1 = .ok (.ifCond .lt 12, 3) := by decide +kernel
theorem dX12_isTray_4 : decode cX12_isTray 4 = .ok (.iload_n 0, 1) := by decide +kernel
theorem dX12_isTray_5 : decode cX12_isTray 5 = .ok (.iconst 4, 1) := by decide +kernel
theorem dX12_isTray_6 : decode cX12_isTray 6 = .ok (.if_icmp .ge 7, 3) := by decide +kernel
theorem dX12_isTray_9 : decode cX12_isTray 9 = .ok (.iconst 1, 1) := by decide +kernel
theorem dX12_isTray_10 : decode cX12_isTray 10 = .ok (.goto 4, 3) := by decide +kernel
theorem dX12_isTray_13 : decode cX12_isTray 13 = .ok (.iconst 0, 1) := by decide +kernel
theorem dX12_isTray_14 : decode cX12_isTray 14 = .ok (.ireturn, 1) := by decide +kernel
set_option maxHeartbeats 4000000 in
set_option maxRecDepth 100000 in
theorem c_X12_isTray (G : KG) (l : Launch) (M : Mem) (a0 : Int) (hI_M : Inv true M) (hpre : -2147483648 ≤ a0 ∧ a0 ≤ 2147483647) : KC true G l yX12_isTray cX12_isTray 1 (some .boolean) (0, 0) [vI a0] M (fun A => kQi true G A (fun (r : Int) (N : Mem) => M = N ∧ ((r = 1 ∧ 0 ≤ a0 ∧ a0 ≤ 3) ∨ (r = 0)))) := by
  refine kx_met (lo := [some (vI a0)]) (by decide) (Nat.le_of_ble_eq_true rfl) rfl ?_
  intro X F hQ
  refine kx_iload_n 1 F 0 dX12_isTray_0 rfl rfl rfl ?_
  refine kx_if_lt 4 F 13 dX12_isTray_1 (by decide) rfl (by omega) (fun h_1 => ?_) (fun h_1 => ?_)
  · refine kx_iconst 14 F dX12_isTray_13 rfl ?_
    exact kx_zret F hQ (by omega) ⟨rfl, (by omega)⟩ dX12_isTray_14
  · refine kx_iload_n 5 F 0 dX12_isTray_4 rfl rfl rfl ?_
    refine kx_iconst 6 F dX12_isTray_5 rfl ?_
    refine kx_icmp_ge 9 F 13 dX12_isTray_6 (by decide) rfl (by omega) (by decide) (fun h_2 => ?_) (fun h_2 => ?_)
    · refine kx_iconst 14 F dX12_isTray_13 rfl ?_
      exact kx_zret F hQ (by omega) ⟨rfl, (by omega)⟩ dX12_isTray_14
    · refine kx_iconst 10 F dX12_isTray_9 rfl ?_
      refine kx_goto 14 F dX12_isTray_10 (by decide) ?_
      exact kx_zret F hQ (by omega) ⟨rfl, (by omega)⟩ dX12_isTray_14
theorem dX12_cut_0 : decode cX12_cut 0 = .ok (.iload_n 2, 1) := by decide +kernel
theorem dX12_cut_1 : decode cX12_cut 1 = .ok (.ifCond .ne 10, 3) := by decide +kernel
theorem dX12_cut_4 : decode cX12_cut 4 = .ok (.lload_n 0, 1) := by decide +kernel
theorem dX12_cut_5 : decode cX12_cut 5 = .ok (.l2i, 1) := by decide +kernel
theorem dX12_cut_6 : decode cX12_cut 6 = .ok (.i2b, 1) := by decide +kernel
theorem dX12_cut_7 : decode cX12_cut 7 = .ok (.i2l, 1) := by decide +kernel
theorem dX12_cut_8 : decode cX12_cut 8 = .ok (.goto 27, 3) := by decide +kernel
theorem dX12_cut_11 : decode cX12_cut 11 = .ok (.iload_n 2, 1) := by decide +kernel
theorem dX12_cut_12 : decode cX12_cut 12 = .ok (.iconst 1, 1) := by decide +kernel
theorem dX12_cut_13 : decode cX12_cut 13 = .ok (.if_icmp .ne 10, 3) := by decide +kernel
theorem dX12_cut_16 : decode cX12_cut 16 = .ok (.lload_n 0, 1) := by decide +kernel
theorem dX12_cut_17 : decode cX12_cut 17 = .ok (.l2i, 1) := by decide +kernel
theorem dX12_cut_18 : decode cX12_cut 18 = .ok (.i2s, 1) := by decide +kernel
theorem dX12_cut_19 : decode cX12_cut 19 = .ok (.i2l, 1) := by decide +kernel
theorem dX12_cut_20 : decode cX12_cut 20 = .ok (.goto 15, 3) := by decide +kernel
theorem dX12_cut_23 : decode cX12_cut 23 = .ok (.iload_n 2, 1) := by decide +kernel
theorem dX12_cut_24 : decode cX12_cut 24 = .ok (.iconst 2, 1) := by decide +kernel
theorem dX12_cut_25 : decode cX12_cut 25 = .ok (.if_icmp .ne 9, 3) := by decide +kernel
theorem dX12_cut_28 : decode cX12_cut 28 = .ok (.lload_n 0, 1) := by decide +kernel
theorem dX12_cut_29 : decode cX12_cut 29 = .ok (.l2i, 1) := by decide +kernel
theorem dX12_cut_30 : decode cX12_cut 30 = .ok (.i2l, 1) := by decide +kernel
theorem dX12_cut_31 : decode cX12_cut 31 = .ok (.goto 4, 3) := by decide +kernel
theorem dX12_cut_34 : decode cX12_cut 34 = .ok (.lload_n 0, 1) := by decide +kernel
theorem dX12_cut_35 : decode cX12_cut 35 = .ok (.lreturn, 1) := by decide +kernel
set_option maxHeartbeats 4000000 in
set_option maxRecDepth 100000 in
theorem c_X12_cut (G : KG) (l : Launch) (M : Mem) (a0 : Int) (a1 : Int) (hI_M : Inv true M) (hpre : -9223372036854775808 ≤ a0 ∧ a0 ≤ 9223372036854775807 ∧ -2147483648 ≤ a1 ∧ a1 ≤ 2147483647) : KC true G l yX12_cut cX12_cut 3 (some .long) (0, 0) [vL a0, vI a1] M (fun A => kQl true G A (fun (r : Int) (N : Mem) => M = N ∧ (r ≥ -9223372036854775808 ∧ r ≤ 9223372036854775807))) := by
  refine kx_met (lo := [some (vL a0), none, some (vI a1)]) (by decide) (Nat.le_of_ble_eq_true rfl) rfl ?_
  intro X F hQ
  refine kx_iload_n 1 F 2 dX12_cut_0 rfl rfl rfl ?_
  refine kx_if_ne 4 F 11 dX12_cut_1 (by decide) rfl (by omega) (fun h_1 => ?_) (fun h_1 => ?_)
  · refine kx_iload_n 12 F 2 dX12_cut_11 rfl rfl rfl ?_
    refine kx_iconst 13 F dX12_cut_12 rfl ?_
    refine kx_icmp_ne 16 F 23 dX12_cut_13 (by decide) rfl (by omega) (by decide) (fun h_2 => ?_) (fun h_2 => ?_)
    · refine kx_iload_n 24 F 2 dX12_cut_23 rfl rfl rfl ?_
      refine kx_iconst 25 F dX12_cut_24 rfl ?_
      refine kx_icmp_ne 28 F 34 dX12_cut_25 (by decide) rfl (by omega) (by decide) (fun h_3 => ?_) (fun h_3 => ?_)
      · refine kx_lload_n 35 F 0 dX12_cut_34 rfl rfl rfl ?_
        exact kx_lret F hQ ⟨rfl, (by omega)⟩ dX12_cut_35
      · refine kx_lload_n 29 F 0 dX12_cut_28 rfl rfl rfl ?_
        refine kx_l2i 30 F dX12_cut_29 rfl ?_
        refine kx_wrapi (fun w_4 h_5 _ => ?_)
        refine kx_i2l 31 F dX12_cut_30 (by omega) rfl ?_
        refine kx_goto 35 F dX12_cut_31 (by decide) ?_
        exact kx_lret F hQ ⟨rfl, (by omega)⟩ dX12_cut_35
    · refine kx_lload_n 17 F 0 dX12_cut_16 rfl rfl rfl ?_
      refine kx_l2i 18 F dX12_cut_17 rfl ?_
      refine kx_wrapi (fun w_6 h_7 _ => ?_)
      refine kx_i2s 19 F dX12_cut_18 rfl (fun w_8 h_9 _ => ?_)
      refine kx_i2l 20 F dX12_cut_19 (by omega) rfl ?_
      refine kx_goto 35 F dX12_cut_20 (by decide) ?_
      exact kx_lret F hQ ⟨rfl, (by omega)⟩ dX12_cut_35
  · refine kx_lload_n 5 F 0 dX12_cut_4 rfl rfl rfl ?_
    refine kx_l2i 6 F dX12_cut_5 rfl ?_
    refine kx_wrapi (fun w_10 h_11 _ => ?_)
    refine kx_i2b 7 F dX12_cut_6 rfl (fun w_12 h_13 _ => ?_)
    refine kx_i2l 8 F dX12_cut_7 (by omega) rfl ?_
    refine kx_goto 35 F dX12_cut_8 (by decide) ?_
    exact kx_lret F hQ ⟨rfl, (by omega)⟩ dX12_cut_35
theorem dX12_plain_0 : decode cX12_plain 0 = .ok (.iconst 0, 1) := by decide +kernel
theorem dX12_plain_1 : decode cX12_plain 1 = .ok (.istore_n 2, 1) := by decide +kernel
theorem dX12_plain_2 : decode cX12_plain 2 = .ok (.iload_n 2, 1) := by decide +kernel
theorem dX12_plain_3 : decode cX12_plain 3 = .ok (.sipush 272, 3) := by decide +kernel
theorem dX12_plain_6 : decode cX12_plain 6 = .ok (.if_icmp .ge 18, 3) := by decide +kernel
theorem dX12_plain_9 : decode cX12_plain 9 = .ok (.aload_n 0, 1) := by decide +kernel
theorem dX12_plain_10 : decode cX12_plain 10 = .ok (.getfield 7, 3) := by decide +kernel
theorem dX12_plain_13 : decode cX12_plain 13 = .ok (.iload_n 1, 1) := by decide +kernel
theorem dX12_plain_14 : decode cX12_plain 14 = .ok (.iload_n 2, 1) := by decide +kernel
theorem dX12_plain_15 : decode cX12_plain 15 = .ok (.iadd, 1) := by decide +kernel
theorem dX12_plain_16 : decode cX12_plain 16 = .ok (.iconst 0, 1) := by decide +kernel
theorem dX12_plain_17 : decode cX12_plain 17 = .ok (.iastore, 1) := by decide +kernel
theorem dX12_plain_18 : decode cX12_plain 18 = .ok (.iinc 2 1, 3) := by decide +kernel
theorem dX12_plain_21 : decode cX12_plain 21 = .ok (.goto (-19), 3) := by decide +kernel
theorem dX12_plain_24 : decode cX12_plain 24 = .ok (.aload_n 0, 1) := by decide +kernel
theorem dX12_plain_25 : decode cX12_plain 25 = .ok (.getfield 7, 3) := by decide +kernel
theorem dX12_plain_28 : decode cX12_plain 28 = .ok (.iload_n 1, 1) := by decide +kernel
theorem dX12_plain_29 : decode cX12_plain 29 = .ok (.iconst 4, 1) := by decide +kernel
theorem dX12_plain_30 : decode cX12_plain 30 = .ok (.iadd, 1) := by decide +kernel
theorem dX12_plain_31 : decode cX12_plain 31 = .ok (.iconst (-1), 1) := by decide +kernel
theorem dX12_plain_32 : decode cX12_plain 32 = .ok (.iastore, 1) := by decide +kernel
theorem dX12_plain_33 : decode cX12_plain 33 = .ok (.return_, 1) := by decide +kernel
abbrev f_c_plain0 : List (Nat × Int) := [(65, -1)]
set_option maxHeartbeats 4000000 in
set_option maxRecDepth 100000 in
theorem c_plain0 (G : KG) (l : Launch) (M : Mem) (c0 : Int) (a1 : Int) (hI_M : Inv true M) (hk_c0 : kd c0 = 64) (hpre : -2147483648 ≤ a1 ∧ a1 ≤ 2147483647 ∧ a1 = 0) : KC true G l yX12_plain cX12_plain 3 none (0, 0) [vR G c0, vI a1] M (fun A => kQv true G A (fun (N : Mem) => Inv true N ∧ Fr f_c_plain0 M N)) := by
  refine kx_met (lo := [some (vR G c0), some (vI a1), none]) (by decide) (Nat.le_of_ble_eq_true rfl) rfl ?_
  intro X F hQ
  have hF_M : Fr f_c_plain0 M M := Fr.rf _ _
  refine kx_iconst 1 F dX12_plain_0 rfl ?_
  refine kx_istore_n 2 F 2 (lo' := [some (vR G c0), some (vI a1), some (vI 0)]) dX12_plain_1 rfl (by decide) rfl rfl rfl ?_
  have L_51 : ∀ (n_52 : Nat) (x2_49 : Int) (N_50 : Mem), Inv true N_50 → Fr f_c_plain0 M N_50 → 0 ≤ x2_49 ∧ x2_49 ≤ 272 → (272 - (x2_49)).toNat = n_52 → KJ true G X N_50 2 [some (vR G c0), some (vI a1), some (vI x2_49)] [] := by
    intro n_52
    refine Nat.strongRecOn n_52 ?_
    intro n_52 ih_53 x2_49 N_50 hI_N_50 hF_N_50 h_54 hm_55
    refine kx_iload_n 3 F 2 dX12_plain_2 rfl rfl rfl ?_
    refine kx_sipush 6 F dX12_plain_3 (by decide) rfl ?_
    refine kx_icmp_ge 9 F 24 dX12_plain_6 (by decide) rfl (by omega) (by decide) (fun h_56 => ?_) (fun h_56 => ?_)
    · refine kx_aload_n 25 F 0 dX12_plain_24 rfl rfl rfl ?_
      refine kx_getr 28 F fl_X12_7 hk_c0 rfl rfl (j := 0) rfl dX12_plain_25 (v := (M c0 0)) (by rw [Fr.e hF_N_50 hk_c0 _ rfl]) rfl ?_
      have hk_57 : kd (M c0 0) = 65 := Inv.r hI_M hk_c0 rfl 0 rfl rfl
      refine kx_iload_n 29 F 1 dX12_plain_28 rfl rfl rfl ?_
      refine kx_iconst 30 F dX12_plain_29 rfl ?_
      refine kx_iadd 31 F (v := a1 + 4) dX12_plain_30 rfl rfl ?_
      refine kx_iconst 32 F dX12_plain_31 rfl ?_
      refine kx_iast 33 F hk_57 rfl rfl (by omega) (by decide) dX12_plain_32 rfl ?_
      intro N_58 hM_N_58
      have ha_59 : atlo (a1 + 4) = (-1) ∧ athi (a1 + 4) = 1 := at_c (a1 + 4) 0 (o := 4) (lo := (-1)) (hi := 1) (by omega) (by decide) (by decide) (by decide)
      have hI_N_58 : Inv true N_58 := Inv.u hI_N_50 hM_N_58 hk_57 (a := (-1)) (b := 1) ha_59.1 ha_59.2 rfl (by omega)
      have hF_N_58 : Fr f_c_plain0 M N_58 := Fr.u hF_N_50 hM_N_58 hk_57 rfl
      exact kx_vret F hQ ⟨hI_N_58, hF_N_58⟩ dX12_plain_33
    · refine kx_aload_n 10 F 0 dX12_plain_9 rfl rfl rfl ?_
      refine kx_getr 13 F fl_X12_7 hk_c0 rfl rfl (j := 0) rfl dX12_plain_10 (v := (M c0 0)) (by rw [Fr.e hF_N_50 hk_c0 _ rfl]) rfl ?_
      have hk_60 : kd (M c0 0) = 65 := Inv.r hI_M hk_c0 rfl 0 rfl rfl
      refine kx_iload_n 14 F 1 dX12_plain_13 rfl rfl rfl ?_
      refine kx_iload_n 15 F 2 dX12_plain_14 rfl rfl rfl ?_
      refine kx_iadd 16 F (v := a1 + x2_49) dX12_plain_15 rfl rfl ?_
      refine kx_iconst 17 F dX12_plain_16 rfl ?_
      refine kx_iast 18 F hk_60 rfl rfl (by omega) (by decide) dX12_plain_17 rfl ?_
      intro N_61 hM_N_61
      have h_62 := at_0 (a1 + x2_49)
      have hI_N_61 : Inv true N_61 := Inv.u hI_N_50 hM_N_61 hk_60 (a := atlo (a1 + x2_49)) (b := athi (a1 + x2_49)) rfl rfl rfl (by omega)
      have hF_N_61 : Fr f_c_plain0 M N_61 := Fr.u hF_N_50 hM_N_61 hk_60 rfl
      refine kx_iinc 21 F 2 (v := x2_49 + 1) (lo' := [some (vR G c0), some (vI a1), some (vI (x2_49 + 1))]) dX12_plain_18 rfl (by omega) (by decide) rfl rfl rfl ?_
      refine kx_goto 2 F dX12_plain_21 (by decide) ?_
      exact ih_53 _ (by omega) (x2_49 + 1) N_61 hI_N_61 hF_N_61 (by omega) rfl
  exact L_51 _ 0 M hI_M hF_M (by omega) rfl
abbrev f_c_plainN : List (Nat × Int) := [(65, -1)]
set_option maxHeartbeats 4000000 in
set_option maxRecDepth 100000 in
theorem c_plainN (G : KG) (l : Launch) (M : Mem) (c0 : Int) (a1 : Int) (hI_M : Inv true M) (hk_c0 : kd c0 = 64) (hpre : -2147483648 ≤ a1 ∧ a1 ≤ 2147483647 ∧ a1 = 1088) : KC true G l yX12_plain cX12_plain 3 none (0, 0) [vR G c0, vI a1] M (fun A => kQv true G A (fun (N : Mem) => Inv true N ∧ Fr f_c_plainN M N)) := by
  refine kx_met (lo := [some (vR G c0), some (vI a1), none]) (by decide) (Nat.le_of_ble_eq_true rfl) rfl ?_
  intro X F hQ
  have hF_M : Fr f_c_plainN M M := Fr.rf _ _
  refine kx_iconst 1 F dX12_plain_0 rfl ?_
  refine kx_istore_n 2 F 2 (lo' := [some (vR G c0), some (vI a1), some (vI 0)]) dX12_plain_1 rfl (by decide) rfl rfl rfl ?_
  have L_51 : ∀ (n_52 : Nat) (x2_49 : Int) (N_50 : Mem), Inv true N_50 → Fr f_c_plainN M N_50 → 0 ≤ x2_49 ∧ x2_49 ≤ 272 → (272 - (x2_49)).toNat = n_52 → KJ true G X N_50 2 [some (vR G c0), some (vI a1), some (vI x2_49)] [] := by
    intro n_52
    refine Nat.strongRecOn n_52 ?_
    intro n_52 ih_53 x2_49 N_50 hI_N_50 hF_N_50 h_54 hm_55
    refine kx_iload_n 3 F 2 dX12_plain_2 rfl rfl rfl ?_
    refine kx_sipush 6 F dX12_plain_3 (by decide) rfl ?_
    refine kx_icmp_ge 9 F 24 dX12_plain_6 (by decide) rfl (by omega) (by decide) (fun h_56 => ?_) (fun h_56 => ?_)
    · refine kx_aload_n 25 F 0 dX12_plain_24 rfl rfl rfl ?_
      refine kx_getr 28 F fl_X12_7 hk_c0 rfl rfl (j := 0) rfl dX12_plain_25 (v := (M c0 0)) (by rw [Fr.e hF_N_50 hk_c0 _ rfl]) rfl ?_
      have hk_57 : kd (M c0 0) = 65 := Inv.r hI_M hk_c0 rfl 0 rfl rfl
      refine kx_iload_n 29 F 1 dX12_plain_28 rfl rfl rfl ?_
      refine kx_iconst 30 F dX12_plain_29 rfl ?_
      refine kx_iadd 31 F (v := a1 + 4) dX12_plain_30 rfl rfl ?_
      refine kx_iconst 32 F dX12_plain_31 rfl ?_
      refine kx_iast 33 F hk_57 rfl rfl (by omega) (by decide) dX12_plain_32 rfl ?_
      intro N_58 hM_N_58
      have ha_59 : atlo (a1 + 4) = (-1) ∧ athi (a1 + 4) = 1 := at_c (a1 + 4) 4 (o := 4) (lo := (-1)) (hi := 1) (by omega) (by decide) (by decide) (by decide)
      have hI_N_58 : Inv true N_58 := Inv.u hI_N_50 hM_N_58 hk_57 (a := (-1)) (b := 1) ha_59.1 ha_59.2 rfl (by omega)
      have hF_N_58 : Fr f_c_plainN M N_58 := Fr.u hF_N_50 hM_N_58 hk_57 rfl
      exact kx_vret F hQ ⟨hI_N_58, hF_N_58⟩ dX12_plain_33
    · refine kx_aload_n 10 F 0 dX12_plain_9 rfl rfl rfl ?_
      refine kx_getr 13 F fl_X12_7 hk_c0 rfl rfl (j := 0) rfl dX12_plain_10 (v := (M c0 0)) (by rw [Fr.e hF_N_50 hk_c0 _ rfl]) rfl ?_
      have hk_60 : kd (M c0 0) = 65 := Inv.r hI_M hk_c0 rfl 0 rfl rfl
      refine kx_iload_n 14 F 1 dX12_plain_13 rfl rfl rfl ?_
      refine kx_iload_n 15 F 2 dX12_plain_14 rfl rfl rfl ?_
      refine kx_iadd 16 F (v := a1 + x2_49) dX12_plain_15 rfl rfl ?_
      refine kx_iconst 17 F dX12_plain_16 rfl ?_
      refine kx_iast 18 F hk_60 rfl rfl (by omega) (by decide) dX12_plain_17 rfl ?_
      intro N_61 hM_N_61
      have h_62 := at_0 (a1 + x2_49)
      have hI_N_61 : Inv true N_61 := Inv.u hI_N_50 hM_N_61 hk_60 (a := atlo (a1 + x2_49)) (b := athi (a1 + x2_49)) rfl rfl rfl (by omega)
      have hF_N_61 : Fr f_c_plainN M N_61 := Fr.u hF_N_50 hM_N_61 hk_60 rfl
      refine kx_iinc 21 F 2 (v := x2_49 + 1) (lo' := [some (vR G c0), some (vI a1), some (vI (x2_49 + 1))]) dX12_plain_18 rfl (by omega) (by decide) rfl rfl rfl ?_
      refine kx_goto 2 F dX12_plain_21 (by decide) ?_
      exact ih_53 _ (by omega) (x2_49 + 1) N_61 hI_N_61 hF_N_61 (by omega) rfl
  exact L_51 _ 0 M hI_M hF_M (by omega) rfl
theorem dX12_tray_0 : decode cX12_tray 0 = .ok (.iload_n 1, 1) := by decide +kernel
theorem dX12_tray_1 : decode cX12_tray 1 = .ok (.invokestatic 134, 3) := by decide +kernel
theorem dX12_tray_4 : decode cX12_tray 4 = .ok (.ifCond .eq 22, 3) := by decide +kernel
theorem dX12_tray_7 : decode cX12_tray 7 = .ok (.iload_n 2, 1) := by decide +kernel
theorem dX12_tray_8 : decode cX12_tray 8 = .ok (.ifCond .lt 18, 3) := by decide +kernel
theorem dX12_tray_11 : decode cX12_tray 11 = .ok (.iload_n 2, 1) := by decide +kernel
theorem dX12_tray_12 : decode cX12_tray 12 = .ok (.iconst 3, 1) := by decide +kernel
theorem dX12_tray_13 : decode cX12_tray 13 = .ok (.if_icmp .gt 13, 3) := by decide +kernel
theorem dX12_tray_16 : decode cX12_tray 16 = .ok (.iload_n 3, 1) := by decide +kernel
theorem dX12_tray_17 : decode cX12_tray 17 = .ok (.ifCond .lt 9, 3) := by decide +kernel
theorem dX12_tray_20 : decode cX12_tray 20 = .ok (.iload_n 3, 1) := by decide +kernel
theorem dX12_tray_21 : decode cX12_tray 21 = .ok (.bipush 60, 2) := by decide +kernel
theorem dX12_tray_23 : decode cX12_tray 23 = .ok (.if_icmp .le 9, 3) := by decide +kernel
theorem dX12_tray_26 : decode cX12_tray 26 = .ok (.aload_n 0, 1) := by decide +kernel
theorem dX12_tray_27 : decode cX12_tray 27 = .ok (.iconst 1, 1) := by decide +kernel
theorem dX12_tray_28 : decode cX12_tray 28 = .ok (.invokevirtual 130, 3) := by decide +kernel
theorem dX12_tray_31 : decode cX12_tray 31 = .ok (.ireturn, 1) := by decide +kernel
theorem dX12_tray_32 : decode cX12_tray 32 = .ok (.aload_n 0, 1) := by decide +kernel
theorem dX12_tray_33 : decode cX12_tray 33 = .ok (.getfield 21, 3) := by decide +kernel
theorem dX12_tray_36 : decode cX12_tray 36 = .ok (.iload_n 1, 1) := by decide +kernel
theorem dX12_tray_37 : decode cX12_tray 37 = .ok (.iload_n 2, 1) := by decide +kernel
theorem dX12_tray_38 : decode cX12_tray 38 = .ok (.iastore, 1) := by decide +kernel
theorem dX12_tray_39 : decode cX12_tray 39 = .ok (.aload_n 0, 1) := by decide +kernel
theorem dX12_tray_40 : decode cX12_tray 40 = .ok (.getfield 24, 3) := by decide +kernel
theorem dX12_tray_43 : decode cX12_tray 43 = .ok (.iload_n 1, 1) := by decide +kernel
theorem dX12_tray_44 : decode cX12_tray 44 = .ok (.iload_n 3, 1) := by decide +kernel
theorem dX12_tray_45 : decode cX12_tray 45 = .ok (.iastore, 1) := by decide +kernel
theorem dX12_tray_46 : decode cX12_tray 46 = .ok (.iconst 0, 1) := by decide +kernel
theorem dX12_tray_47 : decode cX12_tray 47 = .ok (.istore 4, 2) := by decide +kernel
theorem dX12_tray_49 : decode cX12_tray 49 = .ok (.iload 4, 2) := by decide +kernel
theorem dX12_tray_51 : decode cX12_tray 51 = .ok (.iload_n 3, 1) := by decide +kernel
theorem dX12_tray_52 : decode cX12_tray 52 = .ok (.if_icmp .ge 22, 3) := by decide +kernel
theorem dX12_tray_55 : decode cX12_tray 55 = .ok (.aload_n 0, 1) := by decide +kernel
theorem dX12_tray_56 : decode cX12_tray 56 = .ok (.getfield 27, 3) := by decide +kernel
theorem dX12_tray_59 : decode cX12_tray 59 = .ok (.bipush 60, 2) := by decide +kernel
theorem dX12_tray_61 : decode cX12_tray 61 = .ok (.iload_n 1, 1) := by decide +kernel
theorem dX12_tray_62 : decode cX12_tray 62 = .ok (.imul, 1) := by decide +kernel
theorem dX12_tray_63 : decode cX12_tray 63 = .ok (.iload 4, 2) := by decide +kernel
theorem dX12_tray_65 : decode cX12_tray 65 = .ok (.iadd, 1) := by decide +kernel
theorem dX12_tray_66 : decode cX12_tray 66 = .ok (.lconst 0, 1) := by decide +kernel
theorem dX12_tray_67 : decode cX12_tray 67 = .ok (.lastore, 1) := by decide +kernel
theorem dX12_tray_68 : decode cX12_tray 68 = .ok (.iinc 4 1, 3) := by decide +kernel
theorem dX12_tray_71 : decode cX12_tray 71 = .ok (.goto (-22), 3) := by decide +kernel
theorem dX12_tray_74 : decode cX12_tray 74 = .ok (.aload_n 0, 1) := by decide +kernel
theorem dX12_tray_75 : decode cX12_tray 75 = .ok (.iconst 0, 1) := by decide +kernel
theorem dX12_tray_76 : decode cX12_tray 76 = .ok (.invokevirtual 130, 3) := by decide +kernel
theorem dX12_tray_79 : decode cX12_tray 79 = .ok (.ireturn, 1) := by decide +kernel
abbrev f_c_X12_tray : List (Nat × Int) := [(64, 2), (67, -1), (68, -1), (69, -1)]
set_option maxHeartbeats 4000000 in
set_option maxRecDepth 100000 in
theorem c_X12_tray (G : KG) (l : Launch) (M : Mem) (c0 : Int) (a1 : Int) (a2 : Int) (a3 : Int) (hI_M : Inv true M) (hk_c0 : kd c0 = 64) (hpre : -2147483648 ≤ a1 ∧ a1 ≤ 2147483647 ∧ -2147483648 ≤ a2 ∧ a2 ≤ 2147483647 ∧ -2147483648 ≤ a3 ∧ a3 ≤ 2147483647) : KC true G l yX12_tray cX12_tray 5 (some .boolean) (1, 21) [vR G c0, vI a1, vI a2, vI a3] M (fun A => kQi true G A (fun (r : Int) (N : Mem) => Inv true N ∧ Fr f_c_X12_tray M N ∧ (0 ≤ r ∧ r ≤ 1))) := by
  refine kx_met (lo := [some (vR G c0), some (vI a1), some (vI a2), some (vI a3), none]) (by decide) (Nat.le_of_ble_eq_true rfl) rfl ?_
  intro X F hQ
  have hF_M : Fr f_c_X12_tray M M := Fr.rf _ _
  refine kx_iload_n 1 F 1 dX12_tray_0 rfl rfl rfl ?_
  refine kx_Si 4 F (As := [vI a1]) (st := []) sd_X12_134 (c_X12_isTray G l M a1 hI_M (by omega)) ⟨by decide, by decide⟩ rfl rfl (Nat.le_of_ble_eq_true rfl) dX12_tray_1 rfl ?_
  intro r_1 N_2 q_3
  obtain ⟨rfl, q_3c⟩ := q_3
  rcases q_3c with q_3c | q_3c
  · refine kx_if_eq 7 F 26 dX12_tray_4 (by decide) rfl (by omega) (fun h_4 => (by exfalso; omega)) (fun h_4 => ?_)
    refine kx_iload_n 8 F 2 dX12_tray_7 rfl rfl rfl ?_
    refine kx_if_lt 11 F 26 dX12_tray_8 (by decide) rfl (by omega) (fun h_5 => ?_) (fun h_5 => ?_)
    · refine kx_aload_n 27 F 0 dX12_tray_26 rfl rfl rfl ?_
      refine kx_iconst 28 F dX12_tray_27 rfl ?_
      refine kx_Vi 31 (ci := 0) F (As := [vI 1]) (st := []) vd_X12_130 (c_X12_is G l M c0 1 hI_M hk_c0 (by omega)) hk_c0 rfl rfl rfl ⟨by decide, by decide⟩ rfl rfl (Nat.le_of_ble_eq_true rfl) dX12_tray_28 rfl ?_
      intro r_6 N_7 q_8
      obtain ⟨hI_N_7, hG_N_7, q_8c⟩ := q_8
      have hF_N_7 : Fr f_c_X12_tray M N_7 := Fr.c hF_M hG_N_7 rfl
      rcases q_8c with q_8c | q_8c
      · exfalso; omega
      · exact kx_zret F hQ (by omega) ⟨hI_N_7, hF_N_7, (by omega)⟩ dX12_tray_31
    · refine kx_iload_n 12 F 2 dX12_tray_11 rfl rfl rfl ?_
      refine kx_iconst 13 F dX12_tray_12 rfl ?_
      refine kx_icmp_gt 16 F 26 dX12_tray_13 (by decide) rfl (by omega) (by decide) (fun h_9 => ?_) (fun h_9 => ?_)
      · refine kx_aload_n 27 F 0 dX12_tray_26 rfl rfl rfl ?_
        refine kx_iconst 28 F dX12_tray_27 rfl ?_
        refine kx_Vi 31 (ci := 0) F (As := [vI 1]) (st := []) vd_X12_130 (c_X12_is G l M c0 1 hI_M hk_c0 (by omega)) hk_c0 rfl rfl rfl ⟨by decide, by decide⟩ rfl rfl (Nat.le_of_ble_eq_true rfl) dX12_tray_28 rfl ?_
        intro r_10 N_11 q_12
        obtain ⟨hI_N_11, hG_N_11, q_12c⟩ := q_12
        have hF_N_11 : Fr f_c_X12_tray M N_11 := Fr.c hF_M hG_N_11 rfl
        rcases q_12c with q_12c | q_12c
        · exfalso; omega
        · exact kx_zret F hQ (by omega) ⟨hI_N_11, hF_N_11, (by omega)⟩ dX12_tray_31
      · refine kx_iload_n 17 F 3 dX12_tray_16 rfl rfl rfl ?_
        refine kx_if_lt 20 F 26 dX12_tray_17 (by decide) rfl (by omega) (fun h_13 => ?_) (fun h_13 => ?_)
        · refine kx_aload_n 27 F 0 dX12_tray_26 rfl rfl rfl ?_
          refine kx_iconst 28 F dX12_tray_27 rfl ?_
          refine kx_Vi 31 (ci := 0) F (As := [vI 1]) (st := []) vd_X12_130 (c_X12_is G l M c0 1 hI_M hk_c0 (by omega)) hk_c0 rfl rfl rfl ⟨by decide, by decide⟩ rfl rfl (Nat.le_of_ble_eq_true rfl) dX12_tray_28 rfl ?_
          intro r_14 N_15 q_16
          obtain ⟨hI_N_15, hG_N_15, q_16c⟩ := q_16
          have hF_N_15 : Fr f_c_X12_tray M N_15 := Fr.c hF_M hG_N_15 rfl
          rcases q_16c with q_16c | q_16c
          · exfalso; omega
          · exact kx_zret F hQ (by omega) ⟨hI_N_15, hF_N_15, (by omega)⟩ dX12_tray_31
        · refine kx_iload_n 21 F 3 dX12_tray_20 rfl rfl rfl ?_
          refine kx_bipush 23 F dX12_tray_21 (by decide) rfl ?_
          refine kx_icmp_le 26 F 32 dX12_tray_23 (by decide) rfl (by omega) (by decide) (fun h_17 => ?_) (fun h_17 => ?_)
          · refine kx_aload_n 33 F 0 dX12_tray_32 rfl rfl rfl ?_
            refine kx_getr 36 F fl_X12_21 hk_c0 rfl rfl (j := 5) rfl dX12_tray_33 (v := (M c0 5)) rfl rfl ?_
            have hk_18 : kd (M c0 5) = 67 := Inv.r hI_M hk_c0 rfl 5 rfl rfl
            refine kx_iload_n 37 F 1 dX12_tray_36 rfl rfl rfl ?_
            refine kx_iload_n 38 F 2 dX12_tray_37 rfl rfl rfl ?_
            refine kx_iast 39 F hk_18 rfl rfl (by omega) (by decide) dX12_tray_38 rfl ?_
            intro N_19 hM_N_19
            have hI_N_19 : Inv true N_19 := Inv.u hI_M hM_N_19 hk_18 (a := 0) (b := 3) rfl rfl rfl (by omega)
            have hF_N_19 : Fr f_c_X12_tray M N_19 := Fr.u hF_M hM_N_19 hk_18 rfl
            refine kx_aload_n 40 F 0 dX12_tray_39 rfl rfl rfl ?_
            refine kx_getr 43 F fl_X12_24 hk_c0 rfl rfl (j := 6) rfl dX12_tray_40 (v := (M c0 6)) (by rw [hM_N_19, mu_k hk_c0 hk_18 rfl]) rfl ?_
            have hk_20 : kd (M c0 6) = 68 := Inv.r hI_M hk_c0 rfl 6 rfl rfl
            refine kx_iload_n 44 F 1 dX12_tray_43 rfl rfl rfl ?_
            refine kx_iload_n 45 F 3 dX12_tray_44 rfl rfl rfl ?_
            refine kx_iast 46 F hk_20 rfl rfl (by omega) (by decide) dX12_tray_45 rfl ?_
            intro N_21 hM_N_21
            have hI_N_21 : Inv true N_21 := Inv.u hI_N_19 hM_N_21 hk_20 (a := (-1)) (b := 60) rfl rfl rfl (by omega)
            have hF_N_21 : Fr f_c_X12_tray M N_21 := Fr.u hF_N_19 hM_N_21 hk_20 rfl
            refine kx_iconst 47 F dX12_tray_46 rfl ?_
            refine kx_istore 49 F 4 (lo' := [some (vR G c0), some (vI a1), some (vI a2), some (vI a3), some (vI 0)]) dX12_tray_47 (by decide) rfl rfl rfl ?_
            have L_80 : ∀ (n_81 : Nat) (x4_78 : Int) (N_79 : Mem), Inv true N_79 → Fr f_c_X12_tray M N_79 → 0 ≤ x4_78 ∧ x4_78 ≤ 60 → (60 - (x4_78)).toNat = n_81 → KJ true G X N_79 49 [some (vR G c0), some (vI a1), none, some (vI a3), some (vI x4_78)] [] := by
              intro n_81
              refine Nat.strongRecOn n_81 ?_
              intro n_81 ih_82 x4_78 N_79 hI_N_79 hF_N_79 h_83 hm_84
              refine kx_iload 51 F 4 dX12_tray_49 rfl rfl ?_
              refine kx_iload_n 52 F 3 dX12_tray_51 rfl rfl rfl ?_
              refine kx_icmp_ge 55 F 74 dX12_tray_52 (by decide) rfl (by omega) (by omega) (fun h_85 => ?_) (fun h_85 => ?_)
              · refine kx_aload_n 75 F 0 dX12_tray_74 rfl rfl rfl ?_
                refine kx_iconst 76 F dX12_tray_75 rfl ?_
                refine kx_Vi 79 (ci := 0) F (As := [vI 0]) (st := []) vd_X12_130 (c_X12_is G l N_79 c0 0 hI_N_79 hk_c0 (by omega)) hk_c0 rfl rfl rfl ⟨by decide, by decide⟩ rfl rfl (Nat.le_of_ble_eq_true rfl) dX12_tray_76 rfl ?_
                intro r_86 N_87 q_88
                obtain ⟨hI_N_87, hG_N_87, q_88c⟩ := q_88
                have hF_N_87 : Fr f_c_X12_tray M N_87 := Fr.c hF_N_79 hG_N_87 rfl
                rcases q_88c with q_88c | q_88c
                · exact kx_zret F hQ (by omega) ⟨hI_N_87, hF_N_87, (by omega)⟩ dX12_tray_79
                · exact kx_zret F hQ (by omega) ⟨hI_N_87, hF_N_87, (by omega)⟩ dX12_tray_79
              · refine kx_aload_n 56 F 0 dX12_tray_55 rfl rfl rfl ?_
                refine kx_getr 59 F fl_X12_27 hk_c0 rfl rfl (j := 7) rfl dX12_tray_56 (v := (M c0 7)) (by rw [Fr.e hF_N_79 hk_c0 _ rfl]) rfl ?_
                have hk_89 : kd (M c0 7) = 69 := Inv.r hI_M hk_c0 rfl 7 rfl rfl
                refine kx_bipush 61 F dX12_tray_59 (by decide) rfl ?_
                refine kx_iload_n 62 F 1 dX12_tray_61 rfl rfl rfl ?_
                refine kx_imul 63 F (v := 60 * a1) dX12_tray_62 (by omega) rfl ?_
                refine kx_iload 65 F 4 dX12_tray_63 rfl rfl ?_
                refine kx_iadd 66 F (v := 60 * a1 + x4_78) dX12_tray_65 rfl rfl ?_
                refine kx_lconst 67 (z := 0) F dX12_tray_66 (by decide) rfl ?_
                refine kx_last 68 F hk_89 rfl rfl (by omega) (by decide) dX12_tray_67 rfl ?_
                intro N_90 hM_N_90
                have hI_N_90 : Inv true N_90 := Inv.u hI_N_79 hM_N_90 hk_89 (a := (-9223372036854775808)) (b := 9223372036854775807) rfl rfl rfl (by omega)
                have hF_N_90 : Fr f_c_X12_tray M N_90 := Fr.u hF_N_79 hM_N_90 hk_89 rfl
                refine kx_iinc 71 F 4 (v := x4_78 + 1) (lo' := [some (vR G c0), some (vI a1), none, some (vI a3), some (vI (x4_78 + 1))]) dX12_tray_68 rfl (by omega) (by decide) rfl rfl rfl ?_
                refine kx_goto 49 F dX12_tray_71 (by decide) ?_
                exact ih_82 _ (by omega) (x4_78 + 1) N_90 hI_N_90 hF_N_90 (by omega) rfl
            refine kx_drop 2 (lo' := [some (vR G c0), some (vI a1), none, some (vI a3), some (vI 0)]) rfl ?_
            exact L_80 _ 0 N_21 hI_N_21 hF_N_21 (by omega) rfl
          · refine kx_aload_n 27 F 0 dX12_tray_26 rfl rfl rfl ?_
            refine kx_iconst 28 F dX12_tray_27 rfl ?_
            refine kx_Vi 31 (ci := 0) F (As := [vI 1]) (st := []) vd_X12_130 (c_X12_is G l M c0 1 hI_M hk_c0 (by omega)) hk_c0 rfl rfl rfl ⟨by decide, by decide⟩ rfl rfl (Nat.le_of_ble_eq_true rfl) dX12_tray_28 rfl ?_
            intro r_91 N_92 q_93
            obtain ⟨hI_N_92, hG_N_92, q_93c⟩ := q_93
            have hF_N_92 : Fr f_c_X12_tray M N_92 := Fr.c hF_M hG_N_92 rfl
            rcases q_93c with q_93c | q_93c
            · exfalso; omega
            · exact kx_zret F hQ (by omega) ⟨hI_N_92, hF_N_92, (by omega)⟩ dX12_tray_31
  · refine kx_if_eq 7 F 26 dX12_tray_4 (by decide) rfl (by omega) (fun h_94 => ?_) (fun h_94 => (by exfalso; omega))
    refine kx_aload_n 27 F 0 dX12_tray_26 rfl rfl rfl ?_
    refine kx_iconst 28 F dX12_tray_27 rfl ?_
    refine kx_Vi 31 (ci := 0) F (As := [vI 1]) (st := []) vd_X12_130 (c_X12_is G l M c0 1 hI_M hk_c0 (by omega)) hk_c0 rfl rfl rfl ⟨by decide, by decide⟩ rfl rfl (Nat.le_of_ble_eq_true rfl) dX12_tray_28 rfl ?_
    intro r_95 N_96 q_97
    obtain ⟨hI_N_96, hG_N_96, q_97c⟩ := q_97
    have hF_N_96 : Fr f_c_X12_tray M N_96 := Fr.c hF_M hG_N_96 rfl
    rcases q_97c with q_97c | q_97c
    · exfalso; omega
    · exact kx_zret F hQ (by omega) ⟨hI_N_96, hF_N_96, (by omega)⟩ dX12_tray_31
theorem dX12_wrongPlace_0 : decode cX12_wrongPlace 0 = .ok (.iload_n 1, 1) := by decide +kernel
theorem dX12_wrongPlace_1 : decode cX12_wrongPlace 1 = .ok (.invokestatic 134, 3) := by decide +kernel
theorem dX12_wrongPlace_4 : decode cX12_wrongPlace 4 = .ok (.ifCond .ne 7, 3) := by decide +kernel
theorem dX12_wrongPlace_7 : decode cX12_wrongPlace 7 = .ok (.iconst 1, 1) := by decide +kernel
theorem dX12_wrongPlace_8 : decode cX12_wrongPlace 8 = .ok (.goto 36, 3) := by decide +kernel
theorem dX12_wrongPlace_11 : decode cX12_wrongPlace 11 = .ok (.aload_n 0, 1) := by decide +kernel
theorem dX12_wrongPlace_12 : decode cX12_wrongPlace 12 = .ok (.getfield 24, 3) := by decide +kernel
theorem dX12_wrongPlace_15 : decode cX12_wrongPlace 15 = .ok (.iload_n 1, 1) := by decide +kernel
theorem dX12_wrongPlace_16 : decode cX12_wrongPlace 16 = .ok (.iaload, 1) := by decide +kernel
theorem dX12_wrongPlace_17 : decode cX12_wrongPlace 17 = .ok (.iconst (-1), 1) := by decide +kernel
theorem dX12_wrongPlace_18 : decode cX12_wrongPlace 18 = .ok (.if_icmp .ne 7, 3) := by decide +kernel
theorem dX12_wrongPlace_21 : decode cX12_wrongPlace 21 = .ok (.iconst 2, 1) := by decide +kernel
theorem dX12_wrongPlace_22 : decode cX12_wrongPlace 22 = .ok (.goto 22, 3) := by decide +kernel
theorem dX12_wrongPlace_25 : decode cX12_wrongPlace 25 = .ok (.iload_n 2, 1) := by decide +kernel
theorem dX12_wrongPlace_26 : decode cX12_wrongPlace 26 = .ok (.ifCond .lt 13, 3) := by decide +kernel
theorem dX12_wrongPlace_29 : decode cX12_wrongPlace 29 = .ok (.iload_n 2, 1) := by decide +kernel
theorem dX12_wrongPlace_30 : decode cX12_wrongPlace 30 = .ok (.aload_n 0, 1) := by decide +kernel
theorem dX12_wrongPlace_31 : decode cX12_wrongPlace 31 = .ok (.getfield 24, 3) := by decide +kernel
theorem dX12_wrongPlace_34 : decode cX12_wrongPlace 34 = .ok (.iload_n 1, 1) := by decide +kernel
theorem dX12_wrongPlace_35 : decode cX12_wrongPlace 35 = .ok (.iaload, 1) := by decide +kernel
theorem dX12_wrongPlace_36 : decode cX12_wrongPlace 36 = .ok (.if_icmp .lt 7, 3) := by decide +kernel
theorem dX12_wrongPlace_39 : decode cX12_wrongPlace 39 = .ok (.iconst 3, 1) := by decide +kernel
theorem dX12_wrongPlace_40 : decode cX12_wrongPlace 40 = .ok (.goto 4, 3) := by decide +kernel
theorem dX12_wrongPlace_43 : decode cX12_wrongPlace 43 = .ok (.iconst 0, 1) := by decide +kernel
theorem dX12_wrongPlace_44 : decode cX12_wrongPlace 44 = .ok (.ireturn, 1) := by decide +kernel
set_option maxHeartbeats 4000000 in
set_option maxRecDepth 100000 in
theorem c_X12_wrongPlace (G : KG) (l : Launch) (M : Mem) (c0 : Int) (a1 : Int) (a2 : Int) (hI_M : Inv true M) (hk_c0 : kd c0 = 64) (hpre : -2147483648 ≤ a1 ∧ a1 ≤ 2147483647 ∧ -2147483648 ≤ a2 ∧ a2 ≤ 2147483647) : KC true G l yX12_wrongPlace cX12_wrongPlace 3 (some .int) (1, 20) [vR G c0, vI a1, vI a2] M (fun A => kQi true G A (fun (r : Int) (N : Mem) => M = N ∧ ((r = 0 ∧ 0 ≤ a1 ∧ a1 ≤ 3 ∧ 0 ≤ a2 ∧ a2 ≤ 59) ∨ (r ≥ 1 ∧ r ≤ 3)))) := by
  refine kx_met (lo := [some (vR G c0), some (vI a1), some (vI a2)]) (by decide) (Nat.le_of_ble_eq_true rfl) rfl ?_
  intro X F hQ
  refine kx_iload_n 1 F 1 dX12_wrongPlace_0 rfl rfl rfl ?_
  refine kx_Si 4 F (As := [vI a1]) (st := []) sd_X12_134 (c_X12_isTray G l M a1 hI_M (by omega)) ⟨by decide, by decide⟩ rfl rfl (Nat.le_of_ble_eq_true rfl) dX12_wrongPlace_1 rfl ?_
  intro r_1 N_2 q_3
  obtain ⟨rfl, q_3c⟩ := q_3
  rcases q_3c with q_3c | q_3c
  · refine kx_if_ne 7 F 11 dX12_wrongPlace_4 (by decide) rfl (by omega) (fun h_4 => ?_) (fun h_4 => (by exfalso; omega))
    refine kx_aload_n 12 F 0 dX12_wrongPlace_11 rfl rfl rfl ?_
    refine kx_getr 15 F fl_X12_24 hk_c0 rfl rfl (j := 6) rfl dX12_wrongPlace_12 (v := (M c0 6)) rfl rfl ?_
    have hk_5 : kd (M c0 6) = 68 := Inv.r hI_M hk_c0 rfl 6 rfl rfl
    refine kx_iload_n 16 F 1 dX12_wrongPlace_15 rfl rfl rfl ?_
    refine kx_iald 17 F hk_5 rfl rfl (by omega) (by decide) dX12_wrongPlace_16 (v := (M (M c0 6) a1)) rfl rfl ?_
    have h_6 := Inv.g hI_M hk_5 rfl a1 (a := (-1)) (b := 60) rfl rfl
    refine kx_iconst 18 F dX12_wrongPlace_17 rfl ?_
    refine kx_icmp_ne 21 F 25 dX12_wrongPlace_18 (by decide) rfl (by omega) (by decide) (fun h_7 => ?_) (fun h_7 => ?_)
    · refine kx_iload_n 26 F 2 dX12_wrongPlace_25 rfl rfl rfl ?_
      refine kx_if_lt 29 F 39 dX12_wrongPlace_26 (by decide) rfl (by omega) (fun h_8 => ?_) (fun h_8 => ?_)
      · refine kx_iconst 40 F dX12_wrongPlace_39 rfl ?_
        refine kx_goto 44 F dX12_wrongPlace_40 (by decide) ?_
        exact kx_iret F hQ ⟨rfl, (by omega)⟩ dX12_wrongPlace_44
      · refine kx_iload_n 30 F 2 dX12_wrongPlace_29 rfl rfl rfl ?_
        refine kx_aload_n 31 F 0 dX12_wrongPlace_30 rfl rfl rfl ?_
        refine kx_getr 34 F fl_X12_24 hk_c0 rfl rfl (j := 6) rfl dX12_wrongPlace_31 (v := (M c0 6)) rfl rfl ?_
        refine kx_iload_n 35 F 1 dX12_wrongPlace_34 rfl rfl rfl ?_
        refine kx_iald 36 F hk_5 rfl rfl (by omega) (by decide) dX12_wrongPlace_35 (v := (M (M c0 6) a1)) rfl rfl ?_
        refine kx_icmp_lt 39 F 43 dX12_wrongPlace_36 (by decide) rfl (by omega) (by omega) (fun h_9 => ?_) (fun h_9 => ?_)
        · refine kx_iconst 44 F dX12_wrongPlace_43 rfl ?_
          exact kx_iret F hQ ⟨rfl, (by omega)⟩ dX12_wrongPlace_44
        · refine kx_iconst 40 F dX12_wrongPlace_39 rfl ?_
          refine kx_goto 44 F dX12_wrongPlace_40 (by decide) ?_
          exact kx_iret F hQ ⟨rfl, (by omega)⟩ dX12_wrongPlace_44
    · refine kx_iconst 22 F dX12_wrongPlace_21 rfl ?_
      refine kx_goto 44 F dX12_wrongPlace_22 (by decide) ?_
      exact kx_iret F hQ ⟨rfl, (by omega)⟩ dX12_wrongPlace_44
  · refine kx_if_ne 7 F 11 dX12_wrongPlace_4 (by decide) rfl (by omega) (fun h_10 => (by exfalso; omega)) (fun h_10 => ?_)
    refine kx_iconst 8 F dX12_wrongPlace_7 rfl ?_
    refine kx_goto 44 F dX12_wrongPlace_8 (by decide) ?_
    exact kx_iret F hQ ⟨rfl, (by omega)⟩ dX12_wrongPlace_44
theorem dX12_write_0 : decode cX12_write 0 = .ok (.aload_n 0, 1) := by decide +kernel
theorem dX12_write_1 : decode cX12_write 1 = .ok (.iload_n 1, 1) := by decide +kernel
theorem dX12_write_2 : decode cX12_write 2 = .ok (.iload_n 2, 1) := by decide +kernel
theorem dX12_write_3 : decode cX12_write 3 = .ok (.invokevirtual 137, 3) := by decide +kernel
theorem dX12_write_6 : decode cX12_write 6 = .ok (.istore 5, 2) := by decide +kernel
theorem dX12_write_8 : decode cX12_write 8 = .ok (.iload 5, 2) := by decide +kernel
theorem dX12_write_10 : decode cX12_write 10 = .ok (.ifCond .ne 24, 3) := by decide +kernel
theorem dX12_write_13 : decode cX12_write 13 = .ok (.aload_n 0, 1) := by decide +kernel
theorem dX12_write_14 : decode cX12_write 14 = .ok (.getfield 27, 3) := by decide +kernel
theorem dX12_write_17 : decode cX12_write 17 = .ok (.bipush 60, 2) := by decide +kernel
theorem dX12_write_19 : decode cX12_write 19 = .ok (.iload_n 1, 1) := by decide +kernel
theorem dX12_write_20 : decode cX12_write 20 = .ok (.imul, 1) := by decide +kernel
theorem dX12_write_21 : decode cX12_write 21 = .ok (.iload_n 2, 1) := by decide +kernel
theorem dX12_write_22 : decode cX12_write 22 = .ok (.iadd, 1) := by decide +kernel
theorem dX12_write_23 : decode cX12_write 23 = .ok (.lload_n 3, 1) := by decide +kernel
theorem dX12_write_24 : decode cX12_write 24 = .ok (.aload_n 0, 1) := by decide +kernel
theorem dX12_write_25 : decode cX12_write 25 = .ok (.getfield 21, 3) := by decide +kernel
theorem dX12_write_28 : decode cX12_write 28 = .ok (.iload_n 1, 1) := by decide +kernel
theorem dX12_write_29 : decode cX12_write 29 = .ok (.iaload, 1) := by decide +kernel
theorem dX12_write_30 : decode cX12_write 30 = .ok (.invokestatic 141, 3) := by decide +kernel
theorem dX12_write_33 : decode cX12_write 33 = .ok (.lastore, 1) := by decide +kernel
theorem dX12_write_34 : decode cX12_write 34 = .ok (.aload_n 0, 1) := by decide +kernel
theorem dX12_write_35 : decode cX12_write 35 = .ok (.iload 5, 2) := by decide +kernel
theorem dX12_write_37 : decode cX12_write 37 = .ok (.invokevirtual 130, 3) := by decide +kernel
theorem dX12_write_40 : decode cX12_write 40 = .ok (.ireturn, 1) := by decide +kernel
abbrev f_c_X12_write : List (Nat × Int) := [(64, 2), (69, -1)]
set_option maxHeartbeats 4000000 in
set_option maxRecDepth 100000 in
theorem c_X12_write (G : KG) (l : Launch) (M : Mem) (c0 : Int) (a1 : Int) (a2 : Int) (a3 : Int) (hI_M : Inv true M) (hk_c0 : kd c0 = 64) (hpre : -2147483648 ≤ a1 ∧ a1 ≤ 2147483647 ∧ -2147483648 ≤ a2 ∧ a2 ≤ 2147483647 ∧ -9223372036854775808 ≤ a3 ∧ a3 ≤ 9223372036854775807) : KC true G l yX12_write cX12_write 6 (some .boolean) (2, 42) [vR G c0, vI a1, vI a2, vL a3] M (fun A => kQi true G A (fun (r : Int) (N : Mem) => Inv true N ∧ Fr f_c_X12_write M N ∧ (0 ≤ r ∧ r ≤ 1))) := by
  refine kx_met (lo := [some (vR G c0), some (vI a1), some (vI a2), some (vL a3), none, none]) (by decide) (Nat.le_of_ble_eq_true rfl) rfl ?_
  intro X F hQ
  have hF_M : Fr f_c_X12_write M M := Fr.rf _ _
  refine kx_aload_n 1 F 0 dX12_write_0 rfl rfl rfl ?_
  refine kx_iload_n 2 F 1 dX12_write_1 rfl rfl rfl ?_
  refine kx_iload_n 3 F 2 dX12_write_2 rfl rfl rfl ?_
  refine kx_Vi 6 (ci := 0) F (As := [vI a1, vI a2]) (st := []) vd_X12_137 (c_X12_wrongPlace G l M c0 a1 a2 hI_M hk_c0 (by omega)) hk_c0 rfl rfl rfl ⟨by decide, by decide⟩ rfl rfl (Nat.le_of_ble_eq_true rfl) dX12_write_3 rfl ?_
  intro r_1 N_2 q_3
  obtain ⟨rfl, q_3c⟩ := q_3
  rcases q_3c with q_3c | q_3c
  · refine kx_istore 8 F 5 (lo' := [some (vR G c0), some (vI a1), some (vI a2), some (vL a3), none, some (vI r_1)]) dX12_write_6 (by decide) rfl rfl rfl ?_
    refine kx_iload 10 F 5 dX12_write_8 rfl rfl ?_
    refine kx_if_ne 13 F 34 dX12_write_10 (by decide) rfl (by omega) (fun h_4 => (by exfalso; omega)) (fun h_4 => ?_)
    refine kx_aload_n 14 F 0 dX12_write_13 rfl rfl rfl ?_
    refine kx_getr 17 F fl_X12_27 hk_c0 rfl rfl (j := 7) rfl dX12_write_14 (v := (M c0 7)) rfl rfl ?_
    have hk_5 : kd (M c0 7) = 69 := Inv.r hI_M hk_c0 rfl 7 rfl rfl
    refine kx_bipush 19 F dX12_write_17 (by decide) rfl ?_
    refine kx_iload_n 20 F 1 dX12_write_19 rfl rfl rfl ?_
    refine kx_imul 21 F (v := 60 * a1) dX12_write_20 (by omega) rfl ?_
    refine kx_iload_n 22 F 2 dX12_write_21 rfl rfl rfl ?_
    refine kx_iadd 23 F (v := 60 * a1 + a2) dX12_write_22 rfl rfl ?_
    refine kx_lload_n 24 F 3 dX12_write_23 rfl rfl rfl ?_
    refine kx_aload_n 25 F 0 dX12_write_24 rfl rfl rfl ?_
    refine kx_getr 28 F fl_X12_21 hk_c0 rfl rfl (j := 5) rfl dX12_write_25 (v := (M c0 5)) rfl rfl ?_
    have hk_6 : kd (M c0 5) = 67 := Inv.r hI_M hk_c0 rfl 5 rfl rfl
    refine kx_iload_n 29 F 1 dX12_write_28 rfl rfl rfl ?_
    refine kx_iald 30 F hk_6 rfl rfl (by omega) (by decide) dX12_write_29 (v := (M (M c0 5) a1)) rfl rfl ?_
    have h_7 := Inv.g hI_M hk_6 rfl a1 (a := 0) (b := 3) rfl rfl
    refine kx_Sl 33 F (As := [vL a3, vI (M (M c0 5) a1)]) (st := [vI (60 * a1 + a2), vR G (M c0 7)]) sd_X12_141 (c_X12_cut G l M a3 (M (M c0 5) a1) hI_M (by omega)) ⟨by decide, by decide⟩ rfl rfl (Nat.le_of_ble_eq_true rfl) dX12_write_30 rfl ?_
    intro r_8 N_9 q_10
    obtain ⟨rfl, q_10c⟩ := q_10
    refine kx_last 34 F hk_5 rfl rfl (by omega) (by decide) dX12_write_33 rfl ?_
    intro N_11 hM_N_11
    have hI_N_11 : Inv true N_11 := Inv.u hI_M hM_N_11 hk_5 (a := (-9223372036854775808)) (b := 9223372036854775807) rfl rfl rfl (by omega)
    have hF_N_11 : Fr f_c_X12_write M N_11 := Fr.u hF_M hM_N_11 hk_5 rfl
    refine kx_aload_n 35 F 0 dX12_write_34 rfl rfl rfl ?_
    refine kx_iload 37 F 5 dX12_write_35 rfl rfl ?_
    refine kx_Vi 40 (ci := 0) F (As := [vI r_1]) (st := []) vd_X12_130 (c_X12_is G l N_11 c0 r_1 hI_N_11 hk_c0 (by omega)) hk_c0 rfl rfl rfl ⟨by decide, by decide⟩ rfl rfl (Nat.le_of_ble_eq_true rfl) dX12_write_37 rfl ?_
    intro r_12 N_13 q_14
    obtain ⟨hI_N_13, hG_N_13, q_14c⟩ := q_14
    have hF_N_13 : Fr f_c_X12_write M N_13 := Fr.c hF_N_11 hG_N_13 rfl
    rcases q_14c with q_14c | q_14c
    · exact kx_zret F hQ (by omega) ⟨hI_N_13, hF_N_13, (by omega)⟩ dX12_write_40
    · exfalso; omega
  · refine kx_istore 8 F 5 (lo' := [some (vR G c0), some (vI a1), some (vI a2), some (vL a3), none, some (vI r_1)]) dX12_write_6 (by decide) rfl rfl rfl ?_
    refine kx_iload 10 F 5 dX12_write_8 rfl rfl ?_
    refine kx_if_ne 13 F 34 dX12_write_10 (by decide) rfl (by omega) (fun h_15 => ?_) (fun h_15 => (by exfalso; omega))
    refine kx_aload_n 35 F 0 dX12_write_34 rfl rfl rfl ?_
    refine kx_iload 37 F 5 dX12_write_35 rfl rfl ?_
    refine kx_Vi 40 (ci := 0) F (As := [vI r_1]) (st := []) vd_X12_130 (c_X12_is G l M c0 r_1 hI_M hk_c0 (by omega)) hk_c0 rfl rfl rfl ⟨by decide, by decide⟩ rfl rfl (Nat.le_of_ble_eq_true rfl) dX12_write_37 rfl ?_
    intro r_16 N_17 q_18
    obtain ⟨hI_N_17, hG_N_17, q_18c⟩ := q_18
    have hF_N_17 : Fr f_c_X12_write M N_17 := Fr.c hF_M hG_N_17 rfl
    rcases q_18c with q_18c | q_18c
    · exfalso; omega
    · exact kx_zret F hQ (by omega) ⟨hI_N_17, hF_N_17, (by omega)⟩ dX12_write_40
theorem dX12_read_0 : decode cX12_read 0 = .ok (.aload_n 0, 1) := by decide +kernel
theorem dX12_read_1 : decode cX12_read 1 = .ok (.aload_n 0, 1) := by decide +kernel
theorem dX12_read_2 : decode cX12_read 2 = .ok (.iload_n 1, 1) := by decide +kernel
theorem dX12_read_3 : decode cX12_read 3 = .ok (.iload_n 2, 1) := by decide +kernel
theorem dX12_read_4 : decode cX12_read 4 = .ok (.invokevirtual 137, 3) := by decide +kernel
theorem dX12_read_7 : decode cX12_read 7 = .ok (.putfield 117, 3) := by decide +kernel
theorem dX12_read_10 : decode cX12_read 10 = .ok (.aload_n 0, 1) := by decide +kernel
theorem dX12_read_11 : decode cX12_read 11 = .ok (.getfield 117, 3) := by decide +kernel
theorem dX12_read_14 : decode cX12_read 14 = .ok (.ifCond .le 9, 3) := by decide +kernel
theorem dX12_read_17 : decode cX12_read 17 = .ok (.ldc2_w 145, 3) := by decide +kernel
theorem dX12_read_20 : decode cX12_read 20 = .ok (.goto 14, 3) := by decide +kernel
theorem dX12_read_23 : decode cX12_read 23 = .ok (.aload_n 0, 1) := by decide +kernel
theorem dX12_read_24 : decode cX12_read 24 = .ok (.getfield 27, 3) := by decide +kernel
theorem dX12_read_27 : decode cX12_read 27 = .ok (.bipush 60, 2) := by decide +kernel
theorem dX12_read_29 : decode cX12_read 29 = .ok (.iload_n 1, 1) := by decide +kernel
theorem dX12_read_30 : decode cX12_read 30 = .ok (.imul, 1) := by decide +kernel
theorem dX12_read_31 : decode cX12_read 31 = .ok (.iload_n 2, 1) := by decide +kernel
theorem dX12_read_32 : decode cX12_read 32 = .ok (.iadd, 1) := by decide +kernel
theorem dX12_read_33 : decode cX12_read 33 = .ok (.laload, 1) := by decide +kernel
theorem dX12_read_34 : decode cX12_read 34 = .ok (.lreturn, 1) := by decide +kernel
abbrev f_c_X12_read : List (Nat × Int) := [(64, 2)]
set_option maxHeartbeats 4000000 in
set_option maxRecDepth 100000 in
theorem c_X12_read (G : KG) (l : Launch) (M : Mem) (c0 : Int) (a1 : Int) (a2 : Int) (hI_M : Inv true M) (hk_c0 : kd c0 = 64) (hpre : -2147483648 ≤ a1 ∧ a1 ≤ 2147483647 ∧ -2147483648 ≤ a2 ∧ a2 ≤ 2147483647) : KC true G l yX12_read cX12_read 3 (some .long) (2, 42) [vR G c0, vI a1, vI a2] M (fun A => kQl true G A (fun (r : Int) (N : Mem) => Inv true N ∧ Fr f_c_X12_read M N ∧ (r ≥ -9223372036854775808 ∧ r ≤ 9223372036854775807))) := by
  refine kx_met (lo := [some (vR G c0), some (vI a1), some (vI a2)]) (by decide) (Nat.le_of_ble_eq_true rfl) rfl ?_
  intro X F hQ
  have hF_M : Fr f_c_X12_read M M := Fr.rf _ _
  refine kx_aload_n 1 F 0 dX12_read_0 rfl rfl rfl ?_
  refine kx_aload_n 2 F 0 dX12_read_1 rfl rfl rfl ?_
  refine kx_iload_n 3 F 1 dX12_read_2 rfl rfl rfl ?_
  refine kx_iload_n 4 F 2 dX12_read_3 rfl rfl rfl ?_
  refine kx_Vi 7 (ci := 0) F (As := [vI a1, vI a2]) (st := [vR G c0]) vd_X12_137 (c_X12_wrongPlace G l M c0 a1 a2 hI_M hk_c0 (by omega)) hk_c0 rfl rfl rfl ⟨by decide, by decide⟩ rfl rfl (Nat.le_of_ble_eq_true rfl) dX12_read_4 rfl ?_
  intro r_1 N_2 q_3
  obtain ⟨rfl, q_3c⟩ := q_3
  rcases q_3c with q_3c | q_3c
  · refine kx_puti 10 F fw_X12_117 rfl hk_c0 rfl rfl (j := 2) rfl dX12_read_7 rfl ?_
    intro N_4 hM_N_4
    have hI_N_4 : Inv true N_4 := Inv.u hI_M hM_N_4 hk_c0 (a := (-2147483648)) (b := 2147483647) rfl rfl rfl (by omega)
    have hF_N_4 : Fr f_c_X12_read M N_4 := Fr.u hF_M hM_N_4 hk_c0 rfl
    refine kx_aload_n 11 F 0 dX12_read_10 rfl rfl rfl ?_
    refine kx_geti 14 F fl_X12_117 hk_c0 rfl rfl (j := 2) rfl dX12_read_11 (v := r_1) (by rw [hM_N_4, mu_s]) rfl ?_
    refine kx_if_le 17 F 23 dX12_read_14 (by decide) rfl (by omega) (fun h_5 => ?_) (fun h_5 => (by exfalso; omega))
    refine kx_aload_n 24 F 0 dX12_read_23 rfl rfl rfl ?_
    refine kx_getr 27 F fl_X12_27 hk_c0 rfl rfl (j := 7) rfl dX12_read_24 (v := (M c0 7)) (by rw [hM_N_4, mu_i (by omega)]) rfl ?_
    have hk_6 : kd (M c0 7) = 69 := Inv.r hI_M hk_c0 rfl 7 rfl rfl
    refine kx_bipush 29 F dX12_read_27 (by decide) rfl ?_
    refine kx_iload_n 30 F 1 dX12_read_29 rfl rfl rfl ?_
    refine kx_imul 31 F (v := 60 * a1) dX12_read_30 (by omega) rfl ?_
    refine kx_iload_n 32 F 2 dX12_read_31 rfl rfl rfl ?_
    refine kx_iadd 33 F (v := 60 * a1 + a2) dX12_read_32 rfl rfl ?_
    refine kx_lald 34 F hk_6 rfl rfl (by omega) (by decide) dX12_read_33 (v := (M (M c0 7) (60 * a1 + a2))) (by rw [hM_N_4, mu_k hk_6 hk_c0 rfl]) rfl ?_
    have h_7 := Inv.g hI_M hk_6 rfl (60 * a1 + a2) (a := (-9223372036854775808)) (b := 9223372036854775807) rfl rfl
    exact kx_lret F hQ ⟨hI_N_4, hF_N_4, (by omega)⟩ dX12_read_34
  · refine kx_puti 10 F fw_X12_117 rfl hk_c0 rfl rfl (j := 2) rfl dX12_read_7 rfl ?_
    intro N_8 hM_N_8
    have hI_N_8 : Inv true N_8 := Inv.u hI_M hM_N_8 hk_c0 (a := (-2147483648)) (b := 2147483647) rfl rfl rfl (by omega)
    have hF_N_8 : Fr f_c_X12_read M N_8 := Fr.u hF_M hM_N_8 hk_c0 rfl
    refine kx_aload_n 11 F 0 dX12_read_10 rfl rfl rfl ?_
    refine kx_geti 14 F fl_X12_117 hk_c0 rfl rfl (j := 2) rfl dX12_read_11 (v := r_1) (by rw [hM_N_8, mu_s]) rfl ?_
    refine kx_if_le 17 F 23 dX12_read_14 (by decide) rfl (by omega) (fun h_9 => (by exfalso; omega)) (fun h_9 => ?_)
    refine kx_ldc2 20 (z := (-1)) F dX12_read_17 ct_X12_145 rfl ?_
    refine kx_goto 34 F dX12_read_20 (by decide) ?_
    exact kx_lret F hQ ⟨hI_N_8, hF_N_8, (by omega)⟩ dX12_read_34
theorem dX12_pour_0 : decode cX12_pour 0 = .ok (.iload_n 1, 1) := by decide +kernel
theorem dX12_pour_1 : decode cX12_pour 1 = .ok (.invokestatic 134, 3) := by decide +kernel
theorem dX12_pour_4 : decode cX12_pour 4 = .ok (.ifCond .eq 24, 3) := by decide +kernel
theorem dX12_pour_7 : decode cX12_pour 7 = .ok (.iload_n 3, 1) := by decide +kernel
theorem dX12_pour_8 : decode cX12_pour 8 = .ok (.invokestatic 134, 3) := by decide +kernel
theorem dX12_pour_11 : decode cX12_pour 11 = .ok (.ifCond .eq 17, 3) := by decide +kernel
theorem dX12_pour_14 : decode cX12_pour 14 = .ok (.iload_n 2, 1) := by decide +kernel
theorem dX12_pour_15 : decode cX12_pour 15 = .ok (.ifCond .lt 13, 3) := by decide +kernel
theorem dX12_pour_18 : decode cX12_pour 18 = .ok (.iload 4, 2) := by decide +kernel
theorem dX12_pour_20 : decode cX12_pour 20 = .ok (.ifCond .lt 8, 3) := by decide +kernel
theorem dX12_pour_23 : decode cX12_pour 23 = .ok (.iload 5, 2) := by decide +kernel
theorem dX12_pour_25 : decode cX12_pour 25 = .ok (.ifCond .ge 9, 3) := by decide +kernel
theorem dX12_pour_28 : decode cX12_pour 28 = .ok (.aload_n 0, 1) := by decide +kernel
theorem dX12_pour_29 : decode cX12_pour 29 = .ok (.iconst 1, 1) := by decide +kernel
theorem dX12_pour_30 : decode cX12_pour 30 = .ok (.invokevirtual 130, 3) := by decide +kernel
theorem dX12_pour_33 : decode cX12_pour 33 = .ok (.ireturn, 1) := by decide +kernel
theorem dX12_pour_34 : decode cX12_pour 34 = .ok (.aload_n 0, 1) := by decide +kernel
theorem dX12_pour_35 : decode cX12_pour 35 = .ok (.getfield 24, 3) := by decide +kernel
theorem dX12_pour_38 : decode cX12_pour 38 = .ok (.iload_n 1, 1) := by decide +kernel
theorem dX12_pour_39 : decode cX12_pour 39 = .ok (.iaload, 1) := by decide +kernel
theorem dX12_pour_40 : decode cX12_pour 40 = .ok (.iconst (-1), 1) := by decide +kernel
theorem dX12_pour_41 : decode cX12_pour 41 = .ok (.if_icmp .eq 13, 3) := by decide +kernel
theorem dX12_pour_44 : decode cX12_pour 44 = .ok (.aload_n 0, 1) := by decide +kernel
theorem dX12_pour_45 : decode cX12_pour 45 = .ok (.getfield 24, 3) := by decide +kernel
theorem dX12_pour_48 : decode cX12_pour 48 = .ok (.iload_n 3, 1) := by decide +kernel
theorem dX12_pour_49 : decode cX12_pour 49 = .ok (.iaload, 1) := by decide +kernel
theorem dX12_pour_50 : decode cX12_pour 50 = .ok (.iconst (-1), 1) := by decide +kernel
theorem dX12_pour_51 : decode cX12_pour 51 = .ok (.if_icmp .ne 9, 3) := by decide +kernel
theorem dX12_pour_54 : decode cX12_pour 54 = .ok (.aload_n 0, 1) := by decide +kernel
theorem dX12_pour_55 : decode cX12_pour 55 = .ok (.iconst 2, 1) := by decide +kernel
theorem dX12_pour_56 : decode cX12_pour 56 = .ok (.invokevirtual 130, 3) := by decide +kernel
theorem dX12_pour_59 : decode cX12_pour 59 = .ok (.ireturn, 1) := by decide +kernel
theorem dX12_pour_60 : decode cX12_pour 60 = .ok (.aload_n 0, 1) := by decide +kernel
theorem dX12_pour_61 : decode cX12_pour 61 = .ok (.getfield 21, 3) := by decide +kernel
theorem dX12_pour_64 : decode cX12_pour 64 = .ok (.iload_n 1, 1) := by decide +kernel
theorem dX12_pour_65 : decode cX12_pour 65 = .ok (.iaload, 1) := by decide +kernel
theorem dX12_pour_66 : decode cX12_pour 66 = .ok (.aload_n 0, 1) := by decide +kernel
theorem dX12_pour_67 : decode cX12_pour 67 = .ok (.getfield 21, 3) := by decide +kernel
theorem dX12_pour_70 : decode cX12_pour 70 = .ok (.iload_n 3, 1) := by decide +kernel
theorem dX12_pour_71 : decode cX12_pour 71 = .ok (.iaload, 1) := by decide +kernel
theorem dX12_pour_72 : decode cX12_pour 72 = .ok (.if_icmp .eq 10, 3) := by decide +kernel
theorem dX12_pour_75 : decode cX12_pour 75 = .ok (.aload_n 0, 1) := by decide +kernel
theorem dX12_pour_76 : decode cX12_pour 76 = .ok (.bipush 8, 2) := by decide +kernel
theorem dX12_pour_78 : decode cX12_pour 78 = .ok (.invokevirtual 130, 3) := by decide +kernel
theorem dX12_pour_81 : decode cX12_pour 81 = .ok (.ireturn, 1) := by decide +kernel
theorem dX12_pour_82 : decode cX12_pour 82 = .ok (.iload 5, 2) := by decide +kernel
theorem dX12_pour_84 : decode cX12_pour 84 = .ok (.aload_n 0, 1) := by decide +kernel
theorem dX12_pour_85 : decode cX12_pour 85 = .ok (.getfield 24, 3) := by decide +kernel
theorem dX12_pour_88 : decode cX12_pour 88 = .ok (.iload_n 1, 1) := by decide +kernel
theorem dX12_pour_89 : decode cX12_pour 89 = .ok (.iaload, 1) := by decide +kernel
theorem dX12_pour_90 : decode cX12_pour 90 = .ok (.iload_n 2, 1) := by decide +kernel
theorem dX12_pour_91 : decode cX12_pour 91 = .ok (.isub, 1) := by decide +kernel
theorem dX12_pour_92 : decode cX12_pour 92 = .ok (.if_icmp .gt 17, 3) := by decide +kernel
theorem dX12_pour_95 : decode cX12_pour 95 = .ok (.iload 5, 2) := by decide +kernel
theorem dX12_pour_97 : decode cX12_pour 97 = .ok (.aload_n 0, 1) := by decide +kernel
theorem dX12_pour_98 : decode cX12_pour 98 = .ok (.getfield 24, 3) := by decide +kernel
theorem dX12_pour_101 : decode cX12_pour 101 = .ok (.iload_n 3, 1) := by decide +kernel
theorem dX12_pour_102 : decode cX12_pour 102 = .ok (.iaload, 1) := by decide +kernel
theorem dX12_pour_103 : decode cX12_pour 103 = .ok (.iload 4, 2) := by decide +kernel
theorem dX12_pour_105 : decode cX12_pour 105 = .ok (.isub, 1) := by decide +kernel
theorem dX12_pour_106 : decode cX12_pour 106 = .ok (.if_icmp .le 9, 3) := by decide +kernel
theorem dX12_pour_109 : decode cX12_pour 109 = .ok (.aload_n 0, 1) := by decide +kernel
theorem dX12_pour_110 : decode cX12_pour 110 = .ok (.iconst 3, 1) := by decide +kernel
theorem dX12_pour_111 : decode cX12_pour 111 = .ok (.invokevirtual 130, 3) := by decide +kernel
theorem dX12_pour_114 : decode cX12_pour 114 = .ok (.ireturn, 1) := by decide +kernel
theorem dX12_pour_115 : decode cX12_pour 115 = .ok (.iconst 0, 1) := by decide +kernel
theorem dX12_pour_116 : decode cX12_pour 116 = .ok (.istore 6, 2) := by decide +kernel
theorem dX12_pour_118 : decode cX12_pour 118 = .ok (.iload 6, 2) := by decide +kernel
theorem dX12_pour_120 : decode cX12_pour 120 = .ok (.iload 5, 2) := by decide +kernel
theorem dX12_pour_122 : decode cX12_pour 122 = .ok (.if_icmp .ge 58, 3) := by decide +kernel
theorem dX12_pour_125 : decode cX12_pour 125 = .ok (.iload_n 2, 1) := by decide +kernel
theorem dX12_pour_126 : decode cX12_pour 126 = .ok (.iload 4, 2) := by decide +kernel
theorem dX12_pour_128 : decode cX12_pour 128 = .ok (.if_icmp .ge 13, 3) := by decide +kernel
theorem dX12_pour_131 : decode cX12_pour 131 = .ok (.iload 5, 2) := by decide +kernel
theorem dX12_pour_133 : decode cX12_pour 133 = .ok (.iconst 1, 1) := by decide +kernel
theorem dX12_pour_134 : decode cX12_pour 134 = .ok (.isub, 1) := by decide +kernel
theorem dX12_pour_135 : decode cX12_pour 135 = .ok (.iload 6, 2) := by decide +kernel
theorem dX12_pour_137 : decode cX12_pour 137 = .ok (.isub, 1) := by decide +kernel
theorem dX12_pour_138 : decode cX12_pour 138 = .ok (.goto 5, 3) := by decide +kernel
theorem dX12_pour_141 : decode cX12_pour 141 = .ok (.iload 6, 2) := by decide +kernel
theorem dX12_pour_143 : decode cX12_pour 143 = .ok (.istore 7, 2) := by decide +kernel
theorem dX12_pour_145 : decode cX12_pour 145 = .ok (.aload_n 0, 1) := by decide +kernel
theorem dX12_pour_146 : decode cX12_pour 146 = .ok (.getfield 27, 3) := by decide +kernel
theorem dX12_pour_149 : decode cX12_pour 149 = .ok (.bipush 60, 2) := by decide +kernel
theorem dX12_pour_151 : decode cX12_pour 151 = .ok (.iload_n 3, 1) := by decide +kernel
theorem dX12_pour_152 : decode cX12_pour 152 = .ok (.imul, 1) := by decide +kernel
theorem dX12_pour_153 : decode cX12_pour 153 = .ok (.iload 4, 2) := by decide +kernel
theorem dX12_pour_155 : decode cX12_pour 155 = .ok (.iadd, 1) := by decide +kernel
theorem dX12_pour_156 : decode cX12_pour 156 = .ok (.iload 7, 2) := by decide +kernel
theorem dX12_pour_158 : decode cX12_pour 158 = .ok (.iadd, 1) := by decide +kernel
theorem dX12_pour_159 : decode cX12_pour 159 = .ok (.aload_n 0, 1) := by decide +kernel
theorem dX12_pour_160 : decode cX12_pour 160 = .ok (.getfield 27, 3) := by decide +kernel
theorem dX12_pour_163 : decode cX12_pour 163 = .ok (.bipush 60, 2) := by decide +kernel
theorem dX12_pour_165 : decode cX12_pour 165 = .ok (.iload_n 1, 1) := by decide +kernel
theorem dX12_pour_166 : decode cX12_pour 166 = .ok (.imul, 1) := by decide +kernel
theorem dX12_pour_167 : decode cX12_pour 167 = .ok (.iload_n 2, 1) := by decide +kernel
theorem dX12_pour_168 : decode cX12_pour 168 = .ok (.iadd, 1) := by decide +kernel
theorem dX12_pour_169 : decode cX12_pour 169 = .ok (.iload 7, 2) := by decide +kernel
theorem dX12_pour_171 : decode cX12_pour 171 = .ok (.iadd, 1) := by decide +kernel
theorem dX12_pour_172 : decode cX12_pour 172 = .ok (.laload, 1) := by decide +kernel
theorem dX12_pour_173 : decode cX12_pour 173 = .ok (.lastore, 1) := by decide +kernel
theorem dX12_pour_174 : decode cX12_pour 174 = .ok (.iinc 6 1, 3) := by decide +kernel
theorem dX12_pour_177 : decode cX12_pour 177 = .ok (.goto (-59), 3) := by decide +kernel
theorem dX12_pour_180 : decode cX12_pour 180 = .ok (.aload_n 0, 1) := by decide +kernel
theorem dX12_pour_181 : decode cX12_pour 181 = .ok (.iconst 0, 1) := by decide +kernel
theorem dX12_pour_182 : decode cX12_pour 182 = .ok (.invokevirtual 130, 3) := by decide +kernel
theorem dX12_pour_185 : decode cX12_pour 185 = .ok (.ireturn, 1) := by decide +kernel
abbrev f_c_X12_pour : List (Nat × Int) := [(64, 2), (69, -1)]
set_option maxHeartbeats 4000000 in
set_option maxRecDepth 100000 in
theorem c_X12_pour (G : KG) (l : Launch) (M : Mem) (c0 : Int) (a1 : Int) (a2 : Int) (a3 : Int) (a4 : Int) (a5 : Int) (hI_M : Inv true M) (hk_c0 : kd c0 = 64) (hpre : -2147483648 ≤ a1 ∧ a1 ≤ 2147483647 ∧ -2147483648 ≤ a2 ∧ a2 ≤ 2147483647 ∧ -2147483648 ≤ a3 ∧ a3 ≤ 2147483647 ∧ -2147483648 ≤ a4 ∧ a4 ≤ 2147483647 ∧ -2147483648 ≤ a5 ∧ a5 ≤ 2147483647) : KC true G l yX12_pour cX12_pour 8 (some .boolean) (1, 21) [vR G c0, vI a1, vI a2, vI a3, vI a4, vI a5] M (fun A => kQi true G A (fun (r : Int) (N : Mem) => Inv true N ∧ Fr f_c_X12_pour M N ∧ (0 ≤ r ∧ r ≤ 1))) := by
  refine kx_met (lo := [some (vR G c0), some (vI a1), some (vI a2), some (vI a3), some (vI a4), some (vI a5), none, none]) (by decide) (Nat.le_of_ble_eq_true rfl) rfl ?_
  intro X F hQ
  have hF_M : Fr f_c_X12_pour M M := Fr.rf _ _
  refine kx_iload_n 1 F 1 dX12_pour_0 rfl rfl rfl ?_
  refine kx_Si 4 F (As := [vI a1]) (st := []) sd_X12_134 (c_X12_isTray G l M a1 hI_M (by omega)) ⟨by decide, by decide⟩ rfl rfl (Nat.le_of_ble_eq_true rfl) dX12_pour_1 rfl ?_
  intro r_1 N_2 q_3
  obtain ⟨rfl, q_3c⟩ := q_3
  rcases q_3c with q_3c | q_3c
  · refine kx_if_eq 7 F 28 dX12_pour_4 (by decide) rfl (by omega) (fun h_4 => (by exfalso; omega)) (fun h_4 => ?_)
    refine kx_iload_n 8 F 3 dX12_pour_7 rfl rfl rfl ?_
    refine kx_Si 11 F (As := [vI a3]) (st := []) sd_X12_134 (c_X12_isTray G l M a3 hI_M (by omega)) ⟨by decide, by decide⟩ rfl rfl (Nat.le_of_ble_eq_true rfl) dX12_pour_8 rfl ?_
    intro r_5 N_6 q_7
    obtain ⟨rfl, q_7c⟩ := q_7
    rcases q_7c with q_7c | q_7c
    · refine kx_if_eq 14 F 28 dX12_pour_11 (by decide) rfl (by omega) (fun h_8 => (by exfalso; omega)) (fun h_8 => ?_)
      refine kx_iload_n 15 F 2 dX12_pour_14 rfl rfl rfl ?_
      refine kx_if_lt 18 F 28 dX12_pour_15 (by decide) rfl (by omega) (fun h_9 => ?_) (fun h_9 => ?_)
      · refine kx_aload_n 29 F 0 dX12_pour_28 rfl rfl rfl ?_
        refine kx_iconst 30 F dX12_pour_29 rfl ?_
        refine kx_Vi 33 (ci := 0) F (As := [vI 1]) (st := []) vd_X12_130 (c_X12_is G l M c0 1 hI_M hk_c0 (by omega)) hk_c0 rfl rfl rfl ⟨by decide, by decide⟩ rfl rfl (Nat.le_of_ble_eq_true rfl) dX12_pour_30 rfl ?_
        intro r_10 N_11 q_12
        obtain ⟨hI_N_11, hG_N_11, q_12c⟩ := q_12
        have hF_N_11 : Fr f_c_X12_pour M N_11 := Fr.c hF_M hG_N_11 rfl
        rcases q_12c with q_12c | q_12c
        · exfalso; omega
        · exact kx_zret F hQ (by omega) ⟨hI_N_11, hF_N_11, (by omega)⟩ dX12_pour_33
      · refine kx_iload 20 F 4 dX12_pour_18 rfl rfl ?_
        refine kx_if_lt 23 F 28 dX12_pour_20 (by decide) rfl (by omega) (fun h_13 => ?_) (fun h_13 => ?_)
        · refine kx_aload_n 29 F 0 dX12_pour_28 rfl rfl rfl ?_
          refine kx_iconst 30 F dX12_pour_29 rfl ?_
          refine kx_Vi 33 (ci := 0) F (As := [vI 1]) (st := []) vd_X12_130 (c_X12_is G l M c0 1 hI_M hk_c0 (by omega)) hk_c0 rfl rfl rfl ⟨by decide, by decide⟩ rfl rfl (Nat.le_of_ble_eq_true rfl) dX12_pour_30 rfl ?_
          intro r_14 N_15 q_16
          obtain ⟨hI_N_15, hG_N_15, q_16c⟩ := q_16
          have hF_N_15 : Fr f_c_X12_pour M N_15 := Fr.c hF_M hG_N_15 rfl
          rcases q_16c with q_16c | q_16c
          · exfalso; omega
          · exact kx_zret F hQ (by omega) ⟨hI_N_15, hF_N_15, (by omega)⟩ dX12_pour_33
        · refine kx_iload 25 F 5 dX12_pour_23 rfl rfl ?_
          refine kx_if_ge 28 F 34 dX12_pour_25 (by decide) rfl (by omega) (fun h_17 => ?_) (fun h_17 => ?_)
          · refine kx_aload_n 35 F 0 dX12_pour_34 rfl rfl rfl ?_
            refine kx_getr 38 F fl_X12_24 hk_c0 rfl rfl (j := 6) rfl dX12_pour_35 (v := (M c0 6)) rfl rfl ?_
            have hk_18 : kd (M c0 6) = 68 := Inv.r hI_M hk_c0 rfl 6 rfl rfl
            refine kx_iload_n 39 F 1 dX12_pour_38 rfl rfl rfl ?_
            refine kx_iald 40 F hk_18 rfl rfl (by omega) (by decide) dX12_pour_39 (v := (M (M c0 6) a1)) rfl rfl ?_
            have h_19 := Inv.g hI_M hk_18 rfl a1 (a := (-1)) (b := 60) rfl rfl
            refine kx_iconst 41 F dX12_pour_40 rfl ?_
            refine kx_icmp_eq 44 F 54 dX12_pour_41 (by decide) rfl (by omega) (by decide) (fun h_20 => ?_) (fun h_20 => ?_)
            · refine kx_aload_n 55 F 0 dX12_pour_54 rfl rfl rfl ?_
              refine kx_iconst 56 F dX12_pour_55 rfl ?_
              refine kx_Vi 59 (ci := 0) F (As := [vI 2]) (st := []) vd_X12_130 (c_X12_is G l M c0 2 hI_M hk_c0 (by omega)) hk_c0 rfl rfl rfl ⟨by decide, by decide⟩ rfl rfl (Nat.le_of_ble_eq_true rfl) dX12_pour_56 rfl ?_
              intro r_21 N_22 q_23
              obtain ⟨hI_N_22, hG_N_22, q_23c⟩ := q_23
              have hF_N_22 : Fr f_c_X12_pour M N_22 := Fr.c hF_M hG_N_22 rfl
              rcases q_23c with q_23c | q_23c
              · exfalso; omega
              · exact kx_zret F hQ (by omega) ⟨hI_N_22, hF_N_22, (by omega)⟩ dX12_pour_59
            · refine kx_aload_n 45 F 0 dX12_pour_44 rfl rfl rfl ?_
              refine kx_getr 48 F fl_X12_24 hk_c0 rfl rfl (j := 6) rfl dX12_pour_45 (v := (M c0 6)) rfl rfl ?_
              refine kx_iload_n 49 F 3 dX12_pour_48 rfl rfl rfl ?_
              refine kx_iald 50 F hk_18 rfl rfl (by omega) (by decide) dX12_pour_49 (v := (M (M c0 6) a3)) rfl rfl ?_
              have h_24 := Inv.g hI_M hk_18 rfl a3 (a := (-1)) (b := 60) rfl rfl
              refine kx_iconst 51 F dX12_pour_50 rfl ?_
              refine kx_icmp_ne 54 F 60 dX12_pour_51 (by decide) rfl (by omega) (by decide) (fun h_25 => ?_) (fun h_25 => ?_)
              · refine kx_aload_n 61 F 0 dX12_pour_60 rfl rfl rfl ?_
                refine kx_getr 64 F fl_X12_21 hk_c0 rfl rfl (j := 5) rfl dX12_pour_61 (v := (M c0 5)) rfl rfl ?_
                have hk_26 : kd (M c0 5) = 67 := Inv.r hI_M hk_c0 rfl 5 rfl rfl
                refine kx_iload_n 65 F 1 dX12_pour_64 rfl rfl rfl ?_
                refine kx_iald 66 F hk_26 rfl rfl (by omega) (by decide) dX12_pour_65 (v := (M (M c0 5) a1)) rfl rfl ?_
                have h_27 := Inv.g hI_M hk_26 rfl a1 (a := 0) (b := 3) rfl rfl
                refine kx_aload_n 67 F 0 dX12_pour_66 rfl rfl rfl ?_
                refine kx_getr 70 F fl_X12_21 hk_c0 rfl rfl (j := 5) rfl dX12_pour_67 (v := (M c0 5)) rfl rfl ?_
                refine kx_iload_n 71 F 3 dX12_pour_70 rfl rfl rfl ?_
                refine kx_iald 72 F hk_26 rfl rfl (by omega) (by decide) dX12_pour_71 (v := (M (M c0 5) a3)) rfl rfl ?_
                have h_28 := Inv.g hI_M hk_26 rfl a3 (a := 0) (b := 3) rfl rfl
                refine kx_icmp_eq 75 F 82 dX12_pour_72 (by decide) rfl (by omega) (by omega) (fun h_29 => ?_) (fun h_29 => ?_)
                · refine kx_iload 84 F 5 dX12_pour_82 rfl rfl ?_
                  refine kx_aload_n 85 F 0 dX12_pour_84 rfl rfl rfl ?_
                  refine kx_getr 88 F fl_X12_24 hk_c0 rfl rfl (j := 6) rfl dX12_pour_85 (v := (M c0 6)) rfl rfl ?_
                  refine kx_iload_n 89 F 1 dX12_pour_88 rfl rfl rfl ?_
                  refine kx_iald 90 F hk_18 rfl rfl (by omega) (by decide) dX12_pour_89 (v := (M (M c0 6) a1)) rfl rfl ?_
                  refine kx_iload_n 91 F 2 dX12_pour_90 rfl rfl rfl ?_
                  refine kx_isub 92 F (v := (M (M c0 6) a1) - a2) dX12_pour_91 rfl rfl ?_
                  refine kx_icmp_gt 95 F 109 dX12_pour_92 (by decide) rfl (by omega) (by omega) (fun h_30 => ?_) (fun h_30 => ?_)
                  · refine kx_aload_n 110 F 0 dX12_pour_109 rfl rfl rfl ?_
                    refine kx_iconst 111 F dX12_pour_110 rfl ?_
                    refine kx_Vi 114 (ci := 0) F (As := [vI 3]) (st := []) vd_X12_130 (c_X12_is G l M c0 3 hI_M hk_c0 (by omega)) hk_c0 rfl rfl rfl ⟨by decide, by decide⟩ rfl rfl (Nat.le_of_ble_eq_true rfl) dX12_pour_111 rfl ?_
                    intro r_31 N_32 q_33
                    obtain ⟨hI_N_32, hG_N_32, q_33c⟩ := q_33
                    have hF_N_32 : Fr f_c_X12_pour M N_32 := Fr.c hF_M hG_N_32 rfl
                    rcases q_33c with q_33c | q_33c
                    · exfalso; omega
                    · exact kx_zret F hQ (by omega) ⟨hI_N_32, hF_N_32, (by omega)⟩ dX12_pour_114
                  · refine kx_iload 97 F 5 dX12_pour_95 rfl rfl ?_
                    refine kx_aload_n 98 F 0 dX12_pour_97 rfl rfl rfl ?_
                    refine kx_getr 101 F fl_X12_24 hk_c0 rfl rfl (j := 6) rfl dX12_pour_98 (v := (M c0 6)) rfl rfl ?_
                    refine kx_iload_n 102 F 3 dX12_pour_101 rfl rfl rfl ?_
                    refine kx_iald 103 F hk_18 rfl rfl (by omega) (by decide) dX12_pour_102 (v := (M (M c0 6) a3)) rfl rfl ?_
                    refine kx_iload 105 F 4 dX12_pour_103 rfl rfl ?_
                    refine kx_isub 106 F (v := (M (M c0 6) a3) - a4) dX12_pour_105 rfl rfl ?_
                    refine kx_icmp_le 109 F 115 dX12_pour_106 (by decide) rfl (by omega) (by omega) (fun h_34 => ?_) (fun h_34 => ?_)
                    · refine kx_iconst 116 F dX12_pour_115 rfl ?_
                      refine kx_istore 118 F 6 (lo' := [some (vR G c0), some (vI a1), some (vI a2), some (vI a3), some (vI a4), some (vI a5), some (vI 0), none]) dX12_pour_116 (by decide) rfl rfl rfl ?_
                      have L_128 : ∀ (n_129 : Nat) (x6_126 : Int) (N_127 : Mem), Inv true N_127 → Fr f_c_X12_pour M N_127 → 0 ≤ x6_126 ∧ x6_126 ≤ 60 → (60 - (x6_126)).toNat = n_129 → KJ true G X N_127 118 [some (vR G c0), some (vI a1), some (vI a2), some (vI a3), some (vI a4), some (vI a5), some (vI x6_126), none] [] := by
                        intro n_129
                        refine Nat.strongRecOn n_129 ?_
                        intro n_129 ih_130 x6_126 N_127 hI_N_127 hF_N_127 h_131 hm_132
                        refine kx_iload 120 F 6 dX12_pour_118 rfl rfl ?_
                        refine kx_iload 122 F 5 dX12_pour_120 rfl rfl ?_
                        refine kx_icmp_ge 125 F 180 dX12_pour_122 (by decide) rfl (by omega) (by omega) (fun h_133 => ?_) (fun h_133 => ?_)
                        · refine kx_aload_n 181 F 0 dX12_pour_180 rfl rfl rfl ?_
                          refine kx_iconst 182 F dX12_pour_181 rfl ?_
                          refine kx_Vi 185 (ci := 0) F (As := [vI 0]) (st := []) vd_X12_130 (c_X12_is G l N_127 c0 0 hI_N_127 hk_c0 (by omega)) hk_c0 rfl rfl rfl ⟨by decide, by decide⟩ rfl rfl (Nat.le_of_ble_eq_true rfl) dX12_pour_182 rfl ?_
                          intro r_134 N_135 q_136
                          obtain ⟨hI_N_135, hG_N_135, q_136c⟩ := q_136
                          have hF_N_135 : Fr f_c_X12_pour M N_135 := Fr.c hF_N_127 hG_N_135 rfl
                          rcases q_136c with q_136c | q_136c
                          · exact kx_zret F hQ (by omega) ⟨hI_N_135, hF_N_135, (by omega)⟩ dX12_pour_185
                          · exact kx_zret F hQ (by omega) ⟨hI_N_135, hF_N_135, (by omega)⟩ dX12_pour_185
                        · refine kx_iload_n 126 F 2 dX12_pour_125 rfl rfl rfl ?_
                          refine kx_iload 128 F 4 dX12_pour_126 rfl rfl ?_
                          refine kx_icmp_ge 131 F 141 dX12_pour_128 (by decide) rfl (by omega) (by omega) (fun h_137 => ?_) (fun h_137 => ?_)
                          · refine kx_iload 143 F 6 dX12_pour_141 rfl rfl ?_
                            refine kx_istore 145 F 7 (lo' := [some (vR G c0), some (vI a1), some (vI a2), some (vI a3), some (vI a4), some (vI a5), some (vI x6_126), some (vI x6_126)]) dX12_pour_143 (by decide) rfl rfl rfl ?_
                            refine kx_aload_n 146 F 0 dX12_pour_145 rfl rfl rfl ?_
                            refine kx_getr 149 F fl_X12_27 hk_c0 rfl rfl (j := 7) rfl dX12_pour_146 (v := (M c0 7)) (by rw [Fr.e hF_N_127 hk_c0 _ rfl]) rfl ?_
                            have hk_138 : kd (M c0 7) = 69 := Inv.r hI_M hk_c0 rfl 7 rfl rfl
                            refine kx_bipush 151 F dX12_pour_149 (by decide) rfl ?_
                            refine kx_iload_n 152 F 3 dX12_pour_151 rfl rfl rfl ?_
                            refine kx_imul 153 F (v := 60 * a3) dX12_pour_152 (by omega) rfl ?_
                            refine kx_iload 155 F 4 dX12_pour_153 rfl rfl ?_
                            refine kx_iadd 156 F (v := 60 * a3 + a4) dX12_pour_155 rfl rfl ?_
                            refine kx_iload 158 F 7 dX12_pour_156 rfl rfl ?_
                            refine kx_iadd 159 F (v := 60 * a3 + a4 + x6_126) dX12_pour_158 rfl rfl ?_
                            refine kx_aload_n 160 F 0 dX12_pour_159 rfl rfl rfl ?_
                            refine kx_getr 163 F fl_X12_27 hk_c0 rfl rfl (j := 7) rfl dX12_pour_160 (v := (M c0 7)) (by rw [Fr.e hF_N_127 hk_c0 _ rfl]) rfl ?_
                            refine kx_bipush 165 F dX12_pour_163 (by decide) rfl ?_
                            refine kx_iload_n 166 F 1 dX12_pour_165 rfl rfl rfl ?_
                            refine kx_imul 167 F (v := 60 * a1) dX12_pour_166 (by omega) rfl ?_
                            refine kx_iload_n 168 F 2 dX12_pour_167 rfl rfl rfl ?_
                            refine kx_iadd 169 F (v := 60 * a1 + a2) dX12_pour_168 rfl rfl ?_
                            refine kx_iload 171 F 7 dX12_pour_169 rfl rfl ?_
                            refine kx_iadd 172 F (v := 60 * a1 + a2 + x6_126) dX12_pour_171 rfl rfl ?_
                            refine kx_lald 173 F hk_138 rfl rfl (by omega) (by decide) dX12_pour_172 (v := (N_127 (M c0 7) (60 * a1 + a2 + x6_126))) rfl rfl ?_
                            have h_139 := Inv.g hI_N_127 hk_138 rfl (60 * a1 + a2 + x6_126) (a := (-9223372036854775808)) (b := 9223372036854775807) rfl rfl
                            refine kx_last 174 F hk_138 rfl rfl (by omega) (by decide) dX12_pour_173 rfl ?_
                            intro N_140 hM_N_140
                            have hI_N_140 : Inv true N_140 := Inv.u hI_N_127 hM_N_140 hk_138 (a := (-9223372036854775808)) (b := 9223372036854775807) rfl rfl rfl (by omega)
                            have hF_N_140 : Fr f_c_X12_pour M N_140 := Fr.u hF_N_127 hM_N_140 hk_138 rfl
                            refine kx_iinc 177 F 6 (v := x6_126 + 1) (lo' := [some (vR G c0), some (vI a1), some (vI a2), some (vI a3), some (vI a4), some (vI a5), some (vI (x6_126 + 1)), some (vI x6_126)]) dX12_pour_174 rfl (by omega) (by decide) rfl rfl rfl ?_
                            refine kx_goto 118 F dX12_pour_177 (by decide) ?_
                            refine kx_drop 7 (lo' := [some (vR G c0), some (vI a1), some (vI a2), some (vI a3), some (vI a4), some (vI a5), some (vI (x6_126 + 1)), none]) rfl ?_
                            exact ih_130 _ (by omega) (x6_126 + 1) N_140 hI_N_140 hF_N_140 (by omega) rfl
                          · refine kx_iload 133 F 5 dX12_pour_131 rfl rfl ?_
                            refine kx_iconst 134 F dX12_pour_133 rfl ?_
                            refine kx_isub 135 F (v := a5 - 1) dX12_pour_134 rfl rfl ?_
                            refine kx_iload 137 F 6 dX12_pour_135 rfl rfl ?_
                            refine kx_isub 138 F (v := a5 - x6_126 - 1) dX12_pour_137 (by omega) rfl ?_
                            refine kx_goto 143 F dX12_pour_138 (by decide) ?_
                            refine kx_istore 145 F 7 (lo' := [some (vR G c0), some (vI a1), some (vI a2), some (vI a3), some (vI a4), some (vI a5), some (vI x6_126), some (vI (a5 - x6_126 - 1))]) dX12_pour_143 (by decide) rfl rfl rfl ?_
                            refine kx_aload_n 146 F 0 dX12_pour_145 rfl rfl rfl ?_
                            refine kx_getr 149 F fl_X12_27 hk_c0 rfl rfl (j := 7) rfl dX12_pour_146 (v := (M c0 7)) (by rw [Fr.e hF_N_127 hk_c0 _ rfl]) rfl ?_
                            have hk_141 : kd (M c0 7) = 69 := Inv.r hI_M hk_c0 rfl 7 rfl rfl
                            refine kx_bipush 151 F dX12_pour_149 (by decide) rfl ?_
                            refine kx_iload_n 152 F 3 dX12_pour_151 rfl rfl rfl ?_
                            refine kx_imul 153 F (v := 60 * a3) dX12_pour_152 (by omega) rfl ?_
                            refine kx_iload 155 F 4 dX12_pour_153 rfl rfl ?_
                            refine kx_iadd 156 F (v := 60 * a3 + a4) dX12_pour_155 rfl rfl ?_
                            refine kx_iload 158 F 7 dX12_pour_156 rfl rfl ?_
                            refine kx_iadd 159 F (v := 60 * a3 + a4 + a5 - x6_126 - 1) dX12_pour_158 (by omega) rfl ?_
                            refine kx_aload_n 160 F 0 dX12_pour_159 rfl rfl rfl ?_
                            refine kx_getr 163 F fl_X12_27 hk_c0 rfl rfl (j := 7) rfl dX12_pour_160 (v := (M c0 7)) (by rw [Fr.e hF_N_127 hk_c0 _ rfl]) rfl ?_
                            refine kx_bipush 165 F dX12_pour_163 (by decide) rfl ?_
                            refine kx_iload_n 166 F 1 dX12_pour_165 rfl rfl rfl ?_
                            refine kx_imul 167 F (v := 60 * a1) dX12_pour_166 (by omega) rfl ?_
                            refine kx_iload_n 168 F 2 dX12_pour_167 rfl rfl rfl ?_
                            refine kx_iadd 169 F (v := 60 * a1 + a2) dX12_pour_168 rfl rfl ?_
                            refine kx_iload 171 F 7 dX12_pour_169 rfl rfl ?_
                            refine kx_iadd 172 F (v := 60 * a1 + a2 + a5 - x6_126 - 1) dX12_pour_171 (by omega) rfl ?_
                            refine kx_lald 173 F hk_141 rfl rfl (by omega) (by decide) dX12_pour_172 (v := (N_127 (M c0 7) (60 * a1 + a2 + a5 - x6_126 - 1))) rfl rfl ?_
                            have h_142 := Inv.g hI_N_127 hk_141 rfl (60 * a1 + a2 + a5 - x6_126 - 1) (a := (-9223372036854775808)) (b := 9223372036854775807) rfl rfl
                            refine kx_last 174 F hk_141 rfl rfl (by omega) (by decide) dX12_pour_173 rfl ?_
                            intro N_143 hM_N_143
                            have hI_N_143 : Inv true N_143 := Inv.u hI_N_127 hM_N_143 hk_141 (a := (-9223372036854775808)) (b := 9223372036854775807) rfl rfl rfl (by omega)
                            have hF_N_143 : Fr f_c_X12_pour M N_143 := Fr.u hF_N_127 hM_N_143 hk_141 rfl
                            refine kx_iinc 177 F 6 (v := x6_126 + 1) (lo' := [some (vR G c0), some (vI a1), some (vI a2), some (vI a3), some (vI a4), some (vI a5), some (vI (x6_126 + 1)), some (vI (a5 - x6_126 - 1))]) dX12_pour_174 rfl (by omega) (by decide) rfl rfl rfl ?_
                            refine kx_goto 118 F dX12_pour_177 (by decide) ?_
                            refine kx_drop 7 (lo' := [some (vR G c0), some (vI a1), some (vI a2), some (vI a3), some (vI a4), some (vI a5), some (vI (x6_126 + 1)), none]) rfl ?_
                            exact ih_130 _ (by omega) (x6_126 + 1) N_143 hI_N_143 hF_N_143 (by omega) rfl
                      exact L_128 _ 0 M hI_M hF_M (by omega) rfl
                    · refine kx_aload_n 110 F 0 dX12_pour_109 rfl rfl rfl ?_
                      refine kx_iconst 111 F dX12_pour_110 rfl ?_
                      refine kx_Vi 114 (ci := 0) F (As := [vI 3]) (st := []) vd_X12_130 (c_X12_is G l M c0 3 hI_M hk_c0 (by omega)) hk_c0 rfl rfl rfl ⟨by decide, by decide⟩ rfl rfl (Nat.le_of_ble_eq_true rfl) dX12_pour_111 rfl ?_
                      intro r_144 N_145 q_146
                      obtain ⟨hI_N_145, hG_N_145, q_146c⟩ := q_146
                      have hF_N_145 : Fr f_c_X12_pour M N_145 := Fr.c hF_M hG_N_145 rfl
                      rcases q_146c with q_146c | q_146c
                      · exfalso; omega
                      · exact kx_zret F hQ (by omega) ⟨hI_N_145, hF_N_145, (by omega)⟩ dX12_pour_114
                · refine kx_aload_n 76 F 0 dX12_pour_75 rfl rfl rfl ?_
                  refine kx_bipush 78 F dX12_pour_76 (by decide) rfl ?_
                  refine kx_Vi 81 (ci := 0) F (As := [vI 8]) (st := []) vd_X12_130 (c_X12_is G l M c0 8 hI_M hk_c0 (by omega)) hk_c0 rfl rfl rfl ⟨by decide, by decide⟩ rfl rfl (Nat.le_of_ble_eq_true rfl) dX12_pour_78 rfl ?_
                  intro r_147 N_148 q_149
                  obtain ⟨hI_N_148, hG_N_148, q_149c⟩ := q_149
                  have hF_N_148 : Fr f_c_X12_pour M N_148 := Fr.c hF_M hG_N_148 rfl
                  rcases q_149c with q_149c | q_149c
                  · exfalso; omega
                  · exact kx_zret F hQ (by omega) ⟨hI_N_148, hF_N_148, (by omega)⟩ dX12_pour_81
              · refine kx_aload_n 55 F 0 dX12_pour_54 rfl rfl rfl ?_
                refine kx_iconst 56 F dX12_pour_55 rfl ?_
                refine kx_Vi 59 (ci := 0) F (As := [vI 2]) (st := []) vd_X12_130 (c_X12_is G l M c0 2 hI_M hk_c0 (by omega)) hk_c0 rfl rfl rfl ⟨by decide, by decide⟩ rfl rfl (Nat.le_of_ble_eq_true rfl) dX12_pour_56 rfl ?_
                intro r_150 N_151 q_152
                obtain ⟨hI_N_151, hG_N_151, q_152c⟩ := q_152
                have hF_N_151 : Fr f_c_X12_pour M N_151 := Fr.c hF_M hG_N_151 rfl
                rcases q_152c with q_152c | q_152c
                · exfalso; omega
                · exact kx_zret F hQ (by omega) ⟨hI_N_151, hF_N_151, (by omega)⟩ dX12_pour_59
          · refine kx_aload_n 29 F 0 dX12_pour_28 rfl rfl rfl ?_
            refine kx_iconst 30 F dX12_pour_29 rfl ?_
            refine kx_Vi 33 (ci := 0) F (As := [vI 1]) (st := []) vd_X12_130 (c_X12_is G l M c0 1 hI_M hk_c0 (by omega)) hk_c0 rfl rfl rfl ⟨by decide, by decide⟩ rfl rfl (Nat.le_of_ble_eq_true rfl) dX12_pour_30 rfl ?_
            intro r_153 N_154 q_155
            obtain ⟨hI_N_154, hG_N_154, q_155c⟩ := q_155
            have hF_N_154 : Fr f_c_X12_pour M N_154 := Fr.c hF_M hG_N_154 rfl
            rcases q_155c with q_155c | q_155c
            · exfalso; omega
            · exact kx_zret F hQ (by omega) ⟨hI_N_154, hF_N_154, (by omega)⟩ dX12_pour_33
    · refine kx_if_eq 14 F 28 dX12_pour_11 (by decide) rfl (by omega) (fun h_156 => ?_) (fun h_156 => (by exfalso; omega))
      refine kx_aload_n 29 F 0 dX12_pour_28 rfl rfl rfl ?_
      refine kx_iconst 30 F dX12_pour_29 rfl ?_
      refine kx_Vi 33 (ci := 0) F (As := [vI 1]) (st := []) vd_X12_130 (c_X12_is G l M c0 1 hI_M hk_c0 (by omega)) hk_c0 rfl rfl rfl ⟨by decide, by decide⟩ rfl rfl (Nat.le_of_ble_eq_true rfl) dX12_pour_30 rfl ?_
      intro r_157 N_158 q_159
      obtain ⟨hI_N_158, hG_N_158, q_159c⟩ := q_159
      have hF_N_158 : Fr f_c_X12_pour M N_158 := Fr.c hF_M hG_N_158 rfl
      rcases q_159c with q_159c | q_159c
      · exfalso; omega
      · exact kx_zret F hQ (by omega) ⟨hI_N_158, hF_N_158, (by omega)⟩ dX12_pour_33
  · refine kx_if_eq 7 F 28 dX12_pour_4 (by decide) rfl (by omega) (fun h_160 => ?_) (fun h_160 => (by exfalso; omega))
    refine kx_aload_n 29 F 0 dX12_pour_28 rfl rfl rfl ?_
    refine kx_iconst 30 F dX12_pour_29 rfl ?_
    refine kx_Vi 33 (ci := 0) F (As := [vI 1]) (st := []) vd_X12_130 (c_X12_is G l M c0 1 hI_M hk_c0 (by omega)) hk_c0 rfl rfl rfl ⟨by decide, by decide⟩ rfl rfl (Nat.le_of_ble_eq_true rfl) dX12_pour_30 rfl ?_
    intro r_161 N_162 q_163
    obtain ⟨hI_N_162, hG_N_162, q_163c⟩ := q_163
    have hF_N_162 : Fr f_c_X12_pour M N_162 := Fr.c hF_M hG_N_162 rfl
    rcases q_163c with q_163c | q_163c
    · exfalso; omega
    · exact kx_zret F hQ (by omega) ⟨hI_N_162, hF_N_162, (by omega)⟩ dX12_pour_33
theorem dX12_isFrom_0 : decode cX12_isFrom 0 = .ok (.lload_n 0, 1) := by decide +kernel
theorem dX12_isFrom_1 : decode cX12_isFrom 1 = .ok (.lload_n 2, 1) := by decide +kernel
theorem dX12_isFrom_2 : decode cX12_isFrom 2 = .ok (.lcmp, 1) := by decide +kernel
theorem dX12_isFrom_3 : decode cX12_isFrom 3 = .ok (.ifCond .lt 14, 3) := by decide +kernel
theorem dX12_isFrom_6 : decode cX12_isFrom 6 = .ok (.lload_n 0, 1) := by decide +kernel
theorem dX12_isFrom_7 : decode cX12_isFrom 7 = .ok (.lload 4, 2) := by decide +kernel
theorem dX12_isFrom_9 : decode cX12_isFrom 9 = .ok (.lcmp, 1) := by decide +kernel
theorem dX12_isFrom_10 : decode cX12_isFrom 10 = .ok (.ifCond .gt 7, 3) := by decide +kernel
theorem dX12_isFrom_13 : decode cX12_isFrom 13 = .ok (.iconst 1, 1) := by decide +kernel
theorem dX12_isFrom_14 : decode cX12_isFrom 14 = .ok (.goto 4, 3) := by decide +kernel
theorem dX12_isFrom_17 : decode cX12_isFrom 17 = .ok (.iconst 0, 1) := by decide +kernel
theorem dX12_isFrom_18 : decode cX12_isFrom 18 = .ok (.ireturn, 1) := by decide +kernel
set_option maxHeartbeats 4000000 in
set_option maxRecDepth 100000 in
theorem c_X12_isFrom (G : KG) (l : Launch) (M : Mem) (a0 : Int) (a1 : Int) (a2 : Int) (hI_M : Inv true M) (hpre : -9223372036854775808 ≤ a0 ∧ a0 ≤ 9223372036854775807 ∧ -9223372036854775808 ≤ a1 ∧ a1 ≤ 9223372036854775807 ∧ -9223372036854775808 ≤ a2 ∧ a2 ≤ 9223372036854775807) : KC true G l yX12_isFrom cX12_isFrom 6 (some .boolean) (0, 0) [vL a0, vL a1, vL a2] M (fun A => kQi true G A (fun (r : Int) (N : Mem) => M = N ∧ ((r = 1 ∧ a1 ≤ a0 ∧ a0 ≤ a2) ∨ (r = 0)))) := by
  refine kx_met (lo := [some (vL a0), none, some (vL a1), none, some (vL a2), none]) (by decide) (Nat.le_of_ble_eq_true rfl) rfl ?_
  intro X F hQ
  refine kx_lload_n 1 F 0 dX12_isFrom_0 rfl rfl rfl ?_
  refine kx_lload_n 2 F 2 dX12_isFrom_1 rfl rfl rfl ?_
  refine kx_lcmp 3 F dX12_isFrom_2 (by omega) (by omega) rfl (fun w_1 h_2 => ?_)
  refine kx_if_lt 6 F 17 dX12_isFrom_3 (by decide) rfl (by omega) (fun h_3 => ?_) (fun h_3 => ?_)
  · refine kx_iconst 18 F dX12_isFrom_17 rfl ?_
    exact kx_zret F hQ (by omega) ⟨rfl, (by omega)⟩ dX12_isFrom_18
  · refine kx_lload_n 7 F 0 dX12_isFrom_6 rfl rfl rfl ?_
    refine kx_lload 9 F 4 dX12_isFrom_7 rfl rfl ?_
    refine kx_lcmp 10 F dX12_isFrom_9 (by omega) (by omega) rfl (fun w_4 h_5 => ?_)
    refine kx_if_gt 13 F 17 dX12_isFrom_10 (by decide) rfl (by omega) (fun h_6 => ?_) (fun h_6 => ?_)
    · refine kx_iconst 18 F dX12_isFrom_17 rfl ?_
      exact kx_zret F hQ (by omega) ⟨rfl, (by omega)⟩ dX12_isFrom_18
    · refine kx_iconst 14 F dX12_isFrom_13 rfl ?_
      refine kx_goto 18 F dX12_isFrom_14 (by decide) ?_
      exact kx_zret F hQ (by omega) ⟨rfl, (by omega)⟩ dX12_isFrom_18
theorem dX12_four_0 : decode cX12_four 0 = .ok (.bipush 24, 2) := by decide +kernel
theorem dX12_four_2 : decode cX12_four 2 = .ok (.istore_n 2, 1) := by decide +kernel
theorem dX12_four_3 : decode cX12_four 3 = .ok (.iload_n 2, 1) := by decide +kernel
theorem dX12_four_4 : decode cX12_four 4 = .ok (.ifCond .lt 32, 3) := by decide +kernel
theorem dX12_four_7 : decode cX12_four 7 = .ok (.aload_n 0, 1) := by decide +kernel
theorem dX12_four_8 : decode cX12_four 8 = .ok (.getfield 30, 3) := by decide +kernel
theorem dX12_four_11 : decode cX12_four 11 = .ok (.aload_n 0, 1) := by decide +kernel
theorem dX12_four_12 : decode cX12_four 12 = .ok (.getfield 147, 3) := by decide +kernel
theorem dX12_four_15 : decode cX12_four 15 = .ok (.iload_n 1, 1) := by decide +kernel
theorem dX12_four_16 : decode cX12_four 16 = .ok (.iload_n 2, 1) := by decide +kernel
theorem dX12_four_17 : decode cX12_four 17 = .ok (.ishr, 1) := by decide +kernel
theorem dX12_four_18 : decode cX12_four 18 = .ok (.i2b, 1) := by decide +kernel
theorem dX12_four_19 : decode cX12_four 19 = .ok (.bastore, 1) := by decide +kernel
theorem dX12_four_20 : decode cX12_four 20 = .ok (.aload_n 0, 1) := by decide +kernel
theorem dX12_four_21 : decode cX12_four 21 = .ok (.dup, 1) := by decide +kernel
theorem dX12_four_22 : decode cX12_four 22 = .ok (.getfield 147, 3) := by decide +kernel
theorem dX12_four_25 : decode cX12_four 25 = .ok (.iconst 1, 1) := by decide +kernel
theorem dX12_four_26 : decode cX12_four 26 = .ok (.iadd, 1) := by decide +kernel
theorem dX12_four_27 : decode cX12_four 27 = .ok (.putfield 147, 3) := by decide +kernel
theorem dX12_four_30 : decode cX12_four 30 = .ok (.iinc 2 (-8), 3) := by decide +kernel
theorem dX12_four_33 : decode cX12_four 33 = .ok (.goto (-30), 3) := by decide +kernel
theorem dX12_four_36 : decode cX12_four 36 = .ok (.return_, 1) := by decide +kernel
abbrev f_c_X12_four : List (Nat × Int) := [(64, 10), (70, -1)]
set_option maxHeartbeats 4000000 in
set_option maxRecDepth 100000 in
theorem c_X12_four (G : KG) (l : Launch) (M : Mem) (c0 : Int) (a1 : Int) (hI_M : Inv true M) (hk_c0 : kd c0 = 64) (hpre : -2147483648 ≤ a1 ∧ a1 ≤ 2147483647 ∧ (M c0 10) ≤ 896) : KC true G l yX12_four cX12_four 3 none (0, 0) [vR G c0, vI a1] M (fun A => kQv true G A (fun (N : Mem) => Inv true N ∧ Fr f_c_X12_four M N ∧ ((N c0 10) = (M c0 10) + 4))) := by
  refine kx_met (lo := [some (vR G c0), some (vI a1), none]) (by decide) (Nat.le_of_ble_eq_true rfl) rfl ?_
  intro X F hQ
  have hF_M : Fr f_c_X12_four M M := Fr.rf _ _
  have h_1 := Inv.g hI_M hk_c0 rfl 10 (a := 0) (b := 900) rfl rfl
  refine kx_bipush 2 F dX12_four_0 (by decide) rfl ?_
  refine kx_istore_n 3 F 2 (lo' := [some (vR G c0), some (vI a1), some (vI 24)]) dX12_four_2 rfl (by decide) rfl rfl rfl ?_
  have L_66 : ∀ (n_67 : Nat) (x2_64 : Int) (N_65 : Mem), Inv true N_65 → Fr f_c_X12_four M N_65 → (-8) ≤ x2_64 ∧ x2_64 ≤ 24 ∧ 8 * (N_65 c0 10) + x2_64 = 8 * (M c0 10) + 24 → ((x2_64) - (-8)).toNat = n_67 → KJ true G X N_65 3 [some (vR G c0), some (vI a1), some (vI x2_64)] [] := by
    intro n_67
    refine Nat.strongRecOn n_67 ?_
    intro n_67 ih_68 x2_64 N_65 hI_N_65 hF_N_65 h_69 hm_70
    refine kx_iload_n 4 F 2 dX12_four_3 rfl rfl rfl ?_
    refine kx_if_lt 7 F 36 dX12_four_4 (by decide) rfl (by omega) (fun h_71 => ?_) (fun h_71 => ?_)
    · have h_72 := Inv.g hI_N_65 hk_c0 rfl 10 (a := 0) (b := 900) rfl rfl
      exact kx_vret F hQ ⟨hI_N_65, hF_N_65, (by omega)⟩ dX12_four_36
    · refine kx_aload_n 8 F 0 dX12_four_7 rfl rfl rfl ?_
      refine kx_getr 11 F fl_X12_30 hk_c0 rfl rfl (j := 8) rfl dX12_four_8 (v := (M c0 8)) (by rw [Fr.e hF_N_65 hk_c0 _ rfl]) rfl ?_
      have hk_73 : kd (M c0 8) = 70 := Inv.r hI_M hk_c0 rfl 8 rfl rfl
      refine kx_aload_n 12 F 0 dX12_four_11 rfl rfl rfl ?_
      refine kx_geti 15 F fl_X12_147 hk_c0 rfl rfl (j := 10) rfl dX12_four_12 (v := (N_65 c0 10)) rfl rfl ?_
      have h_74 := Inv.g hI_N_65 hk_c0 rfl 10 (a := 0) (b := 900) rfl rfl
      refine kx_iload_n 16 F 1 dX12_four_15 rfl rfl rfl ?_
      refine kx_iload_n 17 F 2 dX12_four_16 rfl rfl rfl ?_
      refine kx_ishr 18 F (v := (zshr a1 x2_64)) dX12_four_17 rfl rfl ?_
      have h_75 := zshr_rng a1 x2_64
      refine kx_i2b 19 F dX12_four_18 rfl (fun w_76 h_77 _ => ?_)
      refine kx_bast 20 F (by omega) hk_73 rfl rfl (by omega) (by decide) dX12_four_19 rfl ?_
      intro N_78 hM_N_78
      have hI_N_78 : Inv true N_78 := Inv.u hI_N_65 hM_N_78 hk_73 (a := (-128)) (b := 127) rfl rfl rfl (by omega)
      have hF_N_78 : Fr f_c_X12_four M N_78 := Fr.u hF_N_65 hM_N_78 hk_73 rfl
      refine kx_aload_n 21 F 0 dX12_four_20 rfl rfl rfl ?_
      refine kx_dup 22 F dX12_four_21 rfl rfl ?_
      refine kx_geti 25 F fl_X12_147 hk_c0 rfl rfl (j := 10) rfl dX12_four_22 (v := (N_65 c0 10)) (by rw [hM_N_78, mu_k hk_c0 hk_73 rfl]) rfl ?_
      refine kx_iconst 26 F dX12_four_25 rfl ?_
      refine kx_iadd 27 F (v := (N_65 c0 10) + 1) dX12_four_26 rfl rfl ?_
      refine kx_puti 30 F fw_X12_147 rfl hk_c0 rfl rfl (j := 10) rfl dX12_four_27 rfl ?_
      intro N_79 hM_N_79
      have hI_N_79 : Inv true N_79 := Inv.u hI_N_78 hM_N_79 hk_c0 (a := 0) (b := 900) rfl rfl rfl (by omega)
      have hF_N_79 : Fr f_c_X12_four M N_79 := Fr.u hF_N_78 hM_N_79 hk_c0 rfl
      refine kx_iinc 33 F 2 (v := x2_64 - 8) (lo' := [some (vR G c0), some (vI a1), some (vI (x2_64 - 8))]) dX12_four_30 rfl (by omega) (by decide) rfl rfl rfl ?_
      refine kx_goto 3 F dX12_four_33 (by decide) ?_
      have e_80 : (N_79 c0 10) = (N_65 c0 10) + 1 := by rw [hM_N_79, mu_s]
      exact ih_68 _ (by omega) (x2_64 - 8) N_79 hI_N_79 hF_N_79 (by omega) rfl
  exact L_66 _ 24 M hI_M hF_M (by omega) rfl
theorem dX12_feed_0 : decode cX12_feed 0 = .ok (.aload_n 0, 1) := by decide +kernel
theorem dX12_feed_1 : decode cX12_feed 1 = .ok (.getfield 147, 3) := by decide +kernel
theorem dX12_feed_4 : decode cX12_feed 4 = .ok (.bipush 20, 2) := by decide +kernel
theorem dX12_feed_6 : decode cX12_feed 6 = .ok (.iadd, 1) := by decide +kernel
theorem dX12_feed_7 : decode cX12_feed 7 = .ok (.sipush 900, 3) := by decide +kernel
theorem dX12_feed_10 : decode cX12_feed 10 = .ok (.if_icmp .le 5, 3) := by decide +kernel
theorem dX12_feed_13 : decode cX12_feed 13 = .ok (.iconst (-1), 1) := by decide +kernel
theorem dX12_feed_14 : decode cX12_feed 14 = .ok (.ireturn, 1) := by decide +kernel
theorem dX12_feed_15 : decode cX12_feed 15 = .ok (.aload_n 0, 1) := by decide +kernel
theorem dX12_feed_16 : decode cX12_feed 16 = .ok (.iload_n 1, 1) := by decide +kernel
theorem dX12_feed_17 : decode cX12_feed 17 = .ok (.invokevirtual 150, 3) := by decide +kernel
theorem dX12_feed_20 : decode cX12_feed 20 = .ok (.aload_n 0, 1) := by decide +kernel
theorem dX12_feed_21 : decode cX12_feed 21 = .ok (.iload_n 2, 1) := by decide +kernel
theorem dX12_feed_22 : decode cX12_feed 22 = .ok (.invokevirtual 150, 3) := by decide +kernel
theorem dX12_feed_25 : decode cX12_feed 25 = .ok (.aload_n 0, 1) := by decide +kernel
theorem dX12_feed_26 : decode cX12_feed 26 = .ok (.iload_n 3, 1) := by decide +kernel
theorem dX12_feed_27 : decode cX12_feed 27 = .ok (.invokevirtual 150, 3) := by decide +kernel
theorem dX12_feed_30 : decode cX12_feed 30 = .ok (.aload_n 0, 1) := by decide +kernel
theorem dX12_feed_31 : decode cX12_feed 31 = .ok (.iload 4, 2) := by decide +kernel
theorem dX12_feed_33 : decode cX12_feed 33 = .ok (.invokevirtual 150, 3) := by decide +kernel
theorem dX12_feed_36 : decode cX12_feed 36 = .ok (.aload_n 0, 1) := by decide +kernel
theorem dX12_feed_37 : decode cX12_feed 37 = .ok (.iload 5, 2) := by decide +kernel
theorem dX12_feed_39 : decode cX12_feed 39 = .ok (.invokevirtual 150, 3) := by decide +kernel
theorem dX12_feed_42 : decode cX12_feed 42 = .ok (.aload_n 0, 1) := by decide +kernel
theorem dX12_feed_43 : decode cX12_feed 43 = .ok (.getfield 147, 3) := by decide +kernel
theorem dX12_feed_46 : decode cX12_feed 46 = .ok (.ireturn, 1) := by decide +kernel
abbrev f_c_X12_feed : List (Nat × Int) := [(64, 10), (70, -1)]
set_option maxHeartbeats 4000000 in
set_option maxRecDepth 100000 in
theorem c_X12_feed (G : KG) (l : Launch) (M : Mem) (c0 : Int) (a1 : Int) (a2 : Int) (a3 : Int) (a4 : Int) (a5 : Int) (hI_M : Inv true M) (hk_c0 : kd c0 = 64) (hpre : -2147483648 ≤ a1 ∧ a1 ≤ 2147483647 ∧ -2147483648 ≤ a2 ∧ a2 ≤ 2147483647 ∧ -2147483648 ≤ a3 ∧ a3 ≤ 2147483647 ∧ -2147483648 ≤ a4 ∧ a4 ≤ 2147483647 ∧ -2147483648 ≤ a5 ∧ a5 ≤ 2147483647) : KC true G l yX12_feed cX12_feed 6 (some .int) (1, 22) [vR G c0, vI a1, vI a2, vI a3, vI a4, vI a5] M (fun A => kQi true G A (fun (r : Int) (N : Mem) => Inv true N ∧ Fr f_c_X12_feed M N ∧ (r ≥ -1 ∧ r ≤ 900))) := by
  refine kx_met (lo := [some (vR G c0), some (vI a1), some (vI a2), some (vI a3), some (vI a4), some (vI a5)]) (by decide) (Nat.le_of_ble_eq_true rfl) rfl ?_
  intro X F hQ
  have hF_M : Fr f_c_X12_feed M M := Fr.rf _ _
  refine kx_aload_n 1 F 0 dX12_feed_0 rfl rfl rfl ?_
  refine kx_geti 4 F fl_X12_147 hk_c0 rfl rfl (j := 10) rfl dX12_feed_1 (v := (M c0 10)) rfl rfl ?_
  have h_1 := Inv.g hI_M hk_c0 rfl 10 (a := 0) (b := 900) rfl rfl
  refine kx_bipush 6 F dX12_feed_4 (by decide) rfl ?_
  refine kx_iadd 7 F (v := (M c0 10) + 20) dX12_feed_6 rfl rfl ?_
  refine kx_sipush 10 F dX12_feed_7 (by decide) rfl ?_
  refine kx_icmp_le 13 F 15 dX12_feed_10 (by decide) rfl (by omega) (by decide) (fun h_2 => ?_) (fun h_2 => ?_)
  · refine kx_aload_n 16 F 0 dX12_feed_15 rfl rfl rfl ?_
    refine kx_iload_n 17 F 1 dX12_feed_16 rfl rfl rfl ?_
    refine kx_Vv 20 (ci := 0) F (As := [vI a1]) (st := []) vd_X12_150 (c_X12_four G l M c0 a1 hI_M hk_c0 (by omega)) hk_c0 rfl rfl rfl ⟨by decide, by decide⟩ rfl rfl (Nat.le_of_ble_eq_true rfl) dX12_feed_17 rfl ?_
    intro N_3 q_4
    obtain ⟨hI_N_3, hG_N_3, q_4c⟩ := q_4
    have hF_N_3 : Fr f_c_X12_feed M N_3 := Fr.c hF_M hG_N_3 rfl
    have h_5 := Inv.g hI_N_3 hk_c0 rfl 10 (a := 0) (b := 900) rfl rfl
    refine kx_aload_n 21 F 0 dX12_feed_20 rfl rfl rfl ?_
    refine kx_iload_n 22 F 2 dX12_feed_21 rfl rfl rfl ?_
    refine kx_Vv 25 (ci := 0) F (As := [vI a2]) (st := []) vd_X12_150 (c_X12_four G l N_3 c0 a2 hI_N_3 hk_c0 (by omega)) hk_c0 rfl rfl rfl ⟨by decide, by decide⟩ rfl rfl (Nat.le_of_ble_eq_true rfl) dX12_feed_22 rfl ?_
    intro N_6 q_7
    obtain ⟨hI_N_6, hG_N_6, q_7c⟩ := q_7
    have hF_N_6 : Fr f_c_X12_feed M N_6 := Fr.c hF_N_3 hG_N_6 rfl
    have h_8 := Inv.g hI_N_6 hk_c0 rfl 10 (a := 0) (b := 900) rfl rfl
    refine kx_aload_n 26 F 0 dX12_feed_25 rfl rfl rfl ?_
    refine kx_iload_n 27 F 3 dX12_feed_26 rfl rfl rfl ?_
    refine kx_Vv 30 (ci := 0) F (As := [vI a3]) (st := []) vd_X12_150 (c_X12_four G l N_6 c0 a3 hI_N_6 hk_c0 (by omega)) hk_c0 rfl rfl rfl ⟨by decide, by decide⟩ rfl rfl (Nat.le_of_ble_eq_true rfl) dX12_feed_27 rfl ?_
    intro N_9 q_10
    obtain ⟨hI_N_9, hG_N_9, q_10c⟩ := q_10
    have hF_N_9 : Fr f_c_X12_feed M N_9 := Fr.c hF_N_6 hG_N_9 rfl
    have h_11 := Inv.g hI_N_9 hk_c0 rfl 10 (a := 0) (b := 900) rfl rfl
    refine kx_aload_n 31 F 0 dX12_feed_30 rfl rfl rfl ?_
    refine kx_iload 33 F 4 dX12_feed_31 rfl rfl ?_
    refine kx_Vv 36 (ci := 0) F (As := [vI a4]) (st := []) vd_X12_150 (c_X12_four G l N_9 c0 a4 hI_N_9 hk_c0 (by omega)) hk_c0 rfl rfl rfl ⟨by decide, by decide⟩ rfl rfl (Nat.le_of_ble_eq_true rfl) dX12_feed_33 rfl ?_
    intro N_12 q_13
    obtain ⟨hI_N_12, hG_N_12, q_13c⟩ := q_13
    have hF_N_12 : Fr f_c_X12_feed M N_12 := Fr.c hF_N_9 hG_N_12 rfl
    have h_14 := Inv.g hI_N_12 hk_c0 rfl 10 (a := 0) (b := 900) rfl rfl
    refine kx_aload_n 37 F 0 dX12_feed_36 rfl rfl rfl ?_
    refine kx_iload 39 F 5 dX12_feed_37 rfl rfl ?_
    refine kx_Vv 42 (ci := 0) F (As := [vI a5]) (st := []) vd_X12_150 (c_X12_four G l N_12 c0 a5 hI_N_12 hk_c0 (by omega)) hk_c0 rfl rfl rfl ⟨by decide, by decide⟩ rfl rfl (Nat.le_of_ble_eq_true rfl) dX12_feed_39 rfl ?_
    intro N_15 q_16
    obtain ⟨hI_N_15, hG_N_15, q_16c⟩ := q_16
    have hF_N_15 : Fr f_c_X12_feed M N_15 := Fr.c hF_N_12 hG_N_15 rfl
    have h_17 := Inv.g hI_N_15 hk_c0 rfl 10 (a := 0) (b := 900) rfl rfl
    refine kx_aload_n 43 F 0 dX12_feed_42 rfl rfl rfl ?_
    refine kx_geti 46 F fl_X12_147 hk_c0 rfl rfl (j := 10) rfl dX12_feed_43 (v := (N_15 c0 10)) rfl rfl ?_
    exact kx_iret F hQ ⟨hI_N_15, hF_N_15, (by omega)⟩ dX12_feed_46
  · refine kx_iconst 14 F dX12_feed_13 rfl ?_
    exact kx_iret F hQ ⟨hI_M, hF_M, (by omega)⟩ dX12_feed_14
theorem dX12_byteAt_0 : decode cX12_byteAt 0 = .ok (.iload_n 1, 1) := by decide +kernel
theorem dX12_byteAt_1 : decode cX12_byteAt 1 = .ok (.aload_n 0, 1) := by decide +kernel
theorem dX12_byteAt_2 : decode cX12_byteAt 2 = .ok (.getfield 153, 3) := by decide +kernel
theorem dX12_byteAt_5 : decode cX12_byteAt 5 = .ok (.if_icmp .ge 16, 3) := by decide +kernel
theorem dX12_byteAt_8 : decode cX12_byteAt 8 = .ok (.aload_n 0, 1) := by decide +kernel
theorem dX12_byteAt_9 : decode cX12_byteAt 9 = .ok (.getfield 34, 3) := by decide +kernel
theorem dX12_byteAt_12 : decode cX12_byteAt 12 = .ok (.iload_n 1, 1) := by decide +kernel
theorem dX12_byteAt_13 : decode cX12_byteAt 13 = .ok (.baload, 1) := by decide +kernel
theorem dX12_byteAt_14 : decode cX12_byteAt 14 = .ok (.sipush 255, 3) := by decide +kernel
theorem dX12_byteAt_17 : decode cX12_byteAt 17 = .ok (.iand, 1) := by decide +kernel
theorem dX12_byteAt_18 : decode cX12_byteAt 18 = .ok (.goto 4, 3) := by decide +kernel
theorem dX12_byteAt_21 : decode cX12_byteAt 21 = .ok (.iconst (-1), 1) := by decide +kernel
theorem dX12_byteAt_22 : decode cX12_byteAt 22 = .ok (.ireturn, 1) := by decide +kernel
set_option maxHeartbeats 4000000 in
set_option maxRecDepth 100000 in
theorem c_X12_byteAt (G : KG) (l : Launch) (M : Mem) (c0 : Int) (a1 : Int) (hI_M : Inv true M) (hk_c0 : kd c0 = 64) (hpre : -2147483648 ≤ a1 ∧ a1 ≤ 2147483647 ∧ 0 ≤ a1) : KC true G l yX12_byteAt cX12_byteAt 2 (some .int) (0, 0) [vR G c0, vI a1] M (fun A => kQi true G A (fun (r : Int) (N : Mem) => M = N ∧ ((r = -1) ∨ (r ≥ 0 ∧ r ≤ 255 ∧ a1 < (M c0 11))))) := by
  refine kx_met (lo := [some (vR G c0), some (vI a1)]) (by decide) (Nat.le_of_ble_eq_true rfl) rfl ?_
  intro X F hQ
  refine kx_iload_n 1 F 1 dX12_byteAt_0 rfl rfl rfl ?_
  refine kx_aload_n 2 F 0 dX12_byteAt_1 rfl rfl rfl ?_
  refine kx_geti 5 F fl_X12_153 hk_c0 rfl rfl (j := 11) rfl dX12_byteAt_2 (v := (M c0 11)) rfl rfl ?_
  have h_1 := Inv.g hI_M hk_c0 rfl 11 (a := 0) (b := 900) rfl rfl
  refine kx_icmp_ge 8 F 21 dX12_byteAt_5 (by decide) rfl (by omega) (by omega) (fun h_2 => ?_) (fun h_2 => ?_)
  · refine kx_iconst 22 F dX12_byteAt_21 rfl ?_
    exact kx_iret F hQ ⟨rfl, (by omega)⟩ dX12_byteAt_22
  · refine kx_aload_n 9 F 0 dX12_byteAt_8 rfl rfl rfl ?_
    refine kx_getr 12 F fl_X12_34 hk_c0 rfl rfl (j := 9) rfl dX12_byteAt_9 (v := (M c0 9)) rfl rfl ?_
    have hk_3 : kd (M c0 9) = 71 := Inv.r hI_M hk_c0 rfl 9 rfl rfl
    refine kx_iload_n 13 F 1 dX12_byteAt_12 rfl rfl rfl ?_
    refine kx_bald 14 F hk_3 rfl rfl (by omega) (by decide) dX12_byteAt_13 (v := (M (M c0 9) a1)) rfl rfl ?_
    have h_4 := Inv.g hI_M hk_3 rfl a1 (a := (-128)) (b := 127) rfl rfl
    refine kx_sipush 17 F dX12_byteAt_14 (by decide) rfl ?_
    refine kx_iand 18 F (v := (zand (M (M c0 9) a1) 255)) dX12_byteAt_17 rfl rfl ?_
    have h_5 := zand_r (a := (M (M c0 9) a1)) (b := 255) (by omega)
    refine kx_goto 22 F dX12_byteAt_18 (by decide) ?_
    exact kx_iret F hQ ⟨rfl, (by omega)⟩ dX12_byteAt_22
theorem dX12_isSmall_0 : decode cX12_isSmall 0 = .ok (.iload_n 0, 1) := by decide +kernel
theorem dX12_isSmall_1 : decode cX12_isSmall 1 = .ok (.bipush 97, 2) := by decide +kernel
theorem dX12_isSmall_3 : decode cX12_isSmall 3 = .ok (.if_icmp .lt 13, 3) := by decide +kernel
theorem dX12_isSmall_6 : decode cX12_isSmall 6 = .ok (.iload_n 0, 1) := by decide +kernel
theorem dX12_isSmall_7 : decode cX12_isSmall 7 = .ok (.bipush 122, 2) := by decide +kernel
theorem dX12_isSmall_9 : decode cX12_isSmall 9 = .ok (.if_icmp .gt 7, 3) := by decide +kernel
theorem dX12_isSmall_12 : decode cX12_isSmall 12 = .ok (.iconst 1, 1) := by decide +kernel
theorem dX12_isSmall_13 : decode cX12_isSmall 13 = .ok (.goto 4, 3) := by decide +kernel
theorem dX12_isSmall_16 : decode cX12_isSmall 16 = .ok (.iconst 0, 1) := by decide +kernel
theorem dX12_isSmall_17 : decode cX12_isSmall 17 = .ok (.ireturn, 1) := by decide +kernel
set_option maxHeartbeats 4000000 in
set_option maxRecDepth 100000 in
theorem c_X12_isSmall (G : KG) (l : Launch) (M : Mem) (a0 : Int) (hI_M : Inv true M) (hpre : -2147483648 ≤ a0 ∧ a0 ≤ 2147483647) : KC true G l yX12_isSmall cX12_isSmall 1 (some .boolean) (0, 0) [vI a0] M (fun A => kQi true G A (fun (r : Int) (N : Mem) => M = N ∧ ((r = 1 ∧ 97 ≤ a0 ∧ a0 ≤ 122) ∨ (r = 0)))) := by
  refine kx_met (lo := [some (vI a0)]) (by decide) (Nat.le_of_ble_eq_true rfl) rfl ?_
  intro X F hQ
  refine kx_iload_n 1 F 0 dX12_isSmall_0 rfl rfl rfl ?_
  refine kx_bipush 3 F dX12_isSmall_1 (by decide) rfl ?_
  refine kx_icmp_lt 6 F 16 dX12_isSmall_3 (by decide) rfl (by omega) (by decide) (fun h_1 => ?_) (fun h_1 => ?_)
  · refine kx_iconst 17 F dX12_isSmall_16 rfl ?_
    exact kx_zret F hQ (by omega) ⟨rfl, (by omega)⟩ dX12_isSmall_17
  · refine kx_iload_n 7 F 0 dX12_isSmall_6 rfl rfl rfl ?_
    refine kx_bipush 9 F dX12_isSmall_7 (by decide) rfl ?_
    refine kx_icmp_gt 12 F 16 dX12_isSmall_9 (by decide) rfl (by omega) (by decide) (fun h_2 => ?_) (fun h_2 => ?_)
    · refine kx_iconst 17 F dX12_isSmall_16 rfl ?_
      exact kx_zret F hQ (by omega) ⟨rfl, (by omega)⟩ dX12_isSmall_17
    · refine kx_iconst 13 F dX12_isSmall_12 rfl ?_
      refine kx_goto 17 F dX12_isSmall_13 (by decide) ?_
      exact kx_zret F hQ (by omega) ⟨rfl, (by omega)⟩ dX12_isSmall_17
theorem dX12_isDigit_0 : decode cX12_isDigit 0 = .ok (.iload_n 0, 1) := by decide +kernel
theorem dX12_isDigit_1 : decode cX12_isDigit 1 = .ok (.bipush 48, 2) := by decide +kernel
theorem dX12_isDigit_3 : decode cX12_isDigit 3 = .ok (.if_icmp .lt 13, 3) := by decide +kernel
theorem dX12_isDigit_6 : decode cX12_isDigit 6 = .ok (.iload_n 0, 1) := by decide +kernel
theorem dX12_isDigit_7 : decode cX12_isDigit 7 = .ok (.bipush 57, 2) := by decide +kernel
theorem dX12_isDigit_9 : decode cX12_isDigit 9 = .ok (.if_icmp .gt 7, 3) := by decide +kernel
theorem dX12_isDigit_12 : decode cX12_isDigit 12 = .ok (.iconst 1, 1) := by decide +kernel
theorem dX12_isDigit_13 : decode cX12_isDigit 13 = .ok (.goto 4, 3) := by decide +kernel
theorem dX12_isDigit_16 : decode cX12_isDigit 16 = .ok (.iconst 0, 1) := by decide +kernel
theorem dX12_isDigit_17 : decode cX12_isDigit 17 = .ok (.ireturn, 1) := by decide +kernel
set_option maxHeartbeats 4000000 in
set_option maxRecDepth 100000 in
theorem c_X12_isDigit (G : KG) (l : Launch) (M : Mem) (a0 : Int) (hI_M : Inv true M) (hpre : -2147483648 ≤ a0 ∧ a0 ≤ 2147483647) : KC true G l yX12_isDigit cX12_isDigit 1 (some .boolean) (0, 0) [vI a0] M (fun A => kQi true G A (fun (r : Int) (N : Mem) => M = N ∧ ((r = 1 ∧ 48 ≤ a0 ∧ a0 ≤ 57) ∨ (r = 0)))) := by
  refine kx_met (lo := [some (vI a0)]) (by decide) (Nat.le_of_ble_eq_true rfl) rfl ?_
  intro X F hQ
  refine kx_iload_n 1 F 0 dX12_isDigit_0 rfl rfl rfl ?_
  refine kx_bipush 3 F dX12_isDigit_1 (by decide) rfl ?_
  refine kx_icmp_lt 6 F 16 dX12_isDigit_3 (by decide) rfl (by omega) (by decide) (fun h_1 => ?_) (fun h_1 => ?_)
  · refine kx_iconst 17 F dX12_isDigit_16 rfl ?_
    exact kx_zret F hQ (by omega) ⟨rfl, (by omega)⟩ dX12_isDigit_17
  · refine kx_iload_n 7 F 0 dX12_isDigit_6 rfl rfl rfl ?_
    refine kx_bipush 9 F dX12_isDigit_7 (by decide) rfl ?_
    refine kx_icmp_gt 12 F 16 dX12_isDigit_9 (by decide) rfl (by omega) (by decide) (fun h_2 => ?_) (fun h_2 => ?_)
    · refine kx_iconst 17 F dX12_isDigit_16 rfl ?_
      exact kx_zret F hQ (by omega) ⟨rfl, (by omega)⟩ dX12_isDigit_17
    · refine kx_iconst 13 F dX12_isDigit_12 rfl ?_
      refine kx_goto 17 F dX12_isDigit_13 (by decide) ?_
      exact kx_zret F hQ (by omega) ⟨rfl, (by omega)⟩ dX12_isDigit_17
theorem dX12_fault_0 : decode cX12_fault 0 = .ok (.iload_n 1, 1) := by decide +kernel
theorem dX12_fault_1 : decode cX12_fault 1 = .ok (.ifCond .ne 10, 3) := by decide +kernel
theorem dX12_fault_4 : decode cX12_fault 4 = .ok (.aload_n 0, 1) := by decide +kernel
theorem dX12_fault_5 : decode cX12_fault 5 = .ok (.getfield 37, 3) := by decide +kernel
theorem dX12_fault_8 : decode cX12_fault 8 = .ok (.goto 16, 3) := by decide +kernel
theorem dX12_fault_11 : decode cX12_fault 11 = .ok (.iload_n 1, 1) := by decide +kernel
theorem dX12_fault_12 : decode cX12_fault 12 = .ok (.iconst 1, 1) := by decide +kernel
theorem dX12_fault_13 : decode cX12_fault 13 = .ok (.if_icmp .ne 10, 3) := by decide +kernel
theorem dX12_fault_16 : decode cX12_fault 16 = .ok (.aload_n 0, 1) := by decide +kernel
theorem dX12_fault_17 : decode cX12_fault 17 = .ok (.getfield 41, 3) := by decide +kernel
theorem dX12_fault_20 : decode cX12_fault 20 = .ok (.goto 4, 3) := by decide +kernel
theorem dX12_fault_23 : decode cX12_fault 23 = .ok (.iconst (-1), 1) := by decide +kernel
theorem dX12_fault_24 : decode cX12_fault 24 = .ok (.ireturn, 1) := by decide +kernel
set_option maxHeartbeats 4000000 in
set_option maxRecDepth 100000 in
theorem c_X12_fault (G : KG) (l : Launch) (M : Mem) (c0 : Int) (a1 : Int) (hI_M : Inv true M) (hk_c0 : kd c0 = 64) (hpre : -2147483648 ≤ a1 ∧ a1 ≤ 2147483647) : KC true G l yX12_fault cX12_fault 2 (some .int) (0, 0) [vR G c0, vI a1] M (fun A => kQi true G A (fun (r : Int) (N : Mem) => M = N ∧ (r ≥ -2147483648 ∧ r ≤ 2147483647))) := by
  refine kx_met (lo := [some (vR G c0), some (vI a1)]) (by decide) (Nat.le_of_ble_eq_true rfl) rfl ?_
  intro X F hQ
  refine kx_iload_n 1 F 1 dX12_fault_0 rfl rfl rfl ?_
  refine kx_if_ne 4 F 11 dX12_fault_1 (by decide) rfl (by omega) (fun h_1 => ?_) (fun h_1 => ?_)
  · refine kx_iload_n 12 F 1 dX12_fault_11 rfl rfl rfl ?_
    refine kx_iconst 13 F dX12_fault_12 rfl ?_
    refine kx_icmp_ne 16 F 23 dX12_fault_13 (by decide) rfl (by omega) (by decide) (fun h_2 => ?_) (fun h_2 => ?_)
    · refine kx_iconst 24 F dX12_fault_23 rfl ?_
      exact kx_iret F hQ ⟨rfl, (by omega)⟩ dX12_fault_24
    · refine kx_aload_n 17 F 0 dX12_fault_16 rfl rfl rfl ?_
      refine kx_geti 20 F fl_X12_41 hk_c0 rfl rfl (j := 17) rfl dX12_fault_17 (v := (M c0 17)) rfl rfl ?_
      have h_3 := Inv.g hI_M hk_c0 rfl 17 (a := (-2147483648)) (b := 2147483647) rfl rfl
      refine kx_goto 24 F dX12_fault_20 (by decide) ?_
      exact kx_iret F hQ ⟨rfl, (by omega)⟩ dX12_fault_24
  · refine kx_aload_n 5 F 0 dX12_fault_4 rfl rfl rfl ?_
    refine kx_geti 8 F fl_X12_37 hk_c0 rfl rfl (j := 16) rfl dX12_fault_5 (v := (M c0 16)) rfl rfl ?_
    have h_4 := Inv.g hI_M hk_c0 rfl 16 (a := (-2147483648)) (b := 2147483647) rfl rfl
    refine kx_goto 24 F dX12_fault_8 (by decide) ?_
    exact kx_iret F hQ ⟨rfl, (by omega)⟩ dX12_fault_24
theorem dX12_rowOf_0 : decode cX12_rowOf 0 = .ok (.iload_n 0, 1) := by decide +kernel
theorem dX12_rowOf_1 : decode cX12_rowOf 1 = .ok (.bipush 100, 2) := by decide +kernel
theorem dX12_rowOf_3 : decode cX12_rowOf 3 = .ok (.iadd, 1) := by decide +kernel
theorem dX12_rowOf_4 : decode cX12_rowOf 4 = .ok (.bipush 85, 2) := by decide +kernel
theorem dX12_rowOf_6 : decode cX12_rowOf 6 = .ok (.iload_n 1, 1) := by decide +kernel
theorem dX12_rowOf_7 : decode cX12_rowOf 7 = .ok (.imul, 1) := by decide +kernel
theorem dX12_rowOf_8 : decode cX12_rowOf 8 = .ok (.iadd, 1) := by decide +kernel
theorem dX12_rowOf_9 : decode cX12_rowOf 9 = .ok (.ireturn, 1) := by decide +kernel
set_option maxHeartbeats 4000000 in
set_option maxRecDepth 100000 in
theorem c_X12_rowOf (G : KG) (l : Launch) (M : Mem) (a0 : Int) (a1 : Int) (hI_M : Inv true M) (hpre : -2147483648 ≤ a0 ∧ a0 ≤ 2147483647 ∧ -2147483648 ≤ a1 ∧ a1 ≤ 2147483647 ∧ 0 ≤ a0 ∧ a0 ≤ 1088 ∧ 0 ≤ a1 ∧ a1 ≤ 2) : KC true G l yX12_rowOf cX12_rowOf 2 (some .int) (0, 0) [vI a0, vI a1] M (fun A => kQi true G A (fun (r : Int) (N : Mem) => M = N ∧ (r = a0 + 85 * a1 + 100))) := by
  refine kx_met (lo := [some (vI a0), some (vI a1)]) (by decide) (Nat.le_of_ble_eq_true rfl) rfl ?_
  intro X F hQ
  refine kx_iload_n 1 F 0 dX12_rowOf_0 rfl rfl rfl ?_
  refine kx_bipush 3 F dX12_rowOf_1 (by decide) rfl ?_
  refine kx_iadd 4 F (v := a0 + 100) dX12_rowOf_3 rfl rfl ?_
  refine kx_bipush 6 F dX12_rowOf_4 (by decide) rfl ?_
  refine kx_iload_n 7 F 1 dX12_rowOf_6 rfl rfl rfl ?_
  refine kx_imul 8 F (v := 85 * a1) dX12_rowOf_7 (by omega) rfl ?_
  refine kx_iadd 9 F (v := a0 + 85 * a1 + 100) dX12_rowOf_8 (by omega) rfl ?_
  exact kx_iret F hQ ⟨rfl, (by omega)⟩ dX12_rowOf_9
theorem dX12_ruleRow_0 : decode cX12_ruleRow 0 = .ok (.iload_n 0, 1) := by decide +kernel
theorem dX12_ruleRow_1 : decode cX12_ruleRow 1 = .ok (.iload_n 1, 1) := by decide +kernel
theorem dX12_ruleRow_2 : decode cX12_ruleRow 2 = .ok (.invokestatic 216, 3) := by decide +kernel
theorem dX12_ruleRow_5 : decode cX12_ruleRow 5 = .ok (.iconst 5, 1) := by decide +kernel
theorem dX12_ruleRow_6 : decode cX12_ruleRow 6 = .ok (.iadd, 1) := by decide +kernel
theorem dX12_ruleRow_7 : decode cX12_ruleRow 7 = .ok (.iconst 4, 1) := by decide +kernel
theorem dX12_ruleRow_8 : decode cX12_ruleRow 8 = .ok (.iload_n 2, 1) := by decide +kernel
theorem dX12_ruleRow_9 : decode cX12_ruleRow 9 = .ok (.imul, 1) := by decide +kernel
theorem dX12_ruleRow_10 : decode cX12_ruleRow 10 = .ok (.iadd, 1) := by decide +kernel
theorem dX12_ruleRow_11 : decode cX12_ruleRow 11 = .ok (.ireturn, 1) := by decide +kernel
set_option maxHeartbeats 4000000 in
set_option maxRecDepth 100000 in
theorem c_X12_ruleRow (G : KG) (l : Launch) (M : Mem) (a0 : Int) (a1 : Int) (a2 : Int) (hI_M : Inv true M) (hpre : -2147483648 ≤ a0 ∧ a0 ≤ 2147483647 ∧ -2147483648 ≤ a1 ∧ a1 ≤ 2147483647 ∧ -2147483648 ≤ a2 ∧ a2 ≤ 2147483647 ∧ 0 ≤ a0 ∧ a0 ≤ 1088 ∧ 0 ≤ a1 ∧ a1 ≤ 2 ∧ 0 ≤ a2 ∧ a2 ≤ 20) : KC true G l yX12_ruleRow cX12_ruleRow 3 (some .int) (1, 21) [vI a0, vI a1, vI a2] M (fun A => kQi true G A (fun (r : Int) (N : Mem) => M = N ∧ (r = a0 + 85 * a1 + 4 * a2 + 105))) := by
  refine kx_met (lo := [some (vI a0), some (vI a1), some (vI a2)]) (by decide) (Nat.le_of_ble_eq_true rfl) rfl ?_
  intro X F hQ
  refine kx_iload_n 1 F 0 dX12_ruleRow_0 rfl rfl rfl ?_
  refine kx_iload_n 2 F 1 dX12_ruleRow_1 rfl rfl rfl ?_
  refine kx_Si 5 F (As := [vI a0, vI a1]) (st := []) sd_X12_216 (c_X12_rowOf G l M a0 a1 hI_M (by omega)) ⟨by decide, by decide⟩ rfl rfl (Nat.le_of_ble_eq_true rfl) dX12_ruleRow_2 rfl ?_
  intro r_1 N_2 q_3
  obtain ⟨rfl, q_3c⟩ := q_3
  refine kx_topi (e' := a0 + 85 * a1 + 100) (by omega) ?_
  refine kx_iconst 6 F dX12_ruleRow_5 rfl ?_
  refine kx_iadd 7 F (v := a0 + 85 * a1 + 105) dX12_ruleRow_6 (by omega) rfl ?_
  refine kx_iconst 8 F dX12_ruleRow_7 rfl ?_
  refine kx_iload_n 9 F 2 dX12_ruleRow_8 rfl rfl rfl ?_
  refine kx_imul 10 F (v := 4 * a2) dX12_ruleRow_9 (by omega) rfl ?_
  refine kx_iadd 11 F (v := a0 + 85 * a1 + 4 * a2 + 105) dX12_ruleRow_10 (by omega) rfl ?_
  exact kx_iret F hQ ⟨rfl, (by omega)⟩ dX12_ruleRow_11
theorem dX12_isIn_0 : decode cX12_isIn 0 = .ok (.iload_n 1, 1) := by decide +kernel
theorem dX12_isIn_1 : decode cX12_isIn 1 = .ok (.iload_n 2, 1) := by decide +kernel
theorem dX12_isIn_2 : decode cX12_isIn 2 = .ok (.ishr, 1) := by decide +kernel
theorem dX12_isIn_3 : decode cX12_isIn 3 = .ok (.iconst 1, 1) := by decide +kernel
theorem dX12_isIn_4 : decode cX12_isIn 4 = .ok (.iand, 1) := by decide +kernel
theorem dX12_isIn_5 : decode cX12_isIn 5 = .ok (.iconst 1, 1) := by decide +kernel
theorem dX12_isIn_6 : decode cX12_isIn 6 = .ok (.if_icmp .ne 7, 3) := by decide +kernel
theorem dX12_isIn_9 : decode cX12_isIn 9 = .ok (.iconst 1, 1) := by decide +kernel
theorem dX12_isIn_10 : decode cX12_isIn 10 = .ok (.goto 4, 3) := by decide +kernel
theorem dX12_isIn_13 : decode cX12_isIn 13 = .ok (.iconst 0, 1) := by decide +kernel
theorem dX12_isIn_14 : decode cX12_isIn 14 = .ok (.ireturn, 1) := by decide +kernel
set_option maxHeartbeats 4000000 in
set_option maxRecDepth 100000 in
theorem c_X12_isIn (G : KG) (l : Launch) (M : Mem) (c0 : Int) (a1 : Int) (a2 : Int) (hI_M : Inv true M) (hk_c0 : kd c0 = 64) (hpre : -2147483648 ≤ a1 ∧ a1 ≤ 2147483647 ∧ -2147483648 ≤ a2 ∧ a2 ≤ 2147483647) : KC true G l yX12_isIn cX12_isIn 3 (some .boolean) (0, 0) [vR G c0, vI a1, vI a2] M (fun A => kQi true G A (fun (r : Int) (N : Mem) => M = N ∧ (0 ≤ r ∧ r ≤ 1))) := by
  refine kx_met (lo := [some (vR G c0), some (vI a1), some (vI a2)]) (by decide) (Nat.le_of_ble_eq_true rfl) rfl ?_
  intro X F hQ
  refine kx_iload_n 1 F 1 dX12_isIn_0 rfl rfl rfl ?_
  refine kx_iload_n 2 F 2 dX12_isIn_1 rfl rfl rfl ?_
  refine kx_ishr 3 F (v := (zshr a1 a2)) dX12_isIn_2 rfl rfl ?_
  have h_1 := zshr_rng a1 a2
  refine kx_iconst 4 F dX12_isIn_3 rfl ?_
  refine kx_iand 5 F (v := (zand (zshr a1 a2) 1)) dX12_isIn_4 rfl rfl ?_
  have h_2 := zand_r (a := (zshr a1 a2)) (b := 1) (by omega)
  refine kx_iconst 6 F dX12_isIn_5 rfl ?_
  refine kx_icmp_ne 9 F 13 dX12_isIn_6 (by decide) rfl (by omega) (by decide) (fun h_3 => ?_) (fun h_3 => ?_)
  · refine kx_iconst 14 F dX12_isIn_13 rfl ?_
    exact kx_zret F hQ (by omega) ⟨rfl, (by omega)⟩ dX12_isIn_14
  · refine kx_iconst 10 F dX12_isIn_9 rfl ?_
    refine kx_goto 14 F dX12_isIn_10 (by decide) ?_
    exact kx_zret F hQ (by omega) ⟨rfl, (by omega)⟩ dX12_isIn_14
theorem dX12_isAutomaton_0 : decode cX12_isAutomaton 0 = .ok (.iload_n 1, 1) := by decide +kernel
theorem dX12_isAutomaton_1 : decode cX12_isAutomaton 1 = .ok (.ifCond .lt 17, 3) := by decide +kernel
theorem dX12_isAutomaton_4 : decode cX12_isAutomaton 4 = .ok (.iload_n 1, 1) := by decide +kernel
theorem dX12_isAutomaton_5 : decode cX12_isAutomaton 5 = .ok (.aload_n 0, 1) := by decide +kernel
theorem dX12_isAutomaton_6 : decode cX12_isAutomaton 6 = .ok (.getfield 7, 3) := by decide +kernel
theorem dX12_isAutomaton_9 : decode cX12_isAutomaton 9 = .ok (.iconst 3, 1) := by decide +kernel
theorem dX12_isAutomaton_10 : decode cX12_isAutomaton 10 = .ok (.iaload, 1) := by decide +kernel
theorem dX12_isAutomaton_11 : decode cX12_isAutomaton 11 = .ok (.if_icmp .ge 7, 3) := by decide +kernel
theorem dX12_isAutomaton_14 : decode cX12_isAutomaton 14 = .ok (.iconst 1, 1) := by decide +kernel
theorem dX12_isAutomaton_15 : decode cX12_isAutomaton 15 = .ok (.goto 4, 3) := by decide +kernel
theorem dX12_isAutomaton_18 : decode cX12_isAutomaton 18 = .ok (.iconst 0, 1) := by decide +kernel
theorem dX12_isAutomaton_19 : decode cX12_isAutomaton 19 = .ok (.ireturn, 1) := by decide +kernel
set_option maxHeartbeats 4000000 in
set_option maxRecDepth 100000 in
theorem c_X12_isAutomaton (G : KG) (l : Launch) (M : Mem) (c0 : Int) (a1 : Int) (hI_M : Inv true M) (hk_c0 : kd c0 = 64) (hpre : -2147483648 ≤ a1 ∧ a1 ≤ 2147483647) : KC true G l yX12_isAutomaton cX12_isAutomaton 2 (some .boolean) (0, 0) [vR G c0, vI a1] M (fun A => kQi true G A (fun (r : Int) (N : Mem) => M = N ∧ ((r = 1 ∧ 0 ≤ a1 ∧ a1 ≤ 1) ∨ (r = 0)))) := by
  refine kx_met (lo := [some (vR G c0), some (vI a1)]) (by decide) (Nat.le_of_ble_eq_true rfl) rfl ?_
  intro X F hQ
  refine kx_iload_n 1 F 1 dX12_isAutomaton_0 rfl rfl rfl ?_
  refine kx_if_lt 4 F 18 dX12_isAutomaton_1 (by decide) rfl (by omega) (fun h_1 => ?_) (fun h_1 => ?_)
  · refine kx_iconst 19 F dX12_isAutomaton_18 rfl ?_
    exact kx_zret F hQ (by omega) ⟨rfl, (by omega)⟩ dX12_isAutomaton_19
  · refine kx_iload_n 5 F 1 dX12_isAutomaton_4 rfl rfl rfl ?_
    refine kx_aload_n 6 F 0 dX12_isAutomaton_5 rfl rfl rfl ?_
    refine kx_getr 9 F fl_X12_7 hk_c0 rfl rfl (j := 0) rfl dX12_isAutomaton_6 (v := (M c0 0)) rfl rfl ?_
    have hk_2 : kd (M c0 0) = 65 := Inv.r hI_M hk_c0 rfl 0 rfl rfl
    refine kx_iconst 10 F dX12_isAutomaton_9 rfl ?_
    refine kx_iald 11 F hk_2 rfl rfl (by omega) (by decide) dX12_isAutomaton_10 (v := (M (M c0 0) 3)) rfl rfl ?_
    have ha_3 : atlo 3 = 0 ∧ athi 3 = 2 := at_c 3 0 (o := 3) (lo := 0) (hi := 2) (by omega) (by decide) (by decide) (by decide)
    have h_4 := Inv.g hI_M hk_2 rfl 3 (a := 0) (b := 2) ha_3.1 ha_3.2
    refine kx_icmp_ge 14 F 18 dX12_isAutomaton_11 (by decide) rfl (by omega) (by omega) (fun h_5 => ?_) (fun h_5 => ?_)
    · refine kx_iconst 19 F dX12_isAutomaton_18 rfl ?_
      exact kx_zret F hQ (by omega) ⟨rfl, (by omega)⟩ dX12_isAutomaton_19
    · refine kx_iconst 15 F dX12_isAutomaton_14 rfl ?_
      refine kx_goto 19 F dX12_isAutomaton_15 (by decide) ?_
      exact kx_zret F hQ (by omega) ⟨rfl, (by omega)⟩ dX12_isAutomaton_19
theorem dX12_areTwo_0 : decode cX12_areTwo 0 = .ok (.aload_n 0, 1) := by decide +kernel
theorem dX12_areTwo_1 : decode cX12_areTwo 1 = .ok (.iload_n 1, 1) := by decide +kernel
theorem dX12_areTwo_2 : decode cX12_areTwo 2 = .ok (.invokevirtual 282, 3) := by decide +kernel
theorem dX12_areTwo_5 : decode cX12_areTwo 5 = .ok (.ifCond .eq 20, 3) := by decide +kernel
theorem dX12_areTwo_8 : decode cX12_areTwo 8 = .ok (.aload_n 0, 1) := by decide +kernel
theorem dX12_areTwo_9 : decode cX12_areTwo 9 = .ok (.iload_n 2, 1) := by decide +kernel
theorem dX12_areTwo_10 : decode cX12_areTwo 10 = .ok (.invokevirtual 282, 3) := by decide +kernel
theorem dX12_areTwo_13 : decode cX12_areTwo 13 = .ok (.ifCond .eq 12, 3) := by decide +kernel
theorem dX12_areTwo_16 : decode cX12_areTwo 16 = .ok (.iload_n 1, 1) := by decide +kernel
theorem dX12_areTwo_17 : decode cX12_areTwo 17 = .ok (.iload_n 2, 1) := by decide +kernel
theorem dX12_areTwo_18 : decode cX12_areTwo 18 = .ok (.if_icmp .eq 7, 3) := by decide +kernel
theorem dX12_areTwo_21 : decode cX12_areTwo 21 = .ok (.iconst 1, 1) := by decide +kernel
theorem dX12_areTwo_22 : decode cX12_areTwo 22 = .ok (.goto 4, 3) := by decide +kernel
theorem dX12_areTwo_25 : decode cX12_areTwo 25 = .ok (.iconst 0, 1) := by decide +kernel
theorem dX12_areTwo_26 : decode cX12_areTwo 26 = .ok (.ireturn, 1) := by decide +kernel
set_option maxHeartbeats 4000000 in
set_option maxRecDepth 100000 in
theorem c_X12_areTwo (G : KG) (l : Launch) (M : Mem) (c0 : Int) (a1 : Int) (a2 : Int) (hI_M : Inv true M) (hk_c0 : kd c0 = 64) (hpre : -2147483648 ≤ a1 ∧ a1 ≤ 2147483647 ∧ -2147483648 ≤ a2 ∧ a2 ≤ 2147483647) : KC true G l yX12_areTwo cX12_areTwo 3 (some .boolean) (1, 21) [vR G c0, vI a1, vI a2] M (fun A => kQi true G A (fun (r : Int) (N : Mem) => M = N ∧ ((r = 1 ∧ 0 ≤ a1 ∧ a1 ≤ 1 ∧ 0 ≤ a2 ∧ a2 ≤ 1) ∨ (r = 0)))) := by
  refine kx_met (lo := [some (vR G c0), some (vI a1), some (vI a2)]) (by decide) (Nat.le_of_ble_eq_true rfl) rfl ?_
  intro X F hQ
  refine kx_aload_n 1 F 0 dX12_areTwo_0 rfl rfl rfl ?_
  refine kx_iload_n 2 F 1 dX12_areTwo_1 rfl rfl rfl ?_
  refine kx_Vi 5 (ci := 0) F (As := [vI a1]) (st := []) vd_X12_282 (c_X12_isAutomaton G l M c0 a1 hI_M hk_c0 (by omega)) hk_c0 rfl rfl rfl ⟨by decide, by decide⟩ rfl rfl (Nat.le_of_ble_eq_true rfl) dX12_areTwo_2 rfl ?_
  intro r_1 N_2 q_3
  obtain ⟨rfl, q_3c⟩ := q_3
  rcases q_3c with q_3c | q_3c
  · refine kx_if_eq 8 F 25 dX12_areTwo_5 (by decide) rfl (by omega) (fun h_4 => (by exfalso; omega)) (fun h_4 => ?_)
    refine kx_aload_n 9 F 0 dX12_areTwo_8 rfl rfl rfl ?_
    refine kx_iload_n 10 F 2 dX12_areTwo_9 rfl rfl rfl ?_
    refine kx_Vi 13 (ci := 0) F (As := [vI a2]) (st := []) vd_X12_282 (c_X12_isAutomaton G l M c0 a2 hI_M hk_c0 (by omega)) hk_c0 rfl rfl rfl ⟨by decide, by decide⟩ rfl rfl (Nat.le_of_ble_eq_true rfl) dX12_areTwo_10 rfl ?_
    intro r_5 N_6 q_7
    obtain ⟨rfl, q_7c⟩ := q_7
    rcases q_7c with q_7c | q_7c
    · refine kx_if_eq 16 F 25 dX12_areTwo_13 (by decide) rfl (by omega) (fun h_8 => (by exfalso; omega)) (fun h_8 => ?_)
      refine kx_iload_n 17 F 1 dX12_areTwo_16 rfl rfl rfl ?_
      refine kx_iload_n 18 F 2 dX12_areTwo_17 rfl rfl rfl ?_
      refine kx_icmp_eq 21 F 25 dX12_areTwo_18 (by decide) rfl (by omega) (by omega) (fun h_9 => ?_) (fun h_9 => ?_)
      · refine kx_iconst 26 F dX12_areTwo_25 rfl ?_
        exact kx_zret F hQ (by omega) ⟨rfl, (by omega)⟩ dX12_areTwo_26
      · refine kx_iconst 22 F dX12_areTwo_21 rfl ?_
        refine kx_goto 26 F dX12_areTwo_22 (by decide) ?_
        exact kx_zret F hQ (by omega) ⟨rfl, (by omega)⟩ dX12_areTwo_26
    · refine kx_if_eq 16 F 25 dX12_areTwo_13 (by decide) rfl (by omega) (fun h_10 => ?_) (fun h_10 => (by exfalso; omega))
      refine kx_iconst 26 F dX12_areTwo_25 rfl ?_
      exact kx_zret F hQ (by omega) ⟨rfl, (by omega)⟩ dX12_areTwo_26
  · refine kx_if_eq 8 F 25 dX12_areTwo_5 (by decide) rfl (by omega) (fun h_11 => ?_) (fun h_11 => (by exfalso; omega))
    refine kx_iconst 26 F dX12_areTwo_25 rfl ?_
    exact kx_zret F hQ (by omega) ⟨rfl, (by omega)⟩ dX12_areTwo_26
theorem dX12_letters_0 : decode cX12_letters 0 = .ok (.aload_n 0, 1) := by decide +kernel
theorem dX12_letters_1 : decode cX12_letters 1 = .ok (.getfield 7, 3) := by decide +kernel
theorem dX12_letters_4 : decode cX12_letters 4 = .ok (.iconst 0, 1) := by decide +kernel
theorem dX12_letters_5 : decode cX12_letters 5 = .ok (.iaload, 1) := by decide +kernel
theorem dX12_letters_6 : decode cX12_letters 6 = .ok (.aload_n 0, 1) := by decide +kernel
theorem dX12_letters_7 : decode cX12_letters 7 = .ok (.getfield 7, 3) := by decide +kernel
theorem dX12_letters_10 : decode cX12_letters 10 = .ok (.iconst 1, 1) := by decide +kernel
theorem dX12_letters_11 : decode cX12_letters 11 = .ok (.iaload, 1) := by decide +kernel
theorem dX12_letters_12 : decode cX12_letters 12 = .ok (.iadd, 1) := by decide +kernel
theorem dX12_letters_13 : decode cX12_letters 13 = .ok (.aload_n 0, 1) := by decide +kernel
theorem dX12_letters_14 : decode cX12_letters 14 = .ok (.getfield 7, 3) := by decide +kernel
theorem dX12_letters_17 : decode cX12_letters 17 = .ok (.iconst 2, 1) := by decide +kernel
theorem dX12_letters_18 : decode cX12_letters 18 = .ok (.iaload, 1) := by decide +kernel
theorem dX12_letters_19 : decode cX12_letters 19 = .ok (.iadd, 1) := by decide +kernel
theorem dX12_letters_20 : decode cX12_letters 20 = .ok (.ireturn, 1) := by decide +kernel
set_option maxHeartbeats 4000000 in
set_option maxRecDepth 100000 in
theorem c_X12_letters (G : KG) (l : Launch) (M : Mem) (c0 : Int) (hI_M : Inv true M) (hk_c0 : kd c0 = 64) : KC true G l yX12_letters cX12_letters 1 (some .int) (0, 0) [vR G c0] M (fun A => kQi true G A (fun (r : Int) (N : Mem) => M = N ∧ (0 ≤ r ∧ r ≤ 6))) := by
  refine kx_met (lo := [some (vR G c0)]) (by decide) (Nat.le_of_ble_eq_true rfl) rfl ?_
  intro X F hQ
  refine kx_aload_n 1 F 0 dX12_letters_0 rfl rfl rfl ?_
  refine kx_getr 4 F fl_X12_7 hk_c0 rfl rfl (j := 0) rfl dX12_letters_1 (v := (M c0 0)) rfl rfl ?_
  have hk_1 : kd (M c0 0) = 65 := Inv.r hI_M hk_c0 rfl 0 rfl rfl
  refine kx_iconst 5 F dX12_letters_4 rfl ?_
  refine kx_iald 6 F hk_1 rfl rfl (by omega) (by decide) dX12_letters_5 (v := (M (M c0 0) 0)) rfl rfl ?_
  have ha_2 : atlo 0 = 0 ∧ athi 0 = 2 := at_c 0 0 (o := 0) (lo := 0) (hi := 2) (by omega) (by decide) (by decide) (by decide)
  have h_3 := Inv.g hI_M hk_1 rfl 0 (a := 0) (b := 2) ha_2.1 ha_2.2
  refine kx_aload_n 7 F 0 dX12_letters_6 rfl rfl rfl ?_
  refine kx_getr 10 F fl_X12_7 hk_c0 rfl rfl (j := 0) rfl dX12_letters_7 (v := (M c0 0)) rfl rfl ?_
  refine kx_iconst 11 F dX12_letters_10 rfl ?_
  refine kx_iald 12 F hk_1 rfl rfl (by omega) (by decide) dX12_letters_11 (v := (M (M c0 0) 1)) rfl rfl ?_
  have ha_4 : atlo 1 = 0 ∧ athi 1 = 2 := at_c 1 0 (o := 1) (lo := 0) (hi := 2) (by omega) (by decide) (by decide) (by decide)
  have h_5 := Inv.g hI_M hk_1 rfl 1 (a := 0) (b := 2) ha_4.1 ha_4.2
  refine kx_iadd 13 F (v := (M (M c0 0) 0) + (M (M c0 0) 1)) dX12_letters_12 rfl rfl ?_
  refine kx_aload_n 14 F 0 dX12_letters_13 rfl rfl rfl ?_
  refine kx_getr 17 F fl_X12_7 hk_c0 rfl rfl (j := 0) rfl dX12_letters_14 (v := (M c0 0)) rfl rfl ?_
  refine kx_iconst 18 F dX12_letters_17 rfl ?_
  refine kx_iald 19 F hk_1 rfl rfl (by omega) (by decide) dX12_letters_18 (v := (M (M c0 0) 2)) rfl rfl ?_
  have ha_6 : atlo 2 = 0 ∧ athi 2 = 2 := at_c 2 0 (o := 2) (lo := 0) (hi := 2) (by omega) (by decide) (by decide) (by decide)
  have h_7 := Inv.g hI_M hk_1 rfl 2 (a := 0) (b := 2) ha_6.1 ha_6.2
  refine kx_iadd 20 F (v := (M (M c0 0) 0) + (M (M c0 0) 1) + (M (M c0 0) 2)) dX12_letters_19 rfl rfl ?_
  exact kx_iret F hQ ⟨rfl, (by omega)⟩ dX12_letters_20
theorem dX12_isLetter_0 : decode cX12_isLetter 0 = .ok (.iload_n 1, 1) := by decide +kernel
theorem dX12_isLetter_1 : decode cX12_isLetter 1 = .ok (.ifCond .lt 15, 3) := by decide +kernel
theorem dX12_isLetter_4 : decode cX12_isLetter 4 = .ok (.iload_n 1, 1) := by decide +kernel
theorem dX12_isLetter_5 : decode cX12_isLetter 5 = .ok (.aload_n 0, 1) := by decide +kernel
theorem dX12_isLetter_6 : decode cX12_isLetter 6 = .ok (.invokevirtual 285, 3) := by decide +kernel
theorem dX12_isLetter_9 : decode cX12_isLetter 9 = .ok (.if_icmp .ge 7, 3) := by decide +kernel
theorem dX12_isLetter_12 : decode cX12_isLetter 12 = .ok (.iconst 1, 1) := by decide +kernel
theorem dX12_isLetter_13 : decode cX12_isLetter 13 = .ok (.goto 4, 3) := by decide +kernel
theorem dX12_isLetter_16 : decode cX12_isLetter 16 = .ok (.iconst 0, 1) := by decide +kernel
theorem dX12_isLetter_17 : decode cX12_isLetter 17 = .ok (.ireturn, 1) := by decide +kernel
set_option maxHeartbeats 4000000 in
set_option maxRecDepth 100000 in
theorem c_X12_isLetter (G : KG) (l : Launch) (M : Mem) (c0 : Int) (a1 : Int) (hI_M : Inv true M) (hk_c0 : kd c0 = 64) (hpre : -2147483648 ≤ a1 ∧ a1 ≤ 2147483647) : KC true G l yX12_isLetter cX12_isLetter 2 (some .boolean) (1, 20) [vR G c0, vI a1] M (fun A => kQi true G A (fun (r : Int) (N : Mem) => M = N ∧ ((r = 1 ∧ 0 ≤ a1 ∧ a1 ≤ 5) ∨ (r = 0)))) := by
  refine kx_met (lo := [some (vR G c0), some (vI a1)]) (by decide) (Nat.le_of_ble_eq_true rfl) rfl ?_
  intro X F hQ
  refine kx_iload_n 1 F 1 dX12_isLetter_0 rfl rfl rfl ?_
  refine kx_if_lt 4 F 16 dX12_isLetter_1 (by decide) rfl (by omega) (fun h_1 => ?_) (fun h_1 => ?_)
  · refine kx_iconst 17 F dX12_isLetter_16 rfl ?_
    exact kx_zret F hQ (by omega) ⟨rfl, (by omega)⟩ dX12_isLetter_17
  · refine kx_iload_n 5 F 1 dX12_isLetter_4 rfl rfl rfl ?_
    refine kx_aload_n 6 F 0 dX12_isLetter_5 rfl rfl rfl ?_
    refine kx_Vi 9 (ci := 0) F (As := []) (st := [vI a1]) vd_X12_285 (c_X12_letters G l M c0 hI_M hk_c0) hk_c0 rfl rfl rfl ⟨by decide, by decide⟩ rfl rfl (Nat.le_of_ble_eq_true rfl) dX12_isLetter_6 rfl ?_
    intro r_2 N_3 q_4
    obtain ⟨rfl, q_4c⟩ := q_4
    refine kx_icmp_ge 12 F 16 dX12_isLetter_9 (by decide) rfl (by omega) (by omega) (fun h_5 => ?_) (fun h_5 => ?_)
    · refine kx_iconst 17 F dX12_isLetter_16 rfl ?_
      exact kx_zret F hQ (by omega) ⟨rfl, (by omega)⟩ dX12_isLetter_17
    · refine kx_iconst 13 F dX12_isLetter_12 rfl ?_
      refine kx_goto 17 F dX12_isLetter_13 (by decide) ?_
      exact kx_zret F hQ (by omega) ⟨rfl, (by omega)⟩ dX12_isLetter_17
theorem dX12_ahead_0 : decode cX12_ahead 0 = .ok (.aload_n 0, 1) := by decide +kernel
theorem dX12_ahead_1 : decode cX12_ahead 1 = .ok (.aload_n 0, 1) := by decide +kernel
theorem dX12_ahead_2 : decode cX12_ahead 2 = .ok (.getfield 156, 3) := by decide +kernel
theorem dX12_ahead_5 : decode cX12_ahead 5 = .ok (.invokevirtual 159, 3) := by decide +kernel
theorem dX12_ahead_8 : decode cX12_ahead 8 = .ok (.bipush 32, 2) := by decide +kernel
theorem dX12_ahead_10 : decode cX12_ahead 10 = .ok (.if_icmp .eq 16, 3) := by decide +kernel
theorem dX12_ahead_13 : decode cX12_ahead 13 = .ok (.aload_n 0, 1) := by decide +kernel
theorem dX12_ahead_14 : decode cX12_ahead 14 = .ok (.aload_n 0, 1) := by decide +kernel
theorem dX12_ahead_15 : decode cX12_ahead 15 = .ok (.getfield 156, 3) := by decide +kernel
theorem dX12_ahead_18 : decode cX12_ahead 18 = .ok (.invokevirtual 159, 3) := by decide +kernel
theorem dX12_ahead_21 : decode cX12_ahead 21 = .ok (.bipush 10, 2) := by decide +kernel
theorem dX12_ahead_23 : decode cX12_ahead 23 = .ok (.if_icmp .ne 16, 3) := by decide +kernel
theorem dX12_ahead_26 : decode cX12_ahead 26 = .ok (.aload_n 0, 1) := by decide +kernel
theorem dX12_ahead_27 : decode cX12_ahead 27 = .ok (.dup, 1) := by decide +kernel
theorem dX12_ahead_28 : decode cX12_ahead 28 = .ok (.getfield 156, 3) := by decide +kernel
theorem dX12_ahead_31 : decode cX12_ahead 31 = .ok (.iconst 1, 1) := by decide +kernel
theorem dX12_ahead_32 : decode cX12_ahead 32 = .ok (.iadd, 1) := by decide +kernel
theorem dX12_ahead_33 : decode cX12_ahead 33 = .ok (.putfield 156, 3) := by decide +kernel
theorem dX12_ahead_36 : decode cX12_ahead 36 = .ok (.goto (-36), 3) := by decide +kernel
theorem dX12_ahead_39 : decode cX12_ahead 39 = .ok (.aload_n 0, 1) := by decide +kernel
theorem dX12_ahead_40 : decode cX12_ahead 40 = .ok (.aload_n 0, 1) := by decide +kernel
theorem dX12_ahead_41 : decode cX12_ahead 41 = .ok (.getfield 156, 3) := by decide +kernel
theorem dX12_ahead_44 : decode cX12_ahead 44 = .ok (.putfield 162, 3) := by decide +kernel
theorem dX12_ahead_47 : decode cX12_ahead 47 = .ok (.aload_n 0, 1) := by decide +kernel
theorem dX12_ahead_48 : decode cX12_ahead 48 = .ok (.aload_n 0, 1) := by decide +kernel
theorem dX12_ahead_49 : decode cX12_ahead 49 = .ok (.getfield 156, 3) := by decide +kernel
theorem dX12_ahead_52 : decode cX12_ahead 52 = .ok (.invokevirtual 159, 3) := by decide +kernel
theorem dX12_ahead_55 : decode cX12_ahead 55 = .ok (.istore_n 1, 1) := by decide +kernel
theorem dX12_ahead_56 : decode cX12_ahead 56 = .ok (.aload_n 0, 1) := by decide +kernel
theorem dX12_ahead_57 : decode cX12_ahead 57 = .ok (.iload_n 1, 1) := by decide +kernel
theorem dX12_ahead_58 : decode cX12_ahead 58 = .ok (.putfield 165, 3) := by decide +kernel
theorem dX12_ahead_61 : decode cX12_ahead 61 = .ok (.iload_n 1, 1) := by decide +kernel
theorem dX12_ahead_62 : decode cX12_ahead 62 = .ok (.iconst (-1), 1) := by decide +kernel
theorem dX12_ahead_63 : decode cX12_ahead 63 = .ok (.if_icmp .ne 11, 3) := by decide +kernel
theorem dX12_ahead_66 : decode cX12_ahead 66 = .ok (.aload_n 0, 1) := by decide +kernel
theorem dX12_ahead_67 : decode cX12_ahead 67 = .ok (.iconst 0, 1) := by decide +kernel
theorem dX12_ahead_68 : decode cX12_ahead 68 = .ok (.putfield 168, 3) := by decide +kernel
theorem dX12_ahead_71 : decode cX12_ahead 71 = .ok (.goto 162, 3) := by decide +kernel
theorem dX12_ahead_74 : decode cX12_ahead 74 = .ok (.iload_n 1, 1) := by decide +kernel
theorem dX12_ahead_75 : decode cX12_ahead 75 = .ok (.invokestatic 171, 3) := by decide +kernel
theorem dX12_ahead_78 : decode cX12_ahead 78 = .ok (.ifCond .eq 38, 3) := by decide +kernel
theorem dX12_ahead_81 : decode cX12_ahead 81 = .ok (.aload_n 0, 1) := by decide +kernel
theorem dX12_ahead_82 : decode cX12_ahead 82 = .ok (.aload_n 0, 1) := by decide +kernel
theorem dX12_ahead_83 : decode cX12_ahead 83 = .ok (.getfield 156, 3) := by decide +kernel
theorem dX12_ahead_86 : decode cX12_ahead 86 = .ok (.invokevirtual 159, 3) := by decide +kernel
theorem dX12_ahead_89 : decode cX12_ahead 89 = .ok (.invokestatic 171, 3) := by decide +kernel
theorem dX12_ahead_92 : decode cX12_ahead 92 = .ok (.ifCond .eq 16, 3) := by decide +kernel
theorem dX12_ahead_95 : decode cX12_ahead 95 = .ok (.aload_n 0, 1) := by decide +kernel
theorem dX12_ahead_96 : decode cX12_ahead 96 = .ok (.dup, 1) := by decide +kernel
theorem dX12_ahead_97 : decode cX12_ahead 97 = .ok (.getfield 156, 3) := by decide +kernel
theorem dX12_ahead_100 : decode cX12_ahead 100 = .ok (.iconst 1, 1) := by decide +kernel
theorem dX12_ahead_101 : decode cX12_ahead 101 = .ok (.iadd, 1) := by decide +kernel
theorem dX12_ahead_102 : decode cX12_ahead 102 = .ok (.putfield 156, 3) := by decide +kernel
theorem dX12_ahead_105 : decode cX12_ahead 105 = .ok (.goto (-24), 3) := by decide +kernel
theorem dX12_ahead_108 : decode cX12_ahead 108 = .ok (.aload_n 0, 1) := by decide +kernel
theorem dX12_ahead_109 : decode cX12_ahead 109 = .ok (.iconst 2, 1) := by decide +kernel
theorem dX12_ahead_110 : decode cX12_ahead 110 = .ok (.putfield 168, 3) := by decide +kernel
theorem dX12_ahead_113 : decode cX12_ahead 113 = .ok (.goto 120, 3) := by decide +kernel
theorem dX12_ahead_116 : decode cX12_ahead 116 = .ok (.iload_n 1, 1) := by decide +kernel
theorem dX12_ahead_117 : decode cX12_ahead 117 = .ok (.invokestatic 174, 3) := by decide +kernel
theorem dX12_ahead_120 : decode cX12_ahead 120 = .ok (.ifCond .eq 88, 3) := by decide +kernel
theorem dX12_ahead_123 : decode cX12_ahead 123 = .ok (.aload_n 0, 1) := by decide +kernel
theorem dX12_ahead_124 : decode cX12_ahead 124 = .ok (.iconst 0, 1) := by decide +kernel
theorem dX12_ahead_125 : decode cX12_ahead 125 = .ok (.putfield 165, 3) := by decide +kernel
theorem dX12_ahead_128 : decode cX12_ahead 128 = .ok (.aload_n 0, 1) := by decide +kernel
theorem dX12_ahead_129 : decode cX12_ahead 129 = .ok (.aload_n 0, 1) := by decide +kernel
theorem dX12_ahead_130 : decode cX12_ahead 130 = .ok (.getfield 156, 3) := by decide +kernel
theorem dX12_ahead_133 : decode cX12_ahead 133 = .ok (.invokevirtual 159, 3) := by decide +kernel
theorem dX12_ahead_136 : decode cX12_ahead 136 = .ok (.invokestatic 174, 3) := by decide +kernel
theorem dX12_ahead_139 : decode cX12_ahead 139 = .ok (.ifCond .eq 44, 3) := by decide +kernel
theorem dX12_ahead_142 : decode cX12_ahead 142 = .ok (.aload_n 0, 1) := by decide +kernel
theorem dX12_ahead_143 : decode cX12_ahead 143 = .ok (.ldc 177, 2) := by decide +kernel
theorem dX12_ahead_145 : decode cX12_ahead 145 = .ok (.bipush 10, 2) := by decide +kernel
theorem dX12_ahead_147 : decode cX12_ahead 147 = .ok (.aload_n 0, 1) := by decide +kernel
theorem dX12_ahead_148 : decode cX12_ahead 148 = .ok (.getfield 165, 3) := by decide +kernel
theorem dX12_ahead_151 : decode cX12_ahead 151 = .ok (.imul, 1) := by decide +kernel
theorem dX12_ahead_152 : decode cX12_ahead 152 = .ok (.aload_n 0, 1) := by decide +kernel
theorem dX12_ahead_153 : decode cX12_ahead 153 = .ok (.aload_n 0, 1) := by decide +kernel
theorem dX12_ahead_154 : decode cX12_ahead 154 = .ok (.getfield 156, 3) := by decide +kernel
theorem dX12_ahead_157 : decode cX12_ahead 157 = .ok (.invokevirtual 159, 3) := by decide +kernel
theorem dX12_ahead_160 : decode cX12_ahead 160 = .ok (.iadd, 1) := by decide +kernel
theorem dX12_ahead_161 : decode cX12_ahead 161 = .ok (.bipush 48, 2) := by decide +kernel
theorem dX12_ahead_163 : decode cX12_ahead 163 = .ok (.isub, 1) := by decide +kernel
theorem dX12_ahead_164 : decode cX12_ahead 164 = .ok (.invokestatic 178, 3) := by decide +kernel
theorem dX12_ahead_167 : decode cX12_ahead 167 = .ok (.putfield 165, 3) := by decide +kernel
theorem dX12_ahead_170 : decode cX12_ahead 170 = .ok (.aload_n 0, 1) := by decide +kernel
theorem dX12_ahead_171 : decode cX12_ahead 171 = .ok (.dup, 1) := by decide +kernel
theorem dX12_ahead_172 : decode cX12_ahead 172 = .ok (.getfield 156, 3) := by decide +kernel
theorem dX12_ahead_175 : decode cX12_ahead 175 = .ok (.iconst 1, 1) := by decide +kernel
theorem dX12_ahead_176 : decode cX12_ahead 176 = .ok (.iadd, 1) := by decide +kernel
theorem dX12_ahead_177 : decode cX12_ahead 177 = .ok (.putfield 156, 3) := by decide +kernel
theorem dX12_ahead_180 : decode cX12_ahead 180 = .ok (.goto (-52), 3) := by decide +kernel
theorem dX12_ahead_183 : decode cX12_ahead 183 = .ok (.aload_n 0, 1) := by decide +kernel
theorem dX12_ahead_184 : decode cX12_ahead 184 = .ok (.aload_n 0, 1) := by decide +kernel
theorem dX12_ahead_185 : decode cX12_ahead 185 = .ok (.getfield 156, 3) := by decide +kernel
theorem dX12_ahead_188 : decode cX12_ahead 188 = .ok (.aload_n 0, 1) := by decide +kernel
theorem dX12_ahead_189 : decode cX12_ahead 189 = .ok (.getfield 162, 3) := by decide +kernel
theorem dX12_ahead_192 : decode cX12_ahead 192 = .ok (.isub, 1) := by decide +kernel
theorem dX12_ahead_193 : decode cX12_ahead 193 = .ok (.iconst 4, 1) := by decide +kernel
theorem dX12_ahead_194 : decode cX12_ahead 194 = .ok (.if_icmp .le 7, 3) := by decide +kernel
theorem dX12_ahead_197 : decode cX12_ahead 197 = .ok (.iconst 1, 1) := by decide +kernel
theorem dX12_ahead_198 : decode cX12_ahead 198 = .ok (.goto 4, 3) := by decide +kernel
theorem dX12_ahead_201 : decode cX12_ahead 201 = .ok (.iconst 3, 1) := by decide +kernel
theorem dX12_ahead_202 : decode cX12_ahead 202 = .ok (.putfield 168, 3) := by decide +kernel
theorem dX12_ahead_205 : decode cX12_ahead 205 = .ok (.goto 28, 3) := by decide +kernel
theorem dX12_ahead_208 : decode cX12_ahead 208 = .ok (.aload_n 0, 1) := by decide +kernel
theorem dX12_ahead_209 : decode cX12_ahead 209 = .ok (.dup, 1) := by decide +kernel
theorem dX12_ahead_210 : decode cX12_ahead 210 = .ok (.getfield 156, 3) := by decide +kernel
theorem dX12_ahead_213 : decode cX12_ahead 213 = .ok (.iconst 1, 1) := by decide +kernel
theorem dX12_ahead_214 : decode cX12_ahead 214 = .ok (.iadd, 1) := by decide +kernel
theorem dX12_ahead_215 : decode cX12_ahead 215 = .ok (.putfield 156, 3) := by decide +kernel
theorem dX12_ahead_218 : decode cX12_ahead 218 = .ok (.aload_n 0, 1) := by decide +kernel
theorem dX12_ahead_219 : decode cX12_ahead 219 = .ok (.iload_n 1, 1) := by decide +kernel
theorem dX12_ahead_220 : decode cX12_ahead 220 = .ok (.bipush 59, 2) := by decide +kernel
theorem dX12_ahead_222 : decode cX12_ahead 222 = .ok (.if_icmp .ne 7, 3) := by decide +kernel
theorem dX12_ahead_225 : decode cX12_ahead 225 = .ok (.iconst 4, 1) := by decide +kernel
theorem dX12_ahead_226 : decode cX12_ahead 226 = .ok (.goto 4, 3) := by decide +kernel
theorem dX12_ahead_229 : decode cX12_ahead 229 = .ok (.iconst 1, 1) := by decide +kernel
theorem dX12_ahead_230 : decode cX12_ahead 230 = .ok (.putfield 168, 3) := by decide +kernel
theorem dX12_ahead_233 : decode cX12_ahead 233 = .ok (.return_, 1) := by decide +kernel
abbrev f_c_X12_ahead : List (Nat × Int) := [(64, 12), (64, 13), (64, 14), (64, 15)]
set_option maxHeartbeats 4000000 in
set_option maxRecDepth 100000 in
theorem c_X12_ahead (G : KG) (l : Launch) (M : Mem) (c0 : Int) (hI_M : Inv true M) (hk_c0 : kd c0 = 64) : KC true G l yX12_ahead cX12_ahead 2 none (1, 21) [vR G c0] M (fun A => kQv true G A (fun (N : Mem) => Inv true N ∧ Fr f_c_X12_ahead M N)) := by
  refine kx_met (lo := [some (vR G c0), none]) (by decide) (Nat.le_of_ble_eq_true rfl) rfl ?_
  intro X F hQ
  have hF_M : Fr f_c_X12_ahead M M := Fr.rf _ _
  have L_711 : ∀ (n_712 : Nat) (N_710 : Mem), Inv true N_710 → Fr f_c_X12_ahead M N_710 → (N_710 c0 14) ≤ 900 → (900 - N_710 c0 14).toNat = n_712 → KJ true G X N_710 0 [some (vR G c0), none] [] := by
    intro n_712
    refine Nat.strongRecOn n_712 ?_
    intro n_712 ih_713  N_710 hI_N_710 hF_N_710 h_714 hm_715
    refine kx_aload_n 1 F 0 dX12_ahead_0 rfl rfl rfl ?_
    refine kx_aload_n 2 F 0 dX12_ahead_1 rfl rfl rfl ?_
    refine kx_geti 5 F fl_X12_156 hk_c0 rfl rfl (j := 14) rfl dX12_ahead_2 (v := (N_710 c0 14)) rfl rfl ?_
    have h_716 := Inv.g hI_N_710 hk_c0 rfl 14 (a := 0) (b := 900) rfl rfl
    refine kx_Vi 8 (ci := 0) F (As := [vI (N_710 c0 14)]) (st := []) vd_X12_159 (c_X12_byteAt G l N_710 c0 (N_710 c0 14) hI_N_710 hk_c0 (by omega)) hk_c0 rfl rfl rfl ⟨by decide, by decide⟩ rfl rfl (Nat.le_of_ble_eq_true rfl) dX12_ahead_5 rfl ?_
    intro r_717 N_718 q_719
    obtain ⟨rfl, q_719c⟩ := q_719
    have e_720 : (N_710 c0 11) = (M c0 11) := by rw [Fr.e hF_N_710 hk_c0 _ rfl]
    have h_721 := Inv.g hI_M hk_c0 rfl 11 (a := 0) (b := 900) rfl rfl
    have e_722 : (N_710 c0 11) = (M c0 11) := by rw [Fr.e hF_N_710 hk_c0 _ rfl]
    rcases q_719c with q_719c | q_719c
    · refine kx_bipush 10 F dX12_ahead_8 (by decide) rfl ?_
      have J_1073 : (N_710 c0 14) ≤ 899 → KJ true G X N_710 26 [some (vR G c0), none] [] := by
        intro h_1074
        refine kx_aload_n 27 F 0 dX12_ahead_26 rfl rfl rfl ?_
        refine kx_dup 28 F dX12_ahead_27 rfl rfl ?_
        refine kx_geti 31 F fl_X12_156 hk_c0 rfl rfl (j := 14) rfl dX12_ahead_28 (v := (N_710 c0 14)) rfl rfl ?_
        refine kx_iconst 32 F dX12_ahead_31 rfl ?_
        refine kx_iadd 33 F (v := (N_710 c0 14) + 1) dX12_ahead_32 rfl rfl ?_
        refine kx_puti 36 F fw_X12_156 rfl hk_c0 rfl rfl (j := 14) rfl dX12_ahead_33 rfl ?_
        intro N_1075 hM_N_1075
        have hI_N_1075 : Inv true N_1075 := Inv.u hI_N_710 hM_N_1075 hk_c0 (a := 0) (b := 900) rfl rfl rfl (by omega)
        have hF_N_1075 : Fr f_c_X12_ahead M N_1075 := Fr.u hF_N_710 hM_N_1075 hk_c0 rfl
        refine kx_goto 0 F dX12_ahead_36 (by decide) ?_
        have e_1076 : (N_1075 c0 14) = (N_710 c0 14) + 1 := by rw [hM_N_1075, mu_s]
        exact ih_713 _ (by omega) N_1075 hI_N_1075 hF_N_1075 (by omega) rfl
      refine kx_icmp_eq 13 F 26 dX12_ahead_10 (by decide) rfl (by omega) (by decide) (fun h_1077 => (by exfalso; omega)) (fun h_1077 => ?_)
      refine kx_aload_n 14 F 0 dX12_ahead_13 rfl rfl rfl ?_
      refine kx_aload_n 15 F 0 dX12_ahead_14 rfl rfl rfl ?_
      refine kx_geti 18 F fl_X12_156 hk_c0 rfl rfl (j := 14) rfl dX12_ahead_15 (v := (N_710 c0 14)) rfl rfl ?_
      refine kx_Vi 21 (ci := 0) F (As := [vI (N_710 c0 14)]) (st := []) vd_X12_159 (c_X12_byteAt G l N_710 c0 (N_710 c0 14) hI_N_710 hk_c0 (by omega)) hk_c0 rfl rfl rfl ⟨by decide, by decide⟩ rfl rfl (Nat.le_of_ble_eq_true rfl) dX12_ahead_18 rfl ?_
      intro r_1078 N_1079 q_1080
      obtain ⟨rfl, q_1080c⟩ := q_1080
      have e_1081 : (N_710 c0 11) = (M c0 11) := by rw [Fr.e hF_N_710 hk_c0 _ rfl]
      have h_1082 := Inv.g hI_M hk_c0 rfl 11 (a := 0) (b := 900) rfl rfl
      have e_1083 : (N_710 c0 11) = (M c0 11) := by rw [Fr.e hF_N_710 hk_c0 _ rfl]
      rcases q_1080c with q_1080c | q_1080c
      · refine kx_bipush 23 F dX12_ahead_21 (by decide) rfl ?_
        refine kx_icmp_ne 26 F 39 dX12_ahead_23 (by decide) rfl (by omega) (by decide) (fun h_1084 => ?_) (fun h_1084 => (by exfalso; omega))
        refine kx_aload_n 40 F 0 dX12_ahead_39 rfl rfl rfl ?_
        refine kx_aload_n 41 F 0 dX12_ahead_40 rfl rfl rfl ?_
        refine kx_geti 44 F fl_X12_156 hk_c0 rfl rfl (j := 14) rfl dX12_ahead_41 (v := (N_710 c0 14)) rfl rfl ?_
        refine kx_puti 47 F fw_X12_162 rfl hk_c0 rfl rfl (j := 13) rfl dX12_ahead_44 rfl ?_
        intro N_1085 hM_N_1085
        have hI_N_1085 : Inv true N_1085 := Inv.u hI_N_710 hM_N_1085 hk_c0 (a := 0) (b := 900) rfl rfl rfl (by omega)
        have hF_N_1085 : Fr f_c_X12_ahead M N_1085 := Fr.u hF_N_710 hM_N_1085 hk_c0 rfl
        refine kx_aload_n 48 F 0 dX12_ahead_47 rfl rfl rfl ?_
        refine kx_aload_n 49 F 0 dX12_ahead_48 rfl rfl rfl ?_
        refine kx_geti 52 F fl_X12_156 hk_c0 rfl rfl (j := 14) rfl dX12_ahead_49 (v := (N_710 c0 14)) (by rw [hM_N_1085, mu_i (by omega)]) rfl ?_
        refine kx_Vi 55 (ci := 0) F (As := [vI (N_710 c0 14)]) (st := []) vd_X12_159 (c_X12_byteAt G l N_1085 c0 (N_710 c0 14) hI_N_1085 hk_c0 (by omega)) hk_c0 rfl rfl rfl ⟨by decide, by decide⟩ rfl rfl (Nat.le_of_ble_eq_true rfl) dX12_ahead_52 rfl ?_
        intro r_1086 N_1087 q_1088
        obtain ⟨rfl, q_1088c⟩ := q_1088
        have e_1089 : (N_1085 c0 11) = (M c0 11) := by rw [hM_N_1085, mu_i (by omega), Fr.e hF_N_710 hk_c0 _ rfl]
        have h_1090 := Inv.g hI_M hk_c0 rfl 11 (a := 0) (b := 900) rfl rfl
        have e_1091 : (N_1085 c0 11) = (M c0 11) := by rw [hM_N_1085, mu_i (by omega), Fr.e hF_N_710 hk_c0 _ rfl]
        rcases q_1088c with q_1088c | q_1088c
        · refine kx_istore_n 56 F 1 (lo' := [some (vR G c0), some (vI r_1086)]) dX12_ahead_55 rfl (by decide) rfl rfl rfl ?_
          refine kx_aload_n 57 F 0 dX12_ahead_56 rfl rfl rfl ?_
          refine kx_iload_n 58 F 1 dX12_ahead_57 rfl rfl rfl ?_
          refine kx_puti 61 F fw_X12_165 rfl hk_c0 rfl rfl (j := 15) rfl dX12_ahead_58 rfl ?_
          intro N_1092 hM_N_1092
          have hI_N_1092 : Inv true N_1092 := Inv.u hI_N_1085 hM_N_1092 hk_c0 (a := (-2147483648)) (b := 2147483647) rfl rfl rfl (by omega)
          have hF_N_1092 : Fr f_c_X12_ahead M N_1092 := Fr.u hF_N_1085 hM_N_1092 hk_c0 rfl
          refine kx_iload_n 62 F 1 dX12_ahead_61 rfl rfl rfl ?_
          refine kx_iconst 63 F dX12_ahead_62 rfl ?_
          refine kx_icmp_ne 66 F 74 dX12_ahead_63 (by decide) rfl (by omega) (by decide) (fun h_1093 => (by exfalso; omega)) (fun h_1093 => ?_)
          refine kx_aload_n 67 F 0 dX12_ahead_66 rfl rfl rfl ?_
          refine kx_iconst 68 F dX12_ahead_67 rfl ?_
          refine kx_puti 71 F fw_X12_168 rfl hk_c0 rfl rfl (j := 12) rfl dX12_ahead_68 rfl ?_
          intro N_1094 hM_N_1094
          have hI_N_1094 : Inv true N_1094 := Inv.u hI_N_1092 hM_N_1094 hk_c0 (a := 0) (b := 4) rfl rfl rfl (by omega)
          have hF_N_1094 : Fr f_c_X12_ahead M N_1094 := Fr.u hF_N_1092 hM_N_1094 hk_c0 rfl
          refine kx_goto 233 F dX12_ahead_71 (by decide) ?_
          exact kx_vret F hQ ⟨hI_N_1094, hF_N_1094⟩ dX12_ahead_233
        · refine kx_istore_n 56 F 1 (lo' := [some (vR G c0), some (vI r_1086)]) dX12_ahead_55 rfl (by decide) rfl rfl rfl ?_
          refine kx_aload_n 57 F 0 dX12_ahead_56 rfl rfl rfl ?_
          refine kx_iload_n 58 F 1 dX12_ahead_57 rfl rfl rfl ?_
          refine kx_puti 61 F fw_X12_165 rfl hk_c0 rfl rfl (j := 15) rfl dX12_ahead_58 rfl ?_
          intro N_1095 hM_N_1095
          have hI_N_1095 : Inv true N_1095 := Inv.u hI_N_1085 hM_N_1095 hk_c0 (a := (-2147483648)) (b := 2147483647) rfl rfl rfl (by omega)
          have hF_N_1095 : Fr f_c_X12_ahead M N_1095 := Fr.u hF_N_1085 hM_N_1095 hk_c0 rfl
          refine kx_iload_n 62 F 1 dX12_ahead_61 rfl rfl rfl ?_
          refine kx_iconst 63 F dX12_ahead_62 rfl ?_
          refine kx_icmp_ne 66 F 74 dX12_ahead_63 (by decide) rfl (by omega) (by decide) (fun h_1096 => ?_) (fun h_1096 => (by exfalso; omega))
          refine kx_iload_n 75 F 1 dX12_ahead_74 rfl rfl rfl ?_
          refine kx_Si 78 F (As := [vI r_1086]) (st := []) sd_X12_171 (c_X12_isSmall G l N_1095 r_1086 hI_N_1095 (by omega)) ⟨by decide, by decide⟩ rfl rfl (Nat.le_of_ble_eq_true rfl) dX12_ahead_75 rfl ?_
          intro r_1097 N_1098 q_1099
          obtain ⟨rfl, q_1099c⟩ := q_1099
          rcases q_1099c with q_1099c | q_1099c
          · refine kx_if_eq 81 F 116 dX12_ahead_78 (by decide) rfl (by omega) (fun h_1100 => (by exfalso; omega)) (fun h_1100 => ?_)
            have L_1121 : ∀ (n_1122 : Nat) (N_1120 : Mem), Inv true N_1120 → Fr f_c_X12_ahead M N_1120 → (N_1120 c0 14) ≤ 900 → (900 - N_1120 c0 14).toNat = n_1122 → KJ true G X N_1120 81 [some (vR G c0), none] [] := by
              intro n_1122
              refine Nat.strongRecOn n_1122 ?_
              intro n_1122 ih_1123  N_1120 hI_N_1120 hF_N_1120 h_1124 hm_1125
              refine kx_aload_n 82 F 0 dX12_ahead_81 rfl rfl rfl ?_
              refine kx_aload_n 83 F 0 dX12_ahead_82 rfl rfl rfl ?_
              refine kx_geti 86 F fl_X12_156 hk_c0 rfl rfl (j := 14) rfl dX12_ahead_83 (v := (N_1120 c0 14)) rfl rfl ?_
              have h_1126 := Inv.g hI_N_1120 hk_c0 rfl 14 (a := 0) (b := 900) rfl rfl
              refine kx_Vi 89 (ci := 0) F (As := [vI (N_1120 c0 14)]) (st := []) vd_X12_159 (c_X12_byteAt G l N_1120 c0 (N_1120 c0 14) hI_N_1120 hk_c0 (by omega)) hk_c0 rfl rfl rfl ⟨by decide, by decide⟩ rfl rfl (Nat.le_of_ble_eq_true rfl) dX12_ahead_86 rfl ?_
              intro r_1127 N_1128 q_1129
              obtain ⟨rfl, q_1129c⟩ := q_1129
              have e_1130 : (N_1120 c0 11) = (M c0 11) := by rw [Fr.e hF_N_1120 hk_c0 _ rfl]
              have e_1131 : (N_1120 c0 11) = (M c0 11) := by rw [Fr.e hF_N_1120 hk_c0 _ rfl]
              rcases q_1129c with q_1129c | q_1129c
              · refine kx_Si 92 F (As := [vI r_1127]) (st := []) sd_X12_171 (c_X12_isSmall G l N_1120 r_1127 hI_N_1120 (by omega)) ⟨by decide, by decide⟩ rfl rfl (Nat.le_of_ble_eq_true rfl) dX12_ahead_89 rfl ?_
                intro r_1132 N_1133 q_1134
                obtain ⟨rfl, q_1134c⟩ := q_1134
                rcases q_1134c with q_1134c | q_1134c
                · exfalso; omega
                · refine kx_if_eq 95 F 108 dX12_ahead_92 (by decide) rfl (by omega) (fun h_1135 => ?_) (fun h_1135 => (by exfalso; omega))
                  refine kx_aload_n 109 F 0 dX12_ahead_108 rfl rfl rfl ?_
                  refine kx_iconst 110 F dX12_ahead_109 rfl ?_
                  refine kx_puti 113 F fw_X12_168 rfl hk_c0 rfl rfl (j := 12) rfl dX12_ahead_110 rfl ?_
                  intro N_1136 hM_N_1136
                  have hI_N_1136 : Inv true N_1136 := Inv.u hI_N_1120 hM_N_1136 hk_c0 (a := 0) (b := 4) rfl rfl rfl (by omega)
                  have hF_N_1136 : Fr f_c_X12_ahead M N_1136 := Fr.u hF_N_1120 hM_N_1136 hk_c0 rfl
                  refine kx_goto 233 F dX12_ahead_113 (by decide) ?_
                  exact kx_vret F hQ ⟨hI_N_1136, hF_N_1136⟩ dX12_ahead_233
              · refine kx_Si 92 F (As := [vI r_1127]) (st := []) sd_X12_171 (c_X12_isSmall G l N_1120 r_1127 hI_N_1120 (by omega)) ⟨by decide, by decide⟩ rfl rfl (Nat.le_of_ble_eq_true rfl) dX12_ahead_89 rfl ?_
                intro r_1137 N_1138 q_1139
                obtain ⟨rfl, q_1139c⟩ := q_1139
                rcases q_1139c with q_1139c | q_1139c
                · refine kx_if_eq 95 F 108 dX12_ahead_92 (by decide) rfl (by omega) (fun h_1140 => (by exfalso; omega)) (fun h_1140 => ?_)
                  refine kx_aload_n 96 F 0 dX12_ahead_95 rfl rfl rfl ?_
                  refine kx_dup 97 F dX12_ahead_96 rfl rfl ?_
                  refine kx_geti 100 F fl_X12_156 hk_c0 rfl rfl (j := 14) rfl dX12_ahead_97 (v := (N_1120 c0 14)) rfl rfl ?_
                  refine kx_iconst 101 F dX12_ahead_100 rfl ?_
                  refine kx_iadd 102 F (v := (N_1120 c0 14) + 1) dX12_ahead_101 rfl rfl ?_
                  refine kx_puti 105 F fw_X12_156 rfl hk_c0 rfl rfl (j := 14) rfl dX12_ahead_102 rfl ?_
                  intro N_1141 hM_N_1141
                  have hI_N_1141 : Inv true N_1141 := Inv.u hI_N_1120 hM_N_1141 hk_c0 (a := 0) (b := 900) rfl rfl rfl (by omega)
                  have hF_N_1141 : Fr f_c_X12_ahead M N_1141 := Fr.u hF_N_1120 hM_N_1141 hk_c0 rfl
                  refine kx_goto 81 F dX12_ahead_105 (by decide) ?_
                  have e_1142 : (N_1141 c0 14) = (N_1120 c0 14) + 1 := by rw [hM_N_1141, mu_s]
                  exact ih_1123 _ (by omega) N_1141 hI_N_1141 hF_N_1141 (by omega) rfl
                · refine kx_if_eq 95 F 108 dX12_ahead_92 (by decide) rfl (by omega) (fun h_1143 => ?_) (fun h_1143 => (by exfalso; omega))
                  refine kx_aload_n 109 F 0 dX12_ahead_108 rfl rfl rfl ?_
                  refine kx_iconst 110 F dX12_ahead_109 rfl ?_
                  refine kx_puti 113 F fw_X12_168 rfl hk_c0 rfl rfl (j := 12) rfl dX12_ahead_110 rfl ?_
                  intro N_1144 hM_N_1144
                  have hI_N_1144 : Inv true N_1144 := Inv.u hI_N_1120 hM_N_1144 hk_c0 (a := 0) (b := 4) rfl rfl rfl (by omega)
                  have hF_N_1144 : Fr f_c_X12_ahead M N_1144 := Fr.u hF_N_1120 hM_N_1144 hk_c0 rfl
                  refine kx_goto 233 F dX12_ahead_113 (by decide) ?_
                  exact kx_vret F hQ ⟨hI_N_1144, hF_N_1144⟩ dX12_ahead_233
            refine kx_drop 1 (lo' := [some (vR G c0), none]) rfl ?_
            have e_1145 : (N_1095 c0 14) = (N_710 c0 14) := by rw [hM_N_1095, mu_i (by omega), hM_N_1085, mu_i (by omega)]
            exact L_1121 _ N_1095 hI_N_1095 hF_N_1095 (by omega) rfl
          · refine kx_if_eq 81 F 116 dX12_ahead_78 (by decide) rfl (by omega) (fun h_1146 => ?_) (fun h_1146 => (by exfalso; omega))
            refine kx_iload_n 117 F 1 dX12_ahead_116 rfl rfl rfl ?_
            refine kx_Si 120 F (As := [vI r_1086]) (st := []) sd_X12_174 (c_X12_isDigit G l N_1095 r_1086 hI_N_1095 (by omega)) ⟨by decide, by decide⟩ rfl rfl (Nat.le_of_ble_eq_true rfl) dX12_ahead_117 rfl ?_
            intro r_1147 N_1148 q_1149
            obtain ⟨rfl, q_1149c⟩ := q_1149
            rcases q_1149c with q_1149c | q_1149c
            · refine kx_if_eq 123 F 208 dX12_ahead_120 (by decide) rfl (by omega) (fun h_1150 => (by exfalso; omega)) (fun h_1150 => ?_)
              refine kx_aload_n 124 F 0 dX12_ahead_123 rfl rfl rfl ?_
              refine kx_iconst 125 F dX12_ahead_124 rfl ?_
              refine kx_puti 128 F fw_X12_165 rfl hk_c0 rfl rfl (j := 15) rfl dX12_ahead_125 rfl ?_
              intro N_1151 hM_N_1151
              have hI_N_1151 : Inv true N_1151 := Inv.u hI_N_1095 hM_N_1151 hk_c0 (a := (-2147483648)) (b := 2147483647) rfl rfl rfl (by omega)
              have hF_N_1151 : Fr f_c_X12_ahead M N_1151 := Fr.u hF_N_1095 hM_N_1151 hk_c0 rfl
              have L_1201 : ∀ (n_1202 : Nat) (N_1200 : Mem), Inv true N_1200 → Fr f_c_X12_ahead M N_1200 → (N_1200 c0 14) ≤ 900 → (900 - N_1200 c0 14).toNat = n_1202 → KJ true G X N_1200 128 [some (vR G c0), none] [] := by
                intro n_1202
                refine Nat.strongRecOn n_1202 ?_
                intro n_1202 ih_1203  N_1200 hI_N_1200 hF_N_1200 h_1204 hm_1205
                refine kx_aload_n 129 F 0 dX12_ahead_128 rfl rfl rfl ?_
                refine kx_aload_n 130 F 0 dX12_ahead_129 rfl rfl rfl ?_
                refine kx_geti 133 F fl_X12_156 hk_c0 rfl rfl (j := 14) rfl dX12_ahead_130 (v := (N_1200 c0 14)) rfl rfl ?_
                have h_1206 := Inv.g hI_N_1200 hk_c0 rfl 14 (a := 0) (b := 900) rfl rfl
                refine kx_Vi 136 (ci := 0) F (As := [vI (N_1200 c0 14)]) (st := []) vd_X12_159 (c_X12_byteAt G l N_1200 c0 (N_1200 c0 14) hI_N_1200 hk_c0 (by omega)) hk_c0 rfl rfl rfl ⟨by decide, by decide⟩ rfl rfl (Nat.le_of_ble_eq_true rfl) dX12_ahead_133 rfl ?_
                intro r_1207 N_1208 q_1209
                obtain ⟨rfl, q_1209c⟩ := q_1209
                have e_1210 : (N_1200 c0 11) = (M c0 11) := by rw [Fr.e hF_N_1200 hk_c0 _ rfl]
                have e_1211 : (N_1200 c0 11) = (M c0 11) := by rw [Fr.e hF_N_1200 hk_c0 _ rfl]
                rcases q_1209c with q_1209c | q_1209c
                · refine kx_Si 139 F (As := [vI r_1207]) (st := []) sd_X12_174 (c_X12_isDigit G l N_1200 r_1207 hI_N_1200 (by omega)) ⟨by decide, by decide⟩ rfl rfl (Nat.le_of_ble_eq_true rfl) dX12_ahead_136 rfl ?_
                  intro r_1212 N_1213 q_1214
                  obtain ⟨rfl, q_1214c⟩ := q_1214
                  rcases q_1214c with q_1214c | q_1214c
                  · exfalso; omega
                  · refine kx_if_eq 142 F 183 dX12_ahead_139 (by decide) rfl (by omega) (fun h_1215 => ?_) (fun h_1215 => (by exfalso; omega))
                    refine kx_aload_n 184 F 0 dX12_ahead_183 rfl rfl rfl ?_
                    refine kx_aload_n 185 F 0 dX12_ahead_184 rfl rfl rfl ?_
                    refine kx_geti 188 F fl_X12_156 hk_c0 rfl rfl (j := 14) rfl dX12_ahead_185 (v := (N_1200 c0 14)) rfl rfl ?_
                    refine kx_aload_n 189 F 0 dX12_ahead_188 rfl rfl rfl ?_
                    refine kx_geti 192 F fl_X12_162 hk_c0 rfl rfl (j := 13) rfl dX12_ahead_189 (v := (N_1200 c0 13)) rfl rfl ?_
                    have h_1216 := Inv.g hI_N_1200 hk_c0 rfl 13 (a := 0) (b := 900) rfl rfl
                    refine kx_isub 193 F (v := (N_1200 c0 14) - (N_1200 c0 13)) dX12_ahead_192 rfl rfl ?_
                    refine kx_iconst 194 F dX12_ahead_193 rfl ?_
                    refine kx_icmp_le 197 F 201 dX12_ahead_194 (by decide) rfl (by omega) (by decide) (fun h_1217 => ?_) (fun h_1217 => ?_)
                    · refine kx_iconst 202 F dX12_ahead_201 rfl ?_
                      refine kx_puti 205 F fw_X12_168 rfl hk_c0 rfl rfl (j := 12) rfl dX12_ahead_202 rfl ?_
                      intro N_1218 hM_N_1218
                      have hI_N_1218 : Inv true N_1218 := Inv.u hI_N_1200 hM_N_1218 hk_c0 (a := 0) (b := 4) rfl rfl rfl (by omega)
                      have hF_N_1218 : Fr f_c_X12_ahead M N_1218 := Fr.u hF_N_1200 hM_N_1218 hk_c0 rfl
                      refine kx_goto 233 F dX12_ahead_205 (by decide) ?_
                      exact kx_vret F hQ ⟨hI_N_1218, hF_N_1218⟩ dX12_ahead_233
                    · refine kx_iconst 198 F dX12_ahead_197 rfl ?_
                      refine kx_goto 202 F dX12_ahead_198 (by decide) ?_
                      refine kx_puti 205 F fw_X12_168 rfl hk_c0 rfl rfl (j := 12) rfl dX12_ahead_202 rfl ?_
                      intro N_1219 hM_N_1219
                      have hI_N_1219 : Inv true N_1219 := Inv.u hI_N_1200 hM_N_1219 hk_c0 (a := 0) (b := 4) rfl rfl rfl (by omega)
                      have hF_N_1219 : Fr f_c_X12_ahead M N_1219 := Fr.u hF_N_1200 hM_N_1219 hk_c0 rfl
                      refine kx_goto 233 F dX12_ahead_205 (by decide) ?_
                      exact kx_vret F hQ ⟨hI_N_1219, hF_N_1219⟩ dX12_ahead_233
                · refine kx_Si 139 F (As := [vI r_1207]) (st := []) sd_X12_174 (c_X12_isDigit G l N_1200 r_1207 hI_N_1200 (by omega)) ⟨by decide, by decide⟩ rfl rfl (Nat.le_of_ble_eq_true rfl) dX12_ahead_136 rfl ?_
                  intro r_1220 N_1221 q_1222
                  obtain ⟨rfl, q_1222c⟩ := q_1222
                  rcases q_1222c with q_1222c | q_1222c
                  · refine kx_if_eq 142 F 183 dX12_ahead_139 (by decide) rfl (by omega) (fun h_1223 => (by exfalso; omega)) (fun h_1223 => ?_)
                    refine kx_aload_n 143 F 0 dX12_ahead_142 rfl rfl rfl ?_
                    refine kx_ldc 145 (z := 100000) F dX12_ahead_143 ct_X12_177 rfl ?_
                    refine kx_bipush 147 F dX12_ahead_145 (by decide) rfl ?_
                    refine kx_aload_n 148 F 0 dX12_ahead_147 rfl rfl rfl ?_
                    refine kx_geti 151 F fl_X12_165 hk_c0 rfl rfl (j := 15) rfl dX12_ahead_148 (v := (N_1200 c0 15)) rfl rfl ?_
                    have h_1224 := Inv.g hI_N_1200 hk_c0 rfl 15 (a := (-2147483648)) (b := 2147483647) rfl rfl
                    refine kx_imul 152 F (v := 10 * (N_1200 c0 15)) dX12_ahead_151 (by omega) rfl ?_
                    refine kx_wrapi (fun w_1225 h_1226 _ => ?_)
                    refine kx_aload_n 153 F 0 dX12_ahead_152 rfl rfl rfl ?_
                    refine kx_aload_n 154 F 0 dX12_ahead_153 rfl rfl rfl ?_
                    refine kx_geti 157 F fl_X12_156 hk_c0 rfl rfl (j := 14) rfl dX12_ahead_154 (v := (N_1200 c0 14)) rfl rfl ?_
                    refine kx_Vi 160 (ci := 0) F (As := [vI (N_1200 c0 14)]) (st := [vI w_1225, vI 100000, vR G c0]) vd_X12_159 (c_X12_byteAt G l N_1200 c0 (N_1200 c0 14) hI_N_1200 hk_c0 (by omega)) hk_c0 rfl rfl rfl ⟨by decide, by decide⟩ rfl rfl (Nat.le_of_ble_eq_true rfl) dX12_ahead_157 rfl ?_
                    intro r_1227 N_1228 q_1229
                    obtain ⟨rfl, q_1229c⟩ := q_1229
                    have e_1230 : (N_1200 c0 11) = (M c0 11) := by rw [Fr.e hF_N_1200 hk_c0 _ rfl]
                    have e_1231 : (N_1200 c0 11) = (M c0 11) := by rw [Fr.e hF_N_1200 hk_c0 _ rfl]
                    rcases q_1229c with q_1229c | q_1229c
                    · refine kx_iadd 161 F (v := w_1225 + r_1227) dX12_ahead_160 rfl rfl ?_
                      refine kx_wrapi (fun w_1232 h_1233 _ => ?_)
                      refine kx_bipush 163 F dX12_ahead_161 (by decide) rfl ?_
                      refine kx_isub 164 F (v := w_1232 - 48) dX12_ahead_163 rfl rfl ?_
                      refine kx_wrapi (fun w_1234 h_1235 _ => ?_)
                      refine kx_mmin 167 F dX12_ahead_164 (tt lm_1833 rfl) (tt lm_800 rfl) (tt lm_180 rfl) (tt lm_801 rfl) (by decide) (Nat.le_of_ble_eq_true rfl) (by omega) (by omega) rfl (fun w_1236 h_1237 => ?_)
                      refine kx_puti 170 F fw_X12_165 rfl hk_c0 rfl rfl (j := 15) rfl dX12_ahead_167 rfl ?_
                      intro N_1238 hM_N_1238
                      have hI_N_1238 : Inv true N_1238 := Inv.u hI_N_1200 hM_N_1238 hk_c0 (a := (-2147483648)) (b := 2147483647) rfl rfl rfl (by omega)
                      have hF_N_1238 : Fr f_c_X12_ahead M N_1238 := Fr.u hF_N_1200 hM_N_1238 hk_c0 rfl
                      refine kx_aload_n 171 F 0 dX12_ahead_170 rfl rfl rfl ?_
                      refine kx_dup 172 F dX12_ahead_171 rfl rfl ?_
                      refine kx_geti 175 F fl_X12_156 hk_c0 rfl rfl (j := 14) rfl dX12_ahead_172 (v := (N_1200 c0 14)) (by rw [hM_N_1238, mu_i (by omega)]) rfl ?_
                      refine kx_iconst 176 F dX12_ahead_175 rfl ?_
                      refine kx_iadd 177 F (v := (N_1200 c0 14) + 1) dX12_ahead_176 rfl rfl ?_
                      refine kx_puti 180 F fw_X12_156 rfl hk_c0 rfl rfl (j := 14) rfl dX12_ahead_177 rfl ?_
                      intro N_1239 hM_N_1239
                      have hI_N_1239 : Inv true N_1239 := Inv.u hI_N_1238 hM_N_1239 hk_c0 (a := 0) (b := 900) rfl rfl rfl (by omega)
                      have hF_N_1239 : Fr f_c_X12_ahead M N_1239 := Fr.u hF_N_1238 hM_N_1239 hk_c0 rfl
                      refine kx_goto 128 F dX12_ahead_180 (by decide) ?_
                      have e_1240 : (N_1239 c0 14) = (N_1200 c0 14) + 1 := by rw [hM_N_1239, mu_s]
                      exact ih_1203 _ (by omega) N_1239 hI_N_1239 hF_N_1239 (by omega) rfl
                    · refine kx_iadd 161 F (v := w_1225 + r_1227) dX12_ahead_160 rfl rfl ?_
                      refine kx_wrapi (fun w_1241 h_1242 _ => ?_)
                      refine kx_bipush 163 F dX12_ahead_161 (by decide) rfl ?_
                      refine kx_isub 164 F (v := w_1241 - 48) dX12_ahead_163 rfl rfl ?_
                      refine kx_wrapi (fun w_1243 h_1244 _ => ?_)
                      refine kx_mmin 167 F dX12_ahead_164 (tt lm_1833 rfl) (tt lm_800 rfl) (tt lm_180 rfl) (tt lm_801 rfl) (by decide) (Nat.le_of_ble_eq_true rfl) (by omega) (by omega) rfl (fun w_1245 h_1246 => ?_)
                      refine kx_puti 170 F fw_X12_165 rfl hk_c0 rfl rfl (j := 15) rfl dX12_ahead_167 rfl ?_
                      intro N_1247 hM_N_1247
                      have hI_N_1247 : Inv true N_1247 := Inv.u hI_N_1200 hM_N_1247 hk_c0 (a := (-2147483648)) (b := 2147483647) rfl rfl rfl (by omega)
                      have hF_N_1247 : Fr f_c_X12_ahead M N_1247 := Fr.u hF_N_1200 hM_N_1247 hk_c0 rfl
                      refine kx_aload_n 171 F 0 dX12_ahead_170 rfl rfl rfl ?_
                      refine kx_dup 172 F dX12_ahead_171 rfl rfl ?_
                      refine kx_geti 175 F fl_X12_156 hk_c0 rfl rfl (j := 14) rfl dX12_ahead_172 (v := (N_1200 c0 14)) (by rw [hM_N_1247, mu_i (by omega)]) rfl ?_
                      refine kx_iconst 176 F dX12_ahead_175 rfl ?_
                      refine kx_iadd 177 F (v := (N_1200 c0 14) + 1) dX12_ahead_176 rfl rfl ?_
                      refine kx_puti 180 F fw_X12_156 rfl hk_c0 rfl rfl (j := 14) rfl dX12_ahead_177 rfl ?_
                      intro N_1248 hM_N_1248
                      have hI_N_1248 : Inv true N_1248 := Inv.u hI_N_1247 hM_N_1248 hk_c0 (a := 0) (b := 900) rfl rfl rfl (by omega)
                      have hF_N_1248 : Fr f_c_X12_ahead M N_1248 := Fr.u hF_N_1247 hM_N_1248 hk_c0 rfl
                      refine kx_goto 128 F dX12_ahead_180 (by decide) ?_
                      have e_1249 : (N_1248 c0 14) = (N_1200 c0 14) + 1 := by rw [hM_N_1248, mu_s]
                      exact ih_1203 _ (by omega) N_1248 hI_N_1248 hF_N_1248 (by omega) rfl
                  · refine kx_if_eq 142 F 183 dX12_ahead_139 (by decide) rfl (by omega) (fun h_1250 => ?_) (fun h_1250 => (by exfalso; omega))
                    refine kx_aload_n 184 F 0 dX12_ahead_183 rfl rfl rfl ?_
                    refine kx_aload_n 185 F 0 dX12_ahead_184 rfl rfl rfl ?_
                    refine kx_geti 188 F fl_X12_156 hk_c0 rfl rfl (j := 14) rfl dX12_ahead_185 (v := (N_1200 c0 14)) rfl rfl ?_
                    refine kx_aload_n 189 F 0 dX12_ahead_188 rfl rfl rfl ?_
                    refine kx_geti 192 F fl_X12_162 hk_c0 rfl rfl (j := 13) rfl dX12_ahead_189 (v := (N_1200 c0 13)) rfl rfl ?_
                    have h_1251 := Inv.g hI_N_1200 hk_c0 rfl 13 (a := 0) (b := 900) rfl rfl
                    refine kx_isub 193 F (v := (N_1200 c0 14) - (N_1200 c0 13)) dX12_ahead_192 rfl rfl ?_
                    refine kx_iconst 194 F dX12_ahead_193 rfl ?_
                    refine kx_icmp_le 197 F 201 dX12_ahead_194 (by decide) rfl (by omega) (by decide) (fun h_1252 => ?_) (fun h_1252 => ?_)
                    · refine kx_iconst 202 F dX12_ahead_201 rfl ?_
                      refine kx_puti 205 F fw_X12_168 rfl hk_c0 rfl rfl (j := 12) rfl dX12_ahead_202 rfl ?_
                      intro N_1253 hM_N_1253
                      have hI_N_1253 : Inv true N_1253 := Inv.u hI_N_1200 hM_N_1253 hk_c0 (a := 0) (b := 4) rfl rfl rfl (by omega)
                      have hF_N_1253 : Fr f_c_X12_ahead M N_1253 := Fr.u hF_N_1200 hM_N_1253 hk_c0 rfl
                      refine kx_goto 233 F dX12_ahead_205 (by decide) ?_
                      exact kx_vret F hQ ⟨hI_N_1253, hF_N_1253⟩ dX12_ahead_233
                    · refine kx_iconst 198 F dX12_ahead_197 rfl ?_
                      refine kx_goto 202 F dX12_ahead_198 (by decide) ?_
                      refine kx_puti 205 F fw_X12_168 rfl hk_c0 rfl rfl (j := 12) rfl dX12_ahead_202 rfl ?_
                      intro N_1254 hM_N_1254
                      have hI_N_1254 : Inv true N_1254 := Inv.u hI_N_1200 hM_N_1254 hk_c0 (a := 0) (b := 4) rfl rfl rfl (by omega)
                      have hF_N_1254 : Fr f_c_X12_ahead M N_1254 := Fr.u hF_N_1200 hM_N_1254 hk_c0 rfl
                      refine kx_goto 233 F dX12_ahead_205 (by decide) ?_
                      exact kx_vret F hQ ⟨hI_N_1254, hF_N_1254⟩ dX12_ahead_233
              refine kx_drop 1 (lo' := [some (vR G c0), none]) rfl ?_
              have e_1255 : (N_1151 c0 14) = (N_710 c0 14) := by rw [hM_N_1151, mu_i (by omega), hM_N_1095, mu_i (by omega), hM_N_1085, mu_i (by omega)]
              exact L_1201 _ N_1151 hI_N_1151 hF_N_1151 (by omega) rfl
            · refine kx_if_eq 123 F 208 dX12_ahead_120 (by decide) rfl (by omega) (fun h_1256 => ?_) (fun h_1256 => (by exfalso; omega))
              refine kx_aload_n 209 F 0 dX12_ahead_208 rfl rfl rfl ?_
              refine kx_dup 210 F dX12_ahead_209 rfl rfl ?_
              refine kx_geti 213 F fl_X12_156 hk_c0 rfl rfl (j := 14) rfl dX12_ahead_210 (v := (N_710 c0 14)) (by rw [hM_N_1095, mu_i (by omega), hM_N_1085, mu_i (by omega)]) rfl ?_
              refine kx_iconst 214 F dX12_ahead_213 rfl ?_
              refine kx_iadd 215 F (v := (N_710 c0 14) + 1) dX12_ahead_214 rfl rfl ?_
              refine kx_puti 218 F fw_X12_156 rfl hk_c0 rfl rfl (j := 14) rfl dX12_ahead_215 rfl ?_
              intro N_1257 hM_N_1257
              have hI_N_1257 : Inv true N_1257 := Inv.u hI_N_1095 hM_N_1257 hk_c0 (a := 0) (b := 900) rfl rfl rfl (by omega)
              have hF_N_1257 : Fr f_c_X12_ahead M N_1257 := Fr.u hF_N_1095 hM_N_1257 hk_c0 rfl
              refine kx_aload_n 219 F 0 dX12_ahead_218 rfl rfl rfl ?_
              refine kx_iload_n 220 F 1 dX12_ahead_219 rfl rfl rfl ?_
              refine kx_bipush 222 F dX12_ahead_220 (by decide) rfl ?_
              refine kx_icmp_ne 225 F 229 dX12_ahead_222 (by decide) rfl (by omega) (by decide) (fun h_1258 => ?_) (fun h_1258 => ?_)
              · refine kx_iconst 230 F dX12_ahead_229 rfl ?_
                refine kx_puti 233 F fw_X12_168 rfl hk_c0 rfl rfl (j := 12) rfl dX12_ahead_230 rfl ?_
                intro N_1259 hM_N_1259
                have hI_N_1259 : Inv true N_1259 := Inv.u hI_N_1257 hM_N_1259 hk_c0 (a := 0) (b := 4) rfl rfl rfl (by omega)
                have hF_N_1259 : Fr f_c_X12_ahead M N_1259 := Fr.u hF_N_1257 hM_N_1259 hk_c0 rfl
                exact kx_vret F hQ ⟨hI_N_1259, hF_N_1259⟩ dX12_ahead_233
              · refine kx_iconst 226 F dX12_ahead_225 rfl ?_
                refine kx_goto 230 F dX12_ahead_226 (by decide) ?_
                refine kx_puti 233 F fw_X12_168 rfl hk_c0 rfl rfl (j := 12) rfl dX12_ahead_230 rfl ?_
                intro N_1260 hM_N_1260
                have hI_N_1260 : Inv true N_1260 := Inv.u hI_N_1257 hM_N_1260 hk_c0 (a := 0) (b := 4) rfl rfl rfl (by omega)
                have hF_N_1260 : Fr f_c_X12_ahead M N_1260 := Fr.u hF_N_1257 hM_N_1260 hk_c0 rfl
                exact kx_vret F hQ ⟨hI_N_1260, hF_N_1260⟩ dX12_ahead_233
      · refine kx_bipush 23 F dX12_ahead_21 (by decide) rfl ?_
        refine kx_icmp_ne 26 F 39 dX12_ahead_23 (by decide) rfl (by omega) (by decide) (fun h_1261 => ?_) (fun h_1261 => ?_)
        · refine kx_aload_n 40 F 0 dX12_ahead_39 rfl rfl rfl ?_
          refine kx_aload_n 41 F 0 dX12_ahead_40 rfl rfl rfl ?_
          refine kx_geti 44 F fl_X12_156 hk_c0 rfl rfl (j := 14) rfl dX12_ahead_41 (v := (N_710 c0 14)) rfl rfl ?_
          refine kx_puti 47 F fw_X12_162 rfl hk_c0 rfl rfl (j := 13) rfl dX12_ahead_44 rfl ?_
          intro N_1262 hM_N_1262
          have hI_N_1262 : Inv true N_1262 := Inv.u hI_N_710 hM_N_1262 hk_c0 (a := 0) (b := 900) rfl rfl rfl (by omega)
          have hF_N_1262 : Fr f_c_X12_ahead M N_1262 := Fr.u hF_N_710 hM_N_1262 hk_c0 rfl
          refine kx_aload_n 48 F 0 dX12_ahead_47 rfl rfl rfl ?_
          refine kx_aload_n 49 F 0 dX12_ahead_48 rfl rfl rfl ?_
          refine kx_geti 52 F fl_X12_156 hk_c0 rfl rfl (j := 14) rfl dX12_ahead_49 (v := (N_710 c0 14)) (by rw [hM_N_1262, mu_i (by omega)]) rfl ?_
          refine kx_Vi 55 (ci := 0) F (As := [vI (N_710 c0 14)]) (st := []) vd_X12_159 (c_X12_byteAt G l N_1262 c0 (N_710 c0 14) hI_N_1262 hk_c0 (by omega)) hk_c0 rfl rfl rfl ⟨by decide, by decide⟩ rfl rfl (Nat.le_of_ble_eq_true rfl) dX12_ahead_52 rfl ?_
          intro r_1263 N_1264 q_1265
          obtain ⟨rfl, q_1265c⟩ := q_1265
          have e_1266 : (N_1262 c0 11) = (M c0 11) := by rw [hM_N_1262, mu_i (by omega), Fr.e hF_N_710 hk_c0 _ rfl]
          have e_1267 : (N_1262 c0 11) = (M c0 11) := by rw [hM_N_1262, mu_i (by omega), Fr.e hF_N_710 hk_c0 _ rfl]
          rcases q_1265c with q_1265c | q_1265c
          · refine kx_istore_n 56 F 1 (lo' := [some (vR G c0), some (vI r_1263)]) dX12_ahead_55 rfl (by decide) rfl rfl rfl ?_
            refine kx_aload_n 57 F 0 dX12_ahead_56 rfl rfl rfl ?_
            refine kx_iload_n 58 F 1 dX12_ahead_57 rfl rfl rfl ?_
            refine kx_puti 61 F fw_X12_165 rfl hk_c0 rfl rfl (j := 15) rfl dX12_ahead_58 rfl ?_
            intro N_1268 hM_N_1268
            have hI_N_1268 : Inv true N_1268 := Inv.u hI_N_1262 hM_N_1268 hk_c0 (a := (-2147483648)) (b := 2147483647) rfl rfl rfl (by omega)
            have hF_N_1268 : Fr f_c_X12_ahead M N_1268 := Fr.u hF_N_1262 hM_N_1268 hk_c0 rfl
            refine kx_iload_n 62 F 1 dX12_ahead_61 rfl rfl rfl ?_
            refine kx_iconst 63 F dX12_ahead_62 rfl ?_
            refine kx_icmp_ne 66 F 74 dX12_ahead_63 (by decide) rfl (by omega) (by decide) (fun h_1269 => (by exfalso; omega)) (fun h_1269 => ?_)
            refine kx_aload_n 67 F 0 dX12_ahead_66 rfl rfl rfl ?_
            refine kx_iconst 68 F dX12_ahead_67 rfl ?_
            refine kx_puti 71 F fw_X12_168 rfl hk_c0 rfl rfl (j := 12) rfl dX12_ahead_68 rfl ?_
            intro N_1270 hM_N_1270
            have hI_N_1270 : Inv true N_1270 := Inv.u hI_N_1268 hM_N_1270 hk_c0 (a := 0) (b := 4) rfl rfl rfl (by omega)
            have hF_N_1270 : Fr f_c_X12_ahead M N_1270 := Fr.u hF_N_1268 hM_N_1270 hk_c0 rfl
            refine kx_goto 233 F dX12_ahead_71 (by decide) ?_
            exact kx_vret F hQ ⟨hI_N_1270, hF_N_1270⟩ dX12_ahead_233
          · refine kx_istore_n 56 F 1 (lo' := [some (vR G c0), some (vI r_1263)]) dX12_ahead_55 rfl (by decide) rfl rfl rfl ?_
            refine kx_aload_n 57 F 0 dX12_ahead_56 rfl rfl rfl ?_
            refine kx_iload_n 58 F 1 dX12_ahead_57 rfl rfl rfl ?_
            refine kx_puti 61 F fw_X12_165 rfl hk_c0 rfl rfl (j := 15) rfl dX12_ahead_58 rfl ?_
            intro N_1271 hM_N_1271
            have hI_N_1271 : Inv true N_1271 := Inv.u hI_N_1262 hM_N_1271 hk_c0 (a := (-2147483648)) (b := 2147483647) rfl rfl rfl (by omega)
            have hF_N_1271 : Fr f_c_X12_ahead M N_1271 := Fr.u hF_N_1262 hM_N_1271 hk_c0 rfl
            refine kx_iload_n 62 F 1 dX12_ahead_61 rfl rfl rfl ?_
            refine kx_iconst 63 F dX12_ahead_62 rfl ?_
            refine kx_icmp_ne 66 F 74 dX12_ahead_63 (by decide) rfl (by omega) (by decide) (fun h_1272 => ?_) (fun h_1272 => (by exfalso; omega))
            refine kx_iload_n 75 F 1 dX12_ahead_74 rfl rfl rfl ?_
            refine kx_Si 78 F (As := [vI r_1263]) (st := []) sd_X12_171 (c_X12_isSmall G l N_1271 r_1263 hI_N_1271 (by omega)) ⟨by decide, by decide⟩ rfl rfl (Nat.le_of_ble_eq_true rfl) dX12_ahead_75 rfl ?_
            intro r_1273 N_1274 q_1275
            obtain ⟨rfl, q_1275c⟩ := q_1275
            rcases q_1275c with q_1275c | q_1275c
            · refine kx_if_eq 81 F 116 dX12_ahead_78 (by decide) rfl (by omega) (fun h_1276 => (by exfalso; omega)) (fun h_1276 => ?_)
              have L_1297 : ∀ (n_1298 : Nat) (N_1296 : Mem), Inv true N_1296 → Fr f_c_X12_ahead M N_1296 → (N_1296 c0 14) ≤ 900 → (900 - N_1296 c0 14).toNat = n_1298 → KJ true G X N_1296 81 [some (vR G c0), none] [] := by
                intro n_1298
                refine Nat.strongRecOn n_1298 ?_
                intro n_1298 ih_1299  N_1296 hI_N_1296 hF_N_1296 h_1300 hm_1301
                refine kx_aload_n 82 F 0 dX12_ahead_81 rfl rfl rfl ?_
                refine kx_aload_n 83 F 0 dX12_ahead_82 rfl rfl rfl ?_
                refine kx_geti 86 F fl_X12_156 hk_c0 rfl rfl (j := 14) rfl dX12_ahead_83 (v := (N_1296 c0 14)) rfl rfl ?_
                have h_1302 := Inv.g hI_N_1296 hk_c0 rfl 14 (a := 0) (b := 900) rfl rfl
                refine kx_Vi 89 (ci := 0) F (As := [vI (N_1296 c0 14)]) (st := []) vd_X12_159 (c_X12_byteAt G l N_1296 c0 (N_1296 c0 14) hI_N_1296 hk_c0 (by omega)) hk_c0 rfl rfl rfl ⟨by decide, by decide⟩ rfl rfl (Nat.le_of_ble_eq_true rfl) dX12_ahead_86 rfl ?_
                intro r_1303 N_1304 q_1305
                obtain ⟨rfl, q_1305c⟩ := q_1305
                have e_1306 : (N_1296 c0 11) = (M c0 11) := by rw [Fr.e hF_N_1296 hk_c0 _ rfl]
                have e_1307 : (N_1296 c0 11) = (M c0 11) := by rw [Fr.e hF_N_1296 hk_c0 _ rfl]
                rcases q_1305c with q_1305c | q_1305c
                · refine kx_Si 92 F (As := [vI r_1303]) (st := []) sd_X12_171 (c_X12_isSmall G l N_1296 r_1303 hI_N_1296 (by omega)) ⟨by decide, by decide⟩ rfl rfl (Nat.le_of_ble_eq_true rfl) dX12_ahead_89 rfl ?_
                  intro r_1308 N_1309 q_1310
                  obtain ⟨rfl, q_1310c⟩ := q_1310
                  rcases q_1310c with q_1310c | q_1310c
                  · exfalso; omega
                  · refine kx_if_eq 95 F 108 dX12_ahead_92 (by decide) rfl (by omega) (fun h_1311 => ?_) (fun h_1311 => (by exfalso; omega))
                    refine kx_aload_n 109 F 0 dX12_ahead_108 rfl rfl rfl ?_
                    refine kx_iconst 110 F dX12_ahead_109 rfl ?_
                    refine kx_puti 113 F fw_X12_168 rfl hk_c0 rfl rfl (j := 12) rfl dX12_ahead_110 rfl ?_
                    intro N_1312 hM_N_1312
                    have hI_N_1312 : Inv true N_1312 := Inv.u hI_N_1296 hM_N_1312 hk_c0 (a := 0) (b := 4) rfl rfl rfl (by omega)
                    have hF_N_1312 : Fr f_c_X12_ahead M N_1312 := Fr.u hF_N_1296 hM_N_1312 hk_c0 rfl
                    refine kx_goto 233 F dX12_ahead_113 (by decide) ?_
                    exact kx_vret F hQ ⟨hI_N_1312, hF_N_1312⟩ dX12_ahead_233
                · refine kx_Si 92 F (As := [vI r_1303]) (st := []) sd_X12_171 (c_X12_isSmall G l N_1296 r_1303 hI_N_1296 (by omega)) ⟨by decide, by decide⟩ rfl rfl (Nat.le_of_ble_eq_true rfl) dX12_ahead_89 rfl ?_
                  intro r_1313 N_1314 q_1315
                  obtain ⟨rfl, q_1315c⟩ := q_1315
                  rcases q_1315c with q_1315c | q_1315c
                  · refine kx_if_eq 95 F 108 dX12_ahead_92 (by decide) rfl (by omega) (fun h_1316 => (by exfalso; omega)) (fun h_1316 => ?_)
                    refine kx_aload_n 96 F 0 dX12_ahead_95 rfl rfl rfl ?_
                    refine kx_dup 97 F dX12_ahead_96 rfl rfl ?_
                    refine kx_geti 100 F fl_X12_156 hk_c0 rfl rfl (j := 14) rfl dX12_ahead_97 (v := (N_1296 c0 14)) rfl rfl ?_
                    refine kx_iconst 101 F dX12_ahead_100 rfl ?_
                    refine kx_iadd 102 F (v := (N_1296 c0 14) + 1) dX12_ahead_101 rfl rfl ?_
                    refine kx_puti 105 F fw_X12_156 rfl hk_c0 rfl rfl (j := 14) rfl dX12_ahead_102 rfl ?_
                    intro N_1317 hM_N_1317
                    have hI_N_1317 : Inv true N_1317 := Inv.u hI_N_1296 hM_N_1317 hk_c0 (a := 0) (b := 900) rfl rfl rfl (by omega)
                    have hF_N_1317 : Fr f_c_X12_ahead M N_1317 := Fr.u hF_N_1296 hM_N_1317 hk_c0 rfl
                    refine kx_goto 81 F dX12_ahead_105 (by decide) ?_
                    have e_1318 : (N_1317 c0 14) = (N_1296 c0 14) + 1 := by rw [hM_N_1317, mu_s]
                    exact ih_1299 _ (by omega) N_1317 hI_N_1317 hF_N_1317 (by omega) rfl
                  · refine kx_if_eq 95 F 108 dX12_ahead_92 (by decide) rfl (by omega) (fun h_1319 => ?_) (fun h_1319 => (by exfalso; omega))
                    refine kx_aload_n 109 F 0 dX12_ahead_108 rfl rfl rfl ?_
                    refine kx_iconst 110 F dX12_ahead_109 rfl ?_
                    refine kx_puti 113 F fw_X12_168 rfl hk_c0 rfl rfl (j := 12) rfl dX12_ahead_110 rfl ?_
                    intro N_1320 hM_N_1320
                    have hI_N_1320 : Inv true N_1320 := Inv.u hI_N_1296 hM_N_1320 hk_c0 (a := 0) (b := 4) rfl rfl rfl (by omega)
                    have hF_N_1320 : Fr f_c_X12_ahead M N_1320 := Fr.u hF_N_1296 hM_N_1320 hk_c0 rfl
                    refine kx_goto 233 F dX12_ahead_113 (by decide) ?_
                    exact kx_vret F hQ ⟨hI_N_1320, hF_N_1320⟩ dX12_ahead_233
              refine kx_drop 1 (lo' := [some (vR G c0), none]) rfl ?_
              have e_1321 : (N_1271 c0 14) = (N_710 c0 14) := by rw [hM_N_1271, mu_i (by omega), hM_N_1262, mu_i (by omega)]
              exact L_1297 _ N_1271 hI_N_1271 hF_N_1271 (by omega) rfl
            · refine kx_if_eq 81 F 116 dX12_ahead_78 (by decide) rfl (by omega) (fun h_1322 => ?_) (fun h_1322 => (by exfalso; omega))
              refine kx_iload_n 117 F 1 dX12_ahead_116 rfl rfl rfl ?_
              refine kx_Si 120 F (As := [vI r_1263]) (st := []) sd_X12_174 (c_X12_isDigit G l N_1271 r_1263 hI_N_1271 (by omega)) ⟨by decide, by decide⟩ rfl rfl (Nat.le_of_ble_eq_true rfl) dX12_ahead_117 rfl ?_
              intro r_1323 N_1324 q_1325
              obtain ⟨rfl, q_1325c⟩ := q_1325
              rcases q_1325c with q_1325c | q_1325c
              · refine kx_if_eq 123 F 208 dX12_ahead_120 (by decide) rfl (by omega) (fun h_1326 => (by exfalso; omega)) (fun h_1326 => ?_)
                refine kx_aload_n 124 F 0 dX12_ahead_123 rfl rfl rfl ?_
                refine kx_iconst 125 F dX12_ahead_124 rfl ?_
                refine kx_puti 128 F fw_X12_165 rfl hk_c0 rfl rfl (j := 15) rfl dX12_ahead_125 rfl ?_
                intro N_1327 hM_N_1327
                have hI_N_1327 : Inv true N_1327 := Inv.u hI_N_1271 hM_N_1327 hk_c0 (a := (-2147483648)) (b := 2147483647) rfl rfl rfl (by omega)
                have hF_N_1327 : Fr f_c_X12_ahead M N_1327 := Fr.u hF_N_1271 hM_N_1327 hk_c0 rfl
                have L_1377 : ∀ (n_1378 : Nat) (N_1376 : Mem), Inv true N_1376 → Fr f_c_X12_ahead M N_1376 → (N_1376 c0 14) ≤ 900 → (900 - N_1376 c0 14).toNat = n_1378 → KJ true G X N_1376 128 [some (vR G c0), none] [] := by
                  intro n_1378
                  refine Nat.strongRecOn n_1378 ?_
                  intro n_1378 ih_1379  N_1376 hI_N_1376 hF_N_1376 h_1380 hm_1381
                  refine kx_aload_n 129 F 0 dX12_ahead_128 rfl rfl rfl ?_
                  refine kx_aload_n 130 F 0 dX12_ahead_129 rfl rfl rfl ?_
                  refine kx_geti 133 F fl_X12_156 hk_c0 rfl rfl (j := 14) rfl dX12_ahead_130 (v := (N_1376 c0 14)) rfl rfl ?_
                  have h_1382 := Inv.g hI_N_1376 hk_c0 rfl 14 (a := 0) (b := 900) rfl rfl
                  refine kx_Vi 136 (ci := 0) F (As := [vI (N_1376 c0 14)]) (st := []) vd_X12_159 (c_X12_byteAt G l N_1376 c0 (N_1376 c0 14) hI_N_1376 hk_c0 (by omega)) hk_c0 rfl rfl rfl ⟨by decide, by decide⟩ rfl rfl (Nat.le_of_ble_eq_true rfl) dX12_ahead_133 rfl ?_
                  intro r_1383 N_1384 q_1385
                  obtain ⟨rfl, q_1385c⟩ := q_1385
                  have e_1386 : (N_1376 c0 11) = (M c0 11) := by rw [Fr.e hF_N_1376 hk_c0 _ rfl]
                  have e_1387 : (N_1376 c0 11) = (M c0 11) := by rw [Fr.e hF_N_1376 hk_c0 _ rfl]
                  rcases q_1385c with q_1385c | q_1385c
                  · refine kx_Si 139 F (As := [vI r_1383]) (st := []) sd_X12_174 (c_X12_isDigit G l N_1376 r_1383 hI_N_1376 (by omega)) ⟨by decide, by decide⟩ rfl rfl (Nat.le_of_ble_eq_true rfl) dX12_ahead_136 rfl ?_
                    intro r_1388 N_1389 q_1390
                    obtain ⟨rfl, q_1390c⟩ := q_1390
                    rcases q_1390c with q_1390c | q_1390c
                    · exfalso; omega
                    · refine kx_if_eq 142 F 183 dX12_ahead_139 (by decide) rfl (by omega) (fun h_1391 => ?_) (fun h_1391 => (by exfalso; omega))
                      refine kx_aload_n 184 F 0 dX12_ahead_183 rfl rfl rfl ?_
                      refine kx_aload_n 185 F 0 dX12_ahead_184 rfl rfl rfl ?_
                      refine kx_geti 188 F fl_X12_156 hk_c0 rfl rfl (j := 14) rfl dX12_ahead_185 (v := (N_1376 c0 14)) rfl rfl ?_
                      refine kx_aload_n 189 F 0 dX12_ahead_188 rfl rfl rfl ?_
                      refine kx_geti 192 F fl_X12_162 hk_c0 rfl rfl (j := 13) rfl dX12_ahead_189 (v := (N_1376 c0 13)) rfl rfl ?_
                      have h_1392 := Inv.g hI_N_1376 hk_c0 rfl 13 (a := 0) (b := 900) rfl rfl
                      refine kx_isub 193 F (v := (N_1376 c0 14) - (N_1376 c0 13)) dX12_ahead_192 rfl rfl ?_
                      refine kx_iconst 194 F dX12_ahead_193 rfl ?_
                      refine kx_icmp_le 197 F 201 dX12_ahead_194 (by decide) rfl (by omega) (by decide) (fun h_1393 => ?_) (fun h_1393 => ?_)
                      · refine kx_iconst 202 F dX12_ahead_201 rfl ?_
                        refine kx_puti 205 F fw_X12_168 rfl hk_c0 rfl rfl (j := 12) rfl dX12_ahead_202 rfl ?_
                        intro N_1394 hM_N_1394
                        have hI_N_1394 : Inv true N_1394 := Inv.u hI_N_1376 hM_N_1394 hk_c0 (a := 0) (b := 4) rfl rfl rfl (by omega)
                        have hF_N_1394 : Fr f_c_X12_ahead M N_1394 := Fr.u hF_N_1376 hM_N_1394 hk_c0 rfl
                        refine kx_goto 233 F dX12_ahead_205 (by decide) ?_
                        exact kx_vret F hQ ⟨hI_N_1394, hF_N_1394⟩ dX12_ahead_233
                      · refine kx_iconst 198 F dX12_ahead_197 rfl ?_
                        refine kx_goto 202 F dX12_ahead_198 (by decide) ?_
                        refine kx_puti 205 F fw_X12_168 rfl hk_c0 rfl rfl (j := 12) rfl dX12_ahead_202 rfl ?_
                        intro N_1395 hM_N_1395
                        have hI_N_1395 : Inv true N_1395 := Inv.u hI_N_1376 hM_N_1395 hk_c0 (a := 0) (b := 4) rfl rfl rfl (by omega)
                        have hF_N_1395 : Fr f_c_X12_ahead M N_1395 := Fr.u hF_N_1376 hM_N_1395 hk_c0 rfl
                        refine kx_goto 233 F dX12_ahead_205 (by decide) ?_
                        exact kx_vret F hQ ⟨hI_N_1395, hF_N_1395⟩ dX12_ahead_233
                  · refine kx_Si 139 F (As := [vI r_1383]) (st := []) sd_X12_174 (c_X12_isDigit G l N_1376 r_1383 hI_N_1376 (by omega)) ⟨by decide, by decide⟩ rfl rfl (Nat.le_of_ble_eq_true rfl) dX12_ahead_136 rfl ?_
                    intro r_1396 N_1397 q_1398
                    obtain ⟨rfl, q_1398c⟩ := q_1398
                    rcases q_1398c with q_1398c | q_1398c
                    · refine kx_if_eq 142 F 183 dX12_ahead_139 (by decide) rfl (by omega) (fun h_1399 => (by exfalso; omega)) (fun h_1399 => ?_)
                      refine kx_aload_n 143 F 0 dX12_ahead_142 rfl rfl rfl ?_
                      refine kx_ldc 145 (z := 100000) F dX12_ahead_143 ct_X12_177 rfl ?_
                      refine kx_bipush 147 F dX12_ahead_145 (by decide) rfl ?_
                      refine kx_aload_n 148 F 0 dX12_ahead_147 rfl rfl rfl ?_
                      refine kx_geti 151 F fl_X12_165 hk_c0 rfl rfl (j := 15) rfl dX12_ahead_148 (v := (N_1376 c0 15)) rfl rfl ?_
                      have h_1400 := Inv.g hI_N_1376 hk_c0 rfl 15 (a := (-2147483648)) (b := 2147483647) rfl rfl
                      refine kx_imul 152 F (v := 10 * (N_1376 c0 15)) dX12_ahead_151 (by omega) rfl ?_
                      refine kx_wrapi (fun w_1401 h_1402 _ => ?_)
                      refine kx_aload_n 153 F 0 dX12_ahead_152 rfl rfl rfl ?_
                      refine kx_aload_n 154 F 0 dX12_ahead_153 rfl rfl rfl ?_
                      refine kx_geti 157 F fl_X12_156 hk_c0 rfl rfl (j := 14) rfl dX12_ahead_154 (v := (N_1376 c0 14)) rfl rfl ?_
                      refine kx_Vi 160 (ci := 0) F (As := [vI (N_1376 c0 14)]) (st := [vI w_1401, vI 100000, vR G c0]) vd_X12_159 (c_X12_byteAt G l N_1376 c0 (N_1376 c0 14) hI_N_1376 hk_c0 (by omega)) hk_c0 rfl rfl rfl ⟨by decide, by decide⟩ rfl rfl (Nat.le_of_ble_eq_true rfl) dX12_ahead_157 rfl ?_
                      intro r_1403 N_1404 q_1405
                      obtain ⟨rfl, q_1405c⟩ := q_1405
                      have e_1406 : (N_1376 c0 11) = (M c0 11) := by rw [Fr.e hF_N_1376 hk_c0 _ rfl]
                      have e_1407 : (N_1376 c0 11) = (M c0 11) := by rw [Fr.e hF_N_1376 hk_c0 _ rfl]
                      rcases q_1405c with q_1405c | q_1405c
                      · refine kx_iadd 161 F (v := w_1401 + r_1403) dX12_ahead_160 rfl rfl ?_
                        refine kx_wrapi (fun w_1408 h_1409 _ => ?_)
                        refine kx_bipush 163 F dX12_ahead_161 (by decide) rfl ?_
                        refine kx_isub 164 F (v := w_1408 - 48) dX12_ahead_163 rfl rfl ?_
                        refine kx_wrapi (fun w_1410 h_1411 _ => ?_)
                        refine kx_mmin 167 F dX12_ahead_164 (tt lm_1833 rfl) (tt lm_800 rfl) (tt lm_180 rfl) (tt lm_801 rfl) (by decide) (Nat.le_of_ble_eq_true rfl) (by omega) (by omega) rfl (fun w_1412 h_1413 => ?_)
                        refine kx_puti 170 F fw_X12_165 rfl hk_c0 rfl rfl (j := 15) rfl dX12_ahead_167 rfl ?_
                        intro N_1414 hM_N_1414
                        have hI_N_1414 : Inv true N_1414 := Inv.u hI_N_1376 hM_N_1414 hk_c0 (a := (-2147483648)) (b := 2147483647) rfl rfl rfl (by omega)
                        have hF_N_1414 : Fr f_c_X12_ahead M N_1414 := Fr.u hF_N_1376 hM_N_1414 hk_c0 rfl
                        refine kx_aload_n 171 F 0 dX12_ahead_170 rfl rfl rfl ?_
                        refine kx_dup 172 F dX12_ahead_171 rfl rfl ?_
                        refine kx_geti 175 F fl_X12_156 hk_c0 rfl rfl (j := 14) rfl dX12_ahead_172 (v := (N_1376 c0 14)) (by rw [hM_N_1414, mu_i (by omega)]) rfl ?_
                        refine kx_iconst 176 F dX12_ahead_175 rfl ?_
                        refine kx_iadd 177 F (v := (N_1376 c0 14) + 1) dX12_ahead_176 rfl rfl ?_
                        refine kx_puti 180 F fw_X12_156 rfl hk_c0 rfl rfl (j := 14) rfl dX12_ahead_177 rfl ?_
                        intro N_1415 hM_N_1415
                        have hI_N_1415 : Inv true N_1415 := Inv.u hI_N_1414 hM_N_1415 hk_c0 (a := 0) (b := 900) rfl rfl rfl (by omega)
                        have hF_N_1415 : Fr f_c_X12_ahead M N_1415 := Fr.u hF_N_1414 hM_N_1415 hk_c0 rfl
                        refine kx_goto 128 F dX12_ahead_180 (by decide) ?_
                        have e_1416 : (N_1415 c0 14) = (N_1376 c0 14) + 1 := by rw [hM_N_1415, mu_s]
                        exact ih_1379 _ (by omega) N_1415 hI_N_1415 hF_N_1415 (by omega) rfl
                      · refine kx_iadd 161 F (v := w_1401 + r_1403) dX12_ahead_160 rfl rfl ?_
                        refine kx_wrapi (fun w_1417 h_1418 _ => ?_)
                        refine kx_bipush 163 F dX12_ahead_161 (by decide) rfl ?_
                        refine kx_isub 164 F (v := w_1417 - 48) dX12_ahead_163 rfl rfl ?_
                        refine kx_wrapi (fun w_1419 h_1420 _ => ?_)
                        refine kx_mmin 167 F dX12_ahead_164 (tt lm_1833 rfl) (tt lm_800 rfl) (tt lm_180 rfl) (tt lm_801 rfl) (by decide) (Nat.le_of_ble_eq_true rfl) (by omega) (by omega) rfl (fun w_1421 h_1422 => ?_)
                        refine kx_puti 170 F fw_X12_165 rfl hk_c0 rfl rfl (j := 15) rfl dX12_ahead_167 rfl ?_
                        intro N_1423 hM_N_1423
                        have hI_N_1423 : Inv true N_1423 := Inv.u hI_N_1376 hM_N_1423 hk_c0 (a := (-2147483648)) (b := 2147483647) rfl rfl rfl (by omega)
                        have hF_N_1423 : Fr f_c_X12_ahead M N_1423 := Fr.u hF_N_1376 hM_N_1423 hk_c0 rfl
                        refine kx_aload_n 171 F 0 dX12_ahead_170 rfl rfl rfl ?_
                        refine kx_dup 172 F dX12_ahead_171 rfl rfl ?_
                        refine kx_geti 175 F fl_X12_156 hk_c0 rfl rfl (j := 14) rfl dX12_ahead_172 (v := (N_1376 c0 14)) (by rw [hM_N_1423, mu_i (by omega)]) rfl ?_
                        refine kx_iconst 176 F dX12_ahead_175 rfl ?_
                        refine kx_iadd 177 F (v := (N_1376 c0 14) + 1) dX12_ahead_176 rfl rfl ?_
                        refine kx_puti 180 F fw_X12_156 rfl hk_c0 rfl rfl (j := 14) rfl dX12_ahead_177 rfl ?_
                        intro N_1424 hM_N_1424
                        have hI_N_1424 : Inv true N_1424 := Inv.u hI_N_1423 hM_N_1424 hk_c0 (a := 0) (b := 900) rfl rfl rfl (by omega)
                        have hF_N_1424 : Fr f_c_X12_ahead M N_1424 := Fr.u hF_N_1423 hM_N_1424 hk_c0 rfl
                        refine kx_goto 128 F dX12_ahead_180 (by decide) ?_
                        have e_1425 : (N_1424 c0 14) = (N_1376 c0 14) + 1 := by rw [hM_N_1424, mu_s]
                        exact ih_1379 _ (by omega) N_1424 hI_N_1424 hF_N_1424 (by omega) rfl
                    · refine kx_if_eq 142 F 183 dX12_ahead_139 (by decide) rfl (by omega) (fun h_1426 => ?_) (fun h_1426 => (by exfalso; omega))
                      refine kx_aload_n 184 F 0 dX12_ahead_183 rfl rfl rfl ?_
                      refine kx_aload_n 185 F 0 dX12_ahead_184 rfl rfl rfl ?_
                      refine kx_geti 188 F fl_X12_156 hk_c0 rfl rfl (j := 14) rfl dX12_ahead_185 (v := (N_1376 c0 14)) rfl rfl ?_
                      refine kx_aload_n 189 F 0 dX12_ahead_188 rfl rfl rfl ?_
                      refine kx_geti 192 F fl_X12_162 hk_c0 rfl rfl (j := 13) rfl dX12_ahead_189 (v := (N_1376 c0 13)) rfl rfl ?_
                      have h_1427 := Inv.g hI_N_1376 hk_c0 rfl 13 (a := 0) (b := 900) rfl rfl
                      refine kx_isub 193 F (v := (N_1376 c0 14) - (N_1376 c0 13)) dX12_ahead_192 rfl rfl ?_
                      refine kx_iconst 194 F dX12_ahead_193 rfl ?_
                      refine kx_icmp_le 197 F 201 dX12_ahead_194 (by decide) rfl (by omega) (by decide) (fun h_1428 => ?_) (fun h_1428 => ?_)
                      · refine kx_iconst 202 F dX12_ahead_201 rfl ?_
                        refine kx_puti 205 F fw_X12_168 rfl hk_c0 rfl rfl (j := 12) rfl dX12_ahead_202 rfl ?_
                        intro N_1429 hM_N_1429
                        have hI_N_1429 : Inv true N_1429 := Inv.u hI_N_1376 hM_N_1429 hk_c0 (a := 0) (b := 4) rfl rfl rfl (by omega)
                        have hF_N_1429 : Fr f_c_X12_ahead M N_1429 := Fr.u hF_N_1376 hM_N_1429 hk_c0 rfl
                        refine kx_goto 233 F dX12_ahead_205 (by decide) ?_
                        exact kx_vret F hQ ⟨hI_N_1429, hF_N_1429⟩ dX12_ahead_233
                      · refine kx_iconst 198 F dX12_ahead_197 rfl ?_
                        refine kx_goto 202 F dX12_ahead_198 (by decide) ?_
                        refine kx_puti 205 F fw_X12_168 rfl hk_c0 rfl rfl (j := 12) rfl dX12_ahead_202 rfl ?_
                        intro N_1430 hM_N_1430
                        have hI_N_1430 : Inv true N_1430 := Inv.u hI_N_1376 hM_N_1430 hk_c0 (a := 0) (b := 4) rfl rfl rfl (by omega)
                        have hF_N_1430 : Fr f_c_X12_ahead M N_1430 := Fr.u hF_N_1376 hM_N_1430 hk_c0 rfl
                        refine kx_goto 233 F dX12_ahead_205 (by decide) ?_
                        exact kx_vret F hQ ⟨hI_N_1430, hF_N_1430⟩ dX12_ahead_233
                refine kx_drop 1 (lo' := [some (vR G c0), none]) rfl ?_
                have e_1431 : (N_1327 c0 14) = (N_710 c0 14) := by rw [hM_N_1327, mu_i (by omega), hM_N_1271, mu_i (by omega), hM_N_1262, mu_i (by omega)]
                exact L_1377 _ N_1327 hI_N_1327 hF_N_1327 (by omega) rfl
              · refine kx_if_eq 123 F 208 dX12_ahead_120 (by decide) rfl (by omega) (fun h_1432 => ?_) (fun h_1432 => (by exfalso; omega))
                refine kx_aload_n 209 F 0 dX12_ahead_208 rfl rfl rfl ?_
                refine kx_dup 210 F dX12_ahead_209 rfl rfl ?_
                refine kx_geti 213 F fl_X12_156 hk_c0 rfl rfl (j := 14) rfl dX12_ahead_210 (v := (N_710 c0 14)) (by rw [hM_N_1271, mu_i (by omega), hM_N_1262, mu_i (by omega)]) rfl ?_
                refine kx_iconst 214 F dX12_ahead_213 rfl ?_
                refine kx_iadd 215 F (v := (N_710 c0 14) + 1) dX12_ahead_214 rfl rfl ?_
                refine kx_puti 218 F fw_X12_156 rfl hk_c0 rfl rfl (j := 14) rfl dX12_ahead_215 rfl ?_
                intro N_1433 hM_N_1433
                have hI_N_1433 : Inv true N_1433 := Inv.u hI_N_1271 hM_N_1433 hk_c0 (a := 0) (b := 900) rfl rfl rfl (by omega)
                have hF_N_1433 : Fr f_c_X12_ahead M N_1433 := Fr.u hF_N_1271 hM_N_1433 hk_c0 rfl
                refine kx_aload_n 219 F 0 dX12_ahead_218 rfl rfl rfl ?_
                refine kx_iload_n 220 F 1 dX12_ahead_219 rfl rfl rfl ?_
                refine kx_bipush 222 F dX12_ahead_220 (by decide) rfl ?_
                refine kx_icmp_ne 225 F 229 dX12_ahead_222 (by decide) rfl (by omega) (by decide) (fun h_1434 => ?_) (fun h_1434 => ?_)
                · refine kx_iconst 230 F dX12_ahead_229 rfl ?_
                  refine kx_puti 233 F fw_X12_168 rfl hk_c0 rfl rfl (j := 12) rfl dX12_ahead_230 rfl ?_
                  intro N_1435 hM_N_1435
                  have hI_N_1435 : Inv true N_1435 := Inv.u hI_N_1433 hM_N_1435 hk_c0 (a := 0) (b := 4) rfl rfl rfl (by omega)
                  have hF_N_1435 : Fr f_c_X12_ahead M N_1435 := Fr.u hF_N_1433 hM_N_1435 hk_c0 rfl
                  exact kx_vret F hQ ⟨hI_N_1435, hF_N_1435⟩ dX12_ahead_233
                · refine kx_iconst 226 F dX12_ahead_225 rfl ?_
                  refine kx_goto 230 F dX12_ahead_226 (by decide) ?_
                  refine kx_puti 233 F fw_X12_168 rfl hk_c0 rfl rfl (j := 12) rfl dX12_ahead_230 rfl ?_
                  intro N_1436 hM_N_1436
                  have hI_N_1436 : Inv true N_1436 := Inv.u hI_N_1433 hM_N_1436 hk_c0 (a := 0) (b := 4) rfl rfl rfl (by omega)
                  have hF_N_1436 : Fr f_c_X12_ahead M N_1436 := Fr.u hF_N_1433 hM_N_1436 hk_c0 rfl
                  exact kx_vret F hQ ⟨hI_N_1436, hF_N_1436⟩ dX12_ahead_233
        · exact J_1073 (by omega)
    · refine kx_bipush 10 F dX12_ahead_8 (by decide) rfl ?_
      have J_1785 : (N_710 c0 14) ≤ 899 → KJ true G X N_710 26 [some (vR G c0), none] [] := by
        intro h_1786
        refine kx_aload_n 27 F 0 dX12_ahead_26 rfl rfl rfl ?_
        refine kx_dup 28 F dX12_ahead_27 rfl rfl ?_
        refine kx_geti 31 F fl_X12_156 hk_c0 rfl rfl (j := 14) rfl dX12_ahead_28 (v := (N_710 c0 14)) rfl rfl ?_
        refine kx_iconst 32 F dX12_ahead_31 rfl ?_
        refine kx_iadd 33 F (v := (N_710 c0 14) + 1) dX12_ahead_32 rfl rfl ?_
        refine kx_puti 36 F fw_X12_156 rfl hk_c0 rfl rfl (j := 14) rfl dX12_ahead_33 rfl ?_
        intro N_1787 hM_N_1787
        have hI_N_1787 : Inv true N_1787 := Inv.u hI_N_710 hM_N_1787 hk_c0 (a := 0) (b := 900) rfl rfl rfl (by omega)
        have hF_N_1787 : Fr f_c_X12_ahead M N_1787 := Fr.u hF_N_710 hM_N_1787 hk_c0 rfl
        refine kx_goto 0 F dX12_ahead_36 (by decide) ?_
        have e_1788 : (N_1787 c0 14) = (N_710 c0 14) + 1 := by rw [hM_N_1787, mu_s]
        exact ih_713 _ (by omega) N_1787 hI_N_1787 hF_N_1787 (by omega) rfl
      refine kx_icmp_eq 13 F 26 dX12_ahead_10 (by decide) rfl (by omega) (by decide) (fun h_1789 => ?_) (fun h_1789 => ?_)
      · exact J_1785 (by omega)
      · refine kx_aload_n 14 F 0 dX12_ahead_13 rfl rfl rfl ?_
        refine kx_aload_n 15 F 0 dX12_ahead_14 rfl rfl rfl ?_
        refine kx_geti 18 F fl_X12_156 hk_c0 rfl rfl (j := 14) rfl dX12_ahead_15 (v := (N_710 c0 14)) rfl rfl ?_
        refine kx_Vi 21 (ci := 0) F (As := [vI (N_710 c0 14)]) (st := []) vd_X12_159 (c_X12_byteAt G l N_710 c0 (N_710 c0 14) hI_N_710 hk_c0 (by omega)) hk_c0 rfl rfl rfl ⟨by decide, by decide⟩ rfl rfl (Nat.le_of_ble_eq_true rfl) dX12_ahead_18 rfl ?_
        intro r_1790 N_1791 q_1792
        obtain ⟨rfl, q_1792c⟩ := q_1792
        have e_1793 : (N_710 c0 11) = (M c0 11) := by rw [Fr.e hF_N_710 hk_c0 _ rfl]
        have e_1794 : (N_710 c0 11) = (M c0 11) := by rw [Fr.e hF_N_710 hk_c0 _ rfl]
        rcases q_1792c with q_1792c | q_1792c
        · refine kx_bipush 23 F dX12_ahead_21 (by decide) rfl ?_
          refine kx_icmp_ne 26 F 39 dX12_ahead_23 (by decide) rfl (by omega) (by decide) (fun h_1795 => ?_) (fun h_1795 => (by exfalso; omega))
          refine kx_aload_n 40 F 0 dX12_ahead_39 rfl rfl rfl ?_
          refine kx_aload_n 41 F 0 dX12_ahead_40 rfl rfl rfl ?_
          refine kx_geti 44 F fl_X12_156 hk_c0 rfl rfl (j := 14) rfl dX12_ahead_41 (v := (N_710 c0 14)) rfl rfl ?_
          refine kx_puti 47 F fw_X12_162 rfl hk_c0 rfl rfl (j := 13) rfl dX12_ahead_44 rfl ?_
          intro N_1796 hM_N_1796
          have hI_N_1796 : Inv true N_1796 := Inv.u hI_N_710 hM_N_1796 hk_c0 (a := 0) (b := 900) rfl rfl rfl (by omega)
          have hF_N_1796 : Fr f_c_X12_ahead M N_1796 := Fr.u hF_N_710 hM_N_1796 hk_c0 rfl
          refine kx_aload_n 48 F 0 dX12_ahead_47 rfl rfl rfl ?_
          refine kx_aload_n 49 F 0 dX12_ahead_48 rfl rfl rfl ?_
          refine kx_geti 52 F fl_X12_156 hk_c0 rfl rfl (j := 14) rfl dX12_ahead_49 (v := (N_710 c0 14)) (by rw [hM_N_1796, mu_i (by omega)]) rfl ?_
          refine kx_Vi 55 (ci := 0) F (As := [vI (N_710 c0 14)]) (st := []) vd_X12_159 (c_X12_byteAt G l N_1796 c0 (N_710 c0 14) hI_N_1796 hk_c0 (by omega)) hk_c0 rfl rfl rfl ⟨by decide, by decide⟩ rfl rfl (Nat.le_of_ble_eq_true rfl) dX12_ahead_52 rfl ?_
          intro r_1797 N_1798 q_1799
          obtain ⟨rfl, q_1799c⟩ := q_1799
          have e_1800 : (N_1796 c0 11) = (M c0 11) := by rw [hM_N_1796, mu_i (by omega), Fr.e hF_N_710 hk_c0 _ rfl]
          have e_1801 : (N_1796 c0 11) = (M c0 11) := by rw [hM_N_1796, mu_i (by omega), Fr.e hF_N_710 hk_c0 _ rfl]
          rcases q_1799c with q_1799c | q_1799c
          · refine kx_istore_n 56 F 1 (lo' := [some (vR G c0), some (vI r_1797)]) dX12_ahead_55 rfl (by decide) rfl rfl rfl ?_
            refine kx_aload_n 57 F 0 dX12_ahead_56 rfl rfl rfl ?_
            refine kx_iload_n 58 F 1 dX12_ahead_57 rfl rfl rfl ?_
            refine kx_puti 61 F fw_X12_165 rfl hk_c0 rfl rfl (j := 15) rfl dX12_ahead_58 rfl ?_
            intro N_1802 hM_N_1802
            have hI_N_1802 : Inv true N_1802 := Inv.u hI_N_1796 hM_N_1802 hk_c0 (a := (-2147483648)) (b := 2147483647) rfl rfl rfl (by omega)
            have hF_N_1802 : Fr f_c_X12_ahead M N_1802 := Fr.u hF_N_1796 hM_N_1802 hk_c0 rfl
            refine kx_iload_n 62 F 1 dX12_ahead_61 rfl rfl rfl ?_
            refine kx_iconst 63 F dX12_ahead_62 rfl ?_
            refine kx_icmp_ne 66 F 74 dX12_ahead_63 (by decide) rfl (by omega) (by decide) (fun h_1803 => (by exfalso; omega)) (fun h_1803 => ?_)
            refine kx_aload_n 67 F 0 dX12_ahead_66 rfl rfl rfl ?_
            refine kx_iconst 68 F dX12_ahead_67 rfl ?_
            refine kx_puti 71 F fw_X12_168 rfl hk_c0 rfl rfl (j := 12) rfl dX12_ahead_68 rfl ?_
            intro N_1804 hM_N_1804
            have hI_N_1804 : Inv true N_1804 := Inv.u hI_N_1802 hM_N_1804 hk_c0 (a := 0) (b := 4) rfl rfl rfl (by omega)
            have hF_N_1804 : Fr f_c_X12_ahead M N_1804 := Fr.u hF_N_1802 hM_N_1804 hk_c0 rfl
            refine kx_goto 233 F dX12_ahead_71 (by decide) ?_
            exact kx_vret F hQ ⟨hI_N_1804, hF_N_1804⟩ dX12_ahead_233
          · refine kx_istore_n 56 F 1 (lo' := [some (vR G c0), some (vI r_1797)]) dX12_ahead_55 rfl (by decide) rfl rfl rfl ?_
            refine kx_aload_n 57 F 0 dX12_ahead_56 rfl rfl rfl ?_
            refine kx_iload_n 58 F 1 dX12_ahead_57 rfl rfl rfl ?_
            refine kx_puti 61 F fw_X12_165 rfl hk_c0 rfl rfl (j := 15) rfl dX12_ahead_58 rfl ?_
            intro N_1805 hM_N_1805
            have hI_N_1805 : Inv true N_1805 := Inv.u hI_N_1796 hM_N_1805 hk_c0 (a := (-2147483648)) (b := 2147483647) rfl rfl rfl (by omega)
            have hF_N_1805 : Fr f_c_X12_ahead M N_1805 := Fr.u hF_N_1796 hM_N_1805 hk_c0 rfl
            refine kx_iload_n 62 F 1 dX12_ahead_61 rfl rfl rfl ?_
            refine kx_iconst 63 F dX12_ahead_62 rfl ?_
            refine kx_icmp_ne 66 F 74 dX12_ahead_63 (by decide) rfl (by omega) (by decide) (fun h_1806 => ?_) (fun h_1806 => (by exfalso; omega))
            refine kx_iload_n 75 F 1 dX12_ahead_74 rfl rfl rfl ?_
            refine kx_Si 78 F (As := [vI r_1797]) (st := []) sd_X12_171 (c_X12_isSmall G l N_1805 r_1797 hI_N_1805 (by omega)) ⟨by decide, by decide⟩ rfl rfl (Nat.le_of_ble_eq_true rfl) dX12_ahead_75 rfl ?_
            intro r_1807 N_1808 q_1809
            obtain ⟨rfl, q_1809c⟩ := q_1809
            rcases q_1809c with q_1809c | q_1809c
            · refine kx_if_eq 81 F 116 dX12_ahead_78 (by decide) rfl (by omega) (fun h_1810 => (by exfalso; omega)) (fun h_1810 => ?_)
              have L_1831 : ∀ (n_1832 : Nat) (N_1830 : Mem), Inv true N_1830 → Fr f_c_X12_ahead M N_1830 → (N_1830 c0 14) ≤ 900 → (900 - N_1830 c0 14).toNat = n_1832 → KJ true G X N_1830 81 [some (vR G c0), none] [] := by
                intro n_1832
                refine Nat.strongRecOn n_1832 ?_
                intro n_1832 ih_1833  N_1830 hI_N_1830 hF_N_1830 h_1834 hm_1835
                refine kx_aload_n 82 F 0 dX12_ahead_81 rfl rfl rfl ?_
                refine kx_aload_n 83 F 0 dX12_ahead_82 rfl rfl rfl ?_
                refine kx_geti 86 F fl_X12_156 hk_c0 rfl rfl (j := 14) rfl dX12_ahead_83 (v := (N_1830 c0 14)) rfl rfl ?_
                have h_1836 := Inv.g hI_N_1830 hk_c0 rfl 14 (a := 0) (b := 900) rfl rfl
                refine kx_Vi 89 (ci := 0) F (As := [vI (N_1830 c0 14)]) (st := []) vd_X12_159 (c_X12_byteAt G l N_1830 c0 (N_1830 c0 14) hI_N_1830 hk_c0 (by omega)) hk_c0 rfl rfl rfl ⟨by decide, by decide⟩ rfl rfl (Nat.le_of_ble_eq_true rfl) dX12_ahead_86 rfl ?_
                intro r_1837 N_1838 q_1839
                obtain ⟨rfl, q_1839c⟩ := q_1839
                have e_1840 : (N_1830 c0 11) = (M c0 11) := by rw [Fr.e hF_N_1830 hk_c0 _ rfl]
                have e_1841 : (N_1830 c0 11) = (M c0 11) := by rw [Fr.e hF_N_1830 hk_c0 _ rfl]
                rcases q_1839c with q_1839c | q_1839c
                · refine kx_Si 92 F (As := [vI r_1837]) (st := []) sd_X12_171 (c_X12_isSmall G l N_1830 r_1837 hI_N_1830 (by omega)) ⟨by decide, by decide⟩ rfl rfl (Nat.le_of_ble_eq_true rfl) dX12_ahead_89 rfl ?_
                  intro r_1842 N_1843 q_1844
                  obtain ⟨rfl, q_1844c⟩ := q_1844
                  rcases q_1844c with q_1844c | q_1844c
                  · exfalso; omega
                  · refine kx_if_eq 95 F 108 dX12_ahead_92 (by decide) rfl (by omega) (fun h_1845 => ?_) (fun h_1845 => (by exfalso; omega))
                    refine kx_aload_n 109 F 0 dX12_ahead_108 rfl rfl rfl ?_
                    refine kx_iconst 110 F dX12_ahead_109 rfl ?_
                    refine kx_puti 113 F fw_X12_168 rfl hk_c0 rfl rfl (j := 12) rfl dX12_ahead_110 rfl ?_
                    intro N_1846 hM_N_1846
                    have hI_N_1846 : Inv true N_1846 := Inv.u hI_N_1830 hM_N_1846 hk_c0 (a := 0) (b := 4) rfl rfl rfl (by omega)
                    have hF_N_1846 : Fr f_c_X12_ahead M N_1846 := Fr.u hF_N_1830 hM_N_1846 hk_c0 rfl
                    refine kx_goto 233 F dX12_ahead_113 (by decide) ?_
                    exact kx_vret F hQ ⟨hI_N_1846, hF_N_1846⟩ dX12_ahead_233
                · refine kx_Si 92 F (As := [vI r_1837]) (st := []) sd_X12_171 (c_X12_isSmall G l N_1830 r_1837 hI_N_1830 (by omega)) ⟨by decide, by decide⟩ rfl rfl (Nat.le_of_ble_eq_true rfl) dX12_ahead_89 rfl ?_
                  intro r_1847 N_1848 q_1849
                  obtain ⟨rfl, q_1849c⟩ := q_1849
                  rcases q_1849c with q_1849c | q_1849c
                  · refine kx_if_eq 95 F 108 dX12_ahead_92 (by decide) rfl (by omega) (fun h_1850 => (by exfalso; omega)) (fun h_1850 => ?_)
                    refine kx_aload_n 96 F 0 dX12_ahead_95 rfl rfl rfl ?_
                    refine kx_dup 97 F dX12_ahead_96 rfl rfl ?_
                    refine kx_geti 100 F fl_X12_156 hk_c0 rfl rfl (j := 14) rfl dX12_ahead_97 (v := (N_1830 c0 14)) rfl rfl ?_
                    refine kx_iconst 101 F dX12_ahead_100 rfl ?_
                    refine kx_iadd 102 F (v := (N_1830 c0 14) + 1) dX12_ahead_101 rfl rfl ?_
                    refine kx_puti 105 F fw_X12_156 rfl hk_c0 rfl rfl (j := 14) rfl dX12_ahead_102 rfl ?_
                    intro N_1851 hM_N_1851
                    have hI_N_1851 : Inv true N_1851 := Inv.u hI_N_1830 hM_N_1851 hk_c0 (a := 0) (b := 900) rfl rfl rfl (by omega)
                    have hF_N_1851 : Fr f_c_X12_ahead M N_1851 := Fr.u hF_N_1830 hM_N_1851 hk_c0 rfl
                    refine kx_goto 81 F dX12_ahead_105 (by decide) ?_
                    have e_1852 : (N_1851 c0 14) = (N_1830 c0 14) + 1 := by rw [hM_N_1851, mu_s]
                    exact ih_1833 _ (by omega) N_1851 hI_N_1851 hF_N_1851 (by omega) rfl
                  · refine kx_if_eq 95 F 108 dX12_ahead_92 (by decide) rfl (by omega) (fun h_1853 => ?_) (fun h_1853 => (by exfalso; omega))
                    refine kx_aload_n 109 F 0 dX12_ahead_108 rfl rfl rfl ?_
                    refine kx_iconst 110 F dX12_ahead_109 rfl ?_
                    refine kx_puti 113 F fw_X12_168 rfl hk_c0 rfl rfl (j := 12) rfl dX12_ahead_110 rfl ?_
                    intro N_1854 hM_N_1854
                    have hI_N_1854 : Inv true N_1854 := Inv.u hI_N_1830 hM_N_1854 hk_c0 (a := 0) (b := 4) rfl rfl rfl (by omega)
                    have hF_N_1854 : Fr f_c_X12_ahead M N_1854 := Fr.u hF_N_1830 hM_N_1854 hk_c0 rfl
                    refine kx_goto 233 F dX12_ahead_113 (by decide) ?_
                    exact kx_vret F hQ ⟨hI_N_1854, hF_N_1854⟩ dX12_ahead_233
              refine kx_drop 1 (lo' := [some (vR G c0), none]) rfl ?_
              have e_1855 : (N_1805 c0 14) = (N_710 c0 14) := by rw [hM_N_1805, mu_i (by omega), hM_N_1796, mu_i (by omega)]
              exact L_1831 _ N_1805 hI_N_1805 hF_N_1805 (by omega) rfl
            · refine kx_if_eq 81 F 116 dX12_ahead_78 (by decide) rfl (by omega) (fun h_1856 => ?_) (fun h_1856 => (by exfalso; omega))
              refine kx_iload_n 117 F 1 dX12_ahead_116 rfl rfl rfl ?_
              refine kx_Si 120 F (As := [vI r_1797]) (st := []) sd_X12_174 (c_X12_isDigit G l N_1805 r_1797 hI_N_1805 (by omega)) ⟨by decide, by decide⟩ rfl rfl (Nat.le_of_ble_eq_true rfl) dX12_ahead_117 rfl ?_
              intro r_1857 N_1858 q_1859
              obtain ⟨rfl, q_1859c⟩ := q_1859
              rcases q_1859c with q_1859c | q_1859c
              · refine kx_if_eq 123 F 208 dX12_ahead_120 (by decide) rfl (by omega) (fun h_1860 => (by exfalso; omega)) (fun h_1860 => ?_)
                refine kx_aload_n 124 F 0 dX12_ahead_123 rfl rfl rfl ?_
                refine kx_iconst 125 F dX12_ahead_124 rfl ?_
                refine kx_puti 128 F fw_X12_165 rfl hk_c0 rfl rfl (j := 15) rfl dX12_ahead_125 rfl ?_
                intro N_1861 hM_N_1861
                have hI_N_1861 : Inv true N_1861 := Inv.u hI_N_1805 hM_N_1861 hk_c0 (a := (-2147483648)) (b := 2147483647) rfl rfl rfl (by omega)
                have hF_N_1861 : Fr f_c_X12_ahead M N_1861 := Fr.u hF_N_1805 hM_N_1861 hk_c0 rfl
                have L_1911 : ∀ (n_1912 : Nat) (N_1910 : Mem), Inv true N_1910 → Fr f_c_X12_ahead M N_1910 → (N_1910 c0 14) ≤ 900 → (900 - N_1910 c0 14).toNat = n_1912 → KJ true G X N_1910 128 [some (vR G c0), none] [] := by
                  intro n_1912
                  refine Nat.strongRecOn n_1912 ?_
                  intro n_1912 ih_1913  N_1910 hI_N_1910 hF_N_1910 h_1914 hm_1915
                  refine kx_aload_n 129 F 0 dX12_ahead_128 rfl rfl rfl ?_
                  refine kx_aload_n 130 F 0 dX12_ahead_129 rfl rfl rfl ?_
                  refine kx_geti 133 F fl_X12_156 hk_c0 rfl rfl (j := 14) rfl dX12_ahead_130 (v := (N_1910 c0 14)) rfl rfl ?_
                  have h_1916 := Inv.g hI_N_1910 hk_c0 rfl 14 (a := 0) (b := 900) rfl rfl
                  refine kx_Vi 136 (ci := 0) F (As := [vI (N_1910 c0 14)]) (st := []) vd_X12_159 (c_X12_byteAt G l N_1910 c0 (N_1910 c0 14) hI_N_1910 hk_c0 (by omega)) hk_c0 rfl rfl rfl ⟨by decide, by decide⟩ rfl rfl (Nat.le_of_ble_eq_true rfl) dX12_ahead_133 rfl ?_
                  intro r_1917 N_1918 q_1919
                  obtain ⟨rfl, q_1919c⟩ := q_1919
                  have e_1920 : (N_1910 c0 11) = (M c0 11) := by rw [Fr.e hF_N_1910 hk_c0 _ rfl]
                  have e_1921 : (N_1910 c0 11) = (M c0 11) := by rw [Fr.e hF_N_1910 hk_c0 _ rfl]
                  rcases q_1919c with q_1919c | q_1919c
                  · refine kx_Si 139 F (As := [vI r_1917]) (st := []) sd_X12_174 (c_X12_isDigit G l N_1910 r_1917 hI_N_1910 (by omega)) ⟨by decide, by decide⟩ rfl rfl (Nat.le_of_ble_eq_true rfl) dX12_ahead_136 rfl ?_
                    intro r_1922 N_1923 q_1924
                    obtain ⟨rfl, q_1924c⟩ := q_1924
                    rcases q_1924c with q_1924c | q_1924c
                    · exfalso; omega
                    · refine kx_if_eq 142 F 183 dX12_ahead_139 (by decide) rfl (by omega) (fun h_1925 => ?_) (fun h_1925 => (by exfalso; omega))
                      refine kx_aload_n 184 F 0 dX12_ahead_183 rfl rfl rfl ?_
                      refine kx_aload_n 185 F 0 dX12_ahead_184 rfl rfl rfl ?_
                      refine kx_geti 188 F fl_X12_156 hk_c0 rfl rfl (j := 14) rfl dX12_ahead_185 (v := (N_1910 c0 14)) rfl rfl ?_
                      refine kx_aload_n 189 F 0 dX12_ahead_188 rfl rfl rfl ?_
                      refine kx_geti 192 F fl_X12_162 hk_c0 rfl rfl (j := 13) rfl dX12_ahead_189 (v := (N_1910 c0 13)) rfl rfl ?_
                      have h_1926 := Inv.g hI_N_1910 hk_c0 rfl 13 (a := 0) (b := 900) rfl rfl
                      refine kx_isub 193 F (v := (N_1910 c0 14) - (N_1910 c0 13)) dX12_ahead_192 rfl rfl ?_
                      refine kx_iconst 194 F dX12_ahead_193 rfl ?_
                      refine kx_icmp_le 197 F 201 dX12_ahead_194 (by decide) rfl (by omega) (by decide) (fun h_1927 => ?_) (fun h_1927 => ?_)
                      · refine kx_iconst 202 F dX12_ahead_201 rfl ?_
                        refine kx_puti 205 F fw_X12_168 rfl hk_c0 rfl rfl (j := 12) rfl dX12_ahead_202 rfl ?_
                        intro N_1928 hM_N_1928
                        have hI_N_1928 : Inv true N_1928 := Inv.u hI_N_1910 hM_N_1928 hk_c0 (a := 0) (b := 4) rfl rfl rfl (by omega)
                        have hF_N_1928 : Fr f_c_X12_ahead M N_1928 := Fr.u hF_N_1910 hM_N_1928 hk_c0 rfl
                        refine kx_goto 233 F dX12_ahead_205 (by decide) ?_
                        exact kx_vret F hQ ⟨hI_N_1928, hF_N_1928⟩ dX12_ahead_233
                      · refine kx_iconst 198 F dX12_ahead_197 rfl ?_
                        refine kx_goto 202 F dX12_ahead_198 (by decide) ?_
                        refine kx_puti 205 F fw_X12_168 rfl hk_c0 rfl rfl (j := 12) rfl dX12_ahead_202 rfl ?_
                        intro N_1929 hM_N_1929
                        have hI_N_1929 : Inv true N_1929 := Inv.u hI_N_1910 hM_N_1929 hk_c0 (a := 0) (b := 4) rfl rfl rfl (by omega)
                        have hF_N_1929 : Fr f_c_X12_ahead M N_1929 := Fr.u hF_N_1910 hM_N_1929 hk_c0 rfl
                        refine kx_goto 233 F dX12_ahead_205 (by decide) ?_
                        exact kx_vret F hQ ⟨hI_N_1929, hF_N_1929⟩ dX12_ahead_233
                  · refine kx_Si 139 F (As := [vI r_1917]) (st := []) sd_X12_174 (c_X12_isDigit G l N_1910 r_1917 hI_N_1910 (by omega)) ⟨by decide, by decide⟩ rfl rfl (Nat.le_of_ble_eq_true rfl) dX12_ahead_136 rfl ?_
                    intro r_1930 N_1931 q_1932
                    obtain ⟨rfl, q_1932c⟩ := q_1932
                    rcases q_1932c with q_1932c | q_1932c
                    · refine kx_if_eq 142 F 183 dX12_ahead_139 (by decide) rfl (by omega) (fun h_1933 => (by exfalso; omega)) (fun h_1933 => ?_)
                      refine kx_aload_n 143 F 0 dX12_ahead_142 rfl rfl rfl ?_
                      refine kx_ldc 145 (z := 100000) F dX12_ahead_143 ct_X12_177 rfl ?_
                      refine kx_bipush 147 F dX12_ahead_145 (by decide) rfl ?_
                      refine kx_aload_n 148 F 0 dX12_ahead_147 rfl rfl rfl ?_
                      refine kx_geti 151 F fl_X12_165 hk_c0 rfl rfl (j := 15) rfl dX12_ahead_148 (v := (N_1910 c0 15)) rfl rfl ?_
                      have h_1934 := Inv.g hI_N_1910 hk_c0 rfl 15 (a := (-2147483648)) (b := 2147483647) rfl rfl
                      refine kx_imul 152 F (v := 10 * (N_1910 c0 15)) dX12_ahead_151 (by omega) rfl ?_
                      refine kx_wrapi (fun w_1935 h_1936 _ => ?_)
                      refine kx_aload_n 153 F 0 dX12_ahead_152 rfl rfl rfl ?_
                      refine kx_aload_n 154 F 0 dX12_ahead_153 rfl rfl rfl ?_
                      refine kx_geti 157 F fl_X12_156 hk_c0 rfl rfl (j := 14) rfl dX12_ahead_154 (v := (N_1910 c0 14)) rfl rfl ?_
                      refine kx_Vi 160 (ci := 0) F (As := [vI (N_1910 c0 14)]) (st := [vI w_1935, vI 100000, vR G c0]) vd_X12_159 (c_X12_byteAt G l N_1910 c0 (N_1910 c0 14) hI_N_1910 hk_c0 (by omega)) hk_c0 rfl rfl rfl ⟨by decide, by decide⟩ rfl rfl (Nat.le_of_ble_eq_true rfl) dX12_ahead_157 rfl ?_
                      intro r_1937 N_1938 q_1939
                      obtain ⟨rfl, q_1939c⟩ := q_1939
                      have e_1940 : (N_1910 c0 11) = (M c0 11) := by rw [Fr.e hF_N_1910 hk_c0 _ rfl]
                      have e_1941 : (N_1910 c0 11) = (M c0 11) := by rw [Fr.e hF_N_1910 hk_c0 _ rfl]
                      rcases q_1939c with q_1939c | q_1939c
                      · refine kx_iadd 161 F (v := w_1935 + r_1937) dX12_ahead_160 rfl rfl ?_
                        refine kx_wrapi (fun w_1942 h_1943 _ => ?_)
                        refine kx_bipush 163 F dX12_ahead_161 (by decide) rfl ?_
                        refine kx_isub 164 F (v := w_1942 - 48) dX12_ahead_163 rfl rfl ?_
                        refine kx_wrapi (fun w_1944 h_1945 _ => ?_)
                        refine kx_mmin 167 F dX12_ahead_164 (tt lm_1833 rfl) (tt lm_800 rfl) (tt lm_180 rfl) (tt lm_801 rfl) (by decide) (Nat.le_of_ble_eq_true rfl) (by omega) (by omega) rfl (fun w_1946 h_1947 => ?_)
                        refine kx_puti 170 F fw_X12_165 rfl hk_c0 rfl rfl (j := 15) rfl dX12_ahead_167 rfl ?_
                        intro N_1948 hM_N_1948
                        have hI_N_1948 : Inv true N_1948 := Inv.u hI_N_1910 hM_N_1948 hk_c0 (a := (-2147483648)) (b := 2147483647) rfl rfl rfl (by omega)
                        have hF_N_1948 : Fr f_c_X12_ahead M N_1948 := Fr.u hF_N_1910 hM_N_1948 hk_c0 rfl
                        refine kx_aload_n 171 F 0 dX12_ahead_170 rfl rfl rfl ?_
                        refine kx_dup 172 F dX12_ahead_171 rfl rfl ?_
                        refine kx_geti 175 F fl_X12_156 hk_c0 rfl rfl (j := 14) rfl dX12_ahead_172 (v := (N_1910 c0 14)) (by rw [hM_N_1948, mu_i (by omega)]) rfl ?_
                        refine kx_iconst 176 F dX12_ahead_175 rfl ?_
                        refine kx_iadd 177 F (v := (N_1910 c0 14) + 1) dX12_ahead_176 rfl rfl ?_
                        refine kx_puti 180 F fw_X12_156 rfl hk_c0 rfl rfl (j := 14) rfl dX12_ahead_177 rfl ?_
                        intro N_1949 hM_N_1949
                        have hI_N_1949 : Inv true N_1949 := Inv.u hI_N_1948 hM_N_1949 hk_c0 (a := 0) (b := 900) rfl rfl rfl (by omega)
                        have hF_N_1949 : Fr f_c_X12_ahead M N_1949 := Fr.u hF_N_1948 hM_N_1949 hk_c0 rfl
                        refine kx_goto 128 F dX12_ahead_180 (by decide) ?_
                        have e_1950 : (N_1949 c0 14) = (N_1910 c0 14) + 1 := by rw [hM_N_1949, mu_s]
                        exact ih_1913 _ (by omega) N_1949 hI_N_1949 hF_N_1949 (by omega) rfl
                      · refine kx_iadd 161 F (v := w_1935 + r_1937) dX12_ahead_160 rfl rfl ?_
                        refine kx_wrapi (fun w_1951 h_1952 _ => ?_)
                        refine kx_bipush 163 F dX12_ahead_161 (by decide) rfl ?_
                        refine kx_isub 164 F (v := w_1951 - 48) dX12_ahead_163 rfl rfl ?_
                        refine kx_wrapi (fun w_1953 h_1954 _ => ?_)
                        refine kx_mmin 167 F dX12_ahead_164 (tt lm_1833 rfl) (tt lm_800 rfl) (tt lm_180 rfl) (tt lm_801 rfl) (by decide) (Nat.le_of_ble_eq_true rfl) (by omega) (by omega) rfl (fun w_1955 h_1956 => ?_)
                        refine kx_puti 170 F fw_X12_165 rfl hk_c0 rfl rfl (j := 15) rfl dX12_ahead_167 rfl ?_
                        intro N_1957 hM_N_1957
                        have hI_N_1957 : Inv true N_1957 := Inv.u hI_N_1910 hM_N_1957 hk_c0 (a := (-2147483648)) (b := 2147483647) rfl rfl rfl (by omega)
                        have hF_N_1957 : Fr f_c_X12_ahead M N_1957 := Fr.u hF_N_1910 hM_N_1957 hk_c0 rfl
                        refine kx_aload_n 171 F 0 dX12_ahead_170 rfl rfl rfl ?_
                        refine kx_dup 172 F dX12_ahead_171 rfl rfl ?_
                        refine kx_geti 175 F fl_X12_156 hk_c0 rfl rfl (j := 14) rfl dX12_ahead_172 (v := (N_1910 c0 14)) (by rw [hM_N_1957, mu_i (by omega)]) rfl ?_
                        refine kx_iconst 176 F dX12_ahead_175 rfl ?_
                        refine kx_iadd 177 F (v := (N_1910 c0 14) + 1) dX12_ahead_176 rfl rfl ?_
                        refine kx_puti 180 F fw_X12_156 rfl hk_c0 rfl rfl (j := 14) rfl dX12_ahead_177 rfl ?_
                        intro N_1958 hM_N_1958
                        have hI_N_1958 : Inv true N_1958 := Inv.u hI_N_1957 hM_N_1958 hk_c0 (a := 0) (b := 900) rfl rfl rfl (by omega)
                        have hF_N_1958 : Fr f_c_X12_ahead M N_1958 := Fr.u hF_N_1957 hM_N_1958 hk_c0 rfl
                        refine kx_goto 128 F dX12_ahead_180 (by decide) ?_
                        have e_1959 : (N_1958 c0 14) = (N_1910 c0 14) + 1 := by rw [hM_N_1958, mu_s]
                        exact ih_1913 _ (by omega) N_1958 hI_N_1958 hF_N_1958 (by omega) rfl
                    · refine kx_if_eq 142 F 183 dX12_ahead_139 (by decide) rfl (by omega) (fun h_1960 => ?_) (fun h_1960 => (by exfalso; omega))
                      refine kx_aload_n 184 F 0 dX12_ahead_183 rfl rfl rfl ?_
                      refine kx_aload_n 185 F 0 dX12_ahead_184 rfl rfl rfl ?_
                      refine kx_geti 188 F fl_X12_156 hk_c0 rfl rfl (j := 14) rfl dX12_ahead_185 (v := (N_1910 c0 14)) rfl rfl ?_
                      refine kx_aload_n 189 F 0 dX12_ahead_188 rfl rfl rfl ?_
                      refine kx_geti 192 F fl_X12_162 hk_c0 rfl rfl (j := 13) rfl dX12_ahead_189 (v := (N_1910 c0 13)) rfl rfl ?_
                      have h_1961 := Inv.g hI_N_1910 hk_c0 rfl 13 (a := 0) (b := 900) rfl rfl
                      refine kx_isub 193 F (v := (N_1910 c0 14) - (N_1910 c0 13)) dX12_ahead_192 rfl rfl ?_
                      refine kx_iconst 194 F dX12_ahead_193 rfl ?_
                      refine kx_icmp_le 197 F 201 dX12_ahead_194 (by decide) rfl (by omega) (by decide) (fun h_1962 => ?_) (fun h_1962 => ?_)
                      · refine kx_iconst 202 F dX12_ahead_201 rfl ?_
                        refine kx_puti 205 F fw_X12_168 rfl hk_c0 rfl rfl (j := 12) rfl dX12_ahead_202 rfl ?_
                        intro N_1963 hM_N_1963
                        have hI_N_1963 : Inv true N_1963 := Inv.u hI_N_1910 hM_N_1963 hk_c0 (a := 0) (b := 4) rfl rfl rfl (by omega)
                        have hF_N_1963 : Fr f_c_X12_ahead M N_1963 := Fr.u hF_N_1910 hM_N_1963 hk_c0 rfl
                        refine kx_goto 233 F dX12_ahead_205 (by decide) ?_
                        exact kx_vret F hQ ⟨hI_N_1963, hF_N_1963⟩ dX12_ahead_233
                      · refine kx_iconst 198 F dX12_ahead_197 rfl ?_
                        refine kx_goto 202 F dX12_ahead_198 (by decide) ?_
                        refine kx_puti 205 F fw_X12_168 rfl hk_c0 rfl rfl (j := 12) rfl dX12_ahead_202 rfl ?_
                        intro N_1964 hM_N_1964
                        have hI_N_1964 : Inv true N_1964 := Inv.u hI_N_1910 hM_N_1964 hk_c0 (a := 0) (b := 4) rfl rfl rfl (by omega)
                        have hF_N_1964 : Fr f_c_X12_ahead M N_1964 := Fr.u hF_N_1910 hM_N_1964 hk_c0 rfl
                        refine kx_goto 233 F dX12_ahead_205 (by decide) ?_
                        exact kx_vret F hQ ⟨hI_N_1964, hF_N_1964⟩ dX12_ahead_233
                refine kx_drop 1 (lo' := [some (vR G c0), none]) rfl ?_
                have e_1965 : (N_1861 c0 14) = (N_710 c0 14) := by rw [hM_N_1861, mu_i (by omega), hM_N_1805, mu_i (by omega), hM_N_1796, mu_i (by omega)]
                exact L_1911 _ N_1861 hI_N_1861 hF_N_1861 (by omega) rfl
              · refine kx_if_eq 123 F 208 dX12_ahead_120 (by decide) rfl (by omega) (fun h_1966 => ?_) (fun h_1966 => (by exfalso; omega))
                refine kx_aload_n 209 F 0 dX12_ahead_208 rfl rfl rfl ?_
                refine kx_dup 210 F dX12_ahead_209 rfl rfl ?_
                refine kx_geti 213 F fl_X12_156 hk_c0 rfl rfl (j := 14) rfl dX12_ahead_210 (v := (N_710 c0 14)) (by rw [hM_N_1805, mu_i (by omega), hM_N_1796, mu_i (by omega)]) rfl ?_
                refine kx_iconst 214 F dX12_ahead_213 rfl ?_
                refine kx_iadd 215 F (v := (N_710 c0 14) + 1) dX12_ahead_214 rfl rfl ?_
                refine kx_puti 218 F fw_X12_156 rfl hk_c0 rfl rfl (j := 14) rfl dX12_ahead_215 rfl ?_
                intro N_1967 hM_N_1967
                have hI_N_1967 : Inv true N_1967 := Inv.u hI_N_1805 hM_N_1967 hk_c0 (a := 0) (b := 900) rfl rfl rfl (by omega)
                have hF_N_1967 : Fr f_c_X12_ahead M N_1967 := Fr.u hF_N_1805 hM_N_1967 hk_c0 rfl
                refine kx_aload_n 219 F 0 dX12_ahead_218 rfl rfl rfl ?_
                refine kx_iload_n 220 F 1 dX12_ahead_219 rfl rfl rfl ?_
                refine kx_bipush 222 F dX12_ahead_220 (by decide) rfl ?_
                refine kx_icmp_ne 225 F 229 dX12_ahead_222 (by decide) rfl (by omega) (by decide) (fun h_1968 => ?_) (fun h_1968 => ?_)
                · refine kx_iconst 230 F dX12_ahead_229 rfl ?_
                  refine kx_puti 233 F fw_X12_168 rfl hk_c0 rfl rfl (j := 12) rfl dX12_ahead_230 rfl ?_
                  intro N_1969 hM_N_1969
                  have hI_N_1969 : Inv true N_1969 := Inv.u hI_N_1967 hM_N_1969 hk_c0 (a := 0) (b := 4) rfl rfl rfl (by omega)
                  have hF_N_1969 : Fr f_c_X12_ahead M N_1969 := Fr.u hF_N_1967 hM_N_1969 hk_c0 rfl
                  exact kx_vret F hQ ⟨hI_N_1969, hF_N_1969⟩ dX12_ahead_233
                · refine kx_iconst 226 F dX12_ahead_225 rfl ?_
                  refine kx_goto 230 F dX12_ahead_226 (by decide) ?_
                  refine kx_puti 233 F fw_X12_168 rfl hk_c0 rfl rfl (j := 12) rfl dX12_ahead_230 rfl ?_
                  intro N_1970 hM_N_1970
                  have hI_N_1970 : Inv true N_1970 := Inv.u hI_N_1967 hM_N_1970 hk_c0 (a := 0) (b := 4) rfl rfl rfl (by omega)
                  have hF_N_1970 : Fr f_c_X12_ahead M N_1970 := Fr.u hF_N_1967 hM_N_1970 hk_c0 rfl
                  exact kx_vret F hQ ⟨hI_N_1970, hF_N_1970⟩ dX12_ahead_233
        · refine kx_bipush 23 F dX12_ahead_21 (by decide) rfl ?_
          refine kx_icmp_ne 26 F 39 dX12_ahead_23 (by decide) rfl (by omega) (by decide) (fun h_1971 => ?_) (fun h_1971 => ?_)
          · refine kx_aload_n 40 F 0 dX12_ahead_39 rfl rfl rfl ?_
            refine kx_aload_n 41 F 0 dX12_ahead_40 rfl rfl rfl ?_
            refine kx_geti 44 F fl_X12_156 hk_c0 rfl rfl (j := 14) rfl dX12_ahead_41 (v := (N_710 c0 14)) rfl rfl ?_
            refine kx_puti 47 F fw_X12_162 rfl hk_c0 rfl rfl (j := 13) rfl dX12_ahead_44 rfl ?_
            intro N_1972 hM_N_1972
            have hI_N_1972 : Inv true N_1972 := Inv.u hI_N_710 hM_N_1972 hk_c0 (a := 0) (b := 900) rfl rfl rfl (by omega)
            have hF_N_1972 : Fr f_c_X12_ahead M N_1972 := Fr.u hF_N_710 hM_N_1972 hk_c0 rfl
            refine kx_aload_n 48 F 0 dX12_ahead_47 rfl rfl rfl ?_
            refine kx_aload_n 49 F 0 dX12_ahead_48 rfl rfl rfl ?_
            refine kx_geti 52 F fl_X12_156 hk_c0 rfl rfl (j := 14) rfl dX12_ahead_49 (v := (N_710 c0 14)) (by rw [hM_N_1972, mu_i (by omega)]) rfl ?_
            refine kx_Vi 55 (ci := 0) F (As := [vI (N_710 c0 14)]) (st := []) vd_X12_159 (c_X12_byteAt G l N_1972 c0 (N_710 c0 14) hI_N_1972 hk_c0 (by omega)) hk_c0 rfl rfl rfl ⟨by decide, by decide⟩ rfl rfl (Nat.le_of_ble_eq_true rfl) dX12_ahead_52 rfl ?_
            intro r_1973 N_1974 q_1975
            obtain ⟨rfl, q_1975c⟩ := q_1975
            have e_1976 : (N_1972 c0 11) = (M c0 11) := by rw [hM_N_1972, mu_i (by omega), Fr.e hF_N_710 hk_c0 _ rfl]
            have e_1977 : (N_1972 c0 11) = (M c0 11) := by rw [hM_N_1972, mu_i (by omega), Fr.e hF_N_710 hk_c0 _ rfl]
            rcases q_1975c with q_1975c | q_1975c
            · refine kx_istore_n 56 F 1 (lo' := [some (vR G c0), some (vI r_1973)]) dX12_ahead_55 rfl (by decide) rfl rfl rfl ?_
              refine kx_aload_n 57 F 0 dX12_ahead_56 rfl rfl rfl ?_
              refine kx_iload_n 58 F 1 dX12_ahead_57 rfl rfl rfl ?_
              refine kx_puti 61 F fw_X12_165 rfl hk_c0 rfl rfl (j := 15) rfl dX12_ahead_58 rfl ?_
              intro N_1978 hM_N_1978
              have hI_N_1978 : Inv true N_1978 := Inv.u hI_N_1972 hM_N_1978 hk_c0 (a := (-2147483648)) (b := 2147483647) rfl rfl rfl (by omega)
              have hF_N_1978 : Fr f_c_X12_ahead M N_1978 := Fr.u hF_N_1972 hM_N_1978 hk_c0 rfl
              refine kx_iload_n 62 F 1 dX12_ahead_61 rfl rfl rfl ?_
              refine kx_iconst 63 F dX12_ahead_62 rfl ?_
              refine kx_icmp_ne 66 F 74 dX12_ahead_63 (by decide) rfl (by omega) (by decide) (fun h_1979 => (by exfalso; omega)) (fun h_1979 => ?_)
              refine kx_aload_n 67 F 0 dX12_ahead_66 rfl rfl rfl ?_
              refine kx_iconst 68 F dX12_ahead_67 rfl ?_
              refine kx_puti 71 F fw_X12_168 rfl hk_c0 rfl rfl (j := 12) rfl dX12_ahead_68 rfl ?_
              intro N_1980 hM_N_1980
              have hI_N_1980 : Inv true N_1980 := Inv.u hI_N_1978 hM_N_1980 hk_c0 (a := 0) (b := 4) rfl rfl rfl (by omega)
              have hF_N_1980 : Fr f_c_X12_ahead M N_1980 := Fr.u hF_N_1978 hM_N_1980 hk_c0 rfl
              refine kx_goto 233 F dX12_ahead_71 (by decide) ?_
              exact kx_vret F hQ ⟨hI_N_1980, hF_N_1980⟩ dX12_ahead_233
            · refine kx_istore_n 56 F 1 (lo' := [some (vR G c0), some (vI r_1973)]) dX12_ahead_55 rfl (by decide) rfl rfl rfl ?_
              refine kx_aload_n 57 F 0 dX12_ahead_56 rfl rfl rfl ?_
              refine kx_iload_n 58 F 1 dX12_ahead_57 rfl rfl rfl ?_
              refine kx_puti 61 F fw_X12_165 rfl hk_c0 rfl rfl (j := 15) rfl dX12_ahead_58 rfl ?_
              intro N_1981 hM_N_1981
              have hI_N_1981 : Inv true N_1981 := Inv.u hI_N_1972 hM_N_1981 hk_c0 (a := (-2147483648)) (b := 2147483647) rfl rfl rfl (by omega)
              have hF_N_1981 : Fr f_c_X12_ahead M N_1981 := Fr.u hF_N_1972 hM_N_1981 hk_c0 rfl
              refine kx_iload_n 62 F 1 dX12_ahead_61 rfl rfl rfl ?_
              refine kx_iconst 63 F dX12_ahead_62 rfl ?_
              refine kx_icmp_ne 66 F 74 dX12_ahead_63 (by decide) rfl (by omega) (by decide) (fun h_1982 => ?_) (fun h_1982 => (by exfalso; omega))
              refine kx_iload_n 75 F 1 dX12_ahead_74 rfl rfl rfl ?_
              refine kx_Si 78 F (As := [vI r_1973]) (st := []) sd_X12_171 (c_X12_isSmall G l N_1981 r_1973 hI_N_1981 (by omega)) ⟨by decide, by decide⟩ rfl rfl (Nat.le_of_ble_eq_true rfl) dX12_ahead_75 rfl ?_
              intro r_1983 N_1984 q_1985
              obtain ⟨rfl, q_1985c⟩ := q_1985
              rcases q_1985c with q_1985c | q_1985c
              · refine kx_if_eq 81 F 116 dX12_ahead_78 (by decide) rfl (by omega) (fun h_1986 => (by exfalso; omega)) (fun h_1986 => ?_)
                have L_2007 : ∀ (n_2008 : Nat) (N_2006 : Mem), Inv true N_2006 → Fr f_c_X12_ahead M N_2006 → (N_2006 c0 14) ≤ 900 → (900 - N_2006 c0 14).toNat = n_2008 → KJ true G X N_2006 81 [some (vR G c0), none] [] := by
                  intro n_2008
                  refine Nat.strongRecOn n_2008 ?_
                  intro n_2008 ih_2009  N_2006 hI_N_2006 hF_N_2006 h_2010 hm_2011
                  refine kx_aload_n 82 F 0 dX12_ahead_81 rfl rfl rfl ?_
                  refine kx_aload_n 83 F 0 dX12_ahead_82 rfl rfl rfl ?_
                  refine kx_geti 86 F fl_X12_156 hk_c0 rfl rfl (j := 14) rfl dX12_ahead_83 (v := (N_2006 c0 14)) rfl rfl ?_
                  have h_2012 := Inv.g hI_N_2006 hk_c0 rfl 14 (a := 0) (b := 900) rfl rfl
                  refine kx_Vi 89 (ci := 0) F (As := [vI (N_2006 c0 14)]) (st := []) vd_X12_159 (c_X12_byteAt G l N_2006 c0 (N_2006 c0 14) hI_N_2006 hk_c0 (by omega)) hk_c0 rfl rfl rfl ⟨by decide, by decide⟩ rfl rfl (Nat.le_of_ble_eq_true rfl) dX12_ahead_86 rfl ?_
                  intro r_2013 N_2014 q_2015
                  obtain ⟨rfl, q_2015c⟩ := q_2015
                  have e_2016 : (N_2006 c0 11) = (M c0 11) := by rw [Fr.e hF_N_2006 hk_c0 _ rfl]
                  have e_2017 : (N_2006 c0 11) = (M c0 11) := by rw [Fr.e hF_N_2006 hk_c0 _ rfl]
                  rcases q_2015c with q_2015c | q_2015c
                  · refine kx_Si 92 F (As := [vI r_2013]) (st := []) sd_X12_171 (c_X12_isSmall G l N_2006 r_2013 hI_N_2006 (by omega)) ⟨by decide, by decide⟩ rfl rfl (Nat.le_of_ble_eq_true rfl) dX12_ahead_89 rfl ?_
                    intro r_2018 N_2019 q_2020
                    obtain ⟨rfl, q_2020c⟩ := q_2020
                    rcases q_2020c with q_2020c | q_2020c
                    · exfalso; omega
                    · refine kx_if_eq 95 F 108 dX12_ahead_92 (by decide) rfl (by omega) (fun h_2021 => ?_) (fun h_2021 => (by exfalso; omega))
                      refine kx_aload_n 109 F 0 dX12_ahead_108 rfl rfl rfl ?_
                      refine kx_iconst 110 F dX12_ahead_109 rfl ?_
                      refine kx_puti 113 F fw_X12_168 rfl hk_c0 rfl rfl (j := 12) rfl dX12_ahead_110 rfl ?_
                      intro N_2022 hM_N_2022
                      have hI_N_2022 : Inv true N_2022 := Inv.u hI_N_2006 hM_N_2022 hk_c0 (a := 0) (b := 4) rfl rfl rfl (by omega)
                      have hF_N_2022 : Fr f_c_X12_ahead M N_2022 := Fr.u hF_N_2006 hM_N_2022 hk_c0 rfl
                      refine kx_goto 233 F dX12_ahead_113 (by decide) ?_
                      exact kx_vret F hQ ⟨hI_N_2022, hF_N_2022⟩ dX12_ahead_233
                  · refine kx_Si 92 F (As := [vI r_2013]) (st := []) sd_X12_171 (c_X12_isSmall G l N_2006 r_2013 hI_N_2006 (by omega)) ⟨by decide, by decide⟩ rfl rfl (Nat.le_of_ble_eq_true rfl) dX12_ahead_89 rfl ?_
                    intro r_2023 N_2024 q_2025
                    obtain ⟨rfl, q_2025c⟩ := q_2025
                    rcases q_2025c with q_2025c | q_2025c
                    · refine kx_if_eq 95 F 108 dX12_ahead_92 (by decide) rfl (by omega) (fun h_2026 => (by exfalso; omega)) (fun h_2026 => ?_)
                      refine kx_aload_n 96 F 0 dX12_ahead_95 rfl rfl rfl ?_
                      refine kx_dup 97 F dX12_ahead_96 rfl rfl ?_
                      refine kx_geti 100 F fl_X12_156 hk_c0 rfl rfl (j := 14) rfl dX12_ahead_97 (v := (N_2006 c0 14)) rfl rfl ?_
                      refine kx_iconst 101 F dX12_ahead_100 rfl ?_
                      refine kx_iadd 102 F (v := (N_2006 c0 14) + 1) dX12_ahead_101 rfl rfl ?_
                      refine kx_puti 105 F fw_X12_156 rfl hk_c0 rfl rfl (j := 14) rfl dX12_ahead_102 rfl ?_
                      intro N_2027 hM_N_2027
                      have hI_N_2027 : Inv true N_2027 := Inv.u hI_N_2006 hM_N_2027 hk_c0 (a := 0) (b := 900) rfl rfl rfl (by omega)
                      have hF_N_2027 : Fr f_c_X12_ahead M N_2027 := Fr.u hF_N_2006 hM_N_2027 hk_c0 rfl
                      refine kx_goto 81 F dX12_ahead_105 (by decide) ?_
                      have e_2028 : (N_2027 c0 14) = (N_2006 c0 14) + 1 := by rw [hM_N_2027, mu_s]
                      exact ih_2009 _ (by omega) N_2027 hI_N_2027 hF_N_2027 (by omega) rfl
                    · refine kx_if_eq 95 F 108 dX12_ahead_92 (by decide) rfl (by omega) (fun h_2029 => ?_) (fun h_2029 => (by exfalso; omega))
                      refine kx_aload_n 109 F 0 dX12_ahead_108 rfl rfl rfl ?_
                      refine kx_iconst 110 F dX12_ahead_109 rfl ?_
                      refine kx_puti 113 F fw_X12_168 rfl hk_c0 rfl rfl (j := 12) rfl dX12_ahead_110 rfl ?_
                      intro N_2030 hM_N_2030
                      have hI_N_2030 : Inv true N_2030 := Inv.u hI_N_2006 hM_N_2030 hk_c0 (a := 0) (b := 4) rfl rfl rfl (by omega)
                      have hF_N_2030 : Fr f_c_X12_ahead M N_2030 := Fr.u hF_N_2006 hM_N_2030 hk_c0 rfl
                      refine kx_goto 233 F dX12_ahead_113 (by decide) ?_
                      exact kx_vret F hQ ⟨hI_N_2030, hF_N_2030⟩ dX12_ahead_233
                refine kx_drop 1 (lo' := [some (vR G c0), none]) rfl ?_
                have e_2031 : (N_1981 c0 14) = (N_710 c0 14) := by rw [hM_N_1981, mu_i (by omega), hM_N_1972, mu_i (by omega)]
                exact L_2007 _ N_1981 hI_N_1981 hF_N_1981 (by omega) rfl
              · refine kx_if_eq 81 F 116 dX12_ahead_78 (by decide) rfl (by omega) (fun h_2032 => ?_) (fun h_2032 => (by exfalso; omega))
                refine kx_iload_n 117 F 1 dX12_ahead_116 rfl rfl rfl ?_
                refine kx_Si 120 F (As := [vI r_1973]) (st := []) sd_X12_174 (c_X12_isDigit G l N_1981 r_1973 hI_N_1981 (by omega)) ⟨by decide, by decide⟩ rfl rfl (Nat.le_of_ble_eq_true rfl) dX12_ahead_117 rfl ?_
                intro r_2033 N_2034 q_2035
                obtain ⟨rfl, q_2035c⟩ := q_2035
                rcases q_2035c with q_2035c | q_2035c
                · refine kx_if_eq 123 F 208 dX12_ahead_120 (by decide) rfl (by omega) (fun h_2036 => (by exfalso; omega)) (fun h_2036 => ?_)
                  refine kx_aload_n 124 F 0 dX12_ahead_123 rfl rfl rfl ?_
                  refine kx_iconst 125 F dX12_ahead_124 rfl ?_
                  refine kx_puti 128 F fw_X12_165 rfl hk_c0 rfl rfl (j := 15) rfl dX12_ahead_125 rfl ?_
                  intro N_2037 hM_N_2037
                  have hI_N_2037 : Inv true N_2037 := Inv.u hI_N_1981 hM_N_2037 hk_c0 (a := (-2147483648)) (b := 2147483647) rfl rfl rfl (by omega)
                  have hF_N_2037 : Fr f_c_X12_ahead M N_2037 := Fr.u hF_N_1981 hM_N_2037 hk_c0 rfl
                  have L_2087 : ∀ (n_2088 : Nat) (N_2086 : Mem), Inv true N_2086 → Fr f_c_X12_ahead M N_2086 → (N_2086 c0 14) ≤ 900 → (900 - N_2086 c0 14).toNat = n_2088 → KJ true G X N_2086 128 [some (vR G c0), none] [] := by
                    intro n_2088
                    refine Nat.strongRecOn n_2088 ?_
                    intro n_2088 ih_2089  N_2086 hI_N_2086 hF_N_2086 h_2090 hm_2091
                    refine kx_aload_n 129 F 0 dX12_ahead_128 rfl rfl rfl ?_
                    refine kx_aload_n 130 F 0 dX12_ahead_129 rfl rfl rfl ?_
                    refine kx_geti 133 F fl_X12_156 hk_c0 rfl rfl (j := 14) rfl dX12_ahead_130 (v := (N_2086 c0 14)) rfl rfl ?_
                    have h_2092 := Inv.g hI_N_2086 hk_c0 rfl 14 (a := 0) (b := 900) rfl rfl
                    refine kx_Vi 136 (ci := 0) F (As := [vI (N_2086 c0 14)]) (st := []) vd_X12_159 (c_X12_byteAt G l N_2086 c0 (N_2086 c0 14) hI_N_2086 hk_c0 (by omega)) hk_c0 rfl rfl rfl ⟨by decide, by decide⟩ rfl rfl (Nat.le_of_ble_eq_true rfl) dX12_ahead_133 rfl ?_
                    intro r_2093 N_2094 q_2095
                    obtain ⟨rfl, q_2095c⟩ := q_2095
                    have e_2096 : (N_2086 c0 11) = (M c0 11) := by rw [Fr.e hF_N_2086 hk_c0 _ rfl]
                    have e_2097 : (N_2086 c0 11) = (M c0 11) := by rw [Fr.e hF_N_2086 hk_c0 _ rfl]
                    rcases q_2095c with q_2095c | q_2095c
                    · refine kx_Si 139 F (As := [vI r_2093]) (st := []) sd_X12_174 (c_X12_isDigit G l N_2086 r_2093 hI_N_2086 (by omega)) ⟨by decide, by decide⟩ rfl rfl (Nat.le_of_ble_eq_true rfl) dX12_ahead_136 rfl ?_
                      intro r_2098 N_2099 q_2100
                      obtain ⟨rfl, q_2100c⟩ := q_2100
                      rcases q_2100c with q_2100c | q_2100c
                      · exfalso; omega
                      · refine kx_if_eq 142 F 183 dX12_ahead_139 (by decide) rfl (by omega) (fun h_2101 => ?_) (fun h_2101 => (by exfalso; omega))
                        refine kx_aload_n 184 F 0 dX12_ahead_183 rfl rfl rfl ?_
                        refine kx_aload_n 185 F 0 dX12_ahead_184 rfl rfl rfl ?_
                        refine kx_geti 188 F fl_X12_156 hk_c0 rfl rfl (j := 14) rfl dX12_ahead_185 (v := (N_2086 c0 14)) rfl rfl ?_
                        refine kx_aload_n 189 F 0 dX12_ahead_188 rfl rfl rfl ?_
                        refine kx_geti 192 F fl_X12_162 hk_c0 rfl rfl (j := 13) rfl dX12_ahead_189 (v := (N_2086 c0 13)) rfl rfl ?_
                        have h_2102 := Inv.g hI_N_2086 hk_c0 rfl 13 (a := 0) (b := 900) rfl rfl
                        refine kx_isub 193 F (v := (N_2086 c0 14) - (N_2086 c0 13)) dX12_ahead_192 rfl rfl ?_
                        refine kx_iconst 194 F dX12_ahead_193 rfl ?_
                        refine kx_icmp_le 197 F 201 dX12_ahead_194 (by decide) rfl (by omega) (by decide) (fun h_2103 => ?_) (fun h_2103 => ?_)
                        · refine kx_iconst 202 F dX12_ahead_201 rfl ?_
                          refine kx_puti 205 F fw_X12_168 rfl hk_c0 rfl rfl (j := 12) rfl dX12_ahead_202 rfl ?_
                          intro N_2104 hM_N_2104
                          have hI_N_2104 : Inv true N_2104 := Inv.u hI_N_2086 hM_N_2104 hk_c0 (a := 0) (b := 4) rfl rfl rfl (by omega)
                          have hF_N_2104 : Fr f_c_X12_ahead M N_2104 := Fr.u hF_N_2086 hM_N_2104 hk_c0 rfl
                          refine kx_goto 233 F dX12_ahead_205 (by decide) ?_
                          exact kx_vret F hQ ⟨hI_N_2104, hF_N_2104⟩ dX12_ahead_233
                        · refine kx_iconst 198 F dX12_ahead_197 rfl ?_
                          refine kx_goto 202 F dX12_ahead_198 (by decide) ?_
                          refine kx_puti 205 F fw_X12_168 rfl hk_c0 rfl rfl (j := 12) rfl dX12_ahead_202 rfl ?_
                          intro N_2105 hM_N_2105
                          have hI_N_2105 : Inv true N_2105 := Inv.u hI_N_2086 hM_N_2105 hk_c0 (a := 0) (b := 4) rfl rfl rfl (by omega)
                          have hF_N_2105 : Fr f_c_X12_ahead M N_2105 := Fr.u hF_N_2086 hM_N_2105 hk_c0 rfl
                          refine kx_goto 233 F dX12_ahead_205 (by decide) ?_
                          exact kx_vret F hQ ⟨hI_N_2105, hF_N_2105⟩ dX12_ahead_233
                    · refine kx_Si 139 F (As := [vI r_2093]) (st := []) sd_X12_174 (c_X12_isDigit G l N_2086 r_2093 hI_N_2086 (by omega)) ⟨by decide, by decide⟩ rfl rfl (Nat.le_of_ble_eq_true rfl) dX12_ahead_136 rfl ?_
                      intro r_2106 N_2107 q_2108
                      obtain ⟨rfl, q_2108c⟩ := q_2108
                      rcases q_2108c with q_2108c | q_2108c
                      · refine kx_if_eq 142 F 183 dX12_ahead_139 (by decide) rfl (by omega) (fun h_2109 => (by exfalso; omega)) (fun h_2109 => ?_)
                        refine kx_aload_n 143 F 0 dX12_ahead_142 rfl rfl rfl ?_
                        refine kx_ldc 145 (z := 100000) F dX12_ahead_143 ct_X12_177 rfl ?_
                        refine kx_bipush 147 F dX12_ahead_145 (by decide) rfl ?_
                        refine kx_aload_n 148 F 0 dX12_ahead_147 rfl rfl rfl ?_
                        refine kx_geti 151 F fl_X12_165 hk_c0 rfl rfl (j := 15) rfl dX12_ahead_148 (v := (N_2086 c0 15)) rfl rfl ?_
                        have h_2110 := Inv.g hI_N_2086 hk_c0 rfl 15 (a := (-2147483648)) (b := 2147483647) rfl rfl
                        refine kx_imul 152 F (v := 10 * (N_2086 c0 15)) dX12_ahead_151 (by omega) rfl ?_
                        refine kx_wrapi (fun w_2111 h_2112 _ => ?_)
                        refine kx_aload_n 153 F 0 dX12_ahead_152 rfl rfl rfl ?_
                        refine kx_aload_n 154 F 0 dX12_ahead_153 rfl rfl rfl ?_
                        refine kx_geti 157 F fl_X12_156 hk_c0 rfl rfl (j := 14) rfl dX12_ahead_154 (v := (N_2086 c0 14)) rfl rfl ?_
                        refine kx_Vi 160 (ci := 0) F (As := [vI (N_2086 c0 14)]) (st := [vI w_2111, vI 100000, vR G c0]) vd_X12_159 (c_X12_byteAt G l N_2086 c0 (N_2086 c0 14) hI_N_2086 hk_c0 (by omega)) hk_c0 rfl rfl rfl ⟨by decide, by decide⟩ rfl rfl (Nat.le_of_ble_eq_true rfl) dX12_ahead_157 rfl ?_
                        intro r_2113 N_2114 q_2115
                        obtain ⟨rfl, q_2115c⟩ := q_2115
                        have e_2116 : (N_2086 c0 11) = (M c0 11) := by rw [Fr.e hF_N_2086 hk_c0 _ rfl]
                        have e_2117 : (N_2086 c0 11) = (M c0 11) := by rw [Fr.e hF_N_2086 hk_c0 _ rfl]
                        rcases q_2115c with q_2115c | q_2115c
                        · refine kx_iadd 161 F (v := w_2111 + r_2113) dX12_ahead_160 rfl rfl ?_
                          refine kx_wrapi (fun w_2118 h_2119 _ => ?_)
                          refine kx_bipush 163 F dX12_ahead_161 (by decide) rfl ?_
                          refine kx_isub 164 F (v := w_2118 - 48) dX12_ahead_163 rfl rfl ?_
                          refine kx_wrapi (fun w_2120 h_2121 _ => ?_)
                          refine kx_mmin 167 F dX12_ahead_164 (tt lm_1833 rfl) (tt lm_800 rfl) (tt lm_180 rfl) (tt lm_801 rfl) (by decide) (Nat.le_of_ble_eq_true rfl) (by omega) (by omega) rfl (fun w_2122 h_2123 => ?_)
                          refine kx_puti 170 F fw_X12_165 rfl hk_c0 rfl rfl (j := 15) rfl dX12_ahead_167 rfl ?_
                          intro N_2124 hM_N_2124
                          have hI_N_2124 : Inv true N_2124 := Inv.u hI_N_2086 hM_N_2124 hk_c0 (a := (-2147483648)) (b := 2147483647) rfl rfl rfl (by omega)
                          have hF_N_2124 : Fr f_c_X12_ahead M N_2124 := Fr.u hF_N_2086 hM_N_2124 hk_c0 rfl
                          refine kx_aload_n 171 F 0 dX12_ahead_170 rfl rfl rfl ?_
                          refine kx_dup 172 F dX12_ahead_171 rfl rfl ?_
                          refine kx_geti 175 F fl_X12_156 hk_c0 rfl rfl (j := 14) rfl dX12_ahead_172 (v := (N_2086 c0 14)) (by rw [hM_N_2124, mu_i (by omega)]) rfl ?_
                          refine kx_iconst 176 F dX12_ahead_175 rfl ?_
                          refine kx_iadd 177 F (v := (N_2086 c0 14) + 1) dX12_ahead_176 rfl rfl ?_
                          refine kx_puti 180 F fw_X12_156 rfl hk_c0 rfl rfl (j := 14) rfl dX12_ahead_177 rfl ?_
                          intro N_2125 hM_N_2125
                          have hI_N_2125 : Inv true N_2125 := Inv.u hI_N_2124 hM_N_2125 hk_c0 (a := 0) (b := 900) rfl rfl rfl (by omega)
                          have hF_N_2125 : Fr f_c_X12_ahead M N_2125 := Fr.u hF_N_2124 hM_N_2125 hk_c0 rfl
                          refine kx_goto 128 F dX12_ahead_180 (by decide) ?_
                          have e_2126 : (N_2125 c0 14) = (N_2086 c0 14) + 1 := by rw [hM_N_2125, mu_s]
                          exact ih_2089 _ (by omega) N_2125 hI_N_2125 hF_N_2125 (by omega) rfl
                        · refine kx_iadd 161 F (v := w_2111 + r_2113) dX12_ahead_160 rfl rfl ?_
                          refine kx_wrapi (fun w_2127 h_2128 _ => ?_)
                          refine kx_bipush 163 F dX12_ahead_161 (by decide) rfl ?_
                          refine kx_isub 164 F (v := w_2127 - 48) dX12_ahead_163 rfl rfl ?_
                          refine kx_wrapi (fun w_2129 h_2130 _ => ?_)
                          refine kx_mmin 167 F dX12_ahead_164 (tt lm_1833 rfl) (tt lm_800 rfl) (tt lm_180 rfl) (tt lm_801 rfl) (by decide) (Nat.le_of_ble_eq_true rfl) (by omega) (by omega) rfl (fun w_2131 h_2132 => ?_)
                          refine kx_puti 170 F fw_X12_165 rfl hk_c0 rfl rfl (j := 15) rfl dX12_ahead_167 rfl ?_
                          intro N_2133 hM_N_2133
                          have hI_N_2133 : Inv true N_2133 := Inv.u hI_N_2086 hM_N_2133 hk_c0 (a := (-2147483648)) (b := 2147483647) rfl rfl rfl (by omega)
                          have hF_N_2133 : Fr f_c_X12_ahead M N_2133 := Fr.u hF_N_2086 hM_N_2133 hk_c0 rfl
                          refine kx_aload_n 171 F 0 dX12_ahead_170 rfl rfl rfl ?_
                          refine kx_dup 172 F dX12_ahead_171 rfl rfl ?_
                          refine kx_geti 175 F fl_X12_156 hk_c0 rfl rfl (j := 14) rfl dX12_ahead_172 (v := (N_2086 c0 14)) (by rw [hM_N_2133, mu_i (by omega)]) rfl ?_
                          refine kx_iconst 176 F dX12_ahead_175 rfl ?_
                          refine kx_iadd 177 F (v := (N_2086 c0 14) + 1) dX12_ahead_176 rfl rfl ?_
                          refine kx_puti 180 F fw_X12_156 rfl hk_c0 rfl rfl (j := 14) rfl dX12_ahead_177 rfl ?_
                          intro N_2134 hM_N_2134
                          have hI_N_2134 : Inv true N_2134 := Inv.u hI_N_2133 hM_N_2134 hk_c0 (a := 0) (b := 900) rfl rfl rfl (by omega)
                          have hF_N_2134 : Fr f_c_X12_ahead M N_2134 := Fr.u hF_N_2133 hM_N_2134 hk_c0 rfl
                          refine kx_goto 128 F dX12_ahead_180 (by decide) ?_
                          have e_2135 : (N_2134 c0 14) = (N_2086 c0 14) + 1 := by rw [hM_N_2134, mu_s]
                          exact ih_2089 _ (by omega) N_2134 hI_N_2134 hF_N_2134 (by omega) rfl
                      · refine kx_if_eq 142 F 183 dX12_ahead_139 (by decide) rfl (by omega) (fun h_2136 => ?_) (fun h_2136 => (by exfalso; omega))
                        refine kx_aload_n 184 F 0 dX12_ahead_183 rfl rfl rfl ?_
                        refine kx_aload_n 185 F 0 dX12_ahead_184 rfl rfl rfl ?_
                        refine kx_geti 188 F fl_X12_156 hk_c0 rfl rfl (j := 14) rfl dX12_ahead_185 (v := (N_2086 c0 14)) rfl rfl ?_
                        refine kx_aload_n 189 F 0 dX12_ahead_188 rfl rfl rfl ?_
                        refine kx_geti 192 F fl_X12_162 hk_c0 rfl rfl (j := 13) rfl dX12_ahead_189 (v := (N_2086 c0 13)) rfl rfl ?_
                        have h_2137 := Inv.g hI_N_2086 hk_c0 rfl 13 (a := 0) (b := 900) rfl rfl
                        refine kx_isub 193 F (v := (N_2086 c0 14) - (N_2086 c0 13)) dX12_ahead_192 rfl rfl ?_
                        refine kx_iconst 194 F dX12_ahead_193 rfl ?_
                        refine kx_icmp_le 197 F 201 dX12_ahead_194 (by decide) rfl (by omega) (by decide) (fun h_2138 => ?_) (fun h_2138 => ?_)
                        · refine kx_iconst 202 F dX12_ahead_201 rfl ?_
                          refine kx_puti 205 F fw_X12_168 rfl hk_c0 rfl rfl (j := 12) rfl dX12_ahead_202 rfl ?_
                          intro N_2139 hM_N_2139
                          have hI_N_2139 : Inv true N_2139 := Inv.u hI_N_2086 hM_N_2139 hk_c0 (a := 0) (b := 4) rfl rfl rfl (by omega)
                          have hF_N_2139 : Fr f_c_X12_ahead M N_2139 := Fr.u hF_N_2086 hM_N_2139 hk_c0 rfl
                          refine kx_goto 233 F dX12_ahead_205 (by decide) ?_
                          exact kx_vret F hQ ⟨hI_N_2139, hF_N_2139⟩ dX12_ahead_233
                        · refine kx_iconst 198 F dX12_ahead_197 rfl ?_
                          refine kx_goto 202 F dX12_ahead_198 (by decide) ?_
                          refine kx_puti 205 F fw_X12_168 rfl hk_c0 rfl rfl (j := 12) rfl dX12_ahead_202 rfl ?_
                          intro N_2140 hM_N_2140
                          have hI_N_2140 : Inv true N_2140 := Inv.u hI_N_2086 hM_N_2140 hk_c0 (a := 0) (b := 4) rfl rfl rfl (by omega)
                          have hF_N_2140 : Fr f_c_X12_ahead M N_2140 := Fr.u hF_N_2086 hM_N_2140 hk_c0 rfl
                          refine kx_goto 233 F dX12_ahead_205 (by decide) ?_
                          exact kx_vret F hQ ⟨hI_N_2140, hF_N_2140⟩ dX12_ahead_233
                  refine kx_drop 1 (lo' := [some (vR G c0), none]) rfl ?_
                  have e_2141 : (N_2037 c0 14) = (N_710 c0 14) := by rw [hM_N_2037, mu_i (by omega), hM_N_1981, mu_i (by omega), hM_N_1972, mu_i (by omega)]
                  exact L_2087 _ N_2037 hI_N_2037 hF_N_2037 (by omega) rfl
                · refine kx_if_eq 123 F 208 dX12_ahead_120 (by decide) rfl (by omega) (fun h_2142 => ?_) (fun h_2142 => (by exfalso; omega))
                  refine kx_aload_n 209 F 0 dX12_ahead_208 rfl rfl rfl ?_
                  refine kx_dup 210 F dX12_ahead_209 rfl rfl ?_
                  refine kx_geti 213 F fl_X12_156 hk_c0 rfl rfl (j := 14) rfl dX12_ahead_210 (v := (N_710 c0 14)) (by rw [hM_N_1981, mu_i (by omega), hM_N_1972, mu_i (by omega)]) rfl ?_
                  refine kx_iconst 214 F dX12_ahead_213 rfl ?_
                  refine kx_iadd 215 F (v := (N_710 c0 14) + 1) dX12_ahead_214 rfl rfl ?_
                  refine kx_puti 218 F fw_X12_156 rfl hk_c0 rfl rfl (j := 14) rfl dX12_ahead_215 rfl ?_
                  intro N_2143 hM_N_2143
                  have hI_N_2143 : Inv true N_2143 := Inv.u hI_N_1981 hM_N_2143 hk_c0 (a := 0) (b := 900) rfl rfl rfl (by omega)
                  have hF_N_2143 : Fr f_c_X12_ahead M N_2143 := Fr.u hF_N_1981 hM_N_2143 hk_c0 rfl
                  refine kx_aload_n 219 F 0 dX12_ahead_218 rfl rfl rfl ?_
                  refine kx_iload_n 220 F 1 dX12_ahead_219 rfl rfl rfl ?_
                  refine kx_bipush 222 F dX12_ahead_220 (by decide) rfl ?_
                  refine kx_icmp_ne 225 F 229 dX12_ahead_222 (by decide) rfl (by omega) (by decide) (fun h_2144 => ?_) (fun h_2144 => ?_)
                  · refine kx_iconst 230 F dX12_ahead_229 rfl ?_
                    refine kx_puti 233 F fw_X12_168 rfl hk_c0 rfl rfl (j := 12) rfl dX12_ahead_230 rfl ?_
                    intro N_2145 hM_N_2145
                    have hI_N_2145 : Inv true N_2145 := Inv.u hI_N_2143 hM_N_2145 hk_c0 (a := 0) (b := 4) rfl rfl rfl (by omega)
                    have hF_N_2145 : Fr f_c_X12_ahead M N_2145 := Fr.u hF_N_2143 hM_N_2145 hk_c0 rfl
                    exact kx_vret F hQ ⟨hI_N_2145, hF_N_2145⟩ dX12_ahead_233
                  · refine kx_iconst 226 F dX12_ahead_225 rfl ?_
                    refine kx_goto 230 F dX12_ahead_226 (by decide) ?_
                    refine kx_puti 233 F fw_X12_168 rfl hk_c0 rfl rfl (j := 12) rfl dX12_ahead_230 rfl ?_
                    intro N_2146 hM_N_2146
                    have hI_N_2146 : Inv true N_2146 := Inv.u hI_N_2143 hM_N_2146 hk_c0 (a := 0) (b := 4) rfl rfl rfl (by omega)
                    have hF_N_2146 : Fr f_c_X12_ahead M N_2146 := Fr.u hF_N_2143 hM_N_2146 hk_c0 rfl
                    exact kx_vret F hQ ⟨hI_N_2146, hF_N_2146⟩ dX12_ahead_233
          · exact J_1785 (by omega)
  have h_2147 := Inv.g hI_M hk_c0 rfl 14 (a := 0) (b := 900) rfl rfl
  exact L_711 _ M hI_M hF_M (by omega) rfl
