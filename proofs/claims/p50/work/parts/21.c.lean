theorem dX12_status_0 : decode cX12_status 0 = .ok (.aload_n 0, 1) := by decide +kernel
theorem dX12_status_1 : decode cX12_status 1 = .ok (.getfield 117, 3) := by decide +kernel
theorem dX12_status_4 : decode cX12_status 4 = .ok (.ireturn, 1) := by decide +kernel
set_option maxHeartbeats 4000000 in
set_option maxRecDepth 100000 in
theorem c_X12_status (G : KG) (l : Launch) (M : Mem) (c0 : Int) (hI_M : Inv true M) (hk_c0 : kd c0 = 64) : KC true G l yX12_status cX12_status 1 (some .int) (0, 0) [vR G c0] M (fun A => kQi true G A (fun (r : Int) (N : Mem) => M = N ∧ (r ≥ -2147483648 ∧ r ≤ 2147483647))) := by
  refine kx_met (lo := [some (vR G c0)]) (by decide) (Nat.le_of_ble_eq_true rfl) rfl ?_
  intro X F hQ
  refine kx_aload_n 1 F 0 dX12_status_0 rfl rfl rfl ?_
  refine kx_geti 4 F fl_X12_117 hk_c0 rfl rfl (j := 2) rfl dX12_status_1 (v := (M c0 2)) rfl rfl ?_
  have h_1 := Inv.g hI_M hk_c0 rfl 2 (a := (-2147483648)) (b := 2147483647) rfl rfl
  exact kx_iret F hQ ⟨rfl, (by omega)⟩ dX12_status_4
theorem dX12_top_0 : decode cX12_top 0 = .ok (.aload_n 0, 1) := by decide +kernel
theorem dX12_top_1 : decode cX12_top 1 = .ok (.getfield 120, 3) := by decide +kernel
theorem dX12_top_4 : decode cX12_top 4 = .ok (.lreturn, 1) := by decide +kernel
set_option maxHeartbeats 4000000 in
set_option maxRecDepth 100000 in
theorem c_X12_top (G : KG) (l : Launch) (M : Mem) (c0 : Int) (hI_M : Inv true M) (hk_c0 : kd c0 = 64) : KC true G l yX12_top cX12_top 1 (some .long) (0, 0) [vR G c0] M (fun A => kQl true G A (fun (r : Int) (N : Mem) => M = N ∧ (r ≥ -9223372036854775808 ∧ r ≤ 9223372036854775807))) := by
  refine kx_met (lo := [some (vR G c0)]) (by decide) (Nat.le_of_ble_eq_true rfl) rfl ?_
  intro X F hQ
  refine kx_aload_n 1 F 0 dX12_top_0 rfl rfl rfl ?_
  refine kx_getl 4 F fl_X12_120 hk_c0 rfl rfl (j := 3) rfl dX12_top_1 (v := (M c0 3)) rfl rfl ?_
  have h_1 := Inv.g hI_M hk_c0 rfl 3 (a := (-9223372036854775808)) (b := 9223372036854775807) rfl rfl
  exact kx_lret F hQ ⟨rfl, (by omega)⟩ dX12_top_4
theorem dX12_bottom_0 : decode cX12_bottom 0 = .ok (.aload_n 0, 1) := by decide +kernel
theorem dX12_bottom_1 : decode cX12_bottom 1 = .ok (.getfield 17, 3) := by decide +kernel
theorem dX12_bottom_4 : decode cX12_bottom 4 = .ok (.lreturn, 1) := by decide +kernel
set_option maxHeartbeats 4000000 in
set_option maxRecDepth 100000 in
theorem c_X12_bottom (G : KG) (l : Launch) (M : Mem) (c0 : Int) (hI_M : Inv true M) (hk_c0 : kd c0 = 64) : KC true G l yX12_bottom cX12_bottom 1 (some .long) (0, 0) [vR G c0] M (fun A => kQl true G A (fun (r : Int) (N : Mem) => M = N ∧ (r ≥ -9223372036854775808 ∧ r ≤ 9223372036854775807))) := by
  refine kx_met (lo := [some (vR G c0)]) (by decide) (Nat.le_of_ble_eq_true rfl) rfl ?_
  intro X F hQ
  refine kx_aload_n 1 F 0 dX12_bottom_0 rfl rfl rfl ?_
  refine kx_getl 4 F fl_X12_17 hk_c0 rfl rfl (j := 4) rfl dX12_bottom_1 (v := (M c0 4)) rfl rfl ?_
  have h_1 := Inv.g hI_M hk_c0 rfl 4 (a := (-9223372036854775808)) (b := 9223372036854775807) rfl rfl
  exact kx_lret F hQ ⟨rfl, (by omega)⟩ dX12_bottom_4
theorem dX12_is_0 : decode cX12_is 0 = .ok (.aload_n 0, 1) := by decide +kernel
theorem dX12_is_1 : decode cX12_is 1 = .ok (.iload_n 1, 1) := by decide +kernel
theorem dX12_is_2 : decode cX12_is 2 = .ok (.putfield 117, 3) := by decide +kernel
theorem dX12_is_5 : decode cX12_is 5 = .ok (.iload_n 1, 1) := by decide +kernel
theorem dX12_is_6 : decode cX12_is 6 = .ok (.ifCond .ne 7, 3) := by decide +kernel
theorem dX12_is_9 : decode cX12_is 9 = .ok (.iconst 1, 1) := by decide +kernel
theorem dX12_is_10 : decode cX12_is 10 = .ok (.goto 4, 3) := by decide +kernel
theorem dX12_is_13 : decode cX12_is 13 = .ok (.iconst 0, 1) := by decide +kernel
theorem dX12_is_14 : decode cX12_is 14 = .ok (.ireturn, 1) := by decide +kernel
abbrev f_c_X12_is : List (Nat × Int) := [(64, 2)]
set_option maxHeartbeats 4000000 in
set_option maxRecDepth 100000 in
theorem c_X12_is (G : KG) (l : Launch) (M : Mem) (c0 : Int) (a1 : Int) (hI_M : Inv true M) (hk_c0 : kd c0 = 64) (hpre : -2147483648 ≤ a1 ∧ a1 ≤ 2147483647) : KC true G l yX12_is cX12_is 2 (some .boolean) (0, 0) [vR G c0, vI a1] M (fun A => kQi true G A (fun (r : Int) (N : Mem) => Inv true N ∧ Fr f_c_X12_is M N ∧ ((a1 = 0 ∧ r = 1) ∨ (a1 ≠ 0 ∧ r = 0)))) := by
  refine kx_met (lo := [some (vR G c0), some (vI a1)]) (by decide) (Nat.le_of_ble_eq_true rfl) rfl ?_
  intro X F hQ
  have hF_M : Fr f_c_X12_is M M := Fr.rf _ _
  refine kx_aload_n 1 F 0 dX12_is_0 rfl rfl rfl ?_
  refine kx_iload_n 2 F 1 dX12_is_1 rfl rfl rfl ?_
  refine kx_puti 5 F fw_X12_117 rfl hk_c0 rfl rfl (j := 2) rfl dX12_is_2 rfl ?_
  intro N_1 hM_N_1
  have hI_N_1 : Inv true N_1 := Inv.u hI_M hM_N_1 hk_c0 (a := (-2147483648)) (b := 2147483647) rfl rfl rfl (by omega)
  have hF_N_1 : Fr f_c_X12_is M N_1 := Fr.u hF_M hM_N_1 hk_c0 rfl
  refine kx_iload_n 6 F 1 dX12_is_5 rfl rfl rfl ?_
  refine kx_if_ne 9 F 13 dX12_is_6 (by decide) rfl (by omega) (fun h_2 => ?_) (fun h_2 => ?_)
  · refine kx_iconst 14 F dX12_is_13 rfl ?_
    exact kx_zret F hQ (by omega) ⟨hI_N_1, hF_N_1, (by omega)⟩ dX12_is_14
  · refine kx_iconst 10 F dX12_is_9 rfl ?_
    refine kx_goto 14 F dX12_is_10 (by decide) ?_
    exact kx_zret F hQ (by omega) ⟨hI_N_1, hF_N_1, (by omega)⟩ dX12_is_14
theorem dX12_refuse_0 : decode cX12_refuse 0 = .ok (.aload_n 0, 1) := by decide +kernel
theorem dX12_refuse_1 : decode cX12_refuse 1 = .ok (.iload_n 1, 1) := by decide +kernel
theorem dX12_refuse_2 : decode cX12_refuse 2 = .ok (.putfield 117, 3) := by decide +kernel
theorem dX12_refuse_5 : decode cX12_refuse 5 = .ok (.iconst (-1), 1) := by decide +kernel
theorem dX12_refuse_6 : decode cX12_refuse 6 = .ok (.ireturn, 1) := by decide +kernel
abbrev f_c_X12_refuse : List (Nat × Int) := [(64, 2)]
set_option maxHeartbeats 4000000 in
set_option maxRecDepth 100000 in
theorem c_X12_refuse (G : KG) (l : Launch) (M : Mem) (c0 : Int) (a1 : Int) (hI_M : Inv true M) (hk_c0 : kd c0 = 64) (hpre : -2147483648 ≤ a1 ∧ a1 ≤ 2147483647) : KC true G l yX12_refuse cX12_refuse 2 (some .int) (0, 0) [vR G c0, vI a1] M (fun A => kQi true G A (fun (r : Int) (N : Mem) => Inv true N ∧ Fr f_c_X12_refuse M N ∧ (r = -1))) := by
  refine kx_met (lo := [some (vR G c0), some (vI a1)]) (by decide) (Nat.le_of_ble_eq_true rfl) rfl ?_
  intro X F hQ
  have hF_M : Fr f_c_X12_refuse M M := Fr.rf _ _
  refine kx_aload_n 1 F 0 dX12_refuse_0 rfl rfl rfl ?_
  refine kx_iload_n 2 F 1 dX12_refuse_1 rfl rfl rfl ?_
  refine kx_puti 5 F fw_X12_117 rfl hk_c0 rfl rfl (j := 2) rfl dX12_refuse_2 rfl ?_
  intro N_1 hM_N_1
  have hI_N_1 : Inv true N_1 := Inv.u hI_M hM_N_1 hk_c0 (a := (-2147483648)) (b := 2147483647) rfl rfl rfl (by omega)
  have hF_N_1 : Fr f_c_X12_refuse M N_1 := Fr.u hF_M hM_N_1 hk_c0 rfl
  refine kx_iconst 6 F dX12_refuse_5 rfl ?_
  exact kx_iret F hQ ⟨hI_N_1, hF_N_1, (by omega)⟩ dX12_refuse_6
theorem dX12_gives_0 : decode cX12_gives 0 = .ok (.aload_n 0, 1) := by decide +kernel
theorem dX12_gives_1 : decode cX12_gives 1 = .ok (.iconst 0, 1) := by decide +kernel
theorem dX12_gives_2 : decode cX12_gives 2 = .ok (.putfield 117, 3) := by decide +kernel
theorem dX12_gives_5 : decode cX12_gives 5 = .ok (.iload_n 1, 1) := by decide +kernel
theorem dX12_gives_6 : decode cX12_gives 6 = .ok (.ireturn, 1) := by decide +kernel
abbrev f_c_X12_gives : List (Nat × Int) := [(64, 2)]
set_option maxHeartbeats 4000000 in
set_option maxRecDepth 100000 in
theorem c_X12_gives (G : KG) (l : Launch) (M : Mem) (c0 : Int) (a1 : Int) (hI_M : Inv true M) (hk_c0 : kd c0 = 64) (hpre : -2147483648 ≤ a1 ∧ a1 ≤ 2147483647) : KC true G l yX12_gives cX12_gives 2 (some .int) (0, 0) [vR G c0, vI a1] M (fun A => kQi true G A (fun (r : Int) (N : Mem) => Inv true N ∧ Fr f_c_X12_gives M N ∧ (r = a1))) := by
  refine kx_met (lo := [some (vR G c0), some (vI a1)]) (by decide) (Nat.le_of_ble_eq_true rfl) rfl ?_
  intro X F hQ
  have hF_M : Fr f_c_X12_gives M M := Fr.rf _ _
  refine kx_aload_n 1 F 0 dX12_gives_0 rfl rfl rfl ?_
  refine kx_iconst 2 F dX12_gives_1 rfl ?_
  refine kx_puti 5 F fw_X12_117 rfl hk_c0 rfl rfl (j := 2) rfl dX12_gives_2 rfl ?_
  intro N_1 hM_N_1
  have hI_N_1 : Inv true N_1 := Inv.u hI_M hM_N_1 hk_c0 (a := (-2147483648)) (b := 2147483647) rfl rfl rfl (by omega)
  have hF_N_1 : Fr f_c_X12_gives M N_1 := Fr.u hF_M hM_N_1 hk_c0 rfl
  refine kx_iload_n 6 F 1 dX12_gives_5 rfl rfl rfl ?_
  exact kx_iret F hQ ⟨hI_N_1, hF_N_1, (by omega)⟩ dX12_gives_6
theorem dX12_orNone_0 : decode cX12_orNone 0 = .ok (.iload_n 1, 1) := by decide +kernel
theorem dX12_orNone_1 : decode cX12_orNone 1 = .ok (.iconst (-1), 1) := by decide +kernel
theorem dX12_orNone_2 : decode cX12_orNone 2 = .ok (.if_icmp .ne 10, 3) := by decide +kernel
theorem dX12_orNone_5 : decode cX12_orNone 5 = .ok (.aload_n 0, 1) := by decide +kernel
theorem dX12_orNone_6 : decode cX12_orNone 6 = .ok (.bipush 6, 2) := by decide +kernel
theorem dX12_orNone_8 : decode cX12_orNone 8 = .ok (.invokevirtual 123, 3) := by decide +kernel
theorem dX12_orNone_11 : decode cX12_orNone 11 = .ok (.ireturn, 1) := by decide +kernel
theorem dX12_orNone_12 : decode cX12_orNone 12 = .ok (.aload_n 0, 1) := by decide +kernel
theorem dX12_orNone_13 : decode cX12_orNone 13 = .ok (.iload_n 1, 1) := by decide +kernel
theorem dX12_orNone_14 : decode cX12_orNone 14 = .ok (.invokevirtual 127, 3) := by decide +kernel
theorem dX12_orNone_17 : decode cX12_orNone 17 = .ok (.ireturn, 1) := by decide +kernel
abbrev f_c_X12_orNone : List (Nat × Int) := [(64, 2)]
set_option maxHeartbeats 4000000 in
set_option maxRecDepth 100000 in
theorem c_X12_orNone (G : KG) (l : Launch) (M : Mem) (c0 : Int) (a1 : Int) (hI_M : Inv true M) (hk_c0 : kd c0 = 64) (hpre : -2147483648 ≤ a1 ∧ a1 ≤ 2147483647) : KC true G l yX12_orNone cX12_orNone 2 (some .int) (1, 21) [vR G c0, vI a1] M (fun A => kQi true G A (fun (r : Int) (N : Mem) => Inv true N ∧ Fr f_c_X12_orNone M N ∧ (r ≥ -2147483648 ∧ r ≤ 2147483647))) := by
  refine kx_met (lo := [some (vR G c0), some (vI a1)]) (by decide) (Nat.le_of_ble_eq_true rfl) rfl ?_
  intro X F hQ
  have hF_M : Fr f_c_X12_orNone M M := Fr.rf _ _
  refine kx_iload_n 1 F 1 dX12_orNone_0 rfl rfl rfl ?_
  refine kx_iconst 2 F dX12_orNone_1 rfl ?_
  refine kx_icmp_ne 5 F 12 dX12_orNone_2 (by decide) rfl (by omega) (by decide) (fun h_1 => ?_) (fun h_1 => ?_)
  · refine kx_aload_n 13 F 0 dX12_orNone_12 rfl rfl rfl ?_
    refine kx_iload_n 14 F 1 dX12_orNone_13 rfl rfl rfl ?_
    refine kx_Vi 17 (ci := 0) F (As := [vI a1]) (st := []) vd_X12_127 (c_X12_gives G l M c0 a1 hI_M hk_c0 (by omega)) hk_c0 rfl rfl rfl ⟨by decide, by decide⟩ rfl rfl (Nat.le_of_ble_eq_true rfl) dX12_orNone_14 rfl ?_
    intro r_2 N_3 q_4
    obtain ⟨hI_N_3, hG_N_3, q_4c⟩ := q_4
    have hF_N_3 : Fr f_c_X12_orNone M N_3 := Fr.c hF_M hG_N_3 rfl
    refine kx_topi (e' := a1) (by omega) ?_
    exact kx_iret F hQ ⟨hI_N_3, hF_N_3, (by omega)⟩ dX12_orNone_17
  · refine kx_aload_n 6 F 0 dX12_orNone_5 rfl rfl rfl ?_
    refine kx_bipush 8 F dX12_orNone_6 (by decide) rfl ?_
    refine kx_Vi 11 (ci := 0) F (As := [vI 6]) (st := []) vd_X12_123 (c_X12_refuse G l M c0 6 hI_M hk_c0 (by omega)) hk_c0 rfl rfl rfl ⟨by decide, by decide⟩ rfl rfl (Nat.le_of_ble_eq_true rfl) dX12_orNone_8 rfl ?_
    intro r_5 N_6 q_7
    obtain ⟨hI_N_6, hG_N_6, q_7c⟩ := q_7
    have hF_N_6 : Fr f_c_X12_orNone M N_6 := Fr.c hF_M hG_N_6 rfl
    subst q_7c
    exact kx_iret F hQ ⟨hI_N_6, hF_N_6, (by omega)⟩ dX12_orNone_11
theorem dX12_isTray_0 : decode cX12_isTray 0 = .ok (.iload_n 0, 1) := by decide +kernel
theorem dX12_isTray_1 : decode cX12_isTray 1 = .ok (.ifCond .lt 12, 3) := by decide +kernel
theorem dX12_isTray_4 : decode cX12_isTray 4 = .ok (.iload_n 0, 1) := by decide +kernel
theorem dX12_isTray_5 : decode cX12_isTray 5 = .ok (.iconst 4, 1) := by decide +kernel
theorem dX12_isTray_6 : decode cX12_isTray 6 = .ok (.if_icmp .ge 7, 3) := by decide +kernel
theorem dX12_isTray_9 : decode cX12_isTray 9 = .ok (.iconst 1, 1) := by decide +kernel
theorem dX12_isTray_10 : decode cX12_isTray 10 = .ok (.goto 4, 3) := by decide +kernel
theorem dX12_isTray_13 : decode cX12_isTray 13 = .ok (.iconst 0, 1) := by decide +kernel
theorem dX12_isTray_14 : decode cX12_isTray 14 = .ok (.ireturn, 1) := by decide +kernel
set_option maxHeartbeats 4000000 in
set_option maxRecDepth 100000 in
theorem c_X12_isTray (G : KG) (l : Launch) (M : Mem) (a0 : Int) (hI_M : Inv true M) (hpre : -2147483648 ≤ a0 ∧ a0 ≤ 2147483647) : KC true G l yX12_isTray cX12_isTray 1 (some .boolean) (0, 0) [vI a0] M (fun A => kQi true G A (fun (r : Int) (N : Mem) => M = N ∧ ((r = 1 ∧ 0 ≤ a0 ∧ a0 ≤ 3) ∨ (r = 0)))) := by
  refine kx_met (lo := [some (vI a0)]) (by decide) (Nat.le_of_ble_eq_true rfl) rfl ?_
  intro X F hQ
  refine kx_iload_n 1 F 0 dX12_isTray_0 rfl rfl rfl ?_
  refine kx_if_lt 4 F 13 dX12_isTray_1 (by decide) rfl (by omega) (fun h_1 => ?_) (fun h_1 => ?_)
  · refine kx_iconst 14 F dX12_isTray_13 rfl ?_
    exact kx_zret F hQ (by omega) ⟨rfl, (by omega)⟩ dX12_isTray_14
  · refine kx_iload_n 5 F 0 dX12_isTray_4 rfl rfl rfl ?_
    refine kx_iconst 6 F dX12_isTray_5 rfl ?_
    refine kx_icmp_ge 9 F 13 dX12_isTray_6 (by decide) rfl (by omega) (by decide) (fun h_2 => ?_) (fun h_2 => ?_)
    · refine kx_iconst 14 F dX12_isTray_13 rfl ?_
      exact kx_zret F hQ (by omega) ⟨rfl, (by omega)⟩ dX12_isTray_14
    · refine kx_iconst 10 F dX12_isTray_9 rfl ?_
      refine kx_goto 14 F dX12_isTray_10 (by decide) ?_
      exact kx_zret F hQ (by omega) ⟨rfl, (by omega)⟩ dX12_isTray_14
theorem dX12_cut_0 : decode cX12_cut 0 = .ok (.iload_n 2, 1) := by decide +kernel
theorem dX12_cut_1 : decode cX12_cut 1 = .ok (.ifCond .ne 10, 3) := by decide +kernel
theorem dX12_cut_4 : decode cX12_cut 4 = .ok (.lload_n 0, 1) := by decide +kernel
theorem dX12_cut_5 : decode cX12_cut 5 = .ok (.l2i, 1) := by decide +kernel
theorem dX12_cut_6 : decode cX12_cut 6 = .ok (.i2b, 1) := by decide +kernel
theorem dX12_cut_7 : decode cX12_cut 7 = .ok (.i2l, 1) := by decide +kernel
theorem dX12_cut_8 : decode cX12_cut 8 = .ok (.goto 27, 3) := by decide +kernel
theorem dX12_cut_11 : decode cX12_cut 11 = .ok (.iload_n 2, 1) := by decide +kernel
theorem dX12_cut_12 : decode cX12_cut 12 = .ok (.iconst 1, 1) := by decide +kernel
theorem dX12_cut_13 : decode cX12_cut 13 = .ok (.if_icmp .ne 10, 3) := by decide +kernel
theorem dX12_cut_16 : decode cX12_cut 16 = .ok (.lload_n 0, 1) := by decide +kernel
theorem dX12_cut_17 : decode cX12_cut 17 = .ok (.l2i, 1) := by decide +kernel
theorem dX12_cut_18 : decode cX12_cut 18 = .ok (.i2s, 1) := by decide +kernel
theorem dX12_cut_19 : decode cX12_cut 19 = .ok (.i2l, 1) := by decide +kernel
theorem dX12_cut_20 : decode cX12_cut 20 = .ok (.goto 15, 3) := by decide +kernel
theorem dX12_cut_23 : decode cX12_cut 23 = .ok (.iload_n 2, 1) := by decide +kernel
theorem dX12_cut_24 : decode cX12_cut 24 = .ok (.iconst 2, 1) := by decide +kernel
theorem dX12_cut_25 : decode cX12_cut 25 = .ok (.if_icmp .ne 9, 3) := by decide +kernel
theorem dX12_cut_28 : decode cX12_cut 28 = .ok (.lload_n 0, 1) := by decide +kernel
theorem dX12_cut_29 : decode cX12_cut 29 = .ok (.l2i, 1) := by decide +kernel
theorem dX12_cut_30 : decode cX12_cut 30 = .ok (.i2l, 1) := by decide +kernel
theorem dX12_cut_31 : decode cX12_cut 31 = .ok (.goto 4, 3) := by decide +kernel
theorem dX12_cut_34 : decode cX12_cut 34 = .ok (.lload_n 0, 1) := by decide +kernel
theorem dX12_cut_35 : decode cX12_cut 35 = .ok (.lreturn, 1) := by decide +kernel
set_option maxHeartbeats 4000000 in
set_option maxRecDepth 100000 in
theorem c_X12_cut (G : KG) (l : Launch) (M : Mem) (a0 : Int) (a1 : Int) (hI_M : Inv true M) (hpre : -9223372036854775808 ≤ a0 ∧ a0 ≤ 9223372036854775807 ∧ -2147483648 ≤ a1 ∧ a1 ≤ 2147483647) : KC true G l yX12_cut cX12_cut 3 (some .long) (0, 0) [vL a0, vI a1] M (fun A => kQl true G A (fun (r : Int) (N : Mem) => M = N ∧ (r ≥ -9223372036854775808 ∧ r ≤ 9223372036854775807))) := by
  refine kx_met (lo := [some (vL a0), none, some (vI a1)]) (by decide) (Nat.le_of_ble_eq_true rfl) rfl ?_
  intro X F hQ
  refine kx_iload_n 1 F 2 dX12_cut_0 rfl rfl rfl ?_
  refine kx_if_ne 4 F 11 dX12_cut_1 (by decide) rfl (by omega) (fun h_1 => ?_) (fun h_1 => ?_)
  · refine kx_iload_n 12 F 2 dX12_cut_11 rfl rfl rfl ?_
    refine kx_iconst 13 F dX12_cut_12 rfl ?_
    refine kx_icmp_ne 16 F 23 dX12_cut_13 (by decide) rfl (by omega) (by decide) (fun h_2 => ?_) (fun h_2 => ?_)
    · refine kx_iload_n 24 F 2 dX12_cut_23 rfl rfl rfl ?_
      refine kx_iconst 25 F dX12_cut_24 rfl ?_
      refine kx_icmp_ne 28 F 34 dX12_cut_25 (by decide) rfl (by omega) (by decide) (fun h_3 => ?_) (fun h_3 => ?_)
      · refine kx_lload_n 35 F 0 dX12_cut_34 rfl rfl rfl ?_
        exact kx_lret F hQ ⟨rfl, (by omega)⟩ dX12_cut_35
      · refine kx_lload_n 29 F 0 dX12_cut_28 rfl rfl rfl ?_
        refine kx_l2i 30 F dX12_cut_29 rfl ?_
        refine kx_wrapi (fun w_4 h_5 _ => ?_)
        refine kx_i2l 31 F dX12_cut_30 (by omega) rfl ?_
        refine kx_goto 35 F dX12_cut_31 (by decide) ?_
        exact kx_lret F hQ ⟨rfl, (by omega)⟩ dX12_cut_35
    · refine kx_lload_n 17 F 0 dX12_cut_16 rfl rfl rfl ?_
      refine kx_l2i 18 F dX12_cut_17 rfl ?_
      refine kx_wrapi (fun w_6 h_7 _ => ?_)
      refine kx_i2s 19 F dX12_cut_18 rfl (fun w_8 h_9 _ => ?_)
      refine kx_i2l 20 F dX12_cut_19 (by omega) rfl ?_
      refine kx_goto 35 F dX12_cut_20 (by decide) ?_
      exact kx_lret F hQ ⟨rfl, (by omega)⟩ dX12_cut_35
  · refine kx_lload_n 5 F 0 dX12_cut_4 rfl rfl rfl ?_
    refine kx_l2i 6 F dX12_cut_5 rfl ?_
    refine kx_wrapi (fun w_10 h_11 _ => ?_)
    refine kx_i2b 7 F dX12_cut_6 rfl (fun w_12 h_13 _ => ?_)
    refine kx_i2l 8 F dX12_cut_7 (by omega) rfl ?_
    refine kx_goto 35 F dX12_cut_8 (by decide) ?_
    exact kx_lret F hQ ⟨rfl, (by omega)⟩ dX12_cut_35
theorem dX12_plain_0 : decode cX12_plain 0 = .ok (.iconst 0, 1) := by decide +kernel
theorem dX12_plain_1 : decode cX12_plain 1 = .ok (.istore_n 2, 1) := by decide +kernel
theorem dX12_plain_2 : decode cX12_plain 2 = .ok (.iload_n 2, 1) := by decide +kernel
theorem dX12_plain_3 : decode cX12_plain 3 = .ok (.sipush 272, 3) := by decide +kernel
theorem dX12_plain_6 : decode cX12_plain 6 = .ok (.if_icmp .ge 18, 3) := by decide +kernel
theorem dX12_plain_9 : decode cX12_plain 9 = .ok (.aload_n 0, 1) := by decide +kernel
theorem dX12_plain_10 : decode cX12_plain 10 = .ok (.getfield 7, 3) := by decide +kernel
theorem dX12_plain_13 : decode cX12_plain 13 = .ok (.iload_n 1, 1) := by decide +kernel
theorem dX12_plain_14 : decode cX12_plain 14 = .ok (.iload_n 2, 1) := by decide +kernel
theorem dX12_plain_15 : decode cX12_plain 15 = .ok (.iadd, 1) := by decide +kernel
theorem dX12_plain_16 : decode cX12_plain 16 = .ok (.iconst 0, 1) := by decide +kernel
theorem dX12_plain_17 : decode cX12_plain 17 = .ok (.iastore, 1) := by decide +kernel
theorem dX12_plain_18 : decode cX12_plain 18 = .ok (.iinc 2 1, 3) := by decide +kernel
theorem dX12_plain_21 : decode cX12_plain 21 = .ok (.goto (-19), 3) := by decide +kernel
theorem dX12_plain_24 : decode cX12_plain 24 = .ok (.aload_n 0, 1) := by decide +kernel
theorem dX12_plain_25 : decode cX12_plain 25 = .ok (.getfield 7, 3) := by decide +kernel
theorem dX12_plain_28 : decode cX12_plain 28 = .ok (.iload_n 1, 1) := by decide +kernel
theorem dX12_plain_29 : decode cX12_plain 29 = .ok (.iconst 4, 1) := by decide +kernel
theorem dX12_plain_30 : decode cX12_plain 30 = .ok (.iadd, 1) := by decide +kernel
theorem dX12_plain_31 : decode cX12_plain 31 = .ok (.iconst (-1), 1) := by decide +kernel
theorem dX12_plain_32 : decode cX12_plain 32 = .ok (.iastore, 1) := by decide +kernel
theorem dX12_plain_33 : decode cX12_plain 33 = .ok (.return_, 1) := by decide +kernel
abbrev f_c_plain0 : List (Nat × Int) := [(65, -1)]
set_option maxHeartbeats 4000000 in
set_option maxRecDepth 100000 in
theorem c_plain0 (G : KG) (l : Launch) (M : Mem) (c0 : Int) (a1 : Int) (hI_M : Inv true M) (hk_c0 : kd c0 = 64) (hpre : -2147483648 ≤ a1 ∧ a1 ≤ 2147483647 ∧ a1 = 0) : KC true G l yX12_plain cX12_plain 3 none (0, 0) [vR G c0, vI a1] M (fun A => kQv true G A (fun (N : Mem) => Inv true N ∧ Fr f_c_plain0 M N)) := by
  refine kx_met (lo := [some (vR G c0), some (vI a1), none]) (by decide) (Nat.le_of_ble_eq_true rfl) rfl ?_
  intro X F hQ
  have hF_M : Fr f_c_plain0 M M := Fr.rf _ _
  refine kx_iconst 1 F dX12_plain_0 rfl ?_
  refine kx_istore_n 2 F 2 (lo' := [some (vR G c0), some (vI a1), some (vI 0)]) dX12_plain_1 rfl (by decide) rfl rfl rfl ?_
  have L_51 : ∀ (n_52 : Nat) (x2_49 : Int) (N_50 : Mem), Inv true N_50 → Fr f_c_plain0 M N_50 → 0 ≤ x2_49 ∧ x2_49 ≤ 272 → (272 - (x2_49)).toNat = n_52 → KJ true G X N_50 2 [some (vR G c0), some (vI a1), some (vI x2_49)] [] := by
    intro n_52
    refine Nat.strongRecOn n_52 ?_
    intro n_52 ih_53 x2_49 N_50 hI_N_50 hF_N_50 h_54 hm_55
    refine kx_iload_n 3 F 2 dX12_plain_2 rfl rfl rfl ?_
    refine kx_sipush 6 F dX12_plain_3 (by decide) rfl ?_
    refine kx_icmp_ge 9 F 24 dX12_plain_6 (by decide) rfl (by omega) (by decide) (fun h_56 => ?_) (fun h_56 => ?_)
    · refine kx_aload_n 25 F 0 dX12_plain_24 rfl rfl rfl ?_
      refine kx_getr 28 F fl_X12_7 hk_c0 rfl rfl (j := 0) rfl dX12_plain_25 (v := (M c0 0)) (by rw [Fr.e hF_N_50 hk_c0 _ rfl]) rfl ?_
      have hk_57 : kd (M c0 0) = 65 := Inv.r hI_M hk_c0 rfl 0 rfl rfl
      refine kx_iload_n 29 F 1 dX12_plain_28 rfl rfl rfl ?_
      refine kx_iconst 30 F dX12_plain_29 rfl ?_
      refine kx_iadd 31 F (v := a1 + 4) dX12_plain_30 rfl rfl ?_
      refine kx_iconst 32 F dX12_plain_31 rfl ?_
      refine kx_iast 33 F hk_57 rfl rfl (by omega) (by decide) dX12_plain_32 rfl ?_
      intro N_58 hM_N_58
      have ha_59 : atlo (a1 + 4) = (-1) ∧ athi (a1 + 4) = 1 := at_c (a1 + 4) 0 (o := 4) (lo := (-1)) (hi := 1) (by omega) (by decide) (by decide) (by decide)
      have hI_N_58 : Inv true N_58 := Inv.u hI_N_50 hM_N_58 hk_57 (a := (-1)) (b := 1) ha_59.1 ha_59.2 rfl (by omega)
      have hF_N_58 : Fr f_c_plain0 M N_58 := Fr.u hF_N_50 hM_N_58 hk_57 rfl
      exact kx_vret F hQ ⟨hI_N_58, hF_N_58⟩ dX12_plain_33
    · refine kx_aload_n 10 F 0 dX12_plain_9 rfl rfl rfl ?_
      refine kx_getr 13 F fl_X12_7 hk_c0 rfl rfl (j := 0) rfl dX12_plain_10 (v := (M c0 0)) (by rw [Fr.e hF_N_50 hk_c0 _ rfl]) rfl ?_
      have hk_60 : kd (M c0 0) = 65 := Inv.r hI_M hk_c0 rfl 0 rfl rfl
      refine kx_iload_n 14 F 1 dX12_plain_13 rfl rfl rfl ?_
      refine kx_iload_n 15 F 2 dX12_plain_14 rfl rfl rfl ?_
      refine kx_iadd 16 F (v := a1 + x2_49) dX12_plain_15 rfl rfl ?_
      refine kx_iconst 17 F dX12_plain_16 rfl ?_
      refine kx_iast 18 F hk_60 rfl rfl (by omega) (by decide) dX12_plain_17 rfl ?_
      intro N_61 hM_N_61
      have h_62 := at_0 (a1 + x2_49)
      have hI_N_61 : Inv true N_61 := Inv.u hI_N_50 hM_N_61 hk_60 (a := atlo (a1 + x2_49)) (b := athi (a1 + x2_49)) rfl rfl rfl (by omega)
      have hF_N_61 : Fr f_c_plain0 M N_61 := Fr.u hF_N_50 hM_N_61 hk_60 rfl
      refine kx_iinc 21 F 2 (v := x2_49 + 1) (lo' := [some (vR G c0), some (vI a1), some (vI (x2_49 + 1))]) dX12_plain_18 rfl (by omega) (by decide) rfl rfl rfl ?_
      refine kx_goto 2 F dX12_plain_21 (by decide) ?_
      exact ih_53 _ (by omega) (x2_49 + 1) N_61 hI_N_61 hF_N_61 (by omega) rfl
  exact L_51 _ 0 M hI_M hF_M (by omega) rfl
abbrev f_c_plainN : List (Nat × Int) := [(65, -1)]
set_option maxHeartbeats 4000000 in
set_option maxRecDepth 100000 in
theorem c_plainN (G : KG) (l : Launch) (M : Mem) (c0 : Int) (a1 : Int) (hI_M : Inv true M) (hk_c0 : kd c0 = 64) (hpre : -2147483648 ≤ a1 ∧ a1 ≤ 2147483647 ∧ a1 = 1088) : KC true G l yX12_plain cX12_plain 3 none (0, 0) [vR G c0, vI a1] M (fun A => kQv true G A (fun (N : Mem) => Inv true N ∧ Fr f_c_plainN M N)) := by
  refine kx_met (lo := [some (vR G c0), some (vI a1), none]) (by decide) (Nat.le_of_ble_eq_true rfl) rfl ?_
  intro X F hQ
  have hF_M : Fr f_c_plainN M M := Fr.rf _ _
  refine kx_iconst 1 F dX12_plain_0 rfl ?_
  refine kx_istore_n 2 F 2 (lo' := [some (vR G c0), some (vI a1), some (vI 0)]) dX12_plain_1 rfl (by decide) rfl rfl rfl ?_
  have L_51 : ∀ (n_52 : Nat) (x2_49 : Int) (N_50 : Mem), Inv true N_50 → Fr f_c_plainN M N_50 → 0 ≤ x2_49 ∧ x2_49 ≤ 272 → (272 - (x2_49)).toNat = n_52 → KJ true G X N_50 2 [some (vR G c0), some (vI a1), some (vI x2_49)] [] := by
    intro n_52
    refine Nat.strongRecOn n_52 ?_
    intro n_52 ih_53 x2_49 N_50 hI_N_50 hF_N_50 h_54 hm_55
    refine kx_iload_n 3 F 2 dX12_plain_2 rfl rfl rfl ?_
    refine kx_sipush 6 F dX12_plain_3 (by decide) rfl ?_
    refine kx_icmp_ge 9 F 24 dX12_plain_6 (by decide) rfl (by omega) (by decide) (fun h_56 => ?_) (fun h_56 => ?_)
    · refine kx_aload_n 25 F 0 dX12_plain_24 rfl rfl rfl ?_
      refine kx_getr 28 F fl_X12_7 hk_c0 rfl rfl (j := 0) rfl dX12_plain_25 (v := (M c0 0)) (by rw [Fr.e hF_N_50 hk_c0 _ rfl]) rfl ?_
      have hk_57 : kd (M c0 0) = 65 := Inv.r hI_M hk_c0 rfl 0 rfl rfl
      refine kx_iload_n 29 F 1 dX12_plain_28 rfl rfl rfl ?_
      refine kx_iconst 30 F dX12_plain_29 rfl ?_
      refine kx_iadd 31 F (v := a1 + 4) dX12_plain_30 rfl rfl ?_
      refine kx_iconst 32 F dX12_plain_31 rfl ?_
      refine kx_iast 33 F hk_57 rfl rfl (by omega) (by decide) dX12_plain_32 rfl ?_
      intro N_58 hM_N_58
      have ha_59 : atlo (a1 + 4) = (-1) ∧ athi (a1 + 4) = 1 := at_c (a1 + 4) 4 (o := 4) (lo := (-1)) (hi := 1) (by omega) (by decide) (by decide) (by decide)
      have hI_N_58 : Inv true N_58 := Inv.u hI_N_50 hM_N_58 hk_57 (a := (-1)) (b := 1) ha_59.1 ha_59.2 rfl (by omega)
      have hF_N_58 : Fr f_c_plainN M N_58 := Fr.u hF_N_50 hM_N_58 hk_57 rfl
      exact kx_vret F hQ ⟨hI_N_58, hF_N_58⟩ dX12_plain_33
    · refine kx_aload_n 10 F 0 dX12_plain_9 rfl rfl rfl ?_
      refine kx_getr 13 F fl_X12_7 hk_c0 rfl rfl (j := 0) rfl dX12_plain_10 (v := (M c0 0)) (by rw [Fr.e hF_N_50 hk_c0 _ rfl]) rfl ?_
      have hk_60 : kd (M c0 0) = 65 := Inv.r hI_M hk_c0 rfl 0 rfl rfl
      refine kx_iload_n 14 F 1 dX12_plain_13 rfl rfl rfl ?_
      refine kx_iload_n 15 F 2 dX12_plain_14 rfl rfl rfl ?_
      refine kx_iadd 16 F (v := a1 + x2_49) dX12_plain_15 rfl rfl ?_
      refine kx_iconst 17 F dX12_plain_16 rfl ?_
      refine kx_iast 18 F hk_60 rfl rfl (by omega) (by decide) dX12_plain_17 rfl ?_
      intro N_61 hM_N_61
      have h_62 := at_0 (a1 + x2_49)
      have hI_N_61 : Inv true N_61 := Inv.u hI_N_50 hM_N_61 hk_60 (a := atlo (a1 + x2_49)) (b := athi (a1 + x2_49)) rfl rfl rfl (by omega)
      have hF_N_61 : Fr f_c_plainN M N_61 := Fr.u hF_N_50 hM_N_61 hk_60 rfl
      refine kx_iinc 21 F 2 (v := x2_49 + 1) (lo' := [some (vR G c0), some (vI a1), some (vI (x2_49 + 1))]) dX12_plain_18 rfl (by omega) (by decide) rfl rfl rfl ?_
      refine kx_goto 2 F dX12_plain_21 (by decide) ?_
      exact ih_53 _ (by omega) (x2_49 + 1) N_61 hI_N_61 hF_N_61 (by omega) rfl
  exact L_51 _ 0 M hI_M hF_M (by omega) rfl
theorem dX12_tray_0 : decode cX12_tray 0 = .ok (.iload_n 1, 1) := by decide +kernel
theorem dX12_tray_1 : decode cX12_tray 1 = .ok (.invokestatic 134, 3) := by decide +kernel
theorem dX12_tray_4 : decode cX12_tray 4 = .ok (.ifCond .eq 22, 3) := by decide +kernel
theorem dX12_tray_7 : decode cX12_tray 7 = .ok (.iload_n 2, 1) := by decide +kernel
theorem dX12_tray_8 : decode cX12_tray 8 = .ok (.ifCond .lt 18, 3) := by decide +kernel
theorem dX12_tray_11 : decode cX12_tray 11 = .ok (.iload_n 2, 1) := by decide +kernel
theorem dX12_tray_12 : decode cX12_tray 12 = .ok (.iconst 3, 1) := by decide +kernel
theorem dX12_tray_13 : decode cX12_tray 13 = .ok (.if_icmp .gt 13, 3) := by decide +kernel
theorem dX12_tray_16 : decode cX12_tray 16 = .ok (.iload_n 3, 1) := by decide +kernel
theorem dX12_tray_17 : decode cX12_tray 17 = .ok (.ifCond .lt 9, 3) := by decide +kernel
theorem dX12_tray_20 : decode cX12_tray 20 = .ok (.iload_n 3, 1) := by decide +kernel
theorem dX12_tray_21 : decode cX12_tray 21 = .ok (.bipush 60, 2) := by decide +kernel
theorem dX12_tray_23 : decode cX12_tray 23 = .ok (.if_icmp .le 9, 3) := by decide +kernel
theorem dX12_tray_26 : decode cX12_tray 26 = .ok (.aload_n 0, 1) := by decide +kernel
theorem dX12_tray_27 : decode cX12_tray 27 = .ok (.iconst 1, 1) := by decide +kernel
theorem dX12_tray_28 : decode cX12_tray 28 = .ok (.invokevirtual 130, 3) := by decide +kernel
theorem dX12_tray_31 : decode cX12_tray 31 = .ok (.ireturn, 1) := by decide +kernel
theorem dX12_tray_32 : decode cX12_tray 32 = .ok (.aload_n 0, 1) := by decide +kernel
theorem dX12_tray_33 : decode cX12_tray 33 = .ok (.getfield 21, 3) := by decide +kernel
theorem dX12_tray_36 : decode cX12_tray 36 = .ok (.iload_n 1, 1) := by decide +kernel
theorem dX12_tray_37 : decode cX12_tray 37 = .ok (.iload_n 2, 1) := by decide +kernel
theorem dX12_tray_38 : decode cX12_tray 38 = .ok (.iastore, 1) := by decide +kernel
theorem dX12_tray_39 : decode cX12_tray 39 = .ok (.aload_n 0, 1) := by decide +kernel
theorem dX12_tray_40 : decode cX12_tray 40 = .ok (.getfield 24, 3) := by decide +kernel
theorem dX12_tray_43 : decode cX12_tray 43 = .ok (.iload_n 1, 1) := by decide +kernel
theorem dX12_tray_44 : decode cX12_tray 44 = .ok (.iload_n 3, 1) := by decide +kernel
theorem dX12_tray_45 : decode cX12_tray 45 = .ok (.iastore, 1) := by decide +kernel
theorem dX12_tray_46 : decode cX12_tray 46 = .ok (.iconst 0, 1) := by decide +kernel
theorem dX12_tray_47 : decode cX12_tray 47 = .ok (.istore 4, 2) := by decide +kernel
theorem dX12_tray_49 : decode cX12_tray 49 = .ok (.iload 4, 2) := by decide +kernel
theorem dX12_tray_51 : decode cX12_tray 51 = .ok (.iload_n 3, 1) := by decide +kernel
theorem dX12_tray_52 : decode cX12_tray 52 = .ok (.if_icmp .ge 22, 3) := by decide +kernel
theorem dX12_tray_55 : decode cX12_tray 55 = .ok (.aload_n 0, 1) := by decide +kernel
theorem dX12_tray_56 : decode cX12_tray 56 = .ok (.getfield 27, 3) := by decide +kernel
theorem dX12_tray_59 : decode cX12_tray 59 = .ok (.bipush 60, 2) := by decide +kernel
theorem dX12_tray_61 : decode cX12_tray 61 = .ok (.iload_n 1, 1) := by decide +kernel
theorem dX12_tray_62 : decode cX12_tray 62 = .ok (.imul, 1) := by decide +kernel
theorem dX12_tray_63 : decode cX12_tray 63 = .ok (.iload 4, 2) := by decide +kernel
theorem dX12_tray_65 : decode cX12_tray 65 = .ok (.iadd, 1) := by decide +kernel
theorem dX12_tray_66 : decode cX12_tray 66 = .ok (.lconst 0, 1) := by decide +kernel
theorem dX12_tray_67 : decode cX12_tray 67 = .ok (.lastore, 1) := by decide +kernel
theorem dX12_tray_68 : decode cX12_tray 68 = .ok (.iinc 4 1, 3) := by decide +kernel
theorem dX12_tray_71 : decode cX12_tray 71 = .ok (.goto (-22), 3) := by decide +kernel
theorem dX12_tray_74 : decode cX12_tray 74 = .ok (.aload_n 0, 1) := by decide +kernel
theorem dX12_tray_75 : decode cX12_tray 75 = .ok (.iconst 0, 1) := by decide +kernel
theorem dX12_tray_76 : decode cX12_tray 76 = .ok (.invokevirtual 130, 3) := by decide +kernel
theorem dX12_tray_79 : decode cX12_tray 79 = .ok (.ireturn, 1) := by decide +kernel
abbrev f_c_X12_tray : List (Nat × Int) := [(64, 2), (67, -1), (68, -1), (69, -1)]
set_option maxHeartbeats 4000000 in
set_option maxRecDepth 100000 in
theorem c_X12_tray (G : KG) (l : Launch) (M : Mem) (c0 : Int) (a1 : Int) (a2 : Int) (a3 : Int) (hI_M : Inv true M) (hk_c0 : kd c0 = 64) (hpre : -2147483648 ≤ a1 ∧ a1 ≤ 2147483647 ∧ -2147483648 ≤ a2 ∧ a2 ≤ 2147483647 ∧ -2147483648 ≤ a3 ∧ a3 ≤ 2147483647) : KC true G l yX12_tray cX12_tray 5 (some .boolean) (1, 21) [vR G c0, vI a1, vI a2, vI a3] M (fun A => kQi true G A (fun (r : Int) (N : Mem) => Inv true N ∧ Fr f_c_X12_tray M N ∧ (0 ≤ r ∧ r ≤ 1))) := by
  refine kx_met (lo := [some (vR G c0), some (vI a1), some (vI a2), some (vI a3), none]) (by decide) (Nat.le_of_ble_eq_true rfl) rfl ?_
  intro X F hQ
  have hF_M : Fr f_c_X12_tray M M := Fr.rf _ _
  refine kx_iload_n 1 F 1 dX12_tray_0 rfl rfl rfl ?_
  refine kx_Si 4 F (As := [vI a1]) (st := []) sd_X12_134 (c_X12_isTray G l M a1 hI_M (by omega)) ⟨by decide, by decide⟩ rfl rfl (Nat.le_of_ble_eq_true rfl) dX12_tray_1 rfl ?_
  intro r_1 N_2 q_3
  obtain ⟨rfl, q_3c⟩ := q_3
  rcases q_3c with q_3c | q_3c
  · refine kx_if_eq 7 F 26 dX12_tray_4 (by decide) rfl (by omega) (fun h_4 => (by exfalso; omega)) (fun h_4 => ?_)
    refine kx_iload_n 8 F 2 dX12_tray_7 rfl rfl rfl ?_
    refine kx_if_lt 11 F 26 dX12_tray_8 (by decide) rfl (by omega) (fun h_5 => ?_) (fun h_5 => ?_)
    · refine kx_aload_n 27 F 0 dX12_tray_26 rfl rfl rfl ?_
      refine kx_iconst 28 F dX12_tray_27 rfl ?_
      refine kx_Vi 31 (ci := 0) F (As := [vI 1]) (st := []) vd_X12_130 (c_X12_is G l M c0 1 hI_M hk_c0 (by omega)) hk_c0 rfl rfl rfl ⟨by decide, by decide⟩ rfl rfl (Nat.le_of_ble_eq_true rfl) dX12_tray_28 rfl ?_
      intro r_6 N_7 q_8
      obtain ⟨hI_N_7, hG_N_7, q_8c⟩ := q_8
      have hF_N_7 : Fr f_c_X12_tray M N_7 := Fr.c hF_M hG_N_7 rfl
      rcases q_8c with q_8c | q_8c
      · exfalso; omega
      · exact kx_zret F hQ (by omega) ⟨hI_N_7, hF_N_7, (by omega)⟩ dX12_tray_31
    · refine kx_iload_n 12 F 2 dX12_tray_11 rfl rfl rfl ?_
      refine kx_iconst 13 F dX12_tray_12 rfl ?_
      refine kx_icmp_gt 16 F 26 dX12_tray_13 (by decide) rfl (by omega) (by decide) (fun h_9 => ?_) (fun h_9 => ?_)
      · refine kx_aload_n 27 F 0 dX12_tray_26 rfl rfl rfl ?_
        refine kx_iconst 28 F dX12_tray_27 rfl ?_
        refine kx_Vi 31 (ci := 0) F (As := [vI 1]) (st := []) vd_X12_130 (c_X12_is G l M c0 1 hI_M hk_c0 (by omega)) hk_c0 rfl rfl rfl ⟨by decide, by decide⟩ rfl rfl (Nat.le_of_ble_eq_true rfl) dX12_tray_28 rfl ?_
        intro r_10 N_11 q_12
        obtain ⟨hI_N_11, hG_N_11, q_12c⟩ := q_12
        have hF_N_11 : Fr f_c_X12_tray M N_11 := Fr.c hF_M hG_N_11 rfl
        rcases q_12c with q_12c | q_12c
        · exfalso; omega
        · exact kx_zret F hQ (by omega) ⟨hI_N_11, hF_N_11, (by omega)⟩ dX12_tray_31
      · refine kx_iload_n 17 F 3 dX12_tray_16 rfl rfl rfl ?_
        refine kx_if_lt 20 F 26 dX12_tray_17 (by decide) rfl (by omega) (fun h_13 => ?_) (fun h_13 => ?_)
        · refine kx_aload_n 27 F 0 dX12_tray_26 rfl rfl rfl ?_
          refine kx_iconst 28 F dX12_tray_27 rfl ?_
          refine kx_Vi 31 (ci := 0) F (As := [vI 1]) (st := []) vd_X12_130 (c_X12_is G l M c0 1 hI_M hk_c0 (by omega)) hk_c0 rfl rfl rfl ⟨by decide, by decide⟩ rfl rfl (Nat.le_of_ble_eq_true rfl) dX12_tray_28 rfl ?_
          intro r_14 N_15 q_16
          obtain ⟨hI_N_15, hG_N_15, q_16c⟩ := q_16
          have hF_N_15 : Fr f_c_X12_tray M N_15 := Fr.c hF_M hG_N_15 rfl
          rcases q_16c with q_16c | q_16c
          · exfalso; omega
          · exact kx_zret F hQ (by omega) ⟨hI_N_15, hF_N_15, (by omega)⟩ dX12_tray_31
        · refine kx_iload_n 21 F 3 dX12_tray_20 rfl rfl rfl ?_
          refine kx_bipush 23 F dX12_tray_21 (by decide) rfl ?_
          refine kx_icmp_le 26 F 32 dX12_tray_23 (by decide) rfl (by omega) (by decide) (fun h_17 => ?_) (fun h_17 => ?_)
          · refine kx_aload_n 33 F 0 dX12_tray_32 rfl rfl rfl ?_
            refine kx_getr 36 F fl_X12_21 hk_c0 rfl rfl (j := 5) rfl dX12_tray_33 (v := (M c0 5)) rfl rfl ?_
            have hk_18 : kd (M c0 5) = 67 := Inv.r hI_M hk_c0 rfl 5 rfl rfl
            refine kx_iload_n 37 F 1 dX12_tray_36 rfl rfl rfl ?_
            refine kx_iload_n 38 F 2 dX12_tray_37 rfl rfl rfl ?_
            refine kx_iast 39 F hk_18 rfl rfl (by omega) (by decide) dX12_tray_38 rfl ?_
            intro N_19 hM_N_19
            have hI_N_19 : Inv true N_19 := Inv.u hI_M hM_N_19 hk_18 (a := 0) (b := 3) rfl rfl rfl (by omega)
            have hF_N_19 : Fr f_c_X12_tray M N_19 := Fr.u hF_M hM_N_19 hk_18 rfl
            refine kx_aload_n 40 F 0 dX12_tray_39 rfl rfl rfl ?_
            refine kx_getr 43 F fl_X12_24 hk_c0 rfl rfl (j := 6) rfl dX12_tray_40 (v := (M c0 6)) (by rw [hM_N_19, mu_k hk_c0 hk_18 rfl]) rfl ?_
            have hk_20 : kd (M c0 6) = 68 := Inv.r hI_M hk_c0 rfl 6 rfl rfl
            refine kx_iload_n 44 F 1 dX12_tray_43 rfl rfl rfl ?_
            refine kx_iload_n 45 F 3 dX12_tray_44 rfl rfl rfl ?_
            refine kx_iast 46 F hk_20 rfl rfl (by omega) (by decide) dX12_tray_45 rfl ?_
            intro N_21 hM_N_21
            have hI_N_21 : Inv true N_21 := Inv.u hI_N_19 hM_N_21 hk_20 (a := (-1)) (b := 60) rfl rfl rfl (by omega)
            have hF_N_21 : Fr f_c_X12_tray M N_21 := Fr.u hF_N_19 hM_N_21 hk_20 rfl
            refine kx_iconst 47 F dX12_tray_46 rfl ?_
            refine kx_istore 49 F 4 (lo' := [some (vR G c0), some (vI a1), some (vI a2), some (vI a3), some (vI 0)]) dX12_tray_47 (by decide) rfl rfl rfl ?_
            have L_80 : ∀ (n_81 : Nat) (x4_78 : Int) (N_79 : Mem), Inv true N_79 → Fr f_c_X12_tray M N_79 → 0 ≤ x4_78 ∧ x4_78 ≤ 60 → (60 - (x4_78)).toNat = n_81 → KJ true G X N_79 49 [some (vR G c0), some (vI a1), none, some (vI a3), some (vI x4_78)] [] := by
              intro n_81
              refine Nat.strongRecOn n_81 ?_
              intro n_81 ih_82 x4_78 N_79 hI_N_79 hF_N_79 h_83 hm_84
              refine kx_iload 51 F 4 dX12_tray_49 rfl rfl ?_
              refine kx_iload_n 52 F 3 dX12_tray_51 rfl rfl rfl ?_
              refine kx_icmp_ge 55 F 74 dX12_tray_52 (by decide) rfl (by omega) (by omega) (fun h_85 => ?_) (fun h_85 => ?_)
              · refine kx_aload_n 75 F 0 dX12_tray_74 rfl rfl rfl ?_
                refine kx_iconst 76 F dX12_tray_75 rfl ?_
                refine kx_Vi 79 (ci := 0) F (As := [vI 0]) (st := []) vd_X12_130 (c_X12_is G l N_79 c0 0 hI_N_79 hk_c0 (by omega)) hk_c0 rfl rfl rfl ⟨by decide, by decide⟩ rfl rfl (Nat.le_of_ble_eq_true rfl) dX12_tray_76 rfl ?_
                intro r_86 N_87 q_88
                obtain ⟨hI_N_87, hG_N_87, q_88c⟩ := q_88
                have hF_N_87 : Fr f_c_X12_tray M N_87 := Fr.c hF_N_79 hG_N_87 rfl
                rcases q_88c with q_88c | q_88c
                · exact kx_zret F hQ (by omega) ⟨hI_N_87, hF_N_87, (by omega)⟩ dX12_tray_79
                · exact kx_zret F hQ (by omega) ⟨hI_N_87, hF_N_87, (by omega)⟩ dX12_tray_79
              · refine kx_aload_n 56 F 0 dX12_tray_55 rfl rfl rfl ?_
                refine kx_getr 59 F fl_X12_27 hk_c0 rfl rfl (j := 7) rfl dX12_tray_56 (v := (M c0 7)) (by rw [Fr.e hF_N_79 hk_c0 _ rfl]) rfl ?_
                have hk_89 : kd (M c0 7) = 69 := Inv.r hI_M hk_c0 rfl 7 rfl rfl
                refine kx_bipush 61 F dX12_tray_59 (by decide) rfl ?_
                refine kx_iload_n 62 F 1 dX12_tray_61 rfl rfl rfl ?_
                refine kx_imul 63 F (v := 60 * a1) dX12_tray_62 (by omega) rfl ?_
                refine kx_iload 65 F 4 dX12_tray_63 rfl rfl ?_
                refine kx_iadd 66 F (v := 60 * a1 + x4_78) dX12_tray_65 rfl rfl ?_
                refine kx_lconst 67 (z := 0) F dX12_tray_66 (by decide) rfl ?_
                refine kx_last 68 F hk_89 rfl rfl (by omega) (by decide) dX12_tray_67 rfl ?_
                intro N_90 hM_N_90
                have hI_N_90 : Inv true N_90 := Inv.u hI_N_79 hM_N_90 hk_89 (a := (-9223372036854775808)) (b := 9223372036854775807) rfl rfl rfl (by omega)
                have hF_N_90 : Fr f_c_X12_tray M N_90 := Fr.u hF_N_79 hM_N_90 hk_89 rfl
                refine kx_iinc 71 F 4 (v := x4_78 + 1) (lo' := [some (vR G c0), some (vI a1), none, some (vI a3), some (vI (x4_78 + 1))]) dX12_tray_68 rfl (by omega) (by decide) rfl rfl rfl ?_
                refine kx_goto 49 F dX12_tray_71 (by decide) ?_
                exact ih_82 _ (by omega) (x4_78 + 1) N_90 hI_N_90 hF_N_90 (by omega) rfl
            refine kx_drop 2 (lo' := [some (vR G c0), some (vI a1), none, some (vI a3), some (vI 0)]) rfl ?_
            exact L_80 _ 0 N_21 hI_N_21 hF_N_21 (by omega) rfl
          · refine kx_aload_n 27 F 0 dX12_tray_26 rfl rfl rfl ?_
            refine kx_iconst 28 F dX12_tray_27 rfl ?_
            refine kx_Vi 31 (ci := 0) F (As := [vI 1]) (st := []) vd_X12_130 (c_X12_is G l M c0 1 hI_M hk_c0 (by omega)) hk_c0 rfl rfl rfl ⟨by decide, by decide⟩ rfl rfl (Nat.le_of_ble_eq_true rfl) dX12_tray_28 rfl ?_
            intro r_91 N_92 q_93
            obtain ⟨hI_N_92, hG_N_92, q_93c⟩ := q_93
            have hF_N_92 : Fr f_c_X12_tray M N_92 := Fr.c hF_M hG_N_92 rfl
            rcases q_93c with q_93c | q_93c
            · exfalso; omega
            · exact kx_zret F hQ (by omega) ⟨hI_N_92, hF_N_92, (by omega)⟩ dX12_tray_31
  · refine kx_if_eq 7 F 26 dX12_tray_4 (by decide) rfl (by omega) (fun h_94 => ?_) (fun h_94 => (by exfalso; omega))
    refine kx_aload_n 27 F 0 dX12_tray_26 rfl rfl rfl ?_
    refine kx_iconst 28 F dX12_tray_27 rfl ?_
    refine kx_Vi 31 (ci := 0) F (As := [vI 1]) (st := []) vd_X12_130 (c_X12_is G l M c0 1 hI_M hk_c0 (by omega)) hk_c0 rfl rfl rfl ⟨by decide, by decide⟩ rfl rfl (Nat.le_of_ble_eq_true rfl) dX12_tray_28 rfl ?_
    intro r_95 N_96 q_97
    obtain ⟨hI_N_96, hG_N_96, q_97c⟩ := q_97
    have hF_N_96 : Fr f_c_X12_tray M N_96 := Fr.c hF_M hG_N_96 rfl
    rcases q_97c with q_97c | q_97c
    · exfalso; omega
    · exact kx_zret F hQ (by omega) ⟨hI_N_96, hF_N_96, (by omega)⟩ dX12_tray_31
theorem dX12_wrongPlace_0 : decode cX12_wrongPlace 0 = .ok (.iload_n 1, 1) := by decide +kernel
theorem dX12_wrongPlace_1 : decode cX12_wrongPlace 1 = .ok (.invokestatic 134, 3) := by decide +kernel
theorem dX12_wrongPlace_4 : decode cX12_wrongPlace 4 = .ok (.ifCond .ne 7, 3) := by decide +kernel
theorem dX12_wrongPlace_7 : decode cX12_wrongPlace 7 = .ok (.iconst 1, 1) := by decide +kernel
theorem dX12_wrongPlace_8 : decode cX12_wrongPlace 8 = .ok (.goto 36, 3) := by decide +kernel
theorem dX12_wrongPlace_11 : decode cX12_wrongPlace 11 = .ok (.aload_n 0, 1) := by decide +kernel
theorem dX12_wrongPlace_12 : decode cX12_wrongPlace 12 = .ok (.getfield 24, 3) := by decide +kernel
theorem dX12_wrongPlace_15 : decode cX12_wrongPlace 15 = .ok (.iload_n 1, 1) := by decide +kernel
theorem dX12_wrongPlace_16 : decode cX12_wrongPlace 16 = .ok (.iaload, 1) := by decide +kernel
theorem dX12_wrongPlace_17 : decode cX12_wrongPlace 17 = .ok (.iconst (-1), 1) := by decide +kernel
theorem dX12_wrongPlace_18 : decode cX12_wrongPlace 18 = .ok (.if_icmp .ne 7, 3) := by decide +kernel
theorem dX12_wrongPlace_21 : decode cX12_wrongPlace 21 = .ok (.iconst 2, 1) := by decide +kernel
theorem dX12_wrongPlace_22 : decode cX12_wrongPlace 22 = .ok (.goto 22, 3) := by decide +kernel
theorem dX12_wrongPlace_25 : decode cX12_wrongPlace 25 = .ok (.iload_n 2, 1) := by decide +kernel
theorem dX12_wrongPlace_26 : decode cX12_wrongPlace 26 = .ok (.ifCond .lt 13, 3) := by decide +kernel
theorem dX12_wrongPlace_29 : decode cX12_wrongPlace 29 = .ok (.iload_n 2, 1) := by decide +kernel
theorem dX12_wrongPlace_30 : decode cX12_wrongPlace 30 = .ok (.aload_n 0, 1) := by decide +kernel
theorem dX12_wrongPlace_31 : decode cX12_wrongPlace 31 = .ok (.getfield 24, 3) := by decide +kernel
theorem dX12_wrongPlace_34 : decode cX12_wrongPlace 34 = .ok (.iload_n 1, 1) := by decide +kernel
theorem dX12_wrongPlace_35 : decode cX12_wrongPlace 35 = .ok (.iaload, 1) := by decide +kernel
theorem dX12_wrongPlace_36 : decode cX12_wrongPlace 36 = .ok (.if_icmp .lt 7, 3) := by decide +kernel
theorem dX12_wrongPlace_39 : decode cX12_wrongPlace 39 = .ok (.iconst 3, 1) := by decide +kernel
theorem dX12_wrongPlace_40 : decode cX12_wrongPlace 40 = .ok (.goto 4, 3) := by decide +kernel
theorem dX12_wrongPlace_43 : decode cX12_wrongPlace 43 = .ok (.iconst 0, 1) := by decide +kernel
theorem dX12_wrongPlace_44 : decode cX12_wrongPlace 44 = .ok (.ireturn, 1) := by decide +kernel
set_option maxHeartbeats 4000000 in
set_option maxRecDepth 100000 in
theorem c_X12_wrongPlace (G : KG) (l : Launch) (M : Mem) (c0 : Int) (a1 : Int) (a2 : Int) (hI_M : Inv true M) (hk_c0 : kd c0 = 64) (hpre : -2147483648 ≤ a1 ∧ a1 ≤ 2147483647 ∧ -2147483648 ≤ a2 ∧ a2 ≤ 2147483647) : KC true G l yX12_wrongPlace cX12_wrongPlace 3 (some .int) (1, 20) [vR G c0, vI a1, vI a2] M (fun A => kQi true G A (fun (r : Int) (N : Mem) => M = N ∧ ((r = 0 ∧ 0 ≤ a1 ∧ a1 ≤ 3 ∧ 0 ≤ a2 ∧ a2 ≤ 59) ∨ (r ≥ 1 ∧ r ≤ 3)))) := by
  refine kx_met (lo := [some (vR G c0), some (vI a1), some (vI a2)]) (by decide) (Nat.le_of_ble_eq_true rfl) rfl ?_
  intro X F hQ
  refine kx_iload_n 1 F 1 dX12_wrongPlace_0 rfl rfl rfl ?_
  refine kx_Si 4 F (As := [vI a1]) (st := []) sd_X12_134 (c_X12_isTray G l M a1 hI_M (by omega)) ⟨by decide, by decide⟩ rfl rfl (Nat.le_of_ble_eq_true rfl) dX12_wrongPlace_1 rfl ?_
  intro r_1 N_2 q_3
  obtain ⟨rfl, q_3c⟩ := q_3
  rcases q_3c with q_3c | q_3c
  · refine kx_if_ne 7 F 11 dX12_wrongPlace_4 (by decide) rfl (by omega) (fun h_4 => ?_) (fun h_4 => (by exfalso; omega))
    refine kx_aload_n 12 F 0 dX12_wrongPlace_11 rfl rfl rfl ?_
    refine kx_getr 15 F fl_X12_24 hk_c0 rfl rfl (j := 6) rfl dX12_wrongPlace_12 (v := (M c0 6)) rfl rfl ?_
    have hk_5 : kd (M c0 6) = 68 := Inv.r hI_M hk_c0 rfl 6 rfl rfl
    refine kx_iload_n 16 F 1 dX12_wrongPlace_15 rfl rfl rfl ?_
    refine kx_iald 17 F hk_5 rfl rfl (by omega) (by decide) dX12_wrongPlace_16 (v := (M (M c0 6) a1)) rfl rfl ?_
    have h_6 := Inv.g hI_M hk_5 rfl a1 (a := (-1)) (b := 60) rfl rfl
    refine kx_iconst 18 F dX12_wrongPlace_17 rfl ?_
    refine kx_icmp_ne 21 F 25 dX12_wrongPlace_18 (by decide) rfl (by omega) (by decide) (fun h_7 => ?_) (fun h_7 => ?_)
    · refine kx_iload_n 26 F 2 dX12_wrongPlace_25 rfl rfl rfl ?_
      refine kx_if_lt 29 F 39 dX12_wrongPlace_26 (by decide) rfl (by omega) (fun h_8 => ?_) (fun h_8 => ?_)
      · refine kx_iconst 40 F dX12_wrongPlace_39 rfl ?_
        refine kx_goto 44 F dX12_wrongPlace_40 (by decide) ?_
        exact kx_iret F hQ ⟨rfl, (by omega)⟩ dX12_wrongPlace_44
      · refine kx_iload_n 30 F 2 dX12_wrongPlace_29 rfl rfl rfl ?_
        refine kx_aload_n 31 F 0 dX12_wrongPlace_30 rfl rfl rfl ?_
        refine kx_getr 34 F fl_X12_24 hk_c0 rfl rfl (j := 6) rfl dX12_wrongPlace_31 (v := (M c0 6)) rfl rfl ?_
        refine kx_iload_n 35 F 1 dX12_wrongPlace_34 rfl rfl rfl ?_
        refine kx_iald 36 F hk_5 rfl rfl (by omega) (by decide) dX12_wrongPlace_35 (v := (M (M c0 6) a1)) rfl rfl ?_
        refine kx_icmp_lt 39 F 43 dX12_wrongPlace_36 (by decide) rfl (by omega) (by omega) (fun h_9 => ?_) (fun h_9 => ?_)
        · refine kx_iconst 44 F dX12_wrongPlace_43 rfl ?_
          exact kx_iret F hQ ⟨rfl, (by omega)⟩ dX12_wrongPlace_44
        · refine kx_iconst 40 F dX12_wrongPlace_39 rfl ?_
          refine kx_goto 44 F dX12_wrongPlace_40 (by decide) ?_
          exact kx_iret F hQ ⟨rfl, (by omega)⟩ dX12_wrongPlace_44
    · refine kx_iconst 22 F dX12_wrongPlace_21 rfl ?_
      refine kx_goto 44 F dX12_wrongPlace_22 (by decide) ?_
      exact kx_iret F hQ ⟨rfl, (by omega)⟩ dX12_wrongPlace_44
  · refine kx_if_ne 7 F 11 dX12_wrongPlace_4 (by decide) rfl (by omega) (fun h_10 => (by exfalso; omega)) (fun h_10 => ?_)
    refine kx_iconst 8 F dX12_wrongPlace_7 rfl ?_
    refine kx_goto 44 F dX12_wrongPlace_8 (by decide) ?_
    exact kx_iret F hQ ⟨rfl, (by omega)⟩ dX12_wrongPlace_44
theorem dX12_write_0 : decode cX12_write 0 = .ok (.aload_n 0, 1) := by decide +kernel
theorem dX12_write_1 : decode cX12_write 1 = .ok (.iload_n 1, 1) := by decide +kernel
theorem dX12_write_2 : decode cX12_write 2 = .ok (.iload_n 2, 1) := by decide +kernel
theorem dX12_write_3 : decode cX12_write 3 = .ok (.invokevirtual 137, 3) := by decide +kernel
theorem dX12_write_6 : decode cX12_write 6 = .ok (.istore 5, 2) := by decide +kernel
theorem dX12_write_8 : decode cX12_write 8 = .ok (.iload 5, 2) := by decide +kernel
theorem dX12_write_10 : decode cX12_write 10 = .ok (.ifCond .ne 24, 3) := by decide +kernel
theorem dX12_write_13 : decode cX12_write 13 = .ok (.aload_n 0, 1) := by decide +kernel
theorem dX12_write_14 : decode cX12_write 14 = .ok (.getfield 27, 3) := by decide +kernel
theorem dX12_write_17 : decode cX12_write 17 = .ok (.bipush 60, 2) := by decide +kernel
theorem dX12_write_19 : decode cX12_write 19 = .ok (.iload_n 1, 1) := by decide +kernel
theorem dX12_write_20 : decode cX12_write 20 = .ok (.imul, 1) := by decide +kernel
theorem dX12_write_21 : decode cX12_write 21 = .ok (.iload_n 2, 1) := by decide +kernel
theorem dX12_write_22 : decode cX12_write 22 = .ok (.iadd, 1) := by decide +kernel
theorem dX12_write_23 : decode cX12_write 23 = .ok (.lload_n 3, 1) := by decide +kernel
theorem dX12_write_24 : decode cX12_write 24 = .ok (.aload_n 0, 1) := by decide +kernel
theorem dX12_write_25 : decode cX12_write 25 = .ok (.getfield 21, 3) := by decide +kernel
theorem dX12_write_28 : decode cX12_write 28 = .ok (.iload_n 1, 1) := by decide +kernel
theorem dX12_write_29 : decode cX12_write 29 = .ok (.iaload, 1) := by decide +kernel
theorem dX12_write_30 : decode cX12_write 30 = .ok (.invokestatic 141, 3) := by decide +kernel
theorem dX12_write_33 : decode cX12_write 33 = .ok (.lastore, 1) := by decide +kernel
theorem dX12_write_34 : decode cX12_write 34 = .ok (.aload_n 0, 1) := by decide +kernel
theorem dX12_write_35 : decode cX12_write 35 = .ok (.iload 5, 2) := by decide +kernel
theorem dX12_write_37 : decode cX12_write 37 = .ok (.invokevirtual 130, 3) := by decide +kernel
theorem dX12_write_40 : decode cX12_write 40 = .ok (.ireturn, 1) := by decide +kernel
abbrev f_c_X12_write : List (Nat × Int) := [(64, 2), (69, -1)]
set_option maxHeartbeats 4000000 in
set_option maxRecDepth 100000 in
theorem c_X12_write (G : KG) (l : Launch) (M : Mem) (c0 : Int) (a1 : Int) (a2 : Int) (a3 : Int) (hI_M : Inv true M) (hk_c0 : kd c0 = 64) (hpre : -2147483648 ≤ a1 ∧ a1 ≤ 2147483647 ∧ -2147483648 ≤ a2 ∧ a2 ≤ 2147483647 ∧ -9223372036854775808 ≤ a3 ∧ a3 ≤ 9223372036854775807) : KC true G l yX12_write cX12_write 6 (some .boolean) (2, 42) [vR G c0, vI a1, vI a2, vL a3] M (fun A => kQi true G A (fun (r : Int) (N : Mem) => Inv true N ∧ Fr f_c_X12_write M N ∧ (0 ≤ r ∧ r ≤ 1))) := by
  refine kx_met (lo := [some (vR G c0), some (vI a1), some (vI a2), some (vL a3), none, none]) (by decide) (Nat.le_of_ble_eq_true rfl) rfl ?_
  intro X F hQ
  have hF_M : Fr f_c_X12_write M M := Fr.rf _ _
  refine kx_aload_n 1 F 0 dX12_write_0 rfl rfl rfl ?_
  refine kx_iload_n 2 F 1 dX12_write_1 rfl rfl rfl ?_
  refine kx_iload_n 3 F 2 dX12_write_2 rfl rfl rfl ?_
  refine kx_Vi 6 (ci := 0) F (As := [vI a1, vI a2]) (st := []) vd_X12_137 (c_X12_wrongPlace G l M c0 a1 a2 hI_M hk_c0 (by omega)) hk_c0 rfl rfl rfl ⟨by decide, by decide⟩ rfl rfl (Nat.le_of_ble_eq_true rfl) dX12_write_3 rfl ?_
  intro r_1 N_2 q_3
  obtain ⟨rfl, q_3c⟩ := q_3
  rcases q_3c with q_3c | q_3c
  · refine kx_istore 8 F 5 (lo' := [some (vR G c0), some (vI a1), some (vI a2), some (vL a3), none, some (vI r_1)]) dX12_write_6 (by decide) rfl rfl rfl ?_
    refine kx_iload 10 F 5 dX12_write_8 rfl rfl ?_
    refine kx_if_ne 13 F 34 dX12_write_10 (by decide) rfl (by omega) (fun h_4 => (by exfalso; omega)) (fun h_4 => ?_)
    refine kx_aload_n 14 F 0 dX12_write_13 rfl rfl rfl ?_
    refine kx_getr 17 F fl_X12_27 hk_c0 rfl rfl (j := 7) rfl dX12_write_14 (v := (M c0 7)) rfl rfl ?_
    have hk_5 : kd (M c0 7) = 69 := Inv.r hI_M hk_c0 rfl 7 rfl rfl
    refine kx_bipush 19 F dX12_write_17 (by decide) rfl ?_
    refine kx_iload_n 20 F 1 dX12_write_19 rfl rfl rfl ?_
    refine kx_imul 21 F (v := 60 * a1) dX12_write_20 (by omega) rfl ?_
    refine kx_iload_n 22 F 2 dX12_write_21 rfl rfl rfl ?_
    refine kx_iadd 23 F (v := 60 * a1 + a2) dX12_write_22 rfl rfl ?_
    refine kx_lload_n 24 F 3 dX12_write_23 rfl rfl rfl ?_
    refine kx_aload_n 25 F 0 dX12_write_24 rfl rfl rfl ?_
    refine kx_getr 28 F fl_X12_21 hk_c0 rfl rfl (j := 5) rfl dX12_write_25 (v := (M c0 5)) rfl rfl ?_
    have hk_6 : kd (M c0 5) = 67 := Inv.r hI_M hk_c0 rfl 5 rfl rfl
    refine kx_iload_n 29 F 1 dX12_write_28 rfl rfl rfl ?_
    refine kx_iald 30 F hk_6 rfl rfl (by omega) (by decide) dX12_write_29 (v := (M (M c0 5) a1)) rfl rfl ?_
    have h_7 := Inv.g hI_M hk_6 rfl a1 (a := 0) (b := 3) rfl rfl
    refine kx_Sl 33 F (As := [vL a3, vI (M (M c0 5) a1)]) (st := [vI (60 * a1 + a2), vR G (M c0 7)]) sd_X12_141 (c_X12_cut G l M a3 (M (M c0 5) a1) hI_M (by omega)) ⟨by decide, by decide⟩ rfl rfl (Nat.le_of_ble_eq_true rfl) dX12_write_30 rfl ?_
    intro r_8 N_9 q_10
    obtain ⟨rfl, q_10c⟩ := q_10
    refine kx_last 34 F hk_5 rfl rfl (by omega) (by decide) dX12_write_33 rfl ?_
    intro N_11 hM_N_11
    have hI_N_11 : Inv true N_11 := Inv.u hI_M hM_N_11 hk_5 (a := (-9223372036854775808)) (b := 9223372036854775807) rfl rfl rfl (by omega)
    have hF_N_11 : Fr f_c_X12_write M N_11 := Fr.u hF_M hM_N_11 hk_5 rfl
    refine kx_aload_n 35 F 0 dX12_write_34 rfl rfl rfl ?_
    refine kx_iload 37 F 5 dX12_write_35 rfl rfl ?_
    refine kx_Vi 40 (ci := 0) F (As := [vI r_1]) (st := []) vd_X12_130 (c_X12_is G l N_11 c0 r_1 hI_N_11 hk_c0 (by omega)) hk_c0 rfl rfl rfl ⟨by decide, by decide⟩ rfl rfl (Nat.le_of_ble_eq_true rfl) dX12_write_37 rfl ?_
    intro r_12 N_13 q_14
    obtain ⟨hI_N_13, hG_N_13, q_14c⟩ := q_14
    have hF_N_13 : Fr f_c_X12_write M N_13 := Fr.c hF_N_11 hG_N_13 rfl
    rcases q_14c with q_14c | q_14c
    · exact kx_zret F hQ (by omega) ⟨hI_N_13, hF_N_13, (by omega)⟩ dX12_write_40
    · exfalso; omega
  · refine kx_istore 8 F 5 (lo' := [some (vR G c0), some (vI a1), some (vI a2), some (vL a3), none, some (vI r_1)]) dX12_write_6 (by decide) rfl rfl rfl ?_
    refine kx_iload 10 F 5 dX12_write_8 rfl rfl ?_
    refine kx_if_ne 13 F 34 dX12_write_10 (by decide) rfl (by omega) (fun h_15 => ?_) (fun h_15 => (by exfalso; omega))
    refine kx_aload_n 35 F 0 dX12_write_34 rfl rfl rfl ?_
    refine kx_iload 37 F 5 dX12_write_35 rfl rfl ?_
    refine kx_Vi 40 (ci := 0) F (As := [vI r_1]) (st := []) vd_X12_130 (c_X12_is G l M c0 r_1 hI_M hk_c0 (by omega)) hk_c0 rfl rfl rfl ⟨by decide, by decide⟩ rfl rfl (Nat.le_of_ble_eq_true rfl) dX12_write_37 rfl ?_
    intro r_16 N_17 q_18
    obtain ⟨hI_N_17, hG_N_17, q_18c⟩ := q_18
    have hF_N_17 : Fr f_c_X12_write M N_17 := Fr.c hF_M hG_N_17 rfl
    rcases q_18c with q_18c | q_18c
    · exfalso; omega
    · exact kx_zret F hQ (by omega) ⟨hI_N_17, hF_N_17, (by omega)⟩ dX12_write_40
theorem dX12_read_0 : decode cX12_read 0 = .ok (.aload_n 0, 1) := by decide +kernel
theorem dX12_read_1 : decode cX12_read 1 = .ok (.aload_n 0, 1) := by decide +kernel
theorem dX12_read_2 : decode cX12_read 2 = .ok (.iload_n 1, 1) := by decide +kernel
theorem dX12_read_3 : decode cX12_read 3 = .ok (.iload_n 2, 1) := by decide +kernel
theorem dX12_read_4 : decode cX12_read 4 = .ok (.invokevirtual 137, 3) := by decide +kernel
theorem dX12_read_7 : decode cX12_read 7 = .ok (.putfield 117, 3) := by decide +kernel
theorem dX12_read_10 : decode cX12_read 10 = .ok (.aload_n 0, 1) := by decide +kernel
theorem dX12_read_11 : decode cX12_read 11 = .ok (.getfield 117, 3) := by decide +kernel
theorem dX12_read_14 : decode cX12_read 14 = .ok (.ifCond .le 9, 3) := by decide +kernel
theorem dX12_read_17 : decode cX12_read 17 = .ok (.ldc2_w 145, 3) := by decide +kernel
theorem dX12_read_20 : decode cX12_read 20 = .ok (.goto 14, 3) := by decide +kernel
theorem dX12_read_23 : decode cX12_read 23 = .ok (.aload_n 0, 1) := by decide +kernel
theorem dX12_read_24 : decode cX12_read 24 = .ok (.getfield 27, 3) := by decide +kernel
theorem dX12_read_27 : decode cX12_read 27 = .ok (.bipush 60, 2) := by decide +kernel
theorem dX12_read_29 : decode cX12_read 29 = .ok (.iload_n 1, 1) := by decide +kernel
theorem dX12_read_30 : decode cX12_read 30 = .ok (.imul, 1) := by decide +kernel
theorem dX12_read_31 : decode cX12_read 31 = .ok (.iload_n 2, 1) := by decide +kernel
theorem dX12_read_32 : decode cX12_read 32 = .ok (.iadd, 1) := by decide +kernel
theorem dX12_read_33 : decode cX12_read 33 = .ok (.laload, 1) := by decide +kernel
theorem dX12_read_34 : decode cX12_read 34 = .ok (.lreturn, 1) := by decide +kernel
abbrev f_c_X12_read : List (Nat × Int) := [(64, 2)]
set_option maxHeartbeats 4000000 in
set_option maxRecDepth 100000 in
theorem c_X12_read (G : KG) (l : Launch) (M : Mem) (c0 : Int) (a1 : Int) (a2 : Int) (hI_M : Inv true M) (hk_c0 : kd c0 = 64) (hpre : -2147483648 ≤ a1 ∧ a1 ≤ 2147483647 ∧ -2147483648 ≤ a2 ∧ a2 ≤ 2147483647) : KC true G l yX12_read cX12_read 3 (some .long) (2, 42) [vR G c0, vI a1, vI a2] M (fun A => kQl true G A (fun (r : Int) (N : Mem) => Inv true N ∧ Fr f_c_X12_read M N ∧ (r ≥ -9223372036854775808 ∧ r ≤ 9223372036854775807))) := by
  refine kx_met (lo := [some (vR G c0), some (vI a1), some (vI a2)]) (by decide) (Nat.le_of_ble_eq_true rfl) rfl ?_
  intro X F hQ
  have hF_M : Fr f_c_X12_read M M := Fr.rf _ _
  refine kx_aload_n 1 F 0 dX12_read_0 rfl rfl rfl ?_
  refine kx_aload_n 2 F 0 dX12_read_1 rfl rfl rfl ?_
  refine kx_iload_n 3 F 1 dX12_read_2 rfl rfl rfl ?_
  refine kx_iload_n 4 F 2 dX12_read_3 rfl rfl rfl ?_
  refine kx_Vi 7 (ci := 0) F (As := [vI a1, vI a2]) (st := [vR G c0]) vd_X12_137 (c_X12_wrongPlace G l M c0 a1 a2 hI_M hk_c0 (by omega)) hk_c0 rfl rfl rfl ⟨by decide, by decide⟩ rfl rfl (Nat.le_of_ble_eq_true rfl) dX12_read_4 rfl ?_
  intro r_1 N_2 q_3
  obtain ⟨rfl, q_3c⟩ := q_3
  rcases q_3c with q_3c | q_3c
  · refine kx_puti 10 F fw_X12_117 rfl hk_c0 rfl rfl (j := 2) rfl dX12_read_7 rfl ?_
    intro N_4 hM_N_4
    have hI_N_4 : Inv true N_4 := Inv.u hI_M hM_N_4 hk_c0 (a := (-2147483648)) (b := 2147483647) rfl rfl rfl (by omega)
    have hF_N_4 : Fr f_c_X12_read M N_4 := Fr.u hF_M hM_N_4 hk_c0 rfl
    refine kx_aload_n 11 F 0 dX12_read_10 rfl rfl rfl ?_
    refine kx_geti 14 F fl_X12_117 hk_c0 rfl rfl (j := 2) rfl dX12_read_11 (v := r_1) (by rw [hM_N_4, mu_s]) rfl ?_
    refine kx_if_le 17 F 23 dX12_read_14 (by decide) rfl (by omega) (fun h_5 => ?_) (fun h_5 => (by exfalso; omega))
    refine kx_aload_n 24 F 0 dX12_read_23 rfl rfl rfl ?_
    refine kx_getr 27 F fl_X12_27 hk_c0 rfl rfl (j := 7) rfl dX12_read_24 (v := (M c0 7)) (by rw [hM_N_4, mu_i (by omega)]) rfl ?_
    have hk_6 : kd (M c0 7) = 69 := Inv.r hI_M hk_c0 rfl 7 rfl rfl
    refine kx_bipush 29 F dX12_read_27 (by decide) rfl ?_
    refine kx_iload_n 30 F 1 dX12_read_29 rfl rfl rfl ?_
    refine kx_imul 31 F (v := 60 * a1) dX12_read_30 (by omega) rfl ?_
    refine kx_iload_n 32 F 2 dX12_read_31 rfl rfl rfl ?_
    refine kx_iadd 33 F (v := 60 * a1 + a2) dX12_read_32 rfl rfl ?_
    refine kx_lald 34 F hk_6 rfl rfl (by omega) (by decide) dX12_read_33 (v := (M (M c0 7) (60 * a1 + a2))) (by rw [hM_N_4, mu_k hk_6 hk_c0 rfl]) rfl ?_
    have h_7 := Inv.g hI_M hk_6 rfl (60 * a1 + a2) (a := (-9223372036854775808)) (b := 9223372036854775807) rfl rfl
    exact kx_lret F hQ ⟨hI_N_4, hF_N_4, (by omega)⟩ dX12_read_34
  · refine kx_puti 10 F fw_X12_117 rfl hk_c0 rfl rfl (j := 2) rfl dX12_read_7 rfl ?_
    intro N_8 hM_N_8
    have hI_N_8 : Inv true N_8 := Inv.u hI_M hM_N_8 hk_c0 (a := (-2147483648)) (b := 2147483647) rfl rfl rfl (by omega)
    have hF_N_8 : Fr f_c_X12_read M N_8 := Fr.u hF_M hM_N_8 hk_c0 rfl
    refine kx_aload_n 11 F 0 dX12_read_10 rfl rfl rfl ?_
    refine kx_geti 14 F fl_X12_117 hk_c0 rfl rfl (j := 2) rfl dX12_read_11 (v := r_1) (by rw [hM_N_8, mu_s]) rfl ?_
    refine kx_if_le 17 F 23 dX12_read_14 (by decide) rfl (by omega) (fun h_9 => (by exfalso; omega)) (fun h_9 => ?_)
    refine kx_ldc2 20 (z := (-1)) F dX12_read_17 ct_X12_145 rfl ?_
    refine kx_goto 34 F dX12_read_20 (by decide) ?_
    exact kx_lret F hQ ⟨hI_N_8, hF_N_8, (by omega)⟩ dX12_read_34
theorem dX12_pour_0 : decode cX12_pour 0 = .ok (.iload_n 1, 1) := by decide +kernel
theorem dX12_pour_1 : decode cX12_pour 1 = .ok (.invokestatic 134, 3) := by decide +kernel
theorem dX12_pour_4 : decode cX12_pour 4 = .ok (.ifCond .eq 24, 3) := by decide +kernel
theorem dX12_pour_7 : decode cX12_pour 7 = .ok (.iload_n 3, 1) := by decide +kernel
theorem dX12_pour_8 : decode cX12_pour 8 = .ok (.invokestatic 134, 3) := by decide +kernel
theorem dX12_pour_11 : decode cX12_pour 11 = .ok (.ifCond .eq 17, 3) := by decide +kernel
theorem dX12_pour_14 : decode cX12_pour 14 = .ok (.iload_n 2, 1) := by decide +kernel
theorem dX12_pour_15 : decode cX12_pour 15 = .ok (.ifCond .lt 13, 3) := by decide +kernel
theorem dX12_pour_18 : decode cX12_pour 18 = .ok (.iload 4, 2) := by decide +kernel
theorem dX12_pour_20 : decode cX12_pour 20 = .ok (.ifCond .lt 8, 3) := by decide +kernel
theorem dX12_pour_23 : decode cX12_pour 23 = .ok (.iload 5, 2) := by decide +kernel
theorem dX12_pour_25 : decode cX12_pour 25 = .ok (.ifCond .ge 9, 3) := by decide +kernel
theorem dX12_pour_28 : decode cX12_pour 28 = .ok (.aload_n 0, 1) := by decide +kernel
theorem dX12_pour_29 : decode cX12_pour 29 = .ok (.iconst 1, 1) := by decide +kernel
theorem dX12_pour_30 : decode cX12_pour 30 = .ok (.invokevirtual 130, 3) := by decide +kernel
theorem dX12_pour_33 : decode cX12_pour 33 = .ok (.ireturn, 1) := by decide +kernel
theorem dX12_pour_34 : decode cX12_pour 34 = .ok (.aload_n 0, 1) := by decide +kernel
theorem dX12_pour_35 : decode cX12_pour 35 = .ok (.getfield 24, 3) := by decide +kernel
theorem dX12_pour_38 : decode cX12_pour 38 = .ok (.iload_n 1, 1) := by decide +kernel
theorem dX12_pour_39 : decode cX12_pour 39 = .ok (.iaload, 1) := by decide +kernel
theorem dX12_pour_40 : decode cX12_pour 40 = .ok (.iconst (-1), 1) := by decide +kernel
theorem dX12_pour_41 : decode cX12_pour 41 = .ok (.if_icmp .eq 13, 3) := by decide +kernel
theorem dX12_pour_44 : decode cX12_pour 44 = .ok (.aload_n 0, 1) := by decide +kernel
theorem dX12_pour_45 : decode cX12_pour 45 = .ok (.getfield 24, 3) := by decide +kernel
theorem dX12_pour_48 : decode cX12_pour 48 = .ok (.iload_n 3, 1) := by decide +kernel
theorem dX12_pour_49 : decode cX12_pour 49 = .ok (.iaload, 1) := by decide +kernel
theorem dX12_pour_50 : decode cX12_pour 50 = .ok (.iconst (-1), 1) := by decide +kernel
theorem dX12_pour_51 : decode cX12_pour 51 = .ok (.if_icmp .ne 9, 3) := by decide +kernel
theorem dX12_pour_54 : decode cX12_pour 54 = .ok (.aload_n 0, 1) := by decide +kernel
theorem dX12_pour_55 : decode cX12_pour 55 = .ok (.iconst 2, 1) := by decide +kernel
theorem dX12_pour_56 : decode cX12_pour 56 = .ok (.invokevirtual 130, 3) := by decide +kernel
theorem dX12_pour_59 : decode cX12_pour 59 = .ok (.ireturn, 1) := by decide +kernel
theorem dX12_pour_60 : decode cX12_pour 60 = .ok (.aload_n 0, 1) := by decide +kernel
theorem dX12_pour_61 : decode cX12_pour 61 = .ok (.getfield 21, 3) := by decide +kernel
theorem dX12_pour_64 : decode cX12_pour 64 = .ok (.iload_n 1, 1) := by decide +kernel
theorem dX12_pour_65 : decode cX12_pour 65 = .ok (.iaload, 1) := by decide +kernel
theorem dX12_pour_66 : decode cX12_pour 66 = .ok (.aload_n 0, 1) := by decide +kernel
theorem dX12_pour_67 : decode cX12_pour 67 = .ok (.getfield 21, 3) := by decide +kernel
theorem dX12_pour_70 : decode cX12_pour 70 = .ok (.iload_n 3, 1) := by decide +kernel
theorem dX12_pour_71 : decode cX12_pour 71 = .ok (.iaload, 1) := by decide +kernel
theorem dX12_pour_72 : decode cX12_pour 72 = .ok (.if_icmp .eq 10, 3) := by decide +kernel
theorem dX12_pour_75 : decode cX12_pour 75 = .ok (.aload_n 0, 1) := by decide +kernel
theorem dX12_pour_76 : decode cX12_pour 76 = .ok (.bipush 8, 2) := by decide +kernel
theorem dX12_pour_78 : decode cX12_pour 78 = .ok (.invokevirtual 130, 3) := by decide +kernel
theorem dX12_pour_81 : decode cX12_pour 81 = .ok (.ireturn, 1) := by decide +kernel
theorem dX12_pour_82 : decode cX12_pour 82 = .ok (.iload 5, 2) := by decide +kernel
theorem dX12_pour_84 : decode cX12_pour 84 = .ok (.aload_n 0, 1) := by decide +kernel
theorem dX12_pour_85 : decode cX12_pour 85 = .ok (.getfield 24, 3) := by decide +kernel
theorem dX12_pour_88 : decode cX12_pour 88 = .ok (.iload_n 1, 1) := by decide +kernel
theorem dX12_pour_89 : decode cX12_pour 89 = .ok (.iaload, 1) := by decide +kernel
theorem dX12_pour_90 : decode cX12_pour 90 = .ok (.iload_n 2, 1) := by decide +kernel
theorem dX12_pour_91 : decode cX12_pour 91 = .ok (.isub, 1) := by decide +kernel
theorem dX12_pour_92 : decode cX12_pour 92 = .ok (.if_icmp .gt 17, 3) := by decide +kernel
theorem dX12_pour_95 : decode cX12_pour 95 = .ok (.iload 5, 2) := by decide +kernel
theorem dX12_pour_97 : decode cX12_pour 97 = .ok (.aload_n 0, 1) := by decide +kernel
theorem dX12_pour_98 : decode cX12_pour 98 = .ok (.getfield 24, 3) := by decide +kernel
theorem dX12_pour_101 : decode cX12_pour 101 = .ok (.iload_n 3, 1) := by decide +kernel
theorem dX12_pour_102 : decode cX12_pour 102 = .ok (.iaload, 1) := by decide +kernel
theorem dX12_pour_103 : decode cX12_pour 103 = .ok (.iload 4, 2) := by decide +kernel
theorem dX12_pour_105 : decode cX12_pour 105 = .ok (.isub, 1) := by decide +kernel
theorem dX12_pour_106 : decode cX12_pour 106 = .ok (.if_icmp .le 9, 3) := by decide +kernel
theorem dX12_pour_109 : decode cX12_pour 109 = .ok (.aload_n 0, 1) := by decide +kernel
theorem dX12_pour_110 : decode cX12_pour 110 = .ok (.iconst 3, 1) := by decide +kernel
theorem dX12_pour_111 : decode cX12_pour 111 = .ok (.invokevirtual 130, 3) := by decide +kernel
theorem dX12_pour_114 : decode cX12_pour 114 = .ok (.ireturn, 1) := by decide +kernel
theorem dX12_pour_115 : decode cX12_pour 115 = .ok (.iconst 0, 1) := by decide +kernel
theorem dX12_pour_116 : decode cX12_pour 116 = .ok (.istore 6, 2) := by decide +kernel
theorem dX12_pour_118 : decode cX12_pour 118 = .ok (.iload 6, 2) := by decide +kernel
theorem dX12_pour_120 : decode cX12_pour 120 = .ok (.iload 5, 2) := by decide +kernel
theorem dX12_pour_122 : decode cX12_pour 122 = .ok (.if_icmp .ge 58, 3) := by decide +kernel
theorem dX12_pour_125 : decode cX12_pour 125 = .ok (.iload_n 2, 1) := by decide +kernel
theorem dX12_pour_126 : decode cX12_pour 126 = .ok (.iload 4, 2) := by decide +kernel
theorem dX12_pour_128 : decode cX12_pour 128 = .ok (.if_icmp .ge 13, 3) := by decide +kernel
theorem dX12_pour_131 : decode cX12_pour 131 = .ok (.iload 5, 2) := by decide +kernel
theorem dX12_pour_133 : decode cX12_pour 133 = .ok (.iconst 1, 1) := by decide +kernel
theorem dX12_pour_134 : decode cX12_pour 134 = .ok (.isub, 1) := by decide +kernel
theorem dX12_pour_135 : decode cX12_pour 135 = .ok (.iload 6, 2) := by decide +kernel
theorem dX12_pour_137 : decode cX12_pour 137 = .ok (.isub, 1) := by decide +kernel
theorem dX12_pour_138 : decode cX12_pour 138 = .ok (.goto 5, 3) := by decide +kernel
theorem dX12_pour_141 : decode cX12_pour 141 = .ok (.iload 6, 2) := by decide +kernel
theorem dX12_pour_143 : decode cX12_pour 143 = .ok (.istore 7, 2) := by decide +kernel
theorem dX12_pour_145 : decode cX12_pour 145 = .ok (.aload_n 0, 1) := by decide +kernel
theorem dX12_pour_146 : decode cX12_pour 146 = .ok (.getfield 27, 3) := by decide +kernel
theorem dX12_pour_149 : decode cX12_pour 149 = .ok (.bipush 60, 2) := by decide +kernel
theorem dX12_pour_151 : decode cX12_pour 151 = .ok (.iload_n 3, 1) := by decide +kernel
theorem dX12_pour_152 : decode cX12_pour 152 = .ok (.imul, 1) := by decide +kernel
theorem dX12_pour_153 : decode cX12_pour 153 = .ok (.iload 4, 2) := by decide +kernel
theorem dX12_pour_155 : decode cX12_pour 155 = .ok (.iadd, 1) := by decide +kernel
theorem dX12_pour_156 : decode cX12_pour 156 = .ok (.iload 7, 2) := by decide +kernel
theorem dX12_pour_158 : decode cX12_pour 158 = .ok (.iadd, 1) := by decide +kernel
theorem dX12_pour_159 : decode cX12_pour 159 = .ok (.aload_n 0, 1) := by decide +kernel
theorem dX12_pour_160 : decode cX12_pour 160 = .ok (.getfield 27, 3) := by decide +kernel
theorem dX12_pour_163 : decode cX12_pour 163 = .ok (.bipush 60, 2) := by decide +kernel
theorem dX12_pour_165 : decode cX12_pour 165 = .ok (.iload_n 1, 1) := by decide +kernel
theorem dX12_pour_166 : decode cX12_pour 166 = .ok (.imul, 1) := by decide +kernel
theorem dX12_pour_167 : decode cX12_pour 167 = .ok (.iload_n 2, 1) := by decide +kernel
theorem dX12_pour_168 : decode cX12_pour 168 = .ok (.iadd, 1) := by decide +kernel
theorem dX12_pour_169 : decode cX12_pour 169 = .ok (.iload 7, 2) := by decide +kernel
theorem dX12_pour_171 : decode cX12_pour 171 = .ok (.iadd, 1) := by decide +kernel
theorem dX12_pour_172 : decode cX12_pour 172 = .ok (.laload, 1) := by decide +kernel
theorem dX12_pour_173 : decode cX12_pour 173 = .ok (.lastore, 1) := by decide +kernel
theorem dX12_pour_174 : decode cX12_pour 174 = .ok (.iinc 6 1, 3) := by decide +kernel
theorem dX12_pour_177 : decode cX12_pour 177 = .ok (.goto (-59), 3) := by decide +kernel
theorem dX12_pour_180 : decode cX12_pour 180 = .ok (.aload_n 0, 1) := by decide +kernel
theorem dX12_pour_181 : decode cX12_pour 181 = .ok (.iconst 0, 1) := by decide +kernel
theorem dX12_pour_182 : decode cX12_pour 182 = .ok (.invokevirtual 130, 3) := by decide +kernel
theorem dX12_pour_185 : decode cX12_pour 185 = .ok (.ireturn, 1) := by decide +kernel
abbrev f_c_X12_pour : List (Nat × Int) := [(64, 2), (69, -1)]
set_option maxHeartbeats 4000000 in
set_option maxRecDepth 100000 in
theorem c_X12_pour (G : KG) (l : Launch) (M : Mem) (c0 : Int) (a1 : Int) (a2 : Int) (a3 : Int) (a4 : Int) (a5 : Int) (hI_M : Inv true M) (hk_c0 : kd c0 = 64) (hpre : -2147483648 ≤ a1 ∧ a1 ≤ 2147483647 ∧ -2147483648 ≤ a2 ∧ a2 ≤ 2147483647 ∧ -2147483648 ≤ a3 ∧ a3 ≤ 2147483647 ∧ -2147483648 ≤ a4 ∧ a4 ≤ 2147483647 ∧ -2147483648 ≤ a5 ∧ a5 ≤ 2147483647) : KC true G l yX12_pour cX12_pour 8 (some .boolean) (1, 21) [vR G c0, vI a1, vI a2, vI a3, vI a4, vI a5] M (fun A => kQi true G A (fun (r : Int) (N : Mem) => Inv true N ∧ Fr f_c_X12_pour M N ∧ (0 ≤ r ∧ r ≤ 1))) := by
  refine kx_met (lo := [some (vR G c0), some (vI a1), some (vI a2), some (vI a3), some (vI a4), some (vI a5), none, none]) (by decide) (Nat.le_of_ble_eq_true rfl) rfl ?_
  intro X F hQ
  have hF_M : Fr f_c_X12_pour M M := Fr.rf _ _
  refine kx_iload_n 1 F 1 dX12_pour_0 rfl rfl rfl ?_
  refine kx_Si 4 F (As := [vI a1]) (st := []) sd_X12_134 (c_X12_isTray G l M a1 hI_M (by omega)) ⟨by decide, by decide⟩ rfl rfl (Nat.le_of_ble_eq_true rfl) dX12_pour_1 rfl ?_
  intro r_1 N_2 q_3
  obtain ⟨rfl, q_3c⟩ := q_3
  rcases q_3c with q_3c | q_3c
  · refine kx_if_eq 7 F 28 dX12_pour_4 (by decide) rfl (by omega) (fun h_4 => (by exfalso; omega)) (fun h_4 => ?_)
    refine kx_iload_n 8 F 3 dX12_pour_7 rfl rfl rfl ?_
    refine kx_Si 11 F (As := [vI a3]) (st := []) sd_X12_134 (c_X12_isTray G l M a3 hI_M (by omega)) ⟨by decide, by decide⟩ rfl rfl (Nat.le_of_ble_eq_true rfl) dX12_pour_8 rfl ?_
    intro r_5 N_6 q_7
    obtain ⟨rfl, q_7c⟩ := q_7
    rcases q_7c with q_7c | q_7c
    · refine kx_if_eq 14 F 28 dX12_pour_11 (by decide) rfl (by omega) (fun h_8 => (by exfalso; omega)) (fun h_8 => ?_)
      refine kx_iload_n 15 F 2 dX12_pour_14 rfl rfl rfl ?_
      refine kx_if_lt 18 F 28 dX12_pour_15 (by decide) rfl (by omega) (fun h_9 => ?_) (fun h_9 => ?_)
      · refine kx_aload_n 29 F 0 dX12_pour_28 rfl rfl rfl ?_
        refine kx_iconst 30 F dX12_pour_29 rfl ?_
        refine kx_Vi 33 (ci := 0) F (As := [vI 1]) (st := []) vd_X12_130 (c_X12_is G l M c0 1 hI_M hk_c0 (by omega)) hk_c0 rfl rfl rfl ⟨by decide, by decide⟩ rfl rfl (Nat.le_of_ble_eq_true rfl) dX12_pour_30 rfl ?_
        intro r_10 N_11 q_12
        obtain ⟨hI_N_11, hG_N_11, q_12c⟩ := q_12
        have hF_N_11 : Fr f_c_X12_pour M N_11 := Fr.c hF_M hG_N_11 rfl
        rcases q_12c with q_12c | q_12c
        · exfalso; omega
        · exact kx_zret F hQ (by omega) ⟨hI_N_11, hF_N_11, (by omega)⟩ dX12_pour_33
      · refine kx_iload 20 F 4 dX12_pour_18 rfl rfl ?_
        refine kx_if_lt 23 F 28 dX12_pour_20 (by decide) rfl (by omega) (fun h_13 => ?_) (fun h_13 => ?_)
        · refine kx_aload_n 29 F 0 dX12_pour_28 rfl rfl rfl ?_
          refine kx_iconst 30 F dX12_pour_29 rfl ?_
          refine kx_Vi 33 (ci := 0) F (As := [vI 1]) (st := []) vd_X12_130 (c_X12_is G l M c0 1 hI_M hk_c0 (by omega)) hk_c0 rfl rfl rfl ⟨by decide, by decide⟩ rfl rfl (Nat.le_of_ble_eq_true rfl) dX12_pour_30 rfl ?_
          intro r_14 N_15 q_16
          obtain ⟨hI_N_15, hG_N_15, q_16c⟩ := q_16
          have hF_N_15 : Fr f_c_X12_pour M N_15 := Fr.c hF_M hG_N_15 rfl
          rcases q_16c with q_16c | q_16c
          · exfalso; omega
          · exact kx_zret F hQ (by omega) ⟨hI_N_15, hF_N_15, (by omega)⟩ dX12_pour_33
        · refine kx_iload 25 F 5 dX12_pour_23 rfl rfl ?_
          refine kx_if_ge 28 F 34 dX12_pour_25 (by decide) rfl (by omega) (fun h_17 => ?_) (fun h_17 => ?_)
          · refine kx_aload_n 35 F 0 dX12_pour_34 rfl rfl rfl ?_
            refine kx_getr 38 F fl_X12_24 hk_c0 rfl rfl (j := 6) rfl dX12_pour_35 (v := (M c0 6)) rfl rfl ?_
            have hk_18 : kd (M c0 6) = 68 := Inv.r hI_M hk_c0 rfl 6 rfl rfl
            refine kx_iload_n 39 F 1 dX12_pour_38 rfl rfl rfl ?_
            refine kx_iald 40 F hk_18 rfl rfl (by omega) (by decide) dX12_pour_39 (v := (M (M c0 6) a1)) rfl rfl ?_
            have h_19 := Inv.g hI_M hk_18 rfl a1 (a := (-1)) (b := 60) rfl rfl
            refine kx_iconst 41 F dX12_pour_40 rfl ?_
            refine kx_icmp_eq 44 F 54 dX12_pour_41 (by decide) rfl (by omega) (by decide) (fun h_20 => ?_) (fun h_20 => ?_)
            · refine kx_aload_n 55 F 0 dX12_pour_54 rfl rfl rfl ?_
              refine kx_iconst 56 F dX12_pour_55 rfl ?_
              refine kx_Vi 59 (ci := 0) F (As := [vI 2]) (st := []) vd_X12_130 (c_X12_is G l M c0 2 hI_M hk_c0 (by omega)) hk_c0 rfl rfl rfl ⟨by decide, by decide⟩ rfl rfl (Nat.le_of_ble_eq_true rfl) dX12_pour_56 rfl ?_
              intro r_21 N_22 q_23
              obtain ⟨hI_N_22, hG_N_22, q_23c⟩ := q_23
              have hF_N_22 : Fr f_c_X12_pour M N_22 := Fr.c hF_M hG_N_22 rfl
              rcases q_23c with q_23c | q_23c
              · exfalso; omega
              · exact kx_zret F hQ (by omega) ⟨hI_N_22, hF_N_22, (by omega)⟩ dX12_pour_59
            · refine kx_aload_n 45 F 0 dX12_pour_44 rfl rfl rfl ?_
              refine kx_getr 48 F fl_X12_24 hk_c0 rfl rfl (j := 6) rfl dX12_pour_45 (v := (M c0 6)) rfl rfl ?_
              refine kx_iload_n 49 F 3 dX12_pour_48 rfl rfl rfl ?_
              refine kx_iald 50 F hk_18 rfl rfl (by omega) (by decide) dX12_pour_49 (v := (M (M c0 6) a3)) rfl rfl ?_
              have h_24 := Inv.g hI_M hk_18 rfl a3 (a := (-1)) (b := 60) rfl rfl
              refine kx_iconst 51 F dX12_pour_50 rfl ?_
              refine kx_icmp_ne 54 F 60 dX12_pour_51 (by decide) rfl (by omega) (by decide) (fun h_25 => ?_) (fun h_25 => ?_)
              · refine kx_aload_n 61 F 0 dX12_pour_60 rfl rfl rfl ?_
                refine kx_getr 64 F fl_X12_21 hk_c0 rfl rfl (j := 5) rfl dX12_pour_61 (v := (M c0 5)) rfl rfl ?_
                have hk_26 : kd (M c0 5) = 67 := Inv.r hI_M hk_c0 rfl 5 rfl rfl
                refine kx_iload_n 65 F 1 dX12_pour_64 rfl rfl rfl ?_
                refine kx_iald 66 F hk_26 rfl rfl (by omega) (by decide) dX12_pour_65 (v := (M (M c0 5) a1)) rfl rfl ?_
                have h_27 := Inv.g hI_M hk_26 rfl a1 (a := 0) (b := 3) rfl rfl
                refine kx_aload_n 67 F 0 dX12_pour_66 rfl rfl rfl ?_
                refine kx_getr 70 F fl_X12_21 hk_c0 rfl rfl (j := 5) rfl dX12_pour_67 (v := (M c0 5)) rfl rfl ?_
                refine kx_iload_n 71 F 3 dX12_pour_70 rfl rfl rfl ?_
                refine kx_iald 72 F hk_26 rfl rfl (by omega) (by decide) dX12_pour_71 (v := (M (M c0 5) a3)) rfl rfl ?_
                have h_28 := Inv.g hI_M hk_26 rfl a3 (a := 0) (b := 3) rfl rfl
                refine kx_icmp_eq 75 F 82 dX12_pour_72 (by decide) rfl (by omega) (by omega) (fun h_29 => ?_) (fun h_29 => ?_)
                · refine kx_iload 84 F 5 dX12_pour_82 rfl rfl ?_
                  refine kx_aload_n 85 F 0 dX12_pour_84 rfl rfl rfl ?_
                  refine kx_getr 88 F fl_X12_24 hk_c0 rfl rfl (j := 6) rfl dX12_pour_85 (v := (M c0 6)) rfl rfl ?_
                  refine kx_iload_n 89 F 1 dX12_pour_88 rfl rfl rfl ?_
                  refine kx_iald 90 F hk_18 rfl rfl (by omega) (by decide) dX12_pour_89 (v := (M (M c0 6) a1)) rfl rfl ?_
                  refine kx_iload_n 91 F 2 dX12_pour_90 rfl rfl rfl ?_
                  refine kx_isub 92 F (v := (M (M c0 6) a1) - a2) dX12_pour_91 rfl rfl ?_
                  refine kx_icmp_gt 95 F 109 dX12_pour_92 (by decide) rfl (by omega) (by omega) (fun h_30 => ?_) (fun h_30 => ?_)
                  · refine kx_aload_n 110 F 0 dX12_pour_109 rfl rfl rfl ?_
                    refine kx_iconst 111 F dX12_pour_110 rfl ?_
                    refine kx_Vi 114 (ci := 0) F (As := [vI 3]) (st := []) vd_X12_130 (c_X12_is G l M c0 3 hI_M hk_c0 (by omega)) hk_c0 rfl rfl rfl ⟨by decide, by decide⟩ rfl rfl (Nat.le_of_ble_eq_true rfl) dX12_pour_111 rfl ?_
                    intro r_31 N_32 q_33
                    obtain ⟨hI_N_32, hG_N_32, q_33c⟩ := q_33
                    have hF_N_32 : Fr f_c_X12_pour M N_32 := Fr.c hF_M hG_N_32 rfl
                    rcases q_33c with q_33c | q_33c
                    · exfalso; omega
                    · exact kx_zret F hQ (by omega) ⟨hI_N_32, hF_N_32, (by omega)⟩ dX12_pour_114
                  · refine kx_iload 97 F 5 dX12_pour_95 rfl rfl ?_
                    refine kx_aload_n 98 F 0 dX12_pour_97 rfl rfl rfl ?_
                    refine kx_getr 101 F fl_X12_24 hk_c0 rfl rfl (j := 6) rfl dX12_pour_98 (v := (M c0 6)) rfl rfl ?_
                    refine kx_iload_n 102 F 3 dX12_pour_101 rfl rfl rfl ?_
                    refine kx_iald 103 F hk_18 rfl rfl (by omega) (by decide) dX12_pour_102 (v := (M (M c0 6) a3)) rfl rfl ?_
                    refine kx_iload 105 F 4 dX12_pour_103 rfl rfl ?_
                    refine kx_isub 106 F (v := (M (M c0 6) a3) - a4) dX12_pour_105 rfl rfl ?_
                    refine kx_icmp_le 109 F 115 dX12_pour_106 (by decide) rfl (by omega) (by omega) (fun h_34 => ?_) (fun h_34 => ?_)
                    · refine kx_iconst 116 F dX12_pour_115 rfl ?_
                      refine kx_istore 118 F 6 (lo' := [some (vR G c0), some (vI a1), some (vI a2), some (vI a3), some (vI a4), some (vI a5), some (vI 0), none]) dX12_pour_116 (by decide) rfl rfl rfl ?_
                      have L_128 : ∀ (n_129 : Nat) (x6_126 : Int) (N_127 : Mem), Inv true N_127 → Fr f_c_X12_pour M N_127 → 0 ≤ x6_126 ∧ x6_126 ≤ 60 → (60 - (x6_126)).toNat = n_129 → KJ true G X N_127 118 [some (vR G c0), some (vI a1), some (vI a2), some (vI a3), some (vI a4), some (vI a5), some (vI x6_126), none] [] := by
                        intro n_129
                        refine Nat.strongRecOn n_129 ?_
                        intro n_129 ih_130 x6_126 N_127 hI_N_127 hF_N_127 h_131 hm_132
                        refine kx_iload 120 F 6 dX12_pour_118 rfl rfl ?_
                        refine kx_iload 122 F 5 dX12_pour_120 rfl rfl ?_
                        refine kx_icmp_ge 125 F 180 dX12_pour_122 (by decide) rfl (by omega) (by omega) (fun h_133 => ?_) (fun h_133 => ?_)
                        · refine kx_aload_n 181 F 0 dX12_pour_180 rfl rfl rfl ?_
                          refine kx_iconst 182 F dX12_pour_181 rfl ?_
                          refine kx_Vi 185 (ci := 0) F (As := [vI 0]) (st := []) vd_X12_130 (c_X12_is G l N_127 c0 0 hI_N_127 hk_c0 (by omega)) hk_c0 rfl rfl rfl ⟨by decide, by decide⟩ rfl rfl (Nat.le_of_ble_eq_true rfl) dX12_pour_182 rfl ?_
                          intro r_134 N_135 q_136
                          obtain ⟨hI_N_135, hG_N_135, q_136c⟩ := q_136
                          have hF_N_135 : Fr f_c_X12_pour M N_135 := Fr.c hF_N_127 hG_N_135 rfl
                          rcases q_136c with q_136c | q_136c
                          · exact kx_zret F hQ (by omega) ⟨hI_N_135, hF_N_135, (by omega)⟩ dX12_pour_185
                          · exact kx_zret F hQ (by omega) ⟨hI_N_135, hF_N_135, (by omega)⟩ dX12_pour_185
                        · refine kx_iload_n 126 F 2 dX12_pour_125 rfl rfl rfl ?_
                          refine kx_iload 128 F 4 dX12_pour_126 rfl rfl ?_
                          refine kx_icmp_ge 131 F 141 dX12_pour_128 (by decide) rfl (by omega) (by omega) (fun h_137 => ?_) (fun h_137 => ?_)
                          · refine kx_iload 143 F 6 dX12_pour_141 rfl rfl ?_
                            refine kx_istore 145 F 7 (lo' := [some (vR G c0), some (vI a1), some (vI a2), some (vI a3), some (vI a4), some (vI a5), some (vI x6_126), some (vI x6_126)]) dX12_pour_143 (by decide) rfl rfl rfl ?_
                            refine kx_aload_n 146 F 0 dX12_pour_145 rfl rfl rfl ?_
                            refine kx_getr 149 F fl_X12_27 hk_c0 rfl rfl (j := 7) rfl dX12_pour_146 (v := (M c0 7)) (by rw [Fr.e hF_N_127 hk_c0 _ rfl]) rfl ?_
                            have hk_138 : kd (M c0 7) = 69 := Inv.r hI_M hk_c0 rfl 7 rfl rfl
                            refine kx_bipush 151 F dX12_pour_149 (by decide) rfl ?_
                            refine kx_iload_n 152 F 3 dX12_pour_151 rfl rfl rfl ?_
                            refine kx_imul 153 F (v := 60 * a3) dX12_pour_152 (by omega) rfl ?_
                            refine kx_iload 155 F 4 dX12_pour_153 rfl rfl ?_
                            refine kx_iadd 156 F (v := 60 * a3 + a4) dX12_pour_155 rfl rfl ?_
                            refine kx_iload 158 F 7 dX12_pour_156 rfl rfl ?_
                            refine kx_iadd 159 F (v := 60 * a3 + a4 + x6_126) dX12_pour_158 rfl rfl ?_
                            refine kx_aload_n 160 F 0 dX12_pour_159 rfl rfl rfl ?_
                            refine kx_getr 163 F fl_X12_27 hk_c0 rfl rfl (j := 7) rfl dX12_pour_160 (v := (M c0 7)) (by rw [Fr.e hF_N_127 hk_c0 _ rfl]) rfl ?_
                            refine kx_bipush 165 F dX12_pour_163 (by decide) rfl ?_
                            refine kx_iload_n 166 F 1 dX12_pour_165 rfl rfl rfl ?_
                            refine kx_imul 167 F (v := 60 * a1) dX12_pour_166 (by omega) rfl ?_
                            refine kx_iload_n 168 F 2 dX12_pour_167 rfl rfl rfl ?_
                            refine kx_iadd 169 F (v := 60 * a1 + a2) dX12_pour_168 rfl rfl ?_
                            refine kx_iload 171 F 7 dX12_pour_169 rfl rfl ?_
                            refine kx_iadd 172 F (v := 60 * a1 + a2 + x6_126) dX12_pour_171 rfl rfl ?_
                            refine kx_lald 173 F hk_138 rfl rfl (by omega) (by decide) dX12_pour_172 (v := (N_127 (M c0 7) (60 * a1 + a2 + x6_126))) rfl rfl ?_
                            have h_139 := Inv.g hI_N_127 hk_138 rfl (60 * a1 + a2 + x6_126) (a := (-9223372036854775808)) (b := 9223372036854775807) rfl rfl
                            refine kx_last 174 F hk_138 rfl rfl (by omega) (by decide) dX12_pour_173 rfl ?_
                            intro N_140 hM_N_140
                            have hI_N_140 : Inv true N_140 := Inv.u hI_N_127 hM_N_140 hk_138 (a := (-9223372036854775808)) (b := 9223372036854775807) rfl rfl rfl (by omega)
                            have hF_N_140 : Fr f_c_X12_pour M N_140 := Fr.u hF_N_127 hM_N_140 hk_138 rfl
                            refine kx_iinc 177 F 6 (v := x6_126 + 1) (lo' := [some (vR G c0), some (vI a1), some (vI a2), some (vI a3), some (vI a4), some (vI a5), some (vI (x6_126 + 1)), some (vI x6_126)]) dX12_pour_174 rfl (by omega) (by decide) rfl rfl rfl ?_
                            refine kx_goto 118 F dX12_pour_177 (by decide) ?_
                            refine kx_drop 7 (lo' := [some (vR G c0), some (vI a1), some (vI a2), some (vI a3), some (vI a4), some (vI a5), some (vI (x6_126 + 1)), none]) rfl ?_
                            exact ih_130 _ (by omega) (x6_126 + 1) N_140 hI_N_140 hF_N_140 (by omega) rfl
                          · refine kx_iload 133 F 5 dX12_pour_131 rfl rfl ?_
                            refine kx_iconst 134 F dX12_pour_133 rfl ?_
                            refine kx_isub 135 F (v := a5 - 1) dX12_pour_134 rfl rfl ?_
                            refine kx_iload 137 F 6 dX12_pour_135 rfl rfl ?_
                            refine kx_isub 138 F (v := a5 - x6_126 - 1) dX12_pour_137 (by omega) rfl ?_
                            refine kx_goto 143 F dX12_pour_138 (by decide) ?_
                            refine kx_istore 145 F 7 (lo' := [some (vR G c0), some (vI a1), some (vI a2), some (vI a3), some (vI a4), some (vI a5), some (vI x6_126), some (vI (a5 - x6_126 - 1))]) dX12_pour_143 (by decide) rfl rfl rfl ?_
                            refine kx_aload_n 146 F 0 dX12_pour_145 rfl rfl rfl ?_
                            refine kx_getr 149 F fl_X12_27 hk_c0 rfl rfl (j := 7) rfl dX12_pour_146 (v := (M c0 7)) (by rw [Fr.e hF_N_127 hk_c0 _ rfl]) rfl ?_
                            have hk_141 : kd (M c0 7) = 69 := Inv.r hI_M hk_c0 rfl 7 rfl rfl
                            refine kx_bipush 151 F dX12_pour_149 (by decide) rfl ?_
                            refine kx_iload_n 152 F 3 dX12_pour_151 rfl rfl rfl ?_
                            refine kx_imul 153 F (v := 60 * a3) dX12_pour_152 (by omega) rfl ?_
                            refine kx_iload 155 F 4 dX12_pour_153 rfl rfl ?_
                            refine kx_iadd 156 F (v := 60 * a3 + a4) dX12_pour_155 rfl rfl ?_
                            refine kx_iload 158 F 7 dX12_pour_156 rfl rfl ?_
                            refine kx_iadd 159 F (v := 60 * a3 + a4 + a5 - x6_126 - 1) dX12_pour_158 (by omega) rfl ?_
                            refine kx_aload_n 160 F 0 dX12_pour_159 rfl rfl rfl ?_
                            refine kx_getr 163 F fl_X12_27 hk_c0 rfl rfl (j := 7) rfl dX12_pour_160 (v := (M c0 7)) (by rw [Fr.e hF_N_127 hk_c0 _ rfl]) rfl ?_
                            refine kx_bipush 165 F dX12_pour_163 (by decide) rfl ?_
                            refine kx_iload_n 166 F 1 dX12_pour_165 rfl rfl rfl ?_
                            refine kx_imul 167 F (v := 60 * a1) dX12_pour_166 (by omega) rfl ?_
                            refine kx_iload_n 168 F 2 dX12_pour_167 rfl rfl rfl ?_
                            refine kx_iadd 169 F (v := 60 * a1 + a2) dX12_pour_168 rfl rfl ?_
                            refine kx_iload 171 F 7 dX12_pour_169 rfl rfl ?_
                            refine kx_iadd 172 F (v := 60 * a1 + a2 + a5 - x6_126 - 1) dX12_pour_171 (by omega) rfl ?_
                            refine kx_lald 173 F hk_141 rfl rfl (by omega) (by decide) dX12_pour_172 (v := (N_127 (M c0 7) (60 * a1 + a2 + a5 - x6_126 - 1))) rfl rfl ?_
                            have h_142 := Inv.g hI_N_127 hk_141 rfl (60 * a1 + a2 + a5 - x6_126 - 1) (a := (-9223372036854775808)) (b := 9223372036854775807) rfl rfl
                            refine kx_last 174 F hk_141 rfl rfl (by omega) (by decide) dX12_pour_173 rfl ?_
                            intro N_143 hM_N_143
                            have hI_N_143 : Inv true N_143 := Inv.u hI_N_127 hM_N_143 hk_141 (a := (-9223372036854775808)) (b := 9223372036854775807) rfl rfl rfl (by omega)
                            have hF_N_143 : Fr f_c_X12_pour M N_143 := Fr.u hF_N_127 hM_N_143 hk_141 rfl
                            refine kx_iinc 177 F 6 (v := x6_126 + 1) (lo' := [some (vR G c0), some (vI a1), some (vI a2), some (vI a3), some (vI a4), some (vI a5), some (vI (x6_126 + 1)), some (vI (a5 - x6_126 - 1))]) dX12_pour_174 rfl (by omega) (by decide) rfl rfl rfl ?_
                            refine kx_goto 118 F dX12_pour_177 (by decide) ?_
                            refine kx_drop 7 (lo' := [some (vR G c0), some (vI a1), some (vI a2), some (vI a3), some (vI a4), some (vI a5), some (vI (x6_126 + 1)), none]) rfl ?_
                            exact ih_130 _ (by omega) (x6_126 + 1) N_143 hI_N_143 hF_N_143 (by omega) rfl
                      exact L_128 _ 0 M hI_M hF_M (by omega) rfl
                    · refine kx_aload_n 110 F 0 dX12_pour_109 rfl rfl rfl ?_
                      refine kx_iconst 111 F dX12_pour_110 rfl ?_
                      refine kx_Vi 114 (ci := 0) F (As := [vI 3]) (st := []) vd_X12_130 (c_X12_is G l M c0 3 hI_M hk_c0 (by omega)) hk_c0 rfl rfl rfl ⟨by decide, by decide⟩ rfl rfl (Nat.le_of_ble_eq_true rfl) dX12_pour_111 rfl ?_
                      intro r_144 N_145 q_146
                      obtain ⟨hI_N_145, hG_N_145, q_146c⟩ := q_146
                      have hF_N_145 : Fr f_c_X12_pour M N_145 := Fr.c hF_M hG_N_145 rfl
                      rcases q_146c with q_146c | q_146c
                      · exfalso; omega
                      · exact kx_zret F hQ (by omega) ⟨hI_N_145, hF_N_145, (by omega)⟩ dX12_pour_114
                · refine kx_aload_n 76 F 0 dX12_pour_75 rfl rfl rfl ?_
                  refine kx_bipush 78 F dX12_pour_76 (by decide) rfl ?_
                  refine kx_Vi 81 (ci := 0) F (As := [vI 8]) (st := []) vd_X12_130 (c_X12_is G l M c0 8 hI_M hk_c0 (by omega)) hk_c0 rfl rfl rfl ⟨by decide, by decide⟩ rfl rfl (Nat.le_of_ble_eq_true rfl) dX12_pour_78 rfl ?_
                  intro r_147 N_148 q_149
                  obtain ⟨hI_N_148, hG_N_148, q_149c⟩ := q_149
                  have hF_N_148 : Fr f_c_X12_pour M N_148 := Fr.c hF_M hG_N_148 rfl
                  rcases q_149c with q_149c | q_149c
                  · exfalso; omega
                  · exact kx_zret F hQ (by omega) ⟨hI_N_148, hF_N_148, (by omega)⟩ dX12_pour_81
              · refine kx_aload_n 55 F 0 dX12_pour_54 rfl rfl rfl ?_
                refine kx_iconst 56 F dX12_pour_55 rfl ?_
                refine kx_Vi 59 (ci := 0) F (As := [vI 2]) (st := []) vd_X12_130 (c_X12_is G l M c0 2 hI_M hk_c0 (by omega)) hk_c0 rfl rfl rfl ⟨by decide, by decide⟩ rfl rfl (Nat.le_of_ble_eq_true rfl) dX12_pour_56 rfl ?_
                intro r_150 N_151 q_152
                obtain ⟨hI_N_151, hG_N_151, q_152c⟩ := q_152
                have hF_N_151 : Fr f_c_X12_pour M N_151 := Fr.c hF_M hG_N_151 rfl
                rcases q_152c with q_152c | q_152c
                · exfalso; omega
                · exact kx_zret F hQ (by omega) ⟨hI_N_151, hF_N_151, (by omega)⟩ dX12_pour_59
          · refine kx_aload_n 29 F 0 dX12_pour_28 rfl rfl rfl ?_
            refine kx_iconst 30 F dX12_pour_29 rfl ?_
            refine kx_Vi 33 (ci := 0) F (As := [vI 1]) (st := []) vd_X12_130 (c_X12_is G l M c0 1 hI_M hk_c0 (by omega)) hk_c0 rfl rfl rfl ⟨by decide, by decide⟩ rfl rfl (Nat.le_of_ble_eq_true rfl) dX12_pour_30 rfl ?_
            intro r_153 N_154 q_155
            obtain ⟨hI_N_154, hG_N_154, q_155c⟩ := q_155
            have hF_N_154 : Fr f_c_X12_pour M N_154 := Fr.c hF_M hG_N_154 rfl
            rcases q_155c with q_155c | q_155c
            · exfalso; omega
            · exact kx_zret F hQ (by omega) ⟨hI_N_154, hF_N_154, (by omega)⟩ dX12_pour_33
    · refine kx_if_eq 14 F 28 dX12_pour_11 (by decide) rfl (by omega) (fun h_156 => ?_) (fun h_156 => (by exfalso; omega))
      refine kx_aload_n 29 F 0 dX12_pour_28 rfl rfl rfl ?_
      refine kx_iconst 30 F dX12_pour_29 rfl ?_
      refine kx_Vi 33 (ci := 0) F (As := [vI 1]) (st := []) vd_X12_130 (c_X12_is G l M c0 1 hI_M hk_c0 (by omega)) hk_c0 rfl rfl rfl ⟨by decide, by decide⟩ rfl rfl (Nat.le_of_ble_eq_true rfl) dX12_pour_30 rfl ?_
      intro r_157 N_158 q_159
      obtain ⟨hI_N_158, hG_N_158, q_159c⟩ := q_159
      have hF_N_158 : Fr f_c_X12_pour M N_158 := Fr.c hF_M hG_N_158 rfl
      rcases q_159c with q_159c | q_159c
      · exfalso; omega
      · exact kx_zret F hQ (by omega) ⟨hI_N_158, hF_N_158, (by omega)⟩ dX12_pour_33
  · refine kx_if_eq 7 F 28 dX12_pour_4 (by decide) rfl (by omega) (fun h_160 => ?_) (fun h_160 => (by exfalso; omega))
    refine kx_aload_n 29 F 0 dX12_pour_28 rfl rfl rfl ?_
    refine kx_iconst 30 F dX12_pour_29 rfl ?_
    refine kx_Vi 33 (ci := 0) F (As := [vI 1]) (st := []) vd_X12_130 (c_X12_is G l M c0 1 hI_M hk_c0 (by omega)) hk_c0 rfl rfl rfl ⟨by decide, by decide⟩ rfl rfl (Nat.le_of_ble_eq_true rfl) dX12_pour_30 rfl ?_
    intro r_161 N_162 q_163
    obtain ⟨hI_N_162, hG_N_162, q_163c⟩ := q_163
    have hF_N_162 : Fr f_c_X12_pour M N_162 := Fr.c hF_M hG_N_162 rfl
    rcases q_163c with q_163c | q_163c
    · exfalso; omega
    · exact kx_zret F hQ (by omega) ⟨hI_N_162, hF_N_162, (by omega)⟩ dX12_pour_33
theorem dX12_isFrom_0 : decode cX12_isFrom 0 = .ok (.lload_n 0, 1) := by decide +kernel
theorem dX12_isFrom_1 : decode cX12_isFrom 1 = .ok (.lload_n 2, 1) := by decide +kernel
theorem dX12_isFrom_2 : decode cX12_isFrom 2 = .ok (.lcmp, 1) := by decide +kernel
theorem dX12_isFrom_3 : decode cX12_isFrom 3 = .ok (.ifCond .lt 14, 3) := by decide +kernel
theorem dX12_isFrom_6 : decode cX12_isFrom 6 = .ok (.lload_n 0, 1) := by decide +kernel
theorem dX12_isFrom_7 : decode cX12_isFrom 7 = .ok (.lload 4, 2) := by decide +kernel
theorem dX12_isFrom_9 : decode cX12_isFrom 9 = .ok (.lcmp, 1) := by decide +kernel
theorem dX12_isFrom_10 : decode cX12_isFrom 10 = .ok (.ifCond .gt 7, 3) := by decide +kernel
theorem dX12_isFrom_13 : decode cX12_isFrom 13 = .ok (.iconst 1, 1) := by decide +kernel
theorem dX12_isFrom_14 : decode cX12_isFrom 14 = .ok (.goto 4, 3) := by decide +kernel
theorem dX12_isFrom_17 : decode cX12_isFrom 17 = .ok (.iconst 0, 1) := by decide +kernel
theorem dX12_isFrom_18 : decode cX12_isFrom 18 = .ok (.ireturn, 1) := by decide +kernel
set_option maxHeartbeats 4000000 in
set_option maxRecDepth 100000 in
theorem c_X12_isFrom (G : KG) (l : Launch) (M : Mem) (a0 : Int) (a1 : Int) (a2 : Int) (hI_M : Inv true M) (hpre : -9223372036854775808 ≤ a0 ∧ a0 ≤ 9223372036854775807 ∧ -9223372036854775808 ≤ a1 ∧ a1 ≤ 9223372036854775807 ∧ -9223372036854775808 ≤ a2 ∧ a2 ≤ 9223372036854775807) : KC true G l yX12_isFrom cX12_isFrom 6 (some .boolean) (0, 0) [vL a0, vL a1, vL a2] M (fun A => kQi true G A (fun (r : Int) (N : Mem) => M = N ∧ ((r = 1 ∧ a1 ≤ a0 ∧ a0 ≤ a2) ∨ (r = 0)))) := by
  refine kx_met (lo := [some (vL a0), none, some (vL a1), none, some (vL a2), none]) (by decide) (Nat.le_of_ble_eq_true rfl) rfl ?_
  intro X F hQ
  refine kx_lload_n 1 F 0 dX12_isFrom_0 rfl rfl rfl ?_
  refine kx_lload_n 2 F 2 dX12_isFrom_1 rfl rfl rfl ?_
  refine kx_lcmp 3 F dX12_isFrom_2 (by omega) (by omega) rfl (fun w_1 h_2 => ?_)
  refine kx_if_lt 6 F 17 dX12_isFrom_3 (by decide) rfl (by omega) (fun h_3 => ?_) (fun h_3 => ?_)
  · refine kx_iconst 18 F dX12_isFrom_17 rfl ?_
    exact kx_zret F hQ (by omega) ⟨rfl, (by omega)⟩ dX12_isFrom_18
  · refine kx_lload_n 7 F 0 dX12_isFrom_6 rfl rfl rfl ?_
    refine kx_lload 9 F 4 dX12_isFrom_7 rfl rfl ?_
    refine kx_lcmp 10 F dX12_isFrom_9 (by omega) (by omega) rfl (fun w_4 h_5 => ?_)
    refine kx_if_gt 13 F 17 dX12_isFrom_10 (by decide) rfl (by omega) (fun h_6 => ?_) (fun h_6 => ?_)
    · refine kx_iconst 18 F dX12_isFrom_17 rfl ?_
      exact kx_zret F hQ (by omega) ⟨rfl, (by omega)⟩ dX12_isFrom_18
    · refine kx_iconst 14 F dX12_isFrom_13 rfl ?_
      refine kx_goto 18 F dX12_isFrom_14 (by decide) ?_
      exact kx_zret F hQ (by omega) ⟨rfl, (by omega)⟩ dX12_isFrom_18
theorem dX12_four_0 : decode cX12_four 0 = .ok (.bipush 24, 2) := by decide +kernel
theorem dX12_four_2 : decode cX12_four 2 = .ok (.istore_n 2, 1) := by decide +kernel
theorem dX12_four_3 : decode cX12_four 3 = .ok (.iload_n 2, 1) := by decide +kernel
theorem dX12_four_4 : decode cX12_four 4 = .ok (.ifCond .lt 32, 3) := by decide +kernel
theorem dX12_four_7 : decode cX12_four 7 = .ok (.aload_n 0, 1) := by decide +kernel
theorem dX12_four_8 : decode cX12_four 8 = .ok (.getfield 30, 3) := by decide +kernel
theorem dX12_four_11 : decode cX12_four 11 = .ok (.aload_n 0, 1) := by decide +kernel
theorem dX12_four_12 : decode cX12_four 12 = .ok (.getfield 147, 3) := by decide +kernel
theorem dX12_four_15 : decode cX12_four 15 = .ok (.iload_n 1, 1) := by decide +kernel
theorem dX12_four_16 : decode cX12_four 16 = .ok (.iload_n 2, 1) := by decide +kernel
theorem dX12_four_17 : decode cX12_four 17 = .ok (.ishr, 1) := by decide +kernel
theorem dX12_four_18 : decode cX12_four 18 = .ok (.i2b, 1) := by decide +kernel
theorem dX12_four_19 : decode cX12_four 19 = .ok (.bastore, 1) := by decide +kernel
theorem dX12_four_20 : decode cX12_four 20 = .ok (.aload_n 0, 1) := by decide +kernel
theorem dX12_four_21 : decode cX12_four 21 = .ok (.dup, 1) := by decide +kernel
theorem dX12_four_22 : decode cX12_four 22 = .ok (.getfield 147, 3) := by decide +kernel
theorem dX12_four_25 : decode cX12_four 25 = .ok (.iconst 1, 1) := by decide +kernel
theorem dX12_four_26 : decode cX12_four 26 = .ok (.iadd, 1) := by decide +kernel
theorem dX12_four_27 : decode cX12_four 27 = .ok (.putfield 147, 3) := by decide +kernel
theorem dX12_four_30 : decode cX12_four 30 = .ok (.iinc 2 (-8), 3) := by decide +kernel
theorem dX12_four_33 : decode cX12_four 33 = .ok (.goto (-30), 3) := by decide +kernel
theorem dX12_four_36 : decode cX12_four 36 = .ok (.return_, 1) := by decide +kernel
abbrev f_c_X12_four : List (Nat × Int) := [(64, 10), (70, -1)]
set_option maxHeartbeats 4000000 in
set_option maxRecDepth 100000 in
theorem c_X12_four (G : KG) (l : Launch) (M : Mem) (c0 : Int) (a1 : Int) (hI_M : Inv true M) (hk_c0 : kd c0 = 64) (hpre : -2147483648 ≤ a1 ∧ a1 ≤ 2147483647 ∧ (M c0 10) ≤ 896) : KC true G l yX12_four cX12_four 3 none (0, 0) [vR G c0, vI a1] M (fun A => kQv true G A (fun (N : Mem) => Inv true N ∧ Fr f_c_X12_four M N ∧ ((N c0 10) = (M c0 10) + 4))) := by
  refine kx_met (lo := [some (vR G c0), some (vI a1), none]) (by decide) (Nat.le_of_ble_eq_true rfl) rfl ?_
  intro X F hQ
  have hF_M : Fr f_c_X12_four M M := Fr.rf _ _
  have h_1 := Inv.g hI_M hk_c0 rfl 10 (a := 0) (b := 900) rfl rfl
  refine kx_bipush 2 F dX12_four_0 (by decide) rfl ?_
  refine kx_istore_n 3 F 2 (lo' := [some (vR G c0), some (vI a1), some (vI 24)]) dX12_four_2 rfl (by decide) rfl rfl rfl ?_
  have L_66 : ∀ (n_67 : Nat) (x2_64 : Int) (N_65 : Mem), Inv true N_65 → Fr f_c_X12_four M N_65 → (-8) ≤ x2_64 ∧ x2_64 ≤ 24 ∧ 8 * (N_65 c0 10) + x2_64 = 8 * (M c0 10) + 24 → ((x2_64) - (-8)).toNat = n_67 → KJ true G X N_65 3 [some (vR G c0), some (vI a1), some (vI x2_64)] [] := by
    intro n_67
    refine Nat.strongRecOn n_67 ?_
    intro n_67 ih_68 x2_64 N_65 hI_N_65 hF_N_65 h_69 hm_70
    refine kx_iload_n 4 F 2 dX12_four_3 rfl rfl rfl ?_
    refine kx_if_lt 7 F 36 dX12_four_4 (by decide) rfl (by omega) (fun h_71 => ?_) (fun h_71 => ?_)
    · have h_72 := Inv.g hI_N_65 hk_c0 rfl 10 (a := 0) (b := 900) rfl rfl
      exact kx_vret F hQ ⟨hI_N_65, hF_N_65, (by omega)⟩ dX12_four_36
    · refine kx_aload_n 8 F 0 dX12_four_7 rfl rfl rfl ?_
      refine kx_getr 11 F fl_X12_30 hk_c0 rfl rfl (j := 8) rfl dX12_four_8 (v := (M c0 8)) (by rw [Fr.e hF_N_65 hk_c0 _ rfl]) rfl ?_
      have hk_73 : kd (M c0 8) = 70 := Inv.r hI_M hk_c0 rfl 8 rfl rfl
      refine kx_aload_n 12 F 0 dX12_four_11 rfl rfl rfl ?_
      refine kx_geti 15 F fl_X12_147 hk_c0 rfl rfl (j := 10) rfl dX12_four_12 (v := (N_65 c0 10)) rfl rfl ?_
      have h_74 := Inv.g hI_N_65 hk_c0 rfl 10 (a := 0) (b := 900) rfl rfl
      refine kx_iload_n 16 F 1 dX12_four_15 rfl rfl rfl ?_
      refine kx_iload_n 17 F 2 dX12_four_16 rfl rfl rfl ?_
      refine kx_ishr 18 F (v := (zshr a1 x2_64)) dX12_four_17 rfl rfl ?_
      have h_75 := zshr_rng a1 x2_64
      refine kx_i2b 19 F dX12_four_18 rfl (fun w_76 h_77 _ => ?_)
      refine kx_bast 20 F (by omega) hk_73 rfl rfl (by omega) (by decide) dX12_four_19 rfl ?_
      intro N_78 hM_N_78
      have hI_N_78 : Inv true N_78 := Inv.u hI_N_65 hM_N_78 hk_73 (a := (-128)) (b := 127) rfl rfl rfl (by omega)
      have hF_N_78 : Fr f_c_X12_four M N_78 := Fr.u hF_N_65 hM_N_78 hk_73 rfl
      refine kx_aload_n 21 F 0 dX12_four_20 rfl rfl rfl ?_
      refine kx_dup 22 F dX12_four_21 rfl rfl ?_
      refine kx_geti 25 F fl_X12_147 hk_c0 rfl rfl (j := 10) rfl dX12_four_22 (v := (N_65 c0 10)) (by rw [hM_N_78, mu_k hk_c0 hk_73 rfl]) rfl ?_
      refine kx_iconst 26 F dX12_four_25 rfl ?_
      refine kx_iadd 27 F (v := (N_65 c0 10) + 1) dX12_four_26 rfl rfl ?_
      refine kx_puti 30 F fw_X12_147 rfl hk_c0 rfl rfl (j := 10) rfl dX12_four_27 rfl ?_
      intro N_79 hM_N_79
      have hI_N_79 : Inv true N_79 := Inv.u hI_N_78 hM_N_79 hk_c0 (a := 0) (b := 900) rfl rfl rfl (by omega)
      have hF_N_79 : Fr f_c_X12_four M N_79 := Fr.u hF_N_78 hM_N_79 hk_c0 rfl
      refine kx_iinc 33 F 2 (v := x2_64 - 8) (lo' := [some (vR G c0), some (vI a1), some (vI (x2_64 - 8))]) dX12_four_30 rfl (by omega) (by decide) rfl rfl rfl ?_
      refine kx_goto 3 F dX12_four_33 (by decide) ?_
      have e_80 : (N_79 c0 10) = (N_65 c0 10) + 1 := by rw [hM_N_79, mu_s]
      exact ih_68 _ (by omega) (x2_64 - 8) N_79 hI_N_79 hF_N_79 (by omega) rfl
  exact L_66 _ 24 M hI_M hF_M (by omega) rfl
theorem dX12_feed_0 : decode cX12_feed 0 = .ok (.aload_n 0, 1) := by decide +kernel
theorem dX12_feed_1 : decode cX12_feed 1 = .ok (.getfield 147, 3) := by decide +kernel
theorem dX12_feed_4 : decode cX12_feed 4 = .ok (.bipush 20, 2) := by decide +kernel
theorem dX12_feed_6 : decode cX12_feed 6 = .ok (.iadd, 1) := by decide +kernel
theorem dX12_feed_7 : decode cX12_feed 7 = .ok (.sipush 900, 3) := by decide +kernel
theorem dX12_feed_10 : decode cX12_feed 10 = .ok (.if_icmp .le 5, 3) := by decide +kernel
theorem dX12_feed_13 : decode cX12_feed 13 = .ok (.iconst (-1), 1) := by decide +kernel
theorem dX12_feed_14 : decode cX12_feed 14 = .ok (.ireturn, 1) := by decide +kernel
theorem dX12_feed_15 : decode cX12_feed 15 = .ok (.aload_n 0, 1) := by decide +kernel
theorem dX12_feed_16 : decode cX12_feed 16 = .ok (.iload_n 1, 1) := by decide +kernel
theorem dX12_feed_17 : decode cX12_feed 17 = .ok (.invokevirtual 150, 3) := by decide +kernel
theorem dX12_feed_20 : decode cX12_feed 20 = .ok (.aload_n 0, 1) := by decide +kernel
theorem dX12_feed_21 : decode cX12_feed 21 = .ok (.iload_n 2, 1) := by decide +kernel
theorem dX12_feed_22 : decode cX12_feed 22 = .ok (.invokevirtual 150, 3) := by decide +kernel
theorem dX12_feed_25 : decode cX12_feed 25 = .ok (.aload_n 0, 1) := by decide +kernel
theorem dX12_feed_26 : decode cX12_feed 26 = .ok (.iload_n 3, 1) := by decide +kernel
theorem dX12_feed_27 : decode cX12_feed 27 = .ok (.invokevirtual 150, 3) := by decide +kernel
theorem dX12_feed_30 : decode cX12_feed 30 = .ok (.aload_n 0, 1) := by decide +kernel
theorem dX12_feed_31 : decode cX12_feed 31 = .ok (.iload 4, 2) := by decide +kernel
theorem dX12_feed_33 : decode cX12_feed 33 = .ok (.invokevirtual 150, 3) := by decide +kernel
theorem dX12_feed_36 : decode cX12_feed 36 = .ok (.aload_n 0, 1) := by decide +kernel
theorem dX12_feed_37 : decode cX12_feed 37 = .ok (.iload 5, 2) := by decide +kernel
theorem dX12_feed_39 : decode cX12_feed 39 = .ok (.invokevirtual 150, 3) := by decide +kernel
theorem dX12_feed_42 : decode cX12_feed 42 = .ok (.aload_n 0, 1) := by decide +kernel
theorem dX12_feed_43 : decode cX12_feed 43 = .ok (.getfield 147, 3) := by decide +kernel
theorem dX12_feed_46 : decode cX12_feed 46 = .ok (.ireturn, 1) := by decide +kernel
abbrev f_c_X12_feed : List (Nat × Int) := [(64, 10), (70, -1)]
set_option maxHeartbeats 4000000 in
set_option maxRecDepth 100000 in
theorem c_X12_feed (G : KG) (l : Launch) (M : Mem) (c0 : Int) (a1 : Int) (a2 : Int) (a3 : Int) (a4 : Int) (a5 : Int) (hI_M : Inv true M) (hk_c0 : kd c0 = 64) (hpre : -2147483648 ≤ a1 ∧ a1 ≤ 2147483647 ∧ -2147483648 ≤ a2 ∧ a2 ≤ 2147483647 ∧ -2147483648 ≤ a3 ∧ a3 ≤ 2147483647 ∧ -2147483648 ≤ a4 ∧ a4 ≤ 2147483647 ∧ -2147483648 ≤ a5 ∧ a5 ≤ 2147483647) : KC true G l yX12_feed cX12_feed 6 (some .int) (1, 22) [vR G c0, vI a1, vI a2, vI a3, vI a4, vI a5] M (fun A => kQi true G A (fun (r : Int) (N : Mem) => Inv true N ∧ Fr f_c_X12_feed M N ∧ (r ≥ -1 ∧ r ≤ 900))) := by
  refine kx_met (lo := [some (vR G c0), some (vI a1), some (vI a2), some (vI a3), some (vI a4), some (vI a5)]) (by decide) (Nat.le_of_ble_eq_true rfl) rfl ?_
  intro X F hQ
  have hF_M : Fr f_c_X12_feed M M := Fr.rf _ _
  refine kx_aload_n 1 F 0 dX12_feed_0 rfl rfl rfl ?_
  refine kx_geti 4 F fl_X12_147 hk_c0 rfl rfl (j := 10) rfl dX12_feed_1 (v := (M c0 10)) rfl rfl ?_
  have h_1 := Inv.g hI_M hk_c0 rfl 10 (a := 0) (b := 900) rfl rfl
  refine kx_bipush 6 F dX12_feed_4 (by decide) rfl ?_
  refine kx_iadd 7 F (v := (M c0 10) + 20) dX12_feed_6 rfl rfl ?_
  refine kx_sipush 10 F dX12_feed_7 (by decide) rfl ?_
  refine kx_icmp_le 13 F 15 dX12_feed_10 (by decide) rfl (by omega) (by decide) (fun h_2 => ?_) (fun h_2 => ?_)
  · refine kx_aload_n 16 F 0 dX12_feed_15 rfl rfl rfl ?_
    refine kx_iload_n 17 F 1 dX12_feed_16 rfl rfl rfl ?_
    refine kx_Vv 20 (ci := 0) F (As := [vI a1]) (st := []) vd_X12_150 (c_X12_four G l M c0 a1 hI_M hk_c0 (by omega)) hk_c0 rfl rfl rfl ⟨by decide, by decide⟩ rfl rfl (Nat.le_of_ble_eq_true rfl) dX12_feed_17 rfl ?_
    intro N_3 q_4
    obtain ⟨hI_N_3, hG_N_3, q_4c⟩ := q_4
    have hF_N_3 : Fr f_c_X12_feed M N_3 := Fr.c hF_M hG_N_3 rfl
    have h_5 := Inv.g hI_N_3 hk_c0 rfl 10 (a := 0) (b := 900) rfl rfl
    refine kx_aload_n 21 F 0 dX12_feed_20 rfl rfl rfl ?_
    refine kx_iload_n 22 F 2 dX12_feed_21 rfl rfl rfl ?_
    refine kx_Vv 25 (ci := 0) F (As := [vI a2]) (st := []) vd_X12_150 (c_X12_four G l N_3 c0 a2 hI_N_3 hk_c0 (by omega)) hk_c0 rfl rfl rfl ⟨by decide, by decide⟩ rfl rfl (Nat.le_of_ble_eq_true rfl) dX12_feed_22 rfl ?_
    intro N_6 q_7
    obtain ⟨hI_N_6, hG_N_6, q_7c⟩ := q_7
    have hF_N_6 : Fr f_c_X12_feed M N_6 := Fr.c hF_N_3 hG_N_6 rfl
    have h_8 := Inv.g hI_N_6 hk_c0 rfl 10 (a := 0) (b := 900) rfl rfl
    refine kx_aload_n 26 F 0 dX12_feed_25 rfl rfl rfl ?_
    refine kx_iload_n 27 F 3 dX12_feed_26 rfl rfl rfl ?_
    refine kx_Vv 30 (ci := 0) F (As := [vI a3]) (st := []) vd_X12_150 (c_X12_four G l N_6 c0 a3 hI_N_6 hk_c0 (by omega)) hk_c0 rfl rfl rfl ⟨by decide, by decide⟩ rfl rfl (Nat.le_of_ble_eq_true rfl) dX12_feed_27 rfl ?_
    intro N_9 q_10
    obtain ⟨hI_N_9, hG_N_9, q_10c⟩ := q_10
    have hF_N_9 : Fr f_c_X12_feed M N_9 := Fr.c hF_N_6 hG_N_9 rfl
    have h_11 := Inv.g hI_N_9 hk_c0 rfl 10 (a := 0) (b := 900) rfl rfl
    refine kx_aload_n 31 F 0 dX12_feed_30 rfl rfl rfl ?_
    refine kx_iload 33 F 4 dX12_feed_31 rfl rfl ?_
    refine kx_Vv 36 (ci := 0) F (As := [vI a4]) (st := []) vd_X12_150 (c_X12_four G l N_9 c0 a4 hI_N_9 hk_c0 (by omega)) hk_c0 rfl rfl rfl ⟨by decide, by decide⟩ rfl rfl (Nat.le_of_ble_eq_true rfl) dX12_feed_33 rfl ?_
    intro N_12 q_13
    obtain ⟨hI_N_12, hG_N_12, q_13c⟩ := q_13
    have hF_N_12 : Fr f_c_X12_feed M N_12 := Fr.c hF_N_9 hG_N_12 rfl
    have h_14 := Inv.g hI_N_12 hk_c0 rfl 10 (a := 0) (b := 900) rfl rfl
    refine kx_aload_n 37 F 0 dX12_feed_36 rfl rfl rfl ?_
    refine kx_iload 39 F 5 dX12_feed_37 rfl rfl ?_
    refine kx_Vv 42 (ci := 0) F (As := [vI a5]) (st := []) vd_X12_150 (c_X12_four G l N_12 c0 a5 hI_N_12 hk_c0 (by omega)) hk_c0 rfl rfl rfl ⟨by decide, by decide⟩ rfl rfl (Nat.le_of_ble_eq_true rfl) dX12_feed_39 rfl ?_
    intro N_15 q_16
    obtain ⟨hI_N_15, hG_N_15, q_16c⟩ := q_16
    have hF_N_15 : Fr f_c_X12_feed M N_15 := Fr.c hF_N_12 hG_N_15 rfl
    have h_17 := Inv.g hI_N_15 hk_c0 rfl 10 (a := 0) (b := 900) rfl rfl
    refine kx_aload_n 43 F 0 dX12_feed_42 rfl rfl rfl ?_
    refine kx_geti 46 F fl_X12_147 hk_c0 rfl rfl (j := 10) rfl dX12_feed_43 (v := (N_15 c0 10)) rfl rfl ?_
    exact kx_iret F hQ ⟨hI_N_15, hF_N_15, (by omega)⟩ dX12_feed_46
  · refine kx_iconst 14 F dX12_feed_13 rfl ?_
    exact kx_iret F hQ ⟨hI_M, hF_M, (by omega)⟩ dX12_feed_14
theorem dX12_byteAt_0 : decode cX12_byteAt 0 = .ok (.iload_n 1, 1) := by decide +kernel
theorem dX12_byteAt_1 : decode cX12_byteAt 1 = .ok (.aload_n 0, 1) := by decide +kernel
theorem dX12_byteAt_2 : decode cX12_byteAt 2 = .ok (.getfield 153, 3) := by decide +kernel
theorem dX12_byteAt_5 : decode cX12_byteAt 5 = .ok (.if_icmp .ge 16, 3) := by decide +kernel
theorem dX12_byteAt_8 : decode cX12_byteAt 8 = .ok (.aload_n 0, 1) := by decide +kernel
theorem dX12_byteAt_9 : decode cX12_byteAt 9 = .ok (.getfield 34, 3) := by decide +kernel
theorem dX12_byteAt_12 : decode cX12_byteAt 12 = .ok (.iload_n 1, 1) := by decide +kernel
theorem dX12_byteAt_13 : decode cX12_byteAt 13 = .ok (.baload, 1) := by decide +kernel
theorem dX12_byteAt_14 : decode cX12_byteAt 14 = .ok (.sipush 255, 3) := by decide +kernel
theorem dX12_byteAt_17 : decode cX12_byteAt 17 = .ok (.iand, 1) := by decide +kernel
theorem dX12_byteAt_18 : decode cX12_byteAt 18 = .ok (.goto 4, 3) := by decide +kernel
theorem dX12_byteAt_21 : decode cX12_byteAt 21 = .ok (.iconst (-1), 1) := by decide +kernel
theorem dX12_byteAt_22 : decode cX12_byteAt 22 = .ok (.ireturn, 1) := by decide +kernel
set_option maxHeartbeats 4000000 in
set_option maxRecDepth 100000 in
theorem c_X12_byteAt (G : KG) (l : Launch) (M : Mem) (c0 : Int) (a1 : Int) (hI_M : Inv true M) (hk_c0 : kd c0 = 64) (hpre : -2147483648 ≤ a1 ∧ a1 ≤ 2147483647 ∧ 0 ≤ a1) : KC true G l yX12_byteAt cX12_byteAt 2 (some .int) (0, 0) [vR G c0, vI a1] M (fun A => kQi true G A (fun (r : Int) (N : Mem) => M = N ∧ ((r = -1 ∧ a1 ≥ (M c0 11)) ∨ (r = (tbv M c0 a1) ∧ r ≥ 0 ∧ r ≤ 255 ∧ a1 < (M c0 11))))) := by
  refine kx_met (lo := [some (vR G c0), some (vI a1)]) (by decide) (Nat.le_of_ble_eq_true rfl) rfl ?_
  intro X F hQ
  have h_1 : tbv M c0 a1 = zand (M (M c0 9) a1) 255 := rfl
  refine kx_iload_n 1 F 1 dX12_byteAt_0 rfl rfl rfl ?_
  refine kx_aload_n 2 F 0 dX12_byteAt_1 rfl rfl rfl ?_
  refine kx_geti 5 F fl_X12_153 hk_c0 rfl rfl (j := 11) rfl dX12_byteAt_2 (v := (M c0 11)) rfl rfl ?_
  have h_2 := Inv.g hI_M hk_c0 rfl 11 (a := 0) (b := 900) rfl rfl
  refine kx_icmp_ge 8 F 21 dX12_byteAt_5 (by decide) rfl (by omega) (by omega) (fun h_3 => ?_) (fun h_3 => ?_)
  · refine kx_iconst 22 F dX12_byteAt_21 rfl ?_
    exact kx_iret F hQ ⟨rfl, (by omega)⟩ dX12_byteAt_22
  · refine kx_aload_n 9 F 0 dX12_byteAt_8 rfl rfl rfl ?_
    refine kx_getr 12 F fl_X12_34 hk_c0 rfl rfl (j := 9) rfl dX12_byteAt_9 (v := (M c0 9)) rfl rfl ?_
    have hk_4 : kd (M c0 9) = 71 := Inv.r hI_M hk_c0 rfl 9 rfl rfl
    refine kx_iload_n 13 F 1 dX12_byteAt_12 rfl rfl rfl ?_
    refine kx_bald 14 F hk_4 rfl rfl (by omega) (by decide) dX12_byteAt_13 (v := (M (M c0 9) a1)) rfl rfl ?_
    have h_5 := Inv.g hI_M hk_4 rfl a1 (a := (-128)) (b := 127) rfl rfl
    refine kx_sipush 17 F dX12_byteAt_14 (by decide) rfl ?_
    refine kx_iand 18 F (v := (zand (M (M c0 9) a1) 255)) dX12_byteAt_17 rfl rfl ?_
    have h_6 := zand_r (a := (M (M c0 9) a1)) (b := 255) (by omega)
    refine kx_goto 22 F dX12_byteAt_18 (by decide) ?_
    exact kx_iret F hQ ⟨rfl, (by omega)⟩ dX12_byteAt_22
theorem dX12_isSmall_0 : decode cX12_isSmall 0 = .ok (.iload_n 0, 1) := by decide +kernel
theorem dX12_isSmall_1 : decode cX12_isSmall 1 = .ok (.bipush 97, 2) := by decide +kernel
theorem dX12_isSmall_3 : decode cX12_isSmall 3 = .ok (.if_icmp .lt 13, 3) := by decide +kernel
theorem dX12_isSmall_6 : decode cX12_isSmall 6 = .ok (.iload_n 0, 1) := by decide +kernel
theorem dX12_isSmall_7 : decode cX12_isSmall 7 = .ok (.bipush 122, 2) := by decide +kernel
theorem dX12_isSmall_9 : decode cX12_isSmall 9 = .ok (.if_icmp .gt 7, 3) := by decide +kernel
theorem dX12_isSmall_12 : decode cX12_isSmall 12 = .ok (.iconst 1, 1) := by decide +kernel
theorem dX12_isSmall_13 : decode cX12_isSmall 13 = .ok (.goto 4, 3) := by decide +kernel
theorem dX12_isSmall_16 : decode cX12_isSmall 16 = .ok (.iconst 0, 1) := by decide +kernel
theorem dX12_isSmall_17 : decode cX12_isSmall 17 = .ok (.ireturn, 1) := by decide +kernel
set_option maxHeartbeats 4000000 in
set_option maxRecDepth 100000 in
theorem c_X12_isSmall (G : KG) (l : Launch) (M : Mem) (a0 : Int) (hI_M : Inv true M) (hpre : -2147483648 ≤ a0 ∧ a0 ≤ 2147483647) : KC true G l yX12_isSmall cX12_isSmall 1 (some .boolean) (0, 0) [vI a0] M (fun A => kQi true G A (fun (r : Int) (N : Mem) => M = N ∧ ((r = 1 ∧ 97 ≤ a0 ∧ a0 ≤ 122) ∨ (r = 0 ∧ a0 ≤ 96) ∨ (r = 0 ∧ a0 ≥ 123)))) := by
  refine kx_met (lo := [some (vI a0)]) (by decide) (Nat.le_of_ble_eq_true rfl) rfl ?_
  intro X F hQ
  refine kx_iload_n 1 F 0 dX12_isSmall_0 rfl rfl rfl ?_
  refine kx_bipush 3 F dX12_isSmall_1 (by decide) rfl ?_
  refine kx_icmp_lt 6 F 16 dX12_isSmall_3 (by decide) rfl (by omega) (by decide) (fun h_1 => ?_) (fun h_1 => ?_)
  · refine kx_iconst 17 F dX12_isSmall_16 rfl ?_
    exact kx_zret F hQ (by omega) ⟨rfl, (by omega)⟩ dX12_isSmall_17
  · refine kx_iload_n 7 F 0 dX12_isSmall_6 rfl rfl rfl ?_
    refine kx_bipush 9 F dX12_isSmall_7 (by decide) rfl ?_
    refine kx_icmp_gt 12 F 16 dX12_isSmall_9 (by decide) rfl (by omega) (by decide) (fun h_2 => ?_) (fun h_2 => ?_)
    · refine kx_iconst 17 F dX12_isSmall_16 rfl ?_
      exact kx_zret F hQ (by omega) ⟨rfl, (by omega)⟩ dX12_isSmall_17
    · refine kx_iconst 13 F dX12_isSmall_12 rfl ?_
      refine kx_goto 17 F dX12_isSmall_13 (by decide) ?_
      exact kx_zret F hQ (by omega) ⟨rfl, (by omega)⟩ dX12_isSmall_17
theorem dX12_isDigit_0 : decode cX12_isDigit 0 = .ok (.iload_n 0, 1) := by decide +kernel
theorem dX12_isDigit_1 : decode cX12_isDigit 1 = .ok (.bipush 48, 2) := by decide +kernel
theorem dX12_isDigit_3 : decode cX12_isDigit 3 = .ok (.if_icmp .lt 13, 3) := by decide +kernel
theorem dX12_isDigit_6 : decode cX12_isDigit 6 = .ok (.iload_n 0, 1) := by decide +kernel
theorem dX12_isDigit_7 : decode cX12_isDigit 7 = .ok (.bipush 57, 2) := by decide +kernel
theorem dX12_isDigit_9 : decode cX12_isDigit 9 = .ok (.if_icmp .gt 7, 3) := by decide +kernel
theorem dX12_isDigit_12 : decode cX12_isDigit 12 = .ok (.iconst 1, 1) := by decide +kernel
theorem dX12_isDigit_13 : decode cX12_isDigit 13 = .ok (.goto 4, 3) := by decide +kernel
theorem dX12_isDigit_16 : decode cX12_isDigit 16 = .ok (.iconst 0, 1) := by decide +kernel
theorem dX12_isDigit_17 : decode cX12_isDigit 17 = .ok (.ireturn, 1) := by decide +kernel
set_option maxHeartbeats 4000000 in
set_option maxRecDepth 100000 in
theorem c_X12_isDigit (G : KG) (l : Launch) (M : Mem) (a0 : Int) (hI_M : Inv true M) (hpre : -2147483648 ≤ a0 ∧ a0 ≤ 2147483647) : KC true G l yX12_isDigit cX12_isDigit 1 (some .boolean) (0, 0) [vI a0] M (fun A => kQi true G A (fun (r : Int) (N : Mem) => M = N ∧ ((r = 1 ∧ 48 ≤ a0 ∧ a0 ≤ 57) ∨ (r = 0 ∧ a0 ≤ 47) ∨ (r = 0 ∧ a0 ≥ 58)))) := by
  refine kx_met (lo := [some (vI a0)]) (by decide) (Nat.le_of_ble_eq_true rfl) rfl ?_
  intro X F hQ
  refine kx_iload_n 1 F 0 dX12_isDigit_0 rfl rfl rfl ?_
  refine kx_bipush 3 F dX12_isDigit_1 (by decide) rfl ?_
  refine kx_icmp_lt 6 F 16 dX12_isDigit_3 (by decide) rfl (by omega) (by decide) (fun h_1 => ?_) (fun h_1 => ?_)
  · refine kx_iconst 17 F dX12_isDigit_16 rfl ?_
    exact kx_zret F hQ (by omega) ⟨rfl, (by omega)⟩ dX12_isDigit_17
  · refine kx_iload_n 7 F 0 dX12_isDigit_6 rfl rfl rfl ?_
    refine kx_bipush 9 F dX12_isDigit_7 (by decide) rfl ?_
    refine kx_icmp_gt 12 F 16 dX12_isDigit_9 (by decide) rfl (by omega) (by decide) (fun h_2 => ?_) (fun h_2 => ?_)
    · refine kx_iconst 17 F dX12_isDigit_16 rfl ?_
      exact kx_zret F hQ (by omega) ⟨rfl, (by omega)⟩ dX12_isDigit_17
    · refine kx_iconst 13 F dX12_isDigit_12 rfl ?_
      refine kx_goto 17 F dX12_isDigit_13 (by decide) ?_
      exact kx_zret F hQ (by omega) ⟨rfl, (by omega)⟩ dX12_isDigit_17
theorem dX12_fault_0 : decode cX12_fault 0 = .ok (.iload_n 1, 1) := by decide +kernel
theorem dX12_fault_1 : decode cX12_fault 1 = .ok (.ifCond .ne 10, 3) := by decide +kernel
theorem dX12_fault_4 : decode cX12_fault 4 = .ok (.aload_n 0, 1) := by decide +kernel
theorem dX12_fault_5 : decode cX12_fault 5 = .ok (.getfield 37, 3) := by decide +kernel
theorem dX12_fault_8 : decode cX12_fault 8 = .ok (.goto 16, 3) := by decide +kernel
theorem dX12_fault_11 : decode cX12_fault 11 = .ok (.iload_n 1, 1) := by decide +kernel
theorem dX12_fault_12 : decode cX12_fault 12 = .ok (.iconst 1, 1) := by decide +kernel
theorem dX12_fault_13 : decode cX12_fault 13 = .ok (.if_icmp .ne 10, 3) := by decide +kernel
theorem dX12_fault_16 : decode cX12_fault 16 = .ok (.aload_n 0, 1) := by decide +kernel
theorem dX12_fault_17 : decode cX12_fault 17 = .ok (.getfield 41, 3) := by decide +kernel
theorem dX12_fault_20 : decode cX12_fault 20 = .ok (.goto 4, 3) := by decide +kernel
theorem dX12_fault_23 : decode cX12_fault 23 = .ok (.iconst (-1), 1) := by decide +kernel
theorem dX12_fault_24 : decode cX12_fault 24 = .ok (.ireturn, 1) := by decide +kernel
set_option maxHeartbeats 4000000 in
set_option maxRecDepth 100000 in
theorem c_X12_fault (G : KG) (l : Launch) (M : Mem) (c0 : Int) (a1 : Int) (hI_M : Inv true M) (hk_c0 : kd c0 = 64) (hpre : -2147483648 ≤ a1 ∧ a1 ≤ 2147483647) : KC true G l yX12_fault cX12_fault 2 (some .int) (0, 0) [vR G c0, vI a1] M (fun A => kQi true G A (fun (r : Int) (N : Mem) => M = N ∧ (r ≥ -2147483648 ∧ r ≤ 2147483647))) := by
  refine kx_met (lo := [some (vR G c0), some (vI a1)]) (by decide) (Nat.le_of_ble_eq_true rfl) rfl ?_
  intro X F hQ
  refine kx_iload_n 1 F 1 dX12_fault_0 rfl rfl rfl ?_
  refine kx_if_ne 4 F 11 dX12_fault_1 (by decide) rfl (by omega) (fun h_1 => ?_) (fun h_1 => ?_)
  · refine kx_iload_n 12 F 1 dX12_fault_11 rfl rfl rfl ?_
    refine kx_iconst 13 F dX12_fault_12 rfl ?_
    refine kx_icmp_ne 16 F 23 dX12_fault_13 (by decide) rfl (by omega) (by decide) (fun h_2 => ?_) (fun h_2 => ?_)
    · refine kx_iconst 24 F dX12_fault_23 rfl ?_
      exact kx_iret F hQ ⟨rfl, (by omega)⟩ dX12_fault_24
    · refine kx_aload_n 17 F 0 dX12_fault_16 rfl rfl rfl ?_
      refine kx_geti 20 F fl_X12_41 hk_c0 rfl rfl (j := 17) rfl dX12_fault_17 (v := (M c0 17)) rfl rfl ?_
      have h_3 := Inv.g hI_M hk_c0 rfl 17 (a := (-2147483648)) (b := 2147483647) rfl rfl
      refine kx_goto 24 F dX12_fault_20 (by decide) ?_
      exact kx_iret F hQ ⟨rfl, (by omega)⟩ dX12_fault_24
  · refine kx_aload_n 5 F 0 dX12_fault_4 rfl rfl rfl ?_
    refine kx_geti 8 F fl_X12_37 hk_c0 rfl rfl (j := 16) rfl dX12_fault_5 (v := (M c0 16)) rfl rfl ?_
    have h_4 := Inv.g hI_M hk_c0 rfl 16 (a := (-2147483648)) (b := 2147483647) rfl rfl
    refine kx_goto 24 F dX12_fault_8 (by decide) ?_
    exact kx_iret F hQ ⟨rfl, (by omega)⟩ dX12_fault_24
theorem dX12_rowOf_0 : decode cX12_rowOf 0 = .ok (.iload_n 0, 1) := by decide +kernel
theorem dX12_rowOf_1 : decode cX12_rowOf 1 = .ok (.bipush 100, 2) := by decide +kernel
theorem dX12_rowOf_3 : decode cX12_rowOf 3 = .ok (.iadd, 1) := by decide +kernel
theorem dX12_rowOf_4 : decode cX12_rowOf 4 = .ok (.bipush 85, 2) := by decide +kernel
theorem dX12_rowOf_6 : decode cX12_rowOf 6 = .ok (.iload_n 1, 1) := by decide +kernel
theorem dX12_rowOf_7 : decode cX12_rowOf 7 = .ok (.imul, 1) := by decide +kernel
theorem dX12_rowOf_8 : decode cX12_rowOf 8 = .ok (.iadd, 1) := by decide +kernel
theorem dX12_rowOf_9 : decode cX12_rowOf 9 = .ok (.ireturn, 1) := by decide +kernel
set_option maxHeartbeats 4000000 in
set_option maxRecDepth 100000 in
theorem c_X12_rowOf (G : KG) (l : Launch) (M : Mem) (a0 : Int) (a1 : Int) (hI_M : Inv true M) (hpre : -2147483648 ≤ a0 ∧ a0 ≤ 2147483647 ∧ -2147483648 ≤ a1 ∧ a1 ≤ 2147483647 ∧ 0 ≤ a0 ∧ a0 ≤ 1088 ∧ 0 ≤ a1 ∧ a1 ≤ 2) : KC true G l yX12_rowOf cX12_rowOf 2 (some .int) (0, 0) [vI a0, vI a1] M (fun A => kQi true G A (fun (r : Int) (N : Mem) => M = N ∧ (r = a0 + 85 * a1 + 100))) := by
  refine kx_met (lo := [some (vI a0), some (vI a1)]) (by decide) (Nat.le_of_ble_eq_true rfl) rfl ?_
  intro X F hQ
  refine kx_iload_n 1 F 0 dX12_rowOf_0 rfl rfl rfl ?_
  refine kx_bipush 3 F dX12_rowOf_1 (by decide) rfl ?_
  refine kx_iadd 4 F (v := a0 + 100) dX12_rowOf_3 rfl rfl ?_
  refine kx_bipush 6 F dX12_rowOf_4 (by decide) rfl ?_
  refine kx_iload_n 7 F 1 dX12_rowOf_6 rfl rfl rfl ?_
  refine kx_imul 8 F (v := 85 * a1) dX12_rowOf_7 (by omega) rfl ?_
  refine kx_iadd 9 F (v := a0 + 85 * a1 + 100) dX12_rowOf_8 (by omega) rfl ?_
  exact kx_iret F hQ ⟨rfl, (by omega)⟩ dX12_rowOf_9
theorem dX12_ruleRow_0 : decode cX12_ruleRow 0 = .ok (.iload_n 0, 1) := by decide +kernel
theorem dX12_ruleRow_1 : decode cX12_ruleRow 1 = .ok (.iload_n 1, 1) := by decide +kernel
theorem dX12_ruleRow_2 : decode cX12_ruleRow 2 = .ok (.invokestatic 216, 3) := by decide +kernel
theorem dX12_ruleRow_5 : decode cX12_ruleRow 5 = .ok (.iconst 5, 1) := by decide +kernel
theorem dX12_ruleRow_6 : decode cX12_ruleRow 6 = .ok (.iadd, 1) := by decide +kernel
theorem dX12_ruleRow_7 : decode cX12_ruleRow 7 = .ok (.iconst 4, 1) := by decide +kernel
theorem dX12_ruleRow_8 : decode cX12_ruleRow 8 = .ok (.iload_n 2, 1) := by decide +kernel
theorem dX12_ruleRow_9 : decode cX12_ruleRow 9 = .ok (.imul, 1) := by decide +kernel
theorem dX12_ruleRow_10 : decode cX12_ruleRow 10 = .ok (.iadd, 1) := by decide +kernel
theorem dX12_ruleRow_11 : decode cX12_ruleRow 11 = .ok (.ireturn, 1) := by decide +kernel
set_option maxHeartbeats 4000000 in
set_option maxRecDepth 100000 in
theorem c_X12_ruleRow (G : KG) (l : Launch) (M : Mem) (a0 : Int) (a1 : Int) (a2 : Int) (hI_M : Inv true M) (hpre : -2147483648 ≤ a0 ∧ a0 ≤ 2147483647 ∧ -2147483648 ≤ a1 ∧ a1 ≤ 2147483647 ∧ -2147483648 ≤ a2 ∧ a2 ≤ 2147483647 ∧ 0 ≤ a0 ∧ a0 ≤ 1088 ∧ 0 ≤ a1 ∧ a1 ≤ 2 ∧ 0 ≤ a2 ∧ a2 ≤ 20) : KC true G l yX12_ruleRow cX12_ruleRow 3 (some .int) (1, 21) [vI a0, vI a1, vI a2] M (fun A => kQi true G A (fun (r : Int) (N : Mem) => M = N ∧ (r = a0 + 85 * a1 + 4 * a2 + 105))) := by
  refine kx_met (lo := [some (vI a0), some (vI a1), some (vI a2)]) (by decide) (Nat.le_of_ble_eq_true rfl) rfl ?_
  intro X F hQ
  refine kx_iload_n 1 F 0 dX12_ruleRow_0 rfl rfl rfl ?_
  refine kx_iload_n 2 F 1 dX12_ruleRow_1 rfl rfl rfl ?_
  refine kx_Si 5 F (As := [vI a0, vI a1]) (st := []) sd_X12_216 (c_X12_rowOf G l M a0 a1 hI_M (by omega)) ⟨by decide, by decide⟩ rfl rfl (Nat.le_of_ble_eq_true rfl) dX12_ruleRow_2 rfl ?_
  intro r_1 N_2 q_3
  obtain ⟨rfl, q_3c⟩ := q_3
  refine kx_topi (e' := a0 + 85 * a1 + 100) (by omega) ?_
  refine kx_iconst 6 F dX12_ruleRow_5 rfl ?_
  refine kx_iadd 7 F (v := a0 + 85 * a1 + 105) dX12_ruleRow_6 (by omega) rfl ?_
  refine kx_iconst 8 F dX12_ruleRow_7 rfl ?_
  refine kx_iload_n 9 F 2 dX12_ruleRow_8 rfl rfl rfl ?_
  refine kx_imul 10 F (v := 4 * a2) dX12_ruleRow_9 (by omega) rfl ?_
  refine kx_iadd 11 F (v := a0 + 85 * a1 + 4 * a2 + 105) dX12_ruleRow_10 (by omega) rfl ?_
  exact kx_iret F hQ ⟨rfl, (by omega)⟩ dX12_ruleRow_11
theorem dX12_isIn_0 : decode cX12_isIn 0 = .ok (.iload_n 1, 1) := by decide +kernel
theorem dX12_isIn_1 : decode cX12_isIn 1 = .ok (.iload_n 2, 1) := by decide +kernel
theorem dX12_isIn_2 : decode cX12_isIn 2 = .ok (.ishr, 1) := by decide +kernel
theorem dX12_isIn_3 : decode cX12_isIn 3 = .ok (.iconst 1, 1) := by decide +kernel
theorem dX12_isIn_4 : decode cX12_isIn 4 = .ok (.iand, 1) := by decide +kernel
theorem dX12_isIn_5 : decode cX12_isIn 5 = .ok (.iconst 1, 1) := by decide +kernel
theorem dX12_isIn_6 : decode cX12_isIn 6 = .ok (.if_icmp .ne 7, 3) := by decide +kernel
theorem dX12_isIn_9 : decode cX12_isIn 9 = .ok (.iconst 1, 1) := by decide +kernel
theorem dX12_isIn_10 : decode cX12_isIn 10 = .ok (.goto 4, 3) := by decide +kernel
theorem dX12_isIn_13 : decode cX12_isIn 13 = .ok (.iconst 0, 1) := by decide +kernel
theorem dX12_isIn_14 : decode cX12_isIn 14 = .ok (.ireturn, 1) := by decide +kernel
set_option maxHeartbeats 4000000 in
set_option maxRecDepth 100000 in
theorem c_X12_isIn (G : KG) (l : Launch) (M : Mem) (c0 : Int) (a1 : Int) (a2 : Int) (hI_M : Inv true M) (hk_c0 : kd c0 = 64) (hpre : -2147483648 ≤ a1 ∧ a1 ≤ 2147483647 ∧ -2147483648 ≤ a2 ∧ a2 ≤ 2147483647) : KC true G l yX12_isIn cX12_isIn 3 (some .boolean) (0, 0) [vR G c0, vI a1, vI a2] M (fun A => kQi true G A (fun (r : Int) (N : Mem) => M = N ∧ (0 ≤ r ∧ r ≤ 1))) := by
  refine kx_met (lo := [some (vR G c0), some (vI a1), some (vI a2)]) (by decide) (Nat.le_of_ble_eq_true rfl) rfl ?_
  intro X F hQ
  refine kx_iload_n 1 F 1 dX12_isIn_0 rfl rfl rfl ?_
  refine kx_iload_n 2 F 2 dX12_isIn_1 rfl rfl rfl ?_
  refine kx_ishr 3 F (v := (zshr a1 a2)) dX12_isIn_2 rfl rfl ?_
  have h_1 := zshr_rng a1 a2
  refine kx_iconst 4 F dX12_isIn_3 rfl ?_
  refine kx_iand 5 F (v := (zand (zshr a1 a2) 1)) dX12_isIn_4 rfl rfl ?_
  have h_2 := zand_r (a := (zshr a1 a2)) (b := 1) (by omega)
  refine kx_iconst 6 F dX12_isIn_5 rfl ?_
  refine kx_icmp_ne 9 F 13 dX12_isIn_6 (by decide) rfl (by omega) (by decide) (fun h_3 => ?_) (fun h_3 => ?_)
  · refine kx_iconst 14 F dX12_isIn_13 rfl ?_
    exact kx_zret F hQ (by omega) ⟨rfl, (by omega)⟩ dX12_isIn_14
  · refine kx_iconst 10 F dX12_isIn_9 rfl ?_
    refine kx_goto 14 F dX12_isIn_10 (by decide) ?_
    exact kx_zret F hQ (by omega) ⟨rfl, (by omega)⟩ dX12_isIn_14
theorem dX12_isAutomaton_0 : decode cX12_isAutomaton 0 = .ok (.iload_n 1, 1) := by decide +kernel
theorem dX12_isAutomaton_1 : decode cX12_isAutomaton 1 = .ok (.ifCond .lt 17, 3) := by decide +kernel
theorem dX12_isAutomaton_4 : decode cX12_isAutomaton 4 = .ok (.iload_n 1, 1) := by decide +kernel
theorem dX12_isAutomaton_5 : decode cX12_isAutomaton 5 = .ok (.aload_n 0, 1) := by decide +kernel
theorem dX12_isAutomaton_6 : decode cX12_isAutomaton 6 = .ok (.getfield 7, 3) := by decide +kernel
theorem dX12_isAutomaton_9 : decode cX12_isAutomaton 9 = .ok (.iconst 3, 1) := by decide +kernel
theorem dX12_isAutomaton_10 : decode cX12_isAutomaton 10 = .ok (.iaload, 1) := by decide +kernel
theorem dX12_isAutomaton_11 : decode cX12_isAutomaton 11 = .ok (.if_icmp .ge 7, 3) := by decide +kernel
theorem dX12_isAutomaton_14 : decode cX12_isAutomaton 14 = .ok (.iconst 1, 1) := by decide +kernel
theorem dX12_isAutomaton_15 : decode cX12_isAutomaton 15 = .ok (.goto 4, 3) := by decide +kernel
theorem dX12_isAutomaton_18 : decode cX12_isAutomaton 18 = .ok (.iconst 0, 1) := by decide +kernel
theorem dX12_isAutomaton_19 : decode cX12_isAutomaton 19 = .ok (.ireturn, 1) := by decide +kernel
set_option maxHeartbeats 4000000 in
set_option maxRecDepth 100000 in
theorem c_X12_isAutomaton (G : KG) (l : Launch) (M : Mem) (c0 : Int) (a1 : Int) (hI_M : Inv true M) (hk_c0 : kd c0 = 64) (hpre : -2147483648 ≤ a1 ∧ a1 ≤ 2147483647) : KC true G l yX12_isAutomaton cX12_isAutomaton 2 (some .boolean) (0, 0) [vR G c0, vI a1] M (fun A => kQi true G A (fun (r : Int) (N : Mem) => M = N ∧ ((r = 1 ∧ 0 ≤ a1 ∧ a1 ≤ 1) ∨ (r = 0)))) := by
  refine kx_met (lo := [some (vR G c0), some (vI a1)]) (by decide) (Nat.le_of_ble_eq_true rfl) rfl ?_
  intro X F hQ
  refine kx_iload_n 1 F 1 dX12_isAutomaton_0 rfl rfl rfl ?_
  refine kx_if_lt 4 F 18 dX12_isAutomaton_1 (by decide) rfl (by omega) (fun h_1 => ?_) (fun h_1 => ?_)
  · refine kx_iconst 19 F dX12_isAutomaton_18 rfl ?_
    exact kx_zret F hQ (by omega) ⟨rfl, (by omega)⟩ dX12_isAutomaton_19
  · refine kx_iload_n 5 F 1 dX12_isAutomaton_4 rfl rfl rfl ?_
    refine kx_aload_n 6 F 0 dX12_isAutomaton_5 rfl rfl rfl ?_
    refine kx_getr 9 F fl_X12_7 hk_c0 rfl rfl (j := 0) rfl dX12_isAutomaton_6 (v := (M c0 0)) rfl rfl ?_
    have hk_2 : kd (M c0 0) = 65 := Inv.r hI_M hk_c0 rfl 0 rfl rfl
    refine kx_iconst 10 F dX12_isAutomaton_9 rfl ?_
    refine kx_iald 11 F hk_2 rfl rfl (by omega) (by decide) dX12_isAutomaton_10 (v := (M (M c0 0) 3)) rfl rfl ?_
    have ha_3 : atlo 3 = 0 ∧ athi 3 = 2 := at_c 3 0 (o := 3) (lo := 0) (hi := 2) (by omega) (by decide) (by decide) (by decide)
    have h_4 := Inv.g hI_M hk_2 rfl 3 (a := 0) (b := 2) ha_3.1 ha_3.2
    refine kx_icmp_ge 14 F 18 dX12_isAutomaton_11 (by decide) rfl (by omega) (by omega) (fun h_5 => ?_) (fun h_5 => ?_)
    · refine kx_iconst 19 F dX12_isAutomaton_18 rfl ?_
      exact kx_zret F hQ (by omega) ⟨rfl, (by omega)⟩ dX12_isAutomaton_19
    · refine kx_iconst 15 F dX12_isAutomaton_14 rfl ?_
      refine kx_goto 19 F dX12_isAutomaton_15 (by decide) ?_
      exact kx_zret F hQ (by omega) ⟨rfl, (by omega)⟩ dX12_isAutomaton_19
theorem dX12_areTwo_0 : decode cX12_areTwo 0 = .ok (.aload_n 0, 1) := by decide +kernel
theorem dX12_areTwo_1 : decode cX12_areTwo 1 = .ok (.iload_n 1, 1) := by decide +kernel
theorem dX12_areTwo_2 : decode cX12_areTwo 2 = .ok (.invokevirtual 282, 3) := by decide +kernel
theorem dX12_areTwo_5 : decode cX12_areTwo 5 = .ok (.ifCond .eq 20, 3) := by decide +kernel
theorem dX12_areTwo_8 : decode cX12_areTwo 8 = .ok (.aload_n 0, 1) := by decide +kernel
theorem dX12_areTwo_9 : decode cX12_areTwo 9 = .ok (.iload_n 2, 1) := by decide +kernel
theorem dX12_areTwo_10 : decode cX12_areTwo 10 = .ok (.invokevirtual 282, 3) := by decide +kernel
theorem dX12_areTwo_13 : decode cX12_areTwo 13 = .ok (.ifCond .eq 12, 3) := by decide +kernel
theorem dX12_areTwo_16 : decode cX12_areTwo 16 = .ok (.iload_n 1, 1) := by decide +kernel
theorem dX12_areTwo_17 : decode cX12_areTwo 17 = .ok (.iload_n 2, 1) := by decide +kernel
theorem dX12_areTwo_18 : decode cX12_areTwo 18 = .ok (.if_icmp .eq 7, 3) := by decide +kernel
theorem dX12_areTwo_21 : decode cX12_areTwo 21 = .ok (.iconst 1, 1) := by decide +kernel
theorem dX12_areTwo_22 : decode cX12_areTwo 22 = .ok (.goto 4, 3) := by decide +kernel
theorem dX12_areTwo_25 : decode cX12_areTwo 25 = .ok (.iconst 0, 1) := by decide +kernel
theorem dX12_areTwo_26 : decode cX12_areTwo 26 = .ok (.ireturn, 1) := by decide +kernel
set_option maxHeartbeats 4000000 in
set_option maxRecDepth 100000 in
theorem c_X12_areTwo (G : KG) (l : Launch) (M : Mem) (c0 : Int) (a1 : Int) (a2 : Int) (hI_M : Inv true M) (hk_c0 : kd c0 = 64) (hpre : -2147483648 ≤ a1 ∧ a1 ≤ 2147483647 ∧ -2147483648 ≤ a2 ∧ a2 ≤ 2147483647) : KC true G l yX12_areTwo cX12_areTwo 3 (some .boolean) (1, 21) [vR G c0, vI a1, vI a2] M (fun A => kQi true G A (fun (r : Int) (N : Mem) => M = N ∧ ((r = 1 ∧ 0 ≤ a1 ∧ a1 ≤ 1 ∧ 0 ≤ a2 ∧ a2 ≤ 1) ∨ (r = 0)))) := by
  refine kx_met (lo := [some (vR G c0), some (vI a1), some (vI a2)]) (by decide) (Nat.le_of_ble_eq_true rfl) rfl ?_
  intro X F hQ
  refine kx_aload_n 1 F 0 dX12_areTwo_0 rfl rfl rfl ?_
  refine kx_iload_n 2 F 1 dX12_areTwo_1 rfl rfl rfl ?_
  refine kx_Vi 5 (ci := 0) F (As := [vI a1]) (st := []) vd_X12_282 (c_X12_isAutomaton G l M c0 a1 hI_M hk_c0 (by omega)) hk_c0 rfl rfl rfl ⟨by decide, by decide⟩ rfl rfl (Nat.le_of_ble_eq_true rfl) dX12_areTwo_2 rfl ?_
  intro r_1 N_2 q_3
  obtain ⟨rfl, q_3c⟩ := q_3
  rcases q_3c with q_3c | q_3c
  · refine kx_if_eq 8 F 25 dX12_areTwo_5 (by decide) rfl (by omega) (fun h_4 => (by exfalso; omega)) (fun h_4 => ?_)
    refine kx_aload_n 9 F 0 dX12_areTwo_8 rfl rfl rfl ?_
    refine kx_iload_n 10 F 2 dX12_areTwo_9 rfl rfl rfl ?_
    refine kx_Vi 13 (ci := 0) F (As := [vI a2]) (st := []) vd_X12_282 (c_X12_isAutomaton G l M c0 a2 hI_M hk_c0 (by omega)) hk_c0 rfl rfl rfl ⟨by decide, by decide⟩ rfl rfl (Nat.le_of_ble_eq_true rfl) dX12_areTwo_10 rfl ?_
    intro r_5 N_6 q_7
    obtain ⟨rfl, q_7c⟩ := q_7
    rcases q_7c with q_7c | q_7c
    · refine kx_if_eq 16 F 25 dX12_areTwo_13 (by decide) rfl (by omega) (fun h_8 => (by exfalso; omega)) (fun h_8 => ?_)
      refine kx_iload_n 17 F 1 dX12_areTwo_16 rfl rfl rfl ?_
      refine kx_iload_n 18 F 2 dX12_areTwo_17 rfl rfl rfl ?_
      refine kx_icmp_eq 21 F 25 dX12_areTwo_18 (by decide) rfl (by omega) (by omega) (fun h_9 => ?_) (fun h_9 => ?_)
      · refine kx_iconst 26 F dX12_areTwo_25 rfl ?_
        exact kx_zret F hQ (by omega) ⟨rfl, (by omega)⟩ dX12_areTwo_26
      · refine kx_iconst 22 F dX12_areTwo_21 rfl ?_
        refine kx_goto 26 F dX12_areTwo_22 (by decide) ?_
        exact kx_zret F hQ (by omega) ⟨rfl, (by omega)⟩ dX12_areTwo_26
    · refine kx_if_eq 16 F 25 dX12_areTwo_13 (by decide) rfl (by omega) (fun h_10 => ?_) (fun h_10 => (by exfalso; omega))
      refine kx_iconst 26 F dX12_areTwo_25 rfl ?_
      exact kx_zret F hQ (by omega) ⟨rfl, (by omega)⟩ dX12_areTwo_26
  · refine kx_if_eq 8 F 25 dX12_areTwo_5 (by decide) rfl (by omega) (fun h_11 => ?_) (fun h_11 => (by exfalso; omega))
    refine kx_iconst 26 F dX12_areTwo_25 rfl ?_
    exact kx_zret F hQ (by omega) ⟨rfl, (by omega)⟩ dX12_areTwo_26
theorem dX12_letters_0 : decode cX12_letters 0 = .ok (.aload_n 0, 1) := by decide +kernel
theorem dX12_letters_1 : decode cX12_letters 1 = .ok (.getfield 7, 3) := by decide +kernel
theorem dX12_letters_4 : decode cX12_letters 4 = .ok (.iconst 0, 1) := by decide +kernel
theorem dX12_letters_5 : decode cX12_letters 5 = .ok (.iaload, 1) := by decide +kernel
theorem dX12_letters_6 : decode cX12_letters 6 = .ok (.aload_n 0, 1) := by decide +kernel
theorem dX12_letters_7 : decode cX12_letters 7 = .ok (.getfield 7, 3) := by decide +kernel
theorem dX12_letters_10 : decode cX12_letters 10 = .ok (.iconst 1, 1) := by decide +kernel
theorem dX12_letters_11 : decode cX12_letters 11 = .ok (.iaload, 1) := by decide +kernel
theorem dX12_letters_12 : decode cX12_letters 12 = .ok (.iadd, 1) := by decide +kernel
theorem dX12_letters_13 : decode cX12_letters 13 = .ok (.aload_n 0, 1) := by decide +kernel
theorem dX12_letters_14 : decode cX12_letters 14 = .ok (.getfield 7, 3) := by decide +kernel
theorem dX12_letters_17 : decode cX12_letters 17 = .ok (.iconst 2, 1) := by decide +kernel
theorem dX12_letters_18 : decode cX12_letters 18 = .ok (.iaload, 1) := by decide +kernel
theorem dX12_letters_19 : decode cX12_letters 19 = .ok (.iadd, 1) := by decide +kernel
theorem dX12_letters_20 : decode cX12_letters 20 = .ok (.ireturn, 1) := by decide +kernel
set_option maxHeartbeats 4000000 in
set_option maxRecDepth 100000 in
theorem c_X12_letters (G : KG) (l : Launch) (M : Mem) (c0 : Int) (hI_M : Inv true M) (hk_c0 : kd c0 = 64) : KC true G l yX12_letters cX12_letters 1 (some .int) (0, 0) [vR G c0] M (fun A => kQi true G A (fun (r : Int) (N : Mem) => M = N ∧ (0 ≤ r ∧ r ≤ 6))) := by
  refine kx_met (lo := [some (vR G c0)]) (by decide) (Nat.le_of_ble_eq_true rfl) rfl ?_
  intro X F hQ
  refine kx_aload_n 1 F 0 dX12_letters_0 rfl rfl rfl ?_
  refine kx_getr 4 F fl_X12_7 hk_c0 rfl rfl (j := 0) rfl dX12_letters_1 (v := (M c0 0)) rfl rfl ?_
  have hk_1 : kd (M c0 0) = 65 := Inv.r hI_M hk_c0 rfl 0 rfl rfl
  refine kx_iconst 5 F dX12_letters_4 rfl ?_
  refine kx_iald 6 F hk_1 rfl rfl (by omega) (by decide) dX12_letters_5 (v := (M (M c0 0) 0)) rfl rfl ?_
  have ha_2 : atlo 0 = 0 ∧ athi 0 = 2 := at_c 0 0 (o := 0) (lo := 0) (hi := 2) (by omega) (by decide) (by decide) (by decide)
  have h_3 := Inv.g hI_M hk_1 rfl 0 (a := 0) (b := 2) ha_2.1 ha_2.2
  refine kx_aload_n 7 F 0 dX12_letters_6 rfl rfl rfl ?_
  refine kx_getr 10 F fl_X12_7 hk_c0 rfl rfl (j := 0) rfl dX12_letters_7 (v := (M c0 0)) rfl rfl ?_
  refine kx_iconst 11 F dX12_letters_10 rfl ?_
  refine kx_iald 12 F hk_1 rfl rfl (by omega) (by decide) dX12_letters_11 (v := (M (M c0 0) 1)) rfl rfl ?_
  have ha_4 : atlo 1 = 0 ∧ athi 1 = 2 := at_c 1 0 (o := 1) (lo := 0) (hi := 2) (by omega) (by decide) (by decide) (by decide)
  have h_5 := Inv.g hI_M hk_1 rfl 1 (a := 0) (b := 2) ha_4.1 ha_4.2
  refine kx_iadd 13 F (v := (M (M c0 0) 0) + (M (M c0 0) 1)) dX12_letters_12 rfl rfl ?_
  refine kx_aload_n 14 F 0 dX12_letters_13 rfl rfl rfl ?_
  refine kx_getr 17 F fl_X12_7 hk_c0 rfl rfl (j := 0) rfl dX12_letters_14 (v := (M c0 0)) rfl rfl ?_
  refine kx_iconst 18 F dX12_letters_17 rfl ?_
  refine kx_iald 19 F hk_1 rfl rfl (by omega) (by decide) dX12_letters_18 (v := (M (M c0 0) 2)) rfl rfl ?_
  have ha_6 : atlo 2 = 0 ∧ athi 2 = 2 := at_c 2 0 (o := 2) (lo := 0) (hi := 2) (by omega) (by decide) (by decide) (by decide)
  have h_7 := Inv.g hI_M hk_1 rfl 2 (a := 0) (b := 2) ha_6.1 ha_6.2
  refine kx_iadd 20 F (v := (M (M c0 0) 0) + (M (M c0 0) 1) + (M (M c0 0) 2)) dX12_letters_19 rfl rfl ?_
  exact kx_iret F hQ ⟨rfl, (by omega)⟩ dX12_letters_20
theorem dX12_isLetter_0 : decode cX12_isLetter 0 = .ok (.iload_n 1, 1) := by decide +kernel
theorem dX12_isLetter_1 : decode cX12_isLetter 1 = .ok (.ifCond .lt 15, 3) := by decide +kernel
theorem dX12_isLetter_4 : decode cX12_isLetter 4 = .ok (.iload_n 1, 1) := by decide +kernel
theorem dX12_isLetter_5 : decode cX12_isLetter 5 = .ok (.aload_n 0, 1) := by decide +kernel
theorem dX12_isLetter_6 : decode cX12_isLetter 6 = .ok (.invokevirtual 285, 3) := by decide +kernel
theorem dX12_isLetter_9 : decode cX12_isLetter 9 = .ok (.if_icmp .ge 7, 3) := by decide +kernel
theorem dX12_isLetter_12 : decode cX12_isLetter 12 = .ok (.iconst 1, 1) := by decide +kernel
theorem dX12_isLetter_13 : decode cX12_isLetter 13 = .ok (.goto 4, 3) := by decide +kernel
theorem dX12_isLetter_16 : decode cX12_isLetter 16 = .ok (.iconst 0, 1) := by decide +kernel
theorem dX12_isLetter_17 : decode cX12_isLetter 17 = .ok (.ireturn, 1) := by decide +kernel
set_option maxHeartbeats 4000000 in
set_option maxRecDepth 100000 in
theorem c_X12_isLetter (G : KG) (l : Launch) (M : Mem) (c0 : Int) (a1 : Int) (hI_M : Inv true M) (hk_c0 : kd c0 = 64) (hpre : -2147483648 ≤ a1 ∧ a1 ≤ 2147483647) : KC true G l yX12_isLetter cX12_isLetter 2 (some .boolean) (1, 20) [vR G c0, vI a1] M (fun A => kQi true G A (fun (r : Int) (N : Mem) => M = N ∧ ((r = 1 ∧ 0 ≤ a1 ∧ a1 ≤ 5) ∨ (r = 0)))) := by
  refine kx_met (lo := [some (vR G c0), some (vI a1)]) (by decide) (Nat.le_of_ble_eq_true rfl) rfl ?_
  intro X F hQ
  refine kx_iload_n 1 F 1 dX12_isLetter_0 rfl rfl rfl ?_
  refine kx_if_lt 4 F 16 dX12_isLetter_1 (by decide) rfl (by omega) (fun h_1 => ?_) (fun h_1 => ?_)
  · refine kx_iconst 17 F dX12_isLetter_16 rfl ?_
    exact kx_zret F hQ (by omega) ⟨rfl, (by omega)⟩ dX12_isLetter_17
  · refine kx_iload_n 5 F 1 dX12_isLetter_4 rfl rfl rfl ?_
    refine kx_aload_n 6 F 0 dX12_isLetter_5 rfl rfl rfl ?_
    refine kx_Vi 9 (ci := 0) F (As := []) (st := [vI a1]) vd_X12_285 (c_X12_letters G l M c0 hI_M hk_c0) hk_c0 rfl rfl rfl ⟨by decide, by decide⟩ rfl rfl (Nat.le_of_ble_eq_true rfl) dX12_isLetter_6 rfl ?_
    intro r_2 N_3 q_4
    obtain ⟨rfl, q_4c⟩ := q_4
    refine kx_icmp_ge 12 F 16 dX12_isLetter_9 (by decide) rfl (by omega) (by omega) (fun h_5 => ?_) (fun h_5 => ?_)
    · refine kx_iconst 17 F dX12_isLetter_16 rfl ?_
      exact kx_zret F hQ (by omega) ⟨rfl, (by omega)⟩ dX12_isLetter_17
    · refine kx_iconst 13 F dX12_isLetter_12 rfl ?_
      refine kx_goto 17 F dX12_isLetter_13 (by decide) ?_
      exact kx_zret F hQ (by omega) ⟨rfl, (by omega)⟩ dX12_isLetter_17
theorem dX12_ahead_0 : decode cX12_ahead 0 = .ok (.aload_n 0, 1) := by decide +kernel
theorem dX12_ahead_1 : decode cX12_ahead 1 = .ok (.aload_n 0, 1) := by decide +kernel
theorem dX12_ahead_2 : decode cX12_ahead 2 = .ok (.getfield 156, 3) := by decide +kernel
theorem dX12_ahead_5 : decode cX12_ahead 5 = .ok (.invokevirtual 159, 3) := by decide +kernel
theorem dX12_ahead_8 : decode cX12_ahead 8 = .ok (.bipush 32, 2) := by decide +kernel
theorem dX12_ahead_10 : decode cX12_ahead 10 = .ok (.if_icmp .eq 16, 3) := by decide +kernel
theorem dX12_ahead_13 : decode cX12_ahead 13 = .ok (.aload_n 0, 1) := by decide +kernel
theorem dX12_ahead_14 : decode cX12_ahead 14 = .ok (.aload_n 0, 1) := by decide +kernel
theorem dX12_ahead_15 : decode cX12_ahead 15 = .ok (.getfield 156, 3) := by decide +kernel
theorem dX12_ahead_18 : decode cX12_ahead 18 = .ok (.invokevirtual 159, 3) := by decide +kernel
theorem dX12_ahead_21 : decode cX12_ahead 21 = .ok (.bipush 10, 2) := by decide +kernel
theorem dX12_ahead_23 : decode cX12_ahead 23 = .ok (.if_icmp .ne 16, 3) := by decide +kernel
theorem dX12_ahead_26 : decode cX12_ahead 26 = .ok (.aload_n 0, 1) := by decide +kernel
theorem dX12_ahead_27 : decode cX12_ahead 27 = .ok (.dup, 1) := by decide +kernel
theorem dX12_ahead_28 : decode cX12_ahead 28 = .ok (.getfield 156, 3) := by decide +kernel
theorem dX12_ahead_31 : decode cX12_ahead 31 = .ok (.iconst 1, 1) := by decide +kernel
theorem dX12_ahead_32 : decode cX12_ahead 32 = .ok (.iadd, 1) := by decide +kernel
theorem dX12_ahead_33 : decode cX12_ahead 33 = .ok (.putfield 156, 3) := by decide +kernel
theorem dX12_ahead_36 : decode cX12_ahead 36 = .ok (.goto (-36), 3) := by decide +kernel
theorem dX12_ahead_39 : decode cX12_ahead 39 = .ok (.aload_n 0, 1) := by decide +kernel
theorem dX12_ahead_40 : decode cX12_ahead 40 = .ok (.aload_n 0, 1) := by decide +kernel
theorem dX12_ahead_41 : decode cX12_ahead 41 = .ok (.getfield 156, 3) := by decide +kernel
theorem dX12_ahead_44 : decode cX12_ahead 44 = .ok (.putfield 162, 3) := by decide +kernel
theorem dX12_ahead_47 : decode cX12_ahead 47 = .ok (.aload_n 0, 1) := by decide +kernel
theorem dX12_ahead_48 : decode cX12_ahead 48 = .ok (.aload_n 0, 1) := by decide +kernel
theorem dX12_ahead_49 : decode cX12_ahead 49 = .ok (.getfield 156, 3) := by decide +kernel
theorem dX12_ahead_52 : decode cX12_ahead 52 = .ok (.invokevirtual 159, 3) := by decide +kernel
theorem dX12_ahead_55 : decode cX12_ahead 55 = .ok (.istore_n 1, 1) := by decide +kernel
theorem dX12_ahead_56 : decode cX12_ahead 56 = .ok (.aload_n 0, 1) := by decide +kernel
theorem dX12_ahead_57 : decode cX12_ahead 57 = .ok (.iload_n 1, 1) := by decide +kernel
theorem dX12_ahead_58 : decode cX12_ahead 58 = .ok (.putfield 165, 3) := by decide +kernel
theorem dX12_ahead_61 : decode cX12_ahead 61 = .ok (.iload_n 1, 1) := by decide +kernel
theorem dX12_ahead_62 : decode cX12_ahead 62 = .ok (.iconst (-1), 1) := by decide +kernel
theorem dX12_ahead_63 : decode cX12_ahead 63 = .ok (.if_icmp .ne 11, 3) := by decide +kernel
theorem dX12_ahead_66 : decode cX12_ahead 66 = .ok (.aload_n 0, 1) := by decide +kernel
theorem dX12_ahead_67 : decode cX12_ahead 67 = .ok (.iconst 0, 1) := by decide +kernel
theorem dX12_ahead_68 : decode cX12_ahead 68 = .ok (.putfield 168, 3) := by decide +kernel
theorem dX12_ahead_71 : decode cX12_ahead 71 = .ok (.goto 162, 3) := by decide +kernel
theorem dX12_ahead_74 : decode cX12_ahead 74 = .ok (.iload_n 1, 1) := by decide +kernel
theorem dX12_ahead_75 : decode cX12_ahead 75 = .ok (.invokestatic 171, 3) := by decide +kernel
theorem dX12_ahead_78 : decode cX12_ahead 78 = .ok (.ifCond .eq 38, 3) := by decide +kernel
theorem dX12_ahead_81 : decode cX12_ahead 81 = .ok (.aload_n 0, 1) := by decide +kernel
theorem dX12_ahead_82 : decode cX12_ahead 82 = .ok (.aload_n 0, 1) := by decide +kernel
theorem dX12_ahead_83 : decode cX12_ahead 83 = .ok (.getfield 156, 3) := by decide +kernel
theorem dX12_ahead_86 : decode cX12_ahead 86 = .ok (.invokevirtual 159, 3) := by decide +kernel
theorem dX12_ahead_89 : decode cX12_ahead 89 = .ok (.invokestatic 171, 3) := by decide +kernel
theorem dX12_ahead_92 : decode cX12_ahead 92 = .ok (.ifCond .eq 16, 3) := by decide +kernel
theorem dX12_ahead_95 : decode cX12_ahead 95 = .ok (.aload_n 0, 1) := by decide +kernel
theorem dX12_ahead_96 : decode cX12_ahead 96 = .ok (.dup, 1) := by decide +kernel
theorem dX12_ahead_97 : decode cX12_ahead 97 = .ok (.getfield 156, 3) := by decide +kernel
theorem dX12_ahead_100 : decode cX12_ahead 100 = .ok (.iconst 1, 1) := by decide +kernel
theorem dX12_ahead_101 : decode cX12_ahead 101 = .ok (.iadd, 1) := by decide +kernel
theorem dX12_ahead_102 : decode cX12_ahead 102 = .ok (.putfield 156, 3) := by decide +kernel
theorem dX12_ahead_105 : decode cX12_ahead 105 = .ok (.goto (-24), 3) := by decide +kernel
theorem dX12_ahead_108 : decode cX12_ahead 108 = .ok (.aload_n 0, 1) := by decide +kernel
theorem dX12_ahead_109 : decode cX12_ahead 109 = .ok (.iconst 2, 1) := by decide +kernel
theorem dX12_ahead_110 : decode cX12_ahead 110 = .ok (.putfield 168, 3) := by decide +kernel
theorem dX12_ahead_113 : decode cX12_ahead 113 = .ok (.goto 120, 3) := by decide +kernel
theorem dX12_ahead_116 : decode cX12_ahead 116 = .ok (.iload_n 1, 1) := by decide +kernel
theorem dX12_ahead_117 : decode cX12_ahead 117 = .ok (.invokestatic 174, 3) := by decide +kernel
theorem dX12_ahead_120 : decode cX12_ahead 120 = .ok (.ifCond .eq 88, 3) := by decide +kernel
theorem dX12_ahead_123 : decode cX12_ahead 123 = .ok (.aload_n 0, 1) := by decide +kernel
theorem dX12_ahead_124 : decode cX12_ahead 124 = .ok (.iconst 0, 1) := by decide +kernel
theorem dX12_ahead_125 : decode cX12_ahead 125 = .ok (.putfield 165, 3) := by decide +kernel
theorem dX12_ahead_128 : decode cX12_ahead 128 = .ok (.aload_n 0, 1) := by decide +kernel
theorem dX12_ahead_129 : decode cX12_ahead 129 = .ok (.aload_n 0, 1) := by decide +kernel
theorem dX12_ahead_130 : decode cX12_ahead 130 = .ok (.getfield 156, 3) := by decide +kernel
theorem dX12_ahead_133 : decode cX12_ahead 133 = .ok (.invokevirtual 159, 3) := by decide +kernel
theorem dX12_ahead_136 : decode cX12_ahead 136 = .ok (.invokestatic 174, 3) := by decide +kernel
theorem dX12_ahead_139 : decode cX12_ahead 139 = .ok (.ifCond .eq 44, 3) := by decide +kernel
theorem dX12_ahead_142 : decode cX12_ahead 142 = .ok (.aload_n 0, 1) := by decide +kernel
theorem dX12_ahead_143 : decode cX12_ahead 143 = .ok (.ldc 177, 2) := by decide +kernel
theorem dX12_ahead_145 : decode cX12_ahead 145 = .ok (.bipush 10, 2) := by decide +kernel
theorem dX12_ahead_147 : decode cX12_ahead 147 = .ok (.aload_n 0, 1) := by decide +kernel
theorem dX12_ahead_148 : decode cX12_ahead 148 = .ok (.getfield 165, 3) := by decide +kernel
theorem dX12_ahead_151 : decode cX12_ahead 151 = .ok (.imul, 1) := by decide +kernel
theorem dX12_ahead_152 : decode cX12_ahead 152 = .ok (.aload_n 0, 1) := by decide +kernel
theorem dX12_ahead_153 : decode cX12_ahead 153 = .ok (.aload_n 0, 1) := by decide +kernel
theorem dX12_ahead_154 : decode cX12_ahead 154 = .ok (.getfield 156, 3) := by decide +kernel
theorem dX12_ahead_157 : decode cX12_ahead 157 = .ok (.invokevirtual 159, 3) := by decide +kernel
theorem dX12_ahead_160 : decode cX12_ahead 160 = .ok (.iadd, 1) := by decide +kernel
theorem dX12_ahead_161 : decode cX12_ahead 161 = .ok (.bipush 48, 2) := by decide +kernel
theorem dX12_ahead_163 : decode cX12_ahead 163 = .ok (.isub, 1) := by decide +kernel
theorem dX12_ahead_164 : decode cX12_ahead 164 = .ok (.invokestatic 178, 3) := by decide +kernel
theorem dX12_ahead_167 : decode cX12_ahead 167 = .ok (.putfield 165, 3) := by decide +kernel
theorem dX12_ahead_170 : decode cX12_ahead 170 = .ok (.aload_n 0, 1) := by decide +kernel
theorem dX12_ahead_171 : decode cX12_ahead 171 = .ok (.dup, 1) := by decide +kernel
theorem dX12_ahead_172 : decode cX12_ahead 172 = .ok (.getfield 156, 3) := by decide +kernel
theorem dX12_ahead_175 : decode cX12_ahead 175 = .ok (.iconst 1, 1) := by decide +kernel
theorem dX12_ahead_176 : decode cX12_ahead 176 = .ok (.iadd, 1) := by decide +kernel
theorem dX12_ahead_177 : decode cX12_ahead 177 = .ok (.putfield 156, 3) := by decide +kernel
theorem dX12_ahead_180 : decode cX12_ahead 180 = .ok (.goto (-52), 3) := by decide +kernel
theorem dX12_ahead_183 : decode cX12_ahead 183 = .ok (.aload_n 0, 1) := by decide +kernel
theorem dX12_ahead_184 : decode cX12_ahead 184 = .ok (.aload_n 0, 1) := by decide +kernel
theorem dX12_ahead_185 : decode cX12_ahead 185 = .ok (.getfield 156, 3) := by decide +kernel
theorem dX12_ahead_188 : decode cX12_ahead 188 = .ok (.aload_n 0, 1) := by decide +kernel
theorem dX12_ahead_189 : decode cX12_ahead 189 = .ok (.getfield 162, 3) := by decide +kernel
theorem dX12_ahead_192 : decode cX12_ahead 192 = .ok (.isub, 1) := by decide +kernel
theorem dX12_ahead_193 : decode cX12_ahead 193 = .ok (.iconst 4, 1) := by decide +kernel
theorem dX12_ahead_194 : decode cX12_ahead 194 = .ok (.if_icmp .le 7, 3) := by decide +kernel
theorem dX12_ahead_197 : decode cX12_ahead 197 = .ok (.iconst 1, 1) := by decide +kernel
theorem dX12_ahead_198 : decode cX12_ahead 198 = .ok (.goto 4, 3) := by decide +kernel
theorem dX12_ahead_201 : decode cX12_ahead 201 = .ok (.iconst 3, 1) := by decide +kernel
theorem dX12_ahead_202 : decode cX12_ahead 202 = .ok (.putfield 168, 3) := by decide +kernel
theorem dX12_ahead_205 : decode cX12_ahead 205 = .ok (.goto 28, 3) := by decide +kernel
theorem dX12_ahead_208 : decode cX12_ahead 208 = .ok (.aload_n 0, 1) := by decide +kernel
theorem dX12_ahead_209 : decode cX12_ahead 209 = .ok (.dup, 1) := by decide +kernel
theorem dX12_ahead_210 : decode cX12_ahead 210 = .ok (.getfield 156, 3) := by decide +kernel
theorem dX12_ahead_213 : decode cX12_ahead 213 = .ok (.iconst 1, 1) := by decide +kernel
theorem dX12_ahead_214 : decode cX12_ahead 214 = .ok (.iadd, 1) := by decide +kernel
theorem dX12_ahead_215 : decode cX12_ahead 215 = .ok (.putfield 156, 3) := by decide +kernel
theorem dX12_ahead_218 : decode cX12_ahead 218 = .ok (.aload_n 0, 1) := by decide +kernel
theorem dX12_ahead_219 : decode cX12_ahead 219 = .ok (.iload_n 1, 1) := by decide +kernel
theorem dX12_ahead_220 : decode cX12_ahead 220 = .ok (.bipush 59, 2) := by decide +kernel
theorem dX12_ahead_222 : decode cX12_ahead 222 = .ok (.if_icmp .ne 7, 3) := by decide +kernel
theorem dX12_ahead_225 : decode cX12_ahead 225 = .ok (.iconst 4, 1) := by decide +kernel
theorem dX12_ahead_226 : decode cX12_ahead 226 = .ok (.goto 4, 3) := by decide +kernel
theorem dX12_ahead_229 : decode cX12_ahead 229 = .ok (.iconst 1, 1) := by decide +kernel
theorem dX12_ahead_230 : decode cX12_ahead 230 = .ok (.putfield 168, 3) := by decide +kernel
theorem dX12_ahead_233 : decode cX12_ahead 233 = .ok (.return_, 1) := by decide +kernel
abbrev f_c_X12_ahead : List (Nat × Int) := [(64, 12), (64, 13), (64, 14), (64, 15)]
set_option maxHeartbeats 4000000 in
set_option maxRecDepth 100000 in
theorem c_X12_ahead (G : KG) (l : Launch) (M : Mem) (c0 : Int) (hI_M : Inv true M) (hk_c0 : kd c0 = 64) : KC true G l yX12_ahead cX12_ahead 2 none (1, 21) [vR G c0] M (fun A => kQv true G A (fun (N : Mem) => Inv true N ∧ Fr f_c_X12_ahead M N ∧ (((N c0 12) = 0 ∧ (N c0 14) ≥ (M c0 14)) ∨ ((N c0 12) ≥ 1 ∧ (N c0 12) ≤ 4 ∧ (N c0 14) ≥ (M c0 14) + 1)))) := by
  refine kx_met (lo := [some (vR G c0), none]) (by decide) (Nat.le_of_ble_eq_true rfl) rfl ?_
  intro X F hQ
  have hF_M : Fr f_c_X12_ahead M M := Fr.rf _ _
  have L_776 : ∀ (n_777 : Nat) (N_775 : Mem), Inv true N_775 → Fr f_c_X12_ahead M N_775 → (N_775 c0 14) ≤ 900 ∧ (N_775 c0 14) ≥ (M c0 14) → (900 - N_775 c0 14).toNat = n_777 → KJ true G X N_775 0 [some (vR G c0), none] [] := by
    intro n_777
    refine Nat.strongRecOn n_777 ?_
    intro n_777 ih_778  N_775 hI_N_775 hF_N_775 h_779 hm_780
    refine kx_aload_n 1 F 0 dX12_ahead_0 rfl rfl rfl ?_
    refine kx_aload_n 2 F 0 dX12_ahead_1 rfl rfl rfl ?_
    refine kx_geti 5 F fl_X12_156 hk_c0 rfl rfl (j := 14) rfl dX12_ahead_2 (v := (N_775 c0 14)) rfl rfl ?_
    have h_781 := Inv.g hI_N_775 hk_c0 rfl 14 (a := 0) (b := 900) rfl rfl
    refine kx_Vi 8 (ci := 0) F (As := [vI (N_775 c0 14)]) (st := []) vd_X12_159 (c_X12_byteAt G l N_775 c0 (N_775 c0 14) hI_N_775 hk_c0 (by omega)) hk_c0 rfl rfl rfl ⟨by decide, by decide⟩ rfl rfl (Nat.le_of_ble_eq_true rfl) dX12_ahead_5 rfl ?_
    intro r_782 N_783 q_784
    obtain ⟨rfl, q_784c⟩ := q_784
    have e_785 : (tbv N_775 c0 (N_775 c0 14)) = (tbv M c0 (N_775 c0 14)) := tbv_fr hI_M hF_N_775 hk_c0 rfl rfl
    have e_786 : (N_775 c0 11) = (M c0 11) := by rw [Fr.e hF_N_775 hk_c0 _ rfl]
    have h_787 := Inv.g hI_M hk_c0 rfl 11 (a := 0) (b := 900) rfl rfl
    have e_788 : (N_775 c0 11) = (M c0 11) := by rw [Fr.e hF_N_775 hk_c0 _ rfl]
    have e_789 : (N_775 c0 11) = (M c0 11) := by rw [Fr.e hF_N_775 hk_c0 _ rfl]
    have h_790 := Inv.g hI_M hk_c0 rfl 11 (a := 0) (b := 900) rfl rfl
    have e_791 : (N_775 c0 11) = (M c0 11) := by rw [Fr.e hF_N_775 hk_c0 _ rfl]
    rcases q_784c with q_784c | q_784c
    · refine kx_bipush 10 F dX12_ahead_8 (by decide) rfl ?_
      refine kx_icmp_eq 13 F 26 dX12_ahead_10 (by decide) rfl (by omega) (by decide) (fun h_1172 => (by exfalso; omega)) (fun h_1172 => ?_)
      refine kx_aload_n 14 F 0 dX12_ahead_13 rfl rfl rfl ?_
      refine kx_aload_n 15 F 0 dX12_ahead_14 rfl rfl rfl ?_
      refine kx_geti 18 F fl_X12_156 hk_c0 rfl rfl (j := 14) rfl dX12_ahead_15 (v := (N_775 c0 14)) rfl rfl ?_
      refine kx_Vi 21 (ci := 0) F (As := [vI (N_775 c0 14)]) (st := []) vd_X12_159 (c_X12_byteAt G l N_775 c0 (N_775 c0 14) hI_N_775 hk_c0 (by omega)) hk_c0 rfl rfl rfl ⟨by decide, by decide⟩ rfl rfl (Nat.le_of_ble_eq_true rfl) dX12_ahead_18 rfl ?_
      intro r_1173 N_1174 q_1175
      obtain ⟨rfl, q_1175c⟩ := q_1175
      have e_1176 : (N_775 c0 11) = (M c0 11) := by rw [Fr.e hF_N_775 hk_c0 _ rfl]
      have e_1177 : (N_775 c0 11) = (M c0 11) := by rw [Fr.e hF_N_775 hk_c0 _ rfl]
      have e_1178 : (N_775 c0 11) = (M c0 11) := by rw [Fr.e hF_N_775 hk_c0 _ rfl]
      have e_1179 : (N_775 c0 11) = (M c0 11) := by rw [Fr.e hF_N_775 hk_c0 _ rfl]
      rcases q_1175c with q_1175c | q_1175c
      · refine kx_bipush 23 F dX12_ahead_21 (by decide) rfl ?_
        refine kx_icmp_ne 26 F 39 dX12_ahead_23 (by decide) rfl (by omega) (by decide) (fun h_1180 => ?_) (fun h_1180 => (by exfalso; omega))
        refine kx_aload_n 40 F 0 dX12_ahead_39 rfl rfl rfl ?_
        refine kx_aload_n 41 F 0 dX12_ahead_40 rfl rfl rfl ?_
        refine kx_geti 44 F fl_X12_156 hk_c0 rfl rfl (j := 14) rfl dX12_ahead_41 (v := (N_775 c0 14)) rfl rfl ?_
        refine kx_puti 47 F fw_X12_162 rfl hk_c0 rfl rfl (j := 13) rfl dX12_ahead_44 rfl ?_
        intro N_1181 hM_N_1181
        have hI_N_1181 : Inv true N_1181 := Inv.u hI_N_775 hM_N_1181 hk_c0 (a := 0) (b := 900) rfl rfl rfl (by omega)
        have hF_N_1181 : Fr f_c_X12_ahead M N_1181 := Fr.u hF_N_775 hM_N_1181 hk_c0 rfl
        refine kx_aload_n 48 F 0 dX12_ahead_47 rfl rfl rfl ?_
        refine kx_aload_n 49 F 0 dX12_ahead_48 rfl rfl rfl ?_
        refine kx_geti 52 F fl_X12_156 hk_c0 rfl rfl (j := 14) rfl dX12_ahead_49 (v := (N_775 c0 14)) (by rw [hM_N_1181, mu_i (by omega)]) rfl ?_
        refine kx_Vi 55 (ci := 0) F (As := [vI (N_775 c0 14)]) (st := []) vd_X12_159 (c_X12_byteAt G l N_1181 c0 (N_775 c0 14) hI_N_1181 hk_c0 (by omega)) hk_c0 rfl rfl rfl ⟨by decide, by decide⟩ rfl rfl (Nat.le_of_ble_eq_true rfl) dX12_ahead_52 rfl ?_
        intro r_1182 N_1183 q_1184
        obtain ⟨rfl, q_1184c⟩ := q_1184
        have e_1185 : (tbv N_1181 c0 (N_775 c0 14)) = (tbv M c0 (N_775 c0 14)) := tbv_fr hI_M hF_N_1181 hk_c0 rfl rfl
        have e_1186 : (N_1181 c0 11) = (M c0 11) := by rw [hM_N_1181, mu_i (by omega), Fr.e hF_N_775 hk_c0 _ rfl]
        have e_1187 : (N_1181 c0 11) = (M c0 11) := by rw [hM_N_1181, mu_i (by omega), Fr.e hF_N_775 hk_c0 _ rfl]
        have e_1188 : (N_1181 c0 11) = (M c0 11) := by rw [hM_N_1181, mu_i (by omega), Fr.e hF_N_775 hk_c0 _ rfl]
        have e_1189 : (N_1181 c0 11) = (M c0 11) := by rw [hM_N_1181, mu_i (by omega), Fr.e hF_N_775 hk_c0 _ rfl]
        rcases q_1184c with q_1184c | q_1184c
        · refine kx_istore_n 56 F 1 (lo' := [some (vR G c0), some (vI r_1182)]) dX12_ahead_55 rfl (by decide) rfl rfl rfl ?_
          refine kx_aload_n 57 F 0 dX12_ahead_56 rfl rfl rfl ?_
          refine kx_iload_n 58 F 1 dX12_ahead_57 rfl rfl rfl ?_
          refine kx_puti 61 F fw_X12_165 rfl hk_c0 rfl rfl (j := 15) rfl dX12_ahead_58 rfl ?_
          intro N_1190 hM_N_1190
          have hI_N_1190 : Inv true N_1190 := Inv.u hI_N_1181 hM_N_1190 hk_c0 (a := (-2147483648)) (b := 2147483647) rfl rfl rfl (by omega)
          have hF_N_1190 : Fr f_c_X12_ahead M N_1190 := Fr.u hF_N_1181 hM_N_1190 hk_c0 rfl
          refine kx_iload_n 62 F 1 dX12_ahead_61 rfl rfl rfl ?_
          refine kx_iconst 63 F dX12_ahead_62 rfl ?_
          refine kx_icmp_ne 66 F 74 dX12_ahead_63 (by decide) rfl (by omega) (by decide) (fun h_1191 => (by exfalso; omega)) (fun h_1191 => ?_)
          refine kx_aload_n 67 F 0 dX12_ahead_66 rfl rfl rfl ?_
          refine kx_iconst 68 F dX12_ahead_67 rfl ?_
          refine kx_puti 71 F fw_X12_168 rfl hk_c0 rfl rfl (j := 12) rfl dX12_ahead_68 rfl ?_
          intro N_1192 hM_N_1192
          have hI_N_1192 : Inv true N_1192 := Inv.u hI_N_1190 hM_N_1192 hk_c0 (a := 0) (b := 4) rfl rfl rfl (by omega)
          have hF_N_1192 : Fr f_c_X12_ahead M N_1192 := Fr.u hF_N_1190 hM_N_1192 hk_c0 rfl
          refine kx_goto 233 F dX12_ahead_71 (by decide) ?_
          have e_1193 : (N_1192 c0 12) = 0 := by rw [hM_N_1192, mu_s]
          have e_1194 : (N_1192 c0 14) = (N_775 c0 14) := by rw [hM_N_1192, mu_i (by omega), hM_N_1190, mu_i (by omega), hM_N_1181, mu_i (by omega)]
          have e_1195 : (N_1192 c0 12) = 0 := by rw [hM_N_1192, mu_s]
          have e_1196 : (N_1192 c0 12) = 0 := by rw [hM_N_1192, mu_s]
          have e_1197 : (N_1192 c0 14) = (N_775 c0 14) := by rw [hM_N_1192, mu_i (by omega), hM_N_1190, mu_i (by omega), hM_N_1181, mu_i (by omega)]
          exact kx_vret F hQ ⟨hI_N_1192, hF_N_1192, (by omega)⟩ dX12_ahead_233
        · refine kx_istore_n 56 F 1 (lo' := [some (vR G c0), some (vI r_1182)]) dX12_ahead_55 rfl (by decide) rfl rfl rfl ?_
          refine kx_aload_n 57 F 0 dX12_ahead_56 rfl rfl rfl ?_
          refine kx_iload_n 58 F 1 dX12_ahead_57 rfl rfl rfl ?_
          refine kx_puti 61 F fw_X12_165 rfl hk_c0 rfl rfl (j := 15) rfl dX12_ahead_58 rfl ?_
          intro N_1198 hM_N_1198
          have hI_N_1198 : Inv true N_1198 := Inv.u hI_N_1181 hM_N_1198 hk_c0 (a := (-2147483648)) (b := 2147483647) rfl rfl rfl (by omega)
          have hF_N_1198 : Fr f_c_X12_ahead M N_1198 := Fr.u hF_N_1181 hM_N_1198 hk_c0 rfl
          refine kx_iload_n 62 F 1 dX12_ahead_61 rfl rfl rfl ?_
          refine kx_iconst 63 F dX12_ahead_62 rfl ?_
          refine kx_icmp_ne 66 F 74 dX12_ahead_63 (by decide) rfl (by omega) (by decide) (fun h_1199 => ?_) (fun h_1199 => (by exfalso; omega))
          refine kx_iload_n 75 F 1 dX12_ahead_74 rfl rfl rfl ?_
          refine kx_Si 78 F (As := [vI r_1182]) (st := []) sd_X12_171 (c_X12_isSmall G l N_1198 r_1182 hI_N_1198 (by omega)) ⟨by decide, by decide⟩ rfl rfl (Nat.le_of_ble_eq_true rfl) dX12_ahead_75 rfl ?_
          intro r_1200 N_1201 q_1202
          obtain ⟨rfl, q_1202c⟩ := q_1202
          rcases q_1202c with q_1202c | q_1202c | q_1202c
          · refine kx_if_eq 81 F 116 dX12_ahead_78 (by decide) rfl (by omega) (fun h_1203 => (by exfalso; omega)) (fun h_1203 => ?_)
            refine kx_aload_n 82 F 0 dX12_ahead_81 rfl rfl rfl ?_
            refine kx_aload_n 83 F 0 dX12_ahead_82 rfl rfl rfl ?_
            refine kx_geti 86 F fl_X12_156 hk_c0 rfl rfl (j := 14) rfl dX12_ahead_83 (v := (N_775 c0 14)) (by rw [hM_N_1198, mu_i (by omega), hM_N_1181, mu_i (by omega)]) rfl ?_
            refine kx_Vi 89 (ci := 0) F (As := [vI (N_775 c0 14)]) (st := []) vd_X12_159 (c_X12_byteAt G l N_1198 c0 (N_775 c0 14) hI_N_1198 hk_c0 (by omega)) hk_c0 rfl rfl rfl ⟨by decide, by decide⟩ rfl rfl (Nat.le_of_ble_eq_true rfl) dX12_ahead_86 rfl ?_
            intro r_1204 N_1205 q_1206
            obtain ⟨rfl, q_1206c⟩ := q_1206
            have e_1207 : (tbv N_1198 c0 (N_775 c0 14)) = (tbv M c0 (N_775 c0 14)) := tbv_fr hI_M hF_N_1198 hk_c0 rfl rfl
            have e_1208 : (N_1198 c0 11) = (M c0 11) := by rw [hM_N_1198, mu_i (by omega), hM_N_1181, mu_i (by omega), Fr.e hF_N_775 hk_c0 _ rfl]
            have e_1209 : (N_1198 c0 11) = (M c0 11) := by rw [hM_N_1198, mu_i (by omega), hM_N_1181, mu_i (by omega), Fr.e hF_N_775 hk_c0 _ rfl]
            have e_1210 : (N_1198 c0 11) = (M c0 11) := by rw [hM_N_1198, mu_i (by omega), hM_N_1181, mu_i (by omega), Fr.e hF_N_775 hk_c0 _ rfl]
            have e_1211 : (N_1198 c0 11) = (M c0 11) := by rw [hM_N_1198, mu_i (by omega), hM_N_1181, mu_i (by omega), Fr.e hF_N_775 hk_c0 _ rfl]
            rcases q_1206c with q_1206c | q_1206c
            · refine kx_Si 92 F (As := [vI r_1204]) (st := []) sd_X12_171 (c_X12_isSmall G l N_1198 r_1204 hI_N_1198 (by omega)) ⟨by decide, by decide⟩ rfl rfl (Nat.le_of_ble_eq_true rfl) dX12_ahead_89 rfl ?_
              intro r_1212 N_1213 q_1214
              obtain ⟨rfl, q_1214c⟩ := q_1214
              rcases q_1214c with q_1214c | q_1214c | q_1214c
              · exfalso; omega
              · refine kx_if_eq 95 F 108 dX12_ahead_92 (by decide) rfl (by omega) (fun h_1215 => ?_) (fun h_1215 => (by exfalso; omega))
                refine kx_aload_n 109 F 0 dX12_ahead_108 rfl rfl rfl ?_
                refine kx_iconst 110 F dX12_ahead_109 rfl ?_
                refine kx_puti 113 F fw_X12_168 rfl hk_c0 rfl rfl (j := 12) rfl dX12_ahead_110 rfl ?_
                intro N_1216 hM_N_1216
                have hI_N_1216 : Inv true N_1216 := Inv.u hI_N_1198 hM_N_1216 hk_c0 (a := 0) (b := 4) rfl rfl rfl (by omega)
                have hF_N_1216 : Fr f_c_X12_ahead M N_1216 := Fr.u hF_N_1198 hM_N_1216 hk_c0 rfl
                refine kx_goto 233 F dX12_ahead_113 (by decide) ?_
                have e_1217 : (N_1216 c0 12) = 2 := by rw [hM_N_1216, mu_s]
                have e_1218 : (N_1216 c0 14) = (N_775 c0 14) := by rw [hM_N_1216, mu_i (by omega), hM_N_1198, mu_i (by omega), hM_N_1181, mu_i (by omega)]
                have e_1219 : (N_1216 c0 12) = 2 := by rw [hM_N_1216, mu_s]
                have e_1220 : (N_1216 c0 12) = 2 := by rw [hM_N_1216, mu_s]
                have e_1221 : (N_1216 c0 14) = (N_775 c0 14) := by rw [hM_N_1216, mu_i (by omega), hM_N_1198, mu_i (by omega), hM_N_1181, mu_i (by omega)]
                exact kx_vret F hQ ⟨hI_N_1216, hF_N_1216, (by omega)⟩ dX12_ahead_233
              · exfalso; omega
            · refine kx_Si 92 F (As := [vI r_1204]) (st := []) sd_X12_171 (c_X12_isSmall G l N_1198 r_1204 hI_N_1198 (by omega)) ⟨by decide, by decide⟩ rfl rfl (Nat.le_of_ble_eq_true rfl) dX12_ahead_89 rfl ?_
              intro r_1222 N_1223 q_1224
              obtain ⟨rfl, q_1224c⟩ := q_1224
              rcases q_1224c with q_1224c | q_1224c | q_1224c
              · refine kx_if_eq 95 F 108 dX12_ahead_92 (by decide) rfl (by omega) (fun h_1225 => (by exfalso; omega)) (fun h_1225 => ?_)
                refine kx_aload_n 96 F 0 dX12_ahead_95 rfl rfl rfl ?_
                refine kx_dup 97 F dX12_ahead_96 rfl rfl ?_
                refine kx_geti 100 F fl_X12_156 hk_c0 rfl rfl (j := 14) rfl dX12_ahead_97 (v := (N_775 c0 14)) (by rw [hM_N_1198, mu_i (by omega), hM_N_1181, mu_i (by omega)]) rfl ?_
                refine kx_iconst 101 F dX12_ahead_100 rfl ?_
                refine kx_iadd 102 F (v := (N_775 c0 14) + 1) dX12_ahead_101 rfl rfl ?_
                refine kx_puti 105 F fw_X12_156 rfl hk_c0 rfl rfl (j := 14) rfl dX12_ahead_102 rfl ?_
                intro N_1226 hM_N_1226
                have hI_N_1226 : Inv true N_1226 := Inv.u hI_N_1198 hM_N_1226 hk_c0 (a := 0) (b := 900) rfl rfl rfl (by omega)
                have hF_N_1226 : Fr f_c_X12_ahead M N_1226 := Fr.u hF_N_1198 hM_N_1226 hk_c0 rfl
                refine kx_goto 81 F dX12_ahead_105 (by decide) ?_
                have L_1267 : ∀ (n_1268 : Nat) (N_1266 : Mem), Inv true N_1266 → Fr f_c_X12_ahead M N_1266 → (N_1266 c0 14) ≤ 900 ∧ (N_1266 c0 14) ≥ (N_1266 c0 13) + 1 ∧ (N_1266 c0 13) ≥ (M c0 14) → (900 - N_1266 c0 14).toNat = n_1268 → KJ true G X N_1266 81 [some (vR G c0), none] [] := by
                  intro n_1268
                  refine Nat.strongRecOn n_1268 ?_
                  intro n_1268 ih_1269  N_1266 hI_N_1266 hF_N_1266 h_1270 hm_1271
                  refine kx_aload_n 82 F 0 dX12_ahead_81 rfl rfl rfl ?_
                  refine kx_aload_n 83 F 0 dX12_ahead_82 rfl rfl rfl ?_
                  refine kx_geti 86 F fl_X12_156 hk_c0 rfl rfl (j := 14) rfl dX12_ahead_83 (v := (N_1266 c0 14)) rfl rfl ?_
                  have h_1272 := Inv.g hI_N_1266 hk_c0 rfl 14 (a := 0) (b := 900) rfl rfl
                  refine kx_Vi 89 (ci := 0) F (As := [vI (N_1266 c0 14)]) (st := []) vd_X12_159 (c_X12_byteAt G l N_1266 c0 (N_1266 c0 14) hI_N_1266 hk_c0 (by omega)) hk_c0 rfl rfl rfl ⟨by decide, by decide⟩ rfl rfl (Nat.le_of_ble_eq_true rfl) dX12_ahead_86 rfl ?_
                  intro r_1273 N_1274 q_1275
                  obtain ⟨rfl, q_1275c⟩ := q_1275
                  have e_1276 : (tbv N_1266 c0 (N_1266 c0 14)) = (tbv M c0 (N_1266 c0 14)) := tbv_fr hI_M hF_N_1266 hk_c0 rfl rfl
                  have e_1277 : (N_1266 c0 11) = (M c0 11) := by rw [Fr.e hF_N_1266 hk_c0 _ rfl]
                  have e_1278 : (N_1266 c0 11) = (M c0 11) := by rw [Fr.e hF_N_1266 hk_c0 _ rfl]
                  have e_1279 : (N_1266 c0 11) = (M c0 11) := by rw [Fr.e hF_N_1266 hk_c0 _ rfl]
                  have e_1280 : (N_1266 c0 11) = (M c0 11) := by rw [Fr.e hF_N_1266 hk_c0 _ rfl]
                  rcases q_1275c with q_1275c | q_1275c
                  · refine kx_Si 92 F (As := [vI r_1273]) (st := []) sd_X12_171 (c_X12_isSmall G l N_1266 r_1273 hI_N_1266 (by omega)) ⟨by decide, by decide⟩ rfl rfl (Nat.le_of_ble_eq_true rfl) dX12_ahead_89 rfl ?_
                    intro r_1281 N_1282 q_1283
                    obtain ⟨rfl, q_1283c⟩ := q_1283
                    rcases q_1283c with q_1283c | q_1283c | q_1283c
                    · exfalso; omega
                    · refine kx_if_eq 95 F 108 dX12_ahead_92 (by decide) rfl (by omega) (fun h_1284 => ?_) (fun h_1284 => (by exfalso; omega))
                      refine kx_aload_n 109 F 0 dX12_ahead_108 rfl rfl rfl ?_
                      refine kx_iconst 110 F dX12_ahead_109 rfl ?_
                      refine kx_puti 113 F fw_X12_168 rfl hk_c0 rfl rfl (j := 12) rfl dX12_ahead_110 rfl ?_
                      intro N_1285 hM_N_1285
                      have hI_N_1285 : Inv true N_1285 := Inv.u hI_N_1266 hM_N_1285 hk_c0 (a := 0) (b := 4) rfl rfl rfl (by omega)
                      have hF_N_1285 : Fr f_c_X12_ahead M N_1285 := Fr.u hF_N_1266 hM_N_1285 hk_c0 rfl
                      refine kx_goto 233 F dX12_ahead_113 (by decide) ?_
                      have e_1286 : (N_1285 c0 12) = 2 := by rw [hM_N_1285, mu_s]
                      have e_1287 : (N_1285 c0 14) = (N_1266 c0 14) := by rw [hM_N_1285, mu_i (by omega)]
                      have e_1288 : (N_1285 c0 12) = 2 := by rw [hM_N_1285, mu_s]
                      have e_1289 : (N_1285 c0 12) = 2 := by rw [hM_N_1285, mu_s]
                      have e_1290 : (N_1285 c0 14) = (N_1266 c0 14) := by rw [hM_N_1285, mu_i (by omega)]
                      exact kx_vret F hQ ⟨hI_N_1285, hF_N_1285, (by omega)⟩ dX12_ahead_233
                    · exfalso; omega
                  · refine kx_Si 92 F (As := [vI r_1273]) (st := []) sd_X12_171 (c_X12_isSmall G l N_1266 r_1273 hI_N_1266 (by omega)) ⟨by decide, by decide⟩ rfl rfl (Nat.le_of_ble_eq_true rfl) dX12_ahead_89 rfl ?_
                    intro r_1291 N_1292 q_1293
                    obtain ⟨rfl, q_1293c⟩ := q_1293
                    rcases q_1293c with q_1293c | q_1293c | q_1293c
                    · refine kx_if_eq 95 F 108 dX12_ahead_92 (by decide) rfl (by omega) (fun h_1294 => (by exfalso; omega)) (fun h_1294 => ?_)
                      refine kx_aload_n 96 F 0 dX12_ahead_95 rfl rfl rfl ?_
                      refine kx_dup 97 F dX12_ahead_96 rfl rfl ?_
                      refine kx_geti 100 F fl_X12_156 hk_c0 rfl rfl (j := 14) rfl dX12_ahead_97 (v := (N_1266 c0 14)) rfl rfl ?_
                      refine kx_iconst 101 F dX12_ahead_100 rfl ?_
                      refine kx_iadd 102 F (v := (N_1266 c0 14) + 1) dX12_ahead_101 rfl rfl ?_
                      refine kx_puti 105 F fw_X12_156 rfl hk_c0 rfl rfl (j := 14) rfl dX12_ahead_102 rfl ?_
                      intro N_1295 hM_N_1295
                      have hI_N_1295 : Inv true N_1295 := Inv.u hI_N_1266 hM_N_1295 hk_c0 (a := 0) (b := 900) rfl rfl rfl (by omega)
                      have hF_N_1295 : Fr f_c_X12_ahead M N_1295 := Fr.u hF_N_1266 hM_N_1295 hk_c0 rfl
                      refine kx_goto 81 F dX12_ahead_105 (by decide) ?_
                      have e_1296 : (N_1295 c0 14) = (N_1266 c0 14) + 1 := by rw [hM_N_1295, mu_s]
                      have e_1297 : (N_1295 c0 14) = (N_1266 c0 14) + 1 := by rw [hM_N_1295, mu_s]
                      have e_1298 : (N_1295 c0 13) = (N_1266 c0 13) := by rw [hM_N_1295, mu_i (by omega)]
                      have h_1299 := Inv.g hI_N_1266 hk_c0 rfl 13 (a := 0) (b := 900) rfl rfl
                      have e_1300 : (N_1295 c0 13) = (N_1266 c0 13) := by rw [hM_N_1295, mu_i (by omega)]
                      exact ih_1269 _ (by omega) N_1295 hI_N_1295 hF_N_1295 (by omega) rfl
                    · refine kx_if_eq 95 F 108 dX12_ahead_92 (by decide) rfl (by omega) (fun h_1301 => ?_) (fun h_1301 => (by exfalso; omega))
                      refine kx_aload_n 109 F 0 dX12_ahead_108 rfl rfl rfl ?_
                      refine kx_iconst 110 F dX12_ahead_109 rfl ?_
                      refine kx_puti 113 F fw_X12_168 rfl hk_c0 rfl rfl (j := 12) rfl dX12_ahead_110 rfl ?_
                      intro N_1302 hM_N_1302
                      have hI_N_1302 : Inv true N_1302 := Inv.u hI_N_1266 hM_N_1302 hk_c0 (a := 0) (b := 4) rfl rfl rfl (by omega)
                      have hF_N_1302 : Fr f_c_X12_ahead M N_1302 := Fr.u hF_N_1266 hM_N_1302 hk_c0 rfl
                      refine kx_goto 233 F dX12_ahead_113 (by decide) ?_
                      have e_1303 : (N_1302 c0 12) = 2 := by rw [hM_N_1302, mu_s]
                      have e_1304 : (N_1302 c0 14) = (N_1266 c0 14) := by rw [hM_N_1302, mu_i (by omega)]
                      have e_1305 : (N_1302 c0 12) = 2 := by rw [hM_N_1302, mu_s]
                      have e_1306 : (N_1302 c0 12) = 2 := by rw [hM_N_1302, mu_s]
                      have e_1307 : (N_1302 c0 14) = (N_1266 c0 14) := by rw [hM_N_1302, mu_i (by omega)]
                      exact kx_vret F hQ ⟨hI_N_1302, hF_N_1302, (by omega)⟩ dX12_ahead_233
                    · refine kx_if_eq 95 F 108 dX12_ahead_92 (by decide) rfl (by omega) (fun h_1308 => ?_) (fun h_1308 => (by exfalso; omega))
                      refine kx_aload_n 109 F 0 dX12_ahead_108 rfl rfl rfl ?_
                      refine kx_iconst 110 F dX12_ahead_109 rfl ?_
                      refine kx_puti 113 F fw_X12_168 rfl hk_c0 rfl rfl (j := 12) rfl dX12_ahead_110 rfl ?_
                      intro N_1309 hM_N_1309
                      have hI_N_1309 : Inv true N_1309 := Inv.u hI_N_1266 hM_N_1309 hk_c0 (a := 0) (b := 4) rfl rfl rfl (by omega)
                      have hF_N_1309 : Fr f_c_X12_ahead M N_1309 := Fr.u hF_N_1266 hM_N_1309 hk_c0 rfl
                      refine kx_goto 233 F dX12_ahead_113 (by decide) ?_
                      have e_1310 : (N_1309 c0 12) = 2 := by rw [hM_N_1309, mu_s]
                      have e_1311 : (N_1309 c0 14) = (N_1266 c0 14) := by rw [hM_N_1309, mu_i (by omega)]
                      have e_1312 : (N_1309 c0 12) = 2 := by rw [hM_N_1309, mu_s]
                      have e_1313 : (N_1309 c0 12) = 2 := by rw [hM_N_1309, mu_s]
                      have e_1314 : (N_1309 c0 14) = (N_1266 c0 14) := by rw [hM_N_1309, mu_i (by omega)]
                      exact kx_vret F hQ ⟨hI_N_1309, hF_N_1309, (by omega)⟩ dX12_ahead_233
                refine kx_drop 1 (lo' := [some (vR G c0), none]) rfl ?_
                have e_1315 : (N_1226 c0 14) = (N_775 c0 14) + 1 := by rw [hM_N_1226, mu_s]
                have e_1316 : (N_1226 c0 14) = (N_775 c0 14) + 1 := by rw [hM_N_1226, mu_s]
                have e_1317 : (N_1226 c0 13) = (N_775 c0 14) := by rw [hM_N_1226, mu_i (by omega), hM_N_1198, mu_i (by omega), hM_N_1181, mu_s]
                have e_1318 : (N_1226 c0 13) = (N_775 c0 14) := by rw [hM_N_1226, mu_i (by omega), hM_N_1198, mu_i (by omega), hM_N_1181, mu_s]
                exact L_1267 _ N_1226 hI_N_1226 hF_N_1226 (by omega) rfl
              · exfalso; omega
              · exfalso; omega
          · refine kx_if_eq 81 F 116 dX12_ahead_78 (by decide) rfl (by omega) (fun h_1319 => ?_) (fun h_1319 => (by exfalso; omega))
            refine kx_iload_n 117 F 1 dX12_ahead_116 rfl rfl rfl ?_
            refine kx_Si 120 F (As := [vI r_1182]) (st := []) sd_X12_174 (c_X12_isDigit G l N_1198 r_1182 hI_N_1198 (by omega)) ⟨by decide, by decide⟩ rfl rfl (Nat.le_of_ble_eq_true rfl) dX12_ahead_117 rfl ?_
            intro r_1320 N_1321 q_1322
            obtain ⟨rfl, q_1322c⟩ := q_1322
            rcases q_1322c with q_1322c | q_1322c | q_1322c
            · refine kx_if_eq 123 F 208 dX12_ahead_120 (by decide) rfl (by omega) (fun h_1323 => (by exfalso; omega)) (fun h_1323 => ?_)
              refine kx_aload_n 124 F 0 dX12_ahead_123 rfl rfl rfl ?_
              refine kx_iconst 125 F dX12_ahead_124 rfl ?_
              refine kx_puti 128 F fw_X12_165 rfl hk_c0 rfl rfl (j := 15) rfl dX12_ahead_125 rfl ?_
              intro N_1324 hM_N_1324
              have hI_N_1324 : Inv true N_1324 := Inv.u hI_N_1198 hM_N_1324 hk_c0 (a := (-2147483648)) (b := 2147483647) rfl rfl rfl (by omega)
              have hF_N_1324 : Fr f_c_X12_ahead M N_1324 := Fr.u hF_N_1198 hM_N_1324 hk_c0 rfl
              refine kx_aload_n 129 F 0 dX12_ahead_128 rfl rfl rfl ?_
              refine kx_aload_n 130 F 0 dX12_ahead_129 rfl rfl rfl ?_
              refine kx_geti 133 F fl_X12_156 hk_c0 rfl rfl (j := 14) rfl dX12_ahead_130 (v := (N_775 c0 14)) (by rw [hM_N_1324, mu_i (by omega), hM_N_1198, mu_i (by omega), hM_N_1181, mu_i (by omega)]) rfl ?_
              refine kx_Vi 136 (ci := 0) F (As := [vI (N_775 c0 14)]) (st := []) vd_X12_159 (c_X12_byteAt G l N_1324 c0 (N_775 c0 14) hI_N_1324 hk_c0 (by omega)) hk_c0 rfl rfl rfl ⟨by decide, by decide⟩ rfl rfl (Nat.le_of_ble_eq_true rfl) dX12_ahead_133 rfl ?_
              intro r_1325 N_1326 q_1327
              obtain ⟨rfl, q_1327c⟩ := q_1327
              have e_1328 : (tbv N_1324 c0 (N_775 c0 14)) = (tbv M c0 (N_775 c0 14)) := tbv_fr hI_M hF_N_1324 hk_c0 rfl rfl
              have e_1329 : (N_1324 c0 11) = (M c0 11) := by rw [hM_N_1324, mu_i (by omega), hM_N_1198, mu_i (by omega), hM_N_1181, mu_i (by omega), Fr.e hF_N_775 hk_c0 _ rfl]
              have e_1330 : (N_1324 c0 11) = (M c0 11) := by rw [hM_N_1324, mu_i (by omega), hM_N_1198, mu_i (by omega), hM_N_1181, mu_i (by omega), Fr.e hF_N_775 hk_c0 _ rfl]
              have e_1331 : (N_1324 c0 11) = (M c0 11) := by rw [hM_N_1324, mu_i (by omega), hM_N_1198, mu_i (by omega), hM_N_1181, mu_i (by omega), Fr.e hF_N_775 hk_c0 _ rfl]
              have e_1332 : (N_1324 c0 11) = (M c0 11) := by rw [hM_N_1324, mu_i (by omega), hM_N_1198, mu_i (by omega), hM_N_1181, mu_i (by omega), Fr.e hF_N_775 hk_c0 _ rfl]
              rcases q_1327c with q_1327c | q_1327c
              · refine kx_Si 139 F (As := [vI r_1325]) (st := []) sd_X12_174 (c_X12_isDigit G l N_1324 r_1325 hI_N_1324 (by omega)) ⟨by decide, by decide⟩ rfl rfl (Nat.le_of_ble_eq_true rfl) dX12_ahead_136 rfl ?_
                intro r_1333 N_1334 q_1335
                obtain ⟨rfl, q_1335c⟩ := q_1335
                rcases q_1335c with q_1335c | q_1335c | q_1335c
                · exfalso; omega
                · refine kx_if_eq 142 F 183 dX12_ahead_139 (by decide) rfl (by omega) (fun h_1336 => ?_) (fun h_1336 => (by exfalso; omega))
                  refine kx_aload_n 184 F 0 dX12_ahead_183 rfl rfl rfl ?_
                  refine kx_aload_n 185 F 0 dX12_ahead_184 rfl rfl rfl ?_
                  refine kx_geti 188 F fl_X12_156 hk_c0 rfl rfl (j := 14) rfl dX12_ahead_185 (v := (N_775 c0 14)) (by rw [hM_N_1324, mu_i (by omega), hM_N_1198, mu_i (by omega), hM_N_1181, mu_i (by omega)]) rfl ?_
                  refine kx_aload_n 189 F 0 dX12_ahead_188 rfl rfl rfl ?_
                  refine kx_geti 192 F fl_X12_162 hk_c0 rfl rfl (j := 13) rfl dX12_ahead_189 (v := (N_775 c0 14)) (by rw [hM_N_1324, mu_i (by omega), hM_N_1198, mu_i (by omega), hM_N_1181, mu_s]) rfl ?_
                  refine kx_isub 193 F (v := 0) dX12_ahead_192 (by omega) rfl ?_
                  refine kx_iconst 194 F dX12_ahead_193 rfl ?_
                  refine kx_icmp_le 197 F 201 dX12_ahead_194 (by decide) rfl (by decide) (by decide) (fun h_1337 => ?_) (fun h_1337 => (by exfalso; omega))
                  refine kx_iconst 202 F dX12_ahead_201 rfl ?_
                  refine kx_puti 205 F fw_X12_168 rfl hk_c0 rfl rfl (j := 12) rfl dX12_ahead_202 rfl ?_
                  intro N_1338 hM_N_1338
                  have hI_N_1338 : Inv true N_1338 := Inv.u hI_N_1324 hM_N_1338 hk_c0 (a := 0) (b := 4) rfl rfl rfl (by omega)
                  have hF_N_1338 : Fr f_c_X12_ahead M N_1338 := Fr.u hF_N_1324 hM_N_1338 hk_c0 rfl
                  refine kx_goto 233 F dX12_ahead_205 (by decide) ?_
                  have e_1339 : (N_1338 c0 12) = 3 := by rw [hM_N_1338, mu_s]
                  have e_1340 : (N_1338 c0 14) = (N_775 c0 14) := by rw [hM_N_1338, mu_i (by omega), hM_N_1324, mu_i (by omega), hM_N_1198, mu_i (by omega), hM_N_1181, mu_i (by omega)]
                  have e_1341 : (N_1338 c0 12) = 3 := by rw [hM_N_1338, mu_s]
                  have e_1342 : (N_1338 c0 12) = 3 := by rw [hM_N_1338, mu_s]
                  have e_1343 : (N_1338 c0 14) = (N_775 c0 14) := by rw [hM_N_1338, mu_i (by omega), hM_N_1324, mu_i (by omega), hM_N_1198, mu_i (by omega), hM_N_1181, mu_i (by omega)]
                  exact kx_vret F hQ ⟨hI_N_1338, hF_N_1338, (by omega)⟩ dX12_ahead_233
                · exfalso; omega
              · refine kx_Si 139 F (As := [vI r_1325]) (st := []) sd_X12_174 (c_X12_isDigit G l N_1324 r_1325 hI_N_1324 (by omega)) ⟨by decide, by decide⟩ rfl rfl (Nat.le_of_ble_eq_true rfl) dX12_ahead_136 rfl ?_
                intro r_1344 N_1345 q_1346
                obtain ⟨rfl, q_1346c⟩ := q_1346
                rcases q_1346c with q_1346c | q_1346c | q_1346c
                · refine kx_if_eq 142 F 183 dX12_ahead_139 (by decide) rfl (by omega) (fun h_1347 => (by exfalso; omega)) (fun h_1347 => ?_)
                  refine kx_aload_n 143 F 0 dX12_ahead_142 rfl rfl rfl ?_
                  refine kx_ldc 145 (z := 100000) F dX12_ahead_143 ct_X12_177 rfl ?_
                  refine kx_bipush 147 F dX12_ahead_145 (by decide) rfl ?_
                  refine kx_aload_n 148 F 0 dX12_ahead_147 rfl rfl rfl ?_
                  refine kx_geti 151 F fl_X12_165 hk_c0 rfl rfl (j := 15) rfl dX12_ahead_148 (v := 0) (by rw [hM_N_1324, mu_s]) rfl ?_
                  refine kx_imul 152 F (v := 0) dX12_ahead_151 (by omega) rfl ?_
                  refine kx_aload_n 153 F 0 dX12_ahead_152 rfl rfl rfl ?_
                  refine kx_aload_n 154 F 0 dX12_ahead_153 rfl rfl rfl ?_
                  refine kx_geti 157 F fl_X12_156 hk_c0 rfl rfl (j := 14) rfl dX12_ahead_154 (v := (N_775 c0 14)) (by rw [hM_N_1324, mu_i (by omega), hM_N_1198, mu_i (by omega), hM_N_1181, mu_i (by omega)]) rfl ?_
                  refine kx_Vi 160 (ci := 0) F (As := [vI (N_775 c0 14)]) (st := [vI 0, vI 100000, vR G c0]) vd_X12_159 (c_X12_byteAt G l N_1324 c0 (N_775 c0 14) hI_N_1324 hk_c0 (by omega)) hk_c0 rfl rfl rfl ⟨by decide, by decide⟩ rfl rfl (Nat.le_of_ble_eq_true rfl) dX12_ahead_157 rfl ?_
                  intro r_1348 N_1349 q_1350
                  obtain ⟨rfl, q_1350c⟩ := q_1350
                  have e_1351 : (N_1324 c0 11) = (M c0 11) := by rw [hM_N_1324, mu_i (by omega), hM_N_1198, mu_i (by omega), hM_N_1181, mu_i (by omega), Fr.e hF_N_775 hk_c0 _ rfl]
                  have e_1352 : (N_1324 c0 11) = (M c0 11) := by rw [hM_N_1324, mu_i (by omega), hM_N_1198, mu_i (by omega), hM_N_1181, mu_i (by omega), Fr.e hF_N_775 hk_c0 _ rfl]
                  have e_1353 : (N_1324 c0 11) = (M c0 11) := by rw [hM_N_1324, mu_i (by omega), hM_N_1198, mu_i (by omega), hM_N_1181, mu_i (by omega), Fr.e hF_N_775 hk_c0 _ rfl]
                  have e_1354 : (N_1324 c0 11) = (M c0 11) := by rw [hM_N_1324, mu_i (by omega), hM_N_1198, mu_i (by omega), hM_N_1181, mu_i (by omega), Fr.e hF_N_775 hk_c0 _ rfl]
                  rcases q_1350c with q_1350c | q_1350c
                  · exfalso; omega
                  · refine kx_iadd 161 F (v := r_1348) dX12_ahead_160 (by omega) rfl ?_
                    refine kx_bipush 163 F dX12_ahead_161 (by decide) rfl ?_
                    refine kx_isub 164 F (v := r_1348 - 48) dX12_ahead_163 rfl rfl ?_
                    refine kx_mmin 167 F dX12_ahead_164 (tt lm_1833 rfl) (tt lm_800 rfl) (tt lm_180 rfl) (tt lm_801 rfl) (by decide) (Nat.le_of_ble_eq_true rfl) (by omega) (by omega) rfl (fun w_1355 h_1356 => ?_)
                    refine kx_puti 170 F fw_X12_165 rfl hk_c0 rfl rfl (j := 15) rfl dX12_ahead_167 rfl ?_
                    intro N_1357 hM_N_1357
                    have hI_N_1357 : Inv true N_1357 := Inv.u hI_N_1324 hM_N_1357 hk_c0 (a := (-2147483648)) (b := 2147483647) rfl rfl rfl (by omega)
                    have hF_N_1357 : Fr f_c_X12_ahead M N_1357 := Fr.u hF_N_1324 hM_N_1357 hk_c0 rfl
                    refine kx_aload_n 171 F 0 dX12_ahead_170 rfl rfl rfl ?_
                    refine kx_dup 172 F dX12_ahead_171 rfl rfl ?_
                    refine kx_geti 175 F fl_X12_156 hk_c0 rfl rfl (j := 14) rfl dX12_ahead_172 (v := (N_775 c0 14)) (by rw [hM_N_1357, mu_i (by omega), hM_N_1324, mu_i (by omega), hM_N_1198, mu_i (by omega), hM_N_1181, mu_i (by omega)]) rfl ?_
                    refine kx_iconst 176 F dX12_ahead_175 rfl ?_
                    refine kx_iadd 177 F (v := (N_775 c0 14) + 1) dX12_ahead_176 rfl rfl ?_
                    refine kx_puti 180 F fw_X12_156 rfl hk_c0 rfl rfl (j := 14) rfl dX12_ahead_177 rfl ?_
                    intro N_1358 hM_N_1358
                    have hI_N_1358 : Inv true N_1358 := Inv.u hI_N_1357 hM_N_1358 hk_c0 (a := 0) (b := 900) rfl rfl rfl (by omega)
                    have hF_N_1358 : Fr f_c_X12_ahead M N_1358 := Fr.u hF_N_1357 hM_N_1358 hk_c0 rfl
                    refine kx_goto 128 F dX12_ahead_180 (by decide) ?_
                    have L_1440 : ∀ (n_1441 : Nat) (N_1439 : Mem), Inv true N_1439 → Fr f_c_X12_ahead M N_1439 → (N_1439 c0 14) ≤ 900 ∧ (N_1439 c0 14) ≥ (N_1439 c0 13) + 1 ∧ (N_1439 c0 13) ≥ (M c0 14) → (900 - N_1439 c0 14).toNat = n_1441 → KJ true G X N_1439 128 [some (vR G c0), none] [] := by
                      intro n_1441
                      refine Nat.strongRecOn n_1441 ?_
                      intro n_1441 ih_1442  N_1439 hI_N_1439 hF_N_1439 h_1443 hm_1444
                      refine kx_aload_n 129 F 0 dX12_ahead_128 rfl rfl rfl ?_
                      refine kx_aload_n 130 F 0 dX12_ahead_129 rfl rfl rfl ?_
                      refine kx_geti 133 F fl_X12_156 hk_c0 rfl rfl (j := 14) rfl dX12_ahead_130 (v := (N_1439 c0 14)) rfl rfl ?_
                      have h_1445 := Inv.g hI_N_1439 hk_c0 rfl 14 (a := 0) (b := 900) rfl rfl
                      refine kx_Vi 136 (ci := 0) F (As := [vI (N_1439 c0 14)]) (st := []) vd_X12_159 (c_X12_byteAt G l N_1439 c0 (N_1439 c0 14) hI_N_1439 hk_c0 (by omega)) hk_c0 rfl rfl rfl ⟨by decide, by decide⟩ rfl rfl (Nat.le_of_ble_eq_true rfl) dX12_ahead_133 rfl ?_
                      intro r_1446 N_1447 q_1448
                      obtain ⟨rfl, q_1448c⟩ := q_1448
                      have e_1449 : (tbv N_1439 c0 (N_1439 c0 14)) = (tbv M c0 (N_1439 c0 14)) := tbv_fr hI_M hF_N_1439 hk_c0 rfl rfl
                      have e_1450 : (N_1439 c0 11) = (M c0 11) := by rw [Fr.e hF_N_1439 hk_c0 _ rfl]
                      have e_1451 : (N_1439 c0 11) = (M c0 11) := by rw [Fr.e hF_N_1439 hk_c0 _ rfl]
                      have e_1452 : (N_1439 c0 11) = (M c0 11) := by rw [Fr.e hF_N_1439 hk_c0 _ rfl]
                      have e_1453 : (N_1439 c0 11) = (M c0 11) := by rw [Fr.e hF_N_1439 hk_c0 _ rfl]
                      rcases q_1448c with q_1448c | q_1448c
                      · refine kx_Si 139 F (As := [vI r_1446]) (st := []) sd_X12_174 (c_X12_isDigit G l N_1439 r_1446 hI_N_1439 (by omega)) ⟨by decide, by decide⟩ rfl rfl (Nat.le_of_ble_eq_true rfl) dX12_ahead_136 rfl ?_
                        intro r_1454 N_1455 q_1456
                        obtain ⟨rfl, q_1456c⟩ := q_1456
                        rcases q_1456c with q_1456c | q_1456c | q_1456c
                        · exfalso; omega
                        · refine kx_if_eq 142 F 183 dX12_ahead_139 (by decide) rfl (by omega) (fun h_1457 => ?_) (fun h_1457 => (by exfalso; omega))
                          refine kx_aload_n 184 F 0 dX12_ahead_183 rfl rfl rfl ?_
                          refine kx_aload_n 185 F 0 dX12_ahead_184 rfl rfl rfl ?_
                          refine kx_geti 188 F fl_X12_156 hk_c0 rfl rfl (j := 14) rfl dX12_ahead_185 (v := (N_1439 c0 14)) rfl rfl ?_
                          refine kx_aload_n 189 F 0 dX12_ahead_188 rfl rfl rfl ?_
                          refine kx_geti 192 F fl_X12_162 hk_c0 rfl rfl (j := 13) rfl dX12_ahead_189 (v := (N_1439 c0 13)) rfl rfl ?_
                          have h_1458 := Inv.g hI_N_1439 hk_c0 rfl 13 (a := 0) (b := 900) rfl rfl
                          refine kx_isub 193 F (v := (N_1439 c0 14) - (N_1439 c0 13)) dX12_ahead_192 rfl rfl ?_
                          refine kx_iconst 194 F dX12_ahead_193 rfl ?_
                          refine kx_icmp_le 197 F 201 dX12_ahead_194 (by decide) rfl (by omega) (by decide) (fun h_1459 => ?_) (fun h_1459 => ?_)
                          · refine kx_iconst 202 F dX12_ahead_201 rfl ?_
                            refine kx_puti 205 F fw_X12_168 rfl hk_c0 rfl rfl (j := 12) rfl dX12_ahead_202 rfl ?_
                            intro N_1460 hM_N_1460
                            have hI_N_1460 : Inv true N_1460 := Inv.u hI_N_1439 hM_N_1460 hk_c0 (a := 0) (b := 4) rfl rfl rfl (by omega)
                            have hF_N_1460 : Fr f_c_X12_ahead M N_1460 := Fr.u hF_N_1439 hM_N_1460 hk_c0 rfl
                            refine kx_goto 233 F dX12_ahead_205 (by decide) ?_
                            have e_1461 : (N_1460 c0 12) = 3 := by rw [hM_N_1460, mu_s]
                            have e_1462 : (N_1460 c0 14) = (N_1439 c0 14) := by rw [hM_N_1460, mu_i (by omega)]
                            have e_1463 : (N_1460 c0 12) = 3 := by rw [hM_N_1460, mu_s]
                            have e_1464 : (N_1460 c0 12) = 3 := by rw [hM_N_1460, mu_s]
                            have e_1465 : (N_1460 c0 14) = (N_1439 c0 14) := by rw [hM_N_1460, mu_i (by omega)]
                            exact kx_vret F hQ ⟨hI_N_1460, hF_N_1460, (by omega)⟩ dX12_ahead_233
                          · refine kx_iconst 198 F dX12_ahead_197 rfl ?_
                            refine kx_goto 202 F dX12_ahead_198 (by decide) ?_
                            refine kx_puti 205 F fw_X12_168 rfl hk_c0 rfl rfl (j := 12) rfl dX12_ahead_202 rfl ?_
                            intro N_1466 hM_N_1466
                            have hI_N_1466 : Inv true N_1466 := Inv.u hI_N_1439 hM_N_1466 hk_c0 (a := 0) (b := 4) rfl rfl rfl (by omega)
                            have hF_N_1466 : Fr f_c_X12_ahead M N_1466 := Fr.u hF_N_1439 hM_N_1466 hk_c0 rfl
                            refine kx_goto 233 F dX12_ahead_205 (by decide) ?_
                            have e_1467 : (N_1466 c0 12) = 1 := by rw [hM_N_1466, mu_s]
                            have e_1468 : (N_1466 c0 14) = (N_1439 c0 14) := by rw [hM_N_1466, mu_i (by omega)]
                            have e_1469 : (N_1466 c0 12) = 1 := by rw [hM_N_1466, mu_s]
                            have e_1470 : (N_1466 c0 12) = 1 := by rw [hM_N_1466, mu_s]
                            have e_1471 : (N_1466 c0 14) = (N_1439 c0 14) := by rw [hM_N_1466, mu_i (by omega)]
                            exact kx_vret F hQ ⟨hI_N_1466, hF_N_1466, (by omega)⟩ dX12_ahead_233
                        · exfalso; omega
                      · refine kx_Si 139 F (As := [vI r_1446]) (st := []) sd_X12_174 (c_X12_isDigit G l N_1439 r_1446 hI_N_1439 (by omega)) ⟨by decide, by decide⟩ rfl rfl (Nat.le_of_ble_eq_true rfl) dX12_ahead_136 rfl ?_
                        intro r_1472 N_1473 q_1474
                        obtain ⟨rfl, q_1474c⟩ := q_1474
                        rcases q_1474c with q_1474c | q_1474c | q_1474c
                        · refine kx_if_eq 142 F 183 dX12_ahead_139 (by decide) rfl (by omega) (fun h_1475 => (by exfalso; omega)) (fun h_1475 => ?_)
                          refine kx_aload_n 143 F 0 dX12_ahead_142 rfl rfl rfl ?_
                          refine kx_ldc 145 (z := 100000) F dX12_ahead_143 ct_X12_177 rfl ?_
                          refine kx_bipush 147 F dX12_ahead_145 (by decide) rfl ?_
                          refine kx_aload_n 148 F 0 dX12_ahead_147 rfl rfl rfl ?_
                          refine kx_geti 151 F fl_X12_165 hk_c0 rfl rfl (j := 15) rfl dX12_ahead_148 (v := (N_1439 c0 15)) rfl rfl ?_
                          have h_1476 := Inv.g hI_N_1439 hk_c0 rfl 15 (a := (-2147483648)) (b := 2147483647) rfl rfl
                          refine kx_imul 152 F (v := 10 * (N_1439 c0 15)) dX12_ahead_151 (by omega) rfl ?_
                          refine kx_wrapi (fun w_1477 h_1478 _ => ?_)
                          refine kx_aload_n 153 F 0 dX12_ahead_152 rfl rfl rfl ?_
                          refine kx_aload_n 154 F 0 dX12_ahead_153 rfl rfl rfl ?_
                          refine kx_geti 157 F fl_X12_156 hk_c0 rfl rfl (j := 14) rfl dX12_ahead_154 (v := (N_1439 c0 14)) rfl rfl ?_
                          refine kx_Vi 160 (ci := 0) F (As := [vI (N_1439 c0 14)]) (st := [vI w_1477, vI 100000, vR G c0]) vd_X12_159 (c_X12_byteAt G l N_1439 c0 (N_1439 c0 14) hI_N_1439 hk_c0 (by omega)) hk_c0 rfl rfl rfl ⟨by decide, by decide⟩ rfl rfl (Nat.le_of_ble_eq_true rfl) dX12_ahead_157 rfl ?_
                          intro r_1479 N_1480 q_1481
                          obtain ⟨rfl, q_1481c⟩ := q_1481
                          have e_1482 : (N_1439 c0 11) = (M c0 11) := by rw [Fr.e hF_N_1439 hk_c0 _ rfl]
                          have e_1483 : (N_1439 c0 11) = (M c0 11) := by rw [Fr.e hF_N_1439 hk_c0 _ rfl]
                          have e_1484 : (N_1439 c0 11) = (M c0 11) := by rw [Fr.e hF_N_1439 hk_c0 _ rfl]
                          have e_1485 : (N_1439 c0 11) = (M c0 11) := by rw [Fr.e hF_N_1439 hk_c0 _ rfl]
                          rcases q_1481c with q_1481c | q_1481c
                          · exfalso; omega
                          · refine kx_iadd 161 F (v := w_1477 + r_1479) dX12_ahead_160 rfl rfl ?_
                            refine kx_wrapi (fun w_1486 h_1487 _ => ?_)
                            refine kx_bipush 163 F dX12_ahead_161 (by decide) rfl ?_
                            refine kx_isub 164 F (v := w_1486 - 48) dX12_ahead_163 rfl rfl ?_
                            refine kx_wrapi (fun w_1488 h_1489 _ => ?_)
                            refine kx_mmin 167 F dX12_ahead_164 (tt lm_1833 rfl) (tt lm_800 rfl) (tt lm_180 rfl) (tt lm_801 rfl) (by decide) (Nat.le_of_ble_eq_true rfl) (by omega) (by omega) rfl (fun w_1490 h_1491 => ?_)
                            refine kx_puti 170 F fw_X12_165 rfl hk_c0 rfl rfl (j := 15) rfl dX12_ahead_167 rfl ?_
                            intro N_1492 hM_N_1492
                            have hI_N_1492 : Inv true N_1492 := Inv.u hI_N_1439 hM_N_1492 hk_c0 (a := (-2147483648)) (b := 2147483647) rfl rfl rfl (by omega)
                            have hF_N_1492 : Fr f_c_X12_ahead M N_1492 := Fr.u hF_N_1439 hM_N_1492 hk_c0 rfl
                            refine kx_aload_n 171 F 0 dX12_ahead_170 rfl rfl rfl ?_
                            refine kx_dup 172 F dX12_ahead_171 rfl rfl ?_
                            refine kx_geti 175 F fl_X12_156 hk_c0 rfl rfl (j := 14) rfl dX12_ahead_172 (v := (N_1439 c0 14)) (by rw [hM_N_1492, mu_i (by omega)]) rfl ?_
                            refine kx_iconst 176 F dX12_ahead_175 rfl ?_
                            refine kx_iadd 177 F (v := (N_1439 c0 14) + 1) dX12_ahead_176 rfl rfl ?_
                            refine kx_puti 180 F fw_X12_156 rfl hk_c0 rfl rfl (j := 14) rfl dX12_ahead_177 rfl ?_
                            intro N_1493 hM_N_1493
                            have hI_N_1493 : Inv true N_1493 := Inv.u hI_N_1492 hM_N_1493 hk_c0 (a := 0) (b := 900) rfl rfl rfl (by omega)
                            have hF_N_1493 : Fr f_c_X12_ahead M N_1493 := Fr.u hF_N_1492 hM_N_1493 hk_c0 rfl
                            refine kx_goto 128 F dX12_ahead_180 (by decide) ?_
                            have e_1494 : (N_1493 c0 14) = (N_1439 c0 14) + 1 := by rw [hM_N_1493, mu_s]
                            have e_1495 : (N_1493 c0 14) = (N_1439 c0 14) + 1 := by rw [hM_N_1493, mu_s]
                            have e_1496 : (N_1493 c0 13) = (N_1439 c0 13) := by rw [hM_N_1493, mu_i (by omega), hM_N_1492, mu_i (by omega)]
                            have h_1497 := Inv.g hI_N_1439 hk_c0 rfl 13 (a := 0) (b := 900) rfl rfl
                            have e_1498 : (N_1493 c0 13) = (N_1439 c0 13) := by rw [hM_N_1493, mu_i (by omega), hM_N_1492, mu_i (by omega)]
                            exact ih_1442 _ (by omega) N_1493 hI_N_1493 hF_N_1493 (by omega) rfl
                        · refine kx_if_eq 142 F 183 dX12_ahead_139 (by decide) rfl (by omega) (fun h_1499 => ?_) (fun h_1499 => (by exfalso; omega))
                          refine kx_aload_n 184 F 0 dX12_ahead_183 rfl rfl rfl ?_
                          refine kx_aload_n 185 F 0 dX12_ahead_184 rfl rfl rfl ?_
                          refine kx_geti 188 F fl_X12_156 hk_c0 rfl rfl (j := 14) rfl dX12_ahead_185 (v := (N_1439 c0 14)) rfl rfl ?_
                          refine kx_aload_n 189 F 0 dX12_ahead_188 rfl rfl rfl ?_
                          refine kx_geti 192 F fl_X12_162 hk_c0 rfl rfl (j := 13) rfl dX12_ahead_189 (v := (N_1439 c0 13)) rfl rfl ?_
                          have h_1500 := Inv.g hI_N_1439 hk_c0 rfl 13 (a := 0) (b := 900) rfl rfl
                          refine kx_isub 193 F (v := (N_1439 c0 14) - (N_1439 c0 13)) dX12_ahead_192 rfl rfl ?_
                          refine kx_iconst 194 F dX12_ahead_193 rfl ?_
                          refine kx_icmp_le 197 F 201 dX12_ahead_194 (by decide) rfl (by omega) (by decide) (fun h_1501 => ?_) (fun h_1501 => ?_)
                          · refine kx_iconst 202 F dX12_ahead_201 rfl ?_
                            refine kx_puti 205 F fw_X12_168 rfl hk_c0 rfl rfl (j := 12) rfl dX12_ahead_202 rfl ?_
                            intro N_1502 hM_N_1502
                            have hI_N_1502 : Inv true N_1502 := Inv.u hI_N_1439 hM_N_1502 hk_c0 (a := 0) (b := 4) rfl rfl rfl (by omega)
                            have hF_N_1502 : Fr f_c_X12_ahead M N_1502 := Fr.u hF_N_1439 hM_N_1502 hk_c0 rfl
                            refine kx_goto 233 F dX12_ahead_205 (by decide) ?_
                            have e_1503 : (N_1502 c0 12) = 3 := by rw [hM_N_1502, mu_s]
                            have e_1504 : (N_1502 c0 14) = (N_1439 c0 14) := by rw [hM_N_1502, mu_i (by omega)]
                            have e_1505 : (N_1502 c0 12) = 3 := by rw [hM_N_1502, mu_s]
                            have e_1506 : (N_1502 c0 12) = 3 := by rw [hM_N_1502, mu_s]
                            have e_1507 : (N_1502 c0 14) = (N_1439 c0 14) := by rw [hM_N_1502, mu_i (by omega)]
                            exact kx_vret F hQ ⟨hI_N_1502, hF_N_1502, (by omega)⟩ dX12_ahead_233
                          · refine kx_iconst 198 F dX12_ahead_197 rfl ?_
                            refine kx_goto 202 F dX12_ahead_198 (by decide) ?_
                            refine kx_puti 205 F fw_X12_168 rfl hk_c0 rfl rfl (j := 12) rfl dX12_ahead_202 rfl ?_
                            intro N_1508 hM_N_1508
                            have hI_N_1508 : Inv true N_1508 := Inv.u hI_N_1439 hM_N_1508 hk_c0 (a := 0) (b := 4) rfl rfl rfl (by omega)
                            have hF_N_1508 : Fr f_c_X12_ahead M N_1508 := Fr.u hF_N_1439 hM_N_1508 hk_c0 rfl
                            refine kx_goto 233 F dX12_ahead_205 (by decide) ?_
                            have e_1509 : (N_1508 c0 12) = 1 := by rw [hM_N_1508, mu_s]
                            have e_1510 : (N_1508 c0 14) = (N_1439 c0 14) := by rw [hM_N_1508, mu_i (by omega)]
                            have e_1511 : (N_1508 c0 12) = 1 := by rw [hM_N_1508, mu_s]
                            have e_1512 : (N_1508 c0 12) = 1 := by rw [hM_N_1508, mu_s]
                            have e_1513 : (N_1508 c0 14) = (N_1439 c0 14) := by rw [hM_N_1508, mu_i (by omega)]
                            exact kx_vret F hQ ⟨hI_N_1508, hF_N_1508, (by omega)⟩ dX12_ahead_233
                        · refine kx_if_eq 142 F 183 dX12_ahead_139 (by decide) rfl (by omega) (fun h_1514 => ?_) (fun h_1514 => (by exfalso; omega))
                          refine kx_aload_n 184 F 0 dX12_ahead_183 rfl rfl rfl ?_
                          refine kx_aload_n 185 F 0 dX12_ahead_184 rfl rfl rfl ?_
                          refine kx_geti 188 F fl_X12_156 hk_c0 rfl rfl (j := 14) rfl dX12_ahead_185 (v := (N_1439 c0 14)) rfl rfl ?_
                          refine kx_aload_n 189 F 0 dX12_ahead_188 rfl rfl rfl ?_
                          refine kx_geti 192 F fl_X12_162 hk_c0 rfl rfl (j := 13) rfl dX12_ahead_189 (v := (N_1439 c0 13)) rfl rfl ?_
                          have h_1515 := Inv.g hI_N_1439 hk_c0 rfl 13 (a := 0) (b := 900) rfl rfl
                          refine kx_isub 193 F (v := (N_1439 c0 14) - (N_1439 c0 13)) dX12_ahead_192 rfl rfl ?_
                          refine kx_iconst 194 F dX12_ahead_193 rfl ?_
                          refine kx_icmp_le 197 F 201 dX12_ahead_194 (by decide) rfl (by omega) (by decide) (fun h_1516 => ?_) (fun h_1516 => ?_)
                          · refine kx_iconst 202 F dX12_ahead_201 rfl ?_
                            refine kx_puti 205 F fw_X12_168 rfl hk_c0 rfl rfl (j := 12) rfl dX12_ahead_202 rfl ?_
                            intro N_1517 hM_N_1517
                            have hI_N_1517 : Inv true N_1517 := Inv.u hI_N_1439 hM_N_1517 hk_c0 (a := 0) (b := 4) rfl rfl rfl (by omega)
                            have hF_N_1517 : Fr f_c_X12_ahead M N_1517 := Fr.u hF_N_1439 hM_N_1517 hk_c0 rfl
                            refine kx_goto 233 F dX12_ahead_205 (by decide) ?_
                            have e_1518 : (N_1517 c0 12) = 3 := by rw [hM_N_1517, mu_s]
                            have e_1519 : (N_1517 c0 14) = (N_1439 c0 14) := by rw [hM_N_1517, mu_i (by omega)]
                            have e_1520 : (N_1517 c0 12) = 3 := by rw [hM_N_1517, mu_s]
                            have e_1521 : (N_1517 c0 12) = 3 := by rw [hM_N_1517, mu_s]
                            have e_1522 : (N_1517 c0 14) = (N_1439 c0 14) := by rw [hM_N_1517, mu_i (by omega)]
                            exact kx_vret F hQ ⟨hI_N_1517, hF_N_1517, (by omega)⟩ dX12_ahead_233
                          · refine kx_iconst 198 F dX12_ahead_197 rfl ?_
                            refine kx_goto 202 F dX12_ahead_198 (by decide) ?_
                            refine kx_puti 205 F fw_X12_168 rfl hk_c0 rfl rfl (j := 12) rfl dX12_ahead_202 rfl ?_
                            intro N_1523 hM_N_1523
                            have hI_N_1523 : Inv true N_1523 := Inv.u hI_N_1439 hM_N_1523 hk_c0 (a := 0) (b := 4) rfl rfl rfl (by omega)
                            have hF_N_1523 : Fr f_c_X12_ahead M N_1523 := Fr.u hF_N_1439 hM_N_1523 hk_c0 rfl
                            refine kx_goto 233 F dX12_ahead_205 (by decide) ?_
                            have e_1524 : (N_1523 c0 12) = 1 := by rw [hM_N_1523, mu_s]
                            have e_1525 : (N_1523 c0 14) = (N_1439 c0 14) := by rw [hM_N_1523, mu_i (by omega)]
                            have e_1526 : (N_1523 c0 12) = 1 := by rw [hM_N_1523, mu_s]
                            have e_1527 : (N_1523 c0 12) = 1 := by rw [hM_N_1523, mu_s]
                            have e_1528 : (N_1523 c0 14) = (N_1439 c0 14) := by rw [hM_N_1523, mu_i (by omega)]
                            exact kx_vret F hQ ⟨hI_N_1523, hF_N_1523, (by omega)⟩ dX12_ahead_233
                    refine kx_drop 1 (lo' := [some (vR G c0), none]) rfl ?_
                    have e_1529 : (N_1358 c0 14) = (N_775 c0 14) + 1 := by rw [hM_N_1358, mu_s]
                    have e_1530 : (N_1358 c0 14) = (N_775 c0 14) + 1 := by rw [hM_N_1358, mu_s]
                    have e_1531 : (N_1358 c0 13) = (N_775 c0 14) := by rw [hM_N_1358, mu_i (by omega), hM_N_1357, mu_i (by omega), hM_N_1324, mu_i (by omega), hM_N_1198, mu_i (by omega), hM_N_1181, mu_s]
                    have e_1532 : (N_1358 c0 13) = (N_775 c0 14) := by rw [hM_N_1358, mu_i (by omega), hM_N_1357, mu_i (by omega), hM_N_1324, mu_i (by omega), hM_N_1198, mu_i (by omega), hM_N_1181, mu_s]
                    exact L_1440 _ N_1358 hI_N_1358 hF_N_1358 (by omega) rfl
                · exfalso; omega
                · exfalso; omega
            · refine kx_if_eq 123 F 208 dX12_ahead_120 (by decide) rfl (by omega) (fun h_1533 => ?_) (fun h_1533 => (by exfalso; omega))
              refine kx_aload_n 209 F 0 dX12_ahead_208 rfl rfl rfl ?_
              refine kx_dup 210 F dX12_ahead_209 rfl rfl ?_
              refine kx_geti 213 F fl_X12_156 hk_c0 rfl rfl (j := 14) rfl dX12_ahead_210 (v := (N_775 c0 14)) (by rw [hM_N_1198, mu_i (by omega), hM_N_1181, mu_i (by omega)]) rfl ?_
              refine kx_iconst 214 F dX12_ahead_213 rfl ?_
              refine kx_iadd 215 F (v := (N_775 c0 14) + 1) dX12_ahead_214 rfl rfl ?_
              refine kx_puti 218 F fw_X12_156 rfl hk_c0 rfl rfl (j := 14) rfl dX12_ahead_215 rfl ?_
              intro N_1534 hM_N_1534
              have hI_N_1534 : Inv true N_1534 := Inv.u hI_N_1198 hM_N_1534 hk_c0 (a := 0) (b := 900) rfl rfl rfl (by omega)
              have hF_N_1534 : Fr f_c_X12_ahead M N_1534 := Fr.u hF_N_1198 hM_N_1534 hk_c0 rfl
              refine kx_aload_n 219 F 0 dX12_ahead_218 rfl rfl rfl ?_
              refine kx_iload_n 220 F 1 dX12_ahead_219 rfl rfl rfl ?_
              refine kx_bipush 222 F dX12_ahead_220 (by decide) rfl ?_
              refine kx_icmp_ne 225 F 229 dX12_ahead_222 (by decide) rfl (by omega) (by decide) (fun h_1535 => ?_) (fun h_1535 => (by exfalso; omega))
              refine kx_iconst 230 F dX12_ahead_229 rfl ?_
              refine kx_puti 233 F fw_X12_168 rfl hk_c0 rfl rfl (j := 12) rfl dX12_ahead_230 rfl ?_
              intro N_1536 hM_N_1536
              have hI_N_1536 : Inv true N_1536 := Inv.u hI_N_1534 hM_N_1536 hk_c0 (a := 0) (b := 4) rfl rfl rfl (by omega)
              have hF_N_1536 : Fr f_c_X12_ahead M N_1536 := Fr.u hF_N_1534 hM_N_1536 hk_c0 rfl
              have e_1537 : (N_1536 c0 12) = 1 := by rw [hM_N_1536, mu_s]
              have e_1538 : (N_1536 c0 14) = (N_775 c0 14) + 1 := by rw [hM_N_1536, mu_i (by omega), hM_N_1534, mu_s]
              have e_1539 : (N_1536 c0 12) = 1 := by rw [hM_N_1536, mu_s]
              have e_1540 : (N_1536 c0 12) = 1 := by rw [hM_N_1536, mu_s]
              have e_1541 : (N_1536 c0 14) = (N_775 c0 14) + 1 := by rw [hM_N_1536, mu_i (by omega), hM_N_1534, mu_s]
              exact kx_vret F hQ ⟨hI_N_1536, hF_N_1536, (by omega)⟩ dX12_ahead_233
            · refine kx_if_eq 123 F 208 dX12_ahead_120 (by decide) rfl (by omega) (fun h_1542 => ?_) (fun h_1542 => (by exfalso; omega))
              refine kx_aload_n 209 F 0 dX12_ahead_208 rfl rfl rfl ?_
              refine kx_dup 210 F dX12_ahead_209 rfl rfl ?_
              refine kx_geti 213 F fl_X12_156 hk_c0 rfl rfl (j := 14) rfl dX12_ahead_210 (v := (N_775 c0 14)) (by rw [hM_N_1198, mu_i (by omega), hM_N_1181, mu_i (by omega)]) rfl ?_
              refine kx_iconst 214 F dX12_ahead_213 rfl ?_
              refine kx_iadd 215 F (v := (N_775 c0 14) + 1) dX12_ahead_214 rfl rfl ?_
              refine kx_puti 218 F fw_X12_156 rfl hk_c0 rfl rfl (j := 14) rfl dX12_ahead_215 rfl ?_
              intro N_1543 hM_N_1543
              have hI_N_1543 : Inv true N_1543 := Inv.u hI_N_1198 hM_N_1543 hk_c0 (a := 0) (b := 900) rfl rfl rfl (by omega)
              have hF_N_1543 : Fr f_c_X12_ahead M N_1543 := Fr.u hF_N_1198 hM_N_1543 hk_c0 rfl
              refine kx_aload_n 219 F 0 dX12_ahead_218 rfl rfl rfl ?_
              refine kx_iload_n 220 F 1 dX12_ahead_219 rfl rfl rfl ?_
              refine kx_bipush 222 F dX12_ahead_220 (by decide) rfl ?_
              refine kx_icmp_ne 225 F 229 dX12_ahead_222 (by decide) rfl (by omega) (by decide) (fun h_1544 => ?_) (fun h_1544 => ?_)
              · refine kx_iconst 230 F dX12_ahead_229 rfl ?_
                refine kx_puti 233 F fw_X12_168 rfl hk_c0 rfl rfl (j := 12) rfl dX12_ahead_230 rfl ?_
                intro N_1545 hM_N_1545
                have hI_N_1545 : Inv true N_1545 := Inv.u hI_N_1543 hM_N_1545 hk_c0 (a := 0) (b := 4) rfl rfl rfl (by omega)
                have hF_N_1545 : Fr f_c_X12_ahead M N_1545 := Fr.u hF_N_1543 hM_N_1545 hk_c0 rfl
                have e_1546 : (N_1545 c0 12) = 1 := by rw [hM_N_1545, mu_s]
                have e_1547 : (N_1545 c0 14) = (N_775 c0 14) + 1 := by rw [hM_N_1545, mu_i (by omega), hM_N_1543, mu_s]
                have e_1548 : (N_1545 c0 12) = 1 := by rw [hM_N_1545, mu_s]
                have e_1549 : (N_1545 c0 12) = 1 := by rw [hM_N_1545, mu_s]
                have e_1550 : (N_1545 c0 14) = (N_775 c0 14) + 1 := by rw [hM_N_1545, mu_i (by omega), hM_N_1543, mu_s]
                exact kx_vret F hQ ⟨hI_N_1545, hF_N_1545, (by omega)⟩ dX12_ahead_233
              · refine kx_iconst 226 F dX12_ahead_225 rfl ?_
                refine kx_goto 230 F dX12_ahead_226 (by decide) ?_
                refine kx_puti 233 F fw_X12_168 rfl hk_c0 rfl rfl (j := 12) rfl dX12_ahead_230 rfl ?_
                intro N_1551 hM_N_1551
                have hI_N_1551 : Inv true N_1551 := Inv.u hI_N_1543 hM_N_1551 hk_c0 (a := 0) (b := 4) rfl rfl rfl (by omega)
                have hF_N_1551 : Fr f_c_X12_ahead M N_1551 := Fr.u hF_N_1543 hM_N_1551 hk_c0 rfl
                have e_1552 : (N_1551 c0 12) = 4 := by rw [hM_N_1551, mu_s]
                have e_1553 : (N_1551 c0 14) = (N_775 c0 14) + 1 := by rw [hM_N_1551, mu_i (by omega), hM_N_1543, mu_s]
                have e_1554 : (N_1551 c0 12) = 4 := by rw [hM_N_1551, mu_s]
                have e_1555 : (N_1551 c0 12) = 4 := by rw [hM_N_1551, mu_s]
                have e_1556 : (N_1551 c0 14) = (N_775 c0 14) + 1 := by rw [hM_N_1551, mu_i (by omega), hM_N_1543, mu_s]
                exact kx_vret F hQ ⟨hI_N_1551, hF_N_1551, (by omega)⟩ dX12_ahead_233
          · refine kx_if_eq 81 F 116 dX12_ahead_78 (by decide) rfl (by omega) (fun h_1557 => ?_) (fun h_1557 => (by exfalso; omega))
            refine kx_iload_n 117 F 1 dX12_ahead_116 rfl rfl rfl ?_
            refine kx_Si 120 F (As := [vI r_1182]) (st := []) sd_X12_174 (c_X12_isDigit G l N_1198 r_1182 hI_N_1198 (by omega)) ⟨by decide, by decide⟩ rfl rfl (Nat.le_of_ble_eq_true rfl) dX12_ahead_117 rfl ?_
            intro r_1558 N_1559 q_1560
            obtain ⟨rfl, q_1560c⟩ := q_1560
            rcases q_1560c with q_1560c | q_1560c | q_1560c
            · exfalso; omega
            · exfalso; omega
            · refine kx_if_eq 123 F 208 dX12_ahead_120 (by decide) rfl (by omega) (fun h_1561 => ?_) (fun h_1561 => (by exfalso; omega))
              refine kx_aload_n 209 F 0 dX12_ahead_208 rfl rfl rfl ?_
              refine kx_dup 210 F dX12_ahead_209 rfl rfl ?_
              refine kx_geti 213 F fl_X12_156 hk_c0 rfl rfl (j := 14) rfl dX12_ahead_210 (v := (N_775 c0 14)) (by rw [hM_N_1198, mu_i (by omega), hM_N_1181, mu_i (by omega)]) rfl ?_
              refine kx_iconst 214 F dX12_ahead_213 rfl ?_
              refine kx_iadd 215 F (v := (N_775 c0 14) + 1) dX12_ahead_214 rfl rfl ?_
              refine kx_puti 218 F fw_X12_156 rfl hk_c0 rfl rfl (j := 14) rfl dX12_ahead_215 rfl ?_
              intro N_1562 hM_N_1562
              have hI_N_1562 : Inv true N_1562 := Inv.u hI_N_1198 hM_N_1562 hk_c0 (a := 0) (b := 900) rfl rfl rfl (by omega)
              have hF_N_1562 : Fr f_c_X12_ahead M N_1562 := Fr.u hF_N_1198 hM_N_1562 hk_c0 rfl
              refine kx_aload_n 219 F 0 dX12_ahead_218 rfl rfl rfl ?_
              refine kx_iload_n 220 F 1 dX12_ahead_219 rfl rfl rfl ?_
              refine kx_bipush 222 F dX12_ahead_220 (by decide) rfl ?_
              refine kx_icmp_ne 225 F 229 dX12_ahead_222 (by decide) rfl (by omega) (by decide) (fun h_1563 => ?_) (fun h_1563 => (by exfalso; omega))
              refine kx_iconst 230 F dX12_ahead_229 rfl ?_
              refine kx_puti 233 F fw_X12_168 rfl hk_c0 rfl rfl (j := 12) rfl dX12_ahead_230 rfl ?_
              intro N_1564 hM_N_1564
              have hI_N_1564 : Inv true N_1564 := Inv.u hI_N_1562 hM_N_1564 hk_c0 (a := 0) (b := 4) rfl rfl rfl (by omega)
              have hF_N_1564 : Fr f_c_X12_ahead M N_1564 := Fr.u hF_N_1562 hM_N_1564 hk_c0 rfl
              have e_1565 : (N_1564 c0 12) = 1 := by rw [hM_N_1564, mu_s]
              have e_1566 : (N_1564 c0 14) = (N_775 c0 14) + 1 := by rw [hM_N_1564, mu_i (by omega), hM_N_1562, mu_s]
              have e_1567 : (N_1564 c0 12) = 1 := by rw [hM_N_1564, mu_s]
              have e_1568 : (N_1564 c0 12) = 1 := by rw [hM_N_1564, mu_s]
              have e_1569 : (N_1564 c0 14) = (N_775 c0 14) + 1 := by rw [hM_N_1564, mu_i (by omega), hM_N_1562, mu_s]
              exact kx_vret F hQ ⟨hI_N_1564, hF_N_1564, (by omega)⟩ dX12_ahead_233
      · exfalso; omega
    · refine kx_bipush 10 F dX12_ahead_8 (by decide) rfl ?_
      have J_1950 : (N_775 c0 14) ≤ 899 → KJ true G X N_775 26 [some (vR G c0), none] [] := by
        intro h_1951
        refine kx_aload_n 27 F 0 dX12_ahead_26 rfl rfl rfl ?_
        refine kx_dup 28 F dX12_ahead_27 rfl rfl ?_
        refine kx_geti 31 F fl_X12_156 hk_c0 rfl rfl (j := 14) rfl dX12_ahead_28 (v := (N_775 c0 14)) rfl rfl ?_
        refine kx_iconst 32 F dX12_ahead_31 rfl ?_
        refine kx_iadd 33 F (v := (N_775 c0 14) + 1) dX12_ahead_32 rfl rfl ?_
        refine kx_puti 36 F fw_X12_156 rfl hk_c0 rfl rfl (j := 14) rfl dX12_ahead_33 rfl ?_
        intro N_1952 hM_N_1952
        have hI_N_1952 : Inv true N_1952 := Inv.u hI_N_775 hM_N_1952 hk_c0 (a := 0) (b := 900) rfl rfl rfl (by omega)
        have hF_N_1952 : Fr f_c_X12_ahead M N_1952 := Fr.u hF_N_775 hM_N_1952 hk_c0 rfl
        refine kx_goto 0 F dX12_ahead_36 (by decide) ?_
        have e_1953 : (N_1952 c0 14) = (N_775 c0 14) + 1 := by rw [hM_N_1952, mu_s]
        have e_1954 : (N_1952 c0 14) = (N_775 c0 14) + 1 := by rw [hM_N_1952, mu_s]
        exact ih_778 _ (by omega) N_1952 hI_N_1952 hF_N_1952 (by omega) rfl
      refine kx_icmp_eq 13 F 26 dX12_ahead_10 (by decide) rfl (by omega) (by decide) (fun h_1955 => ?_) (fun h_1955 => ?_)
      · exact J_1950 (by omega)
      · refine kx_aload_n 14 F 0 dX12_ahead_13 rfl rfl rfl ?_
        refine kx_aload_n 15 F 0 dX12_ahead_14 rfl rfl rfl ?_
        refine kx_geti 18 F fl_X12_156 hk_c0 rfl rfl (j := 14) rfl dX12_ahead_15 (v := (N_775 c0 14)) rfl rfl ?_
        refine kx_Vi 21 (ci := 0) F (As := [vI (N_775 c0 14)]) (st := []) vd_X12_159 (c_X12_byteAt G l N_775 c0 (N_775 c0 14) hI_N_775 hk_c0 (by omega)) hk_c0 rfl rfl rfl ⟨by decide, by decide⟩ rfl rfl (Nat.le_of_ble_eq_true rfl) dX12_ahead_18 rfl ?_
        intro r_1956 N_1957 q_1958
        obtain ⟨rfl, q_1958c⟩ := q_1958
        have e_1959 : (N_775 c0 11) = (M c0 11) := by rw [Fr.e hF_N_775 hk_c0 _ rfl]
        have e_1960 : (N_775 c0 11) = (M c0 11) := by rw [Fr.e hF_N_775 hk_c0 _ rfl]
        have e_1961 : (N_775 c0 11) = (M c0 11) := by rw [Fr.e hF_N_775 hk_c0 _ rfl]
        have e_1962 : (N_775 c0 11) = (M c0 11) := by rw [Fr.e hF_N_775 hk_c0 _ rfl]
        rcases q_1958c with q_1958c | q_1958c
        · exfalso; omega
        · refine kx_bipush 23 F dX12_ahead_21 (by decide) rfl ?_
          refine kx_icmp_ne 26 F 39 dX12_ahead_23 (by decide) rfl (by omega) (by decide) (fun h_1963 => ?_) (fun h_1963 => ?_)
          · refine kx_aload_n 40 F 0 dX12_ahead_39 rfl rfl rfl ?_
            refine kx_aload_n 41 F 0 dX12_ahead_40 rfl rfl rfl ?_
            refine kx_geti 44 F fl_X12_156 hk_c0 rfl rfl (j := 14) rfl dX12_ahead_41 (v := (N_775 c0 14)) rfl rfl ?_
            refine kx_puti 47 F fw_X12_162 rfl hk_c0 rfl rfl (j := 13) rfl dX12_ahead_44 rfl ?_
            intro N_1964 hM_N_1964
            have hI_N_1964 : Inv true N_1964 := Inv.u hI_N_775 hM_N_1964 hk_c0 (a := 0) (b := 900) rfl rfl rfl (by omega)
            have hF_N_1964 : Fr f_c_X12_ahead M N_1964 := Fr.u hF_N_775 hM_N_1964 hk_c0 rfl
            refine kx_aload_n 48 F 0 dX12_ahead_47 rfl rfl rfl ?_
            refine kx_aload_n 49 F 0 dX12_ahead_48 rfl rfl rfl ?_
            refine kx_geti 52 F fl_X12_156 hk_c0 rfl rfl (j := 14) rfl dX12_ahead_49 (v := (N_775 c0 14)) (by rw [hM_N_1964, mu_i (by omega)]) rfl ?_
            refine kx_Vi 55 (ci := 0) F (As := [vI (N_775 c0 14)]) (st := []) vd_X12_159 (c_X12_byteAt G l N_1964 c0 (N_775 c0 14) hI_N_1964 hk_c0 (by omega)) hk_c0 rfl rfl rfl ⟨by decide, by decide⟩ rfl rfl (Nat.le_of_ble_eq_true rfl) dX12_ahead_52 rfl ?_
            intro r_1965 N_1966 q_1967
            obtain ⟨rfl, q_1967c⟩ := q_1967
            have e_1968 : (tbv N_1964 c0 (N_775 c0 14)) = (tbv M c0 (N_775 c0 14)) := tbv_fr hI_M hF_N_1964 hk_c0 rfl rfl
            have e_1969 : (N_1964 c0 11) = (M c0 11) := by rw [hM_N_1964, mu_i (by omega), Fr.e hF_N_775 hk_c0 _ rfl]
            have e_1970 : (N_1964 c0 11) = (M c0 11) := by rw [hM_N_1964, mu_i (by omega), Fr.e hF_N_775 hk_c0 _ rfl]
            have e_1971 : (N_1964 c0 11) = (M c0 11) := by rw [hM_N_1964, mu_i (by omega), Fr.e hF_N_775 hk_c0 _ rfl]
            have e_1972 : (N_1964 c0 11) = (M c0 11) := by rw [hM_N_1964, mu_i (by omega), Fr.e hF_N_775 hk_c0 _ rfl]
            rcases q_1967c with q_1967c | q_1967c
            · refine kx_istore_n 56 F 1 (lo' := [some (vR G c0), some (vI r_1965)]) dX12_ahead_55 rfl (by decide) rfl rfl rfl ?_
              refine kx_aload_n 57 F 0 dX12_ahead_56 rfl rfl rfl ?_
              refine kx_iload_n 58 F 1 dX12_ahead_57 rfl rfl rfl ?_
              refine kx_puti 61 F fw_X12_165 rfl hk_c0 rfl rfl (j := 15) rfl dX12_ahead_58 rfl ?_
              intro N_1973 hM_N_1973
              have hI_N_1973 : Inv true N_1973 := Inv.u hI_N_1964 hM_N_1973 hk_c0 (a := (-2147483648)) (b := 2147483647) rfl rfl rfl (by omega)
              have hF_N_1973 : Fr f_c_X12_ahead M N_1973 := Fr.u hF_N_1964 hM_N_1973 hk_c0 rfl
              refine kx_iload_n 62 F 1 dX12_ahead_61 rfl rfl rfl ?_
              refine kx_iconst 63 F dX12_ahead_62 rfl ?_
              refine kx_icmp_ne 66 F 74 dX12_ahead_63 (by decide) rfl (by omega) (by decide) (fun h_1974 => (by exfalso; omega)) (fun h_1974 => ?_)
              refine kx_aload_n 67 F 0 dX12_ahead_66 rfl rfl rfl ?_
              refine kx_iconst 68 F dX12_ahead_67 rfl ?_
              refine kx_puti 71 F fw_X12_168 rfl hk_c0 rfl rfl (j := 12) rfl dX12_ahead_68 rfl ?_
              intro N_1975 hM_N_1975
              have hI_N_1975 : Inv true N_1975 := Inv.u hI_N_1973 hM_N_1975 hk_c0 (a := 0) (b := 4) rfl rfl rfl (by omega)
              have hF_N_1975 : Fr f_c_X12_ahead M N_1975 := Fr.u hF_N_1973 hM_N_1975 hk_c0 rfl
              refine kx_goto 233 F dX12_ahead_71 (by decide) ?_
              have e_1976 : (N_1975 c0 12) = 0 := by rw [hM_N_1975, mu_s]
              have e_1977 : (N_1975 c0 14) = (N_775 c0 14) := by rw [hM_N_1975, mu_i (by omega), hM_N_1973, mu_i (by omega), hM_N_1964, mu_i (by omega)]
              have e_1978 : (N_1975 c0 12) = 0 := by rw [hM_N_1975, mu_s]
              have e_1979 : (N_1975 c0 12) = 0 := by rw [hM_N_1975, mu_s]
              have e_1980 : (N_1975 c0 14) = (N_775 c0 14) := by rw [hM_N_1975, mu_i (by omega), hM_N_1973, mu_i (by omega), hM_N_1964, mu_i (by omega)]
              exact kx_vret F hQ ⟨hI_N_1975, hF_N_1975, (by omega)⟩ dX12_ahead_233
            · refine kx_istore_n 56 F 1 (lo' := [some (vR G c0), some (vI r_1965)]) dX12_ahead_55 rfl (by decide) rfl rfl rfl ?_
              refine kx_aload_n 57 F 0 dX12_ahead_56 rfl rfl rfl ?_
              refine kx_iload_n 58 F 1 dX12_ahead_57 rfl rfl rfl ?_
              refine kx_puti 61 F fw_X12_165 rfl hk_c0 rfl rfl (j := 15) rfl dX12_ahead_58 rfl ?_
              intro N_1981 hM_N_1981
              have hI_N_1981 : Inv true N_1981 := Inv.u hI_N_1964 hM_N_1981 hk_c0 (a := (-2147483648)) (b := 2147483647) rfl rfl rfl (by omega)
              have hF_N_1981 : Fr f_c_X12_ahead M N_1981 := Fr.u hF_N_1964 hM_N_1981 hk_c0 rfl
              refine kx_iload_n 62 F 1 dX12_ahead_61 rfl rfl rfl ?_
              refine kx_iconst 63 F dX12_ahead_62 rfl ?_
              refine kx_icmp_ne 66 F 74 dX12_ahead_63 (by decide) rfl (by omega) (by decide) (fun h_1982 => ?_) (fun h_1982 => (by exfalso; omega))
              refine kx_iload_n 75 F 1 dX12_ahead_74 rfl rfl rfl ?_
              refine kx_Si 78 F (As := [vI r_1965]) (st := []) sd_X12_171 (c_X12_isSmall G l N_1981 r_1965 hI_N_1981 (by omega)) ⟨by decide, by decide⟩ rfl rfl (Nat.le_of_ble_eq_true rfl) dX12_ahead_75 rfl ?_
              intro r_1983 N_1984 q_1985
              obtain ⟨rfl, q_1985c⟩ := q_1985
              rcases q_1985c with q_1985c | q_1985c | q_1985c
              · refine kx_if_eq 81 F 116 dX12_ahead_78 (by decide) rfl (by omega) (fun h_1986 => (by exfalso; omega)) (fun h_1986 => ?_)
                refine kx_aload_n 82 F 0 dX12_ahead_81 rfl rfl rfl ?_
                refine kx_aload_n 83 F 0 dX12_ahead_82 rfl rfl rfl ?_
                refine kx_geti 86 F fl_X12_156 hk_c0 rfl rfl (j := 14) rfl dX12_ahead_83 (v := (N_775 c0 14)) (by rw [hM_N_1981, mu_i (by omega), hM_N_1964, mu_i (by omega)]) rfl ?_
                refine kx_Vi 89 (ci := 0) F (As := [vI (N_775 c0 14)]) (st := []) vd_X12_159 (c_X12_byteAt G l N_1981 c0 (N_775 c0 14) hI_N_1981 hk_c0 (by omega)) hk_c0 rfl rfl rfl ⟨by decide, by decide⟩ rfl rfl (Nat.le_of_ble_eq_true rfl) dX12_ahead_86 rfl ?_
                intro r_1987 N_1988 q_1989
                obtain ⟨rfl, q_1989c⟩ := q_1989
                have e_1990 : (tbv N_1981 c0 (N_775 c0 14)) = (tbv M c0 (N_775 c0 14)) := tbv_fr hI_M hF_N_1981 hk_c0 rfl rfl
                have e_1991 : (N_1981 c0 11) = (M c0 11) := by rw [hM_N_1981, mu_i (by omega), hM_N_1964, mu_i (by omega), Fr.e hF_N_775 hk_c0 _ rfl]
                have e_1992 : (N_1981 c0 11) = (M c0 11) := by rw [hM_N_1981, mu_i (by omega), hM_N_1964, mu_i (by omega), Fr.e hF_N_775 hk_c0 _ rfl]
                have e_1993 : (N_1981 c0 11) = (M c0 11) := by rw [hM_N_1981, mu_i (by omega), hM_N_1964, mu_i (by omega), Fr.e hF_N_775 hk_c0 _ rfl]
                have e_1994 : (N_1981 c0 11) = (M c0 11) := by rw [hM_N_1981, mu_i (by omega), hM_N_1964, mu_i (by omega), Fr.e hF_N_775 hk_c0 _ rfl]
                rcases q_1989c with q_1989c | q_1989c
                · refine kx_Si 92 F (As := [vI r_1987]) (st := []) sd_X12_171 (c_X12_isSmall G l N_1981 r_1987 hI_N_1981 (by omega)) ⟨by decide, by decide⟩ rfl rfl (Nat.le_of_ble_eq_true rfl) dX12_ahead_89 rfl ?_
                  intro r_1995 N_1996 q_1997
                  obtain ⟨rfl, q_1997c⟩ := q_1997
                  rcases q_1997c with q_1997c | q_1997c | q_1997c
                  · exfalso; omega
                  · refine kx_if_eq 95 F 108 dX12_ahead_92 (by decide) rfl (by omega) (fun h_1998 => ?_) (fun h_1998 => (by exfalso; omega))
                    refine kx_aload_n 109 F 0 dX12_ahead_108 rfl rfl rfl ?_
                    refine kx_iconst 110 F dX12_ahead_109 rfl ?_
                    refine kx_puti 113 F fw_X12_168 rfl hk_c0 rfl rfl (j := 12) rfl dX12_ahead_110 rfl ?_
                    intro N_1999 hM_N_1999
                    have hI_N_1999 : Inv true N_1999 := Inv.u hI_N_1981 hM_N_1999 hk_c0 (a := 0) (b := 4) rfl rfl rfl (by omega)
                    have hF_N_1999 : Fr f_c_X12_ahead M N_1999 := Fr.u hF_N_1981 hM_N_1999 hk_c0 rfl
                    refine kx_goto 233 F dX12_ahead_113 (by decide) ?_
                    have e_2000 : (N_1999 c0 12) = 2 := by rw [hM_N_1999, mu_s]
                    have e_2001 : (N_1999 c0 14) = (N_775 c0 14) := by rw [hM_N_1999, mu_i (by omega), hM_N_1981, mu_i (by omega), hM_N_1964, mu_i (by omega)]
                    have e_2002 : (N_1999 c0 12) = 2 := by rw [hM_N_1999, mu_s]
                    have e_2003 : (N_1999 c0 12) = 2 := by rw [hM_N_1999, mu_s]
                    have e_2004 : (N_1999 c0 14) = (N_775 c0 14) := by rw [hM_N_1999, mu_i (by omega), hM_N_1981, mu_i (by omega), hM_N_1964, mu_i (by omega)]
                    exact kx_vret F hQ ⟨hI_N_1999, hF_N_1999, (by omega)⟩ dX12_ahead_233
                  · exfalso; omega
                · refine kx_Si 92 F (As := [vI r_1987]) (st := []) sd_X12_171 (c_X12_isSmall G l N_1981 r_1987 hI_N_1981 (by omega)) ⟨by decide, by decide⟩ rfl rfl (Nat.le_of_ble_eq_true rfl) dX12_ahead_89 rfl ?_
                  intro r_2005 N_2006 q_2007
                  obtain ⟨rfl, q_2007c⟩ := q_2007
                  rcases q_2007c with q_2007c | q_2007c | q_2007c
                  · refine kx_if_eq 95 F 108 dX12_ahead_92 (by decide) rfl (by omega) (fun h_2008 => (by exfalso; omega)) (fun h_2008 => ?_)
                    refine kx_aload_n 96 F 0 dX12_ahead_95 rfl rfl rfl ?_
                    refine kx_dup 97 F dX12_ahead_96 rfl rfl ?_
                    refine kx_geti 100 F fl_X12_156 hk_c0 rfl rfl (j := 14) rfl dX12_ahead_97 (v := (N_775 c0 14)) (by rw [hM_N_1981, mu_i (by omega), hM_N_1964, mu_i (by omega)]) rfl ?_
                    refine kx_iconst 101 F dX12_ahead_100 rfl ?_
                    refine kx_iadd 102 F (v := (N_775 c0 14) + 1) dX12_ahead_101 rfl rfl ?_
                    refine kx_puti 105 F fw_X12_156 rfl hk_c0 rfl rfl (j := 14) rfl dX12_ahead_102 rfl ?_
                    intro N_2009 hM_N_2009
                    have hI_N_2009 : Inv true N_2009 := Inv.u hI_N_1981 hM_N_2009 hk_c0 (a := 0) (b := 900) rfl rfl rfl (by omega)
                    have hF_N_2009 : Fr f_c_X12_ahead M N_2009 := Fr.u hF_N_1981 hM_N_2009 hk_c0 rfl
                    refine kx_goto 81 F dX12_ahead_105 (by decide) ?_
                    have L_2050 : ∀ (n_2051 : Nat) (N_2049 : Mem), Inv true N_2049 → Fr f_c_X12_ahead M N_2049 → (N_2049 c0 14) ≤ 900 ∧ (N_2049 c0 14) ≥ (N_2049 c0 13) + 1 ∧ (N_2049 c0 13) ≥ (M c0 14) → (900 - N_2049 c0 14).toNat = n_2051 → KJ true G X N_2049 81 [some (vR G c0), none] [] := by
                      intro n_2051
                      refine Nat.strongRecOn n_2051 ?_
                      intro n_2051 ih_2052  N_2049 hI_N_2049 hF_N_2049 h_2053 hm_2054
                      refine kx_aload_n 82 F 0 dX12_ahead_81 rfl rfl rfl ?_
                      refine kx_aload_n 83 F 0 dX12_ahead_82 rfl rfl rfl ?_
                      refine kx_geti 86 F fl_X12_156 hk_c0 rfl rfl (j := 14) rfl dX12_ahead_83 (v := (N_2049 c0 14)) rfl rfl ?_
                      have h_2055 := Inv.g hI_N_2049 hk_c0 rfl 14 (a := 0) (b := 900) rfl rfl
                      refine kx_Vi 89 (ci := 0) F (As := [vI (N_2049 c0 14)]) (st := []) vd_X12_159 (c_X12_byteAt G l N_2049 c0 (N_2049 c0 14) hI_N_2049 hk_c0 (by omega)) hk_c0 rfl rfl rfl ⟨by decide, by decide⟩ rfl rfl (Nat.le_of_ble_eq_true rfl) dX12_ahead_86 rfl ?_
                      intro r_2056 N_2057 q_2058
                      obtain ⟨rfl, q_2058c⟩ := q_2058
                      have e_2059 : (tbv N_2049 c0 (N_2049 c0 14)) = (tbv M c0 (N_2049 c0 14)) := tbv_fr hI_M hF_N_2049 hk_c0 rfl rfl
                      have e_2060 : (N_2049 c0 11) = (M c0 11) := by rw [Fr.e hF_N_2049 hk_c0 _ rfl]
                      have e_2061 : (N_2049 c0 11) = (M c0 11) := by rw [Fr.e hF_N_2049 hk_c0 _ rfl]
                      have e_2062 : (N_2049 c0 11) = (M c0 11) := by rw [Fr.e hF_N_2049 hk_c0 _ rfl]
                      have e_2063 : (N_2049 c0 11) = (M c0 11) := by rw [Fr.e hF_N_2049 hk_c0 _ rfl]
                      rcases q_2058c with q_2058c | q_2058c
                      · refine kx_Si 92 F (As := [vI r_2056]) (st := []) sd_X12_171 (c_X12_isSmall G l N_2049 r_2056 hI_N_2049 (by omega)) ⟨by decide, by decide⟩ rfl rfl (Nat.le_of_ble_eq_true rfl) dX12_ahead_89 rfl ?_
                        intro r_2064 N_2065 q_2066
                        obtain ⟨rfl, q_2066c⟩ := q_2066
                        rcases q_2066c with q_2066c | q_2066c | q_2066c
                        · exfalso; omega
                        · refine kx_if_eq 95 F 108 dX12_ahead_92 (by decide) rfl (by omega) (fun h_2067 => ?_) (fun h_2067 => (by exfalso; omega))
                          refine kx_aload_n 109 F 0 dX12_ahead_108 rfl rfl rfl ?_
                          refine kx_iconst 110 F dX12_ahead_109 rfl ?_
                          refine kx_puti 113 F fw_X12_168 rfl hk_c0 rfl rfl (j := 12) rfl dX12_ahead_110 rfl ?_
                          intro N_2068 hM_N_2068
                          have hI_N_2068 : Inv true N_2068 := Inv.u hI_N_2049 hM_N_2068 hk_c0 (a := 0) (b := 4) rfl rfl rfl (by omega)
                          have hF_N_2068 : Fr f_c_X12_ahead M N_2068 := Fr.u hF_N_2049 hM_N_2068 hk_c0 rfl
                          refine kx_goto 233 F dX12_ahead_113 (by decide) ?_
                          have e_2069 : (N_2068 c0 12) = 2 := by rw [hM_N_2068, mu_s]
                          have e_2070 : (N_2068 c0 14) = (N_2049 c0 14) := by rw [hM_N_2068, mu_i (by omega)]
                          have e_2071 : (N_2068 c0 12) = 2 := by rw [hM_N_2068, mu_s]
                          have e_2072 : (N_2068 c0 12) = 2 := by rw [hM_N_2068, mu_s]
                          have e_2073 : (N_2068 c0 14) = (N_2049 c0 14) := by rw [hM_N_2068, mu_i (by omega)]
                          exact kx_vret F hQ ⟨hI_N_2068, hF_N_2068, (by omega)⟩ dX12_ahead_233
                        · exfalso; omega
                      · refine kx_Si 92 F (As := [vI r_2056]) (st := []) sd_X12_171 (c_X12_isSmall G l N_2049 r_2056 hI_N_2049 (by omega)) ⟨by decide, by decide⟩ rfl rfl (Nat.le_of_ble_eq_true rfl) dX12_ahead_89 rfl ?_
                        intro r_2074 N_2075 q_2076
                        obtain ⟨rfl, q_2076c⟩ := q_2076
                        rcases q_2076c with q_2076c | q_2076c | q_2076c
                        · refine kx_if_eq 95 F 108 dX12_ahead_92 (by decide) rfl (by omega) (fun h_2077 => (by exfalso; omega)) (fun h_2077 => ?_)
                          refine kx_aload_n 96 F 0 dX12_ahead_95 rfl rfl rfl ?_
                          refine kx_dup 97 F dX12_ahead_96 rfl rfl ?_
                          refine kx_geti 100 F fl_X12_156 hk_c0 rfl rfl (j := 14) rfl dX12_ahead_97 (v := (N_2049 c0 14)) rfl rfl ?_
                          refine kx_iconst 101 F dX12_ahead_100 rfl ?_
                          refine kx_iadd 102 F (v := (N_2049 c0 14) + 1) dX12_ahead_101 rfl rfl ?_
                          refine kx_puti 105 F fw_X12_156 rfl hk_c0 rfl rfl (j := 14) rfl dX12_ahead_102 rfl ?_
                          intro N_2078 hM_N_2078
                          have hI_N_2078 : Inv true N_2078 := Inv.u hI_N_2049 hM_N_2078 hk_c0 (a := 0) (b := 900) rfl rfl rfl (by omega)
                          have hF_N_2078 : Fr f_c_X12_ahead M N_2078 := Fr.u hF_N_2049 hM_N_2078 hk_c0 rfl
                          refine kx_goto 81 F dX12_ahead_105 (by decide) ?_
                          have e_2079 : (N_2078 c0 14) = (N_2049 c0 14) + 1 := by rw [hM_N_2078, mu_s]
                          have e_2080 : (N_2078 c0 14) = (N_2049 c0 14) + 1 := by rw [hM_N_2078, mu_s]
                          have e_2081 : (N_2078 c0 13) = (N_2049 c0 13) := by rw [hM_N_2078, mu_i (by omega)]
                          have h_2082 := Inv.g hI_N_2049 hk_c0 rfl 13 (a := 0) (b := 900) rfl rfl
                          have e_2083 : (N_2078 c0 13) = (N_2049 c0 13) := by rw [hM_N_2078, mu_i (by omega)]
                          exact ih_2052 _ (by omega) N_2078 hI_N_2078 hF_N_2078 (by omega) rfl
                        · refine kx_if_eq 95 F 108 dX12_ahead_92 (by decide) rfl (by omega) (fun h_2084 => ?_) (fun h_2084 => (by exfalso; omega))
                          refine kx_aload_n 109 F 0 dX12_ahead_108 rfl rfl rfl ?_
                          refine kx_iconst 110 F dX12_ahead_109 rfl ?_
                          refine kx_puti 113 F fw_X12_168 rfl hk_c0 rfl rfl (j := 12) rfl dX12_ahead_110 rfl ?_
                          intro N_2085 hM_N_2085
                          have hI_N_2085 : Inv true N_2085 := Inv.u hI_N_2049 hM_N_2085 hk_c0 (a := 0) (b := 4) rfl rfl rfl (by omega)
                          have hF_N_2085 : Fr f_c_X12_ahead M N_2085 := Fr.u hF_N_2049 hM_N_2085 hk_c0 rfl
                          refine kx_goto 233 F dX12_ahead_113 (by decide) ?_
                          have e_2086 : (N_2085 c0 12) = 2 := by rw [hM_N_2085, mu_s]
                          have e_2087 : (N_2085 c0 14) = (N_2049 c0 14) := by rw [hM_N_2085, mu_i (by omega)]
                          have e_2088 : (N_2085 c0 12) = 2 := by rw [hM_N_2085, mu_s]
                          have e_2089 : (N_2085 c0 12) = 2 := by rw [hM_N_2085, mu_s]
                          have e_2090 : (N_2085 c0 14) = (N_2049 c0 14) := by rw [hM_N_2085, mu_i (by omega)]
                          exact kx_vret F hQ ⟨hI_N_2085, hF_N_2085, (by omega)⟩ dX12_ahead_233
                        · refine kx_if_eq 95 F 108 dX12_ahead_92 (by decide) rfl (by omega) (fun h_2091 => ?_) (fun h_2091 => (by exfalso; omega))
                          refine kx_aload_n 109 F 0 dX12_ahead_108 rfl rfl rfl ?_
                          refine kx_iconst 110 F dX12_ahead_109 rfl ?_
                          refine kx_puti 113 F fw_X12_168 rfl hk_c0 rfl rfl (j := 12) rfl dX12_ahead_110 rfl ?_
                          intro N_2092 hM_N_2092
                          have hI_N_2092 : Inv true N_2092 := Inv.u hI_N_2049 hM_N_2092 hk_c0 (a := 0) (b := 4) rfl rfl rfl (by omega)
                          have hF_N_2092 : Fr f_c_X12_ahead M N_2092 := Fr.u hF_N_2049 hM_N_2092 hk_c0 rfl
                          refine kx_goto 233 F dX12_ahead_113 (by decide) ?_
                          have e_2093 : (N_2092 c0 12) = 2 := by rw [hM_N_2092, mu_s]
                          have e_2094 : (N_2092 c0 14) = (N_2049 c0 14) := by rw [hM_N_2092, mu_i (by omega)]
                          have e_2095 : (N_2092 c0 12) = 2 := by rw [hM_N_2092, mu_s]
                          have e_2096 : (N_2092 c0 12) = 2 := by rw [hM_N_2092, mu_s]
                          have e_2097 : (N_2092 c0 14) = (N_2049 c0 14) := by rw [hM_N_2092, mu_i (by omega)]
                          exact kx_vret F hQ ⟨hI_N_2092, hF_N_2092, (by omega)⟩ dX12_ahead_233
                    refine kx_drop 1 (lo' := [some (vR G c0), none]) rfl ?_
                    have e_2098 : (N_2009 c0 14) = (N_775 c0 14) + 1 := by rw [hM_N_2009, mu_s]
                    have e_2099 : (N_2009 c0 14) = (N_775 c0 14) + 1 := by rw [hM_N_2009, mu_s]
                    have e_2100 : (N_2009 c0 13) = (N_775 c0 14) := by rw [hM_N_2009, mu_i (by omega), hM_N_1981, mu_i (by omega), hM_N_1964, mu_s]
                    have e_2101 : (N_2009 c0 13) = (N_775 c0 14) := by rw [hM_N_2009, mu_i (by omega), hM_N_1981, mu_i (by omega), hM_N_1964, mu_s]
                    exact L_2050 _ N_2009 hI_N_2009 hF_N_2009 (by omega) rfl
                  · exfalso; omega
                  · exfalso; omega
              · refine kx_if_eq 81 F 116 dX12_ahead_78 (by decide) rfl (by omega) (fun h_2102 => ?_) (fun h_2102 => (by exfalso; omega))
                refine kx_iload_n 117 F 1 dX12_ahead_116 rfl rfl rfl ?_
                refine kx_Si 120 F (As := [vI r_1965]) (st := []) sd_X12_174 (c_X12_isDigit G l N_1981 r_1965 hI_N_1981 (by omega)) ⟨by decide, by decide⟩ rfl rfl (Nat.le_of_ble_eq_true rfl) dX12_ahead_117 rfl ?_
                intro r_2103 N_2104 q_2105
                obtain ⟨rfl, q_2105c⟩ := q_2105
                rcases q_2105c with q_2105c | q_2105c | q_2105c
                · refine kx_if_eq 123 F 208 dX12_ahead_120 (by decide) rfl (by omega) (fun h_2106 => (by exfalso; omega)) (fun h_2106 => ?_)
                  refine kx_aload_n 124 F 0 dX12_ahead_123 rfl rfl rfl ?_
                  refine kx_iconst 125 F dX12_ahead_124 rfl ?_
                  refine kx_puti 128 F fw_X12_165 rfl hk_c0 rfl rfl (j := 15) rfl dX12_ahead_125 rfl ?_
                  intro N_2107 hM_N_2107
                  have hI_N_2107 : Inv true N_2107 := Inv.u hI_N_1981 hM_N_2107 hk_c0 (a := (-2147483648)) (b := 2147483647) rfl rfl rfl (by omega)
                  have hF_N_2107 : Fr f_c_X12_ahead M N_2107 := Fr.u hF_N_1981 hM_N_2107 hk_c0 rfl
                  refine kx_aload_n 129 F 0 dX12_ahead_128 rfl rfl rfl ?_
                  refine kx_aload_n 130 F 0 dX12_ahead_129 rfl rfl rfl ?_
                  refine kx_geti 133 F fl_X12_156 hk_c0 rfl rfl (j := 14) rfl dX12_ahead_130 (v := (N_775 c0 14)) (by rw [hM_N_2107, mu_i (by omega), hM_N_1981, mu_i (by omega), hM_N_1964, mu_i (by omega)]) rfl ?_
                  refine kx_Vi 136 (ci := 0) F (As := [vI (N_775 c0 14)]) (st := []) vd_X12_159 (c_X12_byteAt G l N_2107 c0 (N_775 c0 14) hI_N_2107 hk_c0 (by omega)) hk_c0 rfl rfl rfl ⟨by decide, by decide⟩ rfl rfl (Nat.le_of_ble_eq_true rfl) dX12_ahead_133 rfl ?_
                  intro r_2108 N_2109 q_2110
                  obtain ⟨rfl, q_2110c⟩ := q_2110
                  have e_2111 : (tbv N_2107 c0 (N_775 c0 14)) = (tbv M c0 (N_775 c0 14)) := tbv_fr hI_M hF_N_2107 hk_c0 rfl rfl
                  have e_2112 : (N_2107 c0 11) = (M c0 11) := by rw [hM_N_2107, mu_i (by omega), hM_N_1981, mu_i (by omega), hM_N_1964, mu_i (by omega), Fr.e hF_N_775 hk_c0 _ rfl]
                  have e_2113 : (N_2107 c0 11) = (M c0 11) := by rw [hM_N_2107, mu_i (by omega), hM_N_1981, mu_i (by omega), hM_N_1964, mu_i (by omega), Fr.e hF_N_775 hk_c0 _ rfl]
                  have e_2114 : (N_2107 c0 11) = (M c0 11) := by rw [hM_N_2107, mu_i (by omega), hM_N_1981, mu_i (by omega), hM_N_1964, mu_i (by omega), Fr.e hF_N_775 hk_c0 _ rfl]
                  have e_2115 : (N_2107 c0 11) = (M c0 11) := by rw [hM_N_2107, mu_i (by omega), hM_N_1981, mu_i (by omega), hM_N_1964, mu_i (by omega), Fr.e hF_N_775 hk_c0 _ rfl]
                  rcases q_2110c with q_2110c | q_2110c
                  · refine kx_Si 139 F (As := [vI r_2108]) (st := []) sd_X12_174 (c_X12_isDigit G l N_2107 r_2108 hI_N_2107 (by omega)) ⟨by decide, by decide⟩ rfl rfl (Nat.le_of_ble_eq_true rfl) dX12_ahead_136 rfl ?_
                    intro r_2116 N_2117 q_2118
                    obtain ⟨rfl, q_2118c⟩ := q_2118
                    rcases q_2118c with q_2118c | q_2118c | q_2118c
                    · exfalso; omega
                    · refine kx_if_eq 142 F 183 dX12_ahead_139 (by decide) rfl (by omega) (fun h_2119 => ?_) (fun h_2119 => (by exfalso; omega))
                      refine kx_aload_n 184 F 0 dX12_ahead_183 rfl rfl rfl ?_
                      refine kx_aload_n 185 F 0 dX12_ahead_184 rfl rfl rfl ?_
                      refine kx_geti 188 F fl_X12_156 hk_c0 rfl rfl (j := 14) rfl dX12_ahead_185 (v := (N_775 c0 14)) (by rw [hM_N_2107, mu_i (by omega), hM_N_1981, mu_i (by omega), hM_N_1964, mu_i (by omega)]) rfl ?_
                      refine kx_aload_n 189 F 0 dX12_ahead_188 rfl rfl rfl ?_
                      refine kx_geti 192 F fl_X12_162 hk_c0 rfl rfl (j := 13) rfl dX12_ahead_189 (v := (N_775 c0 14)) (by rw [hM_N_2107, mu_i (by omega), hM_N_1981, mu_i (by omega), hM_N_1964, mu_s]) rfl ?_
                      refine kx_isub 193 F (v := 0) dX12_ahead_192 (by omega) rfl ?_
                      refine kx_iconst 194 F dX12_ahead_193 rfl ?_
                      refine kx_icmp_le 197 F 201 dX12_ahead_194 (by decide) rfl (by decide) (by decide) (fun h_2120 => ?_) (fun h_2120 => (by exfalso; omega))
                      refine kx_iconst 202 F dX12_ahead_201 rfl ?_
                      refine kx_puti 205 F fw_X12_168 rfl hk_c0 rfl rfl (j := 12) rfl dX12_ahead_202 rfl ?_
                      intro N_2121 hM_N_2121
                      have hI_N_2121 : Inv true N_2121 := Inv.u hI_N_2107 hM_N_2121 hk_c0 (a := 0) (b := 4) rfl rfl rfl (by omega)
                      have hF_N_2121 : Fr f_c_X12_ahead M N_2121 := Fr.u hF_N_2107 hM_N_2121 hk_c0 rfl
                      refine kx_goto 233 F dX12_ahead_205 (by decide) ?_
                      have e_2122 : (N_2121 c0 12) = 3 := by rw [hM_N_2121, mu_s]
                      have e_2123 : (N_2121 c0 14) = (N_775 c0 14) := by rw [hM_N_2121, mu_i (by omega), hM_N_2107, mu_i (by omega), hM_N_1981, mu_i (by omega), hM_N_1964, mu_i (by omega)]
                      have e_2124 : (N_2121 c0 12) = 3 := by rw [hM_N_2121, mu_s]
                      have e_2125 : (N_2121 c0 12) = 3 := by rw [hM_N_2121, mu_s]
                      have e_2126 : (N_2121 c0 14) = (N_775 c0 14) := by rw [hM_N_2121, mu_i (by omega), hM_N_2107, mu_i (by omega), hM_N_1981, mu_i (by omega), hM_N_1964, mu_i (by omega)]
                      exact kx_vret F hQ ⟨hI_N_2121, hF_N_2121, (by omega)⟩ dX12_ahead_233
                    · exfalso; omega
                  · refine kx_Si 139 F (As := [vI r_2108]) (st := []) sd_X12_174 (c_X12_isDigit G l N_2107 r_2108 hI_N_2107 (by omega)) ⟨by decide, by decide⟩ rfl rfl (Nat.le_of_ble_eq_true rfl) dX12_ahead_136 rfl ?_
                    intro r_2127 N_2128 q_2129
                    obtain ⟨rfl, q_2129c⟩ := q_2129
                    rcases q_2129c with q_2129c | q_2129c | q_2129c
                    · refine kx_if_eq 142 F 183 dX12_ahead_139 (by decide) rfl (by omega) (fun h_2130 => (by exfalso; omega)) (fun h_2130 => ?_)
                      refine kx_aload_n 143 F 0 dX12_ahead_142 rfl rfl rfl ?_
                      refine kx_ldc 145 (z := 100000) F dX12_ahead_143 ct_X12_177 rfl ?_
                      refine kx_bipush 147 F dX12_ahead_145 (by decide) rfl ?_
                      refine kx_aload_n 148 F 0 dX12_ahead_147 rfl rfl rfl ?_
                      refine kx_geti 151 F fl_X12_165 hk_c0 rfl rfl (j := 15) rfl dX12_ahead_148 (v := 0) (by rw [hM_N_2107, mu_s]) rfl ?_
                      refine kx_imul 152 F (v := 0) dX12_ahead_151 (by omega) rfl ?_
                      refine kx_aload_n 153 F 0 dX12_ahead_152 rfl rfl rfl ?_
                      refine kx_aload_n 154 F 0 dX12_ahead_153 rfl rfl rfl ?_
                      refine kx_geti 157 F fl_X12_156 hk_c0 rfl rfl (j := 14) rfl dX12_ahead_154 (v := (N_775 c0 14)) (by rw [hM_N_2107, mu_i (by omega), hM_N_1981, mu_i (by omega), hM_N_1964, mu_i (by omega)]) rfl ?_
                      refine kx_Vi 160 (ci := 0) F (As := [vI (N_775 c0 14)]) (st := [vI 0, vI 100000, vR G c0]) vd_X12_159 (c_X12_byteAt G l N_2107 c0 (N_775 c0 14) hI_N_2107 hk_c0 (by omega)) hk_c0 rfl rfl rfl ⟨by decide, by decide⟩ rfl rfl (Nat.le_of_ble_eq_true rfl) dX12_ahead_157 rfl ?_
                      intro r_2131 N_2132 q_2133
                      obtain ⟨rfl, q_2133c⟩ := q_2133
                      have e_2134 : (N_2107 c0 11) = (M c0 11) := by rw [hM_N_2107, mu_i (by omega), hM_N_1981, mu_i (by omega), hM_N_1964, mu_i (by omega), Fr.e hF_N_775 hk_c0 _ rfl]
                      have e_2135 : (N_2107 c0 11) = (M c0 11) := by rw [hM_N_2107, mu_i (by omega), hM_N_1981, mu_i (by omega), hM_N_1964, mu_i (by omega), Fr.e hF_N_775 hk_c0 _ rfl]
                      have e_2136 : (N_2107 c0 11) = (M c0 11) := by rw [hM_N_2107, mu_i (by omega), hM_N_1981, mu_i (by omega), hM_N_1964, mu_i (by omega), Fr.e hF_N_775 hk_c0 _ rfl]
                      have e_2137 : (N_2107 c0 11) = (M c0 11) := by rw [hM_N_2107, mu_i (by omega), hM_N_1981, mu_i (by omega), hM_N_1964, mu_i (by omega), Fr.e hF_N_775 hk_c0 _ rfl]
                      rcases q_2133c with q_2133c | q_2133c
                      · exfalso; omega
                      · refine kx_iadd 161 F (v := r_2131) dX12_ahead_160 (by omega) rfl ?_
                        refine kx_bipush 163 F dX12_ahead_161 (by decide) rfl ?_
                        refine kx_isub 164 F (v := r_2131 - 48) dX12_ahead_163 rfl rfl ?_
                        refine kx_mmin 167 F dX12_ahead_164 (tt lm_1833 rfl) (tt lm_800 rfl) (tt lm_180 rfl) (tt lm_801 rfl) (by decide) (Nat.le_of_ble_eq_true rfl) (by omega) (by omega) rfl (fun w_2138 h_2139 => ?_)
                        refine kx_puti 170 F fw_X12_165 rfl hk_c0 rfl rfl (j := 15) rfl dX12_ahead_167 rfl ?_
                        intro N_2140 hM_N_2140
                        have hI_N_2140 : Inv true N_2140 := Inv.u hI_N_2107 hM_N_2140 hk_c0 (a := (-2147483648)) (b := 2147483647) rfl rfl rfl (by omega)
                        have hF_N_2140 : Fr f_c_X12_ahead M N_2140 := Fr.u hF_N_2107 hM_N_2140 hk_c0 rfl
                        refine kx_aload_n 171 F 0 dX12_ahead_170 rfl rfl rfl ?_
                        refine kx_dup 172 F dX12_ahead_171 rfl rfl ?_
                        refine kx_geti 175 F fl_X12_156 hk_c0 rfl rfl (j := 14) rfl dX12_ahead_172 (v := (N_775 c0 14)) (by rw [hM_N_2140, mu_i (by omega), hM_N_2107, mu_i (by omega), hM_N_1981, mu_i (by omega), hM_N_1964, mu_i (by omega)]) rfl ?_
                        refine kx_iconst 176 F dX12_ahead_175 rfl ?_
                        refine kx_iadd 177 F (v := (N_775 c0 14) + 1) dX12_ahead_176 rfl rfl ?_
                        refine kx_puti 180 F fw_X12_156 rfl hk_c0 rfl rfl (j := 14) rfl dX12_ahead_177 rfl ?_
                        intro N_2141 hM_N_2141
                        have hI_N_2141 : Inv true N_2141 := Inv.u hI_N_2140 hM_N_2141 hk_c0 (a := 0) (b := 900) rfl rfl rfl (by omega)
                        have hF_N_2141 : Fr f_c_X12_ahead M N_2141 := Fr.u hF_N_2140 hM_N_2141 hk_c0 rfl
                        refine kx_goto 128 F dX12_ahead_180 (by decide) ?_
                        have L_2223 : ∀ (n_2224 : Nat) (N_2222 : Mem), Inv true N_2222 → Fr f_c_X12_ahead M N_2222 → (N_2222 c0 14) ≤ 900 ∧ (N_2222 c0 14) ≥ (N_2222 c0 13) + 1 ∧ (N_2222 c0 13) ≥ (M c0 14) → (900 - N_2222 c0 14).toNat = n_2224 → KJ true G X N_2222 128 [some (vR G c0), none] [] := by
                          intro n_2224
                          refine Nat.strongRecOn n_2224 ?_
                          intro n_2224 ih_2225  N_2222 hI_N_2222 hF_N_2222 h_2226 hm_2227
                          refine kx_aload_n 129 F 0 dX12_ahead_128 rfl rfl rfl ?_
                          refine kx_aload_n 130 F 0 dX12_ahead_129 rfl rfl rfl ?_
                          refine kx_geti 133 F fl_X12_156 hk_c0 rfl rfl (j := 14) rfl dX12_ahead_130 (v := (N_2222 c0 14)) rfl rfl ?_
                          have h_2228 := Inv.g hI_N_2222 hk_c0 rfl 14 (a := 0) (b := 900) rfl rfl
                          refine kx_Vi 136 (ci := 0) F (As := [vI (N_2222 c0 14)]) (st := []) vd_X12_159 (c_X12_byteAt G l N_2222 c0 (N_2222 c0 14) hI_N_2222 hk_c0 (by omega)) hk_c0 rfl rfl rfl ⟨by decide, by decide⟩ rfl rfl (Nat.le_of_ble_eq_true rfl) dX12_ahead_133 rfl ?_
                          intro r_2229 N_2230 q_2231
                          obtain ⟨rfl, q_2231c⟩ := q_2231
                          have e_2232 : (tbv N_2222 c0 (N_2222 c0 14)) = (tbv M c0 (N_2222 c0 14)) := tbv_fr hI_M hF_N_2222 hk_c0 rfl rfl
                          have e_2233 : (N_2222 c0 11) = (M c0 11) := by rw [Fr.e hF_N_2222 hk_c0 _ rfl]
                          have e_2234 : (N_2222 c0 11) = (M c0 11) := by rw [Fr.e hF_N_2222 hk_c0 _ rfl]
                          have e_2235 : (N_2222 c0 11) = (M c0 11) := by rw [Fr.e hF_N_2222 hk_c0 _ rfl]
                          have e_2236 : (N_2222 c0 11) = (M c0 11) := by rw [Fr.e hF_N_2222 hk_c0 _ rfl]
                          rcases q_2231c with q_2231c | q_2231c
                          · refine kx_Si 139 F (As := [vI r_2229]) (st := []) sd_X12_174 (c_X12_isDigit G l N_2222 r_2229 hI_N_2222 (by omega)) ⟨by decide, by decide⟩ rfl rfl (Nat.le_of_ble_eq_true rfl) dX12_ahead_136 rfl ?_
                            intro r_2237 N_2238 q_2239
                            obtain ⟨rfl, q_2239c⟩ := q_2239
                            rcases q_2239c with q_2239c | q_2239c | q_2239c
                            · exfalso; omega
                            · refine kx_if_eq 142 F 183 dX12_ahead_139 (by decide) rfl (by omega) (fun h_2240 => ?_) (fun h_2240 => (by exfalso; omega))
                              refine kx_aload_n 184 F 0 dX12_ahead_183 rfl rfl rfl ?_
                              refine kx_aload_n 185 F 0 dX12_ahead_184 rfl rfl rfl ?_
                              refine kx_geti 188 F fl_X12_156 hk_c0 rfl rfl (j := 14) rfl dX12_ahead_185 (v := (N_2222 c0 14)) rfl rfl ?_
                              refine kx_aload_n 189 F 0 dX12_ahead_188 rfl rfl rfl ?_
                              refine kx_geti 192 F fl_X12_162 hk_c0 rfl rfl (j := 13) rfl dX12_ahead_189 (v := (N_2222 c0 13)) rfl rfl ?_
                              have h_2241 := Inv.g hI_N_2222 hk_c0 rfl 13 (a := 0) (b := 900) rfl rfl
                              refine kx_isub 193 F (v := (N_2222 c0 14) - (N_2222 c0 13)) dX12_ahead_192 rfl rfl ?_
                              refine kx_iconst 194 F dX12_ahead_193 rfl ?_
                              refine kx_icmp_le 197 F 201 dX12_ahead_194 (by decide) rfl (by omega) (by decide) (fun h_2242 => ?_) (fun h_2242 => ?_)
                              · refine kx_iconst 202 F dX12_ahead_201 rfl ?_
                                refine kx_puti 205 F fw_X12_168 rfl hk_c0 rfl rfl (j := 12) rfl dX12_ahead_202 rfl ?_
                                intro N_2243 hM_N_2243
                                have hI_N_2243 : Inv true N_2243 := Inv.u hI_N_2222 hM_N_2243 hk_c0 (a := 0) (b := 4) rfl rfl rfl (by omega)
                                have hF_N_2243 : Fr f_c_X12_ahead M N_2243 := Fr.u hF_N_2222 hM_N_2243 hk_c0 rfl
                                refine kx_goto 233 F dX12_ahead_205 (by decide) ?_
                                have e_2244 : (N_2243 c0 12) = 3 := by rw [hM_N_2243, mu_s]
                                have e_2245 : (N_2243 c0 14) = (N_2222 c0 14) := by rw [hM_N_2243, mu_i (by omega)]
                                have e_2246 : (N_2243 c0 12) = 3 := by rw [hM_N_2243, mu_s]
                                have e_2247 : (N_2243 c0 12) = 3 := by rw [hM_N_2243, mu_s]
                                have e_2248 : (N_2243 c0 14) = (N_2222 c0 14) := by rw [hM_N_2243, mu_i (by omega)]
                                exact kx_vret F hQ ⟨hI_N_2243, hF_N_2243, (by omega)⟩ dX12_ahead_233
                              · refine kx_iconst 198 F dX12_ahead_197 rfl ?_
                                refine kx_goto 202 F dX12_ahead_198 (by decide) ?_
                                refine kx_puti 205 F fw_X12_168 rfl hk_c0 rfl rfl (j := 12) rfl dX12_ahead_202 rfl ?_
                                intro N_2249 hM_N_2249
                                have hI_N_2249 : Inv true N_2249 := Inv.u hI_N_2222 hM_N_2249 hk_c0 (a := 0) (b := 4) rfl rfl rfl (by omega)
                                have hF_N_2249 : Fr f_c_X12_ahead M N_2249 := Fr.u hF_N_2222 hM_N_2249 hk_c0 rfl
                                refine kx_goto 233 F dX12_ahead_205 (by decide) ?_
                                have e_2250 : (N_2249 c0 12) = 1 := by rw [hM_N_2249, mu_s]
                                have e_2251 : (N_2249 c0 14) = (N_2222 c0 14) := by rw [hM_N_2249, mu_i (by omega)]
                                have e_2252 : (N_2249 c0 12) = 1 := by rw [hM_N_2249, mu_s]
                                have e_2253 : (N_2249 c0 12) = 1 := by rw [hM_N_2249, mu_s]
                                have e_2254 : (N_2249 c0 14) = (N_2222 c0 14) := by rw [hM_N_2249, mu_i (by omega)]
                                exact kx_vret F hQ ⟨hI_N_2249, hF_N_2249, (by omega)⟩ dX12_ahead_233
                            · exfalso; omega
                          · refine kx_Si 139 F (As := [vI r_2229]) (st := []) sd_X12_174 (c_X12_isDigit G l N_2222 r_2229 hI_N_2222 (by omega)) ⟨by decide, by decide⟩ rfl rfl (Nat.le_of_ble_eq_true rfl) dX12_ahead_136 rfl ?_
                            intro r_2255 N_2256 q_2257
                            obtain ⟨rfl, q_2257c⟩ := q_2257
                            rcases q_2257c with q_2257c | q_2257c | q_2257c
                            · refine kx_if_eq 142 F 183 dX12_ahead_139 (by decide) rfl (by omega) (fun h_2258 => (by exfalso; omega)) (fun h_2258 => ?_)
                              refine kx_aload_n 143 F 0 dX12_ahead_142 rfl rfl rfl ?_
                              refine kx_ldc 145 (z := 100000) F dX12_ahead_143 ct_X12_177 rfl ?_
                              refine kx_bipush 147 F dX12_ahead_145 (by decide) rfl ?_
                              refine kx_aload_n 148 F 0 dX12_ahead_147 rfl rfl rfl ?_
                              refine kx_geti 151 F fl_X12_165 hk_c0 rfl rfl (j := 15) rfl dX12_ahead_148 (v := (N_2222 c0 15)) rfl rfl ?_
                              have h_2259 := Inv.g hI_N_2222 hk_c0 rfl 15 (a := (-2147483648)) (b := 2147483647) rfl rfl
                              refine kx_imul 152 F (v := 10 * (N_2222 c0 15)) dX12_ahead_151 (by omega) rfl ?_
                              refine kx_wrapi (fun w_2260 h_2261 _ => ?_)
                              refine kx_aload_n 153 F 0 dX12_ahead_152 rfl rfl rfl ?_
                              refine kx_aload_n 154 F 0 dX12_ahead_153 rfl rfl rfl ?_
                              refine kx_geti 157 F fl_X12_156 hk_c0 rfl rfl (j := 14) rfl dX12_ahead_154 (v := (N_2222 c0 14)) rfl rfl ?_
                              refine kx_Vi 160 (ci := 0) F (As := [vI (N_2222 c0 14)]) (st := [vI w_2260, vI 100000, vR G c0]) vd_X12_159 (c_X12_byteAt G l N_2222 c0 (N_2222 c0 14) hI_N_2222 hk_c0 (by omega)) hk_c0 rfl rfl rfl ⟨by decide, by decide⟩ rfl rfl (Nat.le_of_ble_eq_true rfl) dX12_ahead_157 rfl ?_
                              intro r_2262 N_2263 q_2264
                              obtain ⟨rfl, q_2264c⟩ := q_2264
                              have e_2265 : (N_2222 c0 11) = (M c0 11) := by rw [Fr.e hF_N_2222 hk_c0 _ rfl]
                              have e_2266 : (N_2222 c0 11) = (M c0 11) := by rw [Fr.e hF_N_2222 hk_c0 _ rfl]
                              have e_2267 : (N_2222 c0 11) = (M c0 11) := by rw [Fr.e hF_N_2222 hk_c0 _ rfl]
                              have e_2268 : (N_2222 c0 11) = (M c0 11) := by rw [Fr.e hF_N_2222 hk_c0 _ rfl]
                              rcases q_2264c with q_2264c | q_2264c
                              · exfalso; omega
                              · refine kx_iadd 161 F (v := w_2260 + r_2262) dX12_ahead_160 rfl rfl ?_
                                refine kx_wrapi (fun w_2269 h_2270 _ => ?_)
                                refine kx_bipush 163 F dX12_ahead_161 (by decide) rfl ?_
                                refine kx_isub 164 F (v := w_2269 - 48) dX12_ahead_163 rfl rfl ?_
                                refine kx_wrapi (fun w_2271 h_2272 _ => ?_)
                                refine kx_mmin 167 F dX12_ahead_164 (tt lm_1833 rfl) (tt lm_800 rfl) (tt lm_180 rfl) (tt lm_801 rfl) (by decide) (Nat.le_of_ble_eq_true rfl) (by omega) (by omega) rfl (fun w_2273 h_2274 => ?_)
                                refine kx_puti 170 F fw_X12_165 rfl hk_c0 rfl rfl (j := 15) rfl dX12_ahead_167 rfl ?_
                                intro N_2275 hM_N_2275
                                have hI_N_2275 : Inv true N_2275 := Inv.u hI_N_2222 hM_N_2275 hk_c0 (a := (-2147483648)) (b := 2147483647) rfl rfl rfl (by omega)
                                have hF_N_2275 : Fr f_c_X12_ahead M N_2275 := Fr.u hF_N_2222 hM_N_2275 hk_c0 rfl
                                refine kx_aload_n 171 F 0 dX12_ahead_170 rfl rfl rfl ?_
                                refine kx_dup 172 F dX12_ahead_171 rfl rfl ?_
                                refine kx_geti 175 F fl_X12_156 hk_c0 rfl rfl (j := 14) rfl dX12_ahead_172 (v := (N_2222 c0 14)) (by rw [hM_N_2275, mu_i (by omega)]) rfl ?_
                                refine kx_iconst 176 F dX12_ahead_175 rfl ?_
                                refine kx_iadd 177 F (v := (N_2222 c0 14) + 1) dX12_ahead_176 rfl rfl ?_
                                refine kx_puti 180 F fw_X12_156 rfl hk_c0 rfl rfl (j := 14) rfl dX12_ahead_177 rfl ?_
                                intro N_2276 hM_N_2276
                                have hI_N_2276 : Inv true N_2276 := Inv.u hI_N_2275 hM_N_2276 hk_c0 (a := 0) (b := 900) rfl rfl rfl (by omega)
                                have hF_N_2276 : Fr f_c_X12_ahead M N_2276 := Fr.u hF_N_2275 hM_N_2276 hk_c0 rfl
                                refine kx_goto 128 F dX12_ahead_180 (by decide) ?_
                                have e_2277 : (N_2276 c0 14) = (N_2222 c0 14) + 1 := by rw [hM_N_2276, mu_s]
                                have e_2278 : (N_2276 c0 14) = (N_2222 c0 14) + 1 := by rw [hM_N_2276, mu_s]
                                have e_2279 : (N_2276 c0 13) = (N_2222 c0 13) := by rw [hM_N_2276, mu_i (by omega), hM_N_2275, mu_i (by omega)]
                                have h_2280 := Inv.g hI_N_2222 hk_c0 rfl 13 (a := 0) (b := 900) rfl rfl
                                have e_2281 : (N_2276 c0 13) = (N_2222 c0 13) := by rw [hM_N_2276, mu_i (by omega), hM_N_2275, mu_i (by omega)]
                                exact ih_2225 _ (by omega) N_2276 hI_N_2276 hF_N_2276 (by omega) rfl
                            · refine kx_if_eq 142 F 183 dX12_ahead_139 (by decide) rfl (by omega) (fun h_2282 => ?_) (fun h_2282 => (by exfalso; omega))
                              refine kx_aload_n 184 F 0 dX12_ahead_183 rfl rfl rfl ?_
                              refine kx_aload_n 185 F 0 dX12_ahead_184 rfl rfl rfl ?_
                              refine kx_geti 188 F fl_X12_156 hk_c0 rfl rfl (j := 14) rfl dX12_ahead_185 (v := (N_2222 c0 14)) rfl rfl ?_
                              refine kx_aload_n 189 F 0 dX12_ahead_188 rfl rfl rfl ?_
                              refine kx_geti 192 F fl_X12_162 hk_c0 rfl rfl (j := 13) rfl dX12_ahead_189 (v := (N_2222 c0 13)) rfl rfl ?_
                              have h_2283 := Inv.g hI_N_2222 hk_c0 rfl 13 (a := 0) (b := 900) rfl rfl
                              refine kx_isub 193 F (v := (N_2222 c0 14) - (N_2222 c0 13)) dX12_ahead_192 rfl rfl ?_
                              refine kx_iconst 194 F dX12_ahead_193 rfl ?_
                              refine kx_icmp_le 197 F 201 dX12_ahead_194 (by decide) rfl (by omega) (by decide) (fun h_2284 => ?_) (fun h_2284 => ?_)
                              · refine kx_iconst 202 F dX12_ahead_201 rfl ?_
                                refine kx_puti 205 F fw_X12_168 rfl hk_c0 rfl rfl (j := 12) rfl dX12_ahead_202 rfl ?_
                                intro N_2285 hM_N_2285
                                have hI_N_2285 : Inv true N_2285 := Inv.u hI_N_2222 hM_N_2285 hk_c0 (a := 0) (b := 4) rfl rfl rfl (by omega)
                                have hF_N_2285 : Fr f_c_X12_ahead M N_2285 := Fr.u hF_N_2222 hM_N_2285 hk_c0 rfl
                                refine kx_goto 233 F dX12_ahead_205 (by decide) ?_
                                have e_2286 : (N_2285 c0 12) = 3 := by rw [hM_N_2285, mu_s]
                                have e_2287 : (N_2285 c0 14) = (N_2222 c0 14) := by rw [hM_N_2285, mu_i (by omega)]
                                have e_2288 : (N_2285 c0 12) = 3 := by rw [hM_N_2285, mu_s]
                                have e_2289 : (N_2285 c0 12) = 3 := by rw [hM_N_2285, mu_s]
                                have e_2290 : (N_2285 c0 14) = (N_2222 c0 14) := by rw [hM_N_2285, mu_i (by omega)]
                                exact kx_vret F hQ ⟨hI_N_2285, hF_N_2285, (by omega)⟩ dX12_ahead_233
                              · refine kx_iconst 198 F dX12_ahead_197 rfl ?_
                                refine kx_goto 202 F dX12_ahead_198 (by decide) ?_
                                refine kx_puti 205 F fw_X12_168 rfl hk_c0 rfl rfl (j := 12) rfl dX12_ahead_202 rfl ?_
                                intro N_2291 hM_N_2291
                                have hI_N_2291 : Inv true N_2291 := Inv.u hI_N_2222 hM_N_2291 hk_c0 (a := 0) (b := 4) rfl rfl rfl (by omega)
                                have hF_N_2291 : Fr f_c_X12_ahead M N_2291 := Fr.u hF_N_2222 hM_N_2291 hk_c0 rfl
                                refine kx_goto 233 F dX12_ahead_205 (by decide) ?_
                                have e_2292 : (N_2291 c0 12) = 1 := by rw [hM_N_2291, mu_s]
                                have e_2293 : (N_2291 c0 14) = (N_2222 c0 14) := by rw [hM_N_2291, mu_i (by omega)]
                                have e_2294 : (N_2291 c0 12) = 1 := by rw [hM_N_2291, mu_s]
                                have e_2295 : (N_2291 c0 12) = 1 := by rw [hM_N_2291, mu_s]
                                have e_2296 : (N_2291 c0 14) = (N_2222 c0 14) := by rw [hM_N_2291, mu_i (by omega)]
                                exact kx_vret F hQ ⟨hI_N_2291, hF_N_2291, (by omega)⟩ dX12_ahead_233
                            · refine kx_if_eq 142 F 183 dX12_ahead_139 (by decide) rfl (by omega) (fun h_2297 => ?_) (fun h_2297 => (by exfalso; omega))
                              refine kx_aload_n 184 F 0 dX12_ahead_183 rfl rfl rfl ?_
                              refine kx_aload_n 185 F 0 dX12_ahead_184 rfl rfl rfl ?_
                              refine kx_geti 188 F fl_X12_156 hk_c0 rfl rfl (j := 14) rfl dX12_ahead_185 (v := (N_2222 c0 14)) rfl rfl ?_
                              refine kx_aload_n 189 F 0 dX12_ahead_188 rfl rfl rfl ?_
                              refine kx_geti 192 F fl_X12_162 hk_c0 rfl rfl (j := 13) rfl dX12_ahead_189 (v := (N_2222 c0 13)) rfl rfl ?_
                              have h_2298 := Inv.g hI_N_2222 hk_c0 rfl 13 (a := 0) (b := 900) rfl rfl
                              refine kx_isub 193 F (v := (N_2222 c0 14) - (N_2222 c0 13)) dX12_ahead_192 rfl rfl ?_
                              refine kx_iconst 194 F dX12_ahead_193 rfl ?_
                              refine kx_icmp_le 197 F 201 dX12_ahead_194 (by decide) rfl (by omega) (by decide) (fun h_2299 => ?_) (fun h_2299 => ?_)
                              · refine kx_iconst 202 F dX12_ahead_201 rfl ?_
                                refine kx_puti 205 F fw_X12_168 rfl hk_c0 rfl rfl (j := 12) rfl dX12_ahead_202 rfl ?_
                                intro N_2300 hM_N_2300
                                have hI_N_2300 : Inv true N_2300 := Inv.u hI_N_2222 hM_N_2300 hk_c0 (a := 0) (b := 4) rfl rfl rfl (by omega)
                                have hF_N_2300 : Fr f_c_X12_ahead M N_2300 := Fr.u hF_N_2222 hM_N_2300 hk_c0 rfl
                                refine kx_goto 233 F dX12_ahead_205 (by decide) ?_
                                have e_2301 : (N_2300 c0 12) = 3 := by rw [hM_N_2300, mu_s]
                                have e_2302 : (N_2300 c0 14) = (N_2222 c0 14) := by rw [hM_N_2300, mu_i (by omega)]
                                have e_2303 : (N_2300 c0 12) = 3 := by rw [hM_N_2300, mu_s]
                                have e_2304 : (N_2300 c0 12) = 3 := by rw [hM_N_2300, mu_s]
                                have e_2305 : (N_2300 c0 14) = (N_2222 c0 14) := by rw [hM_N_2300, mu_i (by omega)]
                                exact kx_vret F hQ ⟨hI_N_2300, hF_N_2300, (by omega)⟩ dX12_ahead_233
                              · refine kx_iconst 198 F dX12_ahead_197 rfl ?_
                                refine kx_goto 202 F dX12_ahead_198 (by decide) ?_
                                refine kx_puti 205 F fw_X12_168 rfl hk_c0 rfl rfl (j := 12) rfl dX12_ahead_202 rfl ?_
                                intro N_2306 hM_N_2306
                                have hI_N_2306 : Inv true N_2306 := Inv.u hI_N_2222 hM_N_2306 hk_c0 (a := 0) (b := 4) rfl rfl rfl (by omega)
                                have hF_N_2306 : Fr f_c_X12_ahead M N_2306 := Fr.u hF_N_2222 hM_N_2306 hk_c0 rfl
                                refine kx_goto 233 F dX12_ahead_205 (by decide) ?_
                                have e_2307 : (N_2306 c0 12) = 1 := by rw [hM_N_2306, mu_s]
                                have e_2308 : (N_2306 c0 14) = (N_2222 c0 14) := by rw [hM_N_2306, mu_i (by omega)]
                                have e_2309 : (N_2306 c0 12) = 1 := by rw [hM_N_2306, mu_s]
                                have e_2310 : (N_2306 c0 12) = 1 := by rw [hM_N_2306, mu_s]
                                have e_2311 : (N_2306 c0 14) = (N_2222 c0 14) := by rw [hM_N_2306, mu_i (by omega)]
                                exact kx_vret F hQ ⟨hI_N_2306, hF_N_2306, (by omega)⟩ dX12_ahead_233
                        refine kx_drop 1 (lo' := [some (vR G c0), none]) rfl ?_
                        have e_2312 : (N_2141 c0 14) = (N_775 c0 14) + 1 := by rw [hM_N_2141, mu_s]
                        have e_2313 : (N_2141 c0 14) = (N_775 c0 14) + 1 := by rw [hM_N_2141, mu_s]
                        have e_2314 : (N_2141 c0 13) = (N_775 c0 14) := by rw [hM_N_2141, mu_i (by omega), hM_N_2140, mu_i (by omega), hM_N_2107, mu_i (by omega), hM_N_1981, mu_i (by omega), hM_N_1964, mu_s]
                        have e_2315 : (N_2141 c0 13) = (N_775 c0 14) := by rw [hM_N_2141, mu_i (by omega), hM_N_2140, mu_i (by omega), hM_N_2107, mu_i (by omega), hM_N_1981, mu_i (by omega), hM_N_1964, mu_s]
                        exact L_2223 _ N_2141 hI_N_2141 hF_N_2141 (by omega) rfl
                    · exfalso; omega
                    · exfalso; omega
                · refine kx_if_eq 123 F 208 dX12_ahead_120 (by decide) rfl (by omega) (fun h_2316 => ?_) (fun h_2316 => (by exfalso; omega))
                  refine kx_aload_n 209 F 0 dX12_ahead_208 rfl rfl rfl ?_
                  refine kx_dup 210 F dX12_ahead_209 rfl rfl ?_
                  refine kx_geti 213 F fl_X12_156 hk_c0 rfl rfl (j := 14) rfl dX12_ahead_210 (v := (N_775 c0 14)) (by rw [hM_N_1981, mu_i (by omega), hM_N_1964, mu_i (by omega)]) rfl ?_
                  refine kx_iconst 214 F dX12_ahead_213 rfl ?_
                  refine kx_iadd 215 F (v := (N_775 c0 14) + 1) dX12_ahead_214 rfl rfl ?_
                  refine kx_puti 218 F fw_X12_156 rfl hk_c0 rfl rfl (j := 14) rfl dX12_ahead_215 rfl ?_
                  intro N_2317 hM_N_2317
                  have hI_N_2317 : Inv true N_2317 := Inv.u hI_N_1981 hM_N_2317 hk_c0 (a := 0) (b := 900) rfl rfl rfl (by omega)
                  have hF_N_2317 : Fr f_c_X12_ahead M N_2317 := Fr.u hF_N_1981 hM_N_2317 hk_c0 rfl
                  refine kx_aload_n 219 F 0 dX12_ahead_218 rfl rfl rfl ?_
                  refine kx_iload_n 220 F 1 dX12_ahead_219 rfl rfl rfl ?_
                  refine kx_bipush 222 F dX12_ahead_220 (by decide) rfl ?_
                  refine kx_icmp_ne 225 F 229 dX12_ahead_222 (by decide) rfl (by omega) (by decide) (fun h_2318 => ?_) (fun h_2318 => (by exfalso; omega))
                  refine kx_iconst 230 F dX12_ahead_229 rfl ?_
                  refine kx_puti 233 F fw_X12_168 rfl hk_c0 rfl rfl (j := 12) rfl dX12_ahead_230 rfl ?_
                  intro N_2319 hM_N_2319
                  have hI_N_2319 : Inv true N_2319 := Inv.u hI_N_2317 hM_N_2319 hk_c0 (a := 0) (b := 4) rfl rfl rfl (by omega)
                  have hF_N_2319 : Fr f_c_X12_ahead M N_2319 := Fr.u hF_N_2317 hM_N_2319 hk_c0 rfl
                  have e_2320 : (N_2319 c0 12) = 1 := by rw [hM_N_2319, mu_s]
                  have e_2321 : (N_2319 c0 14) = (N_775 c0 14) + 1 := by rw [hM_N_2319, mu_i (by omega), hM_N_2317, mu_s]
                  have e_2322 : (N_2319 c0 12) = 1 := by rw [hM_N_2319, mu_s]
                  have e_2323 : (N_2319 c0 12) = 1 := by rw [hM_N_2319, mu_s]
                  have e_2324 : (N_2319 c0 14) = (N_775 c0 14) + 1 := by rw [hM_N_2319, mu_i (by omega), hM_N_2317, mu_s]
                  exact kx_vret F hQ ⟨hI_N_2319, hF_N_2319, (by omega)⟩ dX12_ahead_233
                · refine kx_if_eq 123 F 208 dX12_ahead_120 (by decide) rfl (by omega) (fun h_2325 => ?_) (fun h_2325 => (by exfalso; omega))
                  refine kx_aload_n 209 F 0 dX12_ahead_208 rfl rfl rfl ?_
                  refine kx_dup 210 F dX12_ahead_209 rfl rfl ?_
                  refine kx_geti 213 F fl_X12_156 hk_c0 rfl rfl (j := 14) rfl dX12_ahead_210 (v := (N_775 c0 14)) (by rw [hM_N_1981, mu_i (by omega), hM_N_1964, mu_i (by omega)]) rfl ?_
                  refine kx_iconst 214 F dX12_ahead_213 rfl ?_
                  refine kx_iadd 215 F (v := (N_775 c0 14) + 1) dX12_ahead_214 rfl rfl ?_
                  refine kx_puti 218 F fw_X12_156 rfl hk_c0 rfl rfl (j := 14) rfl dX12_ahead_215 rfl ?_
                  intro N_2326 hM_N_2326
                  have hI_N_2326 : Inv true N_2326 := Inv.u hI_N_1981 hM_N_2326 hk_c0 (a := 0) (b := 900) rfl rfl rfl (by omega)
                  have hF_N_2326 : Fr f_c_X12_ahead M N_2326 := Fr.u hF_N_1981 hM_N_2326 hk_c0 rfl
                  refine kx_aload_n 219 F 0 dX12_ahead_218 rfl rfl rfl ?_
                  refine kx_iload_n 220 F 1 dX12_ahead_219 rfl rfl rfl ?_
                  refine kx_bipush 222 F dX12_ahead_220 (by decide) rfl ?_
                  refine kx_icmp_ne 225 F 229 dX12_ahead_222 (by decide) rfl (by omega) (by decide) (fun h_2327 => ?_) (fun h_2327 => ?_)
                  · refine kx_iconst 230 F dX12_ahead_229 rfl ?_
                    refine kx_puti 233 F fw_X12_168 rfl hk_c0 rfl rfl (j := 12) rfl dX12_ahead_230 rfl ?_
                    intro N_2328 hM_N_2328
                    have hI_N_2328 : Inv true N_2328 := Inv.u hI_N_2326 hM_N_2328 hk_c0 (a := 0) (b := 4) rfl rfl rfl (by omega)
                    have hF_N_2328 : Fr f_c_X12_ahead M N_2328 := Fr.u hF_N_2326 hM_N_2328 hk_c0 rfl
                    have e_2329 : (N_2328 c0 12) = 1 := by rw [hM_N_2328, mu_s]
                    have e_2330 : (N_2328 c0 14) = (N_775 c0 14) + 1 := by rw [hM_N_2328, mu_i (by omega), hM_N_2326, mu_s]
                    have e_2331 : (N_2328 c0 12) = 1 := by rw [hM_N_2328, mu_s]
                    have e_2332 : (N_2328 c0 12) = 1 := by rw [hM_N_2328, mu_s]
                    have e_2333 : (N_2328 c0 14) = (N_775 c0 14) + 1 := by rw [hM_N_2328, mu_i (by omega), hM_N_2326, mu_s]
                    exact kx_vret F hQ ⟨hI_N_2328, hF_N_2328, (by omega)⟩ dX12_ahead_233
                  · refine kx_iconst 226 F dX12_ahead_225 rfl ?_
                    refine kx_goto 230 F dX12_ahead_226 (by decide) ?_
                    refine kx_puti 233 F fw_X12_168 rfl hk_c0 rfl rfl (j := 12) rfl dX12_ahead_230 rfl ?_
                    intro N_2334 hM_N_2334
                    have hI_N_2334 : Inv true N_2334 := Inv.u hI_N_2326 hM_N_2334 hk_c0 (a := 0) (b := 4) rfl rfl rfl (by omega)
                    have hF_N_2334 : Fr f_c_X12_ahead M N_2334 := Fr.u hF_N_2326 hM_N_2334 hk_c0 rfl
                    have e_2335 : (N_2334 c0 12) = 4 := by rw [hM_N_2334, mu_s]
                    have e_2336 : (N_2334 c0 14) = (N_775 c0 14) + 1 := by rw [hM_N_2334, mu_i (by omega), hM_N_2326, mu_s]
                    have e_2337 : (N_2334 c0 12) = 4 := by rw [hM_N_2334, mu_s]
                    have e_2338 : (N_2334 c0 12) = 4 := by rw [hM_N_2334, mu_s]
                    have e_2339 : (N_2334 c0 14) = (N_775 c0 14) + 1 := by rw [hM_N_2334, mu_i (by omega), hM_N_2326, mu_s]
                    exact kx_vret F hQ ⟨hI_N_2334, hF_N_2334, (by omega)⟩ dX12_ahead_233
              · refine kx_if_eq 81 F 116 dX12_ahead_78 (by decide) rfl (by omega) (fun h_2340 => ?_) (fun h_2340 => (by exfalso; omega))
                refine kx_iload_n 117 F 1 dX12_ahead_116 rfl rfl rfl ?_
                refine kx_Si 120 F (As := [vI r_1965]) (st := []) sd_X12_174 (c_X12_isDigit G l N_1981 r_1965 hI_N_1981 (by omega)) ⟨by decide, by decide⟩ rfl rfl (Nat.le_of_ble_eq_true rfl) dX12_ahead_117 rfl ?_
                intro r_2341 N_2342 q_2343
                obtain ⟨rfl, q_2343c⟩ := q_2343
                rcases q_2343c with q_2343c | q_2343c | q_2343c
                · exfalso; omega
                · exfalso; omega
                · refine kx_if_eq 123 F 208 dX12_ahead_120 (by decide) rfl (by omega) (fun h_2344 => ?_) (fun h_2344 => (by exfalso; omega))
                  refine kx_aload_n 209 F 0 dX12_ahead_208 rfl rfl rfl ?_
                  refine kx_dup 210 F dX12_ahead_209 rfl rfl ?_
                  refine kx_geti 213 F fl_X12_156 hk_c0 rfl rfl (j := 14) rfl dX12_ahead_210 (v := (N_775 c0 14)) (by rw [hM_N_1981, mu_i (by omega), hM_N_1964, mu_i (by omega)]) rfl ?_
                  refine kx_iconst 214 F dX12_ahead_213 rfl ?_
                  refine kx_iadd 215 F (v := (N_775 c0 14) + 1) dX12_ahead_214 rfl rfl ?_
                  refine kx_puti 218 F fw_X12_156 rfl hk_c0 rfl rfl (j := 14) rfl dX12_ahead_215 rfl ?_
                  intro N_2345 hM_N_2345
                  have hI_N_2345 : Inv true N_2345 := Inv.u hI_N_1981 hM_N_2345 hk_c0 (a := 0) (b := 900) rfl rfl rfl (by omega)
                  have hF_N_2345 : Fr f_c_X12_ahead M N_2345 := Fr.u hF_N_1981 hM_N_2345 hk_c0 rfl
                  refine kx_aload_n 219 F 0 dX12_ahead_218 rfl rfl rfl ?_
                  refine kx_iload_n 220 F 1 dX12_ahead_219 rfl rfl rfl ?_
                  refine kx_bipush 222 F dX12_ahead_220 (by decide) rfl ?_
                  refine kx_icmp_ne 225 F 229 dX12_ahead_222 (by decide) rfl (by omega) (by decide) (fun h_2346 => ?_) (fun h_2346 => (by exfalso; omega))
                  refine kx_iconst 230 F dX12_ahead_229 rfl ?_
                  refine kx_puti 233 F fw_X12_168 rfl hk_c0 rfl rfl (j := 12) rfl dX12_ahead_230 rfl ?_
                  intro N_2347 hM_N_2347
                  have hI_N_2347 : Inv true N_2347 := Inv.u hI_N_2345 hM_N_2347 hk_c0 (a := 0) (b := 4) rfl rfl rfl (by omega)
                  have hF_N_2347 : Fr f_c_X12_ahead M N_2347 := Fr.u hF_N_2345 hM_N_2347 hk_c0 rfl
                  have e_2348 : (N_2347 c0 12) = 1 := by rw [hM_N_2347, mu_s]
                  have e_2349 : (N_2347 c0 14) = (N_775 c0 14) + 1 := by rw [hM_N_2347, mu_i (by omega), hM_N_2345, mu_s]
                  have e_2350 : (N_2347 c0 12) = 1 := by rw [hM_N_2347, mu_s]
                  have e_2351 : (N_2347 c0 12) = 1 := by rw [hM_N_2347, mu_s]
                  have e_2352 : (N_2347 c0 14) = (N_775 c0 14) + 1 := by rw [hM_N_2347, mu_i (by omega), hM_N_2345, mu_s]
                  exact kx_vret F hQ ⟨hI_N_2347, hF_N_2347, (by omega)⟩ dX12_ahead_233
          · exact J_1950 (by omega)
  have h_2353 := Inv.g hI_M hk_c0 rfl 14 (a := 0) (b := 900) rfl rfl
  exact L_776 _ M hI_M hF_M (by omega) rfl
