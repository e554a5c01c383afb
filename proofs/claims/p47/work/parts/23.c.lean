set_option maxRecDepth 100000 in
theorem dGR_23_c_660 : (decode cX12_status 0 = .ok (.aload_n 0, 1)) ∧ (decode cX12_status 1 = .ok (.getfield 117, 3)) ∧ (decode cX12_status 4 = .ok (.ireturn, 1)) := by decide +kernel
theorem dX12_status_0 : decode cX12_status 0 = .ok (.aload_n 0, 1) := dGR_23_c_660.1
theorem dX12_status_1 : decode cX12_status 1 = .ok (.getfield 117, 3) := dGR_23_c_660.2.1
theorem dX12_status_4 : decode cX12_status 4 = .ok (.ireturn, 1) := dGR_23_c_660.2.2
set_option maxHeartbeats 4000000 in
set_option maxRecDepth 100000 in
theorem c_X12_status (G : KG) (l : Launch) (M : Mem) (hI_M : Inv true M) : KC true G l yX12_status cX12_status 1 (some .int) (0, 0) [vR G 163] M (fun A => kQi true G A (fun (r : Int) (N : Mem) => M = N ∧ (r ≥ -2147483648 ∧ r ≤ 2147483647))) := by
  refine kx_met (lo := [some (vR G 163)]) (by decide) (Nat.le_of_ble_eq_true rfl) rfl ?_
  intro X F hQ
  refine kx_aload_n 1 F 0 dX12_status_0 rfl rfl rfl ?_
  refine kx_geti 4 F fl_X12_117 kd_163 rfl rfl (j := 2) rfl dX12_status_1 (v := (M 163 2)) rfl rfl ?_
  have h_1 := Inv.g hI_M kd_163 rfl 2 (a := (-2147483648)) (b := 2147483647) rfl rfl
  exact kx_iret F hQ ⟨rfl, (by omega)⟩ dX12_status_4
set_option maxRecDepth 100000 in
theorem dGR_23_c_661 : (decode cX12_top 0 = .ok (.aload_n 0, 1)) ∧ (decode cX12_top 1 = .ok (.getfield 120, 3)) ∧ (decode cX12_top 4 = .ok (.lreturn, 1)) := by decide +kernel
theorem dX12_top_0 : decode cX12_top 0 = .ok (.aload_n 0, 1) := dGR_23_c_661.1
theorem dX12_top_1 : decode cX12_top 1 = .ok (.getfield 120, 3) := dGR_23_c_661.2.1
theorem dX12_top_4 : decode cX12_top 4 = .ok (.lreturn, 1) := dGR_23_c_661.2.2
set_option maxHeartbeats 4000000 in
set_option maxRecDepth 100000 in
theorem c_X12_top (G : KG) (l : Launch) (M : Mem) (hI_M : Inv true M) : KC true G l yX12_top cX12_top 1 (some .long) (0, 0) [vR G 163] M (fun A => kQl true G A (fun (r : Int) (N : Mem) => M = N ∧ (r ≥ -9223372036854775808 ∧ r ≤ 9223372036854775807))) := by
  refine kx_met (lo := [some (vR G 163)]) (by decide) (Nat.le_of_ble_eq_true rfl) rfl ?_
  intro X F hQ
  refine kx_aload_n 1 F 0 dX12_top_0 rfl rfl rfl ?_
  refine kx_getl 4 F fl_X12_120 kd_163 rfl rfl (j := 3) rfl dX12_top_1 (v := (M 163 3)) rfl rfl ?_
  have h_1 := Inv.g hI_M kd_163 rfl 3 (a := (-9223372036854775808)) (b := 9223372036854775807) rfl rfl
  exact kx_lret F hQ ⟨rfl, (by omega)⟩ dX12_top_4
set_option maxRecDepth 100000 in
theorem dGR_23_c_662 : (decode cX12_bottom 0 = .ok (.aload_n 0, 1)) ∧ (decode cX12_bottom 1 = .ok (.getfield 17, 3)) ∧ (decode cX12_bottom 4 = .ok (.lreturn, 1)) := by decide +kernel
theorem dX12_bottom_0 : decode cX12_bottom 0 = .ok (.aload_n 0, 1) := dGR_23_c_662.1
theorem dX12_bottom_1 : decode cX12_bottom 1 = .ok (.getfield 17, 3) := dGR_23_c_662.2.1
theorem dX12_bottom_4 : decode cX12_bottom 4 = .ok (.lreturn, 1) := dGR_23_c_662.2.2
set_option maxHeartbeats 4000000 in
set_option maxRecDepth 100000 in
theorem c_X12_bottom (G : KG) (l : Launch) (M : Mem) (hI_M : Inv true M) : KC true G l yX12_bottom cX12_bottom 1 (some .long) (0, 0) [vR G 163] M (fun A => kQl true G A (fun (r : Int) (N : Mem) => M = N ∧ (r ≥ -9223372036854775808 ∧ r ≤ 9223372036854775807))) := by
  refine kx_met (lo := [some (vR G 163)]) (by decide) (Nat.le_of_ble_eq_true rfl) rfl ?_
  intro X F hQ
  refine kx_aload_n 1 F 0 dX12_bottom_0 rfl rfl rfl ?_
  refine kx_getl 4 F fl_X12_17 kd_163 rfl rfl (j := 4) rfl dX12_bottom_1 (v := (M 163 4)) rfl rfl ?_
  have h_1 := Inv.g hI_M kd_163 rfl 4 (a := (-9223372036854775808)) (b := 9223372036854775807) rfl rfl
  exact kx_lret F hQ ⟨rfl, (by omega)⟩ dX12_bottom_4
set_option maxRecDepth 100000 in
theorem dGR_23_c_663 : (decode cX12_is 0 = .ok (.aload_n 0, 1)) ∧ (decode cX12_is 1 = .ok (.iload_n 1, 1)) ∧ (decode cX12_is 2 = .ok (.putfield 117, 3)) ∧ (decode cX12_is 5 = .ok (.iload_n 1, 1)) ∧ (decode cX12_is 6 = .ok (.ifCond .ne 7, 3)) ∧ (decode cX12_is 9 = .ok (.iconst 1, 1)) ∧ (decode cX12_is 10 = .ok (.goto 4, 3)) ∧ (decode cX12_is 13 = .ok (.iconst 0, 1)) ∧ (decode cX12_is 14 = .ok (.ireturn, 1)) := by decide +kernel
theorem dX12_is_0 : decode cX12_is 0 = .ok (.aload_n 0, 1) := dGR_23_c_663.1
theorem dX12_is_1 : decode cX12_is 1 = .ok (.iload_n 1, 1) := dGR_23_c_663.2.1
theorem dX12_is_2 : decode cX12_is 2 = .ok (.putfield 117, 3) := dGR_23_c_663.2.2.1
theorem dX12_is_5 : decode cX12_is 5 = .ok (.iload_n 1, 1) := dGR_23_c_663.2.2.2.1
theorem dX12_is_6 : decode cX12_is 6 = .ok (.ifCond .ne 7, 3) := dGR_23_c_663.2.2.2.2.1
theorem dX12_is_9 : decode cX12_is 9 = .ok (.iconst 1, 1) := dGR_23_c_663.2.2.2.2.2.1
theorem dX12_is_10 : decode cX12_is 10 = .ok (.goto 4, 3) := dGR_23_c_663.2.2.2.2.2.2.1
theorem dX12_is_13 : decode cX12_is 13 = .ok (.iconst 0, 1) := dGR_23_c_663.2.2.2.2.2.2.2.1
theorem dX12_is_14 : decode cX12_is 14 = .ok (.ireturn, 1) := dGR_23_c_663.2.2.2.2.2.2.2.2
abbrev f_c_X12_is : List (Nat × Int) := [(64, 2)]
set_option maxHeartbeats 4000000 in
set_option maxRecDepth 100000 in
theorem c_X12_is (G : KG) (l : Launch) (M : Mem) (a1 : Int) (hI_M : Inv true M) (hpre : -2147483648 ≤ a1 ∧ a1 ≤ 2147483647) : KC true G l yX12_is cX12_is 2 (some .boolean) (0, 0) [vR G 163, vI a1] M (fun A => kQi true G A (fun (r : Int) (N : Mem) => Inv true N ∧ Fr f_c_X12_is M N ∧ ((a1 = 0 ∧ r = 1) ∨ (a1 ≠ 0 ∧ r = 0)))) := by
  refine kx_met (lo := [some (vR G 163), some (vI a1)]) (by decide) (Nat.le_of_ble_eq_true rfl) rfl ?_
  intro X F hQ
  have hF_M : Fr f_c_X12_is M M := Fr.rf _ _
  refine kx_aload_n 1 F 0 dX12_is_0 rfl rfl rfl ?_
  refine kx_iload_n 2 F 1 dX12_is_1 rfl rfl rfl ?_
  refine kx_puti 5 F fw_X12_117 rfl kd_163 rfl rfl (j := 2) rfl dX12_is_2 rfl ?_
  intro N_1 hM_N_1
  have hI_N_1 : Inv true N_1 := Inv.u hI_M hM_N_1 kd_163 (a := (-2147483648)) (b := 2147483647) rfl rfl rfl (by omega)
  have hF_N_1 : Fr f_c_X12_is M N_1 := Fr.u hF_M hM_N_1 kd_163 rfl
  refine kx_iload_n 6 F 1 dX12_is_5 rfl rfl rfl ?_
  refine kx_if_ne 9 F 13 dX12_is_6 (by decide) rfl (by omega) (fun h_2 => ?_) (fun h_2 => ?_)
  · refine kx_iconst 14 F dX12_is_13 rfl ?_
    exact kx_zret F hQ (by omega) ⟨hI_N_1, hF_N_1, (by omega)⟩ dX12_is_14
  · refine kx_iconst 10 F dX12_is_9 rfl ?_
    refine kx_goto 14 F dX12_is_10 (by decide) ?_
    exact kx_zret F hQ (by omega) ⟨hI_N_1, hF_N_1, (by omega)⟩ dX12_is_14
set_option maxRecDepth 100000 in
theorem dGR_23_c_664 : (decode cX12_refuse 0 = .ok (.aload_n 0, 1)) ∧ (decode cX12_refuse 1 = .ok (.iload_n 1, 1)) ∧ (decode cX12_refuse 2 = .ok (.putfield 117, 3)) ∧ (decode cX12_refuse 5 = .ok (.iconst (-1), 1)) ∧ (decode cX12_refuse 6 = .ok (.ireturn, 1)) := by decide +kernel
theorem dX12_refuse_0 : decode cX12_refuse 0 = .ok (.aload_n 0, 1) := dGR_23_c_664.1
theorem dX12_refuse_1 : decode cX12_refuse 1 = .ok (.iload_n 1, 1) := dGR_23_c_664.2.1
theorem dX12_refuse_2 : decode cX12_refuse 2 = .ok (.putfield 117, 3) := dGR_23_c_664.2.2.1
theorem dX12_refuse_5 : decode cX12_refuse 5 = .ok (.iconst (-1), 1) := dGR_23_c_664.2.2.2.1
theorem dX12_refuse_6 : decode cX12_refuse 6 = .ok (.ireturn, 1) := dGR_23_c_664.2.2.2.2
abbrev f_c_X12_refuse : List (Nat × Int) := [(64, 2)]
set_option maxHeartbeats 4000000 in
set_option maxRecDepth 100000 in
theorem c_X12_refuse (G : KG) (l : Launch) (M : Mem) (a1 : Int) (hI_M : Inv true M) (hpre : -2147483648 ≤ a1 ∧ a1 ≤ 2147483647) : KC true G l yX12_refuse cX12_refuse 2 (some .int) (0, 0) [vR G 163, vI a1] M (fun A => kQi true G A (fun (r : Int) (N : Mem) => Inv true N ∧ Fr f_c_X12_refuse M N ∧ (r = -1))) := by
  refine kx_met (lo := [some (vR G 163), some (vI a1)]) (by decide) (Nat.le_of_ble_eq_true rfl) rfl ?_
  intro X F hQ
  have hF_M : Fr f_c_X12_refuse M M := Fr.rf _ _
  refine kx_aload_n 1 F 0 dX12_refuse_0 rfl rfl rfl ?_
  refine kx_iload_n 2 F 1 dX12_refuse_1 rfl rfl rfl ?_
  refine kx_puti 5 F fw_X12_117 rfl kd_163 rfl rfl (j := 2) rfl dX12_refuse_2 rfl ?_
  intro N_1 hM_N_1
  have hI_N_1 : Inv true N_1 := Inv.u hI_M hM_N_1 kd_163 (a := (-2147483648)) (b := 2147483647) rfl rfl rfl (by omega)
  have hF_N_1 : Fr f_c_X12_refuse M N_1 := Fr.u hF_M hM_N_1 kd_163 rfl
  refine kx_iconst 6 F dX12_refuse_5 rfl ?_
  exact kx_iret F hQ ⟨hI_N_1, hF_N_1, (by omega)⟩ dX12_refuse_6
set_option maxRecDepth 100000 in
theorem dGR_23_c_665 : (decode cX12_gives 0 = .ok (.aload_n 0, 1)) ∧ (decode cX12_gives 1 = .ok (.iconst 0, 1)) ∧ (decode cX12_gives 2 = .ok (.putfield 117, 3)) ∧ (decode cX12_gives 5 = .ok (.iload_n 1, 1)) ∧ (decode cX12_gives 6 = .ok (.ireturn, 1)) := by decide +kernel
theorem dX12_gives_0 : decode cX12_gives 0 = .ok (.aload_n 0, 1) := dGR_23_c_665.1
theorem dX12_gives_1 : decode cX12_gives 1 = .ok (.iconst 0, 1) := dGR_23_c_665.2.1
theorem dX12_gives_2 : decode cX12_gives 2 = .ok (.putfield 117, 3) := dGR_23_c_665.2.2.1
theorem dX12_gives_5 : decode cX12_gives 5 = .ok (.iload_n 1, 1) := dGR_23_c_665.2.2.2.1
theorem dX12_gives_6 : decode cX12_gives 6 = .ok (.ireturn, 1) := dGR_23_c_665.2.2.2.2
abbrev f_c_X12_gives : List (Nat × Int) := [(64, 2)]
set_option maxHeartbeats 4000000 in
set_option maxRecDepth 100000 in
theorem c_X12_gives (G : KG) (l : Launch) (M : Mem) (a1 : Int) (hI_M : Inv true M) (hpre : -2147483648 ≤ a1 ∧ a1 ≤ 2147483647) : KC true G l yX12_gives cX12_gives 2 (some .int) (0, 0) [vR G 163, vI a1] M (fun A => kQi true G A (fun (r : Int) (N : Mem) => Inv true N ∧ Fr f_c_X12_gives M N ∧ (r = a1))) := by
  refine kx_met (lo := [some (vR G 163), some (vI a1)]) (by decide) (Nat.le_of_ble_eq_true rfl) rfl ?_
  intro X F hQ
  have hF_M : Fr f_c_X12_gives M M := Fr.rf _ _
  refine kx_aload_n 1 F 0 dX12_gives_0 rfl rfl rfl ?_
  refine kx_iconst 2 F dX12_gives_1 rfl ?_
  refine kx_puti 5 F fw_X12_117 rfl kd_163 rfl rfl (j := 2) rfl dX12_gives_2 rfl ?_
  intro N_1 hM_N_1
  have hI_N_1 : Inv true N_1 := Inv.u hI_M hM_N_1 kd_163 (a := (-2147483648)) (b := 2147483647) rfl rfl rfl (by omega)
  have hF_N_1 : Fr f_c_X12_gives M N_1 := Fr.u hF_M hM_N_1 kd_163 rfl
  refine kx_iload_n 6 F 1 dX12_gives_5 rfl rfl rfl ?_
  exact kx_iret F hQ ⟨hI_N_1, hF_N_1, (by omega)⟩ dX12_gives_6
set_option maxRecDepth 100000 in
theorem dGR_23_c_666 : (decode cX12_orNone 0 = .ok (.iload_n 1, 1)) ∧ (decode cX12_orNone 1 = .ok (.iconst (-1), 1)) ∧ (decode cX12_orNone 2 = .ok (.if_icmp .ne 10, 3)) ∧ (decode cX12_orNone 5 = .ok (.aload_n 0, 1)) ∧ (decode cX12_orNone 6 = .ok (.bipush 6, 2)) ∧ (decode cX12_orNone 8 = .ok (.invokevirtual 123, 3)) ∧ (decode cX12_orNone 11 = .ok (.ireturn, 1)) ∧ (decode cX12_orNone 12 = .ok (.aload_n 0, 1)) ∧ (decode cX12_orNone 13 = .ok (.iload_n 1, 1)) ∧ (decode cX12_orNone 14 = .ok (.invokevirtual 127, 3)) ∧ (decode cX12_orNone 17 = .ok (.ireturn, 1)) := by decide +kernel
theorem dX12_orNone_0 : decode cX12_orNone 0 = .ok (.iload_n 1, 1) := dGR_23_c_666.1
theorem dX12_orNone_1 : decode cX12_orNone 1 = .ok (.iconst (-1), 1) := dGR_23_c_666.2.1
theorem dX12_orNone_2 : decode cX12_orNone 2 = .ok (.if_icmp .ne 10, 3) := dGR_23_c_666.2.2.1
theorem dX12_orNone_5 : decode cX12_orNone 5 = .ok (.aload_n 0, 1) := dGR_23_c_666.2.2.2.1
theorem dX12_orNone_6 : decode cX12_orNone 6 = .ok (.bipush 6, 2) := dGR_23_c_666.2.2.2.2.1
theorem dX12_orNone_8 : decode cX12_orNone 8 = .ok (.invokevirtual 123, 3) := dGR_23_c_666.2.2.2.2.2.1
theorem dX12_orNone_11 : decode cX12_orNone 11 = .ok (.ireturn, 1) := dGR_23_c_666.2.2.2.2.2.2.1
theorem dX12_orNone_12 : decode cX12_orNone 12 = .ok (.aload_n 0, 1) := dGR_23_c_666.2.2.2.2.2.2.2.1
theorem dX12_orNone_13 : decode cX12_orNone 13 = .ok (.iload_n 1, 1) := dGR_23_c_666.2.2.2.2.2.2.2.2.1
theorem dX12_orNone_14 : decode cX12_orNone 14 = .ok (.invokevirtual 127, 3) := dGR_23_c_666.2.2.2.2.2.2.2.2.2.1
theorem dX12_orNone_17 : decode cX12_orNone 17 = .ok (.ireturn, 1) := dGR_23_c_666.2.2.2.2.2.2.2.2.2.2
abbrev f_c_X12_orNone : List (Nat × Int) := [(64, 2)]
set_option maxHeartbeats 4000000 in
set_option maxRecDepth 100000 in
theorem c_X12_orNone (G : KG) (l : Launch) (M : Mem) (a1 : Int) (hI_M : Inv true M) (hpre : -2147483648 ≤ a1 ∧ a1 ≤ 2147483647) : KC true G l yX12_orNone cX12_orNone 2 (some .int) (1, 21) [vR G 163, vI a1] M (fun A => kQi true G A (fun (r : Int) (N : Mem) => Inv true N ∧ Fr f_c_X12_orNone M N ∧ (r ≥ -2147483648 ∧ r ≤ 2147483647))) := by
  refine kx_met (lo := [some (vR G 163), some (vI a1)]) (by decide) (Nat.le_of_ble_eq_true rfl) rfl ?_
  intro X F hQ
  have hF_M : Fr f_c_X12_orNone M M := Fr.rf _ _
  refine kx_iload_n 1 F 1 dX12_orNone_0 rfl rfl rfl ?_
  refine kx_iconst 2 F dX12_orNone_1 rfl ?_
  refine kx_icmp_ne 5 F 12 dX12_orNone_2 (by decide) rfl (by omega) (by decide) (fun h_1 => ?_) (fun h_1 => ?_)
  · refine kx_aload_n 13 F 0 dX12_orNone_12 rfl rfl rfl ?_
    refine kx_iload_n 14 F 1 dX12_orNone_13 rfl rfl rfl ?_
    refine kx_Vi 17 (ci := 0) F (As := [vI a1]) (st := []) vd_X12_127 (c_X12_gives G l M a1 hI_M (by omega)) kd_163 rfl rfl rfl ⟨by decide, by decide⟩ rfl rfl (Nat.le_of_ble_eq_true rfl) dX12_orNone_14 rfl ?_
    intro r_2 N_3 q_4
    obtain ⟨hI_N_3, hG_N_3, q_4c⟩ := q_4
    have hF_N_3 : Fr f_c_X12_orNone M N_3 := Fr.c hF_M hG_N_3 rfl
    refine kx_topi (e' := a1) (by omega) ?_
    exact kx_iret F hQ ⟨hI_N_3, hF_N_3, (by omega)⟩ dX12_orNone_17
  · refine kx_aload_n 6 F 0 dX12_orNone_5 rfl rfl rfl ?_
    refine kx_bipush 8 F dX12_orNone_6 (by decide) rfl ?_
    refine kx_Vi 11 (ci := 0) F (As := [vI 6]) (st := []) vd_X12_123 (c_X12_refuse G l M 6 hI_M (by omega)) kd_163 rfl rfl rfl ⟨by decide, by decide⟩ rfl rfl (Nat.le_of_ble_eq_true rfl) dX12_orNone_8 rfl ?_
    intro r_5 N_6 q_7
    obtain ⟨hI_N_6, hG_N_6, q_7c⟩ := q_7
    have hF_N_6 : Fr f_c_X12_orNone M N_6 := Fr.c hF_M hG_N_6 rfl
    subst q_7c
    exact kx_iret F hQ ⟨hI_N_6, hF_N_6, (by omega)⟩ dX12_orNone_11
set_option maxRecDepth 100000 in
theorem dGR_23_c_667 : (decode cX12_isTray 0 = .ok (.iload_n 0, 1)) ∧ (decode cX12_isTray 1 = .ok (.ifCond .lt 12, 3)) ∧ (decode cX12_isTray 4 = .ok (.iload_n 0, 1)) ∧ (decode cX12_isTray 5 = .ok (.iconst 4, 1)) ∧ (decode cX12_isTray 6 = .ok (.if_icmp .ge 7, 3)) ∧ (decode cX12_isTray 9 = .ok (.iconst 1, 1)) ∧ (decode cX12_isTray 10 = .ok (.goto 4, 3)) ∧ (decode cX12_isTray 13 = .ok (.iconst 0, 1)) ∧ (decode cX12_isTray 14 = .ok (.ireturn, 1)) := by decide +kernel
theorem dX12_isTray_0 : decode cX12_isTray 0 = .ok (.iload_n 0, 1) := dGR_23_c_667.1
theorem dX12_isTray_1 : decode cX12_isTray 1 = .ok (.ifCond .lt 12, 3) := dGR_23_c_667.2.1
theorem dX12_isTray_4 : decode cX12_isTray 4 = .ok (.iload_n 0, 1) := dGR_23_c_667.2.2.1
theorem dX12_isTray_5 : decode cX12_isTray 5 = .ok (.iconst 4, 1) := dGR_23_c_667.2.2.2.1
theorem dX12_isTray_6 : decode cX12_isTray 6 = .ok (.if_icmp .ge 7, 3) := dGR_23_c_667.2.2.2.2.1
theorem dX12_isTray_9 : decode cX12_isTray 9 = .ok (.iconst 1, 1) := dGR_23_c_667.2.2.2.2.2.1
theorem dX12_isTray_10 : decode cX12_isTray 10 = .ok (.goto 4, 3) := dGR_23_c_667.2.2.2.2.2.2.1
theorem dX12_isTray_13 : decode cX12_isTray 13 = .ok (.iconst 0, 1) := dGR_23_c_667.2.2.2.2.2.2.2.1
theorem dX12_isTray_14 : decode cX12_isTray 14 = .ok (.ireturn, 1) := dGR_23_c_667.2.2.2.2.2.2.2.2
set_option maxRecDepth 100000 in
theorem dGR_23_c_668 : (decode cX12_cut 0 = .ok (.iload_n 2, 1)) ∧ (decode cX12_cut 1 = .ok (.ifCond .ne 10, 3)) ∧ (decode cX12_cut 4 = .ok (.lload_n 0, 1)) ∧ (decode cX12_cut 5 = .ok (.l2i, 1)) ∧ (decode cX12_cut 6 = .ok (.i2b, 1)) ∧ (decode cX12_cut 7 = .ok (.i2l, 1)) ∧ (decode cX12_cut 8 = .ok (.goto 27, 3)) ∧ (decode cX12_cut 11 = .ok (.iload_n 2, 1)) ∧ (decode cX12_cut 12 = .ok (.iconst 1, 1)) ∧ (decode cX12_cut 13 = .ok (.if_icmp .ne 10, 3)) ∧ (decode cX12_cut 16 = .ok (.lload_n 0, 1)) ∧ (decode cX12_cut 17 = .ok (.l2i, 1)) := by decide +kernel
theorem dX12_cut_0 : decode cX12_cut 0 = .ok (.iload_n 2, 1) := dGR_23_c_668.1
theorem dX12_cut_1 : decode cX12_cut 1 = .ok (.ifCond .ne 10, 3) := dGR_23_c_668.2.1
theorem dX12_cut_4 : decode cX12_cut 4 = .ok (.lload_n 0, 1) := dGR_23_c_668.2.2.1
theorem dX12_cut_5 : decode cX12_cut 5 = .ok (.l2i, 1) := dGR_23_c_668.2.2.2.1
theorem dX12_cut_6 : decode cX12_cut 6 = .ok (.i2b, 1) := dGR_23_c_668.2.2.2.2.1
theorem dX12_cut_7 : decode cX12_cut 7 = .ok (.i2l, 1) := dGR_23_c_668.2.2.2.2.2.1
theorem dX12_cut_8 : decode cX12_cut 8 = .ok (.goto 27, 3) := dGR_23_c_668.2.2.2.2.2.2.1
theorem dX12_cut_11 : decode cX12_cut 11 = .ok (.iload_n 2, 1) := dGR_23_c_668.2.2.2.2.2.2.2.1
theorem dX12_cut_12 : decode cX12_cut 12 = .ok (.iconst 1, 1) := dGR_23_c_668.2.2.2.2.2.2.2.2.1
theorem dX12_cut_13 : decode cX12_cut 13 = .ok (.if_icmp .ne 10, 3) := dGR_23_c_668.2.2.2.2.2.2.2.2.2.1
theorem dX12_cut_16 : decode cX12_cut 16 = .ok (.lload_n 0, 1) := dGR_23_c_668.2.2.2.2.2.2.2.2.2.2.1
theorem dX12_cut_17 : decode cX12_cut 17 = .ok (.l2i, 1) := dGR_23_c_668.2.2.2.2.2.2.2.2.2.2.2
set_option maxRecDepth 100000 in
theorem dGR_23_c_669 : (decode cX12_cut 18 = .ok (.i2s, 1)) ∧ (decode cX12_cut 19 = .ok (.i2l, 1)) ∧ (decode cX12_cut 20 = .ok (.goto 15, 3)) ∧ (decode cX12_cut 23 = .ok (.iload_n 2, 1)) ∧ (decode cX12_cut 24 = .ok (.iconst 2, 1)) ∧ (decode cX12_cut 25 = .ok (.if_icmp .ne 9, 3)) ∧ (decode cX12_cut 28 = .ok (.lload_n 0, 1)) ∧ (decode cX12_cut 29 = .ok (.l2i, 1)) ∧ (decode cX12_cut 30 = .ok (.i2l, 1)) ∧ (decode cX12_cut 31 = .ok (.goto 4, 3)) ∧ (decode cX12_cut 34 = .ok (.lload_n 0, 1)) ∧ (decode cX12_cut 35 = .ok (.lreturn, 1)) := by decide +kernel
theorem dX12_cut_18 : decode cX12_cut 18 = .ok (.i2s, 1) := dGR_23_c_669.1
theorem dX12_cut_19 : decode cX12_cut 19 = .ok (.i2l, 1) := dGR_23_c_669.2.1
theorem dX12_cut_20 : decode cX12_cut 20 = .ok (.goto 15, 3) := dGR_23_c_669.2.2.1
theorem dX12_cut_23 : decode cX12_cut 23 = .ok (.iload_n 2, 1) := dGR_23_c_669.2.2.2.1
theorem dX12_cut_24 : decode cX12_cut 24 = .ok (.iconst 2, 1) := dGR_23_c_669.2.2.2.2.1
theorem dX12_cut_25 : decode cX12_cut 25 = .ok (.if_icmp .ne 9, 3) := dGR_23_c_669.2.2.2.2.2.1
theorem dX12_cut_28 : decode cX12_cut 28 = .ok (.lload_n 0, 1) := dGR_23_c_669.2.2.2.2.2.2.1
theorem dX12_cut_29 : decode cX12_cut 29 = .ok (.l2i, 1) := dGR_23_c_669.2.2.2.2.2.2.2.1
theorem dX12_cut_30 : decode cX12_cut 30 = .ok (.i2l, 1) := dGR_23_c_669.2.2.2.2.2.2.2.2.1
theorem dX12_cut_31 : decode cX12_cut 31 = .ok (.goto 4, 3) := dGR_23_c_669.2.2.2.2.2.2.2.2.2.1
theorem dX12_cut_34 : decode cX12_cut 34 = .ok (.lload_n 0, 1) := dGR_23_c_669.2.2.2.2.2.2.2.2.2.2.1
theorem dX12_cut_35 : decode cX12_cut 35 = .ok (.lreturn, 1) := dGR_23_c_669.2.2.2.2.2.2.2.2.2.2.2
set_option maxRecDepth 100000 in
theorem dGR_23_c_670 : (decode cX12_plain 0 = .ok (.iconst 0, 1)) ∧ (decode cX12_plain 1 = .ok (.istore_n 2, 1)) ∧ (decode cX12_plain 2 = .ok (.iload_n 2, 1)) ∧ (decode cX12_plain 3 = .ok (.sipush 272, 3)) ∧ (decode cX12_plain 6 = .ok (.if_icmp .ge 18, 3)) ∧ (decode cX12_plain 9 = .ok (.aload_n 0, 1)) ∧ (decode cX12_plain 10 = .ok (.getfield 7, 3)) ∧ (decode cX12_plain 13 = .ok (.iload_n 1, 1)) ∧ (decode cX12_plain 14 = .ok (.iload_n 2, 1)) ∧ (decode cX12_plain 15 = .ok (.iadd, 1)) ∧ (decode cX12_plain 16 = .ok (.iconst 0, 1)) ∧ (decode cX12_plain 17 = .ok (.iastore, 1)) := by decide +kernel
theorem dX12_plain_0 : decode cX12_plain 0 = .ok (.iconst 0, 1) := dGR_23_c_670.1
theorem dX12_plain_1 : decode cX12_plain 1 = .ok (.istore_n 2, 1) := dGR_23_c_670.2.1
theorem dX12_plain_2 : decode cX12_plain 2 = .ok (.iload_n 2, 1) := dGR_23_c_670.2.2.1
theorem dX12_plain_3 : decode cX12_plain 3 = .ok (.sipush 272, 3) := dGR_23_c_670.2.2.2.1
theorem dX12_plain_6 : decode cX12_plain 6 = .ok (.if_icmp .ge 18, 3) := dGR_23_c_670.2.2.2.2.1
theorem dX12_plain_9 : decode cX12_plain 9 = .ok (.aload_n 0, 1) := dGR_23_c_670.2.2.2.2.2.1
theorem dX12_plain_10 : decode cX12_plain 10 = .ok (.getfield 7, 3) := dGR_23_c_670.2.2.2.2.2.2.1
theorem dX12_plain_13 : decode cX12_plain 13 = .ok (.iload_n 1, 1) := dGR_23_c_670.2.2.2.2.2.2.2.1
theorem dX12_plain_14 : decode cX12_plain 14 = .ok (.iload_n 2, 1) := dGR_23_c_670.2.2.2.2.2.2.2.2.1
theorem dX12_plain_15 : decode cX12_plain 15 = .ok (.iadd, 1) := dGR_23_c_670.2.2.2.2.2.2.2.2.2.1
theorem dX12_plain_16 : decode cX12_plain 16 = .ok (.iconst 0, 1) := dGR_23_c_670.2.2.2.2.2.2.2.2.2.2.1
theorem dX12_plain_17 : decode cX12_plain 17 = .ok (.iastore, 1) := dGR_23_c_670.2.2.2.2.2.2.2.2.2.2.2
set_option maxRecDepth 100000 in
theorem dGR_23_c_671 : (decode cX12_plain 18 = .ok (.iinc 2 1, 3)) ∧ (decode cX12_plain 21 = .ok (.goto (-19), 3)) ∧ (decode cX12_plain 24 = .ok (.aload_n 0, 1)) ∧ (decode cX12_plain 25 = .ok (.getfield 7, 3)) ∧ (decode cX12_plain 28 = .ok (.iload_n 1, 1)) ∧ (decode cX12_plain 29 = .ok (.iconst 4, 1)) ∧ (decode cX12_plain 30 = .ok (.iadd, 1)) ∧ (decode cX12_plain 31 = .ok (.iconst (-1), 1)) ∧ (decode cX12_plain 32 = .ok (.iastore, 1)) ∧ (decode cX12_plain 33 = .ok (.return_, 1)) := by decide +kernel
theorem dX12_plain_18 : decode cX12_plain 18 = .ok (.iinc 2 1, 3) := dGR_23_c_671.1
theorem dX12_plain_21 : decode cX12_plain 21 = .ok (.goto (-19), 3) := dGR_23_c_671.2.1
theorem dX12_plain_24 : decode cX12_plain 24 = .ok (.aload_n 0, 1) := dGR_23_c_671.2.2.1
theorem dX12_plain_25 : decode cX12_plain 25 = .ok (.getfield 7, 3) := dGR_23_c_671.2.2.2.1
theorem dX12_plain_28 : decode cX12_plain 28 = .ok (.iload_n 1, 1) := dGR_23_c_671.2.2.2.2.1
theorem dX12_plain_29 : decode cX12_plain 29 = .ok (.iconst 4, 1) := dGR_23_c_671.2.2.2.2.2.1
theorem dX12_plain_30 : decode cX12_plain 30 = .ok (.iadd, 1) := dGR_23_c_671.2.2.2.2.2.2.1
theorem dX12_plain_31 : decode cX12_plain 31 = .ok (.iconst (-1), 1) := dGR_23_c_671.2.2.2.2.2.2.2.1
theorem dX12_plain_32 : decode cX12_plain 32 = .ok (.iastore, 1) := dGR_23_c_671.2.2.2.2.2.2.2.2.1
theorem dX12_plain_33 : decode cX12_plain 33 = .ok (.return_, 1) := dGR_23_c_671.2.2.2.2.2.2.2.2.2
set_option maxRecDepth 100000 in
theorem dGR_23_c_672 : (decode cX12_tray 0 = .ok (.iload_n 1, 1)) ∧ (decode cX12_tray 1 = .ok (.invokestatic 134, 3)) ∧ (decode cX12_tray 4 = .ok (.ifCond .eq 22, 3)) ∧ (decode cX12_tray 7 = .ok (.iload_n 2, 1)) ∧ (decode cX12_tray 8 = .ok (.ifCond .lt 18, 3)) ∧ (decode cX12_tray 11 = .ok (.iload_n 2, 1)) ∧ (decode cX12_tray 12 = .ok (.iconst 3, 1)) ∧ (decode cX12_tray 13 = .ok (.if_icmp .gt 13, 3)) ∧ (decode cX12_tray 16 = .ok (.iload_n 3, 1)) ∧ (decode cX12_tray 17 = .ok (.ifCond .lt 9, 3)) ∧ (decode cX12_tray 20 = .ok (.iload_n 3, 1)) ∧ (decode cX12_tray 21 = .ok (.bipush 60, 2)) := by decide +kernel
theorem dX12_tray_0 : decode cX12_tray 0 = .ok (.iload_n 1, 1) := dGR_23_c_672.1
theorem dX12_tray_1 : decode cX12_tray 1 = .ok (.invokestatic 134, 3) := dGR_23_c_672.2.1
theorem dX12_tray_4 : decode cX12_tray 4 = .ok (.ifCond .eq 22, 3) := dGR_23_c_672.2.2.1
theorem dX12_tray_7 : decode cX12_tray 7 = .ok (.iload_n 2, 1) := dGR_23_c_672.2.2.2.1
theorem dX12_tray_8 : decode cX12_tray 8 = .ok (.ifCond .lt 18, 3) := dGR_23_c_672.2.2.2.2.1
theorem dX12_tray_11 : decode cX12_tray 11 = .ok (.iload_n 2, 1) := dGR_23_c_672.2.2.2.2.2.1
theorem dX12_tray_12 : decode cX12_tray 12 = .ok (.iconst 3, 1) := dGR_23_c_672.2.2.2.2.2.2.1
theorem dX12_tray_13 : decode cX12_tray 13 = .ok (.if_icmp .gt 13, 3) := dGR_23_c_672.2.2.2.2.2.2.2.1
theorem dX12_tray_16 : decode cX12_tray 16 = .ok (.iload_n 3, 1) := dGR_23_c_672.2.2.2.2.2.2.2.2.1
theorem dX12_tray_17 : decode cX12_tray 17 = .ok (.ifCond .lt 9, 3) := dGR_23_c_672.2.2.2.2.2.2.2.2.2.1
theorem dX12_tray_20 : decode cX12_tray 20 = .ok (.iload_n 3, 1) := dGR_23_c_672.2.2.2.2.2.2.2.2.2.2.1
theorem dX12_tray_21 : decode cX12_tray 21 = .ok (.bipush 60, 2) := dGR_23_c_672.2.2.2.2.2.2.2.2.2.2.2
set_option maxRecDepth 100000 in
theorem dGR_23_c_673 : (decode cX12_tray 23 = .ok (.if_icmp .le 9, 3)) ∧ (decode cX12_tray 26 = .ok (.aload_n 0, 1)) ∧ (decode cX12_tray 27 = .ok (.iconst 1, 1)) ∧ (decode cX12_tray 28 = .ok (.invokevirtual 130, 3)) ∧ (decode cX12_tray 31 = .ok (.ireturn, 1)) ∧ (decode cX12_tray 32 = .ok (.aload_n 0, 1)) ∧ (decode cX12_tray 33 = .ok (.getfield 21, 3)) ∧ (decode cX12_tray 36 = .ok (.iload_n 1, 1)) ∧ (decode cX12_tray 37 = .ok (.iload_n 2, 1)) ∧ (decode cX12_tray 38 = .ok (.iastore, 1)) ∧ (decode cX12_tray 39 = .ok (.aload_n 0, 1)) ∧ (decode cX12_tray 40 = .ok (.getfield 24, 3)) := by decide +kernel
theorem dX12_tray_23 : decode cX12_tray 23 = .ok (.if_icmp .le 9, 3) := dGR_23_c_673.1
theorem dX12_tray_26 : decode cX12_tray 26 = .ok (.aload_n 0, 1) := dGR_23_c_673.2.1
theorem dX12_tray_27 : decode cX12_tray 27 = .ok (.iconst 1, 1) := dGR_23_c_673.2.2.1
theorem dX12_tray_28 : decode cX12_tray 28 = .ok (.invokevirtual 130, 3) := dGR_23_c_673.2.2.2.1
theorem dX12_tray_31 : decode cX12_tray 31 = .ok (.ireturn, 1) := dGR_23_c_673.2.2.2.2.1
theorem dX12_tray_32 : decode cX12_tray 32 = .ok (.aload_n 0, 1) := dGR_23_c_673.2.2.2.2.2.1
theorem dX12_tray_33 : decode cX12_tray 33 = .ok (.getfield 21, 3) := dGR_23_c_673.2.2.2.2.2.2.1
theorem dX12_tray_36 : decode cX12_tray 36 = .ok (.iload_n 1, 1) := dGR_23_c_673.2.2.2.2.2.2.2.1
theorem dX12_tray_37 : decode cX12_tray 37 = .ok (.iload_n 2, 1) := dGR_23_c_673.2.2.2.2.2.2.2.2.1
theorem dX12_tray_38 : decode cX12_tray 38 = .ok (.iastore, 1) := dGR_23_c_673.2.2.2.2.2.2.2.2.2.1
theorem dX12_tray_39 : decode cX12_tray 39 = .ok (.aload_n 0, 1) := dGR_23_c_673.2.2.2.2.2.2.2.2.2.2.1
theorem dX12_tray_40 : decode cX12_tray 40 = .ok (.getfield 24, 3) := dGR_23_c_673.2.2.2.2.2.2.2.2.2.2.2
set_option maxRecDepth 100000 in
theorem dGR_23_c_674 : (decode cX12_tray 43 = .ok (.iload_n 1, 1)) ∧ (decode cX12_tray 44 = .ok (.iload_n 3, 1)) ∧ (decode cX12_tray 45 = .ok (.iastore, 1)) ∧ (decode cX12_tray 46 = .ok (.iconst 0, 1)) ∧ (decode cX12_tray 47 = .ok (.istore 4, 2)) ∧ (decode cX12_tray 49 = .ok (.iload 4, 2)) ∧ (decode cX12_tray 51 = .ok (.iload_n 3, 1)) ∧ (decode cX12_tray 52 = .ok (.if_icmp .ge 22, 3)) ∧ (decode cX12_tray 55 = .ok (.aload_n 0, 1)) ∧ (decode cX12_tray 56 = .ok (.getfield 27, 3)) ∧ (decode cX12_tray 59 = .ok (.bipush 60, 2)) ∧ (decode cX12_tray 61 = .ok (.iload_n 1, 1)) := by decide +kernel
theorem dX12_tray_43 : decode cX12_tray 43 = .ok (.iload_n 1, 1) := dGR_23_c_674.1
theorem dX12_tray_44 : decode cX12_tray 44 = .ok (.iload_n 3, 1) := dGR_23_c_674.2.1
theorem dX12_tray_45 : decode cX12_tray 45 = .ok (.iastore, 1) := dGR_23_c_674.2.2.1
theorem dX12_tray_46 : decode cX12_tray 46 = .ok (.iconst 0, 1) := dGR_23_c_674.2.2.2.1
theorem dX12_tray_47 : decode cX12_tray 47 = .ok (.istore 4, 2) := dGR_23_c_674.2.2.2.2.1
theorem dX12_tray_49 : decode cX12_tray 49 = .ok (.iload 4, 2) := dGR_23_c_674.2.2.2.2.2.1
theorem dX12_tray_51 : decode cX12_tray 51 = .ok (.iload_n 3, 1) := dGR_23_c_674.2.2.2.2.2.2.1
theorem dX12_tray_52 : decode cX12_tray 52 = .ok (.if_icmp .ge 22, 3) := dGR_23_c_674.2.2.2.2.2.2.2.1
theorem dX12_tray_55 : decode cX12_tray 55 = .ok (.aload_n 0, 1) := dGR_23_c_674.2.2.2.2.2.2.2.2.1
theorem dX12_tray_56 : decode cX12_tray 56 = .ok (.getfield 27, 3) := dGR_23_c_674.2.2.2.2.2.2.2.2.2.1
theorem dX12_tray_59 : decode cX12_tray 59 = .ok (.bipush 60, 2) := dGR_23_c_674.2.2.2.2.2.2.2.2.2.2.1
theorem dX12_tray_61 : decode cX12_tray 61 = .ok (.iload_n 1, 1) := dGR_23_c_674.2.2.2.2.2.2.2.2.2.2.2
set_option maxRecDepth 100000 in
theorem dGR_23_c_675 : (decode cX12_tray 62 = .ok (.imul, 1)) ∧ (decode cX12_tray 63 = .ok (.iload 4, 2)) ∧ (decode cX12_tray 65 = .ok (.iadd, 1)) ∧ (decode cX12_tray 66 = .ok (.lconst 0, 1)) ∧ (decode cX12_tray 67 = .ok (.lastore, 1)) ∧ (decode cX12_tray 68 = .ok (.iinc 4 1, 3)) ∧ (decode cX12_tray 71 = .ok (.goto (-22), 3)) ∧ (decode cX12_tray 74 = .ok (.aload_n 0, 1)) ∧ (decode cX12_tray 75 = .ok (.iconst 0, 1)) ∧ (decode cX12_tray 76 = .ok (.invokevirtual 130, 3)) ∧ (decode cX12_tray 79 = .ok (.ireturn, 1)) := by decide +kernel
theorem dX12_tray_62 : decode cX12_tray 62 = .ok (.imul, 1) := dGR_23_c_675.1
theorem dX12_tray_63 : decode cX12_tray 63 = .ok (.iload 4, 2) := dGR_23_c_675.2.1
theorem dX12_tray_65 : decode cX12_tray 65 = .ok (.iadd, 1) := dGR_23_c_675.2.2.1
theorem dX12_tray_66 : decode cX12_tray 66 = .ok (.lconst 0, 1) := dGR_23_c_675.2.2.2.1
theorem dX12_tray_67 : decode cX12_tray 67 = .ok (.lastore, 1) := dGR_23_c_675.2.2.2.2.1
theorem dX12_tray_68 : decode cX12_tray 68 = .ok (.iinc 4 1, 3) := dGR_23_c_675.2.2.2.2.2.1
theorem dX12_tray_71 : decode cX12_tray 71 = .ok (.goto (-22), 3) := dGR_23_c_675.2.2.2.2.2.2.1
theorem dX12_tray_74 : decode cX12_tray 74 = .ok (.aload_n 0, 1) := dGR_23_c_675.2.2.2.2.2.2.2.1
theorem dX12_tray_75 : decode cX12_tray 75 = .ok (.iconst 0, 1) := dGR_23_c_675.2.2.2.2.2.2.2.2.1
theorem dX12_tray_76 : decode cX12_tray 76 = .ok (.invokevirtual 130, 3) := dGR_23_c_675.2.2.2.2.2.2.2.2.2.1
theorem dX12_tray_79 : decode cX12_tray 79 = .ok (.ireturn, 1) := dGR_23_c_675.2.2.2.2.2.2.2.2.2.2
set_option maxRecDepth 100000 in
theorem dGR_23_c_676 : (decode cX12_wrongPlace 0 = .ok (.iload_n 1, 1)) ∧ (decode cX12_wrongPlace 1 = .ok (.invokestatic 134, 3)) ∧ (decode cX12_wrongPlace 4 = .ok (.ifCond .ne 7, 3)) ∧ (decode cX12_wrongPlace 7 = .ok (.iconst 1, 1)) ∧ (decode cX12_wrongPlace 8 = .ok (.goto 36, 3)) ∧ (decode cX12_wrongPlace 11 = .ok (.aload_n 0, 1)) ∧ (decode cX12_wrongPlace 12 = .ok (.getfield 24, 3)) ∧ (decode cX12_wrongPlace 15 = .ok (.iload_n 1, 1)) ∧ (decode cX12_wrongPlace 16 = .ok (.iaload, 1)) ∧ (decode cX12_wrongPlace 17 = .ok (.iconst (-1), 1)) ∧ (decode cX12_wrongPlace 18 = .ok (.if_icmp .ne 7, 3)) ∧ (decode cX12_wrongPlace 21 = .ok (.iconst 2, 1)) := by decide +kernel
theorem dX12_wrongPlace_0 : decode cX12_wrongPlace 0 = .ok (.iload_n 1, 1) := dGR_23_c_676.1
theorem dX12_wrongPlace_1 : decode cX12_wrongPlace 1 = .ok (.invokestatic 134, 3) := dGR_23_c_676.2.1
theorem dX12_wrongPlace_4 : decode cX12_wrongPlace 4 = .ok (.ifCond .ne 7, 3) := dGR_23_c_676.2.2.1
theorem dX12_wrongPlace_7 : decode cX12_wrongPlace 7 = .ok (.iconst 1, 1) := dGR_23_c_676.2.2.2.1
theorem dX12_wrongPlace_8 : decode cX12_wrongPlace 8 = .ok (.goto 36, 3) := dGR_23_c_676.2.2.2.2.1
theorem dX12_wrongPlace_11 : decode cX12_wrongPlace 11 = .ok (.aload_n 0, 1) := dGR_23_c_676.2.2.2.2.2.1
theorem dX12_wrongPlace_12 : decode cX12_wrongPlace 12 = .ok (.getfield 24, 3) := dGR_23_c_676.2.2.2.2.2.2.1
theorem dX12_wrongPlace_15 : decode cX12_wrongPlace 15 = .ok (.iload_n 1, 1) := dGR_23_c_676.2.2.2.2.2.2.2.1
theorem dX12_wrongPlace_16 : decode cX12_wrongPlace 16 = .ok (.iaload, 1) := dGR_23_c_676.2.2.2.2.2.2.2.2.1
theorem dX12_wrongPlace_17 : decode cX12_wrongPlace 17 = .ok (.iconst (-1), 1) := dGR_23_c_676.2.2.2.2.2.2.2.2.2.1
theorem dX12_wrongPlace_18 : decode cX12_wrongPlace 18 = .ok (.if_icmp .ne 7, 3) := dGR_23_c_676.2.2.2.2.2.2.2.2.2.2.1
theorem dX12_wrongPlace_21 : decode cX12_wrongPlace 21 = .ok (.iconst 2, 1) := dGR_23_c_676.2.2.2.2.2.2.2.2.2.2.2
set_option maxRecDepth 100000 in
theorem dGR_23_c_677 : (decode cX12_wrongPlace 22 = .ok (.goto 22, 3)) ∧ (decode cX12_wrongPlace 25 = .ok (.iload_n 2, 1)) ∧ (decode cX12_wrongPlace 26 = .ok (.ifCond .lt 13, 3)) ∧ (decode cX12_wrongPlace 29 = .ok (.iload_n 2, 1)) ∧ (decode cX12_wrongPlace 30 = .ok (.aload_n 0, 1)) ∧ (decode cX12_wrongPlace 31 = .ok (.getfield 24, 3)) ∧ (decode cX12_wrongPlace 34 = .ok (.iload_n 1, 1)) ∧ (decode cX12_wrongPlace 35 = .ok (.iaload, 1)) ∧ (decode cX12_wrongPlace 36 = .ok (.if_icmp .lt 7, 3)) ∧ (decode cX12_wrongPlace 39 = .ok (.iconst 3, 1)) ∧ (decode cX12_wrongPlace 40 = .ok (.goto 4, 3)) ∧ (decode cX12_wrongPlace 43 = .ok (.iconst 0, 1)) := by decide +kernel
theorem dX12_wrongPlace_22 : decode cX12_wrongPlace 22 = .ok (.goto 22, 3) := dGR_23_c_677.1
theorem dX12_wrongPlace_25 : decode cX12_wrongPlace 25 = .ok (.iload_n 2, 1) := dGR_23_c_677.2.1
theorem dX12_wrongPlace_26 : decode cX12_wrongPlace 26 = .ok (.ifCond .lt 13, 3) := dGR_23_c_677.2.2.1
theorem dX12_wrongPlace_29 : decode cX12_wrongPlace 29 = .ok (.iload_n 2, 1) := dGR_23_c_677.2.2.2.1
theorem dX12_wrongPlace_30 : decode cX12_wrongPlace 30 = .ok (.aload_n 0, 1) := dGR_23_c_677.2.2.2.2.1
theorem dX12_wrongPlace_31 : decode cX12_wrongPlace 31 = .ok (.getfield 24, 3) := dGR_23_c_677.2.2.2.2.2.1
theorem dX12_wrongPlace_34 : decode cX12_wrongPlace 34 = .ok (.iload_n 1, 1) := dGR_23_c_677.2.2.2.2.2.2.1
theorem dX12_wrongPlace_35 : decode cX12_wrongPlace 35 = .ok (.iaload, 1) := dGR_23_c_677.2.2.2.2.2.2.2.1
theorem dX12_wrongPlace_36 : decode cX12_wrongPlace 36 = .ok (.if_icmp .lt 7, 3) := dGR_23_c_677.2.2.2.2.2.2.2.2.1
theorem dX12_wrongPlace_39 : decode cX12_wrongPlace 39 = .ok (.iconst 3, 1) := dGR_23_c_677.2.2.2.2.2.2.2.2.2.1
theorem dX12_wrongPlace_40 : decode cX12_wrongPlace 40 = .ok (.goto 4, 3) := dGR_23_c_677.2.2.2.2.2.2.2.2.2.2.1
theorem dX12_wrongPlace_43 : decode cX12_wrongPlace 43 = .ok (.iconst 0, 1) := dGR_23_c_677.2.2.2.2.2.2.2.2.2.2.2
theorem dX12_wrongPlace_44 : decode cX12_wrongPlace 44 = .ok (.ireturn, 1) := by decide +kernel
set_option maxRecDepth 100000 in
theorem dGR_23_c_678 : (decode cX12_write 0 = .ok (.aload_n 0, 1)) ∧ (decode cX12_write 1 = .ok (.iload_n 1, 1)) ∧ (decode cX12_write 2 = .ok (.iload_n 2, 1)) ∧ (decode cX12_write 3 = .ok (.invokevirtual 137, 3)) ∧ (decode cX12_write 6 = .ok (.istore 5, 2)) ∧ (decode cX12_write 8 = .ok (.iload 5, 2)) ∧ (decode cX12_write 10 = .ok (.ifCond .ne 24, 3)) ∧ (decode cX12_write 13 = .ok (.aload_n 0, 1)) ∧ (decode cX12_write 14 = .ok (.getfield 27, 3)) ∧ (decode cX12_write 17 = .ok (.bipush 60, 2)) ∧ (decode cX12_write 19 = .ok (.iload_n 1, 1)) ∧ (decode cX12_write 20 = .ok (.imul, 1)) := by decide +kernel
theorem dX12_write_0 : decode cX12_write 0 = .ok (.aload_n 0, 1) := dGR_23_c_678.1
theorem dX12_write_1 : decode cX12_write 1 = .ok (.iload_n 1, 1) := dGR_23_c_678.2.1
theorem dX12_write_2 : decode cX12_write 2 = .ok (.iload_n 2, 1) := dGR_23_c_678.2.2.1
theorem dX12_write_3 : decode cX12_write 3 = .ok (.invokevirtual 137, 3) := dGR_23_c_678.2.2.2.1
theorem dX12_write_6 : decode cX12_write 6 = .ok (.istore 5, 2) := dGR_23_c_678.2.2.2.2.1
theorem dX12_write_8 : decode cX12_write 8 = .ok (.iload 5, 2) := dGR_23_c_678.2.2.2.2.2.1
theorem dX12_write_10 : decode cX12_write 10 = .ok (.ifCond .ne 24, 3) := dGR_23_c_678.2.2.2.2.2.2.1
theorem dX12_write_13 : decode cX12_write 13 = .ok (.aload_n 0, 1) := dGR_23_c_678.2.2.2.2.2.2.2.1
theorem dX12_write_14 : decode cX12_write 14 = .ok (.getfield 27, 3) := dGR_23_c_678.2.2.2.2.2.2.2.2.1
theorem dX12_write_17 : decode cX12_write 17 = .ok (.bipush 60, 2) := dGR_23_c_678.2.2.2.2.2.2.2.2.2.1
theorem dX12_write_19 : decode cX12_write 19 = .ok (.iload_n 1, 1) := dGR_23_c_678.2.2.2.2.2.2.2.2.2.2.1
theorem dX12_write_20 : decode cX12_write 20 = .ok (.imul, 1) := dGR_23_c_678.2.2.2.2.2.2.2.2.2.2.2
set_option maxRecDepth 100000 in
theorem dGR_23_c_679 : (decode cX12_write 21 = .ok (.iload_n 2, 1)) ∧ (decode cX12_write 22 = .ok (.iadd, 1)) ∧ (decode cX12_write 23 = .ok (.lload_n 3, 1)) ∧ (decode cX12_write 24 = .ok (.aload_n 0, 1)) ∧ (decode cX12_write 25 = .ok (.getfield 21, 3)) ∧ (decode cX12_write 28 = .ok (.iload_n 1, 1)) ∧ (decode cX12_write 29 = .ok (.iaload, 1)) ∧ (decode cX12_write 30 = .ok (.invokestatic 141, 3)) ∧ (decode cX12_write 33 = .ok (.lastore, 1)) ∧ (decode cX12_write 34 = .ok (.aload_n 0, 1)) ∧ (decode cX12_write 35 = .ok (.iload 5, 2)) ∧ (decode cX12_write 37 = .ok (.invokevirtual 130, 3)) := by decide +kernel
theorem dX12_write_21 : decode cX12_write 21 = .ok (.iload_n 2, 1) := dGR_23_c_679.1
theorem dX12_write_22 : decode cX12_write 22 = .ok (.iadd, 1) := dGR_23_c_679.2.1
theorem dX12_write_23 : decode cX12_write 23 = .ok (.lload_n 3, 1) := dGR_23_c_679.2.2.1
theorem dX12_write_24 : decode cX12_write 24 = .ok (.aload_n 0, 1) := dGR_23_c_679.2.2.2.1
theorem dX12_write_25 : decode cX12_write 25 = .ok (.getfield 21, 3) := dGR_23_c_679.2.2.2.2.1
theorem dX12_write_28 : decode cX12_write 28 = .ok (.iload_n 1, 1) := dGR_23_c_679.2.2.2.2.2.1
theorem dX12_write_29 : decode cX12_write 29 = .ok (.iaload, 1) := dGR_23_c_679.2.2.2.2.2.2.1
theorem dX12_write_30 : decode cX12_write 30 = .ok (.invokestatic 141, 3) := dGR_23_c_679.2.2.2.2.2.2.2.1
theorem dX12_write_33 : decode cX12_write 33 = .ok (.lastore, 1) := dGR_23_c_679.2.2.2.2.2.2.2.2.1
theorem dX12_write_34 : decode cX12_write 34 = .ok (.aload_n 0, 1) := dGR_23_c_679.2.2.2.2.2.2.2.2.2.1
theorem dX12_write_35 : decode cX12_write 35 = .ok (.iload 5, 2) := dGR_23_c_679.2.2.2.2.2.2.2.2.2.2.1
theorem dX12_write_37 : decode cX12_write 37 = .ok (.invokevirtual 130, 3) := dGR_23_c_679.2.2.2.2.2.2.2.2.2.2.2
theorem dX12_write_40 : decode cX12_write 40 = .ok (.ireturn, 1) := by decide +kernel
set_option maxRecDepth 100000 in
theorem dGR_23_c_680 : (decode cX12_read 0 = .ok (.aload_n 0, 1)) ∧ (decode cX12_read 1 = .ok (.aload_n 0, 1)) ∧ (decode cX12_read 2 = .ok (.iload_n 1, 1)) ∧ (decode cX12_read 3 = .ok (.iload_n 2, 1)) ∧ (decode cX12_read 4 = .ok (.invokevirtual 137, 3)) ∧ (decode cX12_read 7 = .ok (.putfield 117, 3)) ∧ (decode cX12_read 10 = .ok (.aload_n 0, 1)) ∧ (decode cX12_read 11 = .ok (.getfield 117, 3)) ∧ (decode cX12_read 14 = .ok (.ifCond .le 9, 3)) ∧ (decode cX12_read 17 = .ok (.ldc2_w 145, 3)) ∧ (decode cX12_read 20 = .ok (.goto 14, 3)) ∧ (decode cX12_read 23 = .ok (.aload_n 0, 1)) := by decide +kernel
theorem dX12_read_0 : decode cX12_read 0 = .ok (.aload_n 0, 1) := dGR_23_c_680.1
theorem dX12_read_1 : decode cX12_read 1 = .ok (.aload_n 0, 1) := dGR_23_c_680.2.1
theorem dX12_read_2 : decode cX12_read 2 = .ok (.iload_n 1, 1) := dGR_23_c_680.2.2.1
theorem dX12_read_3 : decode cX12_read 3 = .ok (.iload_n 2, 1) := dGR_23_c_680.2.2.2.1
theorem dX12_read_4 : decode cX12_read 4 = .ok (.invokevirtual 137, 3) := dGR_23_c_680.2.2.2.2.1
theorem dX12_read_7 : decode cX12_read 7 = .ok (.putfield 117, 3) := dGR_23_c_680.2.2.2.2.2.1
theorem dX12_read_10 : decode cX12_read 10 = .ok (.aload_n 0, 1) := dGR_23_c_680.2.2.2.2.2.2.1
theorem dX12_read_11 : decode cX12_read 11 = .ok (.getfield 117, 3) := dGR_23_c_680.2.2.2.2.2.2.2.1
theorem dX12_read_14 : decode cX12_read 14 = .ok (.ifCond .le 9, 3) := dGR_23_c_680.2.2.2.2.2.2.2.2.1
theorem dX12_read_17 : decode cX12_read 17 = .ok (.ldc2_w 145, 3) := dGR_23_c_680.2.2.2.2.2.2.2.2.2.1
theorem dX12_read_20 : decode cX12_read 20 = .ok (.goto 14, 3) := dGR_23_c_680.2.2.2.2.2.2.2.2.2.2.1
theorem dX12_read_23 : decode cX12_read 23 = .ok (.aload_n 0, 1) := dGR_23_c_680.2.2.2.2.2.2.2.2.2.2.2
set_option maxRecDepth 100000 in
theorem dGR_23_c_681 : (decode cX12_read 24 = .ok (.getfield 27, 3)) ∧ (decode cX12_read 27 = .ok (.bipush 60, 2)) ∧ (decode cX12_read 29 = .ok (.iload_n 1, 1)) ∧ (decode cX12_read 30 = .ok (.imul, 1)) ∧ (decode cX12_read 31 = .ok (.iload_n 2, 1)) ∧ (decode cX12_read 32 = .ok (.iadd, 1)) ∧ (decode cX12_read 33 = .ok (.laload, 1)) ∧ (decode cX12_read 34 = .ok (.lreturn, 1)) := by decide +kernel
theorem dX12_read_24 : decode cX12_read 24 = .ok (.getfield 27, 3) := dGR_23_c_681.1
theorem dX12_read_27 : decode cX12_read 27 = .ok (.bipush 60, 2) := dGR_23_c_681.2.1
theorem dX12_read_29 : decode cX12_read 29 = .ok (.iload_n 1, 1) := dGR_23_c_681.2.2.1
theorem dX12_read_30 : decode cX12_read 30 = .ok (.imul, 1) := dGR_23_c_681.2.2.2.1
theorem dX12_read_31 : decode cX12_read 31 = .ok (.iload_n 2, 1) := dGR_23_c_681.2.2.2.2.1
theorem dX12_read_32 : decode cX12_read 32 = .ok (.iadd, 1) := dGR_23_c_681.2.2.2.2.2.1
theorem dX12_read_33 : decode cX12_read 33 = .ok (.laload, 1) := dGR_23_c_681.2.2.2.2.2.2.1
theorem dX12_read_34 : decode cX12_read 34 = .ok (.lreturn, 1) := dGR_23_c_681.2.2.2.2.2.2.2
set_option maxRecDepth 100000 in
theorem dGR_23_c_682 : (decode cX12_pour 0 = .ok (.iload_n 1, 1)) ∧ (decode cX12_pour 1 = .ok (.invokestatic 134, 3)) ∧ (decode cX12_pour 4 = .ok (.ifCond .eq 24, 3)) ∧ (decode cX12_pour 7 = .ok (.iload_n 3, 1)) ∧ (decode cX12_pour 8 = .ok (.invokestatic 134, 3)) ∧ (decode cX12_pour 11 = .ok (.ifCond .eq 17, 3)) ∧ (decode cX12_pour 14 = .ok (.iload_n 2, 1)) ∧ (decode cX12_pour 15 = .ok (.ifCond .lt 13, 3)) ∧ (decode cX12_pour 18 = .ok (.iload 4, 2)) ∧ (decode cX12_pour 20 = .ok (.ifCond .lt 8, 3)) ∧ (decode cX12_pour 23 = .ok (.iload 5, 2)) ∧ (decode cX12_pour 25 = .ok (.ifCond .ge 9, 3)) := by decide +kernel
theorem dX12_pour_0 : decode cX12_pour 0 = .ok (.iload_n 1, 1) := dGR_23_c_682.1
theorem dX12_pour_1 : decode cX12_pour 1 = .ok (.invokestatic 134, 3) := dGR_23_c_682.2.1
theorem dX12_pour_4 : decode cX12_pour 4 = .ok (.ifCond .eq 24, 3) := dGR_23_c_682.2.2.1
theorem dX12_pour_7 : decode cX12_pour 7 = .ok (.iload_n 3, 1) := dGR_23_c_682.2.2.2.1
theorem dX12_pour_8 : decode cX12_pour 8 = .ok (.invokestatic 134, 3) := dGR_23_c_682.2.2.2.2.1
theorem dX12_pour_11 : decode cX12_pour 11 = .ok (.ifCond .eq 17, 3) := dGR_23_c_682.2.2.2.2.2.1
theorem dX12_pour_14 : decode cX12_pour 14 = .ok (.iload_n 2, 1) := dGR_23_c_682.2.2.2.2.2.2.1
theorem dX12_pour_15 : decode cX12_pour 15 = .ok (.ifCond .lt 13, 3) := dGR_23_c_682.2.2.2.2.2.2.2.1
theorem dX12_pour_18 : decode cX12_pour 18 = .ok (.iload 4, 2) := dGR_23_c_682.2.2.2.2.2.2.2.2.1
theorem dX12_pour_20 : decode cX12_pour 20 = .ok (.ifCond .lt 8, 3) := dGR_23_c_682.2.2.2.2.2.2.2.2.2.1
theorem dX12_pour_23 : decode cX12_pour 23 = .ok (.iload 5, 2) := dGR_23_c_682.2.2.2.2.2.2.2.2.2.2.1
theorem dX12_pour_25 : decode cX12_pour 25 = .ok (.ifCond .ge 9, 3) := dGR_23_c_682.2.2.2.2.2.2.2.2.2.2.2
set_option maxRecDepth 100000 in
theorem dGR_23_c_683 : (decode cX12_pour 28 = .ok (.aload_n 0, 1)) ∧ (decode cX12_pour 29 = .ok (.iconst 1, 1)) ∧ (decode cX12_pour 30 = .ok (.invokevirtual 130, 3)) ∧ (decode cX12_pour 33 = .ok (.ireturn, 1)) ∧ (decode cX12_pour 34 = .ok (.aload_n 0, 1)) ∧ (decode cX12_pour 35 = .ok (.getfield 24, 3)) ∧ (decode cX12_pour 38 = .ok (.iload_n 1, 1)) ∧ (decode cX12_pour 39 = .ok (.iaload, 1)) ∧ (decode cX12_pour 40 = .ok (.iconst (-1), 1)) ∧ (decode cX12_pour 41 = .ok (.if_icmp .eq 13, 3)) ∧ (decode cX12_pour 44 = .ok (.aload_n 0, 1)) ∧ (decode cX12_pour 45 = .ok (.getfield 24, 3)) := by decide +kernel
theorem dX12_pour_28 : decode cX12_pour 28 = .ok (.aload_n 0, 1) := dGR_23_c_683.1
theorem dX12_pour_29 : decode cX12_pour 29 = .ok (.iconst 1, 1) := dGR_23_c_683.2.1
theorem dX12_pour_30 : decode cX12_pour 30 = .ok (.invokevirtual 130, 3) := dGR_23_c_683.2.2.1
theorem dX12_pour_33 : decode cX12_pour 33 = .ok (.ireturn, 1) := dGR_23_c_683.2.2.2.1
theorem dX12_pour_34 : decode cX12_pour 34 = .ok (.aload_n 0, 1) := dGR_23_c_683.2.2.2.2.1
theorem dX12_pour_35 : decode cX12_pour 35 = .ok (.getfield 24, 3) := dGR_23_c_683.2.2.2.2.2.1
theorem dX12_pour_38 : decode cX12_pour 38 = .ok (.iload_n 1, 1) := dGR_23_c_683.2.2.2.2.2.2.1
theorem dX12_pour_39 : decode cX12_pour 39 = .ok (.iaload, 1) := dGR_23_c_683.2.2.2.2.2.2.2.1
theorem dX12_pour_40 : decode cX12_pour 40 = .ok (.iconst (-1), 1) := dGR_23_c_683.2.2.2.2.2.2.2.2.1
theorem dX12_pour_41 : decode cX12_pour 41 = .ok (.if_icmp .eq 13, 3) := dGR_23_c_683.2.2.2.2.2.2.2.2.2.1
theorem dX12_pour_44 : decode cX12_pour 44 = .ok (.aload_n 0, 1) := dGR_23_c_683.2.2.2.2.2.2.2.2.2.2.1
theorem dX12_pour_45 : decode cX12_pour 45 = .ok (.getfield 24, 3) := dGR_23_c_683.2.2.2.2.2.2.2.2.2.2.2
set_option maxRecDepth 100000 in
theorem dGR_23_c_684 : (decode cX12_pour 48 = .ok (.iload_n 3, 1)) ∧ (decode cX12_pour 49 = .ok (.iaload, 1)) ∧ (decode cX12_pour 50 = .ok (.iconst (-1), 1)) ∧ (decode cX12_pour 51 = .ok (.if_icmp .ne 9, 3)) ∧ (decode cX12_pour 54 = .ok (.aload_n 0, 1)) ∧ (decode cX12_pour 55 = .ok (.iconst 2, 1)) ∧ (decode cX12_pour 56 = .ok (.invokevirtual 130, 3)) ∧ (decode cX12_pour 59 = .ok (.ireturn, 1)) ∧ (decode cX12_pour 60 = .ok (.aload_n 0, 1)) ∧ (decode cX12_pour 61 = .ok (.getfield 21, 3)) ∧ (decode cX12_pour 64 = .ok (.iload_n 1, 1)) ∧ (decode cX12_pour 65 = .ok (.iaload, 1)) := by decide +kernel
theorem dX12_pour_48 : decode cX12_pour 48 = .ok (.iload_n 3, 1) := dGR_23_c_684.1
theorem dX12_pour_49 : decode cX12_pour 49 = .ok (.iaload, 1) := dGR_23_c_684.2.1
theorem dX12_pour_50 : decode cX12_pour 50 = .ok (.iconst (-1), 1) := dGR_23_c_684.2.2.1
theorem dX12_pour_51 : decode cX12_pour 51 = .ok (.if_icmp .ne 9, 3) := dGR_23_c_684.2.2.2.1
theorem dX12_pour_54 : decode cX12_pour 54 = .ok (.aload_n 0, 1) := dGR_23_c_684.2.2.2.2.1
theorem dX12_pour_55 : decode cX12_pour 55 = .ok (.iconst 2, 1) := dGR_23_c_684.2.2.2.2.2.1
theorem dX12_pour_56 : decode cX12_pour 56 = .ok (.invokevirtual 130, 3) := dGR_23_c_684.2.2.2.2.2.2.1
theorem dX12_pour_59 : decode cX12_pour 59 = .ok (.ireturn, 1) := dGR_23_c_684.2.2.2.2.2.2.2.1
theorem dX12_pour_60 : decode cX12_pour 60 = .ok (.aload_n 0, 1) := dGR_23_c_684.2.2.2.2.2.2.2.2.1
theorem dX12_pour_61 : decode cX12_pour 61 = .ok (.getfield 21, 3) := dGR_23_c_684.2.2.2.2.2.2.2.2.2.1
theorem dX12_pour_64 : decode cX12_pour 64 = .ok (.iload_n 1, 1) := dGR_23_c_684.2.2.2.2.2.2.2.2.2.2.1
theorem dX12_pour_65 : decode cX12_pour 65 = .ok (.iaload, 1) := dGR_23_c_684.2.2.2.2.2.2.2.2.2.2.2
set_option maxRecDepth 100000 in
theorem dGR_23_c_685 : (decode cX12_pour 66 = .ok (.aload_n 0, 1)) ∧ (decode cX12_pour 67 = .ok (.getfield 21, 3)) ∧ (decode cX12_pour 70 = .ok (.iload_n 3, 1)) ∧ (decode cX12_pour 71 = .ok (.iaload, 1)) ∧ (decode cX12_pour 72 = .ok (.if_icmp .eq 10, 3)) ∧ (decode cX12_pour 75 = .ok (.aload_n 0, 1)) ∧ (decode cX12_pour 76 = .ok (.bipush 8, 2)) ∧ (decode cX12_pour 78 = .ok (.invokevirtual 130, 3)) ∧ (decode cX12_pour 81 = .ok (.ireturn, 1)) ∧ (decode cX12_pour 82 = .ok (.iload 5, 2)) ∧ (decode cX12_pour 84 = .ok (.aload_n 0, 1)) ∧ (decode cX12_pour 85 = .ok (.getfield 24, 3)) := by decide +kernel
theorem dX12_pour_66 : decode cX12_pour 66 = .ok (.aload_n 0, 1) := dGR_23_c_685.1
theorem dX12_pour_67 : decode cX12_pour 67 = .ok (.getfield 21, 3) := dGR_23_c_685.2.1
theorem dX12_pour_70 : decode cX12_pour 70 = .ok (.iload_n 3, 1) := dGR_23_c_685.2.2.1
theorem dX12_pour_71 : decode cX12_pour 71 = .ok (.iaload, 1) := dGR_23_c_685.2.2.2.1
theorem dX12_pour_72 : decode cX12_pour 72 = .ok (.if_icmp .eq 10, 3) := dGR_23_c_685.2.2.2.2.1
theorem dX12_pour_75 : decode cX12_pour 75 = .ok (.aload_n 0, 1) := dGR_23_c_685.2.2.2.2.2.1
theorem dX12_pour_76 : decode cX12_pour 76 = .ok (.bipush 8, 2) := dGR_23_c_685.2.2.2.2.2.2.1
theorem dX12_pour_78 : decode cX12_pour 78 = .ok (.invokevirtual 130, 3) := dGR_23_c_685.2.2.2.2.2.2.2.1
theorem dX12_pour_81 : decode cX12_pour 81 = .ok (.ireturn, 1) := dGR_23_c_685.2.2.2.2.2.2.2.2.1
theorem dX12_pour_82 : decode cX12_pour 82 = .ok (.iload 5, 2) := dGR_23_c_685.2.2.2.2.2.2.2.2.2.1
theorem dX12_pour_84 : decode cX12_pour 84 = .ok (.aload_n 0, 1) := dGR_23_c_685.2.2.2.2.2.2.2.2.2.2.1
theorem dX12_pour_85 : decode cX12_pour 85 = .ok (.getfield 24, 3) := dGR_23_c_685.2.2.2.2.2.2.2.2.2.2.2
set_option maxRecDepth 100000 in
theorem dGR_23_c_686 : (decode cX12_pour 88 = .ok (.iload_n 1, 1)) ∧ (decode cX12_pour 89 = .ok (.iaload, 1)) ∧ (decode cX12_pour 90 = .ok (.iload_n 2, 1)) ∧ (decode cX12_pour 91 = .ok (.isub, 1)) ∧ (decode cX12_pour 92 = .ok (.if_icmp .gt 17, 3)) ∧ (decode cX12_pour 95 = .ok (.iload 5, 2)) ∧ (decode cX12_pour 97 = .ok (.aload_n 0, 1)) ∧ (decode cX12_pour 98 = .ok (.getfield 24, 3)) ∧ (decode cX12_pour 101 = .ok (.iload_n 3, 1)) ∧ (decode cX12_pour 102 = .ok (.iaload, 1)) ∧ (decode cX12_pour 103 = .ok (.iload 4, 2)) ∧ (decode cX12_pour 105 = .ok (.isub, 1)) := by decide +kernel
theorem dX12_pour_88 : decode cX12_pour 88 = .ok (.iload_n 1, 1) := dGR_23_c_686.1
theorem dX12_pour_89 : decode cX12_pour 89 = .ok (.iaload, 1) := dGR_23_c_686.2.1
theorem dX12_pour_90 : decode cX12_pour 90 = .ok (.iload_n 2, 1) := dGR_23_c_686.2.2.1
theorem dX12_pour_91 : decode cX12_pour 91 = .ok (.isub, 1) := dGR_23_c_686.2.2.2.1
theorem dX12_pour_92 : decode cX12_pour 92 = .ok (.if_icmp .gt 17, 3) := dGR_23_c_686.2.2.2.2.1
theorem dX12_pour_95 : decode cX12_pour 95 = .ok (.iload 5, 2) := dGR_23_c_686.2.2.2.2.2.1
theorem dX12_pour_97 : decode cX12_pour 97 = .ok (.aload_n 0, 1) := dGR_23_c_686.2.2.2.2.2.2.1
theorem dX12_pour_98 : decode cX12_pour 98 = .ok (.getfield 24, 3) := dGR_23_c_686.2.2.2.2.2.2.2.1
theorem dX12_pour_101 : decode cX12_pour 101 = .ok (.iload_n 3, 1) := dGR_23_c_686.2.2.2.2.2.2.2.2.1
theorem dX12_pour_102 : decode cX12_pour 102 = .ok (.iaload, 1) := dGR_23_c_686.2.2.2.2.2.2.2.2.2.1
theorem dX12_pour_103 : decode cX12_pour 103 = .ok (.iload 4, 2) := dGR_23_c_686.2.2.2.2.2.2.2.2.2.2.1
theorem dX12_pour_105 : decode cX12_pour 105 = .ok (.isub, 1) := dGR_23_c_686.2.2.2.2.2.2.2.2.2.2.2
set_option maxRecDepth 100000 in
theorem dGR_23_c_687 : (decode cX12_pour 106 = .ok (.if_icmp .le 9, 3)) ∧ (decode cX12_pour 109 = .ok (.aload_n 0, 1)) ∧ (decode cX12_pour 110 = .ok (.iconst 3, 1)) ∧ (decode cX12_pour 111 = .ok (.invokevirtual 130, 3)) ∧ (decode cX12_pour 114 = .ok (.ireturn, 1)) ∧ (decode cX12_pour 115 = .ok (.iconst 0, 1)) ∧ (decode cX12_pour 116 = .ok (.istore 6, 2)) ∧ (decode cX12_pour 118 = .ok (.iload 6, 2)) ∧ (decode cX12_pour 120 = .ok (.iload 5, 2)) ∧ (decode cX12_pour 122 = .ok (.if_icmp .ge 58, 3)) ∧ (decode cX12_pour 125 = .ok (.iload_n 2, 1)) ∧ (decode cX12_pour 126 = .ok (.iload 4, 2)) := by decide +kernel
theorem dX12_pour_106 : decode cX12_pour 106 = .ok (.if_icmp .le 9, 3) := dGR_23_c_687.1
theorem dX12_pour_109 : decode cX12_pour 109 = .ok (.aload_n 0, 1) := dGR_23_c_687.2.1
theorem dX12_pour_110 : decode cX12_pour 110 = .ok (.iconst 3, 1) := dGR_23_c_687.2.2.1
theorem dX12_pour_111 : decode cX12_pour 111 = .ok (.invokevirtual 130, 3) := dGR_23_c_687.2.2.2.1
theorem dX12_pour_114 : decode cX12_pour 114 = .ok (.ireturn, 1) := dGR_23_c_687.2.2.2.2.1
theorem dX12_pour_115 : decode cX12_pour 115 = .ok (.iconst 0, 1) := dGR_23_c_687.2.2.2.2.2.1
theorem dX12_pour_116 : decode cX12_pour 116 = .ok (.istore 6, 2) := dGR_23_c_687.2.2.2.2.2.2.1
theorem dX12_pour_118 : decode cX12_pour 118 = .ok (.iload 6, 2) := dGR_23_c_687.2.2.2.2.2.2.2.1
theorem dX12_pour_120 : decode cX12_pour 120 = .ok (.iload 5, 2) := dGR_23_c_687.2.2.2.2.2.2.2.2.1
theorem dX12_pour_122 : decode cX12_pour 122 = .ok (.if_icmp .ge 58, 3) := dGR_23_c_687.2.2.2.2.2.2.2.2.2.1
theorem dX12_pour_125 : decode cX12_pour 125 = .ok (.iload_n 2, 1) := dGR_23_c_687.2.2.2.2.2.2.2.2.2.2.1
theorem dX12_pour_126 : decode cX12_pour 126 = .ok (.iload 4, 2) := dGR_23_c_687.2.2.2.2.2.2.2.2.2.2.2
set_option maxRecDepth 100000 in
theorem dGR_23_c_688 : (decode cX12_pour 128 = .ok (.if_icmp .ge 13, 3)) ∧ (decode cX12_pour 131 = .ok (.iload 5, 2)) ∧ (decode cX12_pour 133 = .ok (.iconst 1, 1)) ∧ (decode cX12_pour 134 = .ok (.isub, 1)) ∧ (decode cX12_pour 135 = .ok (.iload 6, 2)) ∧ (decode cX12_pour 137 = .ok (.isub, 1)) ∧ (decode cX12_pour 138 = .ok (.goto 5, 3)) ∧ (decode cX12_pour 141 = .ok (.iload 6, 2)) ∧ (decode cX12_pour 143 = .ok (.istore 7, 2)) ∧ (decode cX12_pour 145 = .ok (.aload_n 0, 1)) ∧ (decode cX12_pour 146 = .ok (.getfield 27, 3)) ∧ (decode cX12_pour 149 = .ok (.bipush 60, 2)) := by decide +kernel
theorem dX12_pour_128 : decode cX12_pour 128 = .ok (.if_icmp .ge 13, 3) := dGR_23_c_688.1
theorem dX12_pour_131 : decode cX12_pour 131 = .ok (.iload 5, 2) := dGR_23_c_688.2.1
theorem dX12_pour_133 : decode cX12_pour 133 = .ok (.iconst 1, 1) := dGR_23_c_688.2.2.1
theorem dX12_pour_134 : decode cX12_pour 134 = .ok (.isub, 1) := dGR_23_c_688.2.2.2.1
theorem dX12_pour_135 : decode cX12_pour 135 = .ok (.iload 6, 2) := dGR_23_c_688.2.2.2.2.1
theorem dX12_pour_137 : decode cX12_pour 137 = .ok (.isub, 1) := dGR_23_c_688.2.2.2.2.2.1
theorem dX12_pour_138 : decode cX12_pour 138 = .ok (.goto 5, 3) := dGR_23_c_688.2.2.2.2.2.2.1
theorem dX12_pour_141 : decode cX12_pour 141 = .ok (.iload 6, 2) := dGR_23_c_688.2.2.2.2.2.2.2.1
theorem dX12_pour_143 : decode cX12_pour 143 = .ok (.istore 7, 2) := dGR_23_c_688.2.2.2.2.2.2.2.2.1
theorem dX12_pour_145 : decode cX12_pour 145 = .ok (.aload_n 0, 1) := dGR_23_c_688.2.2.2.2.2.2.2.2.2.1
theorem dX12_pour_146 : decode cX12_pour 146 = .ok (.getfield 27, 3) := dGR_23_c_688.2.2.2.2.2.2.2.2.2.2.1
theorem dX12_pour_149 : decode cX12_pour 149 = .ok (.bipush 60, 2) := dGR_23_c_688.2.2.2.2.2.2.2.2.2.2.2
set_option maxRecDepth 100000 in
theorem dGR_23_c_689 : (decode cX12_pour 151 = .ok (.iload_n 3, 1)) ∧ (decode cX12_pour 152 = .ok (.imul, 1)) ∧ (decode cX12_pour 153 = .ok (.iload 4, 2)) ∧ (decode cX12_pour 155 = .ok (.iadd, 1)) ∧ (decode cX12_pour 156 = .ok (.iload 7, 2)) ∧ (decode cX12_pour 158 = .ok (.iadd, 1)) ∧ (decode cX12_pour 159 = .ok (.aload_n 0, 1)) ∧ (decode cX12_pour 160 = .ok (.getfield 27, 3)) ∧ (decode cX12_pour 163 = .ok (.bipush 60, 2)) ∧ (decode cX12_pour 165 = .ok (.iload_n 1, 1)) ∧ (decode cX12_pour 166 = .ok (.imul, 1)) ∧ (decode cX12_pour 167 = .ok (.iload_n 2, 1)) := by decide +kernel
theorem dX12_pour_151 : decode cX12_pour 151 = .ok (.iload_n 3, 1) := dGR_23_c_689.1
theorem dX12_pour_152 : decode cX12_pour 152 = .ok (.imul, 1) := dGR_23_c_689.2.1
theorem dX12_pour_153 : decode cX12_pour 153 = .ok (.iload 4, 2) := dGR_23_c_689.2.2.1
theorem dX12_pour_155 : decode cX12_pour 155 = .ok (.iadd, 1) := dGR_23_c_689.2.2.2.1
theorem dX12_pour_156 : decode cX12_pour 156 = .ok (.iload 7, 2) := dGR_23_c_689.2.2.2.2.1
theorem dX12_pour_158 : decode cX12_pour 158 = .ok (.iadd, 1) := dGR_23_c_689.2.2.2.2.2.1
theorem dX12_pour_159 : decode cX12_pour 159 = .ok (.aload_n 0, 1) := dGR_23_c_689.2.2.2.2.2.2.1
theorem dX12_pour_160 : decode cX12_pour 160 = .ok (.getfield 27, 3) := dGR_23_c_689.2.2.2.2.2.2.2.1
theorem dX12_pour_163 : decode cX12_pour 163 = .ok (.bipush 60, 2) := dGR_23_c_689.2.2.2.2.2.2.2.2.1
theorem dX12_pour_165 : decode cX12_pour 165 = .ok (.iload_n 1, 1) := dGR_23_c_689.2.2.2.2.2.2.2.2.2.1
theorem dX12_pour_166 : decode cX12_pour 166 = .ok (.imul, 1) := dGR_23_c_689.2.2.2.2.2.2.2.2.2.2.1
theorem dX12_pour_167 : decode cX12_pour 167 = .ok (.iload_n 2, 1) := dGR_23_c_689.2.2.2.2.2.2.2.2.2.2.2
set_option maxRecDepth 100000 in
theorem dGR_23_c_690 : (decode cX12_pour 168 = .ok (.iadd, 1)) ∧ (decode cX12_pour 169 = .ok (.iload 7, 2)) ∧ (decode cX12_pour 171 = .ok (.iadd, 1)) ∧ (decode cX12_pour 172 = .ok (.laload, 1)) ∧ (decode cX12_pour 173 = .ok (.lastore, 1)) ∧ (decode cX12_pour 174 = .ok (.iinc 6 1, 3)) ∧ (decode cX12_pour 177 = .ok (.goto (-59), 3)) ∧ (decode cX12_pour 180 = .ok (.aload_n 0, 1)) ∧ (decode cX12_pour 181 = .ok (.iconst 0, 1)) ∧ (decode cX12_pour 182 = .ok (.invokevirtual 130, 3)) ∧ (decode cX12_pour 185 = .ok (.ireturn, 1)) := by decide +kernel
theorem dX12_pour_168 : decode cX12_pour 168 = .ok (.iadd, 1) := dGR_23_c_690.1
theorem dX12_pour_169 : decode cX12_pour 169 = .ok (.iload 7, 2) := dGR_23_c_690.2.1
theorem dX12_pour_171 : decode cX12_pour 171 = .ok (.iadd, 1) := dGR_23_c_690.2.2.1
theorem dX12_pour_172 : decode cX12_pour 172 = .ok (.laload, 1) := dGR_23_c_690.2.2.2.1
theorem dX12_pour_173 : decode cX12_pour 173 = .ok (.lastore, 1) := dGR_23_c_690.2.2.2.2.1
theorem dX12_pour_174 : decode cX12_pour 174 = .ok (.iinc 6 1, 3) := dGR_23_c_690.2.2.2.2.2.1
theorem dX12_pour_177 : decode cX12_pour 177 = .ok (.goto (-59), 3) := dGR_23_c_690.2.2.2.2.2.2.1
theorem dX12_pour_180 : decode cX12_pour 180 = .ok (.aload_n 0, 1) := dGR_23_c_690.2.2.2.2.2.2.2.1
theorem dX12_pour_181 : decode cX12_pour 181 = .ok (.iconst 0, 1) := dGR_23_c_690.2.2.2.2.2.2.2.2.1
theorem dX12_pour_182 : decode cX12_pour 182 = .ok (.invokevirtual 130, 3) := dGR_23_c_690.2.2.2.2.2.2.2.2.2.1
theorem dX12_pour_185 : decode cX12_pour 185 = .ok (.ireturn, 1) := dGR_23_c_690.2.2.2.2.2.2.2.2.2.2
set_option maxRecDepth 100000 in
theorem dGR_23_c_691 : (decode cX12_isFrom 0 = .ok (.lload_n 0, 1)) ∧ (decode cX12_isFrom 1 = .ok (.lload_n 2, 1)) ∧ (decode cX12_isFrom 2 = .ok (.lcmp, 1)) ∧ (decode cX12_isFrom 3 = .ok (.ifCond .lt 14, 3)) ∧ (decode cX12_isFrom 6 = .ok (.lload_n 0, 1)) ∧ (decode cX12_isFrom 7 = .ok (.lload 4, 2)) ∧ (decode cX12_isFrom 9 = .ok (.lcmp, 1)) ∧ (decode cX12_isFrom 10 = .ok (.ifCond .gt 7, 3)) ∧ (decode cX12_isFrom 13 = .ok (.iconst 1, 1)) ∧ (decode cX12_isFrom 14 = .ok (.goto 4, 3)) ∧ (decode cX12_isFrom 17 = .ok (.iconst 0, 1)) ∧ (decode cX12_isFrom 18 = .ok (.ireturn, 1)) := by decide +kernel
theorem dX12_isFrom_0 : decode cX12_isFrom 0 = .ok (.lload_n 0, 1) := dGR_23_c_691.1
theorem dX12_isFrom_1 : decode cX12_isFrom 1 = .ok (.lload_n 2, 1) := dGR_23_c_691.2.1
theorem dX12_isFrom_2 : decode cX12_isFrom 2 = .ok (.lcmp, 1) := dGR_23_c_691.2.2.1
theorem dX12_isFrom_3 : decode cX12_isFrom 3 = .ok (.ifCond .lt 14, 3) := dGR_23_c_691.2.2.2.1
theorem dX12_isFrom_6 : decode cX12_isFrom 6 = .ok (.lload_n 0, 1) := dGR_23_c_691.2.2.2.2.1
theorem dX12_isFrom_7 : decode cX12_isFrom 7 = .ok (.lload 4, 2) := dGR_23_c_691.2.2.2.2.2.1
theorem dX12_isFrom_9 : decode cX12_isFrom 9 = .ok (.lcmp, 1) := dGR_23_c_691.2.2.2.2.2.2.1
theorem dX12_isFrom_10 : decode cX12_isFrom 10 = .ok (.ifCond .gt 7, 3) := dGR_23_c_691.2.2.2.2.2.2.2.1
theorem dX12_isFrom_13 : decode cX12_isFrom 13 = .ok (.iconst 1, 1) := dGR_23_c_691.2.2.2.2.2.2.2.2.1
theorem dX12_isFrom_14 : decode cX12_isFrom 14 = .ok (.goto 4, 3) := dGR_23_c_691.2.2.2.2.2.2.2.2.2.1
theorem dX12_isFrom_17 : decode cX12_isFrom 17 = .ok (.iconst 0, 1) := dGR_23_c_691.2.2.2.2.2.2.2.2.2.2.1
theorem dX12_isFrom_18 : decode cX12_isFrom 18 = .ok (.ireturn, 1) := dGR_23_c_691.2.2.2.2.2.2.2.2.2.2.2
set_option maxHeartbeats 4000000 in
set_option maxRecDepth 100000 in
theorem c_X12_isFrom (G : KG) (l : Launch) (M : Mem) (a0 : Int) (a1 : Int) (a2 : Int) (hI_M : Inv true M) (hpre : -9223372036854775808 ≤ a0 ∧ a0 ≤ 9223372036854775807 ∧ -9223372036854775808 ≤ a1 ∧ a1 ≤ 9223372036854775807 ∧ -9223372036854775808 ≤ a2 ∧ a2 ≤ 9223372036854775807) : KC true G l yX12_isFrom cX12_isFrom 6 (some .boolean) (0, 0) [vL a0, vL a1, vL a2] M (fun A => kQi true G A (fun (r : Int) (N : Mem) => M = N ∧ ((r = 1 ∧ a1 ≤ a0 ∧ a0 ≤ a2) ∨ (r = 0)))) := by
  refine kx_met (lo := [some (vL a0), none, some (vL a1), none, some (vL a2), none]) (by decide) (Nat.le_of_ble_eq_true rfl) rfl ?_
  intro X F hQ
  refine kx_lload_n 1 F 0 dX12_isFrom_0 rfl rfl rfl ?_
  refine kx_lload_n 2 F 2 dX12_isFrom_1 rfl rfl rfl ?_
  refine kx_lcmp 3 F dX12_isFrom_2 (by omega) (by omega) rfl (fun w_1 h_2 => ?_)
  refine kx_if_lt 6 F 17 dX12_isFrom_3 (by decide) rfl (by omega) (fun h_3 => ?_) (fun h_3 => ?_)
  · refine kx_iconst 18 F dX12_isFrom_17 rfl ?_
    exact kx_zret F hQ (by omega) ⟨rfl, (by omega)⟩ dX12_isFrom_18
  · refine kx_lload_n 7 F 0 dX12_isFrom_6 rfl rfl rfl ?_
    refine kx_lload 9 F 4 dX12_isFrom_7 rfl rfl ?_
    refine kx_lcmp 10 F dX12_isFrom_9 (by omega) (by omega) rfl (fun w_4 h_5 => ?_)
    refine kx_if_gt 13 F 17 dX12_isFrom_10 (by decide) rfl (by omega) (fun h_6 => ?_) (fun h_6 => ?_)
    · refine kx_iconst 18 F dX12_isFrom_17 rfl ?_
      exact kx_zret F hQ (by omega) ⟨rfl, (by omega)⟩ dX12_isFrom_18
    · refine kx_iconst 14 F dX12_isFrom_13 rfl ?_
      refine kx_goto 18 F dX12_isFrom_14 (by decide) ?_
      exact kx_zret F hQ (by omega) ⟨rfl, (by omega)⟩ dX12_isFrom_18
set_option maxRecDepth 100000 in
theorem dGR_23_c_692 : (decode cX12_four 0 = .ok (.bipush 24, 2)) ∧ (decode cX12_four 2 = .ok (.istore_n 2, 1)) ∧ (decode cX12_four 3 = .ok (.iload_n 2, 1)) ∧ (decode cX12_four 4 = .ok (.ifCond .lt 32, 3)) ∧ (decode cX12_four 7 = .ok (.aload_n 0, 1)) ∧ (decode cX12_four 8 = .ok (.getfield 30, 3)) ∧ (decode cX12_four 11 = .ok (.aload_n 0, 1)) ∧ (decode cX12_four 12 = .ok (.getfield 147, 3)) ∧ (decode cX12_four 15 = .ok (.iload_n 1, 1)) ∧ (decode cX12_four 16 = .ok (.iload_n 2, 1)) ∧ (decode cX12_four 17 = .ok (.ishr, 1)) ∧ (decode cX12_four 18 = .ok (.i2b, 1)) := by decide +kernel
theorem dX12_four_0 : decode cX12_four 0 = .ok (.bipush 24, 2) := dGR_23_c_692.1
theorem dX12_four_2 : decode cX12_four 2 = .ok (.istore_n 2, 1) := dGR_23_c_692.2.1
theorem dX12_four_3 : decode cX12_four 3 = .ok (.iload_n 2, 1) := dGR_23_c_692.2.2.1
theorem dX12_four_4 : decode cX12_four 4 = .ok (.ifCond .lt 32, 3) := dGR_23_c_692.2.2.2.1
theorem dX12_four_7 : decode cX12_four 7 = .ok (.aload_n 0, 1) := dGR_23_c_692.2.2.2.2.1
theorem dX12_four_8 : decode cX12_four 8 = .ok (.getfield 30, 3) := dGR_23_c_692.2.2.2.2.2.1
theorem dX12_four_11 : decode cX12_four 11 = .ok (.aload_n 0, 1) := dGR_23_c_692.2.2.2.2.2.2.1
theorem dX12_four_12 : decode cX12_four 12 = .ok (.getfield 147, 3) := dGR_23_c_692.2.2.2.2.2.2.2.1
theorem dX12_four_15 : decode cX12_four 15 = .ok (.iload_n 1, 1) := dGR_23_c_692.2.2.2.2.2.2.2.2.1
theorem dX12_four_16 : decode cX12_four 16 = .ok (.iload_n 2, 1) := dGR_23_c_692.2.2.2.2.2.2.2.2.2.1
theorem dX12_four_17 : decode cX12_four 17 = .ok (.ishr, 1) := dGR_23_c_692.2.2.2.2.2.2.2.2.2.2.1
theorem dX12_four_18 : decode cX12_four 18 = .ok (.i2b, 1) := dGR_23_c_692.2.2.2.2.2.2.2.2.2.2.2
set_option maxRecDepth 100000 in
theorem dGR_23_c_693 : (decode cX12_four 19 = .ok (.bastore, 1)) ∧ (decode cX12_four 20 = .ok (.aload_n 0, 1)) ∧ (decode cX12_four 21 = .ok (.dup, 1)) ∧ (decode cX12_four 22 = .ok (.getfield 147, 3)) ∧ (decode cX12_four 25 = .ok (.iconst 1, 1)) ∧ (decode cX12_four 26 = .ok (.iadd, 1)) ∧ (decode cX12_four 27 = .ok (.putfield 147, 3)) ∧ (decode cX12_four 30 = .ok (.iinc 2 (-8), 3)) ∧ (decode cX12_four 33 = .ok (.goto (-30), 3)) ∧ (decode cX12_four 36 = .ok (.return_, 1)) := by decide +kernel
theorem dX12_four_19 : decode cX12_four 19 = .ok (.bastore, 1) := dGR_23_c_693.1
theorem dX12_four_20 : decode cX12_four 20 = .ok (.aload_n 0, 1) := dGR_23_c_693.2.1
theorem dX12_four_21 : decode cX12_four 21 = .ok (.dup, 1) := dGR_23_c_693.2.2.1
theorem dX12_four_22 : decode cX12_four 22 = .ok (.getfield 147, 3) := dGR_23_c_693.2.2.2.1
theorem dX12_four_25 : decode cX12_four 25 = .ok (.iconst 1, 1) := dGR_23_c_693.2.2.2.2.1
theorem dX12_four_26 : decode cX12_four 26 = .ok (.iadd, 1) := dGR_23_c_693.2.2.2.2.2.1
theorem dX12_four_27 : decode cX12_four 27 = .ok (.putfield 147, 3) := dGR_23_c_693.2.2.2.2.2.2.1
theorem dX12_four_30 : decode cX12_four 30 = .ok (.iinc 2 (-8), 3) := dGR_23_c_693.2.2.2.2.2.2.2.1
theorem dX12_four_33 : decode cX12_four 33 = .ok (.goto (-30), 3) := dGR_23_c_693.2.2.2.2.2.2.2.2.1
theorem dX12_four_36 : decode cX12_four 36 = .ok (.return_, 1) := dGR_23_c_693.2.2.2.2.2.2.2.2.2
set_option maxRecDepth 100000 in
theorem dGR_23_c_694 : (decode cX12_feed 0 = .ok (.aload_n 0, 1)) ∧ (decode cX12_feed 1 = .ok (.getfield 147, 3)) ∧ (decode cX12_feed 4 = .ok (.bipush 20, 2)) ∧ (decode cX12_feed 6 = .ok (.iadd, 1)) ∧ (decode cX12_feed 7 = .ok (.sipush 900, 3)) ∧ (decode cX12_feed 10 = .ok (.if_icmp .le 5, 3)) ∧ (decode cX12_feed 13 = .ok (.iconst (-1), 1)) ∧ (decode cX12_feed 14 = .ok (.ireturn, 1)) ∧ (decode cX12_feed 15 = .ok (.aload_n 0, 1)) ∧ (decode cX12_feed 16 = .ok (.iload_n 1, 1)) ∧ (decode cX12_feed 17 = .ok (.invokevirtual 150, 3)) ∧ (decode cX12_feed 20 = .ok (.aload_n 0, 1)) := by decide +kernel
theorem dX12_feed_0 : decode cX12_feed 0 = .ok (.aload_n 0, 1) := dGR_23_c_694.1
theorem dX12_feed_1 : decode cX12_feed 1 = .ok (.getfield 147, 3) := dGR_23_c_694.2.1
theorem dX12_feed_4 : decode cX12_feed 4 = .ok (.bipush 20, 2) := dGR_23_c_694.2.2.1
theorem dX12_feed_6 : decode cX12_feed 6 = .ok (.iadd, 1) := dGR_23_c_694.2.2.2.1
theorem dX12_feed_7 : decode cX12_feed 7 = .ok (.sipush 900, 3) := dGR_23_c_694.2.2.2.2.1
theorem dX12_feed_10 : decode cX12_feed 10 = .ok (.if_icmp .le 5, 3) := dGR_23_c_694.2.2.2.2.2.1
theorem dX12_feed_13 : decode cX12_feed 13 = .ok (.iconst (-1), 1) := dGR_23_c_694.2.2.2.2.2.2.1
theorem dX12_feed_14 : decode cX12_feed 14 = .ok (.ireturn, 1) := dGR_23_c_694.2.2.2.2.2.2.2.1
theorem dX12_feed_15 : decode cX12_feed 15 = .ok (.aload_n 0, 1) := dGR_23_c_694.2.2.2.2.2.2.2.2.1
theorem dX12_feed_16 : decode cX12_feed 16 = .ok (.iload_n 1, 1) := dGR_23_c_694.2.2.2.2.2.2.2.2.2.1
theorem dX12_feed_17 : decode cX12_feed 17 = .ok (.invokevirtual 150, 3) := dGR_23_c_694.2.2.2.2.2.2.2.2.2.2.1
theorem dX12_feed_20 : decode cX12_feed 20 = .ok (.aload_n 0, 1) := dGR_23_c_694.2.2.2.2.2.2.2.2.2.2.2
set_option maxRecDepth 100000 in
theorem dGR_23_c_695 : (decode cX12_feed 21 = .ok (.iload_n 2, 1)) ∧ (decode cX12_feed 22 = .ok (.invokevirtual 150, 3)) ∧ (decode cX12_feed 25 = .ok (.aload_n 0, 1)) ∧ (decode cX12_feed 26 = .ok (.iload_n 3, 1)) ∧ (decode cX12_feed 27 = .ok (.invokevirtual 150, 3)) ∧ (decode cX12_feed 30 = .ok (.aload_n 0, 1)) ∧ (decode cX12_feed 31 = .ok (.iload 4, 2)) ∧ (decode cX12_feed 33 = .ok (.invokevirtual 150, 3)) ∧ (decode cX12_feed 36 = .ok (.aload_n 0, 1)) ∧ (decode cX12_feed 37 = .ok (.iload 5, 2)) ∧ (decode cX12_feed 39 = .ok (.invokevirtual 150, 3)) ∧ (decode cX12_feed 42 = .ok (.aload_n 0, 1)) := by decide +kernel
theorem dX12_feed_21 : decode cX12_feed 21 = .ok (.iload_n 2, 1) := dGR_23_c_695.1
theorem dX12_feed_22 : decode cX12_feed 22 = .ok (.invokevirtual 150, 3) := dGR_23_c_695.2.1
theorem dX12_feed_25 : decode cX12_feed 25 = .ok (.aload_n 0, 1) := dGR_23_c_695.2.2.1
theorem dX12_feed_26 : decode cX12_feed 26 = .ok (.iload_n 3, 1) := dGR_23_c_695.2.2.2.1
theorem dX12_feed_27 : decode cX12_feed 27 = .ok (.invokevirtual 150, 3) := dGR_23_c_695.2.2.2.2.1
theorem dX12_feed_30 : decode cX12_feed 30 = .ok (.aload_n 0, 1) := dGR_23_c_695.2.2.2.2.2.1
theorem dX12_feed_31 : decode cX12_feed 31 = .ok (.iload 4, 2) := dGR_23_c_695.2.2.2.2.2.2.1
theorem dX12_feed_33 : decode cX12_feed 33 = .ok (.invokevirtual 150, 3) := dGR_23_c_695.2.2.2.2.2.2.2.1
theorem dX12_feed_36 : decode cX12_feed 36 = .ok (.aload_n 0, 1) := dGR_23_c_695.2.2.2.2.2.2.2.2.1
theorem dX12_feed_37 : decode cX12_feed 37 = .ok (.iload 5, 2) := dGR_23_c_695.2.2.2.2.2.2.2.2.2.1
theorem dX12_feed_39 : decode cX12_feed 39 = .ok (.invokevirtual 150, 3) := dGR_23_c_695.2.2.2.2.2.2.2.2.2.2.1
theorem dX12_feed_42 : decode cX12_feed 42 = .ok (.aload_n 0, 1) := dGR_23_c_695.2.2.2.2.2.2.2.2.2.2.2
theorem dX12_feed_43 : decode cX12_feed 43 = .ok (.getfield 147, 3) := by decide +kernel
theorem dX12_feed_46 : decode cX12_feed 46 = .ok (.ireturn, 1) := by decide +kernel
set_option maxRecDepth 100000 in
theorem dGR_23_c_696 : (decode cX12_byteAt 0 = .ok (.iload_n 1, 1)) ∧ (decode cX12_byteAt 1 = .ok (.aload_n 0, 1)) ∧ (decode cX12_byteAt 2 = .ok (.getfield 153, 3)) ∧ (decode cX12_byteAt 5 = .ok (.if_icmp .ge 16, 3)) ∧ (decode cX12_byteAt 8 = .ok (.aload_n 0, 1)) ∧ (decode cX12_byteAt 9 = .ok (.getfield 34, 3)) ∧ (decode cX12_byteAt 12 = .ok (.iload_n 1, 1)) ∧ (decode cX12_byteAt 13 = .ok (.baload, 1)) ∧ (decode cX12_byteAt 14 = .ok (.sipush 255, 3)) ∧ (decode cX12_byteAt 17 = .ok (.iand, 1)) ∧ (decode cX12_byteAt 18 = .ok (.goto 4, 3)) ∧ (decode cX12_byteAt 21 = .ok (.iconst (-1), 1)) := by decide +kernel
theorem dX12_byteAt_0 : decode cX12_byteAt 0 = .ok (.iload_n 1, 1) := dGR_23_c_696.1
theorem dX12_byteAt_1 : decode cX12_byteAt 1 = .ok (.aload_n 0, 1) := dGR_23_c_696.2.1
theorem dX12_byteAt_2 : decode cX12_byteAt 2 = .ok (.getfield 153, 3) := dGR_23_c_696.2.2.1
theorem dX12_byteAt_5 : decode cX12_byteAt 5 = .ok (.if_icmp .ge 16, 3) := dGR_23_c_696.2.2.2.1
theorem dX12_byteAt_8 : decode cX12_byteAt 8 = .ok (.aload_n 0, 1) := dGR_23_c_696.2.2.2.2.1
theorem dX12_byteAt_9 : decode cX12_byteAt 9 = .ok (.getfield 34, 3) := dGR_23_c_696.2.2.2.2.2.1
theorem dX12_byteAt_12 : decode cX12_byteAt 12 = .ok (.iload_n 1, 1) := dGR_23_c_696.2.2.2.2.2.2.1
theorem dX12_byteAt_13 : decode cX12_byteAt 13 = .ok (.baload, 1) := dGR_23_c_696.2.2.2.2.2.2.2.1
theorem dX12_byteAt_14 : decode cX12_byteAt 14 = .ok (.sipush 255, 3) := dGR_23_c_696.2.2.2.2.2.2.2.2.1
theorem dX12_byteAt_17 : decode cX12_byteAt 17 = .ok (.iand, 1) := dGR_23_c_696.2.2.2.2.2.2.2.2.2.1
theorem dX12_byteAt_18 : decode cX12_byteAt 18 = .ok (.goto 4, 3) := dGR_23_c_696.2.2.2.2.2.2.2.2.2.2.1
theorem dX12_byteAt_21 : decode cX12_byteAt 21 = .ok (.iconst (-1), 1) := dGR_23_c_696.2.2.2.2.2.2.2.2.2.2.2
theorem dX12_byteAt_22 : decode cX12_byteAt 22 = .ok (.ireturn, 1) := by decide +kernel
set_option maxRecDepth 100000 in
theorem dGR_23_c_697 : (decode cX12_isSmall 0 = .ok (.iload_n 0, 1)) ∧ (decode cX12_isSmall 1 = .ok (.bipush 97, 2)) ∧ (decode cX12_isSmall 3 = .ok (.if_icmp .lt 13, 3)) ∧ (decode cX12_isSmall 6 = .ok (.iload_n 0, 1)) ∧ (decode cX12_isSmall 7 = .ok (.bipush 122, 2)) ∧ (decode cX12_isSmall 9 = .ok (.if_icmp .gt 7, 3)) ∧ (decode cX12_isSmall 12 = .ok (.iconst 1, 1)) ∧ (decode cX12_isSmall 13 = .ok (.goto 4, 3)) ∧ (decode cX12_isSmall 16 = .ok (.iconst 0, 1)) ∧ (decode cX12_isSmall 17 = .ok (.ireturn, 1)) := by decide +kernel
theorem dX12_isSmall_0 : decode cX12_isSmall 0 = .ok (.iload_n 0, 1) := dGR_23_c_697.1
theorem dX12_isSmall_1 : decode cX12_isSmall 1 = .ok (.bipush 97, 2) := dGR_23_c_697.2.1
theorem dX12_isSmall_3 : decode cX12_isSmall 3 = .ok (.if_icmp .lt 13, 3) := dGR_23_c_697.2.2.1
theorem dX12_isSmall_6 : decode cX12_isSmall 6 = .ok (.iload_n 0, 1) := dGR_23_c_697.2.2.2.1
theorem dX12_isSmall_7 : decode cX12_isSmall 7 = .ok (.bipush 122, 2) := dGR_23_c_697.2.2.2.2.1
theorem dX12_isSmall_9 : decode cX12_isSmall 9 = .ok (.if_icmp .gt 7, 3) := dGR_23_c_697.2.2.2.2.2.1
theorem dX12_isSmall_12 : decode cX12_isSmall 12 = .ok (.iconst 1, 1) := dGR_23_c_697.2.2.2.2.2.2.1
theorem dX12_isSmall_13 : decode cX12_isSmall 13 = .ok (.goto 4, 3) := dGR_23_c_697.2.2.2.2.2.2.2.1
theorem dX12_isSmall_16 : decode cX12_isSmall 16 = .ok (.iconst 0, 1) := dGR_23_c_697.2.2.2.2.2.2.2.2.1
theorem dX12_isSmall_17 : decode cX12_isSmall 17 = .ok (.ireturn, 1) := dGR_23_c_697.2.2.2.2.2.2.2.2.2
set_option maxHeartbeats 4000000 in
set_option maxRecDepth 100000 in
theorem c_X12_isSmall (G : KG) (l : Launch) (M : Mem) (a0 : Int) (hI_M : Inv true M) (hpre : -2147483648 ≤ a0 ∧ a0 ≤ 2147483647) : KC true G l yX12_isSmall cX12_isSmall 1 (some .boolean) (0, 0) [vI a0] M (fun A => kQi true G A (fun (r : Int) (N : Mem) => M = N ∧ ((r = 1 ∧ 97 ≤ a0 ∧ a0 ≤ 122) ∨ (r = 0 ∧ a0 ≤ 96) ∨ (r = 0 ∧ a0 ≥ 123)))) := by
  refine kx_met (lo := [some (vI a0)]) (by decide) (Nat.le_of_ble_eq_true rfl) rfl ?_
  intro X F hQ
  refine kx_iload_n 1 F 0 dX12_isSmall_0 rfl rfl rfl ?_
  refine kx_bipush 3 F dX12_isSmall_1 (by decide) rfl ?_
  refine kx_icmp_lt 6 F 16 dX12_isSmall_3 (by decide) rfl (by omega) (by decide) (fun h_1 => ?_) (fun h_1 => ?_)
  · refine kx_iconst 17 F dX12_isSmall_16 rfl ?_
    exact kx_zret F hQ (by omega) ⟨rfl, (by omega)⟩ dX12_isSmall_17
  · refine kx_iload_n 7 F 0 dX12_isSmall_6 rfl rfl rfl ?_
    refine kx_bipush 9 F dX12_isSmall_7 (by decide) rfl ?_
    refine kx_icmp_gt 12 F 16 dX12_isSmall_9 (by decide) rfl (by omega) (by decide) (fun h_2 => ?_) (fun h_2 => ?_)
    · refine kx_iconst 17 F dX12_isSmall_16 rfl ?_
      exact kx_zret F hQ (by omega) ⟨rfl, (by omega)⟩ dX12_isSmall_17
    · refine kx_iconst 13 F dX12_isSmall_12 rfl ?_
      refine kx_goto 17 F dX12_isSmall_13 (by decide) ?_
      exact kx_zret F hQ (by omega) ⟨rfl, (by omega)⟩ dX12_isSmall_17
set_option maxRecDepth 100000 in
theorem dGR_23_c_698 : (decode cX12_isDigit 0 = .ok (.iload_n 0, 1)) ∧ (decode cX12_isDigit 1 = .ok (.bipush 48, 2)) ∧ (decode cX12_isDigit 3 = .ok (.if_icmp .lt 13, 3)) ∧ (decode cX12_isDigit 6 = .ok (.iload_n 0, 1)) ∧ (decode cX12_isDigit 7 = .ok (.bipush 57, 2)) ∧ (decode cX12_isDigit 9 = .ok (.if_icmp .gt 7, 3)) ∧ (decode cX12_isDigit 12 = .ok (.iconst 1, 1)) ∧ (decode cX12_isDigit 13 = .ok (.goto 4, 3)) ∧ (decode cX12_isDigit 16 = .ok (.iconst 0, 1)) ∧ (decode cX12_isDigit 17 = .ok (.ireturn, 1)) := by decide +kernel
theorem dX12_isDigit_0 : decode cX12_isDigit 0 = .ok (.iload_n 0, 1) := dGR_23_c_698.1
theorem dX12_isDigit_1 : decode cX12_isDigit 1 = .ok (.bipush 48, 2) := dGR_23_c_698.2.1
theorem dX12_isDigit_3 : decode cX12_isDigit 3 = .ok (.if_icmp .lt 13, 3) := dGR_23_c_698.2.2.1
theorem dX12_isDigit_6 : decode cX12_isDigit 6 = .ok (.iload_n 0, 1) := dGR_23_c_698.2.2.2.1
theorem dX12_isDigit_7 : decode cX12_isDigit 7 = .ok (.bipush 57, 2) := dGR_23_c_698.2.2.2.2.1
theorem dX12_isDigit_9 : decode cX12_isDigit 9 = .ok (.if_icmp .gt 7, 3) := dGR_23_c_698.2.2.2.2.2.1
theorem dX12_isDigit_12 : decode cX12_isDigit 12 = .ok (.iconst 1, 1) := dGR_23_c_698.2.2.2.2.2.2.1
theorem dX12_isDigit_13 : decode cX12_isDigit 13 = .ok (.goto 4, 3) := dGR_23_c_698.2.2.2.2.2.2.2.1
theorem dX12_isDigit_16 : decode cX12_isDigit 16 = .ok (.iconst 0, 1) := dGR_23_c_698.2.2.2.2.2.2.2.2.1
theorem dX12_isDigit_17 : decode cX12_isDigit 17 = .ok (.ireturn, 1) := dGR_23_c_698.2.2.2.2.2.2.2.2.2
set_option maxHeartbeats 4000000 in
set_option maxRecDepth 100000 in
theorem c_X12_isDigit (G : KG) (l : Launch) (M : Mem) (a0 : Int) (hI_M : Inv true M) (hpre : -2147483648 ≤ a0 ∧ a0 ≤ 2147483647) : KC true G l yX12_isDigit cX12_isDigit 1 (some .boolean) (0, 0) [vI a0] M (fun A => kQi true G A (fun (r : Int) (N : Mem) => M = N ∧ ((r = 1 ∧ 48 ≤ a0 ∧ a0 ≤ 57) ∨ (r = 0 ∧ a0 ≤ 47) ∨ (r = 0 ∧ a0 ≥ 58)))) := by
  refine kx_met (lo := [some (vI a0)]) (by decide) (Nat.le_of_ble_eq_true rfl) rfl ?_
  intro X F hQ
  refine kx_iload_n 1 F 0 dX12_isDigit_0 rfl rfl rfl ?_
  refine kx_bipush 3 F dX12_isDigit_1 (by decide) rfl ?_
  refine kx_icmp_lt 6 F 16 dX12_isDigit_3 (by decide) rfl (by omega) (by decide) (fun h_1 => ?_) (fun h_1 => ?_)
  · refine kx_iconst 17 F dX12_isDigit_16 rfl ?_
    exact kx_zret F hQ (by omega) ⟨rfl, (by omega)⟩ dX12_isDigit_17
  · refine kx_iload_n 7 F 0 dX12_isDigit_6 rfl rfl rfl ?_
    refine kx_bipush 9 F dX12_isDigit_7 (by decide) rfl ?_
    refine kx_icmp_gt 12 F 16 dX12_isDigit_9 (by decide) rfl (by omega) (by decide) (fun h_2 => ?_) (fun h_2 => ?_)
    · refine kx_iconst 17 F dX12_isDigit_16 rfl ?_
      exact kx_zret F hQ (by omega) ⟨rfl, (by omega)⟩ dX12_isDigit_17
    · refine kx_iconst 13 F dX12_isDigit_12 rfl ?_
      refine kx_goto 17 F dX12_isDigit_13 (by decide) ?_
      exact kx_zret F hQ (by omega) ⟨rfl, (by omega)⟩ dX12_isDigit_17
set_option maxRecDepth 100000 in
theorem dGR_23_c_699 : (decode cX12_fault 0 = .ok (.iload_n 1, 1)) ∧ (decode cX12_fault 1 = .ok (.ifCond .ne 10, 3)) ∧ (decode cX12_fault 4 = .ok (.aload_n 0, 1)) ∧ (decode cX12_fault 5 = .ok (.getfield 37, 3)) ∧ (decode cX12_fault 8 = .ok (.goto 16, 3)) ∧ (decode cX12_fault 11 = .ok (.iload_n 1, 1)) ∧ (decode cX12_fault 12 = .ok (.iconst 1, 1)) ∧ (decode cX12_fault 13 = .ok (.if_icmp .ne 10, 3)) ∧ (decode cX12_fault 16 = .ok (.aload_n 0, 1)) ∧ (decode cX12_fault 17 = .ok (.getfield 41, 3)) ∧ (decode cX12_fault 20 = .ok (.goto 4, 3)) ∧ (decode cX12_fault 23 = .ok (.iconst (-1), 1)) := by decide +kernel
theorem dX12_fault_0 : decode cX12_fault 0 = .ok (.iload_n 1, 1) := dGR_23_c_699.1
theorem dX12_fault_1 : decode cX12_fault 1 = .ok (.ifCond .ne 10, 3) := dGR_23_c_699.2.1
theorem dX12_fault_4 : decode cX12_fault 4 = .ok (.aload_n 0, 1) := dGR_23_c_699.2.2.1
theorem dX12_fault_5 : decode cX12_fault 5 = .ok (.getfield 37, 3) := dGR_23_c_699.2.2.2.1
theorem dX12_fault_8 : decode cX12_fault 8 = .ok (.goto 16, 3) := dGR_23_c_699.2.2.2.2.1
theorem dX12_fault_11 : decode cX12_fault 11 = .ok (.iload_n 1, 1) := dGR_23_c_699.2.2.2.2.2.1
theorem dX12_fault_12 : decode cX12_fault 12 = .ok (.iconst 1, 1) := dGR_23_c_699.2.2.2.2.2.2.1
theorem dX12_fault_13 : decode cX12_fault 13 = .ok (.if_icmp .ne 10, 3) := dGR_23_c_699.2.2.2.2.2.2.2.1
theorem dX12_fault_16 : decode cX12_fault 16 = .ok (.aload_n 0, 1) := dGR_23_c_699.2.2.2.2.2.2.2.2.1
theorem dX12_fault_17 : decode cX12_fault 17 = .ok (.getfield 41, 3) := dGR_23_c_699.2.2.2.2.2.2.2.2.2.1
theorem dX12_fault_20 : decode cX12_fault 20 = .ok (.goto 4, 3) := dGR_23_c_699.2.2.2.2.2.2.2.2.2.2.1
theorem dX12_fault_23 : decode cX12_fault 23 = .ok (.iconst (-1), 1) := dGR_23_c_699.2.2.2.2.2.2.2.2.2.2.2
theorem dX12_fault_24 : decode cX12_fault 24 = .ok (.ireturn, 1) := by decide +kernel
set_option maxRecDepth 100000 in
theorem dGR_23_c_700 : (decode cX12_rowOf 0 = .ok (.iload_n 0, 1)) ∧ (decode cX12_rowOf 1 = .ok (.bipush 100, 2)) ∧ (decode cX12_rowOf 3 = .ok (.iadd, 1)) ∧ (decode cX12_rowOf 4 = .ok (.bipush 85, 2)) ∧ (decode cX12_rowOf 6 = .ok (.iload_n 1, 1)) ∧ (decode cX12_rowOf 7 = .ok (.imul, 1)) ∧ (decode cX12_rowOf 8 = .ok (.iadd, 1)) ∧ (decode cX12_rowOf 9 = .ok (.ireturn, 1)) := by decide +kernel
theorem dX12_rowOf_0 : decode cX12_rowOf 0 = .ok (.iload_n 0, 1) := dGR_23_c_700.1
theorem dX12_rowOf_1 : decode cX12_rowOf 1 = .ok (.bipush 100, 2) := dGR_23_c_700.2.1
theorem dX12_rowOf_3 : decode cX12_rowOf 3 = .ok (.iadd, 1) := dGR_23_c_700.2.2.1
theorem dX12_rowOf_4 : decode cX12_rowOf 4 = .ok (.bipush 85, 2) := dGR_23_c_700.2.2.2.1
theorem dX12_rowOf_6 : decode cX12_rowOf 6 = .ok (.iload_n 1, 1) := dGR_23_c_700.2.2.2.2.1
theorem dX12_rowOf_7 : decode cX12_rowOf 7 = .ok (.imul, 1) := dGR_23_c_700.2.2.2.2.2.1
theorem dX12_rowOf_8 : decode cX12_rowOf 8 = .ok (.iadd, 1) := dGR_23_c_700.2.2.2.2.2.2.1
theorem dX12_rowOf_9 : decode cX12_rowOf 9 = .ok (.ireturn, 1) := dGR_23_c_700.2.2.2.2.2.2.2
set_option maxHeartbeats 4000000 in
set_option maxRecDepth 100000 in
theorem c_X12_rowOf (G : KG) (l : Launch) (M : Mem) (a0 : Int) (a1 : Int) (hI_M : Inv true M) (hpre : -2147483648 ≤ a0 ∧ a0 ≤ 2147483647 ∧ -2147483648 ≤ a1 ∧ a1 ≤ 2147483647 ∧ 0 ≤ a0 ∧ a0 ≤ 1088 ∧ 0 ≤ a1 ∧ a1 ≤ 2) : KC true G l yX12_rowOf cX12_rowOf 2 (some .int) (0, 0) [vI a0, vI a1] M (fun A => kQi true G A (fun (r : Int) (N : Mem) => M = N ∧ (r = a0 + 85 * a1 + 100))) := by
  refine kx_met (lo := [some (vI a0), some (vI a1)]) (by decide) (Nat.le_of_ble_eq_true rfl) rfl ?_
  intro X F hQ
  refine kx_iload_n 1 F 0 dX12_rowOf_0 rfl rfl rfl ?_
  refine kx_bipush 3 F dX12_rowOf_1 (by decide) rfl ?_
  refine kx_iadd 4 F (v := a0 + 100) dX12_rowOf_3 rfl rfl ?_
  refine kx_bipush 6 F dX12_rowOf_4 (by decide) rfl ?_
  refine kx_iload_n 7 F 1 dX12_rowOf_6 rfl rfl rfl ?_
  refine kx_imul 8 F (v := 85 * a1) dX12_rowOf_7 (by omega) rfl ?_
  refine kx_iadd 9 F (v := a0 + 85 * a1 + 100) dX12_rowOf_8 (by omega) rfl ?_
  exact kx_iret F hQ ⟨rfl, (by omega)⟩ dX12_rowOf_9
set_option maxRecDepth 100000 in
theorem dGR_23_c_701 : (decode cX12_ruleRow 0 = .ok (.iload_n 0, 1)) ∧ (decode cX12_ruleRow 1 = .ok (.iload_n 1, 1)) ∧ (decode cX12_ruleRow 2 = .ok (.invokestatic 216, 3)) ∧ (decode cX12_ruleRow 5 = .ok (.iconst 5, 1)) ∧ (decode cX12_ruleRow 6 = .ok (.iadd, 1)) ∧ (decode cX12_ruleRow 7 = .ok (.iconst 4, 1)) ∧ (decode cX12_ruleRow 8 = .ok (.iload_n 2, 1)) ∧ (decode cX12_ruleRow 9 = .ok (.imul, 1)) ∧ (decode cX12_ruleRow 10 = .ok (.iadd, 1)) ∧ (decode cX12_ruleRow 11 = .ok (.ireturn, 1)) := by decide +kernel
theorem dX12_ruleRow_0 : decode cX12_ruleRow 0 = .ok (.iload_n 0, 1) := dGR_23_c_701.1
theorem dX12_ruleRow_1 : decode cX12_ruleRow 1 = .ok (.iload_n 1, 1) := dGR_23_c_701.2.1
theorem dX12_ruleRow_2 : decode cX12_ruleRow 2 = .ok (.invokestatic 216, 3) := dGR_23_c_701.2.2.1
theorem dX12_ruleRow_5 : decode cX12_ruleRow 5 = .ok (.iconst 5, 1) := dGR_23_c_701.2.2.2.1
theorem dX12_ruleRow_6 : decode cX12_ruleRow 6 = .ok (.iadd, 1) := dGR_23_c_701.2.2.2.2.1
theorem dX12_ruleRow_7 : decode cX12_ruleRow 7 = .ok (.iconst 4, 1) := dGR_23_c_701.2.2.2.2.2.1
theorem dX12_ruleRow_8 : decode cX12_ruleRow 8 = .ok (.iload_n 2, 1) := dGR_23_c_701.2.2.2.2.2.2.1
theorem dX12_ruleRow_9 : decode cX12_ruleRow 9 = .ok (.imul, 1) := dGR_23_c_701.2.2.2.2.2.2.2.1
theorem dX12_ruleRow_10 : decode cX12_ruleRow 10 = .ok (.iadd, 1) := dGR_23_c_701.2.2.2.2.2.2.2.2.1
theorem dX12_ruleRow_11 : decode cX12_ruleRow 11 = .ok (.ireturn, 1) := dGR_23_c_701.2.2.2.2.2.2.2.2.2
set_option maxHeartbeats 4000000 in
set_option maxRecDepth 100000 in
theorem c_X12_ruleRow (G : KG) (l : Launch) (M : Mem) (a0 : Int) (a1 : Int) (a2 : Int) (hI_M : Inv true M) (hpre : -2147483648 ≤ a0 ∧ a0 ≤ 2147483647 ∧ -2147483648 ≤ a1 ∧ a1 ≤ 2147483647 ∧ -2147483648 ≤ a2 ∧ a2 ≤ 2147483647 ∧ 0 ≤ a0 ∧ a0 ≤ 1088 ∧ 0 ≤ a1 ∧ a1 ≤ 2 ∧ 0 ≤ a2 ∧ a2 ≤ 20) : KC true G l yX12_ruleRow cX12_ruleRow 3 (some .int) (1, 21) [vI a0, vI a1, vI a2] M (fun A => kQi true G A (fun (r : Int) (N : Mem) => M = N ∧ (r = a0 + 85 * a1 + 4 * a2 + 105))) := by
  refine kx_met (lo := [some (vI a0), some (vI a1), some (vI a2)]) (by decide) (Nat.le_of_ble_eq_true rfl) rfl ?_
  intro X F hQ
  refine kx_iload_n 1 F 0 dX12_ruleRow_0 rfl rfl rfl ?_
  refine kx_iload_n 2 F 1 dX12_ruleRow_1 rfl rfl rfl ?_
  refine kx_Si 5 F (As := [vI a0, vI a1]) (st := []) sd_X12_216 (c_X12_rowOf G l M a0 a1 hI_M (by omega)) ⟨by decide, by decide⟩ rfl rfl (Nat.le_of_ble_eq_true rfl) dX12_ruleRow_2 rfl ?_
  intro r_1 N_2 q_3
  obtain ⟨rfl, q_3c⟩ := q_3
  refine kx_topi (e' := a0 + 85 * a1 + 100) (by omega) ?_
  refine kx_iconst 6 F dX12_ruleRow_5 rfl ?_
  refine kx_iadd 7 F (v := a0 + 85 * a1 + 105) dX12_ruleRow_6 (by omega) rfl ?_
  refine kx_iconst 8 F dX12_ruleRow_7 rfl ?_
  refine kx_iload_n 9 F 2 dX12_ruleRow_8 rfl rfl rfl ?_
  refine kx_imul 10 F (v := 4 * a2) dX12_ruleRow_9 (by omega) rfl ?_
  refine kx_iadd 11 F (v := a0 + 85 * a1 + 4 * a2 + 105) dX12_ruleRow_10 (by omega) rfl ?_
  exact kx_iret F hQ ⟨rfl, (by omega)⟩ dX12_ruleRow_11
set_option maxRecDepth 100000 in
theorem dGR_23_c_702 : (decode cX12_isIn 0 = .ok (.iload_n 1, 1)) ∧ (decode cX12_isIn 1 = .ok (.iload_n 2, 1)) ∧ (decode cX12_isIn 2 = .ok (.ishr, 1)) ∧ (decode cX12_isIn 3 = .ok (.iconst 1, 1)) ∧ (decode cX12_isIn 4 = .ok (.iand, 1)) ∧ (decode cX12_isIn 5 = .ok (.iconst 1, 1)) ∧ (decode cX12_isIn 6 = .ok (.if_icmp .ne 7, 3)) ∧ (decode cX12_isIn 9 = .ok (.iconst 1, 1)) ∧ (decode cX12_isIn 10 = .ok (.goto 4, 3)) ∧ (decode cX12_isIn 13 = .ok (.iconst 0, 1)) ∧ (decode cX12_isIn 14 = .ok (.ireturn, 1)) := by decide +kernel
theorem dX12_isIn_0 : decode cX12_isIn 0 = .ok (.iload_n 1, 1) := dGR_23_c_702.1
theorem dX12_isIn_1 : decode cX12_isIn 1 = .ok (.iload_n 2, 1) := dGR_23_c_702.2.1
theorem dX12_isIn_2 : decode cX12_isIn 2 = .ok (.ishr, 1) := dGR_23_c_702.2.2.1
theorem dX12_isIn_3 : decode cX12_isIn 3 = .ok (.iconst 1, 1) := dGR_23_c_702.2.2.2.1
theorem dX12_isIn_4 : decode cX12_isIn 4 = .ok (.iand, 1) := dGR_23_c_702.2.2.2.2.1
theorem dX12_isIn_5 : decode cX12_isIn 5 = .ok (.iconst 1, 1) := dGR_23_c_702.2.2.2.2.2.1
theorem dX12_isIn_6 : decode cX12_isIn 6 = .ok (.if_icmp .ne 7, 3) := dGR_23_c_702.2.2.2.2.2.2.1
theorem dX12_isIn_9 : decode cX12_isIn 9 = .ok (.iconst 1, 1) := dGR_23_c_702.2.2.2.2.2.2.2.1
theorem dX12_isIn_10 : decode cX12_isIn 10 = .ok (.goto 4, 3) := dGR_23_c_702.2.2.2.2.2.2.2.2.1
theorem dX12_isIn_13 : decode cX12_isIn 13 = .ok (.iconst 0, 1) := dGR_23_c_702.2.2.2.2.2.2.2.2.2.1
theorem dX12_isIn_14 : decode cX12_isIn 14 = .ok (.ireturn, 1) := dGR_23_c_702.2.2.2.2.2.2.2.2.2.2
set_option maxHeartbeats 4000000 in
set_option maxRecDepth 100000 in
theorem c_X12_isIn (G : KG) (l : Launch) (M : Mem) (a1 : Int) (a2 : Int) (hI_M : Inv true M) (hpre : -2147483648 ≤ a1 ∧ a1 ≤ 2147483647 ∧ -2147483648 ≤ a2 ∧ a2 ≤ 2147483647) : KC true G l yX12_isIn cX12_isIn 3 (some .boolean) (0, 0) [vR G 163, vI a1, vI a2] M (fun A => kQi true G A (fun (r : Int) (N : Mem) => M = N ∧ (0 ≤ r ∧ r ≤ 1))) := by
  refine kx_met (lo := [some (vR G 163), some (vI a1), some (vI a2)]) (by decide) (Nat.le_of_ble_eq_true rfl) rfl ?_
  intro X F hQ
  refine kx_iload_n 1 F 1 dX12_isIn_0 rfl rfl rfl ?_
  refine kx_iload_n 2 F 2 dX12_isIn_1 rfl rfl rfl ?_
  refine kx_ishr 3 F (v := (zshr a1 a2)) dX12_isIn_2 rfl rfl ?_
  have h_1 := zshr_rng a1 a2
  refine kx_iconst 4 F dX12_isIn_3 rfl ?_
  refine kx_iand 5 F (v := (zand (zshr a1 a2) 1)) dX12_isIn_4 rfl rfl ?_
  have h_2 := zand_r (a := (zshr a1 a2)) (b := 1) (by omega)
  refine kx_iconst 6 F dX12_isIn_5 rfl ?_
  refine kx_icmp_ne 9 F 13 dX12_isIn_6 (by decide) rfl (by omega) (by decide) (fun h_3 => ?_) (fun h_3 => ?_)
  · refine kx_iconst 14 F dX12_isIn_13 rfl ?_
    exact kx_zret F hQ (by omega) ⟨rfl, (by omega)⟩ dX12_isIn_14
  · refine kx_iconst 10 F dX12_isIn_9 rfl ?_
    refine kx_goto 14 F dX12_isIn_10 (by decide) ?_
    exact kx_zret F hQ (by omega) ⟨rfl, (by omega)⟩ dX12_isIn_14
set_option maxRecDepth 100000 in
theorem dGR_23_c_703 : (decode cX12_isAutomaton 0 = .ok (.iload_n 1, 1)) ∧ (decode cX12_isAutomaton 1 = .ok (.ifCond .lt 17, 3)) ∧ (decode cX12_isAutomaton 4 = .ok (.iload_n 1, 1)) ∧ (decode cX12_isAutomaton 5 = .ok (.aload_n 0, 1)) ∧ (decode cX12_isAutomaton 6 = .ok (.getfield 7, 3)) ∧ (decode cX12_isAutomaton 9 = .ok (.iconst 3, 1)) ∧ (decode cX12_isAutomaton 10 = .ok (.iaload, 1)) ∧ (decode cX12_isAutomaton 11 = .ok (.if_icmp .ge 7, 3)) ∧ (decode cX12_isAutomaton 14 = .ok (.iconst 1, 1)) ∧ (decode cX12_isAutomaton 15 = .ok (.goto 4, 3)) ∧ (decode cX12_isAutomaton 18 = .ok (.iconst 0, 1)) ∧ (decode cX12_isAutomaton 19 = .ok (.ireturn, 1)) := by decide +kernel
theorem dX12_isAutomaton_0 : decode cX12_isAutomaton 0 = .ok (.iload_n 1, 1) := dGR_23_c_703.1
theorem dX12_isAutomaton_1 : decode cX12_isAutomaton 1 = .ok (.ifCond .lt 17, 3) := dGR_23_c_703.2.1
theorem dX12_isAutomaton_4 : decode cX12_isAutomaton 4 = .ok (.iload_n 1, 1) := dGR_23_c_703.2.2.1
theorem dX12_isAutomaton_5 : decode cX12_isAutomaton 5 = .ok (.aload_n 0, 1) := dGR_23_c_703.2.2.2.1
theorem dX12_isAutomaton_6 : decode cX12_isAutomaton 6 = .ok (.getfield 7, 3) := dGR_23_c_703.2.2.2.2.1
theorem dX12_isAutomaton_9 : decode cX12_isAutomaton 9 = .ok (.iconst 3, 1) := dGR_23_c_703.2.2.2.2.2.1
theorem dX12_isAutomaton_10 : decode cX12_isAutomaton 10 = .ok (.iaload, 1) := dGR_23_c_703.2.2.2.2.2.2.1
theorem dX12_isAutomaton_11 : decode cX12_isAutomaton 11 = .ok (.if_icmp .ge 7, 3) := dGR_23_c_703.2.2.2.2.2.2.2.1
theorem dX12_isAutomaton_14 : decode cX12_isAutomaton 14 = .ok (.iconst 1, 1) := dGR_23_c_703.2.2.2.2.2.2.2.2.1
theorem dX12_isAutomaton_15 : decode cX12_isAutomaton 15 = .ok (.goto 4, 3) := dGR_23_c_703.2.2.2.2.2.2.2.2.2.1
theorem dX12_isAutomaton_18 : decode cX12_isAutomaton 18 = .ok (.iconst 0, 1) := dGR_23_c_703.2.2.2.2.2.2.2.2.2.2.1
theorem dX12_isAutomaton_19 : decode cX12_isAutomaton 19 = .ok (.ireturn, 1) := dGR_23_c_703.2.2.2.2.2.2.2.2.2.2.2
set_option maxHeartbeats 4000000 in
set_option maxRecDepth 100000 in
theorem c_X12_isAutomaton (G : KG) (l : Launch) (M : Mem) (a1 : Int) (hI_M : Inv true M) (hpre : -2147483648 ≤ a1 ∧ a1 ≤ 2147483647) : KC true G l yX12_isAutomaton cX12_isAutomaton 2 (some .boolean) (0, 0) [vR G 163, vI a1] M (fun A => kQi true G A (fun (r : Int) (N : Mem) => M = N ∧ ((r = 1 ∧ 0 ≤ a1 ∧ a1 ≤ 1) ∨ (r = 0)))) := by
  refine kx_met (lo := [some (vR G 163), some (vI a1)]) (by decide) (Nat.le_of_ble_eq_true rfl) rfl ?_
  intro X F hQ
  refine kx_iload_n 1 F 1 dX12_isAutomaton_0 rfl rfl rfl ?_
  refine kx_if_lt 4 F 18 dX12_isAutomaton_1 (by decide) rfl (by omega) (fun h_1 => ?_) (fun h_1 => ?_)
  · refine kx_iconst 19 F dX12_isAutomaton_18 rfl ?_
    exact kx_zret F hQ (by omega) ⟨rfl, (by omega)⟩ dX12_isAutomaton_19
  · refine kx_iload_n 5 F 1 dX12_isAutomaton_4 rfl rfl rfl ?_
    refine kx_aload_n 6 F 0 dX12_isAutomaton_5 rfl rfl rfl ?_
    refine kx_getr 9 F fl_X12_7 kd_163 rfl rfl (j := 0) rfl dX12_isAutomaton_6 (v := 164) (uq_164 (Inv.r hI_M kd_163 rfl 0 rfl rfl)) rfl ?_
    refine kx_iconst 10 F dX12_isAutomaton_9 rfl ?_
    refine kx_iald 11 F kd_164 rfl rfl (by omega) (by decide) dX12_isAutomaton_10 (v := (M 164 3)) rfl rfl ?_
    have ha_2 : atlo 3 = 0 ∧ athi 3 = 2 := at_c 3 0 (o := 3) (lo := 0) (hi := 2) (by omega) (by decide) (by decide) (by decide)
    have h_3 := Inv.g hI_M kd_164 rfl 3 (a := 0) (b := 2) ha_2.1 ha_2.2
    refine kx_icmp_ge 14 F 18 dX12_isAutomaton_11 (by decide) rfl (by omega) (by omega) (fun h_4 => ?_) (fun h_4 => ?_)
    · refine kx_iconst 19 F dX12_isAutomaton_18 rfl ?_
      exact kx_zret F hQ (by omega) ⟨rfl, (by omega)⟩ dX12_isAutomaton_19
    · refine kx_iconst 15 F dX12_isAutomaton_14 rfl ?_
      refine kx_goto 19 F dX12_isAutomaton_15 (by decide) ?_
      exact kx_zret F hQ (by omega) ⟨rfl, (by omega)⟩ dX12_isAutomaton_19
set_option maxRecDepth 100000 in
theorem dGR_23_c_704 : (decode cX12_areTwo 0 = .ok (.aload_n 0, 1)) ∧ (decode cX12_areTwo 1 = .ok (.iload_n 1, 1)) ∧ (decode cX12_areTwo 2 = .ok (.invokevirtual 282, 3)) ∧ (decode cX12_areTwo 5 = .ok (.ifCond .eq 20, 3)) ∧ (decode cX12_areTwo 8 = .ok (.aload_n 0, 1)) ∧ (decode cX12_areTwo 9 = .ok (.iload_n 2, 1)) ∧ (decode cX12_areTwo 10 = .ok (.invokevirtual 282, 3)) ∧ (decode cX12_areTwo 13 = .ok (.ifCond .eq 12, 3)) ∧ (decode cX12_areTwo 16 = .ok (.iload_n 1, 1)) ∧ (decode cX12_areTwo 17 = .ok (.iload_n 2, 1)) ∧ (decode cX12_areTwo 18 = .ok (.if_icmp .eq 7, 3)) ∧ (decode cX12_areTwo 21 = .ok (.iconst 1, 1)) := by decide +kernel
theorem dX12_areTwo_0 : decode cX12_areTwo 0 = .ok (.aload_n 0, 1) := dGR_23_c_704.1
theorem dX12_areTwo_1 : decode cX12_areTwo 1 = .ok (.iload_n 1, 1) := dGR_23_c_704.2.1
theorem dX12_areTwo_2 : decode cX12_areTwo 2 = .ok (.invokevirtual 282, 3) := dGR_23_c_704.2.2.1
theorem dX12_areTwo_5 : decode cX12_areTwo 5 = .ok (.ifCond .eq 20, 3) := dGR_23_c_704.2.2.2.1
theorem dX12_areTwo_8 : decode cX12_areTwo 8 = .ok (.aload_n 0, 1) := dGR_23_c_704.2.2.2.2.1
theorem dX12_areTwo_9 : decode cX12_areTwo 9 = .ok (.iload_n 2, 1) := dGR_23_c_704.2.2.2.2.2.1
theorem dX12_areTwo_10 : decode cX12_areTwo 10 = .ok (.invokevirtual 282, 3) := dGR_23_c_704.2.2.2.2.2.2.1
theorem dX12_areTwo_13 : decode cX12_areTwo 13 = .ok (.ifCond .eq 12, 3) := dGR_23_c_704.2.2.2.2.2.2.2.1
theorem dX12_areTwo_16 : decode cX12_areTwo 16 = .ok (.iload_n 1, 1) := dGR_23_c_704.2.2.2.2.2.2.2.2.1
theorem dX12_areTwo_17 : decode cX12_areTwo 17 = .ok (.iload_n 2, 1) := dGR_23_c_704.2.2.2.2.2.2.2.2.2.1
theorem dX12_areTwo_18 : decode cX12_areTwo 18 = .ok (.if_icmp .eq 7, 3) := dGR_23_c_704.2.2.2.2.2.2.2.2.2.2.1
theorem dX12_areTwo_21 : decode cX12_areTwo 21 = .ok (.iconst 1, 1) := dGR_23_c_704.2.2.2.2.2.2.2.2.2.2.2
set_option maxRecDepth 100000 in
theorem dGR_23_c_705 : (decode cX12_areTwo 22 = .ok (.goto 4, 3)) ∧ (decode cX12_areTwo 25 = .ok (.iconst 0, 1)) ∧ (decode cX12_areTwo 26 = .ok (.ireturn, 1)) := by decide +kernel
theorem dX12_areTwo_22 : decode cX12_areTwo 22 = .ok (.goto 4, 3) := dGR_23_c_705.1
theorem dX12_areTwo_25 : decode cX12_areTwo 25 = .ok (.iconst 0, 1) := dGR_23_c_705.2.1
theorem dX12_areTwo_26 : decode cX12_areTwo 26 = .ok (.ireturn, 1) := dGR_23_c_705.2.2
set_option maxHeartbeats 4000000 in
set_option maxRecDepth 100000 in
theorem c_X12_areTwo (G : KG) (l : Launch) (M : Mem) (a1 : Int) (a2 : Int) (hI_M : Inv true M) (hpre : -2147483648 ≤ a1 ∧ a1 ≤ 2147483647 ∧ -2147483648 ≤ a2 ∧ a2 ≤ 2147483647) : KC true G l yX12_areTwo cX12_areTwo 3 (some .boolean) (1, 21) [vR G 163, vI a1, vI a2] M (fun A => kQi true G A (fun (r : Int) (N : Mem) => M = N ∧ ((r = 1 ∧ 0 ≤ a1 ∧ a1 ≤ 1 ∧ 0 ≤ a2 ∧ a2 ≤ 1 ∧ a1 ≠ a2) ∨ (r = 0)))) := by
  refine kx_met (lo := [some (vR G 163), some (vI a1), some (vI a2)]) (by decide) (Nat.le_of_ble_eq_true rfl) rfl ?_
  intro X F hQ
  refine kx_aload_n 1 F 0 dX12_areTwo_0 rfl rfl rfl ?_
  refine kx_iload_n 2 F 1 dX12_areTwo_1 rfl rfl rfl ?_
  refine kx_Vi 5 (ci := 0) F (As := [vI a1]) (st := []) vd_X12_282 (c_X12_isAutomaton G l M a1 hI_M (by omega)) kd_163 rfl rfl rfl ⟨by decide, by decide⟩ rfl rfl (Nat.le_of_ble_eq_true rfl) dX12_areTwo_2 rfl ?_
  intro r_1 N_2 q_3
  obtain ⟨rfl, q_3c⟩ := q_3
  rcases q_3c with q_3c | q_3c
  · refine kx_if_eq 8 F 25 dX12_areTwo_5 (by decide) rfl (by omega) (fun h_4 => (by exfalso; omega)) (fun h_4 => ?_)
    refine kx_aload_n 9 F 0 dX12_areTwo_8 rfl rfl rfl ?_
    refine kx_iload_n 10 F 2 dX12_areTwo_9 rfl rfl rfl ?_
    refine kx_Vi 13 (ci := 0) F (As := [vI a2]) (st := []) vd_X12_282 (c_X12_isAutomaton G l M a2 hI_M (by omega)) kd_163 rfl rfl rfl ⟨by decide, by decide⟩ rfl rfl (Nat.le_of_ble_eq_true rfl) dX12_areTwo_10 rfl ?_
    intro r_5 N_6 q_7
    obtain ⟨rfl, q_7c⟩ := q_7
    rcases q_7c with q_7c | q_7c
    · refine kx_if_eq 16 F 25 dX12_areTwo_13 (by decide) rfl (by omega) (fun h_8 => (by exfalso; omega)) (fun h_8 => ?_)
      refine kx_iload_n 17 F 1 dX12_areTwo_16 rfl rfl rfl ?_
      refine kx_iload_n 18 F 2 dX12_areTwo_17 rfl rfl rfl ?_
      refine kx_icmp_eq 21 F 25 dX12_areTwo_18 (by decide) rfl (by omega) (by omega) (fun h_9 => ?_) (fun h_9 => ?_)
      · refine kx_iconst 26 F dX12_areTwo_25 rfl ?_
        exact kx_zret F hQ (by omega) ⟨rfl, (by omega)⟩ dX12_areTwo_26
      · refine kx_iconst 22 F dX12_areTwo_21 rfl ?_
        refine kx_goto 26 F dX12_areTwo_22 (by decide) ?_
        exact kx_zret F hQ (by omega) ⟨rfl, (by omega)⟩ dX12_areTwo_26
    · refine kx_if_eq 16 F 25 dX12_areTwo_13 (by decide) rfl (by omega) (fun h_10 => ?_) (fun h_10 => (by exfalso; omega))
      refine kx_iconst 26 F dX12_areTwo_25 rfl ?_
      exact kx_zret F hQ (by omega) ⟨rfl, (by omega)⟩ dX12_areTwo_26
  · refine kx_if_eq 8 F 25 dX12_areTwo_5 (by decide) rfl (by omega) (fun h_11 => ?_) (fun h_11 => (by exfalso; omega))
    refine kx_iconst 26 F dX12_areTwo_25 rfl ?_
    exact kx_zret F hQ (by omega) ⟨rfl, (by omega)⟩ dX12_areTwo_26
set_option maxRecDepth 100000 in
theorem dGR_23_c_706 : (decode cX12_letters 0 = .ok (.aload_n 0, 1)) ∧ (decode cX12_letters 1 = .ok (.getfield 7, 3)) ∧ (decode cX12_letters 4 = .ok (.iconst 0, 1)) ∧ (decode cX12_letters 5 = .ok (.iaload, 1)) ∧ (decode cX12_letters 6 = .ok (.aload_n 0, 1)) ∧ (decode cX12_letters 7 = .ok (.getfield 7, 3)) ∧ (decode cX12_letters 10 = .ok (.iconst 1, 1)) ∧ (decode cX12_letters 11 = .ok (.iaload, 1)) ∧ (decode cX12_letters 12 = .ok (.iadd, 1)) ∧ (decode cX12_letters 13 = .ok (.aload_n 0, 1)) ∧ (decode cX12_letters 14 = .ok (.getfield 7, 3)) ∧ (decode cX12_letters 17 = .ok (.iconst 2, 1)) := by decide +kernel
theorem dX12_letters_0 : decode cX12_letters 0 = .ok (.aload_n 0, 1) := dGR_23_c_706.1
theorem dX12_letters_1 : decode cX12_letters 1 = .ok (.getfield 7, 3) := dGR_23_c_706.2.1
theorem dX12_letters_4 : decode cX12_letters 4 = .ok (.iconst 0, 1) := dGR_23_c_706.2.2.1
theorem dX12_letters_5 : decode cX12_letters 5 = .ok (.iaload, 1) := dGR_23_c_706.2.2.2.1
theorem dX12_letters_6 : decode cX12_letters 6 = .ok (.aload_n 0, 1) := dGR_23_c_706.2.2.2.2.1
theorem dX12_letters_7 : decode cX12_letters 7 = .ok (.getfield 7, 3) := dGR_23_c_706.2.2.2.2.2.1
theorem dX12_letters_10 : decode cX12_letters 10 = .ok (.iconst 1, 1) := dGR_23_c_706.2.2.2.2.2.2.1
theorem dX12_letters_11 : decode cX12_letters 11 = .ok (.iaload, 1) := dGR_23_c_706.2.2.2.2.2.2.2.1
theorem dX12_letters_12 : decode cX12_letters 12 = .ok (.iadd, 1) := dGR_23_c_706.2.2.2.2.2.2.2.2.1
theorem dX12_letters_13 : decode cX12_letters 13 = .ok (.aload_n 0, 1) := dGR_23_c_706.2.2.2.2.2.2.2.2.2.1
theorem dX12_letters_14 : decode cX12_letters 14 = .ok (.getfield 7, 3) := dGR_23_c_706.2.2.2.2.2.2.2.2.2.2.1
theorem dX12_letters_17 : decode cX12_letters 17 = .ok (.iconst 2, 1) := dGR_23_c_706.2.2.2.2.2.2.2.2.2.2.2
set_option maxRecDepth 100000 in
theorem dGR_23_c_707 : (decode cX12_letters 18 = .ok (.iaload, 1)) ∧ (decode cX12_letters 19 = .ok (.iadd, 1)) ∧ (decode cX12_letters 20 = .ok (.ireturn, 1)) := by decide +kernel
theorem dX12_letters_18 : decode cX12_letters 18 = .ok (.iaload, 1) := dGR_23_c_707.1
theorem dX12_letters_19 : decode cX12_letters 19 = .ok (.iadd, 1) := dGR_23_c_707.2.1
theorem dX12_letters_20 : decode cX12_letters 20 = .ok (.ireturn, 1) := dGR_23_c_707.2.2
set_option maxHeartbeats 4000000 in
set_option maxRecDepth 100000 in
theorem c_X12_letters (G : KG) (l : Launch) (M : Mem) (hI_M : Inv true M) : KC true G l yX12_letters cX12_letters 1 (some .int) (0, 0) [vR G 163] M (fun A => kQi true G A (fun (r : Int) (N : Mem) => M = N ∧ (0 ≤ r ∧ r ≤ 6))) := by
  refine kx_met (lo := [some (vR G 163)]) (by decide) (Nat.le_of_ble_eq_true rfl) rfl ?_
  intro X F hQ
  refine kx_aload_n 1 F 0 dX12_letters_0 rfl rfl rfl ?_
  refine kx_getr 4 F fl_X12_7 kd_163 rfl rfl (j := 0) rfl dX12_letters_1 (v := 164) (uq_164 (Inv.r hI_M kd_163 rfl 0 rfl rfl)) rfl ?_
  refine kx_iconst 5 F dX12_letters_4 rfl ?_
  refine kx_iald 6 F kd_164 rfl rfl (by omega) (by decide) dX12_letters_5 (v := (M 164 0)) rfl rfl ?_
  have ha_1 : atlo 0 = 0 ∧ athi 0 = 2 := at_c 0 0 (o := 0) (lo := 0) (hi := 2) (by omega) (by decide) (by decide) (by decide)
  have h_2 := Inv.g hI_M kd_164 rfl 0 (a := 0) (b := 2) ha_1.1 ha_1.2
  refine kx_aload_n 7 F 0 dX12_letters_6 rfl rfl rfl ?_
  refine kx_getr 10 F fl_X12_7 kd_163 rfl rfl (j := 0) rfl dX12_letters_7 (v := 164) (uq_164 (Inv.r hI_M kd_163 rfl 0 rfl rfl)) rfl ?_
  refine kx_iconst 11 F dX12_letters_10 rfl ?_
  refine kx_iald 12 F kd_164 rfl rfl (by omega) (by decide) dX12_letters_11 (v := (M 164 1)) rfl rfl ?_
  have ha_3 : atlo 1 = 0 ∧ athi 1 = 2 := at_c 1 0 (o := 1) (lo := 0) (hi := 2) (by omega) (by decide) (by decide) (by decide)
  have h_4 := Inv.g hI_M kd_164 rfl 1 (a := 0) (b := 2) ha_3.1 ha_3.2
  refine kx_iadd 13 F (v := (M 164 0) + (M 164 1)) dX12_letters_12 rfl rfl ?_
  refine kx_aload_n 14 F 0 dX12_letters_13 rfl rfl rfl ?_
  refine kx_getr 17 F fl_X12_7 kd_163 rfl rfl (j := 0) rfl dX12_letters_14 (v := 164) (uq_164 (Inv.r hI_M kd_163 rfl 0 rfl rfl)) rfl ?_
  refine kx_iconst 18 F dX12_letters_17 rfl ?_
  refine kx_iald 19 F kd_164 rfl rfl (by omega) (by decide) dX12_letters_18 (v := (M 164 2)) rfl rfl ?_
  have ha_5 : atlo 2 = 0 ∧ athi 2 = 2 := at_c 2 0 (o := 2) (lo := 0) (hi := 2) (by omega) (by decide) (by decide) (by decide)
  have h_6 := Inv.g hI_M kd_164 rfl 2 (a := 0) (b := 2) ha_5.1 ha_5.2
  refine kx_iadd 20 F (v := (M 164 0) + (M 164 1) + (M 164 2)) dX12_letters_19 rfl rfl ?_
  exact kx_iret F hQ ⟨rfl, (by omega)⟩ dX12_letters_20
set_option maxRecDepth 100000 in
theorem dGR_23_c_708 : (decode cX12_isLetter 0 = .ok (.iload_n 1, 1)) ∧ (decode cX12_isLetter 1 = .ok (.ifCond .lt 15, 3)) ∧ (decode cX12_isLetter 4 = .ok (.iload_n 1, 1)) ∧ (decode cX12_isLetter 5 = .ok (.aload_n 0, 1)) ∧ (decode cX12_isLetter 6 = .ok (.invokevirtual 285, 3)) ∧ (decode cX12_isLetter 9 = .ok (.if_icmp .ge 7, 3)) ∧ (decode cX12_isLetter 12 = .ok (.iconst 1, 1)) ∧ (decode cX12_isLetter 13 = .ok (.goto 4, 3)) ∧ (decode cX12_isLetter 16 = .ok (.iconst 0, 1)) ∧ (decode cX12_isLetter 17 = .ok (.ireturn, 1)) := by decide +kernel
theorem dX12_isLetter_0 : decode cX12_isLetter 0 = .ok (.iload_n 1, 1) := dGR_23_c_708.1
theorem dX12_isLetter_1 : decode cX12_isLetter 1 = .ok (.ifCond .lt 15, 3) := dGR_23_c_708.2.1
theorem dX12_isLetter_4 : decode cX12_isLetter 4 = .ok (.iload_n 1, 1) := dGR_23_c_708.2.2.1
theorem dX12_isLetter_5 : decode cX12_isLetter 5 = .ok (.aload_n 0, 1) := dGR_23_c_708.2.2.2.1
theorem dX12_isLetter_6 : decode cX12_isLetter 6 = .ok (.invokevirtual 285, 3) := dGR_23_c_708.2.2.2.2.1
theorem dX12_isLetter_9 : decode cX12_isLetter 9 = .ok (.if_icmp .ge 7, 3) := dGR_23_c_708.2.2.2.2.2.1
theorem dX12_isLetter_12 : decode cX12_isLetter 12 = .ok (.iconst 1, 1) := dGR_23_c_708.2.2.2.2.2.2.1
theorem dX12_isLetter_13 : decode cX12_isLetter 13 = .ok (.goto 4, 3) := dGR_23_c_708.2.2.2.2.2.2.2.1
theorem dX12_isLetter_16 : decode cX12_isLetter 16 = .ok (.iconst 0, 1) := dGR_23_c_708.2.2.2.2.2.2.2.2.1
theorem dX12_isLetter_17 : decode cX12_isLetter 17 = .ok (.ireturn, 1) := dGR_23_c_708.2.2.2.2.2.2.2.2.2
set_option maxRecDepth 100000 in
theorem dGR_23_c_709 : (decode cX12_ahead 0 = .ok (.aload_n 0, 1)) ∧ (decode cX12_ahead 1 = .ok (.aload_n 0, 1)) ∧ (decode cX12_ahead 2 = .ok (.getfield 156, 3)) ∧ (decode cX12_ahead 5 = .ok (.invokevirtual 159, 3)) ∧ (decode cX12_ahead 8 = .ok (.bipush 32, 2)) ∧ (decode cX12_ahead 10 = .ok (.if_icmp .eq 16, 3)) ∧ (decode cX12_ahead 13 = .ok (.aload_n 0, 1)) ∧ (decode cX12_ahead 14 = .ok (.aload_n 0, 1)) ∧ (decode cX12_ahead 15 = .ok (.getfield 156, 3)) ∧ (decode cX12_ahead 18 = .ok (.invokevirtual 159, 3)) ∧ (decode cX12_ahead 21 = .ok (.bipush 10, 2)) ∧ (decode cX12_ahead 23 = .ok (.if_icmp .ne 16, 3)) := by decide +kernel
theorem dX12_ahead_0 : decode cX12_ahead 0 = .ok (.aload_n 0, 1) := dGR_23_c_709.1
theorem dX12_ahead_1 : decode cX12_ahead 1 = .ok (.aload_n 0, 1) := dGR_23_c_709.2.1
theorem dX12_ahead_2 : decode cX12_ahead 2 = .ok (.getfield 156, 3) := dGR_23_c_709.2.2.1
theorem dX12_ahead_5 : decode cX12_ahead 5 = .ok (.invokevirtual 159, 3) := dGR_23_c_709.2.2.2.1
theorem dX12_ahead_8 : decode cX12_ahead 8 = .ok (.bipush 32, 2) := dGR_23_c_709.2.2.2.2.1
theorem dX12_ahead_10 : decode cX12_ahead 10 = .ok (.if_icmp .eq 16, 3) := dGR_23_c_709.2.2.2.2.2.1
theorem dX12_ahead_13 : decode cX12_ahead 13 = .ok (.aload_n 0, 1) := dGR_23_c_709.2.2.2.2.2.2.1
theorem dX12_ahead_14 : decode cX12_ahead 14 = .ok (.aload_n 0, 1) := dGR_23_c_709.2.2.2.2.2.2.2.1
theorem dX12_ahead_15 : decode cX12_ahead 15 = .ok (.getfield 156, 3) := dGR_23_c_709.2.2.2.2.2.2.2.2.1
theorem dX12_ahead_18 : decode cX12_ahead 18 = .ok (.invokevirtual 159, 3) := dGR_23_c_709.2.2.2.2.2.2.2.2.2.1
theorem dX12_ahead_21 : decode cX12_ahead 21 = .ok (.bipush 10, 2) := dGR_23_c_709.2.2.2.2.2.2.2.2.2.2.1
theorem dX12_ahead_23 : decode cX12_ahead 23 = .ok (.if_icmp .ne 16, 3) := dGR_23_c_709.2.2.2.2.2.2.2.2.2.2.2
set_option maxRecDepth 100000 in
theorem dGR_23_c_710 : (decode cX12_ahead 26 = .ok (.aload_n 0, 1)) ∧ (decode cX12_ahead 27 = .ok (.dup, 1)) ∧ (decode cX12_ahead 28 = .ok (.getfield 156, 3)) ∧ (decode cX12_ahead 31 = .ok (.iconst 1, 1)) ∧ (decode cX12_ahead 32 = .ok (.iadd, 1)) ∧ (decode cX12_ahead 33 = .ok (.putfield 156, 3)) ∧ (decode cX12_ahead 36 = .ok (.goto (-36), 3)) ∧ (decode cX12_ahead 39 = .ok (.aload_n 0, 1)) ∧ (decode cX12_ahead 40 = .ok (.aload_n 0, 1)) ∧ (decode cX12_ahead 41 = .ok (.getfield 156, 3)) ∧ (decode cX12_ahead 44 = .ok (.putfield 162, 3)) ∧ (decode cX12_ahead 47 = .ok (.aload_n 0, 1)) := by decide +kernel
theorem dX12_ahead_26 : decode cX12_ahead 26 = .ok (.aload_n 0, 1) := dGR_23_c_710.1
theorem dX12_ahead_27 : decode cX12_ahead 27 = .ok (.dup, 1) := dGR_23_c_710.2.1
theorem dX12_ahead_28 : decode cX12_ahead 28 = .ok (.getfield 156, 3) := dGR_23_c_710.2.2.1
theorem dX12_ahead_31 : decode cX12_ahead 31 = .ok (.iconst 1, 1) := dGR_23_c_710.2.2.2.1
theorem dX12_ahead_32 : decode cX12_ahead 32 = .ok (.iadd, 1) := dGR_23_c_710.2.2.2.2.1
theorem dX12_ahead_33 : decode cX12_ahead 33 = .ok (.putfield 156, 3) := dGR_23_c_710.2.2.2.2.2.1
theorem dX12_ahead_36 : decode cX12_ahead 36 = .ok (.goto (-36), 3) := dGR_23_c_710.2.2.2.2.2.2.1
theorem dX12_ahead_39 : decode cX12_ahead 39 = .ok (.aload_n 0, 1) := dGR_23_c_710.2.2.2.2.2.2.2.1
theorem dX12_ahead_40 : decode cX12_ahead 40 = .ok (.aload_n 0, 1) := dGR_23_c_710.2.2.2.2.2.2.2.2.1
theorem dX12_ahead_41 : decode cX12_ahead 41 = .ok (.getfield 156, 3) := dGR_23_c_710.2.2.2.2.2.2.2.2.2.1
theorem dX12_ahead_44 : decode cX12_ahead 44 = .ok (.putfield 162, 3) := dGR_23_c_710.2.2.2.2.2.2.2.2.2.2.1
theorem dX12_ahead_47 : decode cX12_ahead 47 = .ok (.aload_n 0, 1) := dGR_23_c_710.2.2.2.2.2.2.2.2.2.2.2
set_option maxRecDepth 100000 in
theorem dGR_23_c_711 : (decode cX12_ahead 48 = .ok (.aload_n 0, 1)) ∧ (decode cX12_ahead 49 = .ok (.getfield 156, 3)) ∧ (decode cX12_ahead 52 = .ok (.invokevirtual 159, 3)) ∧ (decode cX12_ahead 55 = .ok (.istore_n 1, 1)) ∧ (decode cX12_ahead 56 = .ok (.aload_n 0, 1)) ∧ (decode cX12_ahead 57 = .ok (.iload_n 1, 1)) ∧ (decode cX12_ahead 58 = .ok (.putfield 165, 3)) ∧ (decode cX12_ahead 61 = .ok (.iload_n 1, 1)) ∧ (decode cX12_ahead 62 = .ok (.iconst (-1), 1)) ∧ (decode cX12_ahead 63 = .ok (.if_icmp .ne 11, 3)) ∧ (decode cX12_ahead 66 = .ok (.aload_n 0, 1)) ∧ (decode cX12_ahead 67 = .ok (.iconst 0, 1)) := by decide +kernel
theorem dX12_ahead_48 : decode cX12_ahead 48 = .ok (.aload_n 0, 1) := dGR_23_c_711.1
theorem dX12_ahead_49 : decode cX12_ahead 49 = .ok (.getfield 156, 3) := dGR_23_c_711.2.1
theorem dX12_ahead_52 : decode cX12_ahead 52 = .ok (.invokevirtual 159, 3) := dGR_23_c_711.2.2.1
theorem dX12_ahead_55 : decode cX12_ahead 55 = .ok (.istore_n 1, 1) := dGR_23_c_711.2.2.2.1
theorem dX12_ahead_56 : decode cX12_ahead 56 = .ok (.aload_n 0, 1) := dGR_23_c_711.2.2.2.2.1
theorem dX12_ahead_57 : decode cX12_ahead 57 = .ok (.iload_n 1, 1) := dGR_23_c_711.2.2.2.2.2.1
theorem dX12_ahead_58 : decode cX12_ahead 58 = .ok (.putfield 165, 3) := dGR_23_c_711.2.2.2.2.2.2.1
theorem dX12_ahead_61 : decode cX12_ahead 61 = .ok (.iload_n 1, 1) := dGR_23_c_711.2.2.2.2.2.2.2.1
theorem dX12_ahead_62 : decode cX12_ahead 62 = .ok (.iconst (-1), 1) := dGR_23_c_711.2.2.2.2.2.2.2.2.1
theorem dX12_ahead_63 : decode cX12_ahead 63 = .ok (.if_icmp .ne 11, 3) := dGR_23_c_711.2.2.2.2.2.2.2.2.2.1
theorem dX12_ahead_66 : decode cX12_ahead 66 = .ok (.aload_n 0, 1) := dGR_23_c_711.2.2.2.2.2.2.2.2.2.2.1
theorem dX12_ahead_67 : decode cX12_ahead 67 = .ok (.iconst 0, 1) := dGR_23_c_711.2.2.2.2.2.2.2.2.2.2.2
set_option maxRecDepth 100000 in
theorem dGR_23_c_712 : (decode cX12_ahead 68 = .ok (.putfield 168, 3)) ∧ (decode cX12_ahead 71 = .ok (.goto 162, 3)) ∧ (decode cX12_ahead 74 = .ok (.iload_n 1, 1)) ∧ (decode cX12_ahead 75 = .ok (.invokestatic 171, 3)) ∧ (decode cX12_ahead 78 = .ok (.ifCond .eq 38, 3)) ∧ (decode cX12_ahead 81 = .ok (.aload_n 0, 1)) ∧ (decode cX12_ahead 82 = .ok (.aload_n 0, 1)) ∧ (decode cX12_ahead 83 = .ok (.getfield 156, 3)) ∧ (decode cX12_ahead 86 = .ok (.invokevirtual 159, 3)) ∧ (decode cX12_ahead 89 = .ok (.invokestatic 171, 3)) ∧ (decode cX12_ahead 92 = .ok (.ifCond .eq 16, 3)) ∧ (decode cX12_ahead 95 = .ok (.aload_n 0, 1)) := by decide +kernel
theorem dX12_ahead_68 : decode cX12_ahead 68 = .ok (.putfield 168, 3) := dGR_23_c_712.1
theorem dX12_ahead_71 : decode cX12_ahead 71 = .ok (.goto 162, 3) := dGR_23_c_712.2.1
theorem dX12_ahead_74 : decode cX12_ahead 74 = .ok (.iload_n 1, 1) := dGR_23_c_712.2.2.1
theorem dX12_ahead_75 : decode cX12_ahead 75 = .ok (.invokestatic 171, 3) := dGR_23_c_712.2.2.2.1
theorem dX12_ahead_78 : decode cX12_ahead 78 = .ok (.ifCond .eq 38, 3) := dGR_23_c_712.2.2.2.2.1
theorem dX12_ahead_81 : decode cX12_ahead 81 = .ok (.aload_n 0, 1) := dGR_23_c_712.2.2.2.2.2.1
theorem dX12_ahead_82 : decode cX12_ahead 82 = .ok (.aload_n 0, 1) := dGR_23_c_712.2.2.2.2.2.2.1
theorem dX12_ahead_83 : decode cX12_ahead 83 = .ok (.getfield 156, 3) := dGR_23_c_712.2.2.2.2.2.2.2.1
theorem dX12_ahead_86 : decode cX12_ahead 86 = .ok (.invokevirtual 159, 3) := dGR_23_c_712.2.2.2.2.2.2.2.2.1
theorem dX12_ahead_89 : decode cX12_ahead 89 = .ok (.invokestatic 171, 3) := dGR_23_c_712.2.2.2.2.2.2.2.2.2.1
theorem dX12_ahead_92 : decode cX12_ahead 92 = .ok (.ifCond .eq 16, 3) := dGR_23_c_712.2.2.2.2.2.2.2.2.2.2.1
theorem dX12_ahead_95 : decode cX12_ahead 95 = .ok (.aload_n 0, 1) := dGR_23_c_712.2.2.2.2.2.2.2.2.2.2.2
set_option maxRecDepth 100000 in
theorem dGR_23_c_713 : (decode cX12_ahead 96 = .ok (.dup, 1)) ∧ (decode cX12_ahead 97 = .ok (.getfield 156, 3)) ∧ (decode cX12_ahead 100 = .ok (.iconst 1, 1)) ∧ (decode cX12_ahead 101 = .ok (.iadd, 1)) ∧ (decode cX12_ahead 102 = .ok (.putfield 156, 3)) ∧ (decode cX12_ahead 105 = .ok (.goto (-24), 3)) ∧ (decode cX12_ahead 108 = .ok (.aload_n 0, 1)) ∧ (decode cX12_ahead 109 = .ok (.iconst 2, 1)) ∧ (decode cX12_ahead 110 = .ok (.putfield 168, 3)) ∧ (decode cX12_ahead 113 = .ok (.goto 120, 3)) ∧ (decode cX12_ahead 116 = .ok (.iload_n 1, 1)) ∧ (decode cX12_ahead 117 = .ok (.invokestatic 174, 3)) := by decide +kernel
theorem dX12_ahead_96 : decode cX12_ahead 96 = .ok (.dup, 1) := dGR_23_c_713.1
theorem dX12_ahead_97 : decode cX12_ahead 97 = .ok (.getfield 156, 3) := dGR_23_c_713.2.1
theorem dX12_ahead_100 : decode cX12_ahead 100 = .ok (.iconst 1, 1) := dGR_23_c_713.2.2.1
theorem dX12_ahead_101 : decode cX12_ahead 101 = .ok (.iadd, 1) := dGR_23_c_713.2.2.2.1
theorem dX12_ahead_102 : decode cX12_ahead 102 = .ok (.putfield 156, 3) := dGR_23_c_713.2.2.2.2.1
theorem dX12_ahead_105 : decode cX12_ahead 105 = .ok (.goto (-24), 3) := dGR_23_c_713.2.2.2.2.2.1
theorem dX12_ahead_108 : decode cX12_ahead 108 = .ok (.aload_n 0, 1) := dGR_23_c_713.2.2.2.2.2.2.1
theorem dX12_ahead_109 : decode cX12_ahead 109 = .ok (.iconst 2, 1) := dGR_23_c_713.2.2.2.2.2.2.2.1
theorem dX12_ahead_110 : decode cX12_ahead 110 = .ok (.putfield 168, 3) := dGR_23_c_713.2.2.2.2.2.2.2.2.1
theorem dX12_ahead_113 : decode cX12_ahead 113 = .ok (.goto 120, 3) := dGR_23_c_713.2.2.2.2.2.2.2.2.2.1
theorem dX12_ahead_116 : decode cX12_ahead 116 = .ok (.iload_n 1, 1) := dGR_23_c_713.2.2.2.2.2.2.2.2.2.2.1
theorem dX12_ahead_117 : decode cX12_ahead 117 = .ok (.invokestatic 174, 3) := dGR_23_c_713.2.2.2.2.2.2.2.2.2.2.2
set_option maxRecDepth 100000 in
theorem dGR_23_c_714 : (decode cX12_ahead 120 = .ok (.ifCond .eq 88, 3)) ∧ (decode cX12_ahead 123 = .ok (.aload_n 0, 1)) ∧ (decode cX12_ahead 124 = .ok (.iconst 0, 1)) ∧ (decode cX12_ahead 125 = .ok (.putfield 165, 3)) ∧ (decode cX12_ahead 128 = .ok (.aload_n 0, 1)) ∧ (decode cX12_ahead 129 = .ok (.aload_n 0, 1)) ∧ (decode cX12_ahead 130 = .ok (.getfield 156, 3)) ∧ (decode cX12_ahead 133 = .ok (.invokevirtual 159, 3)) ∧ (decode cX12_ahead 136 = .ok (.invokestatic 174, 3)) ∧ (decode cX12_ahead 139 = .ok (.ifCond .eq 44, 3)) ∧ (decode cX12_ahead 142 = .ok (.aload_n 0, 1)) ∧ (decode cX12_ahead 143 = .ok (.ldc 177, 2)) := by decide +kernel
theorem dX12_ahead_120 : decode cX12_ahead 120 = .ok (.ifCond .eq 88, 3) := dGR_23_c_714.1
theorem dX12_ahead_123 : decode cX12_ahead 123 = .ok (.aload_n 0, 1) := dGR_23_c_714.2.1
theorem dX12_ahead_124 : decode cX12_ahead 124 = .ok (.iconst 0, 1) := dGR_23_c_714.2.2.1
theorem dX12_ahead_125 : decode cX12_ahead 125 = .ok (.putfield 165, 3) := dGR_23_c_714.2.2.2.1
theorem dX12_ahead_128 : decode cX12_ahead 128 = .ok (.aload_n 0, 1) := dGR_23_c_714.2.2.2.2.1
theorem dX12_ahead_129 : decode cX12_ahead 129 = .ok (.aload_n 0, 1) := dGR_23_c_714.2.2.2.2.2.1
theorem dX12_ahead_130 : decode cX12_ahead 130 = .ok (.getfield 156, 3) := dGR_23_c_714.2.2.2.2.2.2.1
theorem dX12_ahead_133 : decode cX12_ahead 133 = .ok (.invokevirtual 159, 3) := dGR_23_c_714.2.2.2.2.2.2.2.1
theorem dX12_ahead_136 : decode cX12_ahead 136 = .ok (.invokestatic 174, 3) := dGR_23_c_714.2.2.2.2.2.2.2.2.1
theorem dX12_ahead_139 : decode cX12_ahead 139 = .ok (.ifCond .eq 44, 3) := dGR_23_c_714.2.2.2.2.2.2.2.2.2.1
theorem dX12_ahead_142 : decode cX12_ahead 142 = .ok (.aload_n 0, 1) := dGR_23_c_714.2.2.2.2.2.2.2.2.2.2.1
theorem dX12_ahead_143 : decode cX12_ahead 143 = .ok (.ldc 177, 2) := dGR_23_c_714.2.2.2.2.2.2.2.2.2.2.2
set_option maxRecDepth 100000 in
theorem dGR_23_c_715 : (decode cX12_ahead 145 = .ok (.bipush 10, 2)) ∧ (decode cX12_ahead 147 = .ok (.aload_n 0, 1)) ∧ (decode cX12_ahead 148 = .ok (.getfield 165, 3)) ∧ (decode cX12_ahead 151 = .ok (.imul, 1)) ∧ (decode cX12_ahead 152 = .ok (.aload_n 0, 1)) ∧ (decode cX12_ahead 153 = .ok (.aload_n 0, 1)) ∧ (decode cX12_ahead 154 = .ok (.getfield 156, 3)) ∧ (decode cX12_ahead 157 = .ok (.invokevirtual 159, 3)) ∧ (decode cX12_ahead 160 = .ok (.iadd, 1)) ∧ (decode cX12_ahead 161 = .ok (.bipush 48, 2)) ∧ (decode cX12_ahead 163 = .ok (.isub, 1)) ∧ (decode cX12_ahead 164 = .ok (.invokestatic 178, 3)) := by decide +kernel
theorem dX12_ahead_145 : decode cX12_ahead 145 = .ok (.bipush 10, 2) := dGR_23_c_715.1
theorem dX12_ahead_147 : decode cX12_ahead 147 = .ok (.aload_n 0, 1) := dGR_23_c_715.2.1
theorem dX12_ahead_148 : decode cX12_ahead 148 = .ok (.getfield 165, 3) := dGR_23_c_715.2.2.1
theorem dX12_ahead_151 : decode cX12_ahead 151 = .ok (.imul, 1) := dGR_23_c_715.2.2.2.1
theorem dX12_ahead_152 : decode cX12_ahead 152 = .ok (.aload_n 0, 1) := dGR_23_c_715.2.2.2.2.1
theorem dX12_ahead_153 : decode cX12_ahead 153 = .ok (.aload_n 0, 1) := dGR_23_c_715.2.2.2.2.2.1
theorem dX12_ahead_154 : decode cX12_ahead 154 = .ok (.getfield 156, 3) := dGR_23_c_715.2.2.2.2.2.2.1
theorem dX12_ahead_157 : decode cX12_ahead 157 = .ok (.invokevirtual 159, 3) := dGR_23_c_715.2.2.2.2.2.2.2.1
theorem dX12_ahead_160 : decode cX12_ahead 160 = .ok (.iadd, 1) := dGR_23_c_715.2.2.2.2.2.2.2.2.1
theorem dX12_ahead_161 : decode cX12_ahead 161 = .ok (.bipush 48, 2) := dGR_23_c_715.2.2.2.2.2.2.2.2.2.1
theorem dX12_ahead_163 : decode cX12_ahead 163 = .ok (.isub, 1) := dGR_23_c_715.2.2.2.2.2.2.2.2.2.2.1
theorem dX12_ahead_164 : decode cX12_ahead 164 = .ok (.invokestatic 178, 3) := dGR_23_c_715.2.2.2.2.2.2.2.2.2.2.2
set_option maxRecDepth 100000 in
theorem dGR_23_c_716 : (decode cX12_ahead 167 = .ok (.putfield 165, 3)) ∧ (decode cX12_ahead 170 = .ok (.aload_n 0, 1)) ∧ (decode cX12_ahead 171 = .ok (.dup, 1)) ∧ (decode cX12_ahead 172 = .ok (.getfield 156, 3)) ∧ (decode cX12_ahead 175 = .ok (.iconst 1, 1)) ∧ (decode cX12_ahead 176 = .ok (.iadd, 1)) ∧ (decode cX12_ahead 177 = .ok (.putfield 156, 3)) ∧ (decode cX12_ahead 180 = .ok (.goto (-52), 3)) ∧ (decode cX12_ahead 183 = .ok (.aload_n 0, 1)) ∧ (decode cX12_ahead 184 = .ok (.aload_n 0, 1)) ∧ (decode cX12_ahead 185 = .ok (.getfield 156, 3)) ∧ (decode cX12_ahead 188 = .ok (.aload_n 0, 1)) := by decide +kernel
theorem dX12_ahead_167 : decode cX12_ahead 167 = .ok (.putfield 165, 3) := dGR_23_c_716.1
theorem dX12_ahead_170 : decode cX12_ahead 170 = .ok (.aload_n 0, 1) := dGR_23_c_716.2.1
theorem dX12_ahead_171 : decode cX12_ahead 171 = .ok (.dup, 1) := dGR_23_c_716.2.2.1
theorem dX12_ahead_172 : decode cX12_ahead 172 = .ok (.getfield 156, 3) := dGR_23_c_716.2.2.2.1
theorem dX12_ahead_175 : decode cX12_ahead 175 = .ok (.iconst 1, 1) := dGR_23_c_716.2.2.2.2.1
theorem dX12_ahead_176 : decode cX12_ahead 176 = .ok (.iadd, 1) := dGR_23_c_716.2.2.2.2.2.1
theorem dX12_ahead_177 : decode cX12_ahead 177 = .ok (.putfield 156, 3) := dGR_23_c_716.2.2.2.2.2.2.1
theorem dX12_ahead_180 : decode cX12_ahead 180 = .ok (.goto (-52), 3) := dGR_23_c_716.2.2.2.2.2.2.2.1
theorem dX12_ahead_183 : decode cX12_ahead 183 = .ok (.aload_n 0, 1) := dGR_23_c_716.2.2.2.2.2.2.2.2.1
theorem dX12_ahead_184 : decode cX12_ahead 184 = .ok (.aload_n 0, 1) := dGR_23_c_716.2.2.2.2.2.2.2.2.2.1
theorem dX12_ahead_185 : decode cX12_ahead 185 = .ok (.getfield 156, 3) := dGR_23_c_716.2.2.2.2.2.2.2.2.2.2.1
theorem dX12_ahead_188 : decode cX12_ahead 188 = .ok (.aload_n 0, 1) := dGR_23_c_716.2.2.2.2.2.2.2.2.2.2.2
set_option maxRecDepth 100000 in
theorem dGR_23_c_717 : (decode cX12_ahead 189 = .ok (.getfield 162, 3)) ∧ (decode cX12_ahead 192 = .ok (.isub, 1)) ∧ (decode cX12_ahead 193 = .ok (.iconst 4, 1)) ∧ (decode cX12_ahead 194 = .ok (.if_icmp .le 7, 3)) ∧ (decode cX12_ahead 197 = .ok (.iconst 1, 1)) ∧ (decode cX12_ahead 198 = .ok (.goto 4, 3)) ∧ (decode cX12_ahead 201 = .ok (.iconst 3, 1)) ∧ (decode cX12_ahead 202 = .ok (.putfield 168, 3)) ∧ (decode cX12_ahead 205 = .ok (.goto 28, 3)) ∧ (decode cX12_ahead 208 = .ok (.aload_n 0, 1)) ∧ (decode cX12_ahead 209 = .ok (.dup, 1)) ∧ (decode cX12_ahead 210 = .ok (.getfield 156, 3)) := by decide +kernel
theorem dX12_ahead_189 : decode cX12_ahead 189 = .ok (.getfield 162, 3) := dGR_23_c_717.1
theorem dX12_ahead_192 : decode cX12_ahead 192 = .ok (.isub, 1) := dGR_23_c_717.2.1
theorem dX12_ahead_193 : decode cX12_ahead 193 = .ok (.iconst 4, 1) := dGR_23_c_717.2.2.1
theorem dX12_ahead_194 : decode cX12_ahead 194 = .ok (.if_icmp .le 7, 3) := dGR_23_c_717.2.2.2.1
theorem dX12_ahead_197 : decode cX12_ahead 197 = .ok (.iconst 1, 1) := dGR_23_c_717.2.2.2.2.1
theorem dX12_ahead_198 : decode cX12_ahead 198 = .ok (.goto 4, 3) := dGR_23_c_717.2.2.2.2.2.1
theorem dX12_ahead_201 : decode cX12_ahead 201 = .ok (.iconst 3, 1) := dGR_23_c_717.2.2.2.2.2.2.1
theorem dX12_ahead_202 : decode cX12_ahead 202 = .ok (.putfield 168, 3) := dGR_23_c_717.2.2.2.2.2.2.2.1
theorem dX12_ahead_205 : decode cX12_ahead 205 = .ok (.goto 28, 3) := dGR_23_c_717.2.2.2.2.2.2.2.2.1
theorem dX12_ahead_208 : decode cX12_ahead 208 = .ok (.aload_n 0, 1) := dGR_23_c_717.2.2.2.2.2.2.2.2.2.1
theorem dX12_ahead_209 : decode cX12_ahead 209 = .ok (.dup, 1) := dGR_23_c_717.2.2.2.2.2.2.2.2.2.2.1
theorem dX12_ahead_210 : decode cX12_ahead 210 = .ok (.getfield 156, 3) := dGR_23_c_717.2.2.2.2.2.2.2.2.2.2.2
set_option maxRecDepth 100000 in
theorem dGR_23_c_718 : (decode cX12_ahead 213 = .ok (.iconst 1, 1)) ∧ (decode cX12_ahead 214 = .ok (.iadd, 1)) ∧ (decode cX12_ahead 215 = .ok (.putfield 156, 3)) ∧ (decode cX12_ahead 218 = .ok (.aload_n 0, 1)) ∧ (decode cX12_ahead 219 = .ok (.iload_n 1, 1)) ∧ (decode cX12_ahead 220 = .ok (.bipush 59, 2)) ∧ (decode cX12_ahead 222 = .ok (.if_icmp .ne 7, 3)) ∧ (decode cX12_ahead 225 = .ok (.iconst 4, 1)) ∧ (decode cX12_ahead 226 = .ok (.goto 4, 3)) ∧ (decode cX12_ahead 229 = .ok (.iconst 1, 1)) ∧ (decode cX12_ahead 230 = .ok (.putfield 168, 3)) ∧ (decode cX12_ahead 233 = .ok (.return_, 1)) := by decide +kernel
theorem dX12_ahead_213 : decode cX12_ahead 213 = .ok (.iconst 1, 1) := dGR_23_c_718.1
theorem dX12_ahead_214 : decode cX12_ahead 214 = .ok (.iadd, 1) := dGR_23_c_718.2.1
theorem dX12_ahead_215 : decode cX12_ahead 215 = .ok (.putfield 156, 3) := dGR_23_c_718.2.2.1
theorem dX12_ahead_218 : decode cX12_ahead 218 = .ok (.aload_n 0, 1) := dGR_23_c_718.2.2.2.1
theorem dX12_ahead_219 : decode cX12_ahead 219 = .ok (.iload_n 1, 1) := dGR_23_c_718.2.2.2.2.1
theorem dX12_ahead_220 : decode cX12_ahead 220 = .ok (.bipush 59, 2) := dGR_23_c_718.2.2.2.2.2.1
theorem dX12_ahead_222 : decode cX12_ahead 222 = .ok (.if_icmp .ne 7, 3) := dGR_23_c_718.2.2.2.2.2.2.1
theorem dX12_ahead_225 : decode cX12_ahead 225 = .ok (.iconst 4, 1) := dGR_23_c_718.2.2.2.2.2.2.2.1
theorem dX12_ahead_226 : decode cX12_ahead 226 = .ok (.goto 4, 3) := dGR_23_c_718.2.2.2.2.2.2.2.2.1
theorem dX12_ahead_229 : decode cX12_ahead 229 = .ok (.iconst 1, 1) := dGR_23_c_718.2.2.2.2.2.2.2.2.2.1
theorem dX12_ahead_230 : decode cX12_ahead 230 = .ok (.putfield 168, 3) := dGR_23_c_718.2.2.2.2.2.2.2.2.2.2.1
theorem dX12_ahead_233 : decode cX12_ahead 233 = .ok (.return_, 1) := dGR_23_c_718.2.2.2.2.2.2.2.2.2.2.2
