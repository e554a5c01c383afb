abbrev f_c_lowT9 : List (Nat × Int) := [(85, -1)]
set_option maxHeartbeats 4000000 in
set_option maxRecDepth 100000 in
theorem c_lowT9 (G : KG) (l : Launch) (M : Mem) (c1 : Int) (a2 : Int) (a3 : Int) (hI_M : Inv true M) (hk_c1 : kd c1 = 85) (hpre : -2147483648 ≤ a2 ∧ a2 ≤ 2147483647 ∧ -2147483648 ≤ a3 ∧ a3 ≤ 2147483647 ∧ 0 ≤ a2 ∧ a2 ≤ 8 ∧ 0 ≤ a3) : KC true G l yX12_lowers cX12_lowers 4 (some .boolean) (0, 0) [vR G 163, vR G c1, vI a2, vI a3] M (fun A => kQi true G A (fun (r : Int) (N : Mem) => Inv true N ∧ Fr f_c_lowT9 M N ∧ ((r = 1 ∧ (tot 85 9 N) + 1 ≤ (tot 85 9 M)) ∨ (r = 0 ∧ (tot 85 9 N) = (tot 85 9 M))))) := by
  refine kx_met (lo := [some (vR G 163), some (vR G c1), some (vI a2), some (vI a3)]) (by decide) (Nat.le_of_ble_eq_true rfl) rfl ?_
  intro X F hQ
  have hF_M : Fr f_c_lowT9 M M := Fr.rf _ _
  refine kx_iload_n 1 F 3 dX12_lowers_0 rfl rfl rfl ?_
  refine kx_aload_n 2 F 1 dX12_lowers_1 rfl rfl rfl ?_
  refine kx_iload_n 3 F 2 dX12_lowers_2 rfl rfl rfl ?_
  refine kx_iald 4 F hk_c1 rfl rfl (by omega) (by decide) dX12_lowers_3 (v := (M c1 a2)) rfl rfl ?_
  have h_1 := Inv.g hI_M hk_c1 rfl a2 (a := 0) (b := 1000000) rfl rfl
  refine kx_icmp_lt 7 F 9 dX12_lowers_4 (by decide) rfl (by omega) (by omega) (fun h_2 => ?_) (fun h_2 => ?_)
  · refine kx_aload_n 10 F 1 dX12_lowers_9 rfl rfl rfl ?_
    refine kx_iload_n 11 F 2 dX12_lowers_10 rfl rfl rfl ?_
    refine kx_iload_n 12 F 3 dX12_lowers_11 rfl rfl rfl ?_
    refine kx_iast 13 F hk_c1 rfl rfl (by omega) (by decide) dX12_lowers_12 rfl ?_
    intro N_3 hM_N_3
    have hI_N_3 : Inv true N_3 := Inv.u hI_M hM_N_3 hk_c1 (a := 0) (b := 1000000) rfl rfl rfl (by omega)
    have hF_N_3 : Fr f_c_lowT9 M N_3 := Fr.u hF_M hM_N_3 hk_c1 rfl
    have ht_4 := tot_u (n := 9) hM_N_3 hk_c1 (by omega)
    refine kx_iconst 14 F dX12_lowers_13 rfl ?_
    exact kx_zret F hQ (by omega) ⟨hI_N_3, hF_N_3, (by omega)⟩ dX12_lowers_14
  · refine kx_iconst 8 F dX12_lowers_7 rfl ?_
    exact kx_zret F hQ (by omega) ⟨hI_M, hF_M, (by omega)⟩ dX12_lowers_8
abbrev f_c_lowTG : List (Nat × Int) := [(87, -1)]
set_option maxHeartbeats 4000000 in
set_option maxRecDepth 100000 in
theorem c_lowTG (G : KG) (l : Launch) (M : Mem) (c1 : Int) (a2 : Int) (a3 : Int) (hI_M : Inv true M) (hk_c1 : kd c1 = 87) (hpre : -2147483648 ≤ a2 ∧ a2 ≤ 2147483647 ∧ -2147483648 ≤ a3 ∧ a3 ≤ 2147483647 ∧ 0 ≤ a2 ∧ a2 ≤ 575 ∧ 0 ≤ a3) : KC true G l yX12_lowers cX12_lowers 4 (some .boolean) (0, 0) [vR G 163, vR G c1, vI a2, vI a3] M (fun A => kQi true G A (fun (r : Int) (N : Mem) => Inv true N ∧ Fr f_c_lowTG M N ∧ ((r = 1 ∧ (tot 87 576 N) + 1 ≤ (tot 87 576 M)) ∨ (r = 0 ∧ (tot 87 576 N) = (tot 87 576 M))))) := by
  refine kx_met (lo := [some (vR G 163), some (vR G c1), some (vI a2), some (vI a3)]) (by decide) (Nat.le_of_ble_eq_true rfl) rfl ?_
  intro X F hQ
  have hF_M : Fr f_c_lowTG M M := Fr.rf _ _
  refine kx_iload_n 1 F 3 dX12_lowers_0 rfl rfl rfl ?_
  refine kx_aload_n 2 F 1 dX12_lowers_1 rfl rfl rfl ?_
  refine kx_iload_n 3 F 2 dX12_lowers_2 rfl rfl rfl ?_
  refine kx_iald 4 F hk_c1 rfl rfl (by omega) (by decide) dX12_lowers_3 (v := (M c1 a2)) rfl rfl ?_
  have h_1 := Inv.g hI_M hk_c1 rfl a2 (a := 0) (b := 1000000) rfl rfl
  refine kx_icmp_lt 7 F 9 dX12_lowers_4 (by decide) rfl (by omega) (by omega) (fun h_2 => ?_) (fun h_2 => ?_)
  · refine kx_aload_n 10 F 1 dX12_lowers_9 rfl rfl rfl ?_
    refine kx_iload_n 11 F 2 dX12_lowers_10 rfl rfl rfl ?_
    refine kx_iload_n 12 F 3 dX12_lowers_11 rfl rfl rfl ?_
    refine kx_iast 13 F hk_c1 rfl rfl (by omega) (by decide) dX12_lowers_12 rfl ?_
    intro N_3 hM_N_3
    have hI_N_3 : Inv true N_3 := Inv.u hI_M hM_N_3 hk_c1 (a := 0) (b := 1000000) rfl rfl rfl (by omega)
    have hF_N_3 : Fr f_c_lowTG M N_3 := Fr.u hF_M hM_N_3 hk_c1 rfl
    have ht_4 := tot_u (n := 576) hM_N_3 hk_c1 (by omega)
    refine kx_iconst 14 F dX12_lowers_13 rfl ?_
    exact kx_zret F hQ (by omega) ⟨hI_N_3, hF_N_3, (by omega)⟩ dX12_lowers_14
  · refine kx_iconst 8 F dX12_lowers_7 rfl ?_
    exact kx_zret F hQ (by omega) ⟨hI_M, hF_M, (by omega)⟩ dX12_lowers_8
abbrev f_c_lowT24 : List (Nat × Int) := [(88, -1)]
set_option maxHeartbeats 4000000 in
set_option maxRecDepth 100000 in
theorem c_lowT24 (G : KG) (l : Launch) (M : Mem) (c1 : Int) (a2 : Int) (a3 : Int) (hI_M : Inv true M) (hk_c1 : kd c1 = 88) (hpre : -2147483648 ≤ a2 ∧ a2 ≤ 2147483647 ∧ -2147483648 ≤ a3 ∧ a3 ≤ 2147483647 ∧ 0 ≤ a2 ∧ a2 ≤ 23 ∧ 0 ≤ a3) : KC true G l yX12_lowers cX12_lowers 4 (some .boolean) (0, 0) [vR G 163, vR G c1, vI a2, vI a3] M (fun A => kQi true G A (fun (r : Int) (N : Mem) => Inv true N ∧ Fr f_c_lowT24 M N ∧ ((r = 1 ∧ (tot 88 24 N) + 1 ≤ (tot 88 24 M)) ∨ (r = 0 ∧ (tot 88 24 N) = (tot 88 24 M))))) := by
  refine kx_met (lo := [some (vR G 163), some (vR G c1), some (vI a2), some (vI a3)]) (by decide) (Nat.le_of_ble_eq_true rfl) rfl ?_
  intro X F hQ
  have hF_M : Fr f_c_lowT24 M M := Fr.rf _ _
  refine kx_iload_n 1 F 3 dX12_lowers_0 rfl rfl rfl ?_
  refine kx_aload_n 2 F 1 dX12_lowers_1 rfl rfl rfl ?_
  refine kx_iload_n 3 F 2 dX12_lowers_2 rfl rfl rfl ?_
  refine kx_iald 4 F hk_c1 rfl rfl (by omega) (by decide) dX12_lowers_3 (v := (M c1 a2)) rfl rfl ?_
  have h_1 := Inv.g hI_M hk_c1 rfl a2 (a := 0) (b := 1000000) rfl rfl
  refine kx_icmp_lt 7 F 9 dX12_lowers_4 (by decide) rfl (by omega) (by omega) (fun h_2 => ?_) (fun h_2 => ?_)
  · refine kx_aload_n 10 F 1 dX12_lowers_9 rfl rfl rfl ?_
    refine kx_iload_n 11 F 2 dX12_lowers_10 rfl rfl rfl ?_
    refine kx_iload_n 12 F 3 dX12_lowers_11 rfl rfl rfl ?_
    refine kx_iast 13 F hk_c1 rfl rfl (by omega) (by decide) dX12_lowers_12 rfl ?_
    intro N_3 hM_N_3
    have hI_N_3 : Inv true N_3 := Inv.u hI_M hM_N_3 hk_c1 (a := 0) (b := 1000000) rfl rfl rfl (by omega)
    have hF_N_3 : Fr f_c_lowT24 M N_3 := Fr.u hF_M hM_N_3 hk_c1 rfl
    have ht_4 := tot_u (n := 24) hM_N_3 hk_c1 (by omega)
    refine kx_iconst 14 F dX12_lowers_13 rfl ?_
    exact kx_zret F hQ (by omega) ⟨hI_N_3, hF_N_3, (by omega)⟩ dX12_lowers_14
  · refine kx_iconst 8 F dX12_lowers_7 rfl ?_
    exact kx_zret F hQ (by omega) ⟨hI_M, hF_M, (by omega)⟩ dX12_lowers_8
set_option maxRecDepth 100000 in
theorem dGR_31_c_952 : (decode cX12_laysSegments 0 = .ok (.iconst 0, 1)) ∧ (decode cX12_laysSegments 1 = .ok (.istore_n 3, 1)) ∧ (decode cX12_laysSegments 2 = .ok (.iload_n 3, 1)) ∧ (decode cX12_laysSegments 3 = .ok (.bipush 81, 2)) ∧ (decode cX12_laysSegments 5 = .ok (.if_icmp .ge 18, 3)) ∧ (decode cX12_laysSegments 8 = .ok (.aload_n 0, 1)) ∧ (decode cX12_laysSegments 9 = .ok (.getfield 83, 3)) ∧ (decode cX12_laysSegments 12 = .ok (.iload_n 3, 1)) ∧ (decode cX12_laysSegments 13 = .ok (.ldc_w 428, 3)) ∧ (decode cX12_laysSegments 16 = .ok (.iastore, 1)) ∧ (decode cX12_laysSegments 17 = .ok (.iinc 3 1, 3)) ∧ (decode cX12_laysSegments 20 = .ok (.goto (-18), 3)) := by decide +kernel
theorem dX12_laysSegments_0 : decode cX12_laysSegments 0 = .ok (.iconst 0, 1) := dGR_31_c_952.1
theorem dX12_laysSegments_1 : decode cX12_laysSegments 1 = .ok (.istore_n 3, 1) := dGR_31_c_952.2.1
theorem dX12_laysSegments_2 : decode cX12_laysSegments 2 = .ok (.iload_n 3, 1) := dGR_31_c_952.2.2.1
theorem dX12_laysSegments_3 : decode cX12_laysSegments 3 = .ok (.bipush 81, 2) := dGR_31_c_952.2.2.2.1
theorem dX12_laysSegments_5 : decode cX12_laysSegments 5 = .ok (.if_icmp .ge 18, 3) := dGR_31_c_952.2.2.2.2.1
theorem dX12_laysSegments_8 : decode cX12_laysSegments 8 = .ok (.aload_n 0, 1) := dGR_31_c_952.2.2.2.2.2.1
theorem dX12_laysSegments_9 : decode cX12_laysSegments 9 = .ok (.getfield 83, 3) := dGR_31_c_952.2.2.2.2.2.2.1
theorem dX12_laysSegments_12 : decode cX12_laysSegments 12 = .ok (.iload_n 3, 1) := dGR_31_c_952.2.2.2.2.2.2.2.1
theorem dX12_laysSegments_13 : decode cX12_laysSegments 13 = .ok (.ldc_w 428, 3) := dGR_31_c_952.2.2.2.2.2.2.2.2.1
theorem dX12_laysSegments_16 : decode cX12_laysSegments 16 = .ok (.iastore, 1) := dGR_31_c_952.2.2.2.2.2.2.2.2.2.1
theorem dX12_laysSegments_17 : decode cX12_laysSegments 17 = .ok (.iinc 3 1, 3) := dGR_31_c_952.2.2.2.2.2.2.2.2.2.2.1
theorem dX12_laysSegments_20 : decode cX12_laysSegments 20 = .ok (.goto (-18), 3) := dGR_31_c_952.2.2.2.2.2.2.2.2.2.2.2
set_option maxRecDepth 100000 in
theorem dGR_31_c_953 : (decode cX12_laysSegments 23 = .ok (.iconst 0, 1)) ∧ (decode cX12_laysSegments 24 = .ok (.istore_n 3, 1)) ∧ (decode cX12_laysSegments 25 = .ok (.iload_n 3, 1)) ∧ (decode cX12_laysSegments 26 = .ok (.aload_n 0, 1)) ∧ (decode cX12_laysSegments 27 = .ok (.getfield 7, 3)) ∧ (decode cX12_laysSegments 30 = .ok (.iconst 0, 1)) ∧ (decode cX12_laysSegments 31 = .ok (.iaload, 1)) ∧ (decode cX12_laysSegments 32 = .ok (.if_icmp .ge 209, 3)) ∧ (decode cX12_laysSegments 35 = .ok (.aload_n 0, 1)) ∧ (decode cX12_laysSegments 36 = .ok (.getfield 7, 3)) ∧ (decode cX12_laysSegments 39 = .ok (.iconst 0, 1)) ∧ (decode cX12_laysSegments 40 = .ok (.iaload, 1)) := by decide +kernel
theorem dX12_laysSegments_23 : decode cX12_laysSegments 23 = .ok (.iconst 0, 1) := dGR_31_c_953.1
theorem dX12_laysSegments_24 : decode cX12_laysSegments 24 = .ok (.istore_n 3, 1) := dGR_31_c_953.2.1
theorem dX12_laysSegments_25 : decode cX12_laysSegments 25 = .ok (.iload_n 3, 1) := dGR_31_c_953.2.2.1
theorem dX12_laysSegments_26 : decode cX12_laysSegments 26 = .ok (.aload_n 0, 1) := dGR_31_c_953.2.2.2.1
theorem dX12_laysSegments_27 : decode cX12_laysSegments 27 = .ok (.getfield 7, 3) := dGR_31_c_953.2.2.2.2.1
theorem dX12_laysSegments_30 : decode cX12_laysSegments 30 = .ok (.iconst 0, 1) := dGR_31_c_953.2.2.2.2.2.1
theorem dX12_laysSegments_31 : decode cX12_laysSegments 31 = .ok (.iaload, 1) := dGR_31_c_953.2.2.2.2.2.2.1
theorem dX12_laysSegments_32 : decode cX12_laysSegments 32 = .ok (.if_icmp .ge 209, 3) := dGR_31_c_953.2.2.2.2.2.2.2.1
theorem dX12_laysSegments_35 : decode cX12_laysSegments 35 = .ok (.aload_n 0, 1) := dGR_31_c_953.2.2.2.2.2.2.2.2.1
theorem dX12_laysSegments_36 : decode cX12_laysSegments 36 = .ok (.getfield 7, 3) := dGR_31_c_953.2.2.2.2.2.2.2.2.2.1
theorem dX12_laysSegments_39 : decode cX12_laysSegments 39 = .ok (.iconst 0, 1) := dGR_31_c_953.2.2.2.2.2.2.2.2.2.2.1
theorem dX12_laysSegments_40 : decode cX12_laysSegments 40 = .ok (.iaload, 1) := dGR_31_c_953.2.2.2.2.2.2.2.2.2.2.2
set_option maxRecDepth 100000 in
theorem dGR_31_c_954 : (decode cX12_laysSegments 41 = .ok (.istore 4, 2)) ∧ (decode cX12_laysSegments 43 = .ok (.iload 4, 2)) ∧ (decode cX12_laysSegments 45 = .ok (.aload_n 0, 1)) ∧ (decode cX12_laysSegments 46 = .ok (.getfield 7, 3)) ∧ (decode cX12_laysSegments 49 = .ok (.iconst 0, 1)) ∧ (decode cX12_laysSegments 50 = .ok (.iaload, 1)) ∧ (decode cX12_laysSegments 51 = .ok (.aload_n 0, 1)) ∧ (decode cX12_laysSegments 52 = .ok (.getfield 7, 3)) ∧ (decode cX12_laysSegments 55 = .ok (.iconst 1, 1)) ∧ (decode cX12_laysSegments 56 = .ok (.iaload, 1)) ∧ (decode cX12_laysSegments 57 = .ok (.iadd, 1)) ∧ (decode cX12_laysSegments 58 = .ok (.if_icmp .ge 177, 3)) := by decide +kernel
theorem dX12_laysSegments_41 : decode cX12_laysSegments 41 = .ok (.istore 4, 2) := dGR_31_c_954.1
theorem dX12_laysSegments_43 : decode cX12_laysSegments 43 = .ok (.iload 4, 2) := dGR_31_c_954.2.1
theorem dX12_laysSegments_45 : decode cX12_laysSegments 45 = .ok (.aload_n 0, 1) := dGR_31_c_954.2.2.1
theorem dX12_laysSegments_46 : decode cX12_laysSegments 46 = .ok (.getfield 7, 3) := dGR_31_c_954.2.2.2.1
theorem dX12_laysSegments_49 : decode cX12_laysSegments 49 = .ok (.iconst 0, 1) := dGR_31_c_954.2.2.2.2.1
theorem dX12_laysSegments_50 : decode cX12_laysSegments 50 = .ok (.iaload, 1) := dGR_31_c_954.2.2.2.2.2.1
theorem dX12_laysSegments_51 : decode cX12_laysSegments 51 = .ok (.aload_n 0, 1) := dGR_31_c_954.2.2.2.2.2.2.1
theorem dX12_laysSegments_52 : decode cX12_laysSegments 52 = .ok (.getfield 7, 3) := dGR_31_c_954.2.2.2.2.2.2.2.1
theorem dX12_laysSegments_55 : decode cX12_laysSegments 55 = .ok (.iconst 1, 1) := dGR_31_c_954.2.2.2.2.2.2.2.2.1
theorem dX12_laysSegments_56 : decode cX12_laysSegments 56 = .ok (.iaload, 1) := dGR_31_c_954.2.2.2.2.2.2.2.2.2.1
theorem dX12_laysSegments_57 : decode cX12_laysSegments 57 = .ok (.iadd, 1) := dGR_31_c_954.2.2.2.2.2.2.2.2.2.2.1
theorem dX12_laysSegments_58 : decode cX12_laysSegments 58 = .ok (.if_icmp .ge 177, 3) := dGR_31_c_954.2.2.2.2.2.2.2.2.2.2.2
set_option maxRecDepth 100000 in
theorem dGR_31_c_955 : (decode cX12_laysSegments 61 = .ok (.iconst 0, 1)) ∧ (decode cX12_laysSegments 62 = .ok (.istore 5, 2)) ∧ (decode cX12_laysSegments 64 = .ok (.iload 5, 2)) ∧ (decode cX12_laysSegments 66 = .ok (.bipush 81, 2)) ∧ (decode cX12_laysSegments 68 = .ok (.if_icmp .ge 161, 3)) ∧ (decode cX12_laysSegments 71 = .ok (.aload_n 0, 1)) ∧ (decode cX12_laysSegments 72 = .ok (.getfield 80, 3)) ∧ (decode cX12_laysSegments 75 = .ok (.iload 5, 2)) ∧ (decode cX12_laysSegments 77 = .ok (.iaload, 1)) ∧ (decode cX12_laysSegments 78 = .ok (.ldc_w 428, 3)) ∧ (decode cX12_laysSegments 81 = .ok (.if_icmp .lt 6, 3)) ∧ (decode cX12_laysSegments 84 = .ok (.goto 139, 3)) := by decide +kernel
theorem dX12_laysSegments_61 : decode cX12_laysSegments 61 = .ok (.iconst 0, 1) := dGR_31_c_955.1
theorem dX12_laysSegments_62 : decode cX12_laysSegments 62 = .ok (.istore 5, 2) := dGR_31_c_955.2.1
theorem dX12_laysSegments_64 : decode cX12_laysSegments 64 = .ok (.iload 5, 2) := dGR_31_c_955.2.2.1
theorem dX12_laysSegments_66 : decode cX12_laysSegments 66 = .ok (.bipush 81, 2) := dGR_31_c_955.2.2.2.1
theorem dX12_laysSegments_68 : decode cX12_laysSegments 68 = .ok (.if_icmp .ge 161, 3) := dGR_31_c_955.2.2.2.2.1
theorem dX12_laysSegments_71 : decode cX12_laysSegments 71 = .ok (.aload_n 0, 1) := dGR_31_c_955.2.2.2.2.2.1
theorem dX12_laysSegments_72 : decode cX12_laysSegments 72 = .ok (.getfield 80, 3) := dGR_31_c_955.2.2.2.2.2.2.1
theorem dX12_laysSegments_75 : decode cX12_laysSegments 75 = .ok (.iload 5, 2) := dGR_31_c_955.2.2.2.2.2.2.2.1
theorem dX12_laysSegments_77 : decode cX12_laysSegments 77 = .ok (.iaload, 1) := dGR_31_c_955.2.2.2.2.2.2.2.2.1
theorem dX12_laysSegments_78 : decode cX12_laysSegments 78 = .ok (.ldc_w 428, 3) := dGR_31_c_955.2.2.2.2.2.2.2.2.2.1
theorem dX12_laysSegments_81 : decode cX12_laysSegments 81 = .ok (.if_icmp .lt 6, 3) := dGR_31_c_955.2.2.2.2.2.2.2.2.2.2.1
theorem dX12_laysSegments_84 : decode cX12_laysSegments 84 = .ok (.goto 139, 3) := dGR_31_c_955.2.2.2.2.2.2.2.2.2.2.2
set_option maxRecDepth 100000 in
theorem dGR_31_c_956 : (decode cX12_laysSegments 87 = .ok (.iload 5, 2)) ∧ (decode cX12_laysSegments 89 = .ok (.bipush 9, 2)) ∧ (decode cX12_laysSegments 91 = .ok (.idiv, 1)) ∧ (decode cX12_laysSegments 92 = .ok (.istore 6, 2)) ∧ (decode cX12_laysSegments 94 = .ok (.iload 5, 2)) ∧ (decode cX12_laysSegments 96 = .ok (.bipush 9, 2)) ∧ (decode cX12_laysSegments 98 = .ok (.irem, 1)) ∧ (decode cX12_laysSegments 99 = .ok (.istore 7, 2)) ∧ (decode cX12_laysSegments 101 = .ok (.iconst 0, 1)) ∧ (decode cX12_laysSegments 102 = .ok (.istore 8, 2)) ∧ (decode cX12_laysSegments 104 = .ok (.iload 8, 2)) ∧ (decode cX12_laysSegments 106 = .ok (.bipush 81, 2)) := by decide +kernel
theorem dX12_laysSegments_87 : decode cX12_laysSegments 87 = .ok (.iload 5, 2) := dGR_31_c_956.1
theorem dX12_laysSegments_89 : decode cX12_laysSegments 89 = .ok (.bipush 9, 2) := dGR_31_c_956.2.1
theorem dX12_laysSegments_91 : decode cX12_laysSegments 91 = .ok (.idiv, 1) := dGR_31_c_956.2.2.1
theorem dX12_laysSegments_92 : decode cX12_laysSegments 92 = .ok (.istore 6, 2) := dGR_31_c_956.2.2.2.1
theorem dX12_laysSegments_94 : decode cX12_laysSegments 94 = .ok (.iload 5, 2) := dGR_31_c_956.2.2.2.2.1
theorem dX12_laysSegments_96 : decode cX12_laysSegments 96 = .ok (.bipush 9, 2) := dGR_31_c_956.2.2.2.2.2.1
theorem dX12_laysSegments_98 : decode cX12_laysSegments 98 = .ok (.irem, 1) := dGR_31_c_956.2.2.2.2.2.2.1
theorem dX12_laysSegments_99 : decode cX12_laysSegments 99 = .ok (.istore 7, 2) := dGR_31_c_956.2.2.2.2.2.2.2.1
theorem dX12_laysSegments_101 : decode cX12_laysSegments 101 = .ok (.iconst 0, 1) := dGR_31_c_956.2.2.2.2.2.2.2.2.1
theorem dX12_laysSegments_102 : decode cX12_laysSegments 102 = .ok (.istore 8, 2) := dGR_31_c_956.2.2.2.2.2.2.2.2.2.1
theorem dX12_laysSegments_104 : decode cX12_laysSegments 104 = .ok (.iload 8, 2) := dGR_31_c_956.2.2.2.2.2.2.2.2.2.2.1
theorem dX12_laysSegments_106 : decode cX12_laysSegments 106 = .ok (.bipush 81, 2) := dGR_31_c_956.2.2.2.2.2.2.2.2.2.2.2
set_option maxRecDepth 100000 in
theorem dGR_31_c_957 : (decode cX12_laysSegments 108 = .ok (.if_icmp .ge 115, 3)) ∧ (decode cX12_laysSegments 111 = .ok (.iload 8, 2)) ∧ (decode cX12_laysSegments 113 = .ok (.bipush 9, 2)) ∧ (decode cX12_laysSegments 115 = .ok (.idiv, 1)) ∧ (decode cX12_laysSegments 116 = .ok (.istore 9, 2)) ∧ (decode cX12_laysSegments 118 = .ok (.iload 8, 2)) ∧ (decode cX12_laysSegments 120 = .ok (.bipush 9, 2)) ∧ (decode cX12_laysSegments 122 = .ok (.irem, 1)) ∧ (decode cX12_laysSegments 123 = .ok (.istore 10, 2)) ∧ (decode cX12_laysSegments 125 = .ok (.aload_n 0, 1)) ∧ (decode cX12_laysSegments 126 = .ok (.iload_n 1, 1)) ∧ (decode cX12_laysSegments 127 = .ok (.iload_n 3, 1)) := by decide +kernel
theorem dX12_laysSegments_108 : decode cX12_laysSegments 108 = .ok (.if_icmp .ge 115, 3) := dGR_31_c_957.1
theorem dX12_laysSegments_111 : decode cX12_laysSegments 111 = .ok (.iload 8, 2) := dGR_31_c_957.2.1
theorem dX12_laysSegments_113 : decode cX12_laysSegments 113 = .ok (.bipush 9, 2) := dGR_31_c_957.2.2.1
theorem dX12_laysSegments_115 : decode cX12_laysSegments 115 = .ok (.idiv, 1) := dGR_31_c_957.2.2.2.1
theorem dX12_laysSegments_116 : decode cX12_laysSegments 116 = .ok (.istore 9, 2) := dGR_31_c_957.2.2.2.2.1
theorem dX12_laysSegments_118 : decode cX12_laysSegments 118 = .ok (.iload 8, 2) := dGR_31_c_957.2.2.2.2.2.1
theorem dX12_laysSegments_120 : decode cX12_laysSegments 120 = .ok (.bipush 9, 2) := dGR_31_c_957.2.2.2.2.2.2.1
theorem dX12_laysSegments_122 : decode cX12_laysSegments 122 = .ok (.irem, 1) := dGR_31_c_957.2.2.2.2.2.2.2.1
theorem dX12_laysSegments_123 : decode cX12_laysSegments 123 = .ok (.istore 10, 2) := dGR_31_c_957.2.2.2.2.2.2.2.2.1
theorem dX12_laysSegments_125 : decode cX12_laysSegments 125 = .ok (.aload_n 0, 1) := dGR_31_c_957.2.2.2.2.2.2.2.2.2.1
theorem dX12_laysSegments_126 : decode cX12_laysSegments 126 = .ok (.iload_n 1, 1) := dGR_31_c_957.2.2.2.2.2.2.2.2.2.2.1
theorem dX12_laysSegments_127 : decode cX12_laysSegments 127 = .ok (.iload_n 3, 1) := dGR_31_c_957.2.2.2.2.2.2.2.2.2.2.2
set_option maxRecDepth 100000 in
theorem dGR_31_c_958 : (decode cX12_laysSegments 128 = .ok (.iload 9, 2)) ∧ (decode cX12_laysSegments 130 = .ok (.iconst 3, 1)) ∧ (decode cX12_laysSegments 131 = .ok (.idiv, 1)) ∧ (decode cX12_laysSegments 132 = .ok (.iload 6, 2)) ∧ (decode cX12_laysSegments 134 = .ok (.iconst 3, 1)) ∧ (decode cX12_laysSegments 135 = .ok (.idiv, 1)) ∧ (decode cX12_laysSegments 136 = .ok (.iload 4, 2)) ∧ (decode cX12_laysSegments 138 = .ok (.iload 7, 2)) ∧ (decode cX12_laysSegments 140 = .ok (.iconst 3, 1)) ∧ (decode cX12_laysSegments 141 = .ok (.idiv, 1)) ∧ (decode cX12_laysSegments 142 = .ok (.iload 10, 2)) ∧ (decode cX12_laysSegments 144 = .ok (.iconst 3, 1)) := by decide +kernel
theorem dX12_laysSegments_128 : decode cX12_laysSegments 128 = .ok (.iload 9, 2) := dGR_31_c_958.1
theorem dX12_laysSegments_130 : decode cX12_laysSegments 130 = .ok (.iconst 3, 1) := dGR_31_c_958.2.1
theorem dX12_laysSegments_131 : decode cX12_laysSegments 131 = .ok (.idiv, 1) := dGR_31_c_958.2.2.1
theorem dX12_laysSegments_132 : decode cX12_laysSegments 132 = .ok (.iload 6, 2) := dGR_31_c_958.2.2.2.1
theorem dX12_laysSegments_134 : decode cX12_laysSegments 134 = .ok (.iconst 3, 1) := dGR_31_c_958.2.2.2.2.1
theorem dX12_laysSegments_135 : decode cX12_laysSegments 135 = .ok (.idiv, 1) := dGR_31_c_958.2.2.2.2.2.1
theorem dX12_laysSegments_136 : decode cX12_laysSegments 136 = .ok (.iload 4, 2) := dGR_31_c_958.2.2.2.2.2.2.1
theorem dX12_laysSegments_138 : decode cX12_laysSegments 138 = .ok (.iload 7, 2) := dGR_31_c_958.2.2.2.2.2.2.2.1
theorem dX12_laysSegments_140 : decode cX12_laysSegments 140 = .ok (.iconst 3, 1) := dGR_31_c_958.2.2.2.2.2.2.2.2.1
theorem dX12_laysSegments_141 : decode cX12_laysSegments 141 = .ok (.idiv, 1) := dGR_31_c_958.2.2.2.2.2.2.2.2.2.1
theorem dX12_laysSegments_142 : decode cX12_laysSegments 142 = .ok (.iload 10, 2) := dGR_31_c_958.2.2.2.2.2.2.2.2.2.2.1
theorem dX12_laysSegments_144 : decode cX12_laysSegments 144 = .ok (.iconst 3, 1) := dGR_31_c_958.2.2.2.2.2.2.2.2.2.2.2
set_option maxRecDepth 100000 in
theorem dGR_31_c_959 : (decode cX12_laysSegments 145 = .ok (.idiv, 1)) ∧ (decode cX12_laysSegments 146 = .ok (.invokevirtual 429, 3)) ∧ (decode cX12_laysSegments 149 = .ok (.ifCond .eq 34, 3)) ∧ (decode cX12_laysSegments 152 = .ok (.aload_n 0, 1)) ∧ (decode cX12_laysSegments 153 = .ok (.iload_n 2, 1)) ∧ (decode cX12_laysSegments 154 = .ok (.iload_n 3, 1)) ∧ (decode cX12_laysSegments 155 = .ok (.iload 9, 2)) ∧ (decode cX12_laysSegments 157 = .ok (.iconst 3, 1)) ∧ (decode cX12_laysSegments 158 = .ok (.irem, 1)) ∧ (decode cX12_laysSegments 159 = .ok (.iload 6, 2)) ∧ (decode cX12_laysSegments 161 = .ok (.iconst 3, 1)) ∧ (decode cX12_laysSegments 162 = .ok (.irem, 1)) := by decide +kernel
theorem dX12_laysSegments_145 : decode cX12_laysSegments 145 = .ok (.idiv, 1) := dGR_31_c_959.1
theorem dX12_laysSegments_146 : decode cX12_laysSegments 146 = .ok (.invokevirtual 429, 3) := dGR_31_c_959.2.1
theorem dX12_laysSegments_149 : decode cX12_laysSegments 149 = .ok (.ifCond .eq 34, 3) := dGR_31_c_959.2.2.1
theorem dX12_laysSegments_152 : decode cX12_laysSegments 152 = .ok (.aload_n 0, 1) := dGR_31_c_959.2.2.2.1
theorem dX12_laysSegments_153 : decode cX12_laysSegments 153 = .ok (.iload_n 2, 1) := dGR_31_c_959.2.2.2.2.1
theorem dX12_laysSegments_154 : decode cX12_laysSegments 154 = .ok (.iload_n 3, 1) := dGR_31_c_959.2.2.2.2.2.1
theorem dX12_laysSegments_155 : decode cX12_laysSegments 155 = .ok (.iload 9, 2) := dGR_31_c_959.2.2.2.2.2.2.1
theorem dX12_laysSegments_157 : decode cX12_laysSegments 157 = .ok (.iconst 3, 1) := dGR_31_c_959.2.2.2.2.2.2.2.1
theorem dX12_laysSegments_158 : decode cX12_laysSegments 158 = .ok (.irem, 1) := dGR_31_c_959.2.2.2.2.2.2.2.2.1
theorem dX12_laysSegments_159 : decode cX12_laysSegments 159 = .ok (.iload 6, 2) := dGR_31_c_959.2.2.2.2.2.2.2.2.2.1
theorem dX12_laysSegments_161 : decode cX12_laysSegments 161 = .ok (.iconst 3, 1) := dGR_31_c_959.2.2.2.2.2.2.2.2.2.2.1
theorem dX12_laysSegments_162 : decode cX12_laysSegments 162 = .ok (.irem, 1) := dGR_31_c_959.2.2.2.2.2.2.2.2.2.2.2
set_option maxRecDepth 100000 in
theorem dGR_31_c_960 : (decode cX12_laysSegments 163 = .ok (.iload 4, 2)) ∧ (decode cX12_laysSegments 165 = .ok (.iload 7, 2)) ∧ (decode cX12_laysSegments 167 = .ok (.iconst 3, 1)) ∧ (decode cX12_laysSegments 168 = .ok (.irem, 1)) ∧ (decode cX12_laysSegments 169 = .ok (.iload 10, 2)) ∧ (decode cX12_laysSegments 171 = .ok (.iconst 3, 1)) ∧ (decode cX12_laysSegments 172 = .ok (.irem, 1)) ∧ (decode cX12_laysSegments 173 = .ok (.invokevirtual 429, 3)) ∧ (decode cX12_laysSegments 176 = .ok (.ifCond .eq 7, 3)) ∧ (decode cX12_laysSegments 179 = .ok (.iconst 1, 1)) ∧ (decode cX12_laysSegments 180 = .ok (.goto 4, 3)) ∧ (decode cX12_laysSegments 183 = .ok (.iconst 0, 1)) := by decide +kernel
theorem dX12_laysSegments_163 : decode cX12_laysSegments 163 = .ok (.iload 4, 2) := dGR_31_c_960.1
theorem dX12_laysSegments_165 : decode cX12_laysSegments 165 = .ok (.iload 7, 2) := dGR_31_c_960.2.1
theorem dX12_laysSegments_167 : decode cX12_laysSegments 167 = .ok (.iconst 3, 1) := dGR_31_c_960.2.2.1
theorem dX12_laysSegments_168 : decode cX12_laysSegments 168 = .ok (.irem, 1) := dGR_31_c_960.2.2.2.1
theorem dX12_laysSegments_169 : decode cX12_laysSegments 169 = .ok (.iload 10, 2) := dGR_31_c_960.2.2.2.2.1
theorem dX12_laysSegments_171 : decode cX12_laysSegments 171 = .ok (.iconst 3, 1) := dGR_31_c_960.2.2.2.2.2.1
theorem dX12_laysSegments_172 : decode cX12_laysSegments 172 = .ok (.irem, 1) := dGR_31_c_960.2.2.2.2.2.2.1
theorem dX12_laysSegments_173 : decode cX12_laysSegments 173 = .ok (.invokevirtual 429, 3) := dGR_31_c_960.2.2.2.2.2.2.2.1
theorem dX12_laysSegments_176 : decode cX12_laysSegments 176 = .ok (.ifCond .eq 7, 3) := dGR_31_c_960.2.2.2.2.2.2.2.2.1
theorem dX12_laysSegments_179 : decode cX12_laysSegments 179 = .ok (.iconst 1, 1) := dGR_31_c_960.2.2.2.2.2.2.2.2.2.1
theorem dX12_laysSegments_180 : decode cX12_laysSegments 180 = .ok (.goto 4, 3) := dGR_31_c_960.2.2.2.2.2.2.2.2.2.2.1
theorem dX12_laysSegments_183 : decode cX12_laysSegments 183 = .ok (.iconst 0, 1) := dGR_31_c_960.2.2.2.2.2.2.2.2.2.2.2
set_option maxRecDepth 100000 in
theorem dGR_31_c_961 : (decode cX12_laysSegments 184 = .ok (.istore 11, 2)) ∧ (decode cX12_laysSegments 186 = .ok (.iload 11, 2)) ∧ (decode cX12_laysSegments 188 = .ok (.ifCond .eq 29, 3)) ∧ (decode cX12_laysSegments 191 = .ok (.aload_n 0, 1)) ∧ (decode cX12_laysSegments 192 = .ok (.getfield 83, 3)) ∧ (decode cX12_laysSegments 195 = .ok (.iload 8, 2)) ∧ (decode cX12_laysSegments 197 = .ok (.aload_n 0, 1)) ∧ (decode cX12_laysSegments 198 = .ok (.getfield 83, 3)) ∧ (decode cX12_laysSegments 201 = .ok (.iload 8, 2)) ∧ (decode cX12_laysSegments 203 = .ok (.iaload, 1)) ∧ (decode cX12_laysSegments 204 = .ok (.aload_n 0, 1)) ∧ (decode cX12_laysSegments 205 = .ok (.getfield 80, 3)) := by decide +kernel
theorem dX12_laysSegments_184 : decode cX12_laysSegments 184 = .ok (.istore 11, 2) := dGR_31_c_961.1
theorem dX12_laysSegments_186 : decode cX12_laysSegments 186 = .ok (.iload 11, 2) := dGR_31_c_961.2.1
theorem dX12_laysSegments_188 : decode cX12_laysSegments 188 = .ok (.ifCond .eq 29, 3) := dGR_31_c_961.2.2.1
theorem dX12_laysSegments_191 : decode cX12_laysSegments 191 = .ok (.aload_n 0, 1) := dGR_31_c_961.2.2.2.1
theorem dX12_laysSegments_192 : decode cX12_laysSegments 192 = .ok (.getfield 83, 3) := dGR_31_c_961.2.2.2.2.1
theorem dX12_laysSegments_195 : decode cX12_laysSegments 195 = .ok (.iload 8, 2) := dGR_31_c_961.2.2.2.2.2.1
theorem dX12_laysSegments_197 : decode cX12_laysSegments 197 = .ok (.aload_n 0, 1) := dGR_31_c_961.2.2.2.2.2.2.1
theorem dX12_laysSegments_198 : decode cX12_laysSegments 198 = .ok (.getfield 83, 3) := dGR_31_c_961.2.2.2.2.2.2.2.1
theorem dX12_laysSegments_201 : decode cX12_laysSegments 201 = .ok (.iload 8, 2) := dGR_31_c_961.2.2.2.2.2.2.2.2.1
theorem dX12_laysSegments_203 : decode cX12_laysSegments 203 = .ok (.iaload, 1) := dGR_31_c_961.2.2.2.2.2.2.2.2.2.1
theorem dX12_laysSegments_204 : decode cX12_laysSegments 204 = .ok (.aload_n 0, 1) := dGR_31_c_961.2.2.2.2.2.2.2.2.2.2.1
theorem dX12_laysSegments_205 : decode cX12_laysSegments 205 = .ok (.getfield 80, 3) := dGR_31_c_961.2.2.2.2.2.2.2.2.2.2.2
set_option maxRecDepth 100000 in
theorem dGR_31_c_962 : (decode cX12_laysSegments 208 = .ok (.iload 5, 2)) ∧ (decode cX12_laysSegments 210 = .ok (.iaload, 1)) ∧ (decode cX12_laysSegments 211 = .ok (.iconst 2, 1)) ∧ (decode cX12_laysSegments 212 = .ok (.iadd, 1)) ∧ (decode cX12_laysSegments 213 = .ok (.invokestatic 178, 3)) ∧ (decode cX12_laysSegments 216 = .ok (.iastore, 1)) ∧ (decode cX12_laysSegments 217 = .ok (.iinc 8 1, 3)) ∧ (decode cX12_laysSegments 220 = .ok (.goto (-116), 3)) ∧ (decode cX12_laysSegments 223 = .ok (.iinc 5 1, 3)) ∧ (decode cX12_laysSegments 226 = .ok (.goto (-162), 3)) ∧ (decode cX12_laysSegments 229 = .ok (.iinc 4 1, 3)) ∧ (decode cX12_laysSegments 232 = .ok (.goto (-189), 3)) := by decide +kernel
theorem dX12_laysSegments_208 : decode cX12_laysSegments 208 = .ok (.iload 5, 2) := dGR_31_c_962.1
theorem dX12_laysSegments_210 : decode cX12_laysSegments 210 = .ok (.iaload, 1) := dGR_31_c_962.2.1
theorem dX12_laysSegments_211 : decode cX12_laysSegments 211 = .ok (.iconst 2, 1) := dGR_31_c_962.2.2.1
theorem dX12_laysSegments_212 : decode cX12_laysSegments 212 = .ok (.iadd, 1) := dGR_31_c_962.2.2.2.1
theorem dX12_laysSegments_213 : decode cX12_laysSegments 213 = .ok (.invokestatic 178, 3) := dGR_31_c_962.2.2.2.2.1
theorem dX12_laysSegments_216 : decode cX12_laysSegments 216 = .ok (.iastore, 1) := dGR_31_c_962.2.2.2.2.2.1
theorem dX12_laysSegments_217 : decode cX12_laysSegments 217 = .ok (.iinc 8 1, 3) := dGR_31_c_962.2.2.2.2.2.2.1
theorem dX12_laysSegments_220 : decode cX12_laysSegments 220 = .ok (.goto (-116), 3) := dGR_31_c_962.2.2.2.2.2.2.2.1
theorem dX12_laysSegments_223 : decode cX12_laysSegments 223 = .ok (.iinc 5 1, 3) := dGR_31_c_962.2.2.2.2.2.2.2.2.1
theorem dX12_laysSegments_226 : decode cX12_laysSegments 226 = .ok (.goto (-162), 3) := dGR_31_c_962.2.2.2.2.2.2.2.2.2.1
theorem dX12_laysSegments_229 : decode cX12_laysSegments 229 = .ok (.iinc 4 1, 3) := dGR_31_c_962.2.2.2.2.2.2.2.2.2.2.1
theorem dX12_laysSegments_232 : decode cX12_laysSegments 232 = .ok (.goto (-189), 3) := dGR_31_c_962.2.2.2.2.2.2.2.2.2.2.2
set_option maxRecDepth 100000 in
theorem dGR_31_c_963 : (decode cX12_laysSegments 235 = .ok (.iinc 3 1, 3)) ∧ (decode cX12_laysSegments 238 = .ok (.goto (-213), 3)) ∧ (decode cX12_laysSegments 241 = .ok (.return_, 1)) := by decide +kernel
theorem dX12_laysSegments_235 : decode cX12_laysSegments 235 = .ok (.iinc 3 1, 3) := dGR_31_c_963.1
theorem dX12_laysSegments_238 : decode cX12_laysSegments 238 = .ok (.goto (-213), 3) := dGR_31_c_963.2.1
theorem dX12_laysSegments_241 : decode cX12_laysSegments 241 = .ok (.return_, 1) := dGR_31_c_963.2.2
abbrev f_c_X12_laysSegments : List (Nat × Int) := [(84, -1)]
set_option maxHeartbeats 4000000 in
set_option maxRecDepth 100000 in
theorem c_X12_laysSegments (G : KG) (l : Launch) (M : Mem) (a1 : Int) (a2 : Int) (hI_M : Inv true M) (hpre : -2147483648 ≤ a1 ∧ a1 ≤ 2147483647 ∧ -2147483648 ≤ a2 ∧ a2 ≤ 2147483647 ∧ 0 ≤ a1 ∧ a1 ≤ 2 ∧ 0 ≤ a2 ∧ a2 ≤ 2) : KC true G l yX12_laysSegments cX12_laysSegments 12 none (2, 50) [vR G 163, vI a1, vI a2] M (fun A => kQv true G A (fun (N : Mem) => Inv true N ∧ Fr f_c_X12_laysSegments M N)) := by
  refine kx_met (lo := [some (vR G 163), some (vI a1), some (vI a2), none, none, none, none, none, none, none, none, none]) (by decide) (Nat.le_of_ble_eq_true rfl) rfl ?_
  intro X F hQ
  have hF_M : Fr f_c_X12_laysSegments M M := Fr.rf _ _
  refine kx_iconst 1 F dX12_laysSegments_0 rfl ?_
  refine kx_istore_n 2 F 3 (lo' := [some (vR G 163), some (vI a1), some (vI a2), some (vI 0), none, none, none, none, none, none, none, none]) dX12_laysSegments_1 rfl (by decide) rfl rfl rfl ?_
  have L_56249 : ∀ (n_56250 : Nat) (x3_56247 : Int) (N_56248 : Mem), Inv true N_56248 → Fr f_c_X12_laysSegments M N_56248 → 0 ≤ x3_56247 ∧ x3_56247 ≤ 81 → (81 - (x3_56247)).toNat = n_56250 → KJ true G X N_56248 2 [some (vR G 163), some (vI a1), some (vI a2), some (vI x3_56247), none, none, none, none, none, none, none, none] [] := by
    intro n_56250
    refine Nat.strongRecOn n_56250 ?_
    intro n_56250 ih_56251 x3_56247 N_56248 hI_N_56248 hF_N_56248 h_56252 hm_56253
    refine kx_iload_n 3 F 3 dX12_laysSegments_2 rfl rfl rfl ?_
    refine kx_bipush 5 F dX12_laysSegments_3 (by decide) rfl ?_
    refine kx_icmp_ge 8 F 23 dX12_laysSegments_5 (by decide) rfl (by omega) (by decide) (fun h_56254 => ?_) (fun h_56254 => ?_)
    · refine kx_iconst 24 F dX12_laysSegments_23 rfl ?_
      refine kx_istore_n 25 F 3 (lo' := [some (vR G 163), some (vI a1), some (vI a2), some (vI 0), none, none, none, none, none, none, none, none]) dX12_laysSegments_24 rfl (by decide) rfl rfl rfl ?_
      have L_77335 : ∀ (n_77336 : Nat) (x3_77333 : Int) (N_77334 : Mem), Inv true N_77334 → Fr f_c_X12_laysSegments M N_77334 → 0 ≤ x3_77333 ∧ x3_77333 ≤ 2 → (2 - (x3_77333)).toNat = n_77336 → KJ true G X N_77334 25 [some (vR G 163), some (vI a1), some (vI a2), some (vI x3_77333), none, none, none, none, none, none, none, none] [] := by
        intro n_77336
        refine Nat.strongRecOn n_77336 ?_
        intro n_77336 ih_77337 x3_77333 N_77334 hI_N_77334 hF_N_77334 h_77338 hm_77339
        refine kx_iload_n 26 F 3 dX12_laysSegments_25 rfl rfl rfl ?_
        refine kx_aload_n 27 F 0 dX12_laysSegments_26 rfl rfl rfl ?_
        refine kx_getr 30 F fl_X12_7 kd_163 rfl rfl (j := 0) rfl dX12_laysSegments_27 (v := 164) (uq_164 (Inv.r hI_N_77334 kd_163 rfl 0 rfl rfl)) rfl ?_
        refine kx_iconst 31 F dX12_laysSegments_30 rfl ?_
        refine kx_iald 32 F kd_164 rfl rfl (by omega) (by decide) dX12_laysSegments_31 (v := (M 164 0)) (by rw [Fr.e hF_N_77334 kd_164 _ rfl]) rfl ?_
        have ha_77340 : atlo 0 = 0 ∧ athi 0 = 2 := at_c 0 0 (o := 0) (lo := 0) (hi := 2) (by omega) (by decide) (by decide) (by decide)
        have h_77341 := Inv.g hI_M kd_164 rfl 0 (a := 0) (b := 2) ha_77340.1 ha_77340.2
        refine kx_icmp_ge 35 F 241 dX12_laysSegments_32 (by decide) rfl (by omega) (by omega) (fun h_77342 => ?_) (fun h_77342 => ?_)
        · exact kx_vret F hQ ⟨hI_N_77334, hF_N_77334⟩ dX12_laysSegments_241
        · refine kx_aload_n 36 F 0 dX12_laysSegments_35 rfl rfl rfl ?_
          refine kx_getr 39 F fl_X12_7 kd_163 rfl rfl (j := 0) rfl dX12_laysSegments_36 (v := 164) (uq_164 (Inv.r hI_N_77334 kd_163 rfl 0 rfl rfl)) rfl ?_
          refine kx_iconst 40 F dX12_laysSegments_39 rfl ?_
          refine kx_iald 41 F kd_164 rfl rfl (by omega) (by decide) dX12_laysSegments_40 (v := (M 164 0)) (by rw [Fr.e hF_N_77334 kd_164 _ rfl]) rfl ?_
          refine kx_istore 43 F 4 (lo' := [some (vR G 163), some (vI a1), some (vI a2), some (vI x3_77333), some (vI (M 164 0)), none, none, none, none, none, none, none]) dX12_laysSegments_41 (by decide) rfl rfl rfl ?_
          have L_82607 : ∀ (n_82608 : Nat) (x4_82605 : Int) (N_82606 : Mem), Inv true N_82606 → Fr f_c_X12_laysSegments M N_82606 → 1 ≤ x4_82605 ∧ x4_82605 ≤ 4 ∧ (M 164 0) ≤ x4_82605 → (4 - (x4_82605)).toNat = n_82608 → KJ true G X N_82606 43 [some (vR G 163), some (vI a1), some (vI a2), some (vI x3_77333), some (vI x4_82605), none, none, none, none, none, none, none] [] := by
            intro n_82608
            refine Nat.strongRecOn n_82608 ?_
            intro n_82608 ih_82609 x4_82605 N_82606 hI_N_82606 hF_N_82606 h_82610 hm_82611
            refine kx_iload 45 F 4 dX12_laysSegments_43 rfl rfl ?_
            refine kx_aload_n 46 F 0 dX12_laysSegments_45 rfl rfl rfl ?_
            refine kx_getr 49 F fl_X12_7 kd_163 rfl rfl (j := 0) rfl dX12_laysSegments_46 (v := 164) (uq_164 (Inv.r hI_N_82606 kd_163 rfl 0 rfl rfl)) rfl ?_
            refine kx_iconst 50 F dX12_laysSegments_49 rfl ?_
            refine kx_iald 51 F kd_164 rfl rfl (by omega) (by decide) dX12_laysSegments_50 (v := (M 164 0)) (by rw [Fr.e hF_N_82606 kd_164 _ rfl]) rfl ?_
            refine kx_aload_n 52 F 0 dX12_laysSegments_51 rfl rfl rfl ?_
            refine kx_getr 55 F fl_X12_7 kd_163 rfl rfl (j := 0) rfl dX12_laysSegments_52 (v := 164) (uq_164 (Inv.r hI_N_82606 kd_163 rfl 0 rfl rfl)) rfl ?_
            refine kx_iconst 56 F dX12_laysSegments_55 rfl ?_
            refine kx_iald 57 F kd_164 rfl rfl (by omega) (by decide) dX12_laysSegments_56 (v := (M 164 1)) (by rw [Fr.e hF_N_82606 kd_164 _ rfl]) rfl ?_
            have ha_82612 : atlo 1 = 0 ∧ athi 1 = 2 := at_c 1 0 (o := 1) (lo := 0) (hi := 2) (by omega) (by decide) (by decide) (by decide)
            have h_82613 := Inv.g hI_M kd_164 rfl 1 (a := 0) (b := 2) ha_82612.1 ha_82612.2
            refine kx_iadd 58 F (v := (M 164 0) + (M 164 1)) dX12_laysSegments_57 rfl rfl ?_
            refine kx_icmp_ge 61 F 235 dX12_laysSegments_58 (by decide) rfl (by omega) (by omega) (fun h_82614 => ?_) (fun h_82614 => ?_)
            · refine kx_iinc 238 F 3 (v := x3_77333 + 1) (lo' := [some (vR G 163), some (vI a1), some (vI a2), some (vI (x3_77333 + 1)), some (vI x4_82605), none, none, none, none, none, none, none]) dX12_laysSegments_235 rfl (by omega) (by decide) rfl rfl rfl ?_
              refine kx_goto 25 F dX12_laysSegments_238 (by decide) ?_
              refine kx_drop 4 (lo' := [some (vR G 163), some (vI a1), some (vI a2), some (vI (x3_77333 + 1)), none, none, none, none, none, none, none, none]) rfl ?_
              exact ih_77337 _ (by omega) (x3_77333 + 1) N_82606 hI_N_82606 hF_N_82606 (by omega) rfl
            · refine kx_iconst 62 F dX12_laysSegments_61 rfl ?_
              refine kx_istore 64 F 5 (lo' := [some (vR G 163), some (vI a1), some (vI a2), some (vI x3_77333), some (vI x4_82605), some (vI 0), none, none, none, none, none, none]) dX12_laysSegments_62 (by decide) rfl rfl rfl ?_
              have L_84143 : ∀ (n_84144 : Nat) (x5_84141 : Int) (N_84142 : Mem), Inv true N_84142 → Fr f_c_X12_laysSegments M N_84142 → 0 ≤ x5_84141 ∧ x5_84141 ≤ 81 → (81 - (x5_84141)).toNat = n_84144 → KJ true G X N_84142 64 [some (vR G 163), some (vI a1), some (vI a2), some (vI x3_77333), some (vI x4_82605), some (vI x5_84141), none, none, none, none, none, none] [] := by
                intro n_84144
                refine Nat.strongRecOn n_84144 ?_
                intro n_84144 ih_84145 x5_84141 N_84142 hI_N_84142 hF_N_84142 h_84146 hm_84147
                refine kx_iload 66 F 5 dX12_laysSegments_64 rfl rfl ?_
                refine kx_bipush 68 F dX12_laysSegments_66 (by decide) rfl ?_
                refine kx_icmp_ge 71 F 229 dX12_laysSegments_68 (by decide) rfl (by omega) (by decide) (fun h_84148 => ?_) (fun h_84148 => ?_)
                · refine kx_iinc 232 F 4 (v := x4_82605 + 1) (lo' := [some (vR G 163), some (vI a1), some (vI a2), some (vI x3_77333), some (vI (x4_82605 + 1)), some (vI x5_84141), none, none, none, none, none, none]) dX12_laysSegments_229 rfl (by omega) (by decide) rfl rfl rfl ?_
                  refine kx_goto 43 F dX12_laysSegments_232 (by decide) ?_
                  refine kx_drop 5 (lo' := [some (vR G 163), some (vI a1), some (vI a2), some (vI x3_77333), some (vI (x4_82605 + 1)), none, none, none, none, none, none, none]) rfl ?_
                  exact ih_82609 _ (by omega) (x4_82605 + 1) N_84142 hI_N_84142 hF_N_84142 (by omega) rfl
                · refine kx_aload_n 72 F 0 dX12_laysSegments_71 rfl rfl rfl ?_
                  refine kx_getr 75 F fl_X12_80 kd_163 rfl rfl (j := 36) rfl dX12_laysSegments_72 (v := 183) (uq_183 (Inv.r hI_N_84142 kd_163 rfl 36 rfl rfl)) rfl ?_
                  refine kx_iload 77 F 5 dX12_laysSegments_75 rfl rfl ?_
                  refine kx_iald 78 F kd_183 rfl rfl (by omega) (by decide) dX12_laysSegments_77 (v := (M 183 x5_84141)) (by rw [Fr.e hF_N_84142 kd_183 _ rfl]) rfl ?_
                  have h_84149 := Inv.g hI_M kd_183 rfl x5_84141 (a := 0) (b := 1000000) rfl rfl
                  refine kx_ldcw 81 (z := 1000000) F dX12_laysSegments_78 ct_X12_428 rfl ?_
                  have J_84365 : ∀ (N_84364 : Mem), Inv true N_84364 → Fr f_c_X12_laysSegments M N_84364 → KJ true G X N_84364 223 [some (vR G 163), some (vI a1), some (vI a2), some (vI x3_77333), some (vI x4_82605), some (vI x5_84141), none, none, none, none, none, none] [] := by
                    intro N_84364 hI_N_84364 hF_N_84364
                    refine kx_iinc 226 F 5 (v := x5_84141 + 1) (lo' := [some (vR G 163), some (vI a1), some (vI a2), some (vI x3_77333), some (vI x4_82605), some (vI (x5_84141 + 1)), none, none, none, none, none, none]) dX12_laysSegments_223 rfl (by omega) (by decide) rfl rfl rfl ?_
                    refine kx_goto 64 F dX12_laysSegments_226 (by decide) ?_
                    exact ih_84145 _ (by omega) (x5_84141 + 1) N_84364 hI_N_84364 hF_N_84364 (by omega) rfl
                  refine kx_icmp_lt 84 F 87 dX12_laysSegments_81 (by decide) rfl (by omega) (by decide) (fun h_84367 => ?_) (fun h_84367 => ?_)
                  · refine kx_iload 89 F 5 dX12_laysSegments_87 rfl rfl ?_
                    refine kx_bipush 91 F dX12_laysSegments_89 (by decide) rfl ?_
                    refine kx_idiv 92 F (v := (x5_84141 / 9)) dX12_laysSegments_91 (by omega) (by decide) rfl rfl ?_
                    refine kx_istore 94 F 6 (lo' := [some (vR G 163), some (vI a1), some (vI a2), some (vI x3_77333), some (vI x4_82605), some (vI x5_84141), some (vI (x5_84141 / 9)), none, none, none, none, none]) dX12_laysSegments_92 (by decide) rfl rfl rfl ?_
                    refine kx_iload 96 F 5 dX12_laysSegments_94 rfl rfl ?_
                    refine kx_bipush 98 F dX12_laysSegments_96 (by decide) rfl ?_
                    refine kx_irem 99 F (v := (x5_84141 % 9)) dX12_laysSegments_98 (by omega) (by decide) rfl rfl ?_
                    refine kx_istore 101 F 7 (lo' := [some (vR G 163), some (vI a1), some (vI a2), some (vI x3_77333), some (vI x4_82605), some (vI x5_84141), some (vI (x5_84141 / 9)), some (vI (x5_84141 % 9)), none, none, none, none]) dX12_laysSegments_99 (by decide) rfl rfl rfl ?_
                    refine kx_iconst 102 F dX12_laysSegments_101 rfl ?_
                    refine kx_istore 104 F 8 (lo' := [some (vR G 163), some (vI a1), some (vI a2), some (vI x3_77333), some (vI x4_82605), some (vI x5_84141), some (vI (x5_84141 / 9)), some (vI (x5_84141 % 9)), some (vI 0), none, none, none]) dX12_laysSegments_102 (by decide) rfl rfl rfl ?_
                    have L_84552 : ∀ (n_84553 : Nat) (x8_84550 : Int) (N_84551 : Mem), Inv true N_84551 → Fr f_c_X12_laysSegments M N_84551 → 0 ≤ x8_84550 ∧ x8_84550 ≤ 81 → (81 - (x8_84550)).toNat = n_84553 → KJ true G X N_84551 104 [some (vR G 163), some (vI a1), some (vI a2), some (vI x3_77333), some (vI x4_82605), some (vI x5_84141), some (vI (x5_84141 / 9)), some (vI (x5_84141 % 9)), some (vI x8_84550), none, none, none] [] := by
                      intro n_84553
                      refine Nat.strongRecOn n_84553 ?_
                      intro n_84553 ih_84554 x8_84550 N_84551 hI_N_84551 hF_N_84551 h_84555 hm_84556
                      refine kx_iload 106 F 8 dX12_laysSegments_104 rfl rfl ?_
                      refine kx_bipush 108 F dX12_laysSegments_106 (by decide) rfl ?_
                      refine kx_icmp_ge 111 F 223 dX12_laysSegments_108 (by decide) rfl (by omega) (by decide) (fun h_84557 => ?_) (fun h_84557 => ?_)
                      · refine kx_drop 6 (lo' := [some (vR G 163), some (vI a1), some (vI a2), some (vI x3_77333), some (vI x4_82605), some (vI x5_84141), none, some (vI (x5_84141 % 9)), some (vI x8_84550), none, none, none]) rfl ?_
                        refine kx_drop 7 (lo' := [some (vR G 163), some (vI a1), some (vI a2), some (vI x3_77333), some (vI x4_82605), some (vI x5_84141), none, none, some (vI x8_84550), none, none, none]) rfl ?_
                        refine kx_drop 8 (lo' := [some (vR G 163), some (vI a1), some (vI a2), some (vI x3_77333), some (vI x4_82605), some (vI x5_84141), none, none, none, none, none, none]) rfl ?_
                        exact J_84365 N_84551 hI_N_84551 hF_N_84551
                      · refine kx_iload 113 F 8 dX12_laysSegments_111 rfl rfl ?_
                        refine kx_bipush 115 F dX12_laysSegments_113 (by decide) rfl ?_
                        refine kx_idiv 116 F (v := (x8_84550 / 9)) dX12_laysSegments_115 (by omega) (by decide) rfl rfl ?_
                        refine kx_istore 118 F 9 (lo' := [some (vR G 163), some (vI a1), some (vI a2), some (vI x3_77333), some (vI x4_82605), some (vI x5_84141), some (vI (x5_84141 / 9)), some (vI (x5_84141 % 9)), some (vI x8_84550), some (vI (x8_84550 / 9)), none, none]) dX12_laysSegments_116 (by decide) rfl rfl rfl ?_
                        refine kx_iload 120 F 8 dX12_laysSegments_118 rfl rfl ?_
                        refine kx_bipush 122 F dX12_laysSegments_120 (by decide) rfl ?_
                        refine kx_irem 123 F (v := (x8_84550 % 9)) dX12_laysSegments_122 (by omega) (by decide) rfl rfl ?_
                        refine kx_istore 125 F 10 (lo' := [some (vR G 163), some (vI a1), some (vI a2), some (vI x3_77333), some (vI x4_82605), some (vI x5_84141), some (vI (x5_84141 / 9)), some (vI (x5_84141 % 9)), some (vI x8_84550), some (vI (x8_84550 / 9)), some (vI (x8_84550 % 9)), none]) dX12_laysSegments_123 (by decide) rfl rfl rfl ?_
                        refine kx_aload_n 126 F 0 dX12_laysSegments_125 rfl rfl rfl ?_
                        refine kx_iload_n 127 F 1 dX12_laysSegments_126 rfl rfl rfl ?_
                        refine kx_iload_n 128 F 3 dX12_laysSegments_127 rfl rfl rfl ?_
                        refine kx_iload 130 F 9 dX12_laysSegments_128 rfl rfl ?_
                        refine kx_iconst 131 F dX12_laysSegments_130 rfl ?_
                        refine kx_idiv 132 F (v := ((x8_84550 / 9) / 3)) dX12_laysSegments_131 (by omega) (by decide) rfl rfl ?_
                        refine kx_iload 134 F 6 dX12_laysSegments_132 rfl rfl ?_
                        refine kx_iconst 135 F dX12_laysSegments_134 rfl ?_
                        refine kx_idiv 136 F (v := ((x5_84141 / 9) / 3)) dX12_laysSegments_135 (by omega) (by decide) rfl rfl ?_
                        refine kx_iload 138 F 4 dX12_laysSegments_136 rfl rfl ?_
                        refine kx_iload 140 F 7 dX12_laysSegments_138 rfl rfl ?_
                        refine kx_iconst 141 F dX12_laysSegments_140 rfl ?_
                        refine kx_idiv 142 F (v := ((x5_84141 % 9) / 3)) dX12_laysSegments_141 (by omega) (by decide) rfl rfl ?_
                        refine kx_iload 144 F 10 dX12_laysSegments_142 rfl rfl ?_
                        refine kx_iconst 145 F dX12_laysSegments_144 rfl ?_
                        refine kx_idiv 146 F (v := ((x8_84550 % 9) / 3)) dX12_laysSegments_145 (by omega) (by decide) rfl rfl ?_
                        refine kx_Vi 149 (ci := 0) F (As := [vI a1, vI x3_77333, vI ((x8_84550 / 9) / 3), vI ((x5_84141 / 9) / 3), vI x4_82605, vI ((x5_84141 % 9) / 3), vI ((x8_84550 % 9) / 3)]) (st := []) vd_X12_429 (c_X12_fits G l N_84551 a1 x3_77333 ((x8_84550 / 9) / 3) ((x5_84141 / 9) / 3) x4_82605 ((x5_84141 % 9) / 3) ((x8_84550 % 9) / 3) hI_N_84551 (by omega)) kd_163 rfl rfl rfl ⟨by decide, by decide⟩ rfl rfl (Nat.le_of_ble_eq_true rfl) dX12_laysSegments_146 rfl ?_
                        intro r_84558 N_84559 q_84560
                        obtain ⟨rfl, q_84560c⟩ := q_84560
                        have J_84572 : ∀ (y0_84571 : Int), 0 ≤ y0_84571 ∧ y0_84571 ≤ 1 → KJ true G X N_84551 184 [some (vR G 163), some (vI a1), some (vI a2), some (vI x3_77333), some (vI x4_82605), some (vI x5_84141), some (vI (x5_84141 / 9)), some (vI (x5_84141 % 9)), some (vI x8_84550), none, none, none] [vI y0_84571] := by
                          intro y0_84571 h_84573
                          refine kx_istore 186 F 11 (lo' := [some (vR G 163), some (vI a1), some (vI a2), some (vI x3_77333), some (vI x4_82605), some (vI x5_84141), some (vI (x5_84141 / 9)), some (vI (x5_84141 % 9)), some (vI x8_84550), none, none, some (vI y0_84571)]) dX12_laysSegments_184 (by decide) rfl rfl rfl ?_
                          refine kx_iload 188 F 11 dX12_laysSegments_186 rfl rfl ?_
                          have J_84580 : ∀ (N_84579 : Mem), Inv true N_84579 → Fr f_c_X12_laysSegments M N_84579 → KJ true G X N_84579 217 [some (vR G 163), some (vI a1), some (vI a2), some (vI x3_77333), some (vI x4_82605), some (vI x5_84141), some (vI (x5_84141 / 9)), some (vI (x5_84141 % 9)), some (vI x8_84550), none, none, none] [] := by
                            intro N_84579 hI_N_84579 hF_N_84579
                            refine kx_iinc 220 F 8 (v := x8_84550 + 1) (lo' := [some (vR G 163), some (vI a1), some (vI a2), some (vI x3_77333), some (vI x4_82605), some (vI x5_84141), some (vI (x5_84141 / 9)), some (vI (x5_84141 % 9)), some (vI (x8_84550 + 1)), none, none, none]) dX12_laysSegments_217 rfl (by omega) (by decide) rfl rfl rfl ?_
                            refine kx_goto 104 F dX12_laysSegments_220 (by decide) ?_
                            exact ih_84554 _ (by omega) (x8_84550 + 1) N_84579 hI_N_84579 hF_N_84579 (by omega) rfl
                          refine kx_if_eq 191 F 217 dX12_laysSegments_188 (by decide) rfl (by omega) (fun h_84582 => ?_) (fun h_84582 => ?_)
                          · refine kx_drop 11 (lo' := [some (vR G 163), some (vI a1), some (vI a2), some (vI x3_77333), some (vI x4_82605), some (vI x5_84141), some (vI (x5_84141 / 9)), some (vI (x5_84141 % 9)), some (vI x8_84550), none, none, none]) rfl ?_
                            exact J_84580 N_84551 hI_N_84551 hF_N_84551
                          · refine kx_aload_n 192 F 0 dX12_laysSegments_191 rfl rfl rfl ?_
                            refine kx_getr 195 F fl_X12_83 kd_163 rfl rfl (j := 37) rfl dX12_laysSegments_192 (v := 184) (uq_184 (Inv.r hI_N_84551 kd_163 rfl 37 rfl rfl)) rfl ?_
                            refine kx_iload 197 F 8 dX12_laysSegments_195 rfl rfl ?_
                            refine kx_aload_n 198 F 0 dX12_laysSegments_197 rfl rfl rfl ?_
                            refine kx_getr 201 F fl_X12_83 kd_163 rfl rfl (j := 37) rfl dX12_laysSegments_198 (v := 184) (uq_184 (Inv.r hI_N_84551 kd_163 rfl 37 rfl rfl)) rfl ?_
                            refine kx_iload 203 F 8 dX12_laysSegments_201 rfl rfl ?_
                            refine kx_iald 204 F kd_184 rfl rfl (by omega) (by decide) dX12_laysSegments_203 (v := (N_84551 184 x8_84550)) rfl rfl ?_
                            have h_84583 := Inv.g hI_N_84551 kd_184 rfl x8_84550 (a := 0) (b := 1000000) rfl rfl
                            refine kx_aload_n 205 F 0 dX12_laysSegments_204 rfl rfl rfl ?_
                            refine kx_getr 208 F fl_X12_80 kd_163 rfl rfl (j := 36) rfl dX12_laysSegments_205 (v := 183) (uq_183 (Inv.r hI_N_84551 kd_163 rfl 36 rfl rfl)) rfl ?_
                            refine kx_iload 210 F 5 dX12_laysSegments_208 rfl rfl ?_
                            refine kx_iald 211 F kd_183 rfl rfl (by omega) (by decide) dX12_laysSegments_210 (v := (M 183 x5_84141)) (by rw [Fr.e hF_N_84551 kd_183 _ rfl]) rfl ?_
                            refine kx_iconst 212 F dX12_laysSegments_211 rfl ?_
                            refine kx_iadd 213 F (v := (M 183 x5_84141) + 2) dX12_laysSegments_212 rfl rfl ?_
                            refine kx_mmin 216 F dX12_laysSegments_213 (tt lm_1833 rfl) (tt lm_800 rfl) (tt lm_180 rfl) (tt lm_801 rfl) (by decide) (Nat.le_of_ble_eq_true rfl) (by omega) (by omega) rfl (fun w_84584 h_84585 => ?_)
                            refine kx_iast 217 F kd_184 rfl rfl (by omega) (by decide) dX12_laysSegments_216 rfl ?_
                            intro N_84586 hM_N_84586
                            have hI_N_84586 : Inv true N_84586 := Inv.u hI_N_84551 hM_N_84586 kd_184 (a := 0) (b := 1000000) rfl rfl rfl (by omega)
                            have hF_N_84586 : Fr f_c_X12_laysSegments M N_84586 := Fr.u hF_N_84551 hM_N_84586 kd_184 rfl
                            refine kx_drop 11 (lo' := [some (vR G 163), some (vI a1), some (vI a2), some (vI x3_77333), some (vI x4_82605), some (vI x5_84141), some (vI (x5_84141 / 9)), some (vI (x5_84141 % 9)), some (vI x8_84550), none, none, none]) rfl ?_
                            exact J_84580 N_84586 hI_N_84586 hF_N_84586
                        have J_84597 : KJ true G X N_84551 183 [some (vR G 163), some (vI a1), some (vI a2), some (vI x3_77333), some (vI x4_82605), some (vI x5_84141), some (vI (x5_84141 / 9)), some (vI (x5_84141 % 9)), some (vI x8_84550), none, none, none] [] := by
                          refine kx_iconst 184 F dX12_laysSegments_183 rfl ?_
                          exact J_84572 0 (by omega)
                        refine kx_if_eq 152 F 183 dX12_laysSegments_149 (by decide) rfl (by omega) (fun h_84599 => ?_) (fun h_84599 => ?_)
                        · refine kx_drop 9 (lo' := [some (vR G 163), some (vI a1), some (vI a2), some (vI x3_77333), some (vI x4_82605), some (vI x5_84141), some (vI (x5_84141 / 9)), some (vI (x5_84141 % 9)), some (vI x8_84550), none, some (vI (x8_84550 % 9)), none]) rfl ?_
                          refine kx_drop 10 (lo' := [some (vR G 163), some (vI a1), some (vI a2), some (vI x3_77333), some (vI x4_82605), some (vI x5_84141), some (vI (x5_84141 / 9)), some (vI (x5_84141 % 9)), some (vI x8_84550), none, none, none]) rfl ?_
                          exact J_84597 
                        · refine kx_aload_n 153 F 0 dX12_laysSegments_152 rfl rfl rfl ?_
                          refine kx_iload_n 154 F 2 dX12_laysSegments_153 rfl rfl rfl ?_
                          refine kx_iload_n 155 F 3 dX12_laysSegments_154 rfl rfl rfl ?_
                          refine kx_iload 157 F 9 dX12_laysSegments_155 rfl rfl ?_
                          refine kx_iconst 158 F dX12_laysSegments_157 rfl ?_
                          refine kx_irem 159 F (v := ((x8_84550 / 9) % 3)) dX12_laysSegments_158 (by omega) (by decide) rfl rfl ?_
                          refine kx_iload 161 F 6 dX12_laysSegments_159 rfl rfl ?_
                          refine kx_iconst 162 F dX12_laysSegments_161 rfl ?_
                          refine kx_irem 163 F (v := ((x5_84141 / 9) % 3)) dX12_laysSegments_162 (by omega) (by decide) rfl rfl ?_
                          refine kx_iload 165 F 4 dX12_laysSegments_163 rfl rfl ?_
                          refine kx_iload 167 F 7 dX12_laysSegments_165 rfl rfl ?_
                          refine kx_iconst 168 F dX12_laysSegments_167 rfl ?_
                          refine kx_irem 169 F (v := ((x5_84141 % 9) % 3)) dX12_laysSegments_168 (by omega) (by decide) rfl rfl ?_
                          refine kx_iload 171 F 10 dX12_laysSegments_169 rfl rfl ?_
                          refine kx_iconst 172 F dX12_laysSegments_171 rfl ?_
                          refine kx_irem 173 F (v := ((x8_84550 % 9) % 3)) dX12_laysSegments_172 (by omega) (by decide) rfl rfl ?_
                          refine kx_Vi 176 (ci := 0) F (As := [vI a2, vI x3_77333, vI ((x8_84550 / 9) % 3), vI ((x5_84141 / 9) % 3), vI x4_82605, vI ((x5_84141 % 9) % 3), vI ((x8_84550 % 9) % 3)]) (st := []) vd_X12_429 (c_X12_fits G l N_84551 a2 x3_77333 ((x8_84550 / 9) % 3) ((x5_84141 / 9) % 3) x4_82605 ((x5_84141 % 9) % 3) ((x8_84550 % 9) % 3) hI_N_84551 (by omega)) kd_163 rfl rfl rfl ⟨by decide, by decide⟩ rfl rfl (Nat.le_of_ble_eq_true rfl) dX12_laysSegments_173 rfl ?_
                          intro r_84600 N_84601 q_84602
                          obtain ⟨rfl, q_84602c⟩ := q_84602
                          refine kx_if_eq 179 F 183 dX12_laysSegments_176 (by decide) rfl (by omega) (fun h_84603 => ?_) (fun h_84603 => ?_)
                          · refine kx_drop 9 (lo' := [some (vR G 163), some (vI a1), some (vI a2), some (vI x3_77333), some (vI x4_82605), some (vI x5_84141), some (vI (x5_84141 / 9)), some (vI (x5_84141 % 9)), some (vI x8_84550), none, some (vI (x8_84550 % 9)), none]) rfl ?_
                            refine kx_drop 10 (lo' := [some (vR G 163), some (vI a1), some (vI a2), some (vI x3_77333), some (vI x4_82605), some (vI x5_84141), some (vI (x5_84141 / 9)), some (vI (x5_84141 % 9)), some (vI x8_84550), none, none, none]) rfl ?_
                            exact J_84597 
                          · refine kx_iconst 180 F dX12_laysSegments_179 rfl ?_
                            refine kx_goto 184 F dX12_laysSegments_180 (by decide) ?_
                            refine kx_drop 9 (lo' := [some (vR G 163), some (vI a1), some (vI a2), some (vI x3_77333), some (vI x4_82605), some (vI x5_84141), some (vI (x5_84141 / 9)), some (vI (x5_84141 % 9)), some (vI x8_84550), none, some (vI (x8_84550 % 9)), none]) rfl ?_
                            refine kx_drop 10 (lo' := [some (vR G 163), some (vI a1), some (vI a2), some (vI x3_77333), some (vI x4_82605), some (vI x5_84141), some (vI (x5_84141 / 9)), some (vI (x5_84141 % 9)), some (vI x8_84550), none, none, none]) rfl ?_
                            exact J_84572 1 (by omega)
                    exact L_84552 _ 0 N_84142 hI_N_84142 hF_N_84142 (by omega) rfl
                  · refine kx_goto 223 F dX12_laysSegments_84 (by decide) ?_
                    exact J_84365 N_84142 hI_N_84142 hF_N_84142
              exact L_84143 _ 0 N_82606 hI_N_82606 hF_N_82606 (by omega) rfl
          exact L_82607 _ (M 164 0) N_77334 hI_N_77334 hF_N_77334 (by omega) rfl
      exact L_77335 _ 0 N_56248 hI_N_56248 hF_N_56248 (by omega) rfl
    · refine kx_aload_n 9 F 0 dX12_laysSegments_8 rfl rfl rfl ?_
      refine kx_getr 12 F fl_X12_83 kd_163 rfl rfl (j := 37) rfl dX12_laysSegments_9 (v := 184) (uq_184 (Inv.r hI_N_56248 kd_163 rfl 37 rfl rfl)) rfl ?_
      refine kx_iload_n 13 F 3 dX12_laysSegments_12 rfl rfl rfl ?_
      refine kx_ldcw 16 (z := 1000000) F dX12_laysSegments_13 ct_X12_428 rfl ?_
      refine kx_iast 17 F kd_184 rfl rfl (by omega) (by decide) dX12_laysSegments_16 rfl ?_
      intro N_84604 hM_N_84604
      have hI_N_84604 : Inv true N_84604 := Inv.u hI_N_56248 hM_N_84604 kd_184 (a := 0) (b := 1000000) rfl rfl rfl (by omega)
      have hF_N_84604 : Fr f_c_X12_laysSegments M N_84604 := Fr.u hF_N_56248 hM_N_84604 kd_184 rfl
      refine kx_iinc 20 F 3 (v := x3_56247 + 1) (lo' := [some (vR G 163), some (vI a1), some (vI a2), some (vI (x3_56247 + 1)), none, none, none, none, none, none, none, none]) dX12_laysSegments_17 rfl (by omega) (by decide) rfl rfl rfl ?_
      refine kx_goto 2 F dX12_laysSegments_20 (by decide) ?_
      exact ih_56251 _ (by omega) (x3_56247 + 1) N_84604 hI_N_84604 hF_N_84604 (by omega) rfl
  exact L_56249 _ 0 M hI_M hF_M (by omega) rfl
set_option maxRecDepth 100000 in
theorem dGR_31_c_964 : (decode cX12_laysMatches 0 = .ok (.iconst 1, 1)) ∧ (decode cX12_laysMatches 1 = .ok (.istore_n 3, 1)) ∧ (decode cX12_laysMatches 2 = .ok (.aload_n 0, 1)) ∧ (decode cX12_laysMatches 3 = .ok (.invokevirtual 342, 3)) ∧ (decode cX12_laysMatches 6 = .ok (.iconst 0, 1)) ∧ (decode cX12_laysMatches 7 = .ok (.istore 4, 2)) ∧ (decode cX12_laysMatches 9 = .ok (.iload 4, 2)) ∧ (decode cX12_laysMatches 11 = .ok (.bipush 81, 2)) ∧ (decode cX12_laysMatches 13 = .ok (.if_icmp .ge 50, 3)) ∧ (decode cX12_laysMatches 16 = .ok (.aload_n 0, 1)) ∧ (decode cX12_laysMatches 17 = .ok (.getfield 80, 3)) ∧ (decode cX12_laysMatches 20 = .ok (.iload 4, 2)) := by decide +kernel
theorem dX12_laysMatches_0 : decode cX12_laysMatches 0 = .ok (.iconst 1, 1) := dGR_31_c_964.1
theorem dX12_laysMatches_1 : decode cX12_laysMatches 1 = .ok (.istore_n 3, 1) := dGR_31_c_964.2.1
theorem dX12_laysMatches_2 : decode cX12_laysMatches 2 = .ok (.aload_n 0, 1) := dGR_31_c_964.2.2.1
theorem dX12_laysMatches_3 : decode cX12_laysMatches 3 = .ok (.invokevirtual 342, 3) := dGR_31_c_964.2.2.2.1
theorem dX12_laysMatches_6 : decode cX12_laysMatches 6 = .ok (.iconst 0, 1) := dGR_31_c_964.2.2.2.2.1
theorem dX12_laysMatches_7 : decode cX12_laysMatches 7 = .ok (.istore 4, 2) := dGR_31_c_964.2.2.2.2.2.1
theorem dX12_laysMatches_9 : decode cX12_laysMatches 9 = .ok (.iload 4, 2) := dGR_31_c_964.2.2.2.2.2.2.1
theorem dX12_laysMatches_11 : decode cX12_laysMatches 11 = .ok (.bipush 81, 2) := dGR_31_c_964.2.2.2.2.2.2.2.1
theorem dX12_laysMatches_13 : decode cX12_laysMatches 13 = .ok (.if_icmp .ge 50, 3) := dGR_31_c_964.2.2.2.2.2.2.2.2.1
theorem dX12_laysMatches_16 : decode cX12_laysMatches 16 = .ok (.aload_n 0, 1) := dGR_31_c_964.2.2.2.2.2.2.2.2.2.1
theorem dX12_laysMatches_17 : decode cX12_laysMatches 17 = .ok (.getfield 80, 3) := dGR_31_c_964.2.2.2.2.2.2.2.2.2.2.1
theorem dX12_laysMatches_20 : decode cX12_laysMatches 20 = .ok (.iload 4, 2) := dGR_31_c_964.2.2.2.2.2.2.2.2.2.2.2
set_option maxRecDepth 100000 in
theorem dGR_31_c_965 : (decode cX12_laysMatches 22 = .ok (.iload 4, 2)) ∧ (decode cX12_laysMatches 24 = .ok (.bipush 9, 2)) ∧ (decode cX12_laysMatches 26 = .ok (.idiv, 1)) ∧ (decode cX12_laysMatches 27 = .ok (.iload 4, 2)) ∧ (decode cX12_laysMatches 29 = .ok (.bipush 9, 2)) ∧ (decode cX12_laysMatches 31 = .ok (.irem, 1)) ∧ (decode cX12_laysMatches 32 = .ok (.if_icmp .ne 21, 3)) ∧ (decode cX12_laysMatches 35 = .ok (.aload_n 0, 1)) ∧ (decode cX12_laysMatches 36 = .ok (.iload_n 1, 1)) ∧ (decode cX12_laysMatches 37 = .ok (.iload_n 2, 1)) ∧ (decode cX12_laysMatches 38 = .ok (.iload 4, 2)) ∧ (decode cX12_laysMatches 40 = .ok (.bipush 9, 2)) := by decide +kernel
theorem dX12_laysMatches_22 : decode cX12_laysMatches 22 = .ok (.iload 4, 2) := dGR_31_c_965.1
theorem dX12_laysMatches_24 : decode cX12_laysMatches 24 = .ok (.bipush 9, 2) := dGR_31_c_965.2.1
theorem dX12_laysMatches_26 : decode cX12_laysMatches 26 = .ok (.idiv, 1) := dGR_31_c_965.2.2.1
theorem dX12_laysMatches_27 : decode cX12_laysMatches 27 = .ok (.iload 4, 2) := dGR_31_c_965.2.2.2.1
theorem dX12_laysMatches_29 : decode cX12_laysMatches 29 = .ok (.bipush 9, 2) := dGR_31_c_965.2.2.2.2.1
theorem dX12_laysMatches_31 : decode cX12_laysMatches 31 = .ok (.irem, 1) := dGR_31_c_965.2.2.2.2.2.1
theorem dX12_laysMatches_32 : decode cX12_laysMatches 32 = .ok (.if_icmp .ne 21, 3) := dGR_31_c_965.2.2.2.2.2.2.1
theorem dX12_laysMatches_35 : decode cX12_laysMatches 35 = .ok (.aload_n 0, 1) := dGR_31_c_965.2.2.2.2.2.2.2.1
theorem dX12_laysMatches_36 : decode cX12_laysMatches 36 = .ok (.iload_n 1, 1) := dGR_31_c_965.2.2.2.2.2.2.2.2.1
theorem dX12_laysMatches_37 : decode cX12_laysMatches 37 = .ok (.iload_n 2, 1) := dGR_31_c_965.2.2.2.2.2.2.2.2.2.1
theorem dX12_laysMatches_38 : decode cX12_laysMatches 38 = .ok (.iload 4, 2) := dGR_31_c_965.2.2.2.2.2.2.2.2.2.2.1
theorem dX12_laysMatches_40 : decode cX12_laysMatches 40 = .ok (.bipush 9, 2) := dGR_31_c_965.2.2.2.2.2.2.2.2.2.2.2
set_option maxRecDepth 100000 in
theorem dGR_31_c_966 : (decode cX12_laysMatches 42 = .ok (.idiv, 1)) ∧ (decode cX12_laysMatches 43 = .ok (.invokevirtual 436, 3)) ∧ (decode cX12_laysMatches 46 = .ok (.ifCond .eq 7, 3)) ∧ (decode cX12_laysMatches 49 = .ok (.iconst 0, 1)) ∧ (decode cX12_laysMatches 50 = .ok (.goto 6, 3)) ∧ (decode cX12_laysMatches 53 = .ok (.ldc_w 428, 3)) ∧ (decode cX12_laysMatches 56 = .ok (.iastore, 1)) ∧ (decode cX12_laysMatches 57 = .ok (.iinc 4 1, 3)) ∧ (decode cX12_laysMatches 60 = .ok (.goto (-51), 3)) ∧ (decode cX12_laysMatches 63 = .ok (.iload_n 3, 1)) ∧ (decode cX12_laysMatches 64 = .ok (.ifCond .eq 148, 3)) ∧ (decode cX12_laysMatches 67 = .ok (.iconst 0, 1)) := by decide +kernel
theorem dX12_laysMatches_42 : decode cX12_laysMatches 42 = .ok (.idiv, 1) := dGR_31_c_966.1
theorem dX12_laysMatches_43 : decode cX12_laysMatches 43 = .ok (.invokevirtual 436, 3) := dGR_31_c_966.2.1
theorem dX12_laysMatches_46 : decode cX12_laysMatches 46 = .ok (.ifCond .eq 7, 3) := dGR_31_c_966.2.2.1
theorem dX12_laysMatches_49 : decode cX12_laysMatches 49 = .ok (.iconst 0, 1) := dGR_31_c_966.2.2.2.1
theorem dX12_laysMatches_50 : decode cX12_laysMatches 50 = .ok (.goto 6, 3) := dGR_31_c_966.2.2.2.2.1
theorem dX12_laysMatches_53 : decode cX12_laysMatches 53 = .ok (.ldc_w 428, 3) := dGR_31_c_966.2.2.2.2.2.1
theorem dX12_laysMatches_56 : decode cX12_laysMatches 56 = .ok (.iastore, 1) := dGR_31_c_966.2.2.2.2.2.2.1
theorem dX12_laysMatches_57 : decode cX12_laysMatches 57 = .ok (.iinc 4 1, 3) := dGR_31_c_966.2.2.2.2.2.2.2.1
theorem dX12_laysMatches_60 : decode cX12_laysMatches 60 = .ok (.goto (-51), 3) := dGR_31_c_966.2.2.2.2.2.2.2.2.1
theorem dX12_laysMatches_63 : decode cX12_laysMatches 63 = .ok (.iload_n 3, 1) := dGR_31_c_966.2.2.2.2.2.2.2.2.2.1
theorem dX12_laysMatches_64 : decode cX12_laysMatches 64 = .ok (.ifCond .eq 148, 3) := dGR_31_c_966.2.2.2.2.2.2.2.2.2.2.1
theorem dX12_laysMatches_67 : decode cX12_laysMatches 67 = .ok (.iconst 0, 1) := dGR_31_c_966.2.2.2.2.2.2.2.2.2.2.2
set_option maxRecDepth 100000 in
theorem dGR_31_c_967 : (decode cX12_laysMatches 68 = .ok (.istore_n 3, 1)) ∧ (decode cX12_laysMatches 69 = .ok (.aload_n 0, 1)) ∧ (decode cX12_laysMatches 70 = .ok (.iload_n 1, 1)) ∧ (decode cX12_laysMatches 71 = .ok (.iload_n 2, 1)) ∧ (decode cX12_laysMatches 72 = .ok (.invokevirtual 439, 3)) ∧ (decode cX12_laysMatches 75 = .ok (.iconst 0, 1)) ∧ (decode cX12_laysMatches 76 = .ok (.istore 4, 2)) ∧ (decode cX12_laysMatches 78 = .ok (.iload 4, 2)) ∧ (decode cX12_laysMatches 80 = .ok (.bipush 9, 2)) ∧ (decode cX12_laysMatches 82 = .ok (.if_icmp .ge 127, 3)) ∧ (decode cX12_laysMatches 85 = .ok (.iconst 0, 1)) ∧ (decode cX12_laysMatches 86 = .ok (.istore 5, 2)) := by decide +kernel
theorem dX12_laysMatches_68 : decode cX12_laysMatches 68 = .ok (.istore_n 3, 1) := dGR_31_c_967.1
theorem dX12_laysMatches_69 : decode cX12_laysMatches 69 = .ok (.aload_n 0, 1) := dGR_31_c_967.2.1
theorem dX12_laysMatches_70 : decode cX12_laysMatches 70 = .ok (.iload_n 1, 1) := dGR_31_c_967.2.2.1
theorem dX12_laysMatches_71 : decode cX12_laysMatches 71 = .ok (.iload_n 2, 1) := dGR_31_c_967.2.2.2.1
theorem dX12_laysMatches_72 : decode cX12_laysMatches 72 = .ok (.invokevirtual 439, 3) := dGR_31_c_967.2.2.2.2.1
theorem dX12_laysMatches_75 : decode cX12_laysMatches 75 = .ok (.iconst 0, 1) := dGR_31_c_967.2.2.2.2.2.1
theorem dX12_laysMatches_76 : decode cX12_laysMatches 76 = .ok (.istore 4, 2) := dGR_31_c_967.2.2.2.2.2.2.1
theorem dX12_laysMatches_78 : decode cX12_laysMatches 78 = .ok (.iload 4, 2) := dGR_31_c_967.2.2.2.2.2.2.2.1
theorem dX12_laysMatches_80 : decode cX12_laysMatches 80 = .ok (.bipush 9, 2) := dGR_31_c_967.2.2.2.2.2.2.2.2.1
theorem dX12_laysMatches_82 : decode cX12_laysMatches 82 = .ok (.if_icmp .ge 127, 3) := dGR_31_c_967.2.2.2.2.2.2.2.2.2.1
theorem dX12_laysMatches_85 : decode cX12_laysMatches 85 = .ok (.iconst 0, 1) := dGR_31_c_967.2.2.2.2.2.2.2.2.2.2.1
theorem dX12_laysMatches_86 : decode cX12_laysMatches 86 = .ok (.istore 5, 2) := dGR_31_c_967.2.2.2.2.2.2.2.2.2.2.2
set_option maxRecDepth 100000 in
theorem dGR_31_c_968 : (decode cX12_laysMatches 88 = .ok (.iload 5, 2)) ∧ (decode cX12_laysMatches 90 = .ok (.bipush 9, 2)) ∧ (decode cX12_laysMatches 92 = .ok (.if_icmp .ge 111, 3)) ∧ (decode cX12_laysMatches 95 = .ok (.aload_n 0, 1)) ∧ (decode cX12_laysMatches 96 = .ok (.iload_n 1, 1)) ∧ (decode cX12_laysMatches 97 = .ok (.iload_n 2, 1)) ∧ (decode cX12_laysMatches 98 = .ok (.iload 4, 2)) ∧ (decode cX12_laysMatches 100 = .ok (.iload 5, 2)) ∧ (decode cX12_laysMatches 102 = .ok (.invokevirtual 442, 3)) ∧ (decode cX12_laysMatches 105 = .ok (.istore 6, 2)) ∧ (decode cX12_laysMatches 107 = .ok (.iconst 0, 1)) ∧ (decode cX12_laysMatches 108 = .ok (.istore 7, 2)) := by decide +kernel
theorem dX12_laysMatches_88 : decode cX12_laysMatches 88 = .ok (.iload 5, 2) := dGR_31_c_968.1
theorem dX12_laysMatches_90 : decode cX12_laysMatches 90 = .ok (.bipush 9, 2) := dGR_31_c_968.2.1
theorem dX12_laysMatches_92 : decode cX12_laysMatches 92 = .ok (.if_icmp .ge 111, 3) := dGR_31_c_968.2.2.1
theorem dX12_laysMatches_95 : decode cX12_laysMatches 95 = .ok (.aload_n 0, 1) := dGR_31_c_968.2.2.2.1
theorem dX12_laysMatches_96 : decode cX12_laysMatches 96 = .ok (.iload_n 1, 1) := dGR_31_c_968.2.2.2.2.1
theorem dX12_laysMatches_97 : decode cX12_laysMatches 97 = .ok (.iload_n 2, 1) := dGR_31_c_968.2.2.2.2.2.1
theorem dX12_laysMatches_98 : decode cX12_laysMatches 98 = .ok (.iload 4, 2) := dGR_31_c_968.2.2.2.2.2.2.1
theorem dX12_laysMatches_100 : decode cX12_laysMatches 100 = .ok (.iload 5, 2) := dGR_31_c_968.2.2.2.2.2.2.2.1
theorem dX12_laysMatches_102 : decode cX12_laysMatches 102 = .ok (.invokevirtual 442, 3) := dGR_31_c_968.2.2.2.2.2.2.2.2.1
theorem dX12_laysMatches_105 : decode cX12_laysMatches 105 = .ok (.istore 6, 2) := dGR_31_c_968.2.2.2.2.2.2.2.2.2.1
theorem dX12_laysMatches_107 : decode cX12_laysMatches 107 = .ok (.iconst 0, 1) := dGR_31_c_968.2.2.2.2.2.2.2.2.2.2.1
theorem dX12_laysMatches_108 : decode cX12_laysMatches 108 = .ok (.istore 7, 2) := dGR_31_c_968.2.2.2.2.2.2.2.2.2.2.2
set_option maxRecDepth 100000 in
theorem dGR_31_c_969 : (decode cX12_laysMatches 110 = .ok (.iload 7, 2)) ∧ (decode cX12_laysMatches 112 = .ok (.bipush 9, 2)) ∧ (decode cX12_laysMatches 114 = .ok (.if_icmp .ge 83, 3)) ∧ (decode cX12_laysMatches 117 = .ok (.iload 6, 2)) ∧ (decode cX12_laysMatches 119 = .ok (.ldc_w 428, 3)) ∧ (decode cX12_laysMatches 122 = .ok (.if_icmp .ge 75, 3)) ∧ (decode cX12_laysMatches 125 = .ok (.aload_n 0, 1)) ∧ (decode cX12_laysMatches 126 = .ok (.getfield 80, 3)) ∧ (decode cX12_laysMatches 129 = .ok (.bipush 9, 2)) ∧ (decode cX12_laysMatches 131 = .ok (.iload 7, 2)) ∧ (decode cX12_laysMatches 133 = .ok (.imul, 1)) ∧ (decode cX12_laysMatches 134 = .ok (.iload 4, 2)) := by decide +kernel
theorem dX12_laysMatches_110 : decode cX12_laysMatches 110 = .ok (.iload 7, 2) := dGR_31_c_969.1
theorem dX12_laysMatches_112 : decode cX12_laysMatches 112 = .ok (.bipush 9, 2) := dGR_31_c_969.2.1
theorem dX12_laysMatches_114 : decode cX12_laysMatches 114 = .ok (.if_icmp .ge 83, 3) := dGR_31_c_969.2.2.1
theorem dX12_laysMatches_117 : decode cX12_laysMatches 117 = .ok (.iload 6, 2) := dGR_31_c_969.2.2.2.1
theorem dX12_laysMatches_119 : decode cX12_laysMatches 119 = .ok (.ldc_w 428, 3) := dGR_31_c_969.2.2.2.2.1
theorem dX12_laysMatches_122 : decode cX12_laysMatches 122 = .ok (.if_icmp .ge 75, 3) := dGR_31_c_969.2.2.2.2.2.1
theorem dX12_laysMatches_125 : decode cX12_laysMatches 125 = .ok (.aload_n 0, 1) := dGR_31_c_969.2.2.2.2.2.2.1
theorem dX12_laysMatches_126 : decode cX12_laysMatches 126 = .ok (.getfield 80, 3) := dGR_31_c_969.2.2.2.2.2.2.2.1
theorem dX12_laysMatches_129 : decode cX12_laysMatches 129 = .ok (.bipush 9, 2) := dGR_31_c_969.2.2.2.2.2.2.2.2.1
theorem dX12_laysMatches_131 : decode cX12_laysMatches 131 = .ok (.iload 7, 2) := dGR_31_c_969.2.2.2.2.2.2.2.2.2.1
theorem dX12_laysMatches_133 : decode cX12_laysMatches 133 = .ok (.imul, 1) := dGR_31_c_969.2.2.2.2.2.2.2.2.2.2.1
theorem dX12_laysMatches_134 : decode cX12_laysMatches 134 = .ok (.iload 4, 2) := dGR_31_c_969.2.2.2.2.2.2.2.2.2.2.2
set_option maxRecDepth 100000 in
theorem dGR_31_c_970 : (decode cX12_laysMatches 136 = .ok (.iadd, 1)) ∧ (decode cX12_laysMatches 137 = .ok (.iaload, 1)) ∧ (decode cX12_laysMatches 138 = .ok (.iload 6, 2)) ∧ (decode cX12_laysMatches 140 = .ok (.iadd, 1)) ∧ (decode cX12_laysMatches 141 = .ok (.aload_n 0, 1)) ∧ (decode cX12_laysMatches 142 = .ok (.getfield 80, 3)) ∧ (decode cX12_laysMatches 145 = .ok (.bipush 9, 2)) ∧ (decode cX12_laysMatches 147 = .ok (.iload 7, 2)) ∧ (decode cX12_laysMatches 149 = .ok (.imul, 1)) ∧ (decode cX12_laysMatches 150 = .ok (.iload 5, 2)) ∧ (decode cX12_laysMatches 152 = .ok (.iadd, 1)) ∧ (decode cX12_laysMatches 153 = .ok (.iaload, 1)) := by decide +kernel
theorem dX12_laysMatches_136 : decode cX12_laysMatches 136 = .ok (.iadd, 1) := dGR_31_c_970.1
theorem dX12_laysMatches_137 : decode cX12_laysMatches 137 = .ok (.iaload, 1) := dGR_31_c_970.2.1
theorem dX12_laysMatches_138 : decode cX12_laysMatches 138 = .ok (.iload 6, 2) := dGR_31_c_970.2.2.1
theorem dX12_laysMatches_140 : decode cX12_laysMatches 140 = .ok (.iadd, 1) := dGR_31_c_970.2.2.2.1
theorem dX12_laysMatches_141 : decode cX12_laysMatches 141 = .ok (.aload_n 0, 1) := dGR_31_c_970.2.2.2.2.1
theorem dX12_laysMatches_142 : decode cX12_laysMatches 142 = .ok (.getfield 80, 3) := dGR_31_c_970.2.2.2.2.2.1
theorem dX12_laysMatches_145 : decode cX12_laysMatches 145 = .ok (.bipush 9, 2) := dGR_31_c_970.2.2.2.2.2.2.1
theorem dX12_laysMatches_147 : decode cX12_laysMatches 147 = .ok (.iload 7, 2) := dGR_31_c_970.2.2.2.2.2.2.2.1
theorem dX12_laysMatches_149 : decode cX12_laysMatches 149 = .ok (.imul, 1) := dGR_31_c_970.2.2.2.2.2.2.2.2.1
theorem dX12_laysMatches_150 : decode cX12_laysMatches 150 = .ok (.iload 5, 2) := dGR_31_c_970.2.2.2.2.2.2.2.2.2.1
theorem dX12_laysMatches_152 : decode cX12_laysMatches 152 = .ok (.iadd, 1) := dGR_31_c_970.2.2.2.2.2.2.2.2.2.2.1
theorem dX12_laysMatches_153 : decode cX12_laysMatches 153 = .ok (.iaload, 1) := dGR_31_c_970.2.2.2.2.2.2.2.2.2.2.2
set_option maxRecDepth 100000 in
theorem dGR_31_c_971 : (decode cX12_laysMatches 154 = .ok (.if_icmp .lt 6, 3)) ∧ (decode cX12_laysMatches 157 = .ok (.goto 34, 3)) ∧ (decode cX12_laysMatches 160 = .ok (.aload_n 0, 1)) ∧ (decode cX12_laysMatches 161 = .ok (.getfield 80, 3)) ∧ (decode cX12_laysMatches 164 = .ok (.bipush 9, 2)) ∧ (decode cX12_laysMatches 166 = .ok (.iload 7, 2)) ∧ (decode cX12_laysMatches 168 = .ok (.imul, 1)) ∧ (decode cX12_laysMatches 169 = .ok (.iload 5, 2)) ∧ (decode cX12_laysMatches 171 = .ok (.iadd, 1)) ∧ (decode cX12_laysMatches 172 = .ok (.aload_n 0, 1)) ∧ (decode cX12_laysMatches 173 = .ok (.getfield 80, 3)) ∧ (decode cX12_laysMatches 176 = .ok (.bipush 9, 2)) := by decide +kernel
theorem dX12_laysMatches_154 : decode cX12_laysMatches 154 = .ok (.if_icmp .lt 6, 3) := dGR_31_c_971.1
theorem dX12_laysMatches_157 : decode cX12_laysMatches 157 = .ok (.goto 34, 3) := dGR_31_c_971.2.1
theorem dX12_laysMatches_160 : decode cX12_laysMatches 160 = .ok (.aload_n 0, 1) := dGR_31_c_971.2.2.1
theorem dX12_laysMatches_161 : decode cX12_laysMatches 161 = .ok (.getfield 80, 3) := dGR_31_c_971.2.2.2.1
theorem dX12_laysMatches_164 : decode cX12_laysMatches 164 = .ok (.bipush 9, 2) := dGR_31_c_971.2.2.2.2.1
theorem dX12_laysMatches_166 : decode cX12_laysMatches 166 = .ok (.iload 7, 2) := dGR_31_c_971.2.2.2.2.2.1
theorem dX12_laysMatches_168 : decode cX12_laysMatches 168 = .ok (.imul, 1) := dGR_31_c_971.2.2.2.2.2.2.1
theorem dX12_laysMatches_169 : decode cX12_laysMatches 169 = .ok (.iload 5, 2) := dGR_31_c_971.2.2.2.2.2.2.2.1
theorem dX12_laysMatches_171 : decode cX12_laysMatches 171 = .ok (.iadd, 1) := dGR_31_c_971.2.2.2.2.2.2.2.2.1
theorem dX12_laysMatches_172 : decode cX12_laysMatches 172 = .ok (.aload_n 0, 1) := dGR_31_c_971.2.2.2.2.2.2.2.2.2.1
theorem dX12_laysMatches_173 : decode cX12_laysMatches 173 = .ok (.getfield 80, 3) := dGR_31_c_971.2.2.2.2.2.2.2.2.2.2.1
theorem dX12_laysMatches_176 : decode cX12_laysMatches 176 = .ok (.bipush 9, 2) := dGR_31_c_971.2.2.2.2.2.2.2.2.2.2.2
set_option maxRecDepth 100000 in
theorem dGR_31_c_972 : (decode cX12_laysMatches 178 = .ok (.iload 7, 2)) ∧ (decode cX12_laysMatches 180 = .ok (.imul, 1)) ∧ (decode cX12_laysMatches 181 = .ok (.iload 4, 2)) ∧ (decode cX12_laysMatches 183 = .ok (.iadd, 1)) ∧ (decode cX12_laysMatches 184 = .ok (.iaload, 1)) ∧ (decode cX12_laysMatches 185 = .ok (.iload 6, 2)) ∧ (decode cX12_laysMatches 187 = .ok (.iadd, 1)) ∧ (decode cX12_laysMatches 188 = .ok (.iastore, 1)) ∧ (decode cX12_laysMatches 189 = .ok (.iconst 1, 1)) ∧ (decode cX12_laysMatches 190 = .ok (.istore_n 3, 1)) ∧ (decode cX12_laysMatches 191 = .ok (.iinc 7 1, 3)) ∧ (decode cX12_laysMatches 194 = .ok (.goto (-84), 3)) := by decide +kernel
theorem dX12_laysMatches_178 : decode cX12_laysMatches 178 = .ok (.iload 7, 2) := dGR_31_c_972.1
theorem dX12_laysMatches_180 : decode cX12_laysMatches 180 = .ok (.imul, 1) := dGR_31_c_972.2.1
theorem dX12_laysMatches_181 : decode cX12_laysMatches 181 = .ok (.iload 4, 2) := dGR_31_c_972.2.2.1
theorem dX12_laysMatches_183 : decode cX12_laysMatches 183 = .ok (.iadd, 1) := dGR_31_c_972.2.2.2.1
theorem dX12_laysMatches_184 : decode cX12_laysMatches 184 = .ok (.iaload, 1) := dGR_31_c_972.2.2.2.2.1
theorem dX12_laysMatches_185 : decode cX12_laysMatches 185 = .ok (.iload 6, 2) := dGR_31_c_972.2.2.2.2.2.1
theorem dX12_laysMatches_187 : decode cX12_laysMatches 187 = .ok (.iadd, 1) := dGR_31_c_972.2.2.2.2.2.2.1
theorem dX12_laysMatches_188 : decode cX12_laysMatches 188 = .ok (.iastore, 1) := dGR_31_c_972.2.2.2.2.2.2.2.1
theorem dX12_laysMatches_189 : decode cX12_laysMatches 189 = .ok (.iconst 1, 1) := dGR_31_c_972.2.2.2.2.2.2.2.2.1
theorem dX12_laysMatches_190 : decode cX12_laysMatches 190 = .ok (.istore_n 3, 1) := dGR_31_c_972.2.2.2.2.2.2.2.2.2.1
theorem dX12_laysMatches_191 : decode cX12_laysMatches 191 = .ok (.iinc 7 1, 3) := dGR_31_c_972.2.2.2.2.2.2.2.2.2.2.1
theorem dX12_laysMatches_194 : decode cX12_laysMatches 194 = .ok (.goto (-84), 3) := dGR_31_c_972.2.2.2.2.2.2.2.2.2.2.2
set_option maxRecDepth 100000 in
theorem dGR_31_c_973 : (decode cX12_laysMatches 197 = .ok (.iinc 5 1, 3)) ∧ (decode cX12_laysMatches 200 = .ok (.goto (-112), 3)) ∧ (decode cX12_laysMatches 203 = .ok (.iinc 4 1, 3)) ∧ (decode cX12_laysMatches 206 = .ok (.goto (-128), 3)) ∧ (decode cX12_laysMatches 209 = .ok (.goto (-146), 3)) ∧ (decode cX12_laysMatches 212 = .ok (.return_, 1)) := by decide +kernel
theorem dX12_laysMatches_197 : decode cX12_laysMatches 197 = .ok (.iinc 5 1, 3) := dGR_31_c_973.1
theorem dX12_laysMatches_200 : decode cX12_laysMatches 200 = .ok (.goto (-112), 3) := dGR_31_c_973.2.1
theorem dX12_laysMatches_203 : decode cX12_laysMatches 203 = .ok (.iinc 4 1, 3) := dGR_31_c_973.2.2.1
theorem dX12_laysMatches_206 : decode cX12_laysMatches 206 = .ok (.goto (-128), 3) := dGR_31_c_973.2.2.2.1
theorem dX12_laysMatches_209 : decode cX12_laysMatches 209 = .ok (.goto (-146), 3) := dGR_31_c_973.2.2.2.2.1
theorem dX12_laysMatches_212 : decode cX12_laysMatches 212 = .ok (.return_, 1) := dGR_31_c_973.2.2.2.2.2
abbrev f_c_X12_laysMatches : List (Nat × Int) := [(72, -1), (83, -1), (84, -1)]
set_option maxHeartbeats 4000000 in
set_option maxRecDepth 100000 in
theorem c_X12_laysMatches (G : KG) (l : Launch) (M : Mem) (a1 : Int) (a2 : Int) (hI_M : Inv true M) (hpre : -2147483648 ≤ a1 ∧ a1 ≤ 2147483647 ∧ -2147483648 ≤ a2 ∧ a2 ≤ 2147483647 ∧ 0 ≤ a1 ∧ a1 ≤ 2 ∧ 0 ≤ a2 ∧ a2 ≤ 2) : KC true G l yX12_laysMatches cX12_laysMatches 8 none (4, 88) [vR G 163, vI a1, vI a2] M (fun A => kQv true G A (fun (N : Mem) => Inv true N ∧ Fr f_c_X12_laysMatches M N)) := by
  refine kx_met (lo := [some (vR G 163), some (vI a1), some (vI a2), none, none, none, none, none]) (by decide) (Nat.le_of_ble_eq_true rfl) rfl ?_
  intro X F hQ
  have hF_M : Fr f_c_X12_laysMatches M M := Fr.rf _ _
  refine kx_iconst 1 F dX12_laysMatches_0 rfl ?_
  refine kx_istore_n 2 F 3 (lo' := [some (vR G 163), some (vI a1), some (vI a2), some (vI 1), none, none, none, none]) dX12_laysMatches_1 rfl (by decide) rfl rfl rfl ?_
  refine kx_aload_n 3 F 0 dX12_laysMatches_2 rfl rfl rfl ?_
  refine kx_Vv 6 (ci := 0) F (As := []) (st := []) vd_X12_342 (c_X12_laysRules G l M  hI_M) kd_163 rfl rfl rfl ⟨by decide, by decide⟩ rfl rfl (Nat.le_of_ble_eq_true rfl) dX12_laysMatches_3 rfl ?_
  intro N_1 q_2
  obtain ⟨hI_N_1, hG_N_1⟩ := q_2
  have hF_N_1 : Fr f_c_X12_laysMatches M N_1 := Fr.c hF_M hG_N_1 rfl
  have ht_3 := tot_fr 83 81 hG_N_1 rfl
  refine kx_iconst 7 F dX12_laysMatches_6 rfl ?_
  refine kx_istore 9 F 4 (lo' := [some (vR G 163), some (vI a1), some (vI a2), some (vI 1), some (vI 0), none, none, none]) dX12_laysMatches_7 (by decide) rfl rfl rfl ?_
  have L_24023 : ∀ (n_24024 : Nat) (x4_24021 : Int) (N_24022 : Mem), Inv true N_24022 → Fr f_c_X12_laysMatches M N_24022 → 0 ≤ x4_24021 ∧ x4_24021 ≤ 81 → (81 - (x4_24021)).toNat = n_24024 → KJ true G X N_24022 9 [some (vR G 163), some (vI a1), some (vI a2), some (vI 1), some (vI x4_24021), none, none, none] [] := by
    intro n_24024
    refine Nat.strongRecOn n_24024 ?_
    intro n_24024 ih_24025 x4_24021 N_24022 hI_N_24022 hF_N_24022 h_24026 hm_24027
    refine kx_iload 11 F 4 dX12_laysMatches_9 rfl rfl ?_
    refine kx_bipush 13 F dX12_laysMatches_11 (by decide) rfl ?_
    refine kx_icmp_ge 16 F 63 dX12_laysMatches_13 (by decide) rfl (by omega) (by decide) (fun h_24028 => ?_) (fun h_24028 => ?_)
    · have L_30003 : ∀ (n_30004 : Nat) (x3_30001 : Int) (N_30002 : Mem), Inv true N_30002 → Fr f_c_X12_laysMatches M N_30002 → 0 ≤ x3_30001 ∧ x3_30001 ≤ 1 → (2 * tot 83 81 N_30002 + x3_30001).toNat = n_30004 → KJ true G X N_30002 63 [some (vR G 163), some (vI a1), some (vI a2), some (vI x3_30001), none, none, none, none] [] := by
        intro n_30004
        refine Nat.strongRecOn n_30004 ?_
        intro n_30004 ih_30005 x3_30001 N_30002 hI_N_30002 hF_N_30002 h_30006 hm_30007
        have h_30008 := tot_nn (k := 83) 81 hI_N_30002 rfl (fun _ => rfl)
        refine kx_iload_n 64 F 3 dX12_laysMatches_63 rfl rfl rfl ?_
        refine kx_if_eq 67 F 212 dX12_laysMatches_64 (by decide) rfl (by omega) (fun h_30009 => ?_) (fun h_30009 => ?_)
        · exact kx_vret F hQ ⟨hI_N_30002, hF_N_30002⟩ dX12_laysMatches_212
        · refine kx_iconst 68 F dX12_laysMatches_67 rfl ?_
          refine kx_istore_n 69 F 3 (lo' := [some (vR G 163), some (vI a1), some (vI a2), some (vI 0), none, none, none, none]) dX12_laysMatches_68 rfl (by decide) rfl rfl rfl ?_
          refine kx_aload_n 70 F 0 dX12_laysMatches_69 rfl rfl rfl ?_
          refine kx_iload_n 71 F 1 dX12_laysMatches_70 rfl rfl rfl ?_
          refine kx_iload_n 72 F 2 dX12_laysMatches_71 rfl rfl rfl ?_
          refine kx_Vv 75 (ci := 0) F (As := [vI a1, vI a2]) (st := []) vd_X12_439 (c_X12_laysSegments G l N_30002 a1 a2 hI_N_30002 (by omega)) kd_163 rfl rfl rfl ⟨by decide, by decide⟩ rfl rfl (Nat.le_of_ble_eq_true rfl) dX12_laysMatches_72 rfl ?_
          intro N_30010 q_30011
          obtain ⟨hI_N_30010, hG_N_30010⟩ := q_30011
          have hF_N_30010 : Fr f_c_X12_laysMatches M N_30010 := Fr.c hF_N_30002 hG_N_30010 rfl
          have ht_30012 := tot_fr 83 81 hG_N_30010 rfl
          refine kx_iconst 76 F dX12_laysMatches_75 rfl ?_
          refine kx_istore 78 F 4 (lo' := [some (vR G 163), some (vI a1), some (vI a2), some (vI 0), some (vI 0), none, none, none]) dX12_laysMatches_76 (by decide) rfl rfl rfl ?_
          have L_35231 : ∀ (n_35232 : Nat) (x3_35228 : Int) (x4_35229 : Int) (N_35230 : Mem), Inv true N_35230 → Fr f_c_X12_laysMatches M N_35230 → 0 ≤ x3_35228 ∧ x3_35228 ≤ 1 ∧ 0 ≤ x4_35229 ∧ x4_35229 ≤ 9 ∧ (tot 83 81 N_35230) + x3_35228 ≤ (tot 83 81 N_30002) → (9 - (x4_35229)).toNat = n_35232 → KJ true G X N_35230 78 [some (vR G 163), some (vI a1), some (vI a2), some (vI x3_35228), some (vI x4_35229), none, none, none] [] := by
            intro n_35232
            refine Nat.strongRecOn n_35232 ?_
            intro n_35232 ih_35233 x3_35228 x4_35229 N_35230 hI_N_35230 hF_N_35230 h_35234 hm_35235
            refine kx_iload 80 F 4 dX12_laysMatches_78 rfl rfl ?_
            refine kx_bipush 82 F dX12_laysMatches_80 (by decide) rfl ?_
            refine kx_icmp_ge 85 F 209 dX12_laysMatches_82 (by decide) rfl (by omega) (by decide) (fun h_35236 => ?_) (fun h_35236 => ?_)
            · refine kx_goto 63 F dX12_laysMatches_209 (by decide) ?_
              refine kx_drop 4 (lo' := [some (vR G 163), some (vI a1), some (vI a2), some (vI x3_35228), none, none, none, none]) rfl ?_
              exact ih_30005 _ (by omega) x3_35228 N_35230 hI_N_35230 hF_N_35230 (by omega) rfl
            · refine kx_iconst 86 F dX12_laysMatches_85 rfl ?_
              refine kx_istore 88 F 5 (lo' := [some (vR G 163), some (vI a1), some (vI a2), some (vI x3_35228), some (vI x4_35229), some (vI 0), none, none]) dX12_laysMatches_86 (by decide) rfl rfl rfl ?_
              have L_35884 : ∀ (n_35885 : Nat) (x3_35881 : Int) (x5_35882 : Int) (N_35883 : Mem), Inv true N_35883 → Fr f_c_X12_laysMatches M N_35883 → 0 ≤ x3_35881 ∧ x3_35881 ≤ 1 ∧ 0 ≤ x5_35882 ∧ x5_35882 ≤ 9 ∧ (tot 83 81 N_35883) + x3_35881 ≤ (tot 83 81 N_30002) → (9 - (x5_35882)).toNat = n_35885 → KJ true G X N_35883 88 [some (vR G 163), some (vI a1), some (vI a2), some (vI x3_35881), some (vI x4_35229), some (vI x5_35882), none, none] [] := by
                intro n_35885
                refine Nat.strongRecOn n_35885 ?_
                intro n_35885 ih_35886 x3_35881 x5_35882 N_35883 hI_N_35883 hF_N_35883 h_35887 hm_35888
                refine kx_iload 90 F 5 dX12_laysMatches_88 rfl rfl ?_
                refine kx_bipush 92 F dX12_laysMatches_90 (by decide) rfl ?_
                refine kx_icmp_ge 95 F 203 dX12_laysMatches_92 (by decide) rfl (by omega) (by decide) (fun h_35889 => ?_) (fun h_35889 => ?_)
                · refine kx_iinc 206 F 4 (v := x4_35229 + 1) (lo' := [some (vR G 163), some (vI a1), some (vI a2), some (vI x3_35881), some (vI (x4_35229 + 1)), some (vI x5_35882), none, none]) dX12_laysMatches_203 rfl (by omega) (by decide) rfl rfl rfl ?_
                  refine kx_goto 78 F dX12_laysMatches_206 (by decide) ?_
                  refine kx_drop 5 (lo' := [some (vR G 163), some (vI a1), some (vI a2), some (vI x3_35881), some (vI (x4_35229 + 1)), none, none, none]) rfl ?_
                  exact ih_35233 _ (by omega) x3_35881 (x4_35229 + 1) N_35883 hI_N_35883 hF_N_35883 (by omega) rfl
                · refine kx_aload_n 96 F 0 dX12_laysMatches_95 rfl rfl rfl ?_
                  refine kx_iload_n 97 F 1 dX12_laysMatches_96 rfl rfl rfl ?_
                  refine kx_iload_n 98 F 2 dX12_laysMatches_97 rfl rfl rfl ?_
                  refine kx_iload 100 F 4 dX12_laysMatches_98 rfl rfl ?_
                  refine kx_iload 102 F 5 dX12_laysMatches_100 rfl rfl ?_
                  refine kx_Vi 105 (ci := 0) F (As := [vI a1, vI a2, vI x4_35229, vI x5_35882]) (st := []) vd_X12_442 (c_X12_stepBy G l N_35883 a1 a2 x4_35229 x5_35882 hI_N_35883 (by omega)) kd_163 rfl rfl rfl ⟨by decide, by decide⟩ rfl rfl (Nat.le_of_ble_eq_true rfl) dX12_laysMatches_102 rfl ?_
                  intro r_35890 N_35891 q_35892
                  obtain ⟨rfl, q_35892c⟩ := q_35892
                  refine kx_istore 107 F 6 (lo' := [some (vR G 163), some (vI a1), some (vI a2), some (vI x3_35881), some (vI x4_35229), some (vI x5_35882), some (vI r_35890), none]) dX12_laysMatches_105 (by decide) rfl rfl rfl ?_
                  refine kx_iconst 108 F dX12_laysMatches_107 rfl ?_
                  refine kx_istore 110 F 7 (lo' := [some (vR G 163), some (vI a1), some (vI a2), some (vI x3_35881), some (vI x4_35229), some (vI x5_35882), some (vI r_35890), some (vI 0)]) dX12_laysMatches_108 (by decide) rfl rfl rfl ?_
                  have L_35966 : ∀ (n_35967 : Nat) (x3_35963 : Int) (x7_35964 : Int) (N_35965 : Mem), Inv true N_35965 → Fr f_c_X12_laysMatches M N_35965 → 0 ≤ x3_35963 ∧ x3_35963 ≤ 1 ∧ 0 ≤ x7_35964 ∧ x7_35964 ≤ 9 ∧ (tot 83 81 N_35965) + x3_35963 ≤ (tot 83 81 N_30002) → (9 - (x7_35964)).toNat = n_35967 → KJ true G X N_35965 110 [some (vR G 163), some (vI a1), some (vI a2), some (vI x3_35963), some (vI x4_35229), some (vI x5_35882), some (vI r_35890), some (vI x7_35964)] [] := by
                    intro n_35967
                    refine Nat.strongRecOn n_35967 ?_
                    intro n_35967 ih_35968 x3_35963 x7_35964 N_35965 hI_N_35965 hF_N_35965 h_35969 hm_35970
                    refine kx_iload 112 F 7 dX12_laysMatches_110 rfl rfl ?_
                    refine kx_bipush 114 F dX12_laysMatches_112 (by decide) rfl ?_
                    refine kx_icmp_ge 117 F 197 dX12_laysMatches_114 (by decide) rfl (by omega) (by decide) (fun h_35971 => ?_) (fun h_35971 => ?_)
                    · refine kx_iinc 200 F 5 (v := x5_35882 + 1) (lo' := [some (vR G 163), some (vI a1), some (vI a2), some (vI x3_35963), some (vI x4_35229), some (vI (x5_35882 + 1)), some (vI r_35890), some (vI x7_35964)]) dX12_laysMatches_197 rfl (by omega) (by decide) rfl rfl rfl ?_
                      refine kx_goto 88 F dX12_laysMatches_200 (by decide) ?_
                      refine kx_drop 6 (lo' := [some (vR G 163), some (vI a1), some (vI a2), some (vI x3_35963), some (vI x4_35229), some (vI (x5_35882 + 1)), none, some (vI x7_35964)]) rfl ?_
                      refine kx_drop 7 (lo' := [some (vR G 163), some (vI a1), some (vI a2), some (vI x3_35963), some (vI x4_35229), some (vI (x5_35882 + 1)), none, none]) rfl ?_
                      exact ih_35886 _ (by omega) x3_35963 (x5_35882 + 1) N_35965 hI_N_35965 hF_N_35965 (by omega) rfl
                    · refine kx_iload 119 F 6 dX12_laysMatches_117 rfl rfl ?_
                      refine kx_ldcw 122 (z := 1000000) F dX12_laysMatches_119 ct_X12_428 rfl ?_
                      refine kx_icmp_ge 125 F 197 dX12_laysMatches_122 (by decide) rfl (by omega) (by decide) (fun h_35972 => ?_) (fun h_35972 => ?_)
                      · refine kx_iinc 200 F 5 (v := x5_35882 + 1) (lo' := [some (vR G 163), some (vI a1), some (vI a2), some (vI x3_35963), some (vI x4_35229), some (vI (x5_35882 + 1)), some (vI r_35890), some (vI x7_35964)]) dX12_laysMatches_197 rfl (by omega) (by decide) rfl rfl rfl ?_
                        refine kx_goto 88 F dX12_laysMatches_200 (by decide) ?_
                        refine kx_drop 6 (lo' := [some (vR G 163), some (vI a1), some (vI a2), some (vI x3_35963), some (vI x4_35229), some (vI (x5_35882 + 1)), none, some (vI x7_35964)]) rfl ?_
                        refine kx_drop 7 (lo' := [some (vR G 163), some (vI a1), some (vI a2), some (vI x3_35963), some (vI x4_35229), some (vI (x5_35882 + 1)), none, none]) rfl ?_
                        exact ih_35886 _ (by omega) x3_35963 (x5_35882 + 1) N_35965 hI_N_35965 hF_N_35965 (by omega) rfl
                      · refine kx_aload_n 126 F 0 dX12_laysMatches_125 rfl rfl rfl ?_
                        refine kx_getr 129 F fl_X12_80 kd_163 rfl rfl (j := 36) rfl dX12_laysMatches_126 (v := 183) (uq_183 (Inv.r hI_N_35965 kd_163 rfl 36 rfl rfl)) rfl ?_
                        refine kx_bipush 131 F dX12_laysMatches_129 (by decide) rfl ?_
                        refine kx_iload 133 F 7 dX12_laysMatches_131 rfl rfl ?_
                        refine kx_imul 134 F (v := 9 * x7_35964) dX12_laysMatches_133 (by omega) rfl ?_
                        refine kx_iload 136 F 4 dX12_laysMatches_134 rfl rfl ?_
                        refine kx_iadd 137 F (v := 9 * x7_35964 + x4_35229) dX12_laysMatches_136 rfl rfl ?_
                        refine kx_iald 138 F kd_183 rfl rfl (by omega) (by decide) dX12_laysMatches_137 (v := (N_35965 183 (9 * x7_35964 + x4_35229))) rfl rfl ?_
                        have h_35973 := Inv.g hI_N_35965 kd_183 rfl (9 * x7_35964 + x4_35229) (a := 0) (b := 1000000) rfl rfl
                        refine kx_iload 140 F 6 dX12_laysMatches_138 rfl rfl ?_
                        refine kx_iadd 141 F (v := (N_35965 183 (9 * x7_35964 + x4_35229)) + r_35890) dX12_laysMatches_140 rfl rfl ?_
                        refine kx_aload_n 142 F 0 dX12_laysMatches_141 rfl rfl rfl ?_
                        refine kx_getr 145 F fl_X12_80 kd_163 rfl rfl (j := 36) rfl dX12_laysMatches_142 (v := 183) (uq_183 (Inv.r hI_N_35965 kd_163 rfl 36 rfl rfl)) rfl ?_
                        refine kx_bipush 147 F dX12_laysMatches_145 (by decide) rfl ?_
                        refine kx_iload 149 F 7 dX12_laysMatches_147 rfl rfl ?_
                        refine kx_imul 150 F (v := 9 * x7_35964) dX12_laysMatches_149 (by omega) rfl ?_
                        refine kx_iload 152 F 5 dX12_laysMatches_150 rfl rfl ?_
                        refine kx_iadd 153 F (v := 9 * x7_35964 + x5_35882) dX12_laysMatches_152 rfl rfl ?_
                        refine kx_iald 154 F kd_183 rfl rfl (by omega) (by decide) dX12_laysMatches_153 (v := (N_35965 183 (9 * x7_35964 + x5_35882))) rfl rfl ?_
                        have h_35974 := Inv.g hI_N_35965 kd_183 rfl (9 * x7_35964 + x5_35882) (a := 0) (b := 1000000) rfl rfl
                        refine kx_icmp_lt 157 F 160 dX12_laysMatches_154 (by decide) rfl (by omega) (by omega) (fun h_35975 => ?_) (fun h_35975 => ?_)
                        · refine kx_aload_n 161 F 0 dX12_laysMatches_160 rfl rfl rfl ?_
                          refine kx_getr 164 F fl_X12_80 kd_163 rfl rfl (j := 36) rfl dX12_laysMatches_161 (v := 183) (uq_183 (Inv.r hI_N_35965 kd_163 rfl 36 rfl rfl)) rfl ?_
                          refine kx_bipush 166 F dX12_laysMatches_164 (by decide) rfl ?_
                          refine kx_iload 168 F 7 dX12_laysMatches_166 rfl rfl ?_
                          refine kx_imul 169 F (v := 9 * x7_35964) dX12_laysMatches_168 (by omega) rfl ?_
                          refine kx_iload 171 F 5 dX12_laysMatches_169 rfl rfl ?_
                          refine kx_iadd 172 F (v := 9 * x7_35964 + x5_35882) dX12_laysMatches_171 rfl rfl ?_
                          refine kx_aload_n 173 F 0 dX12_laysMatches_172 rfl rfl rfl ?_
                          refine kx_getr 176 F fl_X12_80 kd_163 rfl rfl (j := 36) rfl dX12_laysMatches_173 (v := 183) (uq_183 (Inv.r hI_N_35965 kd_163 rfl 36 rfl rfl)) rfl ?_
                          refine kx_bipush 178 F dX12_laysMatches_176 (by decide) rfl ?_
                          refine kx_iload 180 F 7 dX12_laysMatches_178 rfl rfl ?_
                          refine kx_imul 181 F (v := 9 * x7_35964) dX12_laysMatches_180 (by omega) rfl ?_
                          refine kx_iload 183 F 4 dX12_laysMatches_181 rfl rfl ?_
                          refine kx_iadd 184 F (v := 9 * x7_35964 + x4_35229) dX12_laysMatches_183 rfl rfl ?_
                          refine kx_iald 185 F kd_183 rfl rfl (by omega) (by decide) dX12_laysMatches_184 (v := (N_35965 183 (9 * x7_35964 + x4_35229))) rfl rfl ?_
                          refine kx_iload 187 F 6 dX12_laysMatches_185 rfl rfl ?_
                          refine kx_iadd 188 F (v := (N_35965 183 (9 * x7_35964 + x4_35229)) + r_35890) dX12_laysMatches_187 rfl rfl ?_
                          refine kx_iast 189 F kd_183 rfl rfl (by omega) (by decide) dX12_laysMatches_188 rfl ?_
                          intro N_35976 hM_N_35976
                          have hI_N_35976 : Inv true N_35976 := Inv.u hI_N_35965 hM_N_35976 kd_183 (a := 0) (b := 1000000) rfl rfl rfl (by omega)
                          have hF_N_35976 : Fr f_c_X12_laysMatches M N_35976 := Fr.u hF_N_35965 hM_N_35976 kd_183 rfl
                          have ht_35977 := tot_u (n := 81) hM_N_35976 kd_183 (by omega)
                          refine kx_iconst 190 F dX12_laysMatches_189 rfl ?_
                          refine kx_istore_n 191 F 3 (lo' := [some (vR G 163), some (vI a1), some (vI a2), some (vI 1), some (vI x4_35229), some (vI x5_35882), some (vI r_35890), some (vI x7_35964)]) dX12_laysMatches_190 rfl (by decide) rfl rfl rfl ?_
                          refine kx_iinc 194 F 7 (v := x7_35964 + 1) (lo' := [some (vR G 163), some (vI a1), some (vI a2), some (vI 1), some (vI x4_35229), some (vI x5_35882), some (vI r_35890), some (vI (x7_35964 + 1))]) dX12_laysMatches_191 rfl (by omega) (by decide) rfl rfl rfl ?_
                          refine kx_goto 110 F dX12_laysMatches_194 (by decide) ?_
                          exact ih_35968 _ (by omega) 1 (x7_35964 + 1) N_35976 hI_N_35976 hF_N_35976 (by omega) rfl
                        · refine kx_goto 191 F dX12_laysMatches_157 (by decide) ?_
                          refine kx_iinc 194 F 7 (v := x7_35964 + 1) (lo' := [some (vR G 163), some (vI a1), some (vI a2), some (vI x3_35963), some (vI x4_35229), some (vI x5_35882), some (vI r_35890), some (vI (x7_35964 + 1))]) dX12_laysMatches_191 rfl (by omega) (by decide) rfl rfl rfl ?_
                          refine kx_goto 110 F dX12_laysMatches_194 (by decide) ?_
                          exact ih_35968 _ (by omega) x3_35963 (x7_35964 + 1) N_35965 hI_N_35965 hF_N_35965 (by omega) rfl
                  exact L_35966 _ x3_35881 0 N_35883 hI_N_35883 hF_N_35883 (by omega) rfl
              exact L_35884 _ x3_35228 0 N_35230 hI_N_35230 hF_N_35230 (by omega) rfl
          exact L_35231 _ 0 0 N_30010 hI_N_30010 hF_N_30010 (by omega) rfl
      refine kx_drop 4 (lo' := [some (vR G 163), some (vI a1), some (vI a2), some (vI 1), none, none, none, none]) rfl ?_
      exact L_30003 _ 1 N_24022 hI_N_24022 hF_N_24022 (by omega) rfl
    · refine kx_aload_n 17 F 0 dX12_laysMatches_16 rfl rfl rfl ?_
      refine kx_getr 20 F fl_X12_80 kd_163 rfl rfl (j := 36) rfl dX12_laysMatches_17 (v := 183) (uq_183 (Inv.r hI_N_24022 kd_163 rfl 36 rfl rfl)) rfl ?_
      refine kx_iload 22 F 4 dX12_laysMatches_20 rfl rfl ?_
      refine kx_iload 24 F 4 dX12_laysMatches_22 rfl rfl ?_
      refine kx_bipush 26 F dX12_laysMatches_24 (by decide) rfl ?_
      refine kx_idiv 27 F (v := (x4_24021 / 9)) dX12_laysMatches_26 (by omega) (by decide) rfl rfl ?_
      refine kx_iload 29 F 4 dX12_laysMatches_27 rfl rfl ?_
      refine kx_bipush 31 F dX12_laysMatches_29 (by decide) rfl ?_
      refine kx_irem 32 F (v := (x4_24021 % 9)) dX12_laysMatches_31 (by omega) (by decide) rfl rfl ?_
      refine kx_icmp_ne 35 F 53 dX12_laysMatches_32 (by decide) rfl (by omega) (by omega) (fun h_35978 => ?_) (fun h_35978 => ?_)
      · refine kx_ldcw 56 (z := 1000000) F dX12_laysMatches_53 ct_X12_428 rfl ?_
        refine kx_iast 57 F kd_183 rfl rfl (by omega) (by decide) dX12_laysMatches_56 rfl ?_
        intro N_35979 hM_N_35979
        have hI_N_35979 : Inv true N_35979 := Inv.u hI_N_24022 hM_N_35979 kd_183 (a := 0) (b := 1000000) rfl rfl rfl (by omega)
        have hF_N_35979 : Fr f_c_X12_laysMatches M N_35979 := Fr.u hF_N_24022 hM_N_35979 kd_183 rfl
        have h_35981 := Inv.g hI_N_24022 kd_183 rfl x4_24021 (a := 0) (b := 1000000) rfl rfl
        have ht_35980 := tot_u (n := 81) hM_N_35979 kd_183 (by omega)
        refine kx_iinc 60 F 4 (v := x4_24021 + 1) (lo' := [some (vR G 163), some (vI a1), some (vI a2), some (vI 1), some (vI (x4_24021 + 1)), none, none, none]) dX12_laysMatches_57 rfl (by omega) (by decide) rfl rfl rfl ?_
        refine kx_goto 9 F dX12_laysMatches_60 (by decide) ?_
        exact ih_24025 _ (by omega) (x4_24021 + 1) N_35979 hI_N_35979 hF_N_35979 (by omega) rfl
      · refine kx_aload_n 36 F 0 dX12_laysMatches_35 rfl rfl rfl ?_
        refine kx_iload_n 37 F 1 dX12_laysMatches_36 rfl rfl rfl ?_
        refine kx_iload_n 38 F 2 dX12_laysMatches_37 rfl rfl rfl ?_
        refine kx_iload 40 F 4 dX12_laysMatches_38 rfl rfl ?_
        refine kx_bipush 42 F dX12_laysMatches_40 (by decide) rfl ?_
        refine kx_idiv 43 F (v := (x4_24021 / 9)) dX12_laysMatches_42 (by omega) (by decide) rfl rfl ?_
        refine kx_Vi 46 (ci := 0) F (As := [vI a1, vI a2, vI (x4_24021 / 9)]) (st := [vI x4_24021, vR G 183]) vd_X12_436 (c_X12_isPair G l N_24022 a1 a2 (x4_24021 / 9) hI_N_24022 (by omega)) kd_163 rfl rfl rfl ⟨by decide, by decide⟩ rfl rfl (Nat.le_of_ble_eq_true rfl) dX12_laysMatches_43 rfl ?_
        intro r_35982 N_35983 q_35984
        obtain ⟨rfl, q_35984c⟩ := q_35984
        refine kx_if_eq 49 F 53 dX12_laysMatches_46 (by decide) rfl (by omega) (fun h_35985 => ?_) (fun h_35985 => ?_)
        · refine kx_ldcw 56 (z := 1000000) F dX12_laysMatches_53 ct_X12_428 rfl ?_
          refine kx_iast 57 F kd_183 rfl rfl (by omega) (by decide) dX12_laysMatches_56 rfl ?_
          intro N_35986 hM_N_35986
          have hI_N_35986 : Inv true N_35986 := Inv.u hI_N_24022 hM_N_35986 kd_183 (a := 0) (b := 1000000) rfl rfl rfl (by omega)
          have hF_N_35986 : Fr f_c_X12_laysMatches M N_35986 := Fr.u hF_N_24022 hM_N_35986 kd_183 rfl
          have h_35988 := Inv.g hI_N_24022 kd_183 rfl x4_24021 (a := 0) (b := 1000000) rfl rfl
          have ht_35987 := tot_u (n := 81) hM_N_35986 kd_183 (by omega)
          refine kx_iinc 60 F 4 (v := x4_24021 + 1) (lo' := [some (vR G 163), some (vI a1), some (vI a2), some (vI 1), some (vI (x4_24021 + 1)), none, none, none]) dX12_laysMatches_57 rfl (by omega) (by decide) rfl rfl rfl ?_
          refine kx_goto 9 F dX12_laysMatches_60 (by decide) ?_
          exact ih_24025 _ (by omega) (x4_24021 + 1) N_35986 hI_N_35986 hF_N_35986 (by omega) rfl
        · refine kx_iconst 50 F dX12_laysMatches_49 rfl ?_
          refine kx_goto 56 F dX12_laysMatches_50 (by decide) ?_
          refine kx_iast 57 F kd_183 rfl rfl (by omega) (by decide) dX12_laysMatches_56 rfl ?_
          intro N_35989 hM_N_35989
          have hI_N_35989 : Inv true N_35989 := Inv.u hI_N_24022 hM_N_35989 kd_183 (a := 0) (b := 1000000) rfl rfl rfl (by omega)
          have hF_N_35989 : Fr f_c_X12_laysMatches M N_35989 := Fr.u hF_N_24022 hM_N_35989 kd_183 rfl
          have h_35991 := Inv.g hI_N_24022 kd_183 rfl x4_24021 (a := 0) (b := 1000000) rfl rfl
          have ht_35990 := tot_u (n := 81) hM_N_35989 kd_183 (by omega)
          refine kx_iinc 60 F 4 (v := x4_24021 + 1) (lo' := [some (vR G 163), some (vI a1), some (vI a2), some (vI 1), some (vI (x4_24021 + 1)), none, none, none]) dX12_laysMatches_57 rfl (by omega) (by decide) rfl rfl rfl ?_
          refine kx_goto 9 F dX12_laysMatches_60 (by decide) ?_
          exact ih_24025 _ (by omega) (x4_24021 + 1) N_35989 hI_N_35989 hF_N_35989 (by omega) rfl
  exact L_24023 _ 0 N_1 hI_N_1 hF_N_1 (by omega) rfl
set_option maxRecDepth 100000 in
theorem dGR_31_c_974 : (decode cX12_laysAhead 0 = .ok (.aload_n 0, 1)) ∧ (decode cX12_laysAhead 1 = .ok (.iload_n 1, 1)) ∧ (decode cX12_laysAhead 2 = .ok (.iload_n 2, 1)) ∧ (decode cX12_laysAhead 3 = .ok (.invokevirtual 445, 3)) ∧ (decode cX12_laysAhead 6 = .ok (.iconst 1, 1)) ∧ (decode cX12_laysAhead 7 = .ok (.istore_n 3, 1)) ∧ (decode cX12_laysAhead 8 = .ok (.iconst 0, 1)) ∧ (decode cX12_laysAhead 9 = .ok (.istore 4, 2)) ∧ (decode cX12_laysAhead 11 = .ok (.iload 4, 2)) ∧ (decode cX12_laysAhead 13 = .ok (.bipush 9, 2)) ∧ (decode cX12_laysAhead 15 = .ok (.if_icmp .ge 67, 3)) ∧ (decode cX12_laysAhead 18 = .ok (.aload_n 0, 1)) := by decide +kernel
theorem dX12_laysAhead_0 : decode cX12_laysAhead 0 = .ok (.aload_n 0, 1) := dGR_31_c_974.1
theorem dX12_laysAhead_1 : decode cX12_laysAhead 1 = .ok (.iload_n 1, 1) := dGR_31_c_974.2.1
theorem dX12_laysAhead_2 : decode cX12_laysAhead 2 = .ok (.iload_n 2, 1) := dGR_31_c_974.2.2.1
theorem dX12_laysAhead_3 : decode cX12_laysAhead 3 = .ok (.invokevirtual 445, 3) := dGR_31_c_974.2.2.2.1
theorem dX12_laysAhead_6 : decode cX12_laysAhead 6 = .ok (.iconst 1, 1) := dGR_31_c_974.2.2.2.2.1
theorem dX12_laysAhead_7 : decode cX12_laysAhead 7 = .ok (.istore_n 3, 1) := dGR_31_c_974.2.2.2.2.2.1
theorem dX12_laysAhead_8 : decode cX12_laysAhead 8 = .ok (.iconst 0, 1) := dGR_31_c_974.2.2.2.2.2.2.1
theorem dX12_laysAhead_9 : decode cX12_laysAhead 9 = .ok (.istore 4, 2) := dGR_31_c_974.2.2.2.2.2.2.2.1
theorem dX12_laysAhead_11 : decode cX12_laysAhead 11 = .ok (.iload 4, 2) := dGR_31_c_974.2.2.2.2.2.2.2.2.1
theorem dX12_laysAhead_13 : decode cX12_laysAhead 13 = .ok (.bipush 9, 2) := dGR_31_c_974.2.2.2.2.2.2.2.2.2.1
theorem dX12_laysAhead_15 : decode cX12_laysAhead 15 = .ok (.if_icmp .ge 67, 3) := dGR_31_c_974.2.2.2.2.2.2.2.2.2.2.1
theorem dX12_laysAhead_18 : decode cX12_laysAhead 18 = .ok (.aload_n 0, 1) := dGR_31_c_974.2.2.2.2.2.2.2.2.2.2.2
set_option maxRecDepth 100000 in
theorem dGR_31_c_975 : (decode cX12_laysAhead 19 = .ok (.getfield 86, 3)) ∧ (decode cX12_laysAhead 22 = .ok (.iload 4, 2)) ∧ (decode cX12_laysAhead 24 = .ok (.aload_n 0, 1)) ∧ (decode cX12_laysAhead 25 = .ok (.aload_n 0, 1)) ∧ (decode cX12_laysAhead 26 = .ok (.iload_n 1, 1)) ∧ (decode cX12_laysAhead 27 = .ok (.iconst 2, 1)) ∧ (decode cX12_laysAhead 28 = .ok (.invokevirtual 288, 3)) ∧ (decode cX12_laysAhead 31 = .ok (.iload 4, 2)) ∧ (decode cX12_laysAhead 33 = .ok (.iconst 3, 1)) ∧ (decode cX12_laysAhead 34 = .ok (.idiv, 1)) ∧ (decode cX12_laysAhead 35 = .ok (.invokevirtual 239, 3)) ∧ (decode cX12_laysAhead 38 = .ok (.ifCond .eq 24, 3)) := by decide +kernel
theorem dX12_laysAhead_19 : decode cX12_laysAhead 19 = .ok (.getfield 86, 3) := dGR_31_c_975.1
theorem dX12_laysAhead_22 : decode cX12_laysAhead 22 = .ok (.iload 4, 2) := dGR_31_c_975.2.1
theorem dX12_laysAhead_24 : decode cX12_laysAhead 24 = .ok (.aload_n 0, 1) := dGR_31_c_975.2.2.1
theorem dX12_laysAhead_25 : decode cX12_laysAhead 25 = .ok (.aload_n 0, 1) := dGR_31_c_975.2.2.2.1
theorem dX12_laysAhead_26 : decode cX12_laysAhead 26 = .ok (.iload_n 1, 1) := dGR_31_c_975.2.2.2.2.1
theorem dX12_laysAhead_27 : decode cX12_laysAhead 27 = .ok (.iconst 2, 1) := dGR_31_c_975.2.2.2.2.2.1
theorem dX12_laysAhead_28 : decode cX12_laysAhead 28 = .ok (.invokevirtual 288, 3) := dGR_31_c_975.2.2.2.2.2.2.1
theorem dX12_laysAhead_31 : decode cX12_laysAhead 31 = .ok (.iload 4, 2) := dGR_31_c_975.2.2.2.2.2.2.2.1
theorem dX12_laysAhead_33 : decode cX12_laysAhead 33 = .ok (.iconst 3, 1) := dGR_31_c_975.2.2.2.2.2.2.2.2.1
theorem dX12_laysAhead_34 : decode cX12_laysAhead 34 = .ok (.idiv, 1) := dGR_31_c_975.2.2.2.2.2.2.2.2.2.1
theorem dX12_laysAhead_35 : decode cX12_laysAhead 35 = .ok (.invokevirtual 239, 3) := dGR_31_c_975.2.2.2.2.2.2.2.2.2.2.1
theorem dX12_laysAhead_38 : decode cX12_laysAhead 38 = .ok (.ifCond .eq 24, 3) := dGR_31_c_975.2.2.2.2.2.2.2.2.2.2.2
set_option maxRecDepth 100000 in
theorem dGR_31_c_976 : (decode cX12_laysAhead 41 = .ok (.aload_n 0, 1)) ∧ (decode cX12_laysAhead 42 = .ok (.aload_n 0, 1)) ∧ (decode cX12_laysAhead 43 = .ok (.iload_n 2, 1)) ∧ (decode cX12_laysAhead 44 = .ok (.iconst 2, 1)) ∧ (decode cX12_laysAhead 45 = .ok (.invokevirtual 288, 3)) ∧ (decode cX12_laysAhead 48 = .ok (.iload 4, 2)) ∧ (decode cX12_laysAhead 50 = .ok (.iconst 3, 1)) ∧ (decode cX12_laysAhead 51 = .ok (.irem, 1)) ∧ (decode cX12_laysAhead 52 = .ok (.invokevirtual 239, 3)) ∧ (decode cX12_laysAhead 55 = .ok (.ifCond .eq 7, 3)) ∧ (decode cX12_laysAhead 58 = .ok (.iconst 0, 1)) ∧ (decode cX12_laysAhead 59 = .ok (.goto 6, 3)) := by decide +kernel
theorem dX12_laysAhead_41 : decode cX12_laysAhead 41 = .ok (.aload_n 0, 1) := dGR_31_c_976.1
theorem dX12_laysAhead_42 : decode cX12_laysAhead 42 = .ok (.aload_n 0, 1) := dGR_31_c_976.2.1
theorem dX12_laysAhead_43 : decode cX12_laysAhead 43 = .ok (.iload_n 2, 1) := dGR_31_c_976.2.2.1
theorem dX12_laysAhead_44 : decode cX12_laysAhead 44 = .ok (.iconst 2, 1) := dGR_31_c_976.2.2.2.1
theorem dX12_laysAhead_45 : decode cX12_laysAhead 45 = .ok (.invokevirtual 288, 3) := dGR_31_c_976.2.2.2.2.1
theorem dX12_laysAhead_48 : decode cX12_laysAhead 48 = .ok (.iload 4, 2) := dGR_31_c_976.2.2.2.2.2.1
theorem dX12_laysAhead_50 : decode cX12_laysAhead 50 = .ok (.iconst 3, 1) := dGR_31_c_976.2.2.2.2.2.2.1
theorem dX12_laysAhead_51 : decode cX12_laysAhead 51 = .ok (.irem, 1) := dGR_31_c_976.2.2.2.2.2.2.2.1
theorem dX12_laysAhead_52 : decode cX12_laysAhead 52 = .ok (.invokevirtual 239, 3) := dGR_31_c_976.2.2.2.2.2.2.2.2.1
theorem dX12_laysAhead_55 : decode cX12_laysAhead 55 = .ok (.ifCond .eq 7, 3) := dGR_31_c_976.2.2.2.2.2.2.2.2.2.1
theorem dX12_laysAhead_58 : decode cX12_laysAhead 58 = .ok (.iconst 0, 1) := dGR_31_c_976.2.2.2.2.2.2.2.2.2.2.1
theorem dX12_laysAhead_59 : decode cX12_laysAhead 59 = .ok (.goto 6, 3) := dGR_31_c_976.2.2.2.2.2.2.2.2.2.2.2
set_option maxRecDepth 100000 in
theorem dGR_31_c_977 : (decode cX12_laysAhead 62 = .ok (.ldc_w 428, 3)) ∧ (decode cX12_laysAhead 65 = .ok (.iastore, 1)) ∧ (decode cX12_laysAhead 66 = .ok (.aload_n 0, 1)) ∧ (decode cX12_laysAhead 67 = .ok (.getfield 89, 3)) ∧ (decode cX12_laysAhead 70 = .ok (.iload 4, 2)) ∧ (decode cX12_laysAhead 72 = .ok (.ldc_w 428, 3)) ∧ (decode cX12_laysAhead 75 = .ok (.iastore, 1)) ∧ (decode cX12_laysAhead 76 = .ok (.iinc 4 1, 3)) ∧ (decode cX12_laysAhead 79 = .ok (.goto (-68), 3)) ∧ (decode cX12_laysAhead 82 = .ok (.iload_n 3, 1)) ∧ (decode cX12_laysAhead 83 = .ok (.ifCond .eq 198, 3)) ∧ (decode cX12_laysAhead 86 = .ok (.iconst 0, 1)) := by decide +kernel
theorem dX12_laysAhead_62 : decode cX12_laysAhead 62 = .ok (.ldc_w 428, 3) := dGR_31_c_977.1
theorem dX12_laysAhead_65 : decode cX12_laysAhead 65 = .ok (.iastore, 1) := dGR_31_c_977.2.1
theorem dX12_laysAhead_66 : decode cX12_laysAhead 66 = .ok (.aload_n 0, 1) := dGR_31_c_977.2.2.1
theorem dX12_laysAhead_67 : decode cX12_laysAhead 67 = .ok (.getfield 89, 3) := dGR_31_c_977.2.2.2.1
theorem dX12_laysAhead_70 : decode cX12_laysAhead 70 = .ok (.iload 4, 2) := dGR_31_c_977.2.2.2.2.1
theorem dX12_laysAhead_72 : decode cX12_laysAhead 72 = .ok (.ldc_w 428, 3) := dGR_31_c_977.2.2.2.2.2.1
theorem dX12_laysAhead_75 : decode cX12_laysAhead 75 = .ok (.iastore, 1) := dGR_31_c_977.2.2.2.2.2.2.1
theorem dX12_laysAhead_76 : decode cX12_laysAhead 76 = .ok (.iinc 4 1, 3) := dGR_31_c_977.2.2.2.2.2.2.2.1
theorem dX12_laysAhead_79 : decode cX12_laysAhead 79 = .ok (.goto (-68), 3) := dGR_31_c_977.2.2.2.2.2.2.2.2.1
theorem dX12_laysAhead_82 : decode cX12_laysAhead 82 = .ok (.iload_n 3, 1) := dGR_31_c_977.2.2.2.2.2.2.2.2.2.1
theorem dX12_laysAhead_83 : decode cX12_laysAhead 83 = .ok (.ifCond .eq 198, 3) := dGR_31_c_977.2.2.2.2.2.2.2.2.2.2.1
theorem dX12_laysAhead_86 : decode cX12_laysAhead 86 = .ok (.iconst 0, 1) := dGR_31_c_977.2.2.2.2.2.2.2.2.2.2.2
set_option maxRecDepth 100000 in
theorem dGR_31_c_978 : (decode cX12_laysAhead 87 = .ok (.istore_n 3, 1)) ∧ (decode cX12_laysAhead 88 = .ok (.iconst 0, 1)) ∧ (decode cX12_laysAhead 89 = .ok (.istore 4, 2)) ∧ (decode cX12_laysAhead 91 = .ok (.iload 4, 2)) ∧ (decode cX12_laysAhead 93 = .ok (.bipush 9, 2)) ∧ (decode cX12_laysAhead 95 = .ok (.if_icmp .ge 183, 3)) ∧ (decode cX12_laysAhead 98 = .ok (.iconst 0, 1)) ∧ (decode cX12_laysAhead 99 = .ok (.istore 5, 2)) ∧ (decode cX12_laysAhead 101 = .ok (.iload 5, 2)) ∧ (decode cX12_laysAhead 103 = .ok (.bipush 9, 2)) ∧ (decode cX12_laysAhead 105 = .ok (.if_icmp .ge 167, 3)) ∧ (decode cX12_laysAhead 108 = .ok (.aload_n 0, 1)) := by decide +kernel
theorem dX12_laysAhead_87 : decode cX12_laysAhead 87 = .ok (.istore_n 3, 1) := dGR_31_c_978.1
theorem dX12_laysAhead_88 : decode cX12_laysAhead 88 = .ok (.iconst 0, 1) := dGR_31_c_978.2.1
theorem dX12_laysAhead_89 : decode cX12_laysAhead 89 = .ok (.istore 4, 2) := dGR_31_c_978.2.2.1
theorem dX12_laysAhead_91 : decode cX12_laysAhead 91 = .ok (.iload 4, 2) := dGR_31_c_978.2.2.2.1
theorem dX12_laysAhead_93 : decode cX12_laysAhead 93 = .ok (.bipush 9, 2) := dGR_31_c_978.2.2.2.2.1
theorem dX12_laysAhead_95 : decode cX12_laysAhead 95 = .ok (.if_icmp .ge 183, 3) := dGR_31_c_978.2.2.2.2.2.1
theorem dX12_laysAhead_98 : decode cX12_laysAhead 98 = .ok (.iconst 0, 1) := dGR_31_c_978.2.2.2.2.2.2.1
theorem dX12_laysAhead_99 : decode cX12_laysAhead 99 = .ok (.istore 5, 2) := dGR_31_c_978.2.2.2.2.2.2.2.1
theorem dX12_laysAhead_101 : decode cX12_laysAhead 101 = .ok (.iload 5, 2) := dGR_31_c_978.2.2.2.2.2.2.2.2.1
theorem dX12_laysAhead_103 : decode cX12_laysAhead 103 = .ok (.bipush 9, 2) := dGR_31_c_978.2.2.2.2.2.2.2.2.2.1
theorem dX12_laysAhead_105 : decode cX12_laysAhead 105 = .ok (.if_icmp .ge 167, 3) := dGR_31_c_978.2.2.2.2.2.2.2.2.2.2.1
theorem dX12_laysAhead_108 : decode cX12_laysAhead 108 = .ok (.aload_n 0, 1) := dGR_31_c_978.2.2.2.2.2.2.2.2.2.2.2
set_option maxRecDepth 100000 in
theorem dGR_31_c_979 : (decode cX12_laysAhead 109 = .ok (.aload_n 0, 1)) ∧ (decode cX12_laysAhead 110 = .ok (.getfield 86, 3)) ∧ (decode cX12_laysAhead 113 = .ok (.iload 5, 2)) ∧ (decode cX12_laysAhead 115 = .ok (.aload_n 0, 1)) ∧ (decode cX12_laysAhead 116 = .ok (.getfield 86, 3)) ∧ (decode cX12_laysAhead 119 = .ok (.iload 4, 2)) ∧ (decode cX12_laysAhead 121 = .ok (.iaload, 1)) ∧ (decode cX12_laysAhead 122 = .ok (.aload_n 0, 1)) ∧ (decode cX12_laysAhead 123 = .ok (.getfield 80, 3)) ∧ (decode cX12_laysAhead 126 = .ok (.bipush 9, 2)) ∧ (decode cX12_laysAhead 128 = .ok (.iload 4, 2)) ∧ (decode cX12_laysAhead 130 = .ok (.imul, 1)) := by decide +kernel
theorem dX12_laysAhead_109 : decode cX12_laysAhead 109 = .ok (.aload_n 0, 1) := dGR_31_c_979.1
theorem dX12_laysAhead_110 : decode cX12_laysAhead 110 = .ok (.getfield 86, 3) := dGR_31_c_979.2.1
theorem dX12_laysAhead_113 : decode cX12_laysAhead 113 = .ok (.iload 5, 2) := dGR_31_c_979.2.2.1
theorem dX12_laysAhead_115 : decode cX12_laysAhead 115 = .ok (.aload_n 0, 1) := dGR_31_c_979.2.2.2.1
theorem dX12_laysAhead_116 : decode cX12_laysAhead 116 = .ok (.getfield 86, 3) := dGR_31_c_979.2.2.2.2.1
theorem dX12_laysAhead_119 : decode cX12_laysAhead 119 = .ok (.iload 4, 2) := dGR_31_c_979.2.2.2.2.2.1
theorem dX12_laysAhead_121 : decode cX12_laysAhead 121 = .ok (.iaload, 1) := dGR_31_c_979.2.2.2.2.2.2.1
theorem dX12_laysAhead_122 : decode cX12_laysAhead 122 = .ok (.aload_n 0, 1) := dGR_31_c_979.2.2.2.2.2.2.2.1
theorem dX12_laysAhead_123 : decode cX12_laysAhead 123 = .ok (.getfield 80, 3) := dGR_31_c_979.2.2.2.2.2.2.2.2.1
theorem dX12_laysAhead_126 : decode cX12_laysAhead 126 = .ok (.bipush 9, 2) := dGR_31_c_979.2.2.2.2.2.2.2.2.2.1
theorem dX12_laysAhead_128 : decode cX12_laysAhead 128 = .ok (.iload 4, 2) := dGR_31_c_979.2.2.2.2.2.2.2.2.2.2.1
theorem dX12_laysAhead_130 : decode cX12_laysAhead 130 = .ok (.imul, 1) := dGR_31_c_979.2.2.2.2.2.2.2.2.2.2.2
set_option maxRecDepth 100000 in
theorem dGR_31_c_980 : (decode cX12_laysAhead 131 = .ok (.iload 5, 2)) ∧ (decode cX12_laysAhead 133 = .ok (.iadd, 1)) ∧ (decode cX12_laysAhead 134 = .ok (.iaload, 1)) ∧ (decode cX12_laysAhead 135 = .ok (.iadd, 1)) ∧ (decode cX12_laysAhead 136 = .ok (.invokevirtual 448, 3)) ∧ (decode cX12_laysAhead 139 = .ok (.ifCond .eq 5, 3)) ∧ (decode cX12_laysAhead 142 = .ok (.iconst 1, 1)) ∧ (decode cX12_laysAhead 143 = .ok (.istore_n 3, 1)) ∧ (decode cX12_laysAhead 144 = .ok (.aload_n 0, 1)) ∧ (decode cX12_laysAhead 145 = .ok (.aload_n 0, 1)) ∧ (decode cX12_laysAhead 146 = .ok (.getfield 89, 3)) ∧ (decode cX12_laysAhead 149 = .ok (.iload 5, 2)) := by decide +kernel
theorem dX12_laysAhead_131 : decode cX12_laysAhead 131 = .ok (.iload 5, 2) := dGR_31_c_980.1
theorem dX12_laysAhead_133 : decode cX12_laysAhead 133 = .ok (.iadd, 1) := dGR_31_c_980.2.1
theorem dX12_laysAhead_134 : decode cX12_laysAhead 134 = .ok (.iaload, 1) := dGR_31_c_980.2.2.1
theorem dX12_laysAhead_135 : decode cX12_laysAhead 135 = .ok (.iadd, 1) := dGR_31_c_980.2.2.2.1
theorem dX12_laysAhead_136 : decode cX12_laysAhead 136 = .ok (.invokevirtual 448, 3) := dGR_31_c_980.2.2.2.2.1
theorem dX12_laysAhead_139 : decode cX12_laysAhead 139 = .ok (.ifCond .eq 5, 3) := dGR_31_c_980.2.2.2.2.2.1
theorem dX12_laysAhead_142 : decode cX12_laysAhead 142 = .ok (.iconst 1, 1) := dGR_31_c_980.2.2.2.2.2.2.1
theorem dX12_laysAhead_143 : decode cX12_laysAhead 143 = .ok (.istore_n 3, 1) := dGR_31_c_980.2.2.2.2.2.2.2.1
theorem dX12_laysAhead_144 : decode cX12_laysAhead 144 = .ok (.aload_n 0, 1) := dGR_31_c_980.2.2.2.2.2.2.2.2.1
theorem dX12_laysAhead_145 : decode cX12_laysAhead 145 = .ok (.aload_n 0, 1) := dGR_31_c_980.2.2.2.2.2.2.2.2.2.1
theorem dX12_laysAhead_146 : decode cX12_laysAhead 146 = .ok (.getfield 89, 3) := dGR_31_c_980.2.2.2.2.2.2.2.2.2.2.1
theorem dX12_laysAhead_149 : decode cX12_laysAhead 149 = .ok (.iload 5, 2) := dGR_31_c_980.2.2.2.2.2.2.2.2.2.2.2
set_option maxRecDepth 100000 in
theorem dGR_31_c_981 : (decode cX12_laysAhead 151 = .ok (.aload_n 0, 1)) ∧ (decode cX12_laysAhead 152 = .ok (.getfield 89, 3)) ∧ (decode cX12_laysAhead 155 = .ok (.iload 4, 2)) ∧ (decode cX12_laysAhead 157 = .ok (.iaload, 1)) ∧ (decode cX12_laysAhead 158 = .ok (.aload_n 0, 1)) ∧ (decode cX12_laysAhead 159 = .ok (.getfield 80, 3)) ∧ (decode cX12_laysAhead 162 = .ok (.bipush 9, 2)) ∧ (decode cX12_laysAhead 164 = .ok (.iload 4, 2)) ∧ (decode cX12_laysAhead 166 = .ok (.imul, 1)) ∧ (decode cX12_laysAhead 167 = .ok (.iload 5, 2)) ∧ (decode cX12_laysAhead 169 = .ok (.iadd, 1)) ∧ (decode cX12_laysAhead 170 = .ok (.iaload, 1)) := by decide +kernel
theorem dX12_laysAhead_151 : decode cX12_laysAhead 151 = .ok (.aload_n 0, 1) := dGR_31_c_981.1
theorem dX12_laysAhead_152 : decode cX12_laysAhead 152 = .ok (.getfield 89, 3) := dGR_31_c_981.2.1
theorem dX12_laysAhead_155 : decode cX12_laysAhead 155 = .ok (.iload 4, 2) := dGR_31_c_981.2.2.1
theorem dX12_laysAhead_157 : decode cX12_laysAhead 157 = .ok (.iaload, 1) := dGR_31_c_981.2.2.2.1
theorem dX12_laysAhead_158 : decode cX12_laysAhead 158 = .ok (.aload_n 0, 1) := dGR_31_c_981.2.2.2.2.1
theorem dX12_laysAhead_159 : decode cX12_laysAhead 159 = .ok (.getfield 80, 3) := dGR_31_c_981.2.2.2.2.2.1
theorem dX12_laysAhead_162 : decode cX12_laysAhead 162 = .ok (.bipush 9, 2) := dGR_31_c_981.2.2.2.2.2.2.1
theorem dX12_laysAhead_164 : decode cX12_laysAhead 164 = .ok (.iload 4, 2) := dGR_31_c_981.2.2.2.2.2.2.2.1
theorem dX12_laysAhead_166 : decode cX12_laysAhead 166 = .ok (.imul, 1) := dGR_31_c_981.2.2.2.2.2.2.2.2.1
theorem dX12_laysAhead_167 : decode cX12_laysAhead 167 = .ok (.iload 5, 2) := dGR_31_c_981.2.2.2.2.2.2.2.2.2.1
theorem dX12_laysAhead_169 : decode cX12_laysAhead 169 = .ok (.iadd, 1) := dGR_31_c_981.2.2.2.2.2.2.2.2.2.2.1
theorem dX12_laysAhead_170 : decode cX12_laysAhead 170 = .ok (.iaload, 1) := dGR_31_c_981.2.2.2.2.2.2.2.2.2.2.2
set_option maxRecDepth 100000 in
theorem dGR_31_c_982 : (decode cX12_laysAhead 171 = .ok (.iadd, 1)) ∧ (decode cX12_laysAhead 172 = .ok (.invokevirtual 448, 3)) ∧ (decode cX12_laysAhead 175 = .ok (.ifCond .eq 5, 3)) ∧ (decode cX12_laysAhead 178 = .ok (.iconst 1, 1)) ∧ (decode cX12_laysAhead 179 = .ok (.istore_n 3, 1)) ∧ (decode cX12_laysAhead 180 = .ok (.aload_n 0, 1)) ∧ (decode cX12_laysAhead 181 = .ok (.iload_n 1, 1)) ∧ (decode cX12_laysAhead 182 = .ok (.iload_n 2, 1)) ∧ (decode cX12_laysAhead 183 = .ok (.iload 4, 2)) ∧ (decode cX12_laysAhead 185 = .ok (.iload 5, 2)) ∧ (decode cX12_laysAhead 187 = .ok (.iconst 0, 1)) ∧ (decode cX12_laysAhead 188 = .ok (.invokevirtual 452, 3)) := by decide +kernel
theorem dX12_laysAhead_171 : decode cX12_laysAhead 171 = .ok (.iadd, 1) := dGR_31_c_982.1
theorem dX12_laysAhead_172 : decode cX12_laysAhead 172 = .ok (.invokevirtual 448, 3) := dGR_31_c_982.2.1
theorem dX12_laysAhead_175 : decode cX12_laysAhead 175 = .ok (.ifCond .eq 5, 3) := dGR_31_c_982.2.2.1
theorem dX12_laysAhead_178 : decode cX12_laysAhead 178 = .ok (.iconst 1, 1) := dGR_31_c_982.2.2.2.1
theorem dX12_laysAhead_179 : decode cX12_laysAhead 179 = .ok (.istore_n 3, 1) := dGR_31_c_982.2.2.2.2.1
theorem dX12_laysAhead_180 : decode cX12_laysAhead 180 = .ok (.aload_n 0, 1) := dGR_31_c_982.2.2.2.2.2.1
theorem dX12_laysAhead_181 : decode cX12_laysAhead 181 = .ok (.iload_n 1, 1) := dGR_31_c_982.2.2.2.2.2.2.1
theorem dX12_laysAhead_182 : decode cX12_laysAhead 182 = .ok (.iload_n 2, 1) := dGR_31_c_982.2.2.2.2.2.2.2.1
theorem dX12_laysAhead_183 : decode cX12_laysAhead 183 = .ok (.iload 4, 2) := dGR_31_c_982.2.2.2.2.2.2.2.2.1
theorem dX12_laysAhead_185 : decode cX12_laysAhead 185 = .ok (.iload 5, 2) := dGR_31_c_982.2.2.2.2.2.2.2.2.2.1
theorem dX12_laysAhead_187 : decode cX12_laysAhead 187 = .ok (.iconst 0, 1) := dGR_31_c_982.2.2.2.2.2.2.2.2.2.2.1
theorem dX12_laysAhead_188 : decode cX12_laysAhead 188 = .ok (.invokevirtual 452, 3) := dGR_31_c_982.2.2.2.2.2.2.2.2.2.2.2
set_option maxRecDepth 100000 in
theorem dGR_31_c_983 : (decode cX12_laysAhead 191 = .ok (.ifCond .eq 27, 3)) ∧ (decode cX12_laysAhead 194 = .ok (.aload_n 0, 1)) ∧ (decode cX12_laysAhead 195 = .ok (.aload_n 0, 1)) ∧ (decode cX12_laysAhead 196 = .ok (.getfield 86, 3)) ∧ (decode cX12_laysAhead 199 = .ok (.iload 5, 2)) ∧ (decode cX12_laysAhead 201 = .ok (.aload_n 0, 1)) ∧ (decode cX12_laysAhead 202 = .ok (.getfield 86, 3)) ∧ (decode cX12_laysAhead 205 = .ok (.iload 4, 2)) ∧ (decode cX12_laysAhead 207 = .ok (.iaload, 1)) ∧ (decode cX12_laysAhead 208 = .ok (.iconst 1, 1)) ∧ (decode cX12_laysAhead 209 = .ok (.iadd, 1)) ∧ (decode cX12_laysAhead 210 = .ok (.invokevirtual 448, 3)) := by decide +kernel
theorem dX12_laysAhead_191 : decode cX12_laysAhead 191 = .ok (.ifCond .eq 27, 3) := dGR_31_c_983.1
theorem dX12_laysAhead_194 : decode cX12_laysAhead 194 = .ok (.aload_n 0, 1) := dGR_31_c_983.2.1
theorem dX12_laysAhead_195 : decode cX12_laysAhead 195 = .ok (.aload_n 0, 1) := dGR_31_c_983.2.2.1
theorem dX12_laysAhead_196 : decode cX12_laysAhead 196 = .ok (.getfield 86, 3) := dGR_31_c_983.2.2.2.1
theorem dX12_laysAhead_199 : decode cX12_laysAhead 199 = .ok (.iload 5, 2) := dGR_31_c_983.2.2.2.2.1
theorem dX12_laysAhead_201 : decode cX12_laysAhead 201 = .ok (.aload_n 0, 1) := dGR_31_c_983.2.2.2.2.2.1
theorem dX12_laysAhead_202 : decode cX12_laysAhead 202 = .ok (.getfield 86, 3) := dGR_31_c_983.2.2.2.2.2.2.1
theorem dX12_laysAhead_205 : decode cX12_laysAhead 205 = .ok (.iload 4, 2) := dGR_31_c_983.2.2.2.2.2.2.2.1
theorem dX12_laysAhead_207 : decode cX12_laysAhead 207 = .ok (.iaload, 1) := dGR_31_c_983.2.2.2.2.2.2.2.2.1
theorem dX12_laysAhead_208 : decode cX12_laysAhead 208 = .ok (.iconst 1, 1) := dGR_31_c_983.2.2.2.2.2.2.2.2.2.1
theorem dX12_laysAhead_209 : decode cX12_laysAhead 209 = .ok (.iadd, 1) := dGR_31_c_983.2.2.2.2.2.2.2.2.2.2.1
theorem dX12_laysAhead_210 : decode cX12_laysAhead 210 = .ok (.invokevirtual 448, 3) := dGR_31_c_983.2.2.2.2.2.2.2.2.2.2.2
set_option maxRecDepth 100000 in
theorem dGR_31_c_984 : (decode cX12_laysAhead 213 = .ok (.ifCond .eq 5, 3)) ∧ (decode cX12_laysAhead 216 = .ok (.iconst 1, 1)) ∧ (decode cX12_laysAhead 217 = .ok (.istore_n 3, 1)) ∧ (decode cX12_laysAhead 218 = .ok (.aload_n 0, 1)) ∧ (decode cX12_laysAhead 219 = .ok (.iload_n 1, 1)) ∧ (decode cX12_laysAhead 220 = .ok (.iload_n 2, 1)) ∧ (decode cX12_laysAhead 221 = .ok (.iload 4, 2)) ∧ (decode cX12_laysAhead 223 = .ok (.iload 5, 2)) ∧ (decode cX12_laysAhead 225 = .ok (.iconst 1, 1)) ∧ (decode cX12_laysAhead 226 = .ok (.invokevirtual 452, 3)) ∧ (decode cX12_laysAhead 229 = .ok (.ifCond .eq 37, 3)) ∧ (decode cX12_laysAhead 232 = .ok (.aload_n 0, 1)) := by decide +kernel
theorem dX12_laysAhead_213 : decode cX12_laysAhead 213 = .ok (.ifCond .eq 5, 3) := dGR_31_c_984.1
theorem dX12_laysAhead_216 : decode cX12_laysAhead 216 = .ok (.iconst 1, 1) := dGR_31_c_984.2.1
theorem dX12_laysAhead_217 : decode cX12_laysAhead 217 = .ok (.istore_n 3, 1) := dGR_31_c_984.2.2.1
theorem dX12_laysAhead_218 : decode cX12_laysAhead 218 = .ok (.aload_n 0, 1) := dGR_31_c_984.2.2.2.1
theorem dX12_laysAhead_219 : decode cX12_laysAhead 219 = .ok (.iload_n 1, 1) := dGR_31_c_984.2.2.2.2.1
theorem dX12_laysAhead_220 : decode cX12_laysAhead 220 = .ok (.iload_n 2, 1) := dGR_31_c_984.2.2.2.2.2.1
theorem dX12_laysAhead_221 : decode cX12_laysAhead 221 = .ok (.iload 4, 2) := dGR_31_c_984.2.2.2.2.2.2.1
theorem dX12_laysAhead_223 : decode cX12_laysAhead 223 = .ok (.iload 5, 2) := dGR_31_c_984.2.2.2.2.2.2.2.1
theorem dX12_laysAhead_225 : decode cX12_laysAhead 225 = .ok (.iconst 1, 1) := dGR_31_c_984.2.2.2.2.2.2.2.2.1
theorem dX12_laysAhead_226 : decode cX12_laysAhead 226 = .ok (.invokevirtual 452, 3) := dGR_31_c_984.2.2.2.2.2.2.2.2.2.1
theorem dX12_laysAhead_229 : decode cX12_laysAhead 229 = .ok (.ifCond .eq 37, 3) := dGR_31_c_984.2.2.2.2.2.2.2.2.2.2.1
theorem dX12_laysAhead_232 : decode cX12_laysAhead 232 = .ok (.aload_n 0, 1) := dGR_31_c_984.2.2.2.2.2.2.2.2.2.2.2
set_option maxRecDepth 100000 in
theorem dGR_31_c_985 : (decode cX12_laysAhead 233 = .ok (.aload_n 0, 1)) ∧ (decode cX12_laysAhead 234 = .ok (.getfield 89, 3)) ∧ (decode cX12_laysAhead 237 = .ok (.iload 5, 2)) ∧ (decode cX12_laysAhead 239 = .ok (.aload_n 0, 1)) ∧ (decode cX12_laysAhead 240 = .ok (.getfield 86, 3)) ∧ (decode cX12_laysAhead 243 = .ok (.iload 4, 2)) ∧ (decode cX12_laysAhead 245 = .ok (.iaload, 1)) ∧ (decode cX12_laysAhead 246 = .ok (.aload_n 0, 1)) ∧ (decode cX12_laysAhead 247 = .ok (.getfield 89, 3)) ∧ (decode cX12_laysAhead 250 = .ok (.iload 4, 2)) ∧ (decode cX12_laysAhead 252 = .ok (.iaload, 1)) ∧ (decode cX12_laysAhead 253 = .ok (.invokestatic 178, 3)) := by decide +kernel
theorem dX12_laysAhead_233 : decode cX12_laysAhead 233 = .ok (.aload_n 0, 1) := dGR_31_c_985.1
theorem dX12_laysAhead_234 : decode cX12_laysAhead 234 = .ok (.getfield 89, 3) := dGR_31_c_985.2.1
theorem dX12_laysAhead_237 : decode cX12_laysAhead 237 = .ok (.iload 5, 2) := dGR_31_c_985.2.2.1
theorem dX12_laysAhead_239 : decode cX12_laysAhead 239 = .ok (.aload_n 0, 1) := dGR_31_c_985.2.2.2.1
theorem dX12_laysAhead_240 : decode cX12_laysAhead 240 = .ok (.getfield 86, 3) := dGR_31_c_985.2.2.2.2.1
theorem dX12_laysAhead_243 : decode cX12_laysAhead 243 = .ok (.iload 4, 2) := dGR_31_c_985.2.2.2.2.2.1
theorem dX12_laysAhead_245 : decode cX12_laysAhead 245 = .ok (.iaload, 1) := dGR_31_c_985.2.2.2.2.2.2.1
theorem dX12_laysAhead_246 : decode cX12_laysAhead 246 = .ok (.aload_n 0, 1) := dGR_31_c_985.2.2.2.2.2.2.2.1
theorem dX12_laysAhead_247 : decode cX12_laysAhead 247 = .ok (.getfield 89, 3) := dGR_31_c_985.2.2.2.2.2.2.2.2.1
theorem dX12_laysAhead_250 : decode cX12_laysAhead 250 = .ok (.iload 4, 2) := dGR_31_c_985.2.2.2.2.2.2.2.2.2.1
theorem dX12_laysAhead_252 : decode cX12_laysAhead 252 = .ok (.iaload, 1) := dGR_31_c_985.2.2.2.2.2.2.2.2.2.2.1
theorem dX12_laysAhead_253 : decode cX12_laysAhead 253 = .ok (.invokestatic 178, 3) := dGR_31_c_985.2.2.2.2.2.2.2.2.2.2.2
set_option maxRecDepth 100000 in
theorem dGR_31_c_986 : (decode cX12_laysAhead 256 = .ok (.iconst 1, 1)) ∧ (decode cX12_laysAhead 257 = .ok (.iadd, 1)) ∧ (decode cX12_laysAhead 258 = .ok (.invokevirtual 448, 3)) ∧ (decode cX12_laysAhead 261 = .ok (.ifCond .eq 5, 3)) ∧ (decode cX12_laysAhead 264 = .ok (.iconst 1, 1)) ∧ (decode cX12_laysAhead 265 = .ok (.istore_n 3, 1)) ∧ (decode cX12_laysAhead 266 = .ok (.iinc 5 1, 3)) ∧ (decode cX12_laysAhead 269 = .ok (.goto (-168), 3)) ∧ (decode cX12_laysAhead 272 = .ok (.iinc 4 1, 3)) ∧ (decode cX12_laysAhead 275 = .ok (.goto (-184), 3)) ∧ (decode cX12_laysAhead 278 = .ok (.goto (-196), 3)) ∧ (decode cX12_laysAhead 281 = .ok (.return_, 1)) := by decide +kernel
theorem dX12_laysAhead_256 : decode cX12_laysAhead 256 = .ok (.iconst 1, 1) := dGR_31_c_986.1
theorem dX12_laysAhead_257 : decode cX12_laysAhead 257 = .ok (.iadd, 1) := dGR_31_c_986.2.1
theorem dX12_laysAhead_258 : decode cX12_laysAhead 258 = .ok (.invokevirtual 448, 3) := dGR_31_c_986.2.2.1
theorem dX12_laysAhead_261 : decode cX12_laysAhead 261 = .ok (.ifCond .eq 5, 3) := dGR_31_c_986.2.2.2.1
theorem dX12_laysAhead_264 : decode cX12_laysAhead 264 = .ok (.iconst 1, 1) := dGR_31_c_986.2.2.2.2.1
theorem dX12_laysAhead_265 : decode cX12_laysAhead 265 = .ok (.istore_n 3, 1) := dGR_31_c_986.2.2.2.2.2.1
theorem dX12_laysAhead_266 : decode cX12_laysAhead 266 = .ok (.iinc 5 1, 3) := dGR_31_c_986.2.2.2.2.2.2.1
theorem dX12_laysAhead_269 : decode cX12_laysAhead 269 = .ok (.goto (-168), 3) := dGR_31_c_986.2.2.2.2.2.2.2.1
theorem dX12_laysAhead_272 : decode cX12_laysAhead 272 = .ok (.iinc 4 1, 3) := dGR_31_c_986.2.2.2.2.2.2.2.2.1
theorem dX12_laysAhead_275 : decode cX12_laysAhead 275 = .ok (.goto (-184), 3) := dGR_31_c_986.2.2.2.2.2.2.2.2.2.1
theorem dX12_laysAhead_278 : decode cX12_laysAhead 278 = .ok (.goto (-196), 3) := dGR_31_c_986.2.2.2.2.2.2.2.2.2.2.1
theorem dX12_laysAhead_281 : decode cX12_laysAhead 281 = .ok (.return_, 1) := dGR_31_c_986.2.2.2.2.2.2.2.2.2.2.2
abbrev f_c_X12_laysAhead : List (Nat × Int) := [(72, -1), (83, -1), (84, -1), (85, -1)]
set_option maxHeartbeats 4000000 in
set_option maxRecDepth 100000 in
theorem c_X12_laysAhead (G : KG) (l : Launch) (M : Mem) (a1 : Int) (a2 : Int) (hI_M : Inv true M) (hpre : -2147483648 ≤ a1 ∧ a1 ≤ 2147483647 ∧ -2147483648 ≤ a2 ∧ a2 ≤ 2147483647 ∧ 0 ≤ a1 ∧ a1 ≤ 2 ∧ 0 ≤ a2 ∧ a2 ≤ 2) : KC true G l yX12_laysAhead cX12_laysAhead 6 none (5, 115) [vR G 163, vI a1, vI a2] M (fun A => kQv true G A (fun (N : Mem) => Inv true N ∧ Fr f_c_X12_laysAhead M N)) := by
  refine kx_met (lo := [some (vR G 163), some (vI a1), some (vI a2), none, none, none]) (by decide) (Nat.le_of_ble_eq_true rfl) rfl ?_
  intro X F hQ
  have hF_M : Fr f_c_X12_laysAhead M M := Fr.rf _ _
  refine kx_aload_n 1 F 0 dX12_laysAhead_0 rfl rfl rfl ?_
  refine kx_iload_n 2 F 1 dX12_laysAhead_1 rfl rfl rfl ?_
  refine kx_iload_n 3 F 2 dX12_laysAhead_2 rfl rfl rfl ?_
  refine kx_Vv 6 (ci := 0) F (As := [vI a1, vI a2]) (st := []) vd_X12_445 (c_X12_laysMatches G l M a1 a2 hI_M (by omega)) kd_163 rfl rfl rfl ⟨by decide, by decide⟩ rfl rfl (Nat.le_of_ble_eq_true rfl) dX12_laysAhead_3 rfl ?_
  intro N_1 q_2
  obtain ⟨hI_N_1, hG_N_1⟩ := q_2
  have hF_N_1 : Fr f_c_X12_laysAhead M N_1 := Fr.c hF_M hG_N_1 rfl
  have ht_3 := tot_fr 85 9 hG_N_1 rfl
  refine kx_iconst 7 F dX12_laysAhead_6 rfl ?_
  refine kx_istore_n 8 F 3 (lo' := [some (vR G 163), some (vI a1), some (vI a2), some (vI 1), none, none]) dX12_laysAhead_7 rfl (by decide) rfl rfl rfl ?_
  refine kx_iconst 9 F dX12_laysAhead_8 rfl ?_
  refine kx_istore 11 F 4 (lo' := [some (vR G 163), some (vI a1), some (vI a2), some (vI 1), some (vI 0), none]) dX12_laysAhead_9 (by decide) rfl rfl rfl ?_
  have L_57445 : ∀ (n_57446 : Nat) (x4_57443 : Int) (N_57444 : Mem), Inv true N_57444 → Fr f_c_X12_laysAhead M N_57444 → 0 ≤ x4_57443 ∧ x4_57443 ≤ 9 → (9 - (x4_57443)).toNat = n_57446 → KJ true G X N_57444 11 [some (vR G 163), some (vI a1), some (vI a2), some (vI 1), some (vI x4_57443), none] [] := by
    intro n_57446
    refine Nat.strongRecOn n_57446 ?_
    intro n_57446 ih_57447 x4_57443 N_57444 hI_N_57444 hF_N_57444 h_57448 hm_57449
    refine kx_iload 13 F 4 dX12_laysAhead_11 rfl rfl ?_
    refine kx_bipush 15 F dX12_laysAhead_13 (by decide) rfl ?_
    refine kx_icmp_ge 18 F 82 dX12_laysAhead_15 (by decide) rfl (by omega) (by decide) (fun h_57450 => ?_) (fun h_57450 => ?_)
    · have L_71742 : ∀ (n_71743 : Nat) (x3_71740 : Int) (N_71741 : Mem), Inv true N_71741 → Fr f_c_X12_laysAhead M N_71741 → 0 ≤ x3_71740 ∧ x3_71740 ≤ 1 → (2 * tot 85 9 N_71741 + x3_71740).toNat = n_71743 → KJ true G X N_71741 82 [some (vR G 163), some (vI a1), some (vI a2), some (vI x3_71740), none, none] [] := by
        intro n_71743
        refine Nat.strongRecOn n_71743 ?_
        intro n_71743 ih_71744 x3_71740 N_71741 hI_N_71741 hF_N_71741 h_71745 hm_71746
        have h_71747 := tot_nn (k := 85) 9 hI_N_71741 rfl (fun _ => rfl)
        refine kx_iload_n 83 F 3 dX12_laysAhead_82 rfl rfl rfl ?_
        refine kx_if_eq 86 F 281 dX12_laysAhead_83 (by decide) rfl (by omega) (fun h_71748 => ?_) (fun h_71748 => ?_)
        · exact kx_vret F hQ ⟨hI_N_71741, hF_N_71741⟩ dX12_laysAhead_281
        · refine kx_iconst 87 F dX12_laysAhead_86 rfl ?_
          refine kx_istore_n 88 F 3 (lo' := [some (vR G 163), some (vI a1), some (vI a2), some (vI 0), none, none]) dX12_laysAhead_87 rfl (by decide) rfl rfl rfl ?_
          refine kx_iconst 89 F dX12_laysAhead_88 rfl ?_
          refine kx_istore 91 F 4 (lo' := [some (vR G 163), some (vI a1), some (vI a2), some (vI 0), some (vI 0), none]) dX12_laysAhead_89 (by decide) rfl rfl rfl ?_
          have L_84247 : ∀ (n_84248 : Nat) (x3_84244 : Int) (x4_84245 : Int) (N_84246 : Mem), Inv true N_84246 → Fr f_c_X12_laysAhead M N_84246 → 0 ≤ x3_84244 ∧ x3_84244 ≤ 1 ∧ 0 ≤ x4_84245 ∧ x4_84245 ≤ 9 ∧ (tot 85 9 N_84246) + x3_84244 ≤ (tot 85 9 N_71741) → (9 - (x4_84245)).toNat = n_84248 → KJ true G X N_84246 91 [some (vR G 163), some (vI a1), some (vI a2), some (vI x3_84244), some (vI x4_84245), none] [] := by
            intro n_84248
            refine Nat.strongRecOn n_84248 ?_
            intro n_84248 ih_84249 x3_84244 x4_84245 N_84246 hI_N_84246 hF_N_84246 h_84250 hm_84251
            refine kx_iload 93 F 4 dX12_laysAhead_91 rfl rfl ?_
            refine kx_bipush 95 F dX12_laysAhead_93 (by decide) rfl ?_
            refine kx_icmp_ge 98 F 278 dX12_laysAhead_95 (by decide) rfl (by omega) (by decide) (fun h_84252 => ?_) (fun h_84252 => ?_)
            · refine kx_goto 82 F dX12_laysAhead_278 (by decide) ?_
              refine kx_drop 4 (lo' := [some (vR G 163), some (vI a1), some (vI a2), some (vI x3_84244), none, none]) rfl ?_
              exact ih_71744 _ (by omega) x3_84244 N_84246 hI_N_84246 hF_N_84246 (by omega) rfl
            · refine kx_iconst 99 F dX12_laysAhead_98 rfl ?_
              refine kx_istore 101 F 5 (lo' := [some (vR G 163), some (vI a1), some (vI a2), some (vI x3_84244), some (vI x4_84245), some (vI 0)]) dX12_laysAhead_99 (by decide) rfl rfl rfl ?_
              have L_85810 : ∀ (n_85811 : Nat) (x3_85807 : Int) (x5_85808 : Int) (N_85809 : Mem), Inv true N_85809 → Fr f_c_X12_laysAhead M N_85809 → 0 ≤ x3_85807 ∧ x3_85807 ≤ 1 ∧ 0 ≤ x5_85808 ∧ x5_85808 ≤ 9 ∧ (tot 85 9 N_85809) + x3_85807 ≤ (tot 85 9 N_71741) → (9 - (x5_85808)).toNat = n_85811 → KJ true G X N_85809 101 [some (vR G 163), some (vI a1), some (vI a2), some (vI x3_85807), some (vI x4_84245), some (vI x5_85808)] [] := by
                intro n_85811
                refine Nat.strongRecOn n_85811 ?_
                intro n_85811 ih_85812 x3_85807 x5_85808 N_85809 hI_N_85809 hF_N_85809 h_85813 hm_85814
                refine kx_iload 103 F 5 dX12_laysAhead_101 rfl rfl ?_
                refine kx_bipush 105 F dX12_laysAhead_103 (by decide) rfl ?_
                refine kx_icmp_ge 108 F 272 dX12_laysAhead_105 (by decide) rfl (by omega) (by decide) (fun h_85815 => ?_) (fun h_85815 => ?_)
                · refine kx_iinc 275 F 4 (v := x4_84245 + 1) (lo' := [some (vR G 163), some (vI a1), some (vI a2), some (vI x3_85807), some (vI (x4_84245 + 1)), some (vI x5_85808)]) dX12_laysAhead_272 rfl (by omega) (by decide) rfl rfl rfl ?_
                  refine kx_goto 91 F dX12_laysAhead_275 (by decide) ?_
                  refine kx_drop 5 (lo' := [some (vR G 163), some (vI a1), some (vI a2), some (vI x3_85807), some (vI (x4_84245 + 1)), none]) rfl ?_
                  exact ih_84249 _ (by omega) x3_85807 (x4_84245 + 1) N_85809 hI_N_85809 hF_N_85809 (by omega) rfl
                · refine kx_aload_n 109 F 0 dX12_laysAhead_108 rfl rfl rfl ?_
                  refine kx_aload_n 110 F 0 dX12_laysAhead_109 rfl rfl rfl ?_
                  refine kx_getr 113 F fl_X12_86 kd_163 rfl rfl (j := 38) rfl dX12_laysAhead_110 (v := (M 163 38)) (by rw [Fr.e hF_N_85809 kd_163 _ rfl]) rfl ?_
                  have hk_85816 : kd (M 163 38) = 85 := Inv.r hI_M kd_163 rfl 38 rfl rfl
                  refine kx_iload 115 F 5 dX12_laysAhead_113 rfl rfl ?_
                  refine kx_aload_n 116 F 0 dX12_laysAhead_115 rfl rfl rfl ?_
                  refine kx_getr 119 F fl_X12_86 kd_163 rfl rfl (j := 38) rfl dX12_laysAhead_116 (v := (M 163 38)) (by rw [Fr.e hF_N_85809 kd_163 _ rfl]) rfl ?_
                  refine kx_iload 121 F 4 dX12_laysAhead_119 rfl rfl ?_
                  refine kx_iald 122 F hk_85816 rfl rfl (by omega) (by decide) dX12_laysAhead_121 (v := (N_85809 (M 163 38) x4_84245)) rfl rfl ?_
                  have h_85817 := Inv.g hI_N_85809 hk_85816 rfl x4_84245 (a := 0) (b := 1000000) rfl rfl
                  refine kx_aload_n 123 F 0 dX12_laysAhead_122 rfl rfl rfl ?_
                  refine kx_getr 126 F fl_X12_80 kd_163 rfl rfl (j := 36) rfl dX12_laysAhead_123 (v := 183) (uq_183 (Inv.r hI_N_85809 kd_163 rfl 36 rfl rfl)) rfl ?_
                  refine kx_bipush 128 F dX12_laysAhead_126 (by decide) rfl ?_
                  refine kx_iload 130 F 4 dX12_laysAhead_128 rfl rfl ?_
                  refine kx_imul 131 F (v := 9 * x4_84245) dX12_laysAhead_130 (by omega) rfl ?_
                  refine kx_iload 133 F 5 dX12_laysAhead_131 rfl rfl ?_
                  refine kx_iadd 134 F (v := 9 * x4_84245 + x5_85808) dX12_laysAhead_133 rfl rfl ?_
                  refine kx_iald 135 F kd_183 rfl rfl (by omega) (by decide) dX12_laysAhead_134 (v := (N_85809 183 (9 * x4_84245 + x5_85808))) rfl rfl ?_
                  have h_85818 := Inv.g hI_N_85809 kd_183 rfl (9 * x4_84245 + x5_85808) (a := 0) (b := 1000000) rfl rfl
                  refine kx_iadd 136 F (v := (N_85809 (M 163 38) x4_84245) + (N_85809 183 (9 * x4_84245 + x5_85808))) dX12_laysAhead_135 rfl rfl ?_
                  refine kx_Vi 139 (ci := 0) F (As := [vR G (M 163 38), vI x5_85808, vI ((N_85809 (M 163 38) x4_84245) + (N_85809 183 (9 * x4_84245 + x5_85808)))]) (st := []) vd_X12_448 (c_lowT9 G l N_85809 (M 163 38) x5_85808 ((N_85809 (M 163 38) x4_84245) + (N_85809 183 (9 * x4_84245 + x5_85808))) hI_N_85809 hk_85816 (by omega)) kd_163 rfl rfl rfl ⟨by decide, by decide⟩ rfl rfl (Nat.le_of_ble_eq_true rfl) dX12_laysAhead_136 rfl ?_
                  intro r_85819 N_85820 q_85821
                  obtain ⟨hI_N_85820, hG_N_85820, q_85821c⟩ := q_85821
                  have hF_N_85820 : Fr f_c_X12_laysAhead M N_85820 := Fr.c hF_N_85809 hG_N_85820 rfl
                  rcases q_85821c with q_85821c | q_85821c
                  · have J_85824 : ∀ (x3_85823 : Int), 0 ≤ x3_85823 ∧ x3_85823 ≤ 1 ∧ (tot 85 9 N_85820) + x3_85823 ≤ (tot 85 9 N_71741) → KJ true G X N_85820 144 [some (vR G 163), some (vI a1), some (vI a2), some (vI x3_85823), some (vI x4_84245), some (vI x5_85808)] [] := by
                      intro x3_85823 h_85825
                      refine kx_aload_n 145 F 0 dX12_laysAhead_144 rfl rfl rfl ?_
                      refine kx_aload_n 146 F 0 dX12_laysAhead_145 rfl rfl rfl ?_
                      refine kx_getr 149 F fl_X12_89 kd_163 rfl rfl (j := 39) rfl dX12_laysAhead_146 (v := (M 163 39)) (by rw [Fr.e hG_N_85820 kd_163 _ rfl, Fr.e hF_N_85809 kd_163 _ rfl]) rfl ?_
                      have hk_85826 : kd (M 163 39) = 85 := Inv.r hI_M kd_163 rfl 39 rfl rfl
                      refine kx_iload 151 F 5 dX12_laysAhead_149 rfl rfl ?_
                      refine kx_aload_n 152 F 0 dX12_laysAhead_151 rfl rfl rfl ?_
                      refine kx_getr 155 F fl_X12_89 kd_163 rfl rfl (j := 39) rfl dX12_laysAhead_152 (v := (M 163 39)) (by rw [Fr.e hG_N_85820 kd_163 _ rfl, Fr.e hF_N_85809 kd_163 _ rfl]) rfl ?_
                      refine kx_iload 157 F 4 dX12_laysAhead_155 rfl rfl ?_
                      refine kx_iald 158 F hk_85826 rfl rfl (by omega) (by decide) dX12_laysAhead_157 (v := (N_85820 (M 163 39) x4_84245)) rfl rfl ?_
                      have h_85827 := Inv.g hI_N_85820 hk_85826 rfl x4_84245 (a := 0) (b := 1000000) rfl rfl
                      refine kx_aload_n 159 F 0 dX12_laysAhead_158 rfl rfl rfl ?_
                      refine kx_getr 162 F fl_X12_80 kd_163 rfl rfl (j := 36) rfl dX12_laysAhead_159 (v := 183) (uq_183 (Inv.r hI_N_85820 kd_163 rfl 36 rfl rfl)) rfl ?_
                      refine kx_bipush 164 F dX12_laysAhead_162 (by decide) rfl ?_
                      refine kx_iload 166 F 4 dX12_laysAhead_164 rfl rfl ?_
                      refine kx_imul 167 F (v := 9 * x4_84245) dX12_laysAhead_166 (by omega) rfl ?_
                      refine kx_iload 169 F 5 dX12_laysAhead_167 rfl rfl ?_
                      refine kx_iadd 170 F (v := 9 * x4_84245 + x5_85808) dX12_laysAhead_169 rfl rfl ?_
                      refine kx_iald 171 F kd_183 rfl rfl (by omega) (by decide) dX12_laysAhead_170 (v := (N_85809 183 (9 * x4_84245 + x5_85808))) (by rw [Fr.e hG_N_85820 kd_183 _ rfl]) rfl ?_
                      refine kx_iadd 172 F (v := (N_85820 (M 163 39) x4_84245) + (N_85809 183 (9 * x4_84245 + x5_85808))) dX12_laysAhead_171 rfl rfl ?_
                      refine kx_Vi 175 (ci := 0) F (As := [vR G (M 163 39), vI x5_85808, vI ((N_85820 (M 163 39) x4_84245) + (N_85809 183 (9 * x4_84245 + x5_85808)))]) (st := []) vd_X12_448 (c_lowT9 G l N_85820 (M 163 39) x5_85808 ((N_85820 (M 163 39) x4_84245) + (N_85809 183 (9 * x4_84245 + x5_85808))) hI_N_85820 hk_85826 (by omega)) kd_163 rfl rfl rfl ⟨by decide, by decide⟩ rfl rfl (Nat.le_of_ble_eq_true rfl) dX12_laysAhead_172 rfl ?_
                      intro r_85828 N_85829 q_85830
                      obtain ⟨hI_N_85829, hG_N_85829, q_85830c⟩ := q_85830
                      have hF_N_85829 : Fr f_c_X12_laysAhead M N_85829 := Fr.c hF_N_85820 hG_N_85829 rfl
                      rcases q_85830c with q_85830c | q_85830c
                      · have J_85833 : ∀ (x3_85832 : Int), 0 ≤ x3_85832 ∧ x3_85832 ≤ 1 ∧ (tot 85 9 N_85829) + x3_85832 ≤ (tot 85 9 N_71741) → KJ true G X N_85829 180 [some (vR G 163), some (vI a1), some (vI a2), some (vI x3_85832), some (vI x4_84245), some (vI x5_85808)] [] := by
                          intro x3_85832 h_85834
                          refine kx_aload_n 181 F 0 dX12_laysAhead_180 rfl rfl rfl ?_
                          refine kx_iload_n 182 F 1 dX12_laysAhead_181 rfl rfl rfl ?_
                          refine kx_iload_n 183 F 2 dX12_laysAhead_182 rfl rfl rfl ?_
                          refine kx_iload 185 F 4 dX12_laysAhead_183 rfl rfl ?_
                          refine kx_iload 187 F 5 dX12_laysAhead_185 rfl rfl ?_
                          refine kx_iconst 188 F dX12_laysAhead_187 rfl ?_
                          refine kx_Vi 191 (ci := 0) F (As := [vI a1, vI a2, vI x4_84245, vI x5_85808, vI 0]) (st := []) vd_X12_452 (c_X12_leadsBoth G l N_85829 a1 a2 x4_84245 x5_85808 0 hI_N_85829 (by omega)) kd_163 rfl rfl rfl ⟨by decide, by decide⟩ rfl rfl (Nat.le_of_ble_eq_true rfl) dX12_laysAhead_188 rfl ?_
                          intro r_85835 N_85836 q_85837
                          obtain ⟨rfl, q_85837c⟩ := q_85837
                          have J_85847 : ∀ (x3_85845 : Int) (N_85846 : Mem), Inv true N_85846 → Fr f_c_X12_laysAhead M N_85846 → 0 ≤ x3_85845 ∧ x3_85845 ≤ 1 ∧ (tot 85 9 N_85846) + x3_85845 ≤ (tot 85 9 N_71741) → KJ true G X N_85846 218 [some (vR G 163), some (vI a1), some (vI a2), some (vI x3_85845), some (vI x4_84245), some (vI x5_85808)] [] := by
                            intro x3_85845 N_85846 hI_N_85846 hF_N_85846 h_85848
                            refine kx_aload_n 219 F 0 dX12_laysAhead_218 rfl rfl rfl ?_
                            refine kx_iload_n 220 F 1 dX12_laysAhead_219 rfl rfl rfl ?_
                            refine kx_iload_n 221 F 2 dX12_laysAhead_220 rfl rfl rfl ?_
                            refine kx_iload 223 F 4 dX12_laysAhead_221 rfl rfl ?_
                            refine kx_iload 225 F 5 dX12_laysAhead_223 rfl rfl ?_
                            refine kx_iconst 226 F dX12_laysAhead_225 rfl ?_
                            refine kx_Vi 229 (ci := 0) F (As := [vI a1, vI a2, vI x4_84245, vI x5_85808, vI 1]) (st := []) vd_X12_452 (c_X12_leadsBoth G l N_85846 a1 a2 x4_84245 x5_85808 1 hI_N_85846 (by omega)) kd_163 rfl rfl rfl ⟨by decide, by decide⟩ rfl rfl (Nat.le_of_ble_eq_true rfl) dX12_laysAhead_226 rfl ?_
                            intro r_85849 N_85850 q_85851
                            obtain ⟨rfl, q_85851c⟩ := q_85851
                            have J_85864 : ∀ (x3_85862 : Int) (N_85863 : Mem), Inv true N_85863 → Fr f_c_X12_laysAhead M N_85863 → 0 ≤ x3_85862 ∧ x3_85862 ≤ 1 ∧ (tot 85 9 N_85863) + x3_85862 ≤ (tot 85 9 N_71741) → KJ true G X N_85863 266 [some (vR G 163), some (vI a1), some (vI a2), some (vI x3_85862), some (vI x4_84245), some (vI x5_85808)] [] := by
                              intro x3_85862 N_85863 hI_N_85863 hF_N_85863 h_85865
                              refine kx_iinc 269 F 5 (v := x5_85808 + 1) (lo' := [some (vR G 163), some (vI a1), some (vI a2), some (vI x3_85862), some (vI x4_84245), some (vI (x5_85808 + 1))]) dX12_laysAhead_266 rfl (by omega) (by decide) rfl rfl rfl ?_
                              refine kx_goto 101 F dX12_laysAhead_269 (by decide) ?_
                              exact ih_85812 _ (by omega) x3_85862 (x5_85808 + 1) N_85863 hI_N_85863 hF_N_85863 (by omega) rfl
                            refine kx_if_eq 232 F 266 dX12_laysAhead_229 (by decide) rfl (by omega) (fun h_85866 => ?_) (fun h_85866 => ?_)
                            · exact J_85864 x3_85845 N_85846 hI_N_85846 hF_N_85846 (by omega)
                            · refine kx_aload_n 233 F 0 dX12_laysAhead_232 rfl rfl rfl ?_
                              refine kx_aload_n 234 F 0 dX12_laysAhead_233 rfl rfl rfl ?_
                              refine kx_getr 237 F fl_X12_89 kd_163 rfl rfl (j := 39) rfl dX12_laysAhead_234 (v := (M 163 39)) (by rw [Fr.e hF_N_85846 kd_163 _ rfl]) rfl ?_
                              refine kx_iload 239 F 5 dX12_laysAhead_237 rfl rfl ?_
                              refine kx_aload_n 240 F 0 dX12_laysAhead_239 rfl rfl rfl ?_
                              refine kx_getr 243 F fl_X12_86 kd_163 rfl rfl (j := 38) rfl dX12_laysAhead_240 (v := (M 163 38)) (by rw [Fr.e hF_N_85846 kd_163 _ rfl]) rfl ?_
                              refine kx_iload 245 F 4 dX12_laysAhead_243 rfl rfl ?_
                              refine kx_iald 246 F hk_85816 rfl rfl (by omega) (by decide) dX12_laysAhead_245 (v := (N_85846 (M 163 38) x4_84245)) rfl rfl ?_
                              have h_85867 := Inv.g hI_N_85846 hk_85816 rfl x4_84245 (a := 0) (b := 1000000) rfl rfl
                              refine kx_aload_n 247 F 0 dX12_laysAhead_246 rfl rfl rfl ?_
                              refine kx_getr 250 F fl_X12_89 kd_163 rfl rfl (j := 39) rfl dX12_laysAhead_247 (v := (M 163 39)) (by rw [Fr.e hF_N_85846 kd_163 _ rfl]) rfl ?_
                              refine kx_iload 252 F 4 dX12_laysAhead_250 rfl rfl ?_
                              refine kx_iald 253 F hk_85826 rfl rfl (by omega) (by decide) dX12_laysAhead_252 (v := (N_85846 (M 163 39) x4_84245)) rfl rfl ?_
                              have h_85868 := Inv.g hI_N_85846 hk_85826 rfl x4_84245 (a := 0) (b := 1000000) rfl rfl
                              refine kx_mmin 256 F dX12_laysAhead_253 (tt lm_1833 rfl) (tt lm_800 rfl) (tt lm_180 rfl) (tt lm_801 rfl) (by decide) (Nat.le_of_ble_eq_true rfl) (by omega) (by omega) rfl (fun w_85869 h_85870 => ?_)
                              refine kx_iconst 257 F dX12_laysAhead_256 rfl ?_
                              refine kx_iadd 258 F (v := w_85869 + 1) dX12_laysAhead_257 rfl rfl ?_
                              refine kx_Vi 261 (ci := 0) F (As := [vR G (M 163 39), vI x5_85808, vI (w_85869 + 1)]) (st := []) vd_X12_448 (c_lowT9 G l N_85846 (M 163 39) x5_85808 (w_85869 + 1) hI_N_85846 hk_85826 (by omega)) kd_163 rfl rfl rfl ⟨by decide, by decide⟩ rfl rfl (Nat.le_of_ble_eq_true rfl) dX12_laysAhead_258 rfl ?_
                              intro r_85871 N_85872 q_85873
                              obtain ⟨hI_N_85872, hG_N_85872, q_85873c⟩ := q_85873
                              have hF_N_85872 : Fr f_c_X12_laysAhead M N_85872 := Fr.c hF_N_85846 hG_N_85872 rfl
                              rcases q_85873c with q_85873c | q_85873c
                              · refine kx_if_eq 264 F 266 dX12_laysAhead_261 (by decide) rfl (by omega) (fun h_85874 => (by exfalso; omega)) (fun h_85874 => ?_)
                                refine kx_iconst 265 F dX12_laysAhead_264 rfl ?_
                                refine kx_istore_n 266 F 3 (lo' := [some (vR G 163), some (vI a1), some (vI a2), some (vI 1), some (vI x4_84245), some (vI x5_85808)]) dX12_laysAhead_265 rfl (by decide) rfl rfl rfl ?_
                                exact J_85864 1 N_85872 hI_N_85872 hF_N_85872 (by omega)
                              · refine kx_if_eq 264 F 266 dX12_laysAhead_261 (by decide) rfl (by omega) (fun h_85875 => ?_) (fun h_85875 => (by exfalso; omega))
                                exact J_85864 x3_85845 N_85872 hI_N_85872 hF_N_85872 (by omega)
                          refine kx_if_eq 194 F 218 dX12_laysAhead_191 (by decide) rfl (by omega) (fun h_85876 => ?_) (fun h_85876 => ?_)
                          · exact J_85847 x3_85832 N_85829 hI_N_85829 hF_N_85829 (by omega)
                          · refine kx_aload_n 195 F 0 dX12_laysAhead_194 rfl rfl rfl ?_
                            refine kx_aload_n 196 F 0 dX12_laysAhead_195 rfl rfl rfl ?_
                            refine kx_getr 199 F fl_X12_86 kd_163 rfl rfl (j := 38) rfl dX12_laysAhead_196 (v := (M 163 38)) (by rw [Fr.e hG_N_85829 kd_163 _ rfl, Fr.e hG_N_85820 kd_163 _ rfl, Fr.e hF_N_85809 kd_163 _ rfl]) rfl ?_
                            refine kx_iload 201 F 5 dX12_laysAhead_199 rfl rfl ?_
                            refine kx_aload_n 202 F 0 dX12_laysAhead_201 rfl rfl rfl ?_
                            refine kx_getr 205 F fl_X12_86 kd_163 rfl rfl (j := 38) rfl dX12_laysAhead_202 (v := (M 163 38)) (by rw [Fr.e hG_N_85829 kd_163 _ rfl, Fr.e hG_N_85820 kd_163 _ rfl, Fr.e hF_N_85809 kd_163 _ rfl]) rfl ?_
                            refine kx_iload 207 F 4 dX12_laysAhead_205 rfl rfl ?_
                            refine kx_iald 208 F hk_85816 rfl rfl (by omega) (by decide) dX12_laysAhead_207 (v := (N_85829 (M 163 38) x4_84245)) rfl rfl ?_
                            have h_85877 := Inv.g hI_N_85829 hk_85816 rfl x4_84245 (a := 0) (b := 1000000) rfl rfl
                            refine kx_iconst 209 F dX12_laysAhead_208 rfl ?_
                            refine kx_iadd 210 F (v := (N_85829 (M 163 38) x4_84245) + 1) dX12_laysAhead_209 rfl rfl ?_
                            refine kx_Vi 213 (ci := 0) F (As := [vR G (M 163 38), vI x5_85808, vI ((N_85829 (M 163 38) x4_84245) + 1)]) (st := []) vd_X12_448 (c_lowT9 G l N_85829 (M 163 38) x5_85808 ((N_85829 (M 163 38) x4_84245) + 1) hI_N_85829 hk_85816 (by omega)) kd_163 rfl rfl rfl ⟨by decide, by decide⟩ rfl rfl (Nat.le_of_ble_eq_true rfl) dX12_laysAhead_210 rfl ?_
                            intro r_85878 N_85879 q_85880
                            obtain ⟨hI_N_85879, hG_N_85879, q_85880c⟩ := q_85880
                            have hF_N_85879 : Fr f_c_X12_laysAhead M N_85879 := Fr.c hF_N_85829 hG_N_85879 rfl
                            rcases q_85880c with q_85880c | q_85880c
                            · refine kx_if_eq 216 F 218 dX12_laysAhead_213 (by decide) rfl (by omega) (fun h_85881 => (by exfalso; omega)) (fun h_85881 => ?_)
                              refine kx_iconst 217 F dX12_laysAhead_216 rfl ?_
                              refine kx_istore_n 218 F 3 (lo' := [some (vR G 163), some (vI a1), some (vI a2), some (vI 1), some (vI x4_84245), some (vI x5_85808)]) dX12_laysAhead_217 rfl (by decide) rfl rfl rfl ?_
                              exact J_85847 1 N_85879 hI_N_85879 hF_N_85879 (by omega)
                            · refine kx_if_eq 216 F 218 dX12_laysAhead_213 (by decide) rfl (by omega) (fun h_85882 => ?_) (fun h_85882 => (by exfalso; omega))
                              exact J_85847 x3_85832 N_85879 hI_N_85879 hF_N_85879 (by omega)
                        refine kx_if_eq 178 F 180 dX12_laysAhead_175 (by decide) rfl (by omega) (fun h_85883 => (by exfalso; omega)) (fun h_85883 => ?_)
                        refine kx_iconst 179 F dX12_laysAhead_178 rfl ?_
                        refine kx_istore_n 180 F 3 (lo' := [some (vR G 163), some (vI a1), some (vI a2), some (vI 1), some (vI x4_84245), some (vI x5_85808)]) dX12_laysAhead_179 rfl (by decide) rfl rfl rfl ?_
                        exact J_85833 1 (by omega)
                      · have J_85886 : ∀ (x3_85885 : Int), 0 ≤ x3_85885 ∧ x3_85885 ≤ 1 ∧ (tot 85 9 N_85829) + x3_85885 ≤ (tot 85 9 N_71741) → KJ true G X N_85829 180 [some (vR G 163), some (vI a1), some (vI a2), some (vI x3_85885), some (vI x4_84245), some (vI x5_85808)] [] := by
                          intro x3_85885 h_85887
                          refine kx_aload_n 181 F 0 dX12_laysAhead_180 rfl rfl rfl ?_
                          refine kx_iload_n 182 F 1 dX12_laysAhead_181 rfl rfl rfl ?_
                          refine kx_iload_n 183 F 2 dX12_laysAhead_182 rfl rfl rfl ?_
                          refine kx_iload 185 F 4 dX12_laysAhead_183 rfl rfl ?_
                          refine kx_iload 187 F 5 dX12_laysAhead_185 rfl rfl ?_
                          refine kx_iconst 188 F dX12_laysAhead_187 rfl ?_
                          refine kx_Vi 191 (ci := 0) F (As := [vI a1, vI a2, vI x4_84245, vI x5_85808, vI 0]) (st := []) vd_X12_452 (c_X12_leadsBoth G l N_85829 a1 a2 x4_84245 x5_85808 0 hI_N_85829 (by omega)) kd_163 rfl rfl rfl ⟨by decide, by decide⟩ rfl rfl (Nat.le_of_ble_eq_true rfl) dX12_laysAhead_188 rfl ?_
                          intro r_85888 N_85889 q_85890
                          obtain ⟨rfl, q_85890c⟩ := q_85890
                          have J_85900 : ∀ (x3_85898 : Int) (N_85899 : Mem), Inv true N_85899 → Fr f_c_X12_laysAhead M N_85899 → 0 ≤ x3_85898 ∧ x3_85898 ≤ 1 ∧ (tot 85 9 N_85899) + x3_85898 ≤ (tot 85 9 N_71741) → KJ true G X N_85899 218 [some (vR G 163), some (vI a1), some (vI a2), some (vI x3_85898), some (vI x4_84245), some (vI x5_85808)] [] := by
                            intro x3_85898 N_85899 hI_N_85899 hF_N_85899 h_85901
                            refine kx_aload_n 219 F 0 dX12_laysAhead_218 rfl rfl rfl ?_
                            refine kx_iload_n 220 F 1 dX12_laysAhead_219 rfl rfl rfl ?_
                            refine kx_iload_n 221 F 2 dX12_laysAhead_220 rfl rfl rfl ?_
                            refine kx_iload 223 F 4 dX12_laysAhead_221 rfl rfl ?_
                            refine kx_iload 225 F 5 dX12_laysAhead_223 rfl rfl ?_
                            refine kx_iconst 226 F dX12_laysAhead_225 rfl ?_
                            refine kx_Vi 229 (ci := 0) F (As := [vI a1, vI a2, vI x4_84245, vI x5_85808, vI 1]) (st := []) vd_X12_452 (c_X12_leadsBoth G l N_85899 a1 a2 x4_84245 x5_85808 1 hI_N_85899 (by omega)) kd_163 rfl rfl rfl ⟨by decide, by decide⟩ rfl rfl (Nat.le_of_ble_eq_true rfl) dX12_laysAhead_226 rfl ?_
                            intro r_85902 N_85903 q_85904
                            obtain ⟨rfl, q_85904c⟩ := q_85904
                            have J_85917 : ∀ (x3_85915 : Int) (N_85916 : Mem), Inv true N_85916 → Fr f_c_X12_laysAhead M N_85916 → 0 ≤ x3_85915 ∧ x3_85915 ≤ 1 ∧ (tot 85 9 N_85916) + x3_85915 ≤ (tot 85 9 N_71741) → KJ true G X N_85916 266 [some (vR G 163), some (vI a1), some (vI a2), some (vI x3_85915), some (vI x4_84245), some (vI x5_85808)] [] := by
                              intro x3_85915 N_85916 hI_N_85916 hF_N_85916 h_85918
                              refine kx_iinc 269 F 5 (v := x5_85808 + 1) (lo' := [some (vR G 163), some (vI a1), some (vI a2), some (vI x3_85915), some (vI x4_84245), some (vI (x5_85808 + 1))]) dX12_laysAhead_266 rfl (by omega) (by decide) rfl rfl rfl ?_
                              refine kx_goto 101 F dX12_laysAhead_269 (by decide) ?_
                              exact ih_85812 _ (by omega) x3_85915 (x5_85808 + 1) N_85916 hI_N_85916 hF_N_85916 (by omega) rfl
                            refine kx_if_eq 232 F 266 dX12_laysAhead_229 (by decide) rfl (by omega) (fun h_85919 => ?_) (fun h_85919 => ?_)
                            · exact J_85917 x3_85898 N_85899 hI_N_85899 hF_N_85899 (by omega)
                            · refine kx_aload_n 233 F 0 dX12_laysAhead_232 rfl rfl rfl ?_
                              refine kx_aload_n 234 F 0 dX12_laysAhead_233 rfl rfl rfl ?_
                              refine kx_getr 237 F fl_X12_89 kd_163 rfl rfl (j := 39) rfl dX12_laysAhead_234 (v := (M 163 39)) (by rw [Fr.e hF_N_85899 kd_163 _ rfl]) rfl ?_
                              refine kx_iload 239 F 5 dX12_laysAhead_237 rfl rfl ?_
                              refine kx_aload_n 240 F 0 dX12_laysAhead_239 rfl rfl rfl ?_
                              refine kx_getr 243 F fl_X12_86 kd_163 rfl rfl (j := 38) rfl dX12_laysAhead_240 (v := (M 163 38)) (by rw [Fr.e hF_N_85899 kd_163 _ rfl]) rfl ?_
                              refine kx_iload 245 F 4 dX12_laysAhead_243 rfl rfl ?_
                              refine kx_iald 246 F hk_85816 rfl rfl (by omega) (by decide) dX12_laysAhead_245 (v := (N_85899 (M 163 38) x4_84245)) rfl rfl ?_
                              have h_85920 := Inv.g hI_N_85899 hk_85816 rfl x4_84245 (a := 0) (b := 1000000) rfl rfl
                              refine kx_aload_n 247 F 0 dX12_laysAhead_246 rfl rfl rfl ?_
                              refine kx_getr 250 F fl_X12_89 kd_163 rfl rfl (j := 39) rfl dX12_laysAhead_247 (v := (M 163 39)) (by rw [Fr.e hF_N_85899 kd_163 _ rfl]) rfl ?_
                              refine kx_iload 252 F 4 dX12_laysAhead_250 rfl rfl ?_
                              refine kx_iald 253 F hk_85826 rfl rfl (by omega) (by decide) dX12_laysAhead_252 (v := (N_85899 (M 163 39) x4_84245)) rfl rfl ?_
                              have h_85921 := Inv.g hI_N_85899 hk_85826 rfl x4_84245 (a := 0) (b := 1000000) rfl rfl
                              refine kx_mmin 256 F dX12_laysAhead_253 (tt lm_1833 rfl) (tt lm_800 rfl) (tt lm_180 rfl) (tt lm_801 rfl) (by decide) (Nat.le_of_ble_eq_true rfl) (by omega) (by omega) rfl (fun w_85922 h_85923 => ?_)
                              refine kx_iconst 257 F dX12_laysAhead_256 rfl ?_
                              refine kx_iadd 258 F (v := w_85922 + 1) dX12_laysAhead_257 rfl rfl ?_
                              refine kx_Vi 261 (ci := 0) F (As := [vR G (M 163 39), vI x5_85808, vI (w_85922 + 1)]) (st := []) vd_X12_448 (c_lowT9 G l N_85899 (M 163 39) x5_85808 (w_85922 + 1) hI_N_85899 hk_85826 (by omega)) kd_163 rfl rfl rfl ⟨by decide, by decide⟩ rfl rfl (Nat.le_of_ble_eq_true rfl) dX12_laysAhead_258 rfl ?_
                              intro r_85924 N_85925 q_85926
                              obtain ⟨hI_N_85925, hG_N_85925, q_85926c⟩ := q_85926
                              have hF_N_85925 : Fr f_c_X12_laysAhead M N_85925 := Fr.c hF_N_85899 hG_N_85925 rfl
                              rcases q_85926c with q_85926c | q_85926c
                              · refine kx_if_eq 264 F 266 dX12_laysAhead_261 (by decide) rfl (by omega) (fun h_85927 => (by exfalso; omega)) (fun h_85927 => ?_)
                                refine kx_iconst 265 F dX12_laysAhead_264 rfl ?_
                                refine kx_istore_n 266 F 3 (lo' := [some (vR G 163), some (vI a1), some (vI a2), some (vI 1), some (vI x4_84245), some (vI x5_85808)]) dX12_laysAhead_265 rfl (by decide) rfl rfl rfl ?_
                                exact J_85917 1 N_85925 hI_N_85925 hF_N_85925 (by omega)
                              · refine kx_if_eq 264 F 266 dX12_laysAhead_261 (by decide) rfl (by omega) (fun h_85928 => ?_) (fun h_85928 => (by exfalso; omega))
                                exact J_85917 x3_85898 N_85925 hI_N_85925 hF_N_85925 (by omega)
                          refine kx_if_eq 194 F 218 dX12_laysAhead_191 (by decide) rfl (by omega) (fun h_85929 => ?_) (fun h_85929 => ?_)
                          · exact J_85900 x3_85885 N_85829 hI_N_85829 hF_N_85829 (by omega)
                          · refine kx_aload_n 195 F 0 dX12_laysAhead_194 rfl rfl rfl ?_
                            refine kx_aload_n 196 F 0 dX12_laysAhead_195 rfl rfl rfl ?_
                            refine kx_getr 199 F fl_X12_86 kd_163 rfl rfl (j := 38) rfl dX12_laysAhead_196 (v := (M 163 38)) (by rw [Fr.e hG_N_85829 kd_163 _ rfl, Fr.e hG_N_85820 kd_163 _ rfl, Fr.e hF_N_85809 kd_163 _ rfl]) rfl ?_
                            refine kx_iload 201 F 5 dX12_laysAhead_199 rfl rfl ?_
                            refine kx_aload_n 202 F 0 dX12_laysAhead_201 rfl rfl rfl ?_
                            refine kx_getr 205 F fl_X12_86 kd_163 rfl rfl (j := 38) rfl dX12_laysAhead_202 (v := (M 163 38)) (by rw [Fr.e hG_N_85829 kd_163 _ rfl, Fr.e hG_N_85820 kd_163 _ rfl, Fr.e hF_N_85809 kd_163 _ rfl]) rfl ?_
                            refine kx_iload 207 F 4 dX12_laysAhead_205 rfl rfl ?_
                            refine kx_iald 208 F hk_85816 rfl rfl (by omega) (by decide) dX12_laysAhead_207 (v := (N_85829 (M 163 38) x4_84245)) rfl rfl ?_
                            have h_85930 := Inv.g hI_N_85829 hk_85816 rfl x4_84245 (a := 0) (b := 1000000) rfl rfl
                            refine kx_iconst 209 F dX12_laysAhead_208 rfl ?_
                            refine kx_iadd 210 F (v := (N_85829 (M 163 38) x4_84245) + 1) dX12_laysAhead_209 rfl rfl ?_
                            refine kx_Vi 213 (ci := 0) F (As := [vR G (M 163 38), vI x5_85808, vI ((N_85829 (M 163 38) x4_84245) + 1)]) (st := []) vd_X12_448 (c_lowT9 G l N_85829 (M 163 38) x5_85808 ((N_85829 (M 163 38) x4_84245) + 1) hI_N_85829 hk_85816 (by omega)) kd_163 rfl rfl rfl ⟨by decide, by decide⟩ rfl rfl (Nat.le_of_ble_eq_true rfl) dX12_laysAhead_210 rfl ?_
                            intro r_85931 N_85932 q_85933
                            obtain ⟨hI_N_85932, hG_N_85932, q_85933c⟩ := q_85933
                            have hF_N_85932 : Fr f_c_X12_laysAhead M N_85932 := Fr.c hF_N_85829 hG_N_85932 rfl
                            rcases q_85933c with q_85933c | q_85933c
                            · refine kx_if_eq 216 F 218 dX12_laysAhead_213 (by decide) rfl (by omega) (fun h_85934 => (by exfalso; omega)) (fun h_85934 => ?_)
                              refine kx_iconst 217 F dX12_laysAhead_216 rfl ?_
                              refine kx_istore_n 218 F 3 (lo' := [some (vR G 163), some (vI a1), some (vI a2), some (vI 1), some (vI x4_84245), some (vI x5_85808)]) dX12_laysAhead_217 rfl (by decide) rfl rfl rfl ?_
                              exact J_85900 1 N_85932 hI_N_85932 hF_N_85932 (by omega)
                            · refine kx_if_eq 216 F 218 dX12_laysAhead_213 (by decide) rfl (by omega) (fun h_85935 => ?_) (fun h_85935 => (by exfalso; omega))
                              exact J_85900 x3_85885 N_85932 hI_N_85932 hF_N_85932 (by omega)
                        refine kx_if_eq 178 F 180 dX12_laysAhead_175 (by decide) rfl (by omega) (fun h_85936 => ?_) (fun h_85936 => (by exfalso; omega))
                        exact J_85886 x3_85823 (by omega)
                    refine kx_if_eq 142 F 144 dX12_laysAhead_139 (by decide) rfl (by omega) (fun h_85937 => (by exfalso; omega)) (fun h_85937 => ?_)
                    refine kx_iconst 143 F dX12_laysAhead_142 rfl ?_
                    refine kx_istore_n 144 F 3 (lo' := [some (vR G 163), some (vI a1), some (vI a2), some (vI 1), some (vI x4_84245), some (vI x5_85808)]) dX12_laysAhead_143 rfl (by decide) rfl rfl rfl ?_
                    exact J_85824 1 (by omega)
                  · have J_85940 : ∀ (x3_85939 : Int), 0 ≤ x3_85939 ∧ x3_85939 ≤ 1 ∧ (tot 85 9 N_85820) + x3_85939 ≤ (tot 85 9 N_71741) → KJ true G X N_85820 144 [some (vR G 163), some (vI a1), some (vI a2), some (vI x3_85939), some (vI x4_84245), some (vI x5_85808)] [] := by
                      intro x3_85939 h_85941
                      refine kx_aload_n 145 F 0 dX12_laysAhead_144 rfl rfl rfl ?_
                      refine kx_aload_n 146 F 0 dX12_laysAhead_145 rfl rfl rfl ?_
                      refine kx_getr 149 F fl_X12_89 kd_163 rfl rfl (j := 39) rfl dX12_laysAhead_146 (v := (M 163 39)) (by rw [Fr.e hG_N_85820 kd_163 _ rfl, Fr.e hF_N_85809 kd_163 _ rfl]) rfl ?_
                      have hk_85942 : kd (M 163 39) = 85 := Inv.r hI_M kd_163 rfl 39 rfl rfl
                      refine kx_iload 151 F 5 dX12_laysAhead_149 rfl rfl ?_
                      refine kx_aload_n 152 F 0 dX12_laysAhead_151 rfl rfl rfl ?_
                      refine kx_getr 155 F fl_X12_89 kd_163 rfl rfl (j := 39) rfl dX12_laysAhead_152 (v := (M 163 39)) (by rw [Fr.e hG_N_85820 kd_163 _ rfl, Fr.e hF_N_85809 kd_163 _ rfl]) rfl ?_
                      refine kx_iload 157 F 4 dX12_laysAhead_155 rfl rfl ?_
                      refine kx_iald 158 F hk_85942 rfl rfl (by omega) (by decide) dX12_laysAhead_157 (v := (N_85820 (M 163 39) x4_84245)) rfl rfl ?_
                      have h_85943 := Inv.g hI_N_85820 hk_85942 rfl x4_84245 (a := 0) (b := 1000000) rfl rfl
                      refine kx_aload_n 159 F 0 dX12_laysAhead_158 rfl rfl rfl ?_
                      refine kx_getr 162 F fl_X12_80 kd_163 rfl rfl (j := 36) rfl dX12_laysAhead_159 (v := 183) (uq_183 (Inv.r hI_N_85820 kd_163 rfl 36 rfl rfl)) rfl ?_
                      refine kx_bipush 164 F dX12_laysAhead_162 (by decide) rfl ?_
                      refine kx_iload 166 F 4 dX12_laysAhead_164 rfl rfl ?_
                      refine kx_imul 167 F (v := 9 * x4_84245) dX12_laysAhead_166 (by omega) rfl ?_
                      refine kx_iload 169 F 5 dX12_laysAhead_167 rfl rfl ?_
                      refine kx_iadd 170 F (v := 9 * x4_84245 + x5_85808) dX12_laysAhead_169 rfl rfl ?_
                      refine kx_iald 171 F kd_183 rfl rfl (by omega) (by decide) dX12_laysAhead_170 (v := (N_85809 183 (9 * x4_84245 + x5_85808))) (by rw [Fr.e hG_N_85820 kd_183 _ rfl]) rfl ?_
                      refine kx_iadd 172 F (v := (N_85820 (M 163 39) x4_84245) + (N_85809 183 (9 * x4_84245 + x5_85808))) dX12_laysAhead_171 rfl rfl ?_
                      refine kx_Vi 175 (ci := 0) F (As := [vR G (M 163 39), vI x5_85808, vI ((N_85820 (M 163 39) x4_84245) + (N_85809 183 (9 * x4_84245 + x5_85808)))]) (st := []) vd_X12_448 (c_lowT9 G l N_85820 (M 163 39) x5_85808 ((N_85820 (M 163 39) x4_84245) + (N_85809 183 (9 * x4_84245 + x5_85808))) hI_N_85820 hk_85942 (by omega)) kd_163 rfl rfl rfl ⟨by decide, by decide⟩ rfl rfl (Nat.le_of_ble_eq_true rfl) dX12_laysAhead_172 rfl ?_
                      intro r_85944 N_85945 q_85946
                      obtain ⟨hI_N_85945, hG_N_85945, q_85946c⟩ := q_85946
                      have hF_N_85945 : Fr f_c_X12_laysAhead M N_85945 := Fr.c hF_N_85820 hG_N_85945 rfl
                      rcases q_85946c with q_85946c | q_85946c
                      · have J_85949 : ∀ (x3_85948 : Int), 0 ≤ x3_85948 ∧ x3_85948 ≤ 1 ∧ (tot 85 9 N_85945) + x3_85948 ≤ (tot 85 9 N_71741) → KJ true G X N_85945 180 [some (vR G 163), some (vI a1), some (vI a2), some (vI x3_85948), some (vI x4_84245), some (vI x5_85808)] [] := by
                          intro x3_85948 h_85950
                          refine kx_aload_n 181 F 0 dX12_laysAhead_180 rfl rfl rfl ?_
                          refine kx_iload_n 182 F 1 dX12_laysAhead_181 rfl rfl rfl ?_
                          refine kx_iload_n 183 F 2 dX12_laysAhead_182 rfl rfl rfl ?_
                          refine kx_iload 185 F 4 dX12_laysAhead_183 rfl rfl ?_
                          refine kx_iload 187 F 5 dX12_laysAhead_185 rfl rfl ?_
                          refine kx_iconst 188 F dX12_laysAhead_187 rfl ?_
                          refine kx_Vi 191 (ci := 0) F (As := [vI a1, vI a2, vI x4_84245, vI x5_85808, vI 0]) (st := []) vd_X12_452 (c_X12_leadsBoth G l N_85945 a1 a2 x4_84245 x5_85808 0 hI_N_85945 (by omega)) kd_163 rfl rfl rfl ⟨by decide, by decide⟩ rfl rfl (Nat.le_of_ble_eq_true rfl) dX12_laysAhead_188 rfl ?_
                          intro r_85951 N_85952 q_85953
                          obtain ⟨rfl, q_85953c⟩ := q_85953
                          have J_85963 : ∀ (x3_85961 : Int) (N_85962 : Mem), Inv true N_85962 → Fr f_c_X12_laysAhead M N_85962 → 0 ≤ x3_85961 ∧ x3_85961 ≤ 1 ∧ (tot 85 9 N_85962) + x3_85961 ≤ (tot 85 9 N_71741) → KJ true G X N_85962 218 [some (vR G 163), some (vI a1), some (vI a2), some (vI x3_85961), some (vI x4_84245), some (vI x5_85808)] [] := by
                            intro x3_85961 N_85962 hI_N_85962 hF_N_85962 h_85964
                            refine kx_aload_n 219 F 0 dX12_laysAhead_218 rfl rfl rfl ?_
                            refine kx_iload_n 220 F 1 dX12_laysAhead_219 rfl rfl rfl ?_
                            refine kx_iload_n 221 F 2 dX12_laysAhead_220 rfl rfl rfl ?_
                            refine kx_iload 223 F 4 dX12_laysAhead_221 rfl rfl ?_
                            refine kx_iload 225 F 5 dX12_laysAhead_223 rfl rfl ?_
                            refine kx_iconst 226 F dX12_laysAhead_225 rfl ?_
                            refine kx_Vi 229 (ci := 0) F (As := [vI a1, vI a2, vI x4_84245, vI x5_85808, vI 1]) (st := []) vd_X12_452 (c_X12_leadsBoth G l N_85962 a1 a2 x4_84245 x5_85808 1 hI_N_85962 (by omega)) kd_163 rfl rfl rfl ⟨by decide, by decide⟩ rfl rfl (Nat.le_of_ble_eq_true rfl) dX12_laysAhead_226 rfl ?_
                            intro r_85965 N_85966 q_85967
                            obtain ⟨rfl, q_85967c⟩ := q_85967
                            have J_85980 : ∀ (x3_85978 : Int) (N_85979 : Mem), Inv true N_85979 → Fr f_c_X12_laysAhead M N_85979 → 0 ≤ x3_85978 ∧ x3_85978 ≤ 1 ∧ (tot 85 9 N_85979) + x3_85978 ≤ (tot 85 9 N_71741) → KJ true G X N_85979 266 [some (vR G 163), some (vI a1), some (vI a2), some (vI x3_85978), some (vI x4_84245), some (vI x5_85808)] [] := by
                              intro x3_85978 N_85979 hI_N_85979 hF_N_85979 h_85981
                              refine kx_iinc 269 F 5 (v := x5_85808 + 1) (lo' := [some (vR G 163), some (vI a1), some (vI a2), some (vI x3_85978), some (vI x4_84245), some (vI (x5_85808 + 1))]) dX12_laysAhead_266 rfl (by omega) (by decide) rfl rfl rfl ?_
                              refine kx_goto 101 F dX12_laysAhead_269 (by decide) ?_
                              exact ih_85812 _ (by omega) x3_85978 (x5_85808 + 1) N_85979 hI_N_85979 hF_N_85979 (by omega) rfl
                            refine kx_if_eq 232 F 266 dX12_laysAhead_229 (by decide) rfl (by omega) (fun h_85982 => ?_) (fun h_85982 => ?_)
                            · exact J_85980 x3_85961 N_85962 hI_N_85962 hF_N_85962 (by omega)
                            · refine kx_aload_n 233 F 0 dX12_laysAhead_232 rfl rfl rfl ?_
                              refine kx_aload_n 234 F 0 dX12_laysAhead_233 rfl rfl rfl ?_
                              refine kx_getr 237 F fl_X12_89 kd_163 rfl rfl (j := 39) rfl dX12_laysAhead_234 (v := (M 163 39)) (by rw [Fr.e hF_N_85962 kd_163 _ rfl]) rfl ?_
                              refine kx_iload 239 F 5 dX12_laysAhead_237 rfl rfl ?_
                              refine kx_aload_n 240 F 0 dX12_laysAhead_239 rfl rfl rfl ?_
                              refine kx_getr 243 F fl_X12_86 kd_163 rfl rfl (j := 38) rfl dX12_laysAhead_240 (v := (M 163 38)) (by rw [Fr.e hF_N_85962 kd_163 _ rfl]) rfl ?_
                              refine kx_iload 245 F 4 dX12_laysAhead_243 rfl rfl ?_
                              refine kx_iald 246 F hk_85816 rfl rfl (by omega) (by decide) dX12_laysAhead_245 (v := (N_85962 (M 163 38) x4_84245)) rfl rfl ?_
                              have h_85983 := Inv.g hI_N_85962 hk_85816 rfl x4_84245 (a := 0) (b := 1000000) rfl rfl
                              refine kx_aload_n 247 F 0 dX12_laysAhead_246 rfl rfl rfl ?_
                              refine kx_getr 250 F fl_X12_89 kd_163 rfl rfl (j := 39) rfl dX12_laysAhead_247 (v := (M 163 39)) (by rw [Fr.e hF_N_85962 kd_163 _ rfl]) rfl ?_
                              refine kx_iload 252 F 4 dX12_laysAhead_250 rfl rfl ?_
                              refine kx_iald 253 F hk_85942 rfl rfl (by omega) (by decide) dX12_laysAhead_252 (v := (N_85962 (M 163 39) x4_84245)) rfl rfl ?_
                              have h_85984 := Inv.g hI_N_85962 hk_85942 rfl x4_84245 (a := 0) (b := 1000000) rfl rfl
                              refine kx_mmin 256 F dX12_laysAhead_253 (tt lm_1833 rfl) (tt lm_800 rfl) (tt lm_180 rfl) (tt lm_801 rfl) (by decide) (Nat.le_of_ble_eq_true rfl) (by omega) (by omega) rfl (fun w_85985 h_85986 => ?_)
                              refine kx_iconst 257 F dX12_laysAhead_256 rfl ?_
                              refine kx_iadd 258 F (v := w_85985 + 1) dX12_laysAhead_257 rfl rfl ?_
                              refine kx_Vi 261 (ci := 0) F (As := [vR G (M 163 39), vI x5_85808, vI (w_85985 + 1)]) (st := []) vd_X12_448 (c_lowT9 G l N_85962 (M 163 39) x5_85808 (w_85985 + 1) hI_N_85962 hk_85942 (by omega)) kd_163 rfl rfl rfl ⟨by decide, by decide⟩ rfl rfl (Nat.le_of_ble_eq_true rfl) dX12_laysAhead_258 rfl ?_
                              intro r_85987 N_85988 q_85989
                              obtain ⟨hI_N_85988, hG_N_85988, q_85989c⟩ := q_85989
                              have hF_N_85988 : Fr f_c_X12_laysAhead M N_85988 := Fr.c hF_N_85962 hG_N_85988 rfl
                              rcases q_85989c with q_85989c | q_85989c
                              · refine kx_if_eq 264 F 266 dX12_laysAhead_261 (by decide) rfl (by omega) (fun h_85990 => (by exfalso; omega)) (fun h_85990 => ?_)
                                refine kx_iconst 265 F dX12_laysAhead_264 rfl ?_
                                refine kx_istore_n 266 F 3 (lo' := [some (vR G 163), some (vI a1), some (vI a2), some (vI 1), some (vI x4_84245), some (vI x5_85808)]) dX12_laysAhead_265 rfl (by decide) rfl rfl rfl ?_
                                exact J_85980 1 N_85988 hI_N_85988 hF_N_85988 (by omega)
                              · refine kx_if_eq 264 F 266 dX12_laysAhead_261 (by decide) rfl (by omega) (fun h_85991 => ?_) (fun h_85991 => (by exfalso; omega))
                                exact J_85980 x3_85961 N_85988 hI_N_85988 hF_N_85988 (by omega)
                          refine kx_if_eq 194 F 218 dX12_laysAhead_191 (by decide) rfl (by omega) (fun h_85992 => ?_) (fun h_85992 => ?_)
                          · exact J_85963 x3_85948 N_85945 hI_N_85945 hF_N_85945 (by omega)
                          · refine kx_aload_n 195 F 0 dX12_laysAhead_194 rfl rfl rfl ?_
                            refine kx_aload_n 196 F 0 dX12_laysAhead_195 rfl rfl rfl ?_
                            refine kx_getr 199 F fl_X12_86 kd_163 rfl rfl (j := 38) rfl dX12_laysAhead_196 (v := (M 163 38)) (by rw [Fr.e hG_N_85945 kd_163 _ rfl, Fr.e hG_N_85820 kd_163 _ rfl, Fr.e hF_N_85809 kd_163 _ rfl]) rfl ?_
                            refine kx_iload 201 F 5 dX12_laysAhead_199 rfl rfl ?_
                            refine kx_aload_n 202 F 0 dX12_laysAhead_201 rfl rfl rfl ?_
                            refine kx_getr 205 F fl_X12_86 kd_163 rfl rfl (j := 38) rfl dX12_laysAhead_202 (v := (M 163 38)) (by rw [Fr.e hG_N_85945 kd_163 _ rfl, Fr.e hG_N_85820 kd_163 _ rfl, Fr.e hF_N_85809 kd_163 _ rfl]) rfl ?_
                            refine kx_iload 207 F 4 dX12_laysAhead_205 rfl rfl ?_
                            refine kx_iald 208 F hk_85816 rfl rfl (by omega) (by decide) dX12_laysAhead_207 (v := (N_85945 (M 163 38) x4_84245)) rfl rfl ?_
                            have h_85993 := Inv.g hI_N_85945 hk_85816 rfl x4_84245 (a := 0) (b := 1000000) rfl rfl
                            refine kx_iconst 209 F dX12_laysAhead_208 rfl ?_
                            refine kx_iadd 210 F (v := (N_85945 (M 163 38) x4_84245) + 1) dX12_laysAhead_209 rfl rfl ?_
                            refine kx_Vi 213 (ci := 0) F (As := [vR G (M 163 38), vI x5_85808, vI ((N_85945 (M 163 38) x4_84245) + 1)]) (st := []) vd_X12_448 (c_lowT9 G l N_85945 (M 163 38) x5_85808 ((N_85945 (M 163 38) x4_84245) + 1) hI_N_85945 hk_85816 (by omega)) kd_163 rfl rfl rfl ⟨by decide, by decide⟩ rfl rfl (Nat.le_of_ble_eq_true rfl) dX12_laysAhead_210 rfl ?_
                            intro r_85994 N_85995 q_85996
                            obtain ⟨hI_N_85995, hG_N_85995, q_85996c⟩ := q_85996
                            have hF_N_85995 : Fr f_c_X12_laysAhead M N_85995 := Fr.c hF_N_85945 hG_N_85995 rfl
                            rcases q_85996c with q_85996c | q_85996c
                            · refine kx_if_eq 216 F 218 dX12_laysAhead_213 (by decide) rfl (by omega) (fun h_85997 => (by exfalso; omega)) (fun h_85997 => ?_)
                              refine kx_iconst 217 F dX12_laysAhead_216 rfl ?_
                              refine kx_istore_n 218 F 3 (lo' := [some (vR G 163), some (vI a1), some (vI a2), some (vI 1), some (vI x4_84245), some (vI x5_85808)]) dX12_laysAhead_217 rfl (by decide) rfl rfl rfl ?_
                              exact J_85963 1 N_85995 hI_N_85995 hF_N_85995 (by omega)
                            · refine kx_if_eq 216 F 218 dX12_laysAhead_213 (by decide) rfl (by omega) (fun h_85998 => ?_) (fun h_85998 => (by exfalso; omega))
                              exact J_85963 x3_85948 N_85995 hI_N_85995 hF_N_85995 (by omega)
                        refine kx_if_eq 178 F 180 dX12_laysAhead_175 (by decide) rfl (by omega) (fun h_85999 => (by exfalso; omega)) (fun h_85999 => ?_)
                        refine kx_iconst 179 F dX12_laysAhead_178 rfl ?_
                        refine kx_istore_n 180 F 3 (lo' := [some (vR G 163), some (vI a1), some (vI a2), some (vI 1), some (vI x4_84245), some (vI x5_85808)]) dX12_laysAhead_179 rfl (by decide) rfl rfl rfl ?_
                        exact J_85949 1 (by omega)
                      · have J_86002 : ∀ (x3_86001 : Int), 0 ≤ x3_86001 ∧ x3_86001 ≤ 1 ∧ (tot 85 9 N_85945) + x3_86001 ≤ (tot 85 9 N_71741) → KJ true G X N_85945 180 [some (vR G 163), some (vI a1), some (vI a2), some (vI x3_86001), some (vI x4_84245), some (vI x5_85808)] [] := by
                          intro x3_86001 h_86003
                          refine kx_aload_n 181 F 0 dX12_laysAhead_180 rfl rfl rfl ?_
                          refine kx_iload_n 182 F 1 dX12_laysAhead_181 rfl rfl rfl ?_
                          refine kx_iload_n 183 F 2 dX12_laysAhead_182 rfl rfl rfl ?_
                          refine kx_iload 185 F 4 dX12_laysAhead_183 rfl rfl ?_
                          refine kx_iload 187 F 5 dX12_laysAhead_185 rfl rfl ?_
                          refine kx_iconst 188 F dX12_laysAhead_187 rfl ?_
                          refine kx_Vi 191 (ci := 0) F (As := [vI a1, vI a2, vI x4_84245, vI x5_85808, vI 0]) (st := []) vd_X12_452 (c_X12_leadsBoth G l N_85945 a1 a2 x4_84245 x5_85808 0 hI_N_85945 (by omega)) kd_163 rfl rfl rfl ⟨by decide, by decide⟩ rfl rfl (Nat.le_of_ble_eq_true rfl) dX12_laysAhead_188 rfl ?_
                          intro r_86004 N_86005 q_86006
                          obtain ⟨rfl, q_86006c⟩ := q_86006
                          have J_86016 : ∀ (x3_86014 : Int) (N_86015 : Mem), Inv true N_86015 → Fr f_c_X12_laysAhead M N_86015 → 0 ≤ x3_86014 ∧ x3_86014 ≤ 1 ∧ (tot 85 9 N_86015) + x3_86014 ≤ (tot 85 9 N_71741) → KJ true G X N_86015 218 [some (vR G 163), some (vI a1), some (vI a2), some (vI x3_86014), some (vI x4_84245), some (vI x5_85808)] [] := by
                            intro x3_86014 N_86015 hI_N_86015 hF_N_86015 h_86017
                            refine kx_aload_n 219 F 0 dX12_laysAhead_218 rfl rfl rfl ?_
                            refine kx_iload_n 220 F 1 dX12_laysAhead_219 rfl rfl rfl ?_
                            refine kx_iload_n 221 F 2 dX12_laysAhead_220 rfl rfl rfl ?_
                            refine kx_iload 223 F 4 dX12_laysAhead_221 rfl rfl ?_
                            refine kx_iload 225 F 5 dX12_laysAhead_223 rfl rfl ?_
                            refine kx_iconst 226 F dX12_laysAhead_225 rfl ?_
                            refine kx_Vi 229 (ci := 0) F (As := [vI a1, vI a2, vI x4_84245, vI x5_85808, vI 1]) (st := []) vd_X12_452 (c_X12_leadsBoth G l N_86015 a1 a2 x4_84245 x5_85808 1 hI_N_86015 (by omega)) kd_163 rfl rfl rfl ⟨by decide, by decide⟩ rfl rfl (Nat.le_of_ble_eq_true rfl) dX12_laysAhead_226 rfl ?_
                            intro r_86018 N_86019 q_86020
                            obtain ⟨rfl, q_86020c⟩ := q_86020
                            have J_86033 : ∀ (x3_86031 : Int) (N_86032 : Mem), Inv true N_86032 → Fr f_c_X12_laysAhead M N_86032 → 0 ≤ x3_86031 ∧ x3_86031 ≤ 1 ∧ (tot 85 9 N_86032) + x3_86031 ≤ (tot 85 9 N_71741) → KJ true G X N_86032 266 [some (vR G 163), some (vI a1), some (vI a2), some (vI x3_86031), some (vI x4_84245), some (vI x5_85808)] [] := by
                              intro x3_86031 N_86032 hI_N_86032 hF_N_86032 h_86034
                              refine kx_iinc 269 F 5 (v := x5_85808 + 1) (lo' := [some (vR G 163), some (vI a1), some (vI a2), some (vI x3_86031), some (vI x4_84245), some (vI (x5_85808 + 1))]) dX12_laysAhead_266 rfl (by omega) (by decide) rfl rfl rfl ?_
                              refine kx_goto 101 F dX12_laysAhead_269 (by decide) ?_
                              exact ih_85812 _ (by omega) x3_86031 (x5_85808 + 1) N_86032 hI_N_86032 hF_N_86032 (by omega) rfl
                            refine kx_if_eq 232 F 266 dX12_laysAhead_229 (by decide) rfl (by omega) (fun h_86035 => ?_) (fun h_86035 => ?_)
                            · exact J_86033 x3_86014 N_86015 hI_N_86015 hF_N_86015 (by omega)
                            · refine kx_aload_n 233 F 0 dX12_laysAhead_232 rfl rfl rfl ?_
                              refine kx_aload_n 234 F 0 dX12_laysAhead_233 rfl rfl rfl ?_
                              refine kx_getr 237 F fl_X12_89 kd_163 rfl rfl (j := 39) rfl dX12_laysAhead_234 (v := (M 163 39)) (by rw [Fr.e hF_N_86015 kd_163 _ rfl]) rfl ?_
                              refine kx_iload 239 F 5 dX12_laysAhead_237 rfl rfl ?_
                              refine kx_aload_n 240 F 0 dX12_laysAhead_239 rfl rfl rfl ?_
                              refine kx_getr 243 F fl_X12_86 kd_163 rfl rfl (j := 38) rfl dX12_laysAhead_240 (v := (M 163 38)) (by rw [Fr.e hF_N_86015 kd_163 _ rfl]) rfl ?_
                              refine kx_iload 245 F 4 dX12_laysAhead_243 rfl rfl ?_
                              refine kx_iald 246 F hk_85816 rfl rfl (by omega) (by decide) dX12_laysAhead_245 (v := (N_86015 (M 163 38) x4_84245)) rfl rfl ?_
                              have h_86036 := Inv.g hI_N_86015 hk_85816 rfl x4_84245 (a := 0) (b := 1000000) rfl rfl
                              refine kx_aload_n 247 F 0 dX12_laysAhead_246 rfl rfl rfl ?_
                              refine kx_getr 250 F fl_X12_89 kd_163 rfl rfl (j := 39) rfl dX12_laysAhead_247 (v := (M 163 39)) (by rw [Fr.e hF_N_86015 kd_163 _ rfl]) rfl ?_
                              refine kx_iload 252 F 4 dX12_laysAhead_250 rfl rfl ?_
                              refine kx_iald 253 F hk_85942 rfl rfl (by omega) (by decide) dX12_laysAhead_252 (v := (N_86015 (M 163 39) x4_84245)) rfl rfl ?_
                              have h_86037 := Inv.g hI_N_86015 hk_85942 rfl x4_84245 (a := 0) (b := 1000000) rfl rfl
                              refine kx_mmin 256 F dX12_laysAhead_253 (tt lm_1833 rfl) (tt lm_800 rfl) (tt lm_180 rfl) (tt lm_801 rfl) (by decide) (Nat.le_of_ble_eq_true rfl) (by omega) (by omega) rfl (fun w_86038 h_86039 => ?_)
                              refine kx_iconst 257 F dX12_laysAhead_256 rfl ?_
                              refine kx_iadd 258 F (v := w_86038 + 1) dX12_laysAhead_257 rfl rfl ?_
                              refine kx_Vi 261 (ci := 0) F (As := [vR G (M 163 39), vI x5_85808, vI (w_86038 + 1)]) (st := []) vd_X12_448 (c_lowT9 G l N_86015 (M 163 39) x5_85808 (w_86038 + 1) hI_N_86015 hk_85942 (by omega)) kd_163 rfl rfl rfl ⟨by decide, by decide⟩ rfl rfl (Nat.le_of_ble_eq_true rfl) dX12_laysAhead_258 rfl ?_
                              intro r_86040 N_86041 q_86042
                              obtain ⟨hI_N_86041, hG_N_86041, q_86042c⟩ := q_86042
                              have hF_N_86041 : Fr f_c_X12_laysAhead M N_86041 := Fr.c hF_N_86015 hG_N_86041 rfl
                              rcases q_86042c with q_86042c | q_86042c
                              · refine kx_if_eq 264 F 266 dX12_laysAhead_261 (by decide) rfl (by omega) (fun h_86043 => (by exfalso; omega)) (fun h_86043 => ?_)
                                refine kx_iconst 265 F dX12_laysAhead_264 rfl ?_
                                refine kx_istore_n 266 F 3 (lo' := [some (vR G 163), some (vI a1), some (vI a2), some (vI 1), some (vI x4_84245), some (vI x5_85808)]) dX12_laysAhead_265 rfl (by decide) rfl rfl rfl ?_
                                exact J_86033 1 N_86041 hI_N_86041 hF_N_86041 (by omega)
                              · refine kx_if_eq 264 F 266 dX12_laysAhead_261 (by decide) rfl (by omega) (fun h_86044 => ?_) (fun h_86044 => (by exfalso; omega))
                                exact J_86033 x3_86014 N_86041 hI_N_86041 hF_N_86041 (by omega)
                          refine kx_if_eq 194 F 218 dX12_laysAhead_191 (by decide) rfl (by omega) (fun h_86045 => ?_) (fun h_86045 => ?_)
                          · exact J_86016 x3_86001 N_85945 hI_N_85945 hF_N_85945 (by omega)
                          · refine kx_aload_n 195 F 0 dX12_laysAhead_194 rfl rfl rfl ?_
                            refine kx_aload_n 196 F 0 dX12_laysAhead_195 rfl rfl rfl ?_
                            refine kx_getr 199 F fl_X12_86 kd_163 rfl rfl (j := 38) rfl dX12_laysAhead_196 (v := (M 163 38)) (by rw [Fr.e hG_N_85945 kd_163 _ rfl, Fr.e hG_N_85820 kd_163 _ rfl, Fr.e hF_N_85809 kd_163 _ rfl]) rfl ?_
                            refine kx_iload 201 F 5 dX12_laysAhead_199 rfl rfl ?_
                            refine kx_aload_n 202 F 0 dX12_laysAhead_201 rfl rfl rfl ?_
                            refine kx_getr 205 F fl_X12_86 kd_163 rfl rfl (j := 38) rfl dX12_laysAhead_202 (v := (M 163 38)) (by rw [Fr.e hG_N_85945 kd_163 _ rfl, Fr.e hG_N_85820 kd_163 _ rfl, Fr.e hF_N_85809 kd_163 _ rfl]) rfl ?_
                            refine kx_iload 207 F 4 dX12_laysAhead_205 rfl rfl ?_
                            refine kx_iald 208 F hk_85816 rfl rfl (by omega) (by decide) dX12_laysAhead_207 (v := (N_85945 (M 163 38) x4_84245)) rfl rfl ?_
                            have h_86046 := Inv.g hI_N_85945 hk_85816 rfl x4_84245 (a := 0) (b := 1000000) rfl rfl
                            refine kx_iconst 209 F dX12_laysAhead_208 rfl ?_
                            refine kx_iadd 210 F (v := (N_85945 (M 163 38) x4_84245) + 1) dX12_laysAhead_209 rfl rfl ?_
                            refine kx_Vi 213 (ci := 0) F (As := [vR G (M 163 38), vI x5_85808, vI ((N_85945 (M 163 38) x4_84245) + 1)]) (st := []) vd_X12_448 (c_lowT9 G l N_85945 (M 163 38) x5_85808 ((N_85945 (M 163 38) x4_84245) + 1) hI_N_85945 hk_85816 (by omega)) kd_163 rfl rfl rfl ⟨by decide, by decide⟩ rfl rfl (Nat.le_of_ble_eq_true rfl) dX12_laysAhead_210 rfl ?_
                            intro r_86047 N_86048 q_86049
                            obtain ⟨hI_N_86048, hG_N_86048, q_86049c⟩ := q_86049
                            have hF_N_86048 : Fr f_c_X12_laysAhead M N_86048 := Fr.c hF_N_85945 hG_N_86048 rfl
                            rcases q_86049c with q_86049c | q_86049c
                            · refine kx_if_eq 216 F 218 dX12_laysAhead_213 (by decide) rfl (by omega) (fun h_86050 => (by exfalso; omega)) (fun h_86050 => ?_)
                              refine kx_iconst 217 F dX12_laysAhead_216 rfl ?_
                              refine kx_istore_n 218 F 3 (lo' := [some (vR G 163), some (vI a1), some (vI a2), some (vI 1), some (vI x4_84245), some (vI x5_85808)]) dX12_laysAhead_217 rfl (by decide) rfl rfl rfl ?_
                              exact J_86016 1 N_86048 hI_N_86048 hF_N_86048 (by omega)
                            · refine kx_if_eq 216 F 218 dX12_laysAhead_213 (by decide) rfl (by omega) (fun h_86051 => ?_) (fun h_86051 => (by exfalso; omega))
                              exact J_86016 x3_86001 N_86048 hI_N_86048 hF_N_86048 (by omega)
                        refine kx_if_eq 178 F 180 dX12_laysAhead_175 (by decide) rfl (by omega) (fun h_86052 => ?_) (fun h_86052 => (by exfalso; omega))
                        exact J_86002 x3_85939 (by omega)
                    refine kx_if_eq 142 F 144 dX12_laysAhead_139 (by decide) rfl (by omega) (fun h_86053 => ?_) (fun h_86053 => (by exfalso; omega))
                    exact J_85940 x3_85807 (by omega)
              exact L_85810 _ x3_84244 0 N_84246 hI_N_84246 hF_N_84246 (by omega) rfl
          exact L_84247 _ 0 0 N_71741 hI_N_71741 hF_N_71741 (by omega) rfl
      refine kx_drop 4 (lo' := [some (vR G 163), some (vI a1), some (vI a2), some (vI 1), none, none]) rfl ?_
      exact L_71742 _ 1 N_57444 hI_N_57444 hF_N_57444 (by omega) rfl
    · refine kx_aload_n 19 F 0 dX12_laysAhead_18 rfl rfl rfl ?_
      refine kx_getr 22 F fl_X12_86 kd_163 rfl rfl (j := 38) rfl dX12_laysAhead_19 (v := (M 163 38)) (by rw [Fr.e hF_N_57444 kd_163 _ rfl]) rfl ?_
      have hk_86054 : kd (M 163 38) = 85 := Inv.r hI_M kd_163 rfl 38 rfl rfl
      refine kx_iload 24 F 4 dX12_laysAhead_22 rfl rfl ?_
      refine kx_aload_n 25 F 0 dX12_laysAhead_24 rfl rfl rfl ?_
      refine kx_aload_n 26 F 0 dX12_laysAhead_25 rfl rfl rfl ?_
      refine kx_iload_n 27 F 1 dX12_laysAhead_26 rfl rfl rfl ?_
      refine kx_iconst 28 F dX12_laysAhead_27 rfl ?_
      refine kx_Vi 31 (ci := 0) F (As := [vI a1, vI 2]) (st := [vR G 163, vI x4_57443, vR G (M 163 38)]) vd_X12_288 (c_of2 G l N_57444 a1 2 hI_N_57444 (by omega)) kd_163 rfl rfl rfl ⟨by decide, by decide⟩ rfl rfl (Nat.le_of_ble_eq_true rfl) dX12_laysAhead_28 rfl ?_
      intro r_86055 N_86056 q_86057
      obtain ⟨rfl, q_86057c⟩ := q_86057
      refine kx_iload 33 F 4 dX12_laysAhead_31 rfl rfl ?_
      refine kx_iconst 34 F dX12_laysAhead_33 rfl ?_
      refine kx_idiv 35 F (v := (x4_57443 / 3)) dX12_laysAhead_34 (by omega) (by decide) rfl rfl ?_
      refine kx_Vi 38 (ci := 0) F (As := [vI r_86055, vI (x4_57443 / 3)]) (st := [vI x4_57443, vR G (M 163 38)]) vd_X12_239 (c_X12_isIn G l N_57444 r_86055 (x4_57443 / 3) hI_N_57444 (by omega)) kd_163 rfl rfl rfl ⟨by decide, by decide⟩ rfl rfl (Nat.le_of_ble_eq_true rfl) dX12_laysAhead_35 rfl ?_
      intro r_86058 N_86059 q_86060
      obtain ⟨rfl, q_86060c⟩ := q_86060
      have J_86076 : KJ true G X N_57444 62 [some (vR G 163), some (vI a1), some (vI a2), some (vI 1), some (vI x4_57443), none] [vI x4_57443, vR G (M 163 38)] := by
        refine kx_ldcw 65 (z := 1000000) F dX12_laysAhead_62 ct_X12_428 rfl ?_
        refine kx_iast 66 F hk_86054 rfl rfl (by omega) (by decide) dX12_laysAhead_65 rfl ?_
        intro N_86078 hM_N_86078
        have hI_N_86078 : Inv true N_86078 := Inv.u hI_N_57444 hM_N_86078 hk_86054 (a := 0) (b := 1000000) rfl rfl rfl (by omega)
        have hF_N_86078 : Fr f_c_X12_laysAhead M N_86078 := Fr.u hF_N_57444 hM_N_86078 hk_86054 rfl
        have h_86080 := Inv.g hI_N_57444 hk_86054 rfl x4_57443 (a := 0) (b := 1000000) rfl rfl
        have ht_86079 := tot_u (n := 9) hM_N_86078 hk_86054 (by omega)
        refine kx_aload_n 67 F 0 dX12_laysAhead_66 rfl rfl rfl ?_
        refine kx_getr 70 F fl_X12_89 kd_163 rfl rfl (j := 39) rfl dX12_laysAhead_67 (v := (M 163 39)) (by rw [hM_N_86078, mu_k kd_163 hk_86054 rfl, Fr.e hF_N_57444 kd_163 _ rfl]) rfl ?_
        have hk_86081 : kd (M 163 39) = 85 := Inv.r hI_M kd_163 rfl 39 rfl rfl
        refine kx_iload 72 F 4 dX12_laysAhead_70 rfl rfl ?_
        refine kx_ldcw 75 (z := 1000000) F dX12_laysAhead_72 ct_X12_428 rfl ?_
        refine kx_iast 76 F hk_86081 rfl rfl (by omega) (by decide) dX12_laysAhead_75 rfl ?_
        intro N_86082 hM_N_86082
        have hI_N_86082 : Inv true N_86082 := Inv.u hI_N_86078 hM_N_86082 hk_86081 (a := 0) (b := 1000000) rfl rfl rfl (by omega)
        have hF_N_86082 : Fr f_c_X12_laysAhead M N_86082 := Fr.u hF_N_86078 hM_N_86082 hk_86081 rfl
        have h_86084 := Inv.g hI_N_86078 hk_86081 rfl x4_57443 (a := 0) (b := 1000000) rfl rfl
        have ht_86083 := tot_u (n := 9) hM_N_86082 hk_86081 (by omega)
        refine kx_iinc 79 F 4 (v := x4_57443 + 1) (lo' := [some (vR G 163), some (vI a1), some (vI a2), some (vI 1), some (vI (x4_57443 + 1)), none]) dX12_laysAhead_76 rfl (by omega) (by decide) rfl rfl rfl ?_
        refine kx_goto 11 F dX12_laysAhead_79 (by decide) ?_
        exact ih_57447 _ (by omega) (x4_57443 + 1) N_86082 hI_N_86082 hF_N_86082 (by omega) rfl
      refine kx_if_eq 41 F 62 dX12_laysAhead_38 (by decide) rfl (by omega) (fun h_86085 => ?_) (fun h_86085 => ?_)
      · exact J_86076
      · refine kx_aload_n 42 F 0 dX12_laysAhead_41 rfl rfl rfl ?_
        refine kx_aload_n 43 F 0 dX12_laysAhead_42 rfl rfl rfl ?_
        refine kx_iload_n 44 F 2 dX12_laysAhead_43 rfl rfl rfl ?_
        refine kx_iconst 45 F dX12_laysAhead_44 rfl ?_
        refine kx_Vi 48 (ci := 0) F (As := [vI a2, vI 2]) (st := [vR G 163, vI x4_57443, vR G (M 163 38)]) vd_X12_288 (c_of2 G l N_57444 a2 2 hI_N_57444 (by omega)) kd_163 rfl rfl rfl ⟨by decide, by decide⟩ rfl rfl (Nat.le_of_ble_eq_true rfl) dX12_laysAhead_45 rfl ?_
        intro r_86086 N_86087 q_86088
        obtain ⟨rfl, q_86088c⟩ := q_86088
        refine kx_iload 50 F 4 dX12_laysAhead_48 rfl rfl ?_
        refine kx_iconst 51 F dX12_laysAhead_50 rfl ?_
        refine kx_irem 52 F (v := (x4_57443 % 3)) dX12_laysAhead_51 (by omega) (by decide) rfl rfl ?_
        refine kx_Vi 55 (ci := 0) F (As := [vI r_86086, vI (x4_57443 % 3)]) (st := [vI x4_57443, vR G (M 163 38)]) vd_X12_239 (c_X12_isIn G l N_57444 r_86086 (x4_57443 % 3) hI_N_57444 (by omega)) kd_163 rfl rfl rfl ⟨by decide, by decide⟩ rfl rfl (Nat.le_of_ble_eq_true rfl) dX12_laysAhead_52 rfl ?_
        intro r_86089 N_86090 q_86091
        obtain ⟨rfl, q_86091c⟩ := q_86091
        refine kx_if_eq 58 F 62 dX12_laysAhead_55 (by decide) rfl (by omega) (fun h_86092 => ?_) (fun h_86092 => ?_)
        · exact J_86076
        · refine kx_iconst 59 F dX12_laysAhead_58 rfl ?_
          refine kx_goto 65 F dX12_laysAhead_59 (by decide) ?_
          refine kx_iast 66 F hk_86054 rfl rfl (by omega) (by decide) dX12_laysAhead_65 rfl ?_
          intro N_86093 hM_N_86093
          have hI_N_86093 : Inv true N_86093 := Inv.u hI_N_57444 hM_N_86093 hk_86054 (a := 0) (b := 1000000) rfl rfl rfl (by omega)
          have hF_N_86093 : Fr f_c_X12_laysAhead M N_86093 := Fr.u hF_N_57444 hM_N_86093 hk_86054 rfl
          have h_86095 := Inv.g hI_N_57444 hk_86054 rfl x4_57443 (a := 0) (b := 1000000) rfl rfl
          have ht_86094 := tot_u (n := 9) hM_N_86093 hk_86054 (by omega)
          refine kx_aload_n 67 F 0 dX12_laysAhead_66 rfl rfl rfl ?_
          refine kx_getr 70 F fl_X12_89 kd_163 rfl rfl (j := 39) rfl dX12_laysAhead_67 (v := (M 163 39)) (by rw [hM_N_86093, mu_k kd_163 hk_86054 rfl, Fr.e hF_N_57444 kd_163 _ rfl]) rfl ?_
          have hk_86096 : kd (M 163 39) = 85 := Inv.r hI_M kd_163 rfl 39 rfl rfl
          refine kx_iload 72 F 4 dX12_laysAhead_70 rfl rfl ?_
          refine kx_ldcw 75 (z := 1000000) F dX12_laysAhead_72 ct_X12_428 rfl ?_
          refine kx_iast 76 F hk_86096 rfl rfl (by omega) (by decide) dX12_laysAhead_75 rfl ?_
          intro N_86097 hM_N_86097
          have hI_N_86097 : Inv true N_86097 := Inv.u hI_N_86093 hM_N_86097 hk_86096 (a := 0) (b := 1000000) rfl rfl rfl (by omega)
          have hF_N_86097 : Fr f_c_X12_laysAhead M N_86097 := Fr.u hF_N_86093 hM_N_86097 hk_86096 rfl
          have h_86099 := Inv.g hI_N_86093 hk_86096 rfl x4_57443 (a := 0) (b := 1000000) rfl rfl
          have ht_86098 := tot_u (n := 9) hM_N_86097 hk_86096 (by omega)
          refine kx_iinc 79 F 4 (v := x4_57443 + 1) (lo' := [some (vR G 163), some (vI a1), some (vI a2), some (vI 1), some (vI (x4_57443 + 1)), none]) dX12_laysAhead_76 rfl (by omega) (by decide) rfl rfl rfl ?_
          refine kx_goto 11 F dX12_laysAhead_79 (by decide) ?_
          exact ih_57447 _ (by omega) (x4_57443 + 1) N_86097 hI_N_86097 hF_N_86097 (by omega) rfl
  exact L_57445 _ 0 N_1 hI_N_1 hF_N_1 (by omega) rfl
set_option maxRecDepth 100000 in
theorem dGR_31_c_987 : (decode cX12_shortestOf 0 = .ok (.aload_n 0, 1)) ∧ (decode cX12_shortestOf 1 = .ok (.iload_n 1, 1)) ∧ (decode cX12_shortestOf 2 = .ok (.iload_n 2, 1)) ∧ (decode cX12_shortestOf 3 = .ok (.invokevirtual 456, 3)) ∧ (decode cX12_shortestOf 6 = .ok (.ldc_w 428, 3)) ∧ (decode cX12_shortestOf 9 = .ok (.istore_n 3, 1)) ∧ (decode cX12_shortestOf 10 = .ok (.iconst 0, 1)) ∧ (decode cX12_shortestOf 11 = .ok (.istore 4, 2)) ∧ (decode cX12_shortestOf 13 = .ok (.iload 4, 2)) ∧ (decode cX12_shortestOf 15 = .ok (.bipush 9, 2)) ∧ (decode cX12_shortestOf 17 = .ok (.if_icmp .ge 65, 3)) ∧ (decode cX12_shortestOf 20 = .ok (.aload_n 0, 1)) := by decide +kernel
theorem dX12_shortestOf_0 : decode cX12_shortestOf 0 = .ok (.aload_n 0, 1) := dGR_31_c_987.1
theorem dX12_shortestOf_1 : decode cX12_shortestOf 1 = .ok (.iload_n 1, 1) := dGR_31_c_987.2.1
theorem dX12_shortestOf_2 : decode cX12_shortestOf 2 = .ok (.iload_n 2, 1) := dGR_31_c_987.2.2.1
theorem dX12_shortestOf_3 : decode cX12_shortestOf 3 = .ok (.invokevirtual 456, 3) := dGR_31_c_987.2.2.2.1
theorem dX12_shortestOf_6 : decode cX12_shortestOf 6 = .ok (.ldc_w 428, 3) := dGR_31_c_987.2.2.2.2.1
theorem dX12_shortestOf_9 : decode cX12_shortestOf 9 = .ok (.istore_n 3, 1) := dGR_31_c_987.2.2.2.2.2.1
theorem dX12_shortestOf_10 : decode cX12_shortestOf 10 = .ok (.iconst 0, 1) := dGR_31_c_987.2.2.2.2.2.2.1
theorem dX12_shortestOf_11 : decode cX12_shortestOf 11 = .ok (.istore 4, 2) := dGR_31_c_987.2.2.2.2.2.2.2.1
theorem dX12_shortestOf_13 : decode cX12_shortestOf 13 = .ok (.iload 4, 2) := dGR_31_c_987.2.2.2.2.2.2.2.2.1
theorem dX12_shortestOf_15 : decode cX12_shortestOf 15 = .ok (.bipush 9, 2) := dGR_31_c_987.2.2.2.2.2.2.2.2.2.1
theorem dX12_shortestOf_17 : decode cX12_shortestOf 17 = .ok (.if_icmp .ge 65, 3) := dGR_31_c_987.2.2.2.2.2.2.2.2.2.2.1
theorem dX12_shortestOf_20 : decode cX12_shortestOf 20 = .ok (.aload_n 0, 1) := dGR_31_c_987.2.2.2.2.2.2.2.2.2.2.2
set_option maxRecDepth 100000 in
theorem dGR_31_c_988 : (decode cX12_shortestOf 21 = .ok (.aload_n 0, 1)) ∧ (decode cX12_shortestOf 22 = .ok (.iload_n 1, 1)) ∧ (decode cX12_shortestOf 23 = .ok (.iconst 3, 1)) ∧ (decode cX12_shortestOf 24 = .ok (.invokevirtual 288, 3)) ∧ (decode cX12_shortestOf 27 = .ok (.iload 4, 2)) ∧ (decode cX12_shortestOf 29 = .ok (.iconst 3, 1)) ∧ (decode cX12_shortestOf 30 = .ok (.idiv, 1)) ∧ (decode cX12_shortestOf 31 = .ok (.invokevirtual 239, 3)) ∧ (decode cX12_shortestOf 34 = .ok (.ifCond .eq 42, 3)) ∧ (decode cX12_shortestOf 37 = .ok (.aload_n 0, 1)) ∧ (decode cX12_shortestOf 38 = .ok (.aload_n 0, 1)) ∧ (decode cX12_shortestOf 39 = .ok (.iload_n 2, 1)) := by decide +kernel
theorem dX12_shortestOf_21 : decode cX12_shortestOf 21 = .ok (.aload_n 0, 1) := dGR_31_c_988.1
theorem dX12_shortestOf_22 : decode cX12_shortestOf 22 = .ok (.iload_n 1, 1) := dGR_31_c_988.2.1
theorem dX12_shortestOf_23 : decode cX12_shortestOf 23 = .ok (.iconst 3, 1) := dGR_31_c_988.2.2.1
theorem dX12_shortestOf_24 : decode cX12_shortestOf 24 = .ok (.invokevirtual 288, 3) := dGR_31_c_988.2.2.2.1
theorem dX12_shortestOf_27 : decode cX12_shortestOf 27 = .ok (.iload 4, 2) := dGR_31_c_988.2.2.2.2.1
theorem dX12_shortestOf_29 : decode cX12_shortestOf 29 = .ok (.iconst 3, 1) := dGR_31_c_988.2.2.2.2.2.1
theorem dX12_shortestOf_30 : decode cX12_shortestOf 30 = .ok (.idiv, 1) := dGR_31_c_988.2.2.2.2.2.2.1
theorem dX12_shortestOf_31 : decode cX12_shortestOf 31 = .ok (.invokevirtual 239, 3) := dGR_31_c_988.2.2.2.2.2.2.2.1
theorem dX12_shortestOf_34 : decode cX12_shortestOf 34 = .ok (.ifCond .eq 42, 3) := dGR_31_c_988.2.2.2.2.2.2.2.2.1
theorem dX12_shortestOf_37 : decode cX12_shortestOf 37 = .ok (.aload_n 0, 1) := dGR_31_c_988.2.2.2.2.2.2.2.2.2.1
theorem dX12_shortestOf_38 : decode cX12_shortestOf 38 = .ok (.aload_n 0, 1) := dGR_31_c_988.2.2.2.2.2.2.2.2.2.2.1
theorem dX12_shortestOf_39 : decode cX12_shortestOf 39 = .ok (.iload_n 2, 1) := dGR_31_c_988.2.2.2.2.2.2.2.2.2.2.2
set_option maxRecDepth 100000 in
theorem dGR_31_c_989 : (decode cX12_shortestOf 40 = .ok (.iconst 3, 1)) ∧ (decode cX12_shortestOf 41 = .ok (.invokevirtual 288, 3)) ∧ (decode cX12_shortestOf 44 = .ok (.iload 4, 2)) ∧ (decode cX12_shortestOf 46 = .ok (.iconst 3, 1)) ∧ (decode cX12_shortestOf 47 = .ok (.irem, 1)) ∧ (decode cX12_shortestOf 48 = .ok (.invokevirtual 239, 3)) ∧ (decode cX12_shortestOf 51 = .ok (.ifCond .eq 25, 3)) ∧ (decode cX12_shortestOf 54 = .ok (.iload_n 3, 1)) ∧ (decode cX12_shortestOf 55 = .ok (.aload_n 0, 1)) ∧ (decode cX12_shortestOf 56 = .ok (.getfield 86, 3)) ∧ (decode cX12_shortestOf 59 = .ok (.iload 4, 2)) ∧ (decode cX12_shortestOf 61 = .ok (.iaload, 1)) := by decide +kernel
theorem dX12_shortestOf_40 : decode cX12_shortestOf 40 = .ok (.iconst 3, 1) := dGR_31_c_989.1
theorem dX12_shortestOf_41 : decode cX12_shortestOf 41 = .ok (.invokevirtual 288, 3) := dGR_31_c_989.2.1
theorem dX12_shortestOf_44 : decode cX12_shortestOf 44 = .ok (.iload 4, 2) := dGR_31_c_989.2.2.1
theorem dX12_shortestOf_46 : decode cX12_shortestOf 46 = .ok (.iconst 3, 1) := dGR_31_c_989.2.2.2.1
theorem dX12_shortestOf_47 : decode cX12_shortestOf 47 = .ok (.irem, 1) := dGR_31_c_989.2.2.2.2.1
theorem dX12_shortestOf_48 : decode cX12_shortestOf 48 = .ok (.invokevirtual 239, 3) := dGR_31_c_989.2.2.2.2.2.1
theorem dX12_shortestOf_51 : decode cX12_shortestOf 51 = .ok (.ifCond .eq 25, 3) := dGR_31_c_989.2.2.2.2.2.2.1
theorem dX12_shortestOf_54 : decode cX12_shortestOf 54 = .ok (.iload_n 3, 1) := dGR_31_c_989.2.2.2.2.2.2.2.1
theorem dX12_shortestOf_55 : decode cX12_shortestOf 55 = .ok (.aload_n 0, 1) := dGR_31_c_989.2.2.2.2.2.2.2.2.1
theorem dX12_shortestOf_56 : decode cX12_shortestOf 56 = .ok (.getfield 86, 3) := dGR_31_c_989.2.2.2.2.2.2.2.2.2.1
theorem dX12_shortestOf_59 : decode cX12_shortestOf 59 = .ok (.iload 4, 2) := dGR_31_c_989.2.2.2.2.2.2.2.2.2.2.1
theorem dX12_shortestOf_61 : decode cX12_shortestOf 61 = .ok (.iaload, 1) := dGR_31_c_989.2.2.2.2.2.2.2.2.2.2.2
set_option maxRecDepth 100000 in
theorem dGR_31_c_990 : (decode cX12_shortestOf 62 = .ok (.aload_n 0, 1)) ∧ (decode cX12_shortestOf 63 = .ok (.getfield 89, 3)) ∧ (decode cX12_shortestOf 66 = .ok (.iload 4, 2)) ∧ (decode cX12_shortestOf 68 = .ok (.iaload, 1)) ∧ (decode cX12_shortestOf 69 = .ok (.invokestatic 178, 3)) ∧ (decode cX12_shortestOf 72 = .ok (.invokestatic 178, 3)) ∧ (decode cX12_shortestOf 75 = .ok (.istore_n 3, 1)) ∧ (decode cX12_shortestOf 76 = .ok (.iinc 4 1, 3)) ∧ (decode cX12_shortestOf 79 = .ok (.goto (-66), 3)) ∧ (decode cX12_shortestOf 82 = .ok (.iload_n 3, 1)) ∧ (decode cX12_shortestOf 83 = .ok (.ldc_w 428, 3)) ∧ (decode cX12_shortestOf 86 = .ok (.if_icmp .lt 7, 3)) := by decide +kernel
theorem dX12_shortestOf_62 : decode cX12_shortestOf 62 = .ok (.aload_n 0, 1) := dGR_31_c_990.1
theorem dX12_shortestOf_63 : decode cX12_shortestOf 63 = .ok (.getfield 89, 3) := dGR_31_c_990.2.1
theorem dX12_shortestOf_66 : decode cX12_shortestOf 66 = .ok (.iload 4, 2) := dGR_31_c_990.2.2.1
theorem dX12_shortestOf_68 : decode cX12_shortestOf 68 = .ok (.iaload, 1) := dGR_31_c_990.2.2.2.1
theorem dX12_shortestOf_69 : decode cX12_shortestOf 69 = .ok (.invokestatic 178, 3) := dGR_31_c_990.2.2.2.2.1
theorem dX12_shortestOf_72 : decode cX12_shortestOf 72 = .ok (.invokestatic 178, 3) := dGR_31_c_990.2.2.2.2.2.1
theorem dX12_shortestOf_75 : decode cX12_shortestOf 75 = .ok (.istore_n 3, 1) := dGR_31_c_990.2.2.2.2.2.2.1
theorem dX12_shortestOf_76 : decode cX12_shortestOf 76 = .ok (.iinc 4 1, 3) := dGR_31_c_990.2.2.2.2.2.2.2.1
theorem dX12_shortestOf_79 : decode cX12_shortestOf 79 = .ok (.goto (-66), 3) := dGR_31_c_990.2.2.2.2.2.2.2.2.1
theorem dX12_shortestOf_82 : decode cX12_shortestOf 82 = .ok (.iload_n 3, 1) := dGR_31_c_990.2.2.2.2.2.2.2.2.2.1
theorem dX12_shortestOf_83 : decode cX12_shortestOf 83 = .ok (.ldc_w 428, 3) := dGR_31_c_990.2.2.2.2.2.2.2.2.2.2.1
theorem dX12_shortestOf_86 : decode cX12_shortestOf 86 = .ok (.if_icmp .lt 7, 3) := dGR_31_c_990.2.2.2.2.2.2.2.2.2.2.2
set_option maxRecDepth 100000 in
theorem dGR_31_c_991 : (decode cX12_shortestOf 89 = .ok (.iconst (-1), 1)) ∧ (decode cX12_shortestOf 90 = .ok (.goto 4, 3)) ∧ (decode cX12_shortestOf 93 = .ok (.iload_n 3, 1)) ∧ (decode cX12_shortestOf 94 = .ok (.ireturn, 1)) := by decide +kernel
theorem dX12_shortestOf_89 : decode cX12_shortestOf 89 = .ok (.iconst (-1), 1) := dGR_31_c_991.1
theorem dX12_shortestOf_90 : decode cX12_shortestOf 90 = .ok (.goto 4, 3) := dGR_31_c_991.2.1
theorem dX12_shortestOf_93 : decode cX12_shortestOf 93 = .ok (.iload_n 3, 1) := dGR_31_c_991.2.2.1
theorem dX12_shortestOf_94 : decode cX12_shortestOf 94 = .ok (.ireturn, 1) := dGR_31_c_991.2.2.2
abbrev f_c_X12_shortestOf : List (Nat × Int) := [(72, -1), (83, -1), (84, -1), (85, -1)]
set_option maxHeartbeats 4000000 in
set_option maxRecDepth 100000 in
theorem c_X12_shortestOf (G : KG) (l : Launch) (M : Mem) (a1 : Int) (a2 : Int) (hI_M : Inv true M) (hpre : -2147483648 ≤ a1 ∧ a1 ≤ 2147483647 ∧ -2147483648 ≤ a2 ∧ a2 ≤ 2147483647 ∧ 0 ≤ a1 ∧ a1 ≤ 2 ∧ 0 ≤ a2 ∧ a2 ≤ 2) : KC true G l yX12_shortestOf cX12_shortestOf 5 (some .int) (6, 140) [vR G 163, vI a1, vI a2] M (fun A => kQi true G A (fun (r : Int) (N : Mem) => Inv true N ∧ Fr f_c_X12_shortestOf M N ∧ (r ≥ -1 ∧ r ≤ 999999))) := by
  refine kx_met (lo := [some (vR G 163), some (vI a1), some (vI a2), none, none]) (by decide) (Nat.le_of_ble_eq_true rfl) rfl ?_
  intro X F hQ
  have hF_M : Fr f_c_X12_shortestOf M M := Fr.rf _ _
  refine kx_aload_n 1 F 0 dX12_shortestOf_0 rfl rfl rfl ?_
  refine kx_iload_n 2 F 1 dX12_shortestOf_1 rfl rfl rfl ?_
  refine kx_iload_n 3 F 2 dX12_shortestOf_2 rfl rfl rfl ?_
  refine kx_Vv 6 (ci := 0) F (As := [vI a1, vI a2]) (st := []) vd_X12_456 (c_X12_laysAhead G l M a1 a2 hI_M (by omega)) kd_163 rfl rfl rfl ⟨by decide, by decide⟩ rfl rfl (Nat.le_of_ble_eq_true rfl) dX12_shortestOf_3 rfl ?_
  intro N_1 q_2
  obtain ⟨hI_N_1, hG_N_1⟩ := q_2
  have hF_N_1 : Fr f_c_X12_shortestOf M N_1 := Fr.c hF_M hG_N_1 rfl
  refine kx_ldcw 9 (z := 1000000) F dX12_shortestOf_6 ct_X12_428 rfl ?_
  refine kx_istore_n 10 F 3 (lo' := [some (vR G 163), some (vI a1), some (vI a2), some (vI 1000000), none]) dX12_shortestOf_9 rfl (by decide) rfl rfl rfl ?_
  refine kx_iconst 11 F dX12_shortestOf_10 rfl ?_
  refine kx_istore 13 F 4 (lo' := [some (vR G 163), some (vI a1), some (vI a2), some (vI 1000000), some (vI 0)]) dX12_shortestOf_11 (by decide) rfl rfl rfl ?_
  have L_182 : ∀ (n_183 : Nat) (x3_180 : Int) (x4_181 : Int), 0 ≤ x3_180 ∧ x3_180 ≤ 1000000 ∧ 0 ≤ x4_181 ∧ x4_181 ≤ 9 → (9 - (x4_181)).toNat = n_183 → KJ true G X N_1 13 [some (vR G 163), some (vI a1), some (vI a2), some (vI x3_180), some (vI x4_181)] [] := by
    intro n_183
    refine Nat.strongRecOn n_183 ?_
    intro n_183 ih_184 x3_180 x4_181 h_185 hm_186
    refine kx_iload 15 F 4 dX12_shortestOf_13 rfl rfl ?_
    refine kx_bipush 17 F dX12_shortestOf_15 (by decide) rfl ?_
    refine kx_icmp_ge 20 F 82 dX12_shortestOf_17 (by decide) rfl (by omega) (by decide) (fun h_187 => ?_) (fun h_187 => ?_)
    · refine kx_iload_n 83 F 3 dX12_shortestOf_82 rfl rfl rfl ?_
      refine kx_ldcw 86 (z := 1000000) F dX12_shortestOf_83 ct_X12_428 rfl ?_
      refine kx_icmp_lt 89 F 93 dX12_shortestOf_86 (by decide) rfl (by omega) (by decide) (fun h_188 => ?_) (fun h_188 => ?_)
      · refine kx_iload_n 94 F 3 dX12_shortestOf_93 rfl rfl rfl ?_
        exact kx_iret F hQ ⟨hI_N_1, hF_N_1, (by omega)⟩ dX12_shortestOf_94
      · refine kx_iconst 90 F dX12_shortestOf_89 rfl ?_
        refine kx_goto 94 F dX12_shortestOf_90 (by decide) ?_
        exact kx_iret F hQ ⟨hI_N_1, hF_N_1, (by omega)⟩ dX12_shortestOf_94
    · refine kx_aload_n 21 F 0 dX12_shortestOf_20 rfl rfl rfl ?_
      refine kx_aload_n 22 F 0 dX12_shortestOf_21 rfl rfl rfl ?_
      refine kx_iload_n 23 F 1 dX12_shortestOf_22 rfl rfl rfl ?_
      refine kx_iconst 24 F dX12_shortestOf_23 rfl ?_
      refine kx_Vi 27 (ci := 0) F (As := [vI a1, vI 3]) (st := [vR G 163]) vd_X12_288 (c_of3 G l N_1 a1 3 hI_N_1 (by omega)) kd_163 rfl rfl rfl ⟨by decide, by decide⟩ rfl rfl (Nat.le_of_ble_eq_true rfl) dX12_shortestOf_24 rfl ?_
      intro r_189 N_190 q_191
      obtain ⟨rfl, q_191c⟩ := q_191
      refine kx_iload 29 F 4 dX12_shortestOf_27 rfl rfl ?_
      refine kx_iconst 30 F dX12_shortestOf_29 rfl ?_
      refine kx_idiv 31 F (v := (x4_181 / 3)) dX12_shortestOf_30 (by omega) (by decide) rfl rfl ?_
      refine kx_Vi 34 (ci := 0) F (As := [vI r_189, vI (x4_181 / 3)]) (st := []) vd_X12_239 (c_X12_isIn G l N_1 r_189 (x4_181 / 3) hI_N_1 (by omega)) kd_163 rfl rfl rfl ⟨by decide, by decide⟩ rfl rfl (Nat.le_of_ble_eq_true rfl) dX12_shortestOf_31 rfl ?_
      intro r_192 N_193 q_194
      obtain ⟨rfl, q_194c⟩ := q_194
      have J_212 : ∀ (x3_211 : Int), 0 ≤ x3_211 ∧ x3_211 ≤ 1000000 → KJ true G X N_1 76 [some (vR G 163), some (vI a1), some (vI a2), some (vI x3_211), some (vI x4_181)] [] := by
        intro x3_211 h_213
        refine kx_iinc 79 F 4 (v := x4_181 + 1) (lo' := [some (vR G 163), some (vI a1), some (vI a2), some (vI x3_211), some (vI (x4_181 + 1))]) dX12_shortestOf_76 rfl (by omega) (by decide) rfl rfl rfl ?_
        refine kx_goto 13 F dX12_shortestOf_79 (by decide) ?_
        exact ih_184 _ (by omega) x3_211 (x4_181 + 1) (by omega) rfl
      refine kx_if_eq 37 F 76 dX12_shortestOf_34 (by decide) rfl (by omega) (fun h_214 => ?_) (fun h_214 => ?_)
      · exact J_212 x3_180 (by omega)
      · refine kx_aload_n 38 F 0 dX12_shortestOf_37 rfl rfl rfl ?_
        refine kx_aload_n 39 F 0 dX12_shortestOf_38 rfl rfl rfl ?_
        refine kx_iload_n 40 F 2 dX12_shortestOf_39 rfl rfl rfl ?_
        refine kx_iconst 41 F dX12_shortestOf_40 rfl ?_
        refine kx_Vi 44 (ci := 0) F (As := [vI a2, vI 3]) (st := [vR G 163]) vd_X12_288 (c_of3 G l N_1 a2 3 hI_N_1 (by omega)) kd_163 rfl rfl rfl ⟨by decide, by decide⟩ rfl rfl (Nat.le_of_ble_eq_true rfl) dX12_shortestOf_41 rfl ?_
        intro r_215 N_216 q_217
        obtain ⟨rfl, q_217c⟩ := q_217
        refine kx_iload 46 F 4 dX12_shortestOf_44 rfl rfl ?_
        refine kx_iconst 47 F dX12_shortestOf_46 rfl ?_
        refine kx_irem 48 F (v := (x4_181 % 3)) dX12_shortestOf_47 (by omega) (by decide) rfl rfl ?_
        refine kx_Vi 51 (ci := 0) F (As := [vI r_215, vI (x4_181 % 3)]) (st := []) vd_X12_239 (c_X12_isIn G l N_1 r_215 (x4_181 % 3) hI_N_1 (by omega)) kd_163 rfl rfl rfl ⟨by decide, by decide⟩ rfl rfl (Nat.le_of_ble_eq_true rfl) dX12_shortestOf_48 rfl ?_
        intro r_218 N_219 q_220
        obtain ⟨rfl, q_220c⟩ := q_220
        refine kx_if_eq 54 F 76 dX12_shortestOf_51 (by decide) rfl (by omega) (fun h_221 => ?_) (fun h_221 => ?_)
        · exact J_212 x3_180 (by omega)
        · refine kx_iload_n 55 F 3 dX12_shortestOf_54 rfl rfl rfl ?_
          refine kx_aload_n 56 F 0 dX12_shortestOf_55 rfl rfl rfl ?_
          refine kx_getr 59 F fl_X12_86 kd_163 rfl rfl (j := 38) rfl dX12_shortestOf_56 (v := (M 163 38)) (by rw [Fr.e hG_N_1 kd_163 _ rfl]) rfl ?_
          have hk_222 : kd (M 163 38) = 85 := Inv.r hI_M kd_163 rfl 38 rfl rfl
          refine kx_iload 61 F 4 dX12_shortestOf_59 rfl rfl ?_
          refine kx_iald 62 F hk_222 rfl rfl (by omega) (by decide) dX12_shortestOf_61 (v := (N_1 (M 163 38) x4_181)) rfl rfl ?_
          have h_223 := Inv.g hI_N_1 hk_222 rfl x4_181 (a := 0) (b := 1000000) rfl rfl
          refine kx_aload_n 63 F 0 dX12_shortestOf_62 rfl rfl rfl ?_
          refine kx_getr 66 F fl_X12_89 kd_163 rfl rfl (j := 39) rfl dX12_shortestOf_63 (v := (M 163 39)) (by rw [Fr.e hG_N_1 kd_163 _ rfl]) rfl ?_
          have hk_224 : kd (M 163 39) = 85 := Inv.r hI_M kd_163 rfl 39 rfl rfl
          refine kx_iload 68 F 4 dX12_shortestOf_66 rfl rfl ?_
          refine kx_iald 69 F hk_224 rfl rfl (by omega) (by decide) dX12_shortestOf_68 (v := (N_1 (M 163 39) x4_181)) rfl rfl ?_
          have h_225 := Inv.g hI_N_1 hk_224 rfl x4_181 (a := 0) (b := 1000000) rfl rfl
          refine kx_mmin 72 F dX12_shortestOf_69 (tt lm_1833 rfl) (tt lm_800 rfl) (tt lm_180 rfl) (tt lm_801 rfl) (by decide) (Nat.le_of_ble_eq_true rfl) (by omega) (by omega) rfl (fun w_226 h_227 => ?_)
          refine kx_mmin 75 F dX12_shortestOf_72 (tt lm_1833 rfl) (tt lm_800 rfl) (tt lm_180 rfl) (tt lm_801 rfl) (by decide) (Nat.le_of_ble_eq_true rfl) (by omega) (by omega) rfl (fun w_228 h_229 => ?_)
          refine kx_istore_n 76 F 3 (lo' := [some (vR G 163), some (vI a1), some (vI a2), some (vI w_228), some (vI x4_181)]) dX12_shortestOf_75 rfl (by decide) rfl rfl rfl ?_
          exact J_212 w_228 (by omega)
  exact L_182 _ 1000000 0 (by omega) rfl
set_option maxRecDepth 100000 in
theorem dGR_31_c_992 : (decode cX12_well 0 = .ok (.aload_n 0, 1)) ∧ (decode cX12_well 1 = .ok (.iload_n 1, 1)) ∧ (decode cX12_well 2 = .ok (.invokevirtual 282, 3)) ∧ (decode cX12_well 5 = .ok (.ifCond .eq 21, 3)) ∧ (decode cX12_well 8 = .ok (.aload_n 0, 1)) ∧ (decode cX12_well 9 = .ok (.iload_n 1, 1)) ∧ (decode cX12_well 10 = .ok (.iload_n 2, 1)) ∧ (decode cX12_well 11 = .ok (.invokevirtual 303, 3)) ∧ (decode cX12_well 14 = .ok (.ifCond .eq 12, 3)) ∧ (decode cX12_well 17 = .ok (.aload_n 0, 1)) ∧ (decode cX12_well 18 = .ok (.iload_n 1, 1)) ∧ (decode cX12_well 19 = .ok (.iload_n 3, 1)) := by decide +kernel
theorem dX12_well_0 : decode cX12_well 0 = .ok (.aload_n 0, 1) := dGR_31_c_992.1
theorem dX12_well_1 : decode cX12_well 1 = .ok (.iload_n 1, 1) := dGR_31_c_992.2.1
theorem dX12_well_2 : decode cX12_well 2 = .ok (.invokevirtual 282, 3) := dGR_31_c_992.2.2.1
theorem dX12_well_5 : decode cX12_well 5 = .ok (.ifCond .eq 21, 3) := dGR_31_c_992.2.2.2.1
theorem dX12_well_8 : decode cX12_well 8 = .ok (.aload_n 0, 1) := dGR_31_c_992.2.2.2.2.1
theorem dX12_well_9 : decode cX12_well 9 = .ok (.iload_n 1, 1) := dGR_31_c_992.2.2.2.2.2.1
theorem dX12_well_10 : decode cX12_well 10 = .ok (.iload_n 2, 1) := dGR_31_c_992.2.2.2.2.2.2.1
theorem dX12_well_11 : decode cX12_well 11 = .ok (.invokevirtual 303, 3) := dGR_31_c_992.2.2.2.2.2.2.2.1
theorem dX12_well_14 : decode cX12_well 14 = .ok (.ifCond .eq 12, 3) := dGR_31_c_992.2.2.2.2.2.2.2.2.1
theorem dX12_well_17 : decode cX12_well 17 = .ok (.aload_n 0, 1) := dGR_31_c_992.2.2.2.2.2.2.2.2.2.1
theorem dX12_well_18 : decode cX12_well 18 = .ok (.iload_n 1, 1) := dGR_31_c_992.2.2.2.2.2.2.2.2.2.2.1
theorem dX12_well_19 : decode cX12_well 19 = .ok (.iload_n 3, 1) := dGR_31_c_992.2.2.2.2.2.2.2.2.2.2.2
set_option maxRecDepth 100000 in
theorem dGR_31_c_993 : (decode cX12_well 20 = .ok (.invokevirtual 303, 3)) ∧ (decode cX12_well 23 = .ok (.ifCond .ne 9, 3)) ∧ (decode cX12_well 26 = .ok (.aload_n 0, 1)) ∧ (decode cX12_well 27 = .ok (.iconst 1, 1)) ∧ (decode cX12_well 28 = .ok (.invokevirtual 123, 3)) ∧ (decode cX12_well 31 = .ok (.ireturn, 1)) ∧ (decode cX12_well 32 = .ok (.aload_n 0, 1)) ∧ (decode cX12_well 33 = .ok (.iload_n 1, 1)) ∧ (decode cX12_well 34 = .ok (.iconst 2, 1)) ∧ (decode cX12_well 35 = .ok (.invokevirtual 445, 3)) ∧ (decode cX12_well 38 = .ok (.aload_n 0, 1)) ∧ (decode cX12_well 39 = .ok (.getfield 80, 3)) := by decide +kernel
theorem dX12_well_20 : decode cX12_well 20 = .ok (.invokevirtual 303, 3) := dGR_31_c_993.1
theorem dX12_well_23 : decode cX12_well 23 = .ok (.ifCond .ne 9, 3) := dGR_31_c_993.2.1
theorem dX12_well_26 : decode cX12_well 26 = .ok (.aload_n 0, 1) := dGR_31_c_993.2.2.1
theorem dX12_well_27 : decode cX12_well 27 = .ok (.iconst 1, 1) := dGR_31_c_993.2.2.2.1
theorem dX12_well_28 : decode cX12_well 28 = .ok (.invokevirtual 123, 3) := dGR_31_c_993.2.2.2.2.1
theorem dX12_well_31 : decode cX12_well 31 = .ok (.ireturn, 1) := dGR_31_c_993.2.2.2.2.2.1
theorem dX12_well_32 : decode cX12_well 32 = .ok (.aload_n 0, 1) := dGR_31_c_993.2.2.2.2.2.2.1
theorem dX12_well_33 : decode cX12_well 33 = .ok (.iload_n 1, 1) := dGR_31_c_993.2.2.2.2.2.2.2.1
theorem dX12_well_34 : decode cX12_well 34 = .ok (.iconst 2, 1) := dGR_31_c_993.2.2.2.2.2.2.2.2.1
theorem dX12_well_35 : decode cX12_well 35 = .ok (.invokevirtual 445, 3) := dGR_31_c_993.2.2.2.2.2.2.2.2.2.1
theorem dX12_well_38 : decode cX12_well 38 = .ok (.aload_n 0, 1) := dGR_31_c_993.2.2.2.2.2.2.2.2.2.2.1
theorem dX12_well_39 : decode cX12_well 39 = .ok (.getfield 80, 3) := dGR_31_c_993.2.2.2.2.2.2.2.2.2.2.2
set_option maxRecDepth 100000 in
theorem dGR_31_c_994 : (decode cX12_well 42 = .ok (.bipush 27, 2)) ∧ (decode cX12_well 44 = .ok (.iload_n 2, 1)) ∧ (decode cX12_well 45 = .ok (.imul, 1)) ∧ (decode cX12_well 46 = .ok (.iconst 3, 1)) ∧ (decode cX12_well 47 = .ok (.iload_n 3, 1)) ∧ (decode cX12_well 48 = .ok (.imul, 1)) ∧ (decode cX12_well 49 = .ok (.iadd, 1)) ∧ (decode cX12_well 50 = .ok (.iaload, 1)) ∧ (decode cX12_well 51 = .ok (.istore 4, 2)) ∧ (decode cX12_well 53 = .ok (.iload 4, 2)) ∧ (decode cX12_well 55 = .ok (.ldc_w 428, 3)) ∧ (decode cX12_well 58 = .ok (.if_icmp .lt 12, 3)) := by decide +kernel
theorem dX12_well_42 : decode cX12_well 42 = .ok (.bipush 27, 2) := dGR_31_c_994.1
theorem dX12_well_44 : decode cX12_well 44 = .ok (.iload_n 2, 1) := dGR_31_c_994.2.1
theorem dX12_well_45 : decode cX12_well 45 = .ok (.imul, 1) := dGR_31_c_994.2.2.1
theorem dX12_well_46 : decode cX12_well 46 = .ok (.iconst 3, 1) := dGR_31_c_994.2.2.2.1
theorem dX12_well_47 : decode cX12_well 47 = .ok (.iload_n 3, 1) := dGR_31_c_994.2.2.2.2.1
theorem dX12_well_48 : decode cX12_well 48 = .ok (.imul, 1) := dGR_31_c_994.2.2.2.2.2.1
theorem dX12_well_49 : decode cX12_well 49 = .ok (.iadd, 1) := dGR_31_c_994.2.2.2.2.2.2.1
theorem dX12_well_50 : decode cX12_well 50 = .ok (.iaload, 1) := dGR_31_c_994.2.2.2.2.2.2.2.1
theorem dX12_well_51 : decode cX12_well 51 = .ok (.istore 4, 2) := dGR_31_c_994.2.2.2.2.2.2.2.2.1
theorem dX12_well_53 : decode cX12_well 53 = .ok (.iload 4, 2) := dGR_31_c_994.2.2.2.2.2.2.2.2.2.1
theorem dX12_well_55 : decode cX12_well 55 = .ok (.ldc_w 428, 3) := dGR_31_c_994.2.2.2.2.2.2.2.2.2.2.1
theorem dX12_well_58 : decode cX12_well 58 = .ok (.if_icmp .lt 12, 3) := dGR_31_c_994.2.2.2.2.2.2.2.2.2.2.2
set_option maxRecDepth 100000 in
theorem dGR_31_c_995 : (decode cX12_well 61 = .ok (.aload_n 0, 1)) ∧ (decode cX12_well 62 = .ok (.bipush 6, 2)) ∧ (decode cX12_well 64 = .ok (.invokevirtual 123, 3)) ∧ (decode cX12_well 67 = .ok (.goto 9, 3)) ∧ (decode cX12_well 70 = .ok (.aload_n 0, 1)) ∧ (decode cX12_well 71 = .ok (.iload 4, 2)) ∧ (decode cX12_well 73 = .ok (.invokevirtual 127, 3)) ∧ (decode cX12_well 76 = .ok (.ireturn, 1)) := by decide +kernel
theorem dX12_well_61 : decode cX12_well 61 = .ok (.aload_n 0, 1) := dGR_31_c_995.1
theorem dX12_well_62 : decode cX12_well 62 = .ok (.bipush 6, 2) := dGR_31_c_995.2.1
theorem dX12_well_64 : decode cX12_well 64 = .ok (.invokevirtual 123, 3) := dGR_31_c_995.2.2.1
theorem dX12_well_67 : decode cX12_well 67 = .ok (.goto 9, 3) := dGR_31_c_995.2.2.2.1
theorem dX12_well_70 : decode cX12_well 70 = .ok (.aload_n 0, 1) := dGR_31_c_995.2.2.2.2.1
theorem dX12_well_71 : decode cX12_well 71 = .ok (.iload 4, 2) := dGR_31_c_995.2.2.2.2.2.1
theorem dX12_well_73 : decode cX12_well 73 = .ok (.invokevirtual 127, 3) := dGR_31_c_995.2.2.2.2.2.2.1
theorem dX12_well_76 : decode cX12_well 76 = .ok (.ireturn, 1) := dGR_31_c_995.2.2.2.2.2.2.2
abbrev f_c_X12_well : List (Nat × Int) := [(64, 2), (72, -1), (83, -1), (84, -1)]
set_option maxHeartbeats 4000000 in
set_option maxRecDepth 100000 in
theorem c_X12_well (G : KG) (l : Launch) (M : Mem) (a1 : Int) (a2 : Int) (a3 : Int) (hI_M : Inv true M) (hpre : -2147483648 ≤ a1 ∧ a1 ≤ 2147483647 ∧ -2147483648 ≤ a2 ∧ a2 ≤ 2147483647 ∧ -2147483648 ≤ a3 ∧ a3 ≤ 2147483647) : KC true G l yX12_well cX12_well 5 (some .int) (5, 115) [vR G 163, vI a1, vI a2, vI a3] M (fun A => kQi true G A (fun (r : Int) (N : Mem) => Inv true N ∧ Fr f_c_X12_well M N ∧ (r ≥ -1 ∧ r ≤ 999999))) := by
  refine kx_met (lo := [some (vR G 163), some (vI a1), some (vI a2), some (vI a3), none]) (by decide) (Nat.le_of_ble_eq_true rfl) rfl ?_
  intro X F hQ
  have hF_M : Fr f_c_X12_well M M := Fr.rf _ _
  refine kx_aload_n 1 F 0 dX12_well_0 rfl rfl rfl ?_
  refine kx_iload_n 2 F 1 dX12_well_1 rfl rfl rfl ?_
  refine kx_Vi 5 (ci := 0) F (As := [vI a1]) (st := []) vd_X12_282 (c_X12_isAutomaton G l M a1 hI_M (by omega)) kd_163 rfl rfl rfl ⟨by decide, by decide⟩ rfl rfl (Nat.le_of_ble_eq_true rfl) dX12_well_2 rfl ?_
  intro r_1 N_2 q_3
  obtain ⟨rfl, q_3c⟩ := q_3
  rcases q_3c with q_3c | q_3c
  · refine kx_if_eq 8 F 26 dX12_well_5 (by decide) rfl (by omega) (fun h_4 => (by exfalso; omega)) (fun h_4 => ?_)
    refine kx_aload_n 9 F 0 dX12_well_8 rfl rfl rfl ?_
    refine kx_iload_n 10 F 1 dX12_well_9 rfl rfl rfl ?_
    refine kx_iload_n 11 F 2 dX12_well_10 rfl rfl rfl ?_
    refine kx_Vi 14 (ci := 0) F (As := [vI a1, vI a2]) (st := []) vd_X12_303 (c_X12_isState G l M a1 a2 hI_M (by omega)) kd_163 rfl rfl rfl ⟨by decide, by decide⟩ rfl rfl (Nat.le_of_ble_eq_true rfl) dX12_well_11 rfl ?_
    intro r_5 N_6 q_7
    obtain ⟨rfl, q_7c⟩ := q_7
    rcases q_7c with q_7c | q_7c | q_7c
    · refine kx_if_eq 17 F 26 dX12_well_14 (by decide) rfl (by omega) (fun h_8 => (by exfalso; omega)) (fun h_8 => ?_)
      refine kx_aload_n 18 F 0 dX12_well_17 rfl rfl rfl ?_
      refine kx_iload_n 19 F 1 dX12_well_18 rfl rfl rfl ?_
      refine kx_iload_n 20 F 3 dX12_well_19 rfl rfl rfl ?_
      refine kx_Vi 23 (ci := 0) F (As := [vI a1, vI a3]) (st := []) vd_X12_303 (c_X12_isState G l M a1 a3 hI_M (by omega)) kd_163 rfl rfl rfl ⟨by decide, by decide⟩ rfl rfl (Nat.le_of_ble_eq_true rfl) dX12_well_20 rfl ?_
      intro r_9 N_10 q_11
      obtain ⟨rfl, q_11c⟩ := q_11
      rcases q_11c with q_11c | q_11c | q_11c
      · refine kx_if_ne 26 F 32 dX12_well_23 (by decide) rfl (by omega) (fun h_12 => ?_) (fun h_12 => (by exfalso; omega))
        refine kx_aload_n 33 F 0 dX12_well_32 rfl rfl rfl ?_
        refine kx_iload_n 34 F 1 dX12_well_33 rfl rfl rfl ?_
        refine kx_iconst 35 F dX12_well_34 rfl ?_
        refine kx_Vv 38 (ci := 0) F (As := [vI a1, vI 2]) (st := []) vd_X12_445 (c_X12_laysMatches G l M a1 2 hI_M (by omega)) kd_163 rfl rfl rfl ⟨by decide, by decide⟩ rfl rfl (Nat.le_of_ble_eq_true rfl) dX12_well_35 rfl ?_
        intro N_13 q_14
        obtain ⟨hI_N_13, hG_N_13⟩ := q_14
        have hF_N_13 : Fr f_c_X12_well M N_13 := Fr.c hF_M hG_N_13 rfl
        refine kx_aload_n 39 F 0 dX12_well_38 rfl rfl rfl ?_
        refine kx_getr 42 F fl_X12_80 kd_163 rfl rfl (j := 36) rfl dX12_well_39 (v := 183) (uq_183 (Inv.r hI_N_13 kd_163 rfl 36 rfl rfl)) rfl ?_
        refine kx_bipush 44 F dX12_well_42 (by decide) rfl ?_
        refine kx_iload_n 45 F 2 dX12_well_44 rfl rfl rfl ?_
        refine kx_imul 46 F (v := 27 * a2) dX12_well_45 (by omega) rfl ?_
        refine kx_iconst 47 F dX12_well_46 rfl ?_
        refine kx_iload_n 48 F 3 dX12_well_47 rfl rfl rfl ?_
        refine kx_imul 49 F (v := 3 * a3) dX12_well_48 (by omega) rfl ?_
        refine kx_iadd 50 F (v := 27 * a2 + 3 * a3) dX12_well_49 (by omega) rfl ?_
        refine kx_iald 51 F kd_183 rfl rfl (by omega) (by decide) dX12_well_50 (v := (N_13 183 (27 * a2 + 3 * a3))) rfl rfl ?_
        have h_15 := Inv.g hI_N_13 kd_183 rfl (27 * a2 + 3 * a3) (a := 0) (b := 1000000) rfl rfl
        refine kx_istore 53 F 4 (lo' := [some (vR G 163), some (vI a1), some (vI a2), some (vI a3), some (vI (N_13 183 (27 * a2 + 3 * a3)))]) dX12_well_51 (by decide) rfl rfl rfl ?_
        refine kx_iload 55 F 4 dX12_well_53 rfl rfl ?_
        refine kx_ldcw 58 (z := 1000000) F dX12_well_55 ct_X12_428 rfl ?_
        refine kx_icmp_lt 61 F 70 dX12_well_58 (by decide) rfl (by omega) (by decide) (fun h_16 => ?_) (fun h_16 => ?_)
        · refine kx_aload_n 71 F 0 dX12_well_70 rfl rfl rfl ?_
          refine kx_iload 73 F 4 dX12_well_71 rfl rfl ?_
          refine kx_Vi 76 (ci := 0) F (As := [vI (N_13 183 (27 * a2 + 3 * a3))]) (st := []) vd_X12_127 (c_X12_gives G l N_13 (N_13 183 (27 * a2 + 3 * a3)) hI_N_13 (by omega)) kd_163 rfl rfl rfl ⟨by decide, by decide⟩ rfl rfl (Nat.le_of_ble_eq_true rfl) dX12_well_73 rfl ?_
          intro r_17 N_18 q_19
          obtain ⟨hI_N_18, hG_N_18, q_19c⟩ := q_19
          have hF_N_18 : Fr f_c_X12_well M N_18 := Fr.c hF_N_13 hG_N_18 rfl
          refine kx_topi (e' := (N_13 183 (27 * a2 + 3 * a3))) (by omega) ?_
          exact kx_iret F hQ ⟨hI_N_18, hF_N_18, (by omega)⟩ dX12_well_76
        · refine kx_aload_n 62 F 0 dX12_well_61 rfl rfl rfl ?_
          refine kx_bipush 64 F dX12_well_62 (by decide) rfl ?_
          refine kx_Vi 67 (ci := 0) F (As := [vI 6]) (st := []) vd_X12_123 (c_X12_refuse G l N_13 6 hI_N_13 (by omega)) kd_163 rfl rfl rfl ⟨by decide, by decide⟩ rfl rfl (Nat.le_of_ble_eq_true rfl) dX12_well_64 rfl ?_
          intro r_20 N_21 q_22
          obtain ⟨hI_N_21, hG_N_21, q_22c⟩ := q_22
          have hF_N_21 : Fr f_c_X12_well M N_21 := Fr.c hF_N_13 hG_N_21 rfl
          subst q_22c
          refine kx_goto 76 F dX12_well_67 (by decide) ?_
          exact kx_iret F hQ ⟨hI_N_21, hF_N_21, (by omega)⟩ dX12_well_76
      · exfalso; omega
      · refine kx_if_ne 26 F 32 dX12_well_23 (by decide) rfl (by omega) (fun h_23 => (by exfalso; omega)) (fun h_23 => ?_)
        refine kx_aload_n 27 F 0 dX12_well_26 rfl rfl rfl ?_
        refine kx_iconst 28 F dX12_well_27 rfl ?_
        refine kx_Vi 31 (ci := 0) F (As := [vI 1]) (st := []) vd_X12_123 (c_X12_refuse G l M 1 hI_M (by omega)) kd_163 rfl rfl rfl ⟨by decide, by decide⟩ rfl rfl (Nat.le_of_ble_eq_true rfl) dX12_well_28 rfl ?_
        intro r_24 N_25 q_26
        obtain ⟨hI_N_25, hG_N_25, q_26c⟩ := q_26
        have hF_N_25 : Fr f_c_X12_well M N_25 := Fr.c hF_M hG_N_25 rfl
        subst q_26c
        exact kx_iret F hQ ⟨hI_N_25, hF_N_25, (by omega)⟩ dX12_well_31
    · exfalso; omega
    · refine kx_if_eq 17 F 26 dX12_well_14 (by decide) rfl (by omega) (fun h_27 => ?_) (fun h_27 => (by exfalso; omega))
      refine kx_aload_n 27 F 0 dX12_well_26 rfl rfl rfl ?_
      refine kx_iconst 28 F dX12_well_27 rfl ?_
      refine kx_Vi 31 (ci := 0) F (As := [vI 1]) (st := []) vd_X12_123 (c_X12_refuse G l M 1 hI_M (by omega)) kd_163 rfl rfl rfl ⟨by decide, by decide⟩ rfl rfl (Nat.le_of_ble_eq_true rfl) dX12_well_28 rfl ?_
      intro r_28 N_29 q_30
      obtain ⟨hI_N_29, hG_N_29, q_30c⟩ := q_30
      have hF_N_29 : Fr f_c_X12_well M N_29 := Fr.c hF_M hG_N_29 rfl
      subst q_30c
      exact kx_iret F hQ ⟨hI_N_29, hF_N_29, (by omega)⟩ dX12_well_31
  · refine kx_if_eq 8 F 26 dX12_well_5 (by decide) rfl (by omega) (fun h_31 => ?_) (fun h_31 => (by exfalso; omega))
    refine kx_aload_n 27 F 0 dX12_well_26 rfl rfl rfl ?_
    refine kx_iconst 28 F dX12_well_27 rfl ?_
    refine kx_Vi 31 (ci := 0) F (As := [vI 1]) (st := []) vd_X12_123 (c_X12_refuse G l M 1 hI_M (by omega)) kd_163 rfl rfl rfl ⟨by decide, by decide⟩ rfl rfl (Nat.le_of_ble_eq_true rfl) dX12_well_28 rfl ?_
    intro r_32 N_33 q_34
    obtain ⟨hI_N_33, hG_N_33, q_34c⟩ := q_34
    have hF_N_33 : Fr f_c_X12_well M N_33 := Fr.c hF_M hG_N_33 rfl
    subst q_34c
    exact kx_iret F hQ ⟨hI_N_33, hF_N_33, (by omega)⟩ dX12_well_31
set_option maxRecDepth 100000 in
theorem dGR_31_c_996 : (decode cX12_reaches 0 = .ok (.aload_n 0, 1)) ∧ (decode cX12_reaches 1 = .ok (.iload_n 1, 1)) ∧ (decode cX12_reaches 2 = .ok (.invokevirtual 282, 3)) ∧ (decode cX12_reaches 5 = .ok (.ifCond .ne 9, 3)) ∧ (decode cX12_reaches 8 = .ok (.aload_n 0, 1)) ∧ (decode cX12_reaches 9 = .ok (.iconst 1, 1)) ∧ (decode cX12_reaches 10 = .ok (.invokevirtual 123, 3)) ∧ (decode cX12_reaches 13 = .ok (.ireturn, 1)) ∧ (decode cX12_reaches 14 = .ok (.aload_n 0, 1)) ∧ (decode cX12_reaches 15 = .ok (.iload_n 1, 1)) ∧ (decode cX12_reaches 16 = .ok (.iconst 2, 1)) ∧ (decode cX12_reaches 17 = .ok (.invokevirtual 456, 3)) := by decide +kernel
theorem dX12_reaches_0 : decode cX12_reaches 0 = .ok (.aload_n 0, 1) := dGR_31_c_996.1
theorem dX12_reaches_1 : decode cX12_reaches 1 = .ok (.iload_n 1, 1) := dGR_31_c_996.2.1
theorem dX12_reaches_2 : decode cX12_reaches 2 = .ok (.invokevirtual 282, 3) := dGR_31_c_996.2.2.1
theorem dX12_reaches_5 : decode cX12_reaches 5 = .ok (.ifCond .ne 9, 3) := dGR_31_c_996.2.2.2.1
theorem dX12_reaches_8 : decode cX12_reaches 8 = .ok (.aload_n 0, 1) := dGR_31_c_996.2.2.2.2.1
theorem dX12_reaches_9 : decode cX12_reaches 9 = .ok (.iconst 1, 1) := dGR_31_c_996.2.2.2.2.2.1
theorem dX12_reaches_10 : decode cX12_reaches 10 = .ok (.invokevirtual 123, 3) := dGR_31_c_996.2.2.2.2.2.2.1
theorem dX12_reaches_13 : decode cX12_reaches 13 = .ok (.ireturn, 1) := dGR_31_c_996.2.2.2.2.2.2.2.1
theorem dX12_reaches_14 : decode cX12_reaches 14 = .ok (.aload_n 0, 1) := dGR_31_c_996.2.2.2.2.2.2.2.2.1
theorem dX12_reaches_15 : decode cX12_reaches 15 = .ok (.iload_n 1, 1) := dGR_31_c_996.2.2.2.2.2.2.2.2.2.1
theorem dX12_reaches_16 : decode cX12_reaches 16 = .ok (.iconst 2, 1) := dGR_31_c_996.2.2.2.2.2.2.2.2.2.2.1
theorem dX12_reaches_17 : decode cX12_reaches 17 = .ok (.invokevirtual 456, 3) := dGR_31_c_996.2.2.2.2.2.2.2.2.2.2.2
set_option maxRecDepth 100000 in
theorem dGR_31_c_997 : (decode cX12_reaches 20 = .ok (.iconst 0, 1)) ∧ (decode cX12_reaches 21 = .ok (.istore_n 2, 1)) ∧ (decode cX12_reaches 22 = .ok (.iconst 0, 1)) ∧ (decode cX12_reaches 23 = .ok (.istore_n 3, 1)) ∧ (decode cX12_reaches 24 = .ok (.iload_n 3, 1)) ∧ (decode cX12_reaches 25 = .ok (.iconst 3, 1)) ∧ (decode cX12_reaches 26 = .ok (.if_icmp .ge 44, 3)) ∧ (decode cX12_reaches 29 = .ok (.iload_n 2, 1)) ∧ (decode cX12_reaches 30 = .ok (.aload_n 0, 1)) ∧ (decode cX12_reaches 31 = .ok (.getfield 86, 3)) ∧ (decode cX12_reaches 34 = .ok (.iconst 3, 1)) ∧ (decode cX12_reaches 35 = .ok (.iload_n 3, 1)) := by decide +kernel
theorem dX12_reaches_20 : decode cX12_reaches 20 = .ok (.iconst 0, 1) := dGR_31_c_997.1
theorem dX12_reaches_21 : decode cX12_reaches 21 = .ok (.istore_n 2, 1) := dGR_31_c_997.2.1
theorem dX12_reaches_22 : decode cX12_reaches 22 = .ok (.iconst 0, 1) := dGR_31_c_997.2.2.1
theorem dX12_reaches_23 : decode cX12_reaches 23 = .ok (.istore_n 3, 1) := dGR_31_c_997.2.2.2.1
theorem dX12_reaches_24 : decode cX12_reaches 24 = .ok (.iload_n 3, 1) := dGR_31_c_997.2.2.2.2.1
theorem dX12_reaches_25 : decode cX12_reaches 25 = .ok (.iconst 3, 1) := dGR_31_c_997.2.2.2.2.2.1
theorem dX12_reaches_26 : decode cX12_reaches 26 = .ok (.if_icmp .ge 44, 3) := dGR_31_c_997.2.2.2.2.2.2.1
theorem dX12_reaches_29 : decode cX12_reaches 29 = .ok (.iload_n 2, 1) := dGR_31_c_997.2.2.2.2.2.2.2.1
theorem dX12_reaches_30 : decode cX12_reaches 30 = .ok (.aload_n 0, 1) := dGR_31_c_997.2.2.2.2.2.2.2.2.1
theorem dX12_reaches_31 : decode cX12_reaches 31 = .ok (.getfield 86, 3) := dGR_31_c_997.2.2.2.2.2.2.2.2.2.1
theorem dX12_reaches_34 : decode cX12_reaches 34 = .ok (.iconst 3, 1) := dGR_31_c_997.2.2.2.2.2.2.2.2.2.2.1
theorem dX12_reaches_35 : decode cX12_reaches 35 = .ok (.iload_n 3, 1) := dGR_31_c_997.2.2.2.2.2.2.2.2.2.2.2
set_option maxRecDepth 100000 in
theorem dGR_31_c_998 : (decode cX12_reaches 36 = .ok (.imul, 1)) ∧ (decode cX12_reaches 37 = .ok (.iaload, 1)) ∧ (decode cX12_reaches 38 = .ok (.aload_n 0, 1)) ∧ (decode cX12_reaches 39 = .ok (.getfield 89, 3)) ∧ (decode cX12_reaches 42 = .ok (.iconst 3, 1)) ∧ (decode cX12_reaches 43 = .ok (.iload_n 3, 1)) ∧ (decode cX12_reaches 44 = .ok (.imul, 1)) ∧ (decode cX12_reaches 45 = .ok (.iaload, 1)) ∧ (decode cX12_reaches 46 = .ok (.invokestatic 178, 3)) ∧ (decode cX12_reaches 49 = .ok (.ldc_w 428, 3)) ∧ (decode cX12_reaches 52 = .ok (.if_icmp .ge 9, 3)) ∧ (decode cX12_reaches 55 = .ok (.iconst 1, 1)) := by decide +kernel
theorem dX12_reaches_36 : decode cX12_reaches 36 = .ok (.imul, 1) := dGR_31_c_998.1
theorem dX12_reaches_37 : decode cX12_reaches 37 = .ok (.iaload, 1) := dGR_31_c_998.2.1
theorem dX12_reaches_38 : decode cX12_reaches 38 = .ok (.aload_n 0, 1) := dGR_31_c_998.2.2.1
theorem dX12_reaches_39 : decode cX12_reaches 39 = .ok (.getfield 89, 3) := dGR_31_c_998.2.2.2.1
theorem dX12_reaches_42 : decode cX12_reaches 42 = .ok (.iconst 3, 1) := dGR_31_c_998.2.2.2.2.1
theorem dX12_reaches_43 : decode cX12_reaches 43 = .ok (.iload_n 3, 1) := dGR_31_c_998.2.2.2.2.2.1
theorem dX12_reaches_44 : decode cX12_reaches 44 = .ok (.imul, 1) := dGR_31_c_998.2.2.2.2.2.2.1
theorem dX12_reaches_45 : decode cX12_reaches 45 = .ok (.iaload, 1) := dGR_31_c_998.2.2.2.2.2.2.2.1
theorem dX12_reaches_46 : decode cX12_reaches 46 = .ok (.invokestatic 178, 3) := dGR_31_c_998.2.2.2.2.2.2.2.2.1
theorem dX12_reaches_49 : decode cX12_reaches 49 = .ok (.ldc_w 428, 3) := dGR_31_c_998.2.2.2.2.2.2.2.2.2.1
theorem dX12_reaches_52 : decode cX12_reaches 52 = .ok (.if_icmp .ge 9, 3) := dGR_31_c_998.2.2.2.2.2.2.2.2.2.2.1
theorem dX12_reaches_55 : decode cX12_reaches 55 = .ok (.iconst 1, 1) := dGR_31_c_998.2.2.2.2.2.2.2.2.2.2.2
set_option maxRecDepth 100000 in
theorem dGR_31_c_999 : (decode cX12_reaches 56 = .ok (.iload_n 3, 1)) ∧ (decode cX12_reaches 57 = .ok (.ishl, 1)) ∧ (decode cX12_reaches 58 = .ok (.goto 4, 3)) ∧ (decode cX12_reaches 61 = .ok (.iconst 0, 1)) ∧ (decode cX12_reaches 62 = .ok (.ior, 1)) ∧ (decode cX12_reaches 63 = .ok (.istore_n 2, 1)) ∧ (decode cX12_reaches 64 = .ok (.iinc 3 1, 3)) ∧ (decode cX12_reaches 67 = .ok (.goto (-43), 3)) ∧ (decode cX12_reaches 70 = .ok (.aload_n 0, 1)) ∧ (decode cX12_reaches 71 = .ok (.iload_n 2, 1)) ∧ (decode cX12_reaches 72 = .ok (.invokevirtual 127, 3)) ∧ (decode cX12_reaches 75 = .ok (.ireturn, 1)) := by decide +kernel
theorem dX12_reaches_56 : decode cX12_reaches 56 = .ok (.iload_n 3, 1) := dGR_31_c_999.1
theorem dX12_reaches_57 : decode cX12_reaches 57 = .ok (.ishl, 1) := dGR_31_c_999.2.1
theorem dX12_reaches_58 : decode cX12_reaches 58 = .ok (.goto 4, 3) := dGR_31_c_999.2.2.1
theorem dX12_reaches_61 : decode cX12_reaches 61 = .ok (.iconst 0, 1) := dGR_31_c_999.2.2.2.1
theorem dX12_reaches_62 : decode cX12_reaches 62 = .ok (.ior, 1) := dGR_31_c_999.2.2.2.2.1
theorem dX12_reaches_63 : decode cX12_reaches 63 = .ok (.istore_n 2, 1) := dGR_31_c_999.2.2.2.2.2.1
theorem dX12_reaches_64 : decode cX12_reaches 64 = .ok (.iinc 3 1, 3) := dGR_31_c_999.2.2.2.2.2.2.1
theorem dX12_reaches_67 : decode cX12_reaches 67 = .ok (.goto (-43), 3) := dGR_31_c_999.2.2.2.2.2.2.2.1
theorem dX12_reaches_70 : decode cX12_reaches 70 = .ok (.aload_n 0, 1) := dGR_31_c_999.2.2.2.2.2.2.2.2.1
theorem dX12_reaches_71 : decode cX12_reaches 71 = .ok (.iload_n 2, 1) := dGR_31_c_999.2.2.2.2.2.2.2.2.2.1
theorem dX12_reaches_72 : decode cX12_reaches 72 = .ok (.invokevirtual 127, 3) := dGR_31_c_999.2.2.2.2.2.2.2.2.2.2.1
theorem dX12_reaches_75 : decode cX12_reaches 75 = .ok (.ireturn, 1) := dGR_31_c_999.2.2.2.2.2.2.2.2.2.2.2
abbrev f_c_X12_reaches : List (Nat × Int) := [(64, 2), (72, -1), (83, -1), (84, -1), (85, -1)]
set_option maxHeartbeats 4000000 in
set_option maxRecDepth 100000 in
theorem c_X12_reaches (G : KG) (l : Launch) (M : Mem) (a1 : Int) (hI_M : Inv true M) (hpre : -2147483648 ≤ a1 ∧ a1 ≤ 2147483647) : KC true G l yX12_reaches cX12_reaches 4 (some .int) (6, 140) [vR G 163, vI a1] M (fun A => kQi true G A (fun (r : Int) (N : Mem) => Inv true N ∧ Fr f_c_X12_reaches M N ∧ (r ≥ -1 ∧ r ≤ 7))) := by
  refine kx_met (lo := [some (vR G 163), some (vI a1), none, none]) (by decide) (Nat.le_of_ble_eq_true rfl) rfl ?_
  intro X F hQ
  have hF_M : Fr f_c_X12_reaches M M := Fr.rf _ _
  refine kx_aload_n 1 F 0 dX12_reaches_0 rfl rfl rfl ?_
  refine kx_iload_n 2 F 1 dX12_reaches_1 rfl rfl rfl ?_
  refine kx_Vi 5 (ci := 0) F (As := [vI a1]) (st := []) vd_X12_282 (c_X12_isAutomaton G l M a1 hI_M (by omega)) kd_163 rfl rfl rfl ⟨by decide, by decide⟩ rfl rfl (Nat.le_of_ble_eq_true rfl) dX12_reaches_2 rfl ?_
  intro r_1 N_2 q_3
  obtain ⟨rfl, q_3c⟩ := q_3
  rcases q_3c with q_3c | q_3c
  · refine kx_if_ne 8 F 14 dX12_reaches_5 (by decide) rfl (by omega) (fun h_4 => ?_) (fun h_4 => (by exfalso; omega))
    refine kx_aload_n 15 F 0 dX12_reaches_14 rfl rfl rfl ?_
    refine kx_iload_n 16 F 1 dX12_reaches_15 rfl rfl rfl ?_
    refine kx_iconst 17 F dX12_reaches_16 rfl ?_
    refine kx_Vv 20 (ci := 0) F (As := [vI a1, vI 2]) (st := []) vd_X12_456 (c_X12_laysAhead G l M a1 2 hI_M (by omega)) kd_163 rfl rfl rfl ⟨by decide, by decide⟩ rfl rfl (Nat.le_of_ble_eq_true rfl) dX12_reaches_17 rfl ?_
    intro N_5 q_6
    obtain ⟨hI_N_5, hG_N_5⟩ := q_6
    have hF_N_5 : Fr f_c_X12_reaches M N_5 := Fr.c hF_M hG_N_5 rfl
    refine kx_iconst 21 F dX12_reaches_20 rfl ?_
    refine kx_istore_n 22 F 2 (lo' := [some (vR G 163), some (vI a1), some (vI 0), none]) dX12_reaches_21 rfl (by decide) rfl rfl rfl ?_
    refine kx_iconst 23 F dX12_reaches_22 rfl ?_
    refine kx_istore_n 24 F 3 (lo' := [some (vR G 163), some (vI a1), some (vI 0), some (vI 0)]) dX12_reaches_23 rfl (by decide) rfl rfl rfl ?_
    have L_64 : ∀ (n_65 : Nat) (x2_62 : Int) (x3_63 : Int), 0 ≤ x2_62 ∧ x2_62 ≤ 7 ∧ 0 ≤ x3_63 ∧ x3_63 ≤ 3 → (3 - (x3_63)).toNat = n_65 → KJ true G X N_5 24 [some (vR G 163), none, some (vI x2_62), some (vI x3_63)] [] := by
      intro n_65
      refine Nat.strongRecOn n_65 ?_
      intro n_65 ih_66 x2_62 x3_63 h_67 hm_68
      refine kx_iload_n 25 F 3 dX12_reaches_24 rfl rfl rfl ?_
      refine kx_iconst 26 F dX12_reaches_25 rfl ?_
      refine kx_icmp_ge 29 F 70 dX12_reaches_26 (by decide) rfl (by omega) (by decide) (fun h_69 => ?_) (fun h_69 => ?_)
      · refine kx_aload_n 71 F 0 dX12_reaches_70 rfl rfl rfl ?_
        refine kx_iload_n 72 F 2 dX12_reaches_71 rfl rfl rfl ?_
        refine kx_Vi 75 (ci := 0) F (As := [vI x2_62]) (st := []) vd_X12_127 (c_X12_gives G l N_5 x2_62 hI_N_5 (by omega)) kd_163 rfl rfl rfl ⟨by decide, by decide⟩ rfl rfl (Nat.le_of_ble_eq_true rfl) dX12_reaches_72 rfl ?_
        intro r_70 N_71 q_72
        obtain ⟨hI_N_71, hG_N_71, q_72c⟩ := q_72
        have hF_N_71 : Fr f_c_X12_reaches M N_71 := Fr.c hF_N_5 hG_N_71 rfl
        refine kx_topi (e' := x2_62) (by omega) ?_
        exact kx_iret F hQ ⟨hI_N_71, hF_N_71, (by omega)⟩ dX12_reaches_75
      · refine kx_iload_n 30 F 2 dX12_reaches_29 rfl rfl rfl ?_
        refine kx_aload_n 31 F 0 dX12_reaches_30 rfl rfl rfl ?_
        refine kx_getr 34 F fl_X12_86 kd_163 rfl rfl (j := 38) rfl dX12_reaches_31 (v := (M 163 38)) (by rw [Fr.e hG_N_5 kd_163 _ rfl]) rfl ?_
        have hk_73 : kd (M 163 38) = 85 := Inv.r hI_M kd_163 rfl 38 rfl rfl
        refine kx_iconst 35 F dX12_reaches_34 rfl ?_
        refine kx_iload_n 36 F 3 dX12_reaches_35 rfl rfl rfl ?_
        refine kx_imul 37 F (v := 3 * x3_63) dX12_reaches_36 (by omega) rfl ?_
        refine kx_iald 38 F hk_73 rfl rfl (by omega) (by decide) dX12_reaches_37 (v := (N_5 (M 163 38) (3 * x3_63))) rfl rfl ?_
        have h_74 := Inv.g hI_N_5 hk_73 rfl (3 * x3_63) (a := 0) (b := 1000000) rfl rfl
        refine kx_aload_n 39 F 0 dX12_reaches_38 rfl rfl rfl ?_
        refine kx_getr 42 F fl_X12_89 kd_163 rfl rfl (j := 39) rfl dX12_reaches_39 (v := (M 163 39)) (by rw [Fr.e hG_N_5 kd_163 _ rfl]) rfl ?_
        have hk_75 : kd (M 163 39) = 85 := Inv.r hI_M kd_163 rfl 39 rfl rfl
        refine kx_iconst 43 F dX12_reaches_42 rfl ?_
        refine kx_iload_n 44 F 3 dX12_reaches_43 rfl rfl rfl ?_
        refine kx_imul 45 F (v := 3 * x3_63) dX12_reaches_44 (by omega) rfl ?_
        refine kx_iald 46 F hk_75 rfl rfl (by omega) (by decide) dX12_reaches_45 (v := (N_5 (M 163 39) (3 * x3_63))) rfl rfl ?_
        have h_76 := Inv.g hI_N_5 hk_75 rfl (3 * x3_63) (a := 0) (b := 1000000) rfl rfl
        refine kx_mmin 49 F dX12_reaches_46 (tt lm_1833 rfl) (tt lm_800 rfl) (tt lm_180 rfl) (tt lm_801 rfl) (by decide) (Nat.le_of_ble_eq_true rfl) (by omega) (by omega) rfl (fun w_77 h_78 => ?_)
        refine kx_ldcw 52 (z := 1000000) F dX12_reaches_49 ct_X12_428 rfl ?_
        have J_84 : ∀ (y0_83 : Int), 0 ≤ y0_83 ∧ y0_83 ≤ 4 → KJ true G X N_5 62 [some (vR G 163), none, none, some (vI x3_63)] [vI y0_83, vI x2_62] := by
          intro y0_83 h_85
          refine kx_ior 63 F (v := (zor x2_62 y0_83)) dX12_reaches_62 rfl rfl ?_
          have h_86 : 0 ≤ (zor x2_62 y0_83) ∧ (zor x2_62 y0_83) < 8 := zor_lt (a := x2_62) (b := y0_83) 3 (by decide) (by omega) (by omega)
          refine kx_istore_n 64 F 2 (lo' := [some (vR G 163), none, some (vI (zor x2_62 y0_83)), some (vI x3_63)]) dX12_reaches_63 rfl (by decide) rfl rfl rfl ?_
          refine kx_iinc 67 F 3 (v := x3_63 + 1) (lo' := [some (vR G 163), none, some (vI (zor x2_62 y0_83)), some (vI (x3_63 + 1))]) dX12_reaches_64 rfl (by omega) (by decide) rfl rfl rfl ?_
          refine kx_goto 24 F dX12_reaches_67 (by decide) ?_
          exact ih_66 _ (by omega) (zor x2_62 y0_83) (x3_63 + 1) (by omega) rfl
        refine kx_icmp_ge 55 F 61 dX12_reaches_52 (by decide) rfl (by omega) (by decide) (fun h_87 => ?_) (fun h_87 => ?_)
        · refine kx_iconst 62 F dX12_reaches_61 rfl ?_
          refine kx_drop 2 (lo' := [some (vR G 163), none, none, some (vI x3_63)]) rfl ?_
          exact J_84 0 (by omega)
        · refine kx_iconst 56 F dX12_reaches_55 rfl ?_
          refine kx_iload_n 57 F 3 dX12_reaches_56 rfl rfl rfl ?_
          refine kx_ishl 58 F (v := (zshl 1 x3_63)) dX12_reaches_57 rfl rfl ?_
          have h_88 := zshl_1 (b := x3_63) 2 (by decide) (by omega)
          refine kx_goto 62 F dX12_reaches_58 (by decide) ?_
          refine kx_drop 2 (lo' := [some (vR G 163), none, none, some (vI x3_63)]) rfl ?_
          exact J_84 (zshl 1 x3_63) (by omega)
    refine kx_drop 1 (lo' := [some (vR G 163), none, some (vI 0), some (vI 0)]) rfl ?_
    exact L_64 _ 0 0 (by omega) rfl
  · refine kx_if_ne 8 F 14 dX12_reaches_5 (by decide) rfl (by omega) (fun h_89 => (by exfalso; omega)) (fun h_89 => ?_)
    refine kx_aload_n 9 F 0 dX12_reaches_8 rfl rfl rfl ?_
    refine kx_iconst 10 F dX12_reaches_9 rfl ?_
    refine kx_Vi 13 (ci := 0) F (As := [vI 1]) (st := []) vd_X12_123 (c_X12_refuse G l M 1 hI_M (by omega)) kd_163 rfl rfl rfl ⟨by decide, by decide⟩ rfl rfl (Nat.le_of_ble_eq_true rfl) dX12_reaches_10 rfl ?_
    intro r_90 N_91 q_92
    obtain ⟨hI_N_91, hG_N_91, q_92c⟩ := q_92
    have hF_N_91 : Fr f_c_X12_reaches M N_91 := Fr.c hF_M hG_N_91 rfl
    subst q_92c
    exact kx_iret F hQ ⟨hI_N_91, hF_N_91, (by omega)⟩ dX12_reaches_13
set_option maxRecDepth 100000 in
theorem dGR_31_c_1000 : (decode cX12_spread 0 = .ok (.iload_n 2, 1)) ∧ (decode cX12_spread 1 = .ok (.istore 6, 2)) ∧ (decode cX12_spread 3 = .ok (.iconst (-1), 1)) ∧ (decode cX12_spread 4 = .ok (.istore 7, 2)) ∧ (decode cX12_spread 6 = .ok (.iload 6, 2)) ∧ (decode cX12_spread 8 = .ok (.iload 7, 2)) ∧ (decode cX12_spread 10 = .ok (.if_icmp .eq 121, 3)) ∧ (decode cX12_spread 13 = .ok (.iload 6, 2)) ∧ (decode cX12_spread 15 = .ok (.istore 7, 2)) ∧ (decode cX12_spread 17 = .ok (.iload 6, 2)) ∧ (decode cX12_spread 19 = .ok (.iload 6, 2)) ∧ (decode cX12_spread 21 = .ok (.iload_n 3, 1)) := by decide +kernel
theorem dX12_spread_0 : decode cX12_spread 0 = .ok (.iload_n 2, 1) := dGR_31_c_1000.1
theorem dX12_spread_1 : decode cX12_spread 1 = .ok (.istore 6, 2) := dGR_31_c_1000.2.1
theorem dX12_spread_3 : decode cX12_spread 3 = .ok (.iconst (-1), 1) := dGR_31_c_1000.2.2.1
theorem dX12_spread_4 : decode cX12_spread 4 = .ok (.istore 7, 2) := dGR_31_c_1000.2.2.2.1
theorem dX12_spread_6 : decode cX12_spread 6 = .ok (.iload 6, 2) := dGR_31_c_1000.2.2.2.2.1
theorem dX12_spread_8 : decode cX12_spread 8 = .ok (.iload 7, 2) := dGR_31_c_1000.2.2.2.2.2.1
theorem dX12_spread_10 : decode cX12_spread 10 = .ok (.if_icmp .eq 121, 3) := dGR_31_c_1000.2.2.2.2.2.2.1
theorem dX12_spread_13 : decode cX12_spread 13 = .ok (.iload 6, 2) := dGR_31_c_1000.2.2.2.2.2.2.2.1
theorem dX12_spread_15 : decode cX12_spread 15 = .ok (.istore 7, 2) := dGR_31_c_1000.2.2.2.2.2.2.2.2.1
theorem dX12_spread_17 : decode cX12_spread 17 = .ok (.iload 6, 2) := dGR_31_c_1000.2.2.2.2.2.2.2.2.2.1
theorem dX12_spread_19 : decode cX12_spread 19 = .ok (.iload 6, 2) := dGR_31_c_1000.2.2.2.2.2.2.2.2.2.2.1
theorem dX12_spread_21 : decode cX12_spread 21 = .ok (.iload_n 3, 1) := dGR_31_c_1000.2.2.2.2.2.2.2.2.2.2.2
set_option maxRecDepth 100000 in
theorem dGR_31_c_1001 : (decode cX12_spread 22 = .ok (.invokestatic 332, 3)) ∧ (decode cX12_spread 25 = .ok (.ior, 1)) ∧ (decode cX12_spread 26 = .ok (.istore 6, 2)) ∧ (decode cX12_spread 28 = .ok (.iconst 0, 1)) ∧ (decode cX12_spread 29 = .ok (.istore 8, 2)) ∧ (decode cX12_spread 31 = .ok (.iload 8, 2)) ∧ (decode cX12_spread 33 = .ok (.aload_n 0, 1)) ∧ (decode cX12_spread 34 = .ok (.getfield 7, 3)) ∧ (decode cX12_spread 37 = .ok (.iconst 0, 1)) ∧ (decode cX12_spread 38 = .ok (.iaload, 1)) ∧ (decode cX12_spread 39 = .ok (.if_icmp .ge 33, 3)) ∧ (decode cX12_spread 42 = .ok (.iload 5, 2)) := by decide +kernel
theorem dX12_spread_22 : decode cX12_spread 22 = .ok (.invokestatic 332, 3) := dGR_31_c_1001.1
theorem dX12_spread_25 : decode cX12_spread 25 = .ok (.ior, 1) := dGR_31_c_1001.2.1
theorem dX12_spread_26 : decode cX12_spread 26 = .ok (.istore 6, 2) := dGR_31_c_1001.2.2.1
theorem dX12_spread_28 : decode cX12_spread 28 = .ok (.iconst 0, 1) := dGR_31_c_1001.2.2.2.1
theorem dX12_spread_29 : decode cX12_spread 29 = .ok (.istore 8, 2) := dGR_31_c_1001.2.2.2.2.1
theorem dX12_spread_31 : decode cX12_spread 31 = .ok (.iload 8, 2) := dGR_31_c_1001.2.2.2.2.2.1
theorem dX12_spread_33 : decode cX12_spread 33 = .ok (.aload_n 0, 1) := dGR_31_c_1001.2.2.2.2.2.2.1
theorem dX12_spread_34 : decode cX12_spread 34 = .ok (.getfield 7, 3) := dGR_31_c_1001.2.2.2.2.2.2.2.1
theorem dX12_spread_37 : decode cX12_spread 37 = .ok (.iconst 0, 1) := dGR_31_c_1001.2.2.2.2.2.2.2.2.1
theorem dX12_spread_38 : decode cX12_spread 38 = .ok (.iaload, 1) := dGR_31_c_1001.2.2.2.2.2.2.2.2.2.1
theorem dX12_spread_39 : decode cX12_spread 39 = .ok (.if_icmp .ge 33, 3) := dGR_31_c_1001.2.2.2.2.2.2.2.2.2.2.1
theorem dX12_spread_42 : decode cX12_spread 42 = .ok (.iload 5, 2) := dGR_31_c_1001.2.2.2.2.2.2.2.2.2.2.2
set_option maxRecDepth 100000 in
theorem dGR_31_c_1002 : (decode cX12_spread 44 = .ok (.ifCond .eq 28, 3)) ∧ (decode cX12_spread 47 = .ok (.iload 6, 2)) ∧ (decode cX12_spread 49 = .ok (.iload 6, 2)) ∧ (decode cX12_spread 51 = .ok (.aload_n 0, 1)) ∧ (decode cX12_spread 52 = .ok (.iload_n 1, 1)) ∧ (decode cX12_spread 53 = .ok (.iload 8, 2)) ∧ (decode cX12_spread 55 = .ok (.bipush 7, 2)) ∧ (decode cX12_spread 57 = .ok (.invokevirtual 323, 3)) ∧ (decode cX12_spread 60 = .ok (.invokestatic 332, 3)) ∧ (decode cX12_spread 63 = .ok (.ior, 1)) ∧ (decode cX12_spread 64 = .ok (.istore 6, 2)) ∧ (decode cX12_spread 66 = .ok (.iinc 8 1, 3)) := by decide +kernel
theorem dX12_spread_44 : decode cX12_spread 44 = .ok (.ifCond .eq 28, 3) := dGR_31_c_1002.1
theorem dX12_spread_47 : decode cX12_spread 47 = .ok (.iload 6, 2) := dGR_31_c_1002.2.1
theorem dX12_spread_49 : decode cX12_spread 49 = .ok (.iload 6, 2) := dGR_31_c_1002.2.2.1
theorem dX12_spread_51 : decode cX12_spread 51 = .ok (.aload_n 0, 1) := dGR_31_c_1002.2.2.2.1
theorem dX12_spread_52 : decode cX12_spread 52 = .ok (.iload_n 1, 1) := dGR_31_c_1002.2.2.2.2.1
theorem dX12_spread_53 : decode cX12_spread 53 = .ok (.iload 8, 2) := dGR_31_c_1002.2.2.2.2.2.1
theorem dX12_spread_55 : decode cX12_spread 55 = .ok (.bipush 7, 2) := dGR_31_c_1002.2.2.2.2.2.2.1
theorem dX12_spread_57 : decode cX12_spread 57 = .ok (.invokevirtual 323, 3) := dGR_31_c_1002.2.2.2.2.2.2.2.1
theorem dX12_spread_60 : decode cX12_spread 60 = .ok (.invokestatic 332, 3) := dGR_31_c_1002.2.2.2.2.2.2.2.2.1
theorem dX12_spread_63 : decode cX12_spread 63 = .ok (.ior, 1) := dGR_31_c_1002.2.2.2.2.2.2.2.2.2.1
theorem dX12_spread_64 : decode cX12_spread 64 = .ok (.istore 6, 2) := dGR_31_c_1002.2.2.2.2.2.2.2.2.2.2.1
theorem dX12_spread_66 : decode cX12_spread 66 = .ok (.iinc 8 1, 3) := dGR_31_c_1002.2.2.2.2.2.2.2.2.2.2.2
set_option maxRecDepth 100000 in
theorem dGR_31_c_1003 : (decode cX12_spread 69 = .ok (.goto (-38), 3)) ∧ (decode cX12_spread 72 = .ok (.aload_n 0, 1)) ∧ (decode cX12_spread 73 = .ok (.getfield 7, 3)) ∧ (decode cX12_spread 76 = .ok (.iconst 0, 1)) ∧ (decode cX12_spread 77 = .ok (.iaload, 1)) ∧ (decode cX12_spread 78 = .ok (.istore 8, 2)) ∧ (decode cX12_spread 80 = .ok (.iload 8, 2)) ∧ (decode cX12_spread 82 = .ok (.aload_n 0, 1)) ∧ (decode cX12_spread 83 = .ok (.getfield 7, 3)) ∧ (decode cX12_spread 86 = .ok (.iconst 0, 1)) ∧ (decode cX12_spread 87 = .ok (.iaload, 1)) ∧ (decode cX12_spread 88 = .ok (.aload_n 0, 1)) := by decide +kernel
theorem dX12_spread_69 : decode cX12_spread 69 = .ok (.goto (-38), 3) := dGR_31_c_1003.1
theorem dX12_spread_72 : decode cX12_spread 72 = .ok (.aload_n 0, 1) := dGR_31_c_1003.2.1
theorem dX12_spread_73 : decode cX12_spread 73 = .ok (.getfield 7, 3) := dGR_31_c_1003.2.2.1
theorem dX12_spread_76 : decode cX12_spread 76 = .ok (.iconst 0, 1) := dGR_31_c_1003.2.2.2.1
theorem dX12_spread_77 : decode cX12_spread 77 = .ok (.iaload, 1) := dGR_31_c_1003.2.2.2.2.1
theorem dX12_spread_78 : decode cX12_spread 78 = .ok (.istore 8, 2) := dGR_31_c_1003.2.2.2.2.2.1
theorem dX12_spread_80 : decode cX12_spread 80 = .ok (.iload 8, 2) := dGR_31_c_1003.2.2.2.2.2.2.1
theorem dX12_spread_82 : decode cX12_spread 82 = .ok (.aload_n 0, 1) := dGR_31_c_1003.2.2.2.2.2.2.2.1
theorem dX12_spread_83 : decode cX12_spread 83 = .ok (.getfield 7, 3) := dGR_31_c_1003.2.2.2.2.2.2.2.2.1
theorem dX12_spread_86 : decode cX12_spread 86 = .ok (.iconst 0, 1) := dGR_31_c_1003.2.2.2.2.2.2.2.2.2.1
theorem dX12_spread_87 : decode cX12_spread 87 = .ok (.iaload, 1) := dGR_31_c_1003.2.2.2.2.2.2.2.2.2.2.1
theorem dX12_spread_88 : decode cX12_spread 88 = .ok (.aload_n 0, 1) := dGR_31_c_1003.2.2.2.2.2.2.2.2.2.2.2
set_option maxRecDepth 100000 in
theorem dGR_31_c_1004 : (decode cX12_spread 89 = .ok (.getfield 7, 3)) ∧ (decode cX12_spread 92 = .ok (.iconst 1, 1)) ∧ (decode cX12_spread 93 = .ok (.iaload, 1)) ∧ (decode cX12_spread 94 = .ok (.iadd, 1)) ∧ (decode cX12_spread 95 = .ok (.if_icmp .ge 33, 3)) ∧ (decode cX12_spread 98 = .ok (.iload 4, 2)) ∧ (decode cX12_spread 100 = .ok (.ifCond .eq 28, 3)) ∧ (decode cX12_spread 103 = .ok (.iload 6, 2)) ∧ (decode cX12_spread 105 = .ok (.iload 6, 2)) ∧ (decode cX12_spread 107 = .ok (.aload_n 0, 1)) ∧ (decode cX12_spread 108 = .ok (.iload_n 1, 1)) ∧ (decode cX12_spread 109 = .ok (.iload 8, 2)) := by decide +kernel
theorem dX12_spread_89 : decode cX12_spread 89 = .ok (.getfield 7, 3) := dGR_31_c_1004.1
theorem dX12_spread_92 : decode cX12_spread 92 = .ok (.iconst 1, 1) := dGR_31_c_1004.2.1
theorem dX12_spread_93 : decode cX12_spread 93 = .ok (.iaload, 1) := dGR_31_c_1004.2.2.1
theorem dX12_spread_94 : decode cX12_spread 94 = .ok (.iadd, 1) := dGR_31_c_1004.2.2.2.1
theorem dX12_spread_95 : decode cX12_spread 95 = .ok (.if_icmp .ge 33, 3) := dGR_31_c_1004.2.2.2.2.1
theorem dX12_spread_98 : decode cX12_spread 98 = .ok (.iload 4, 2) := dGR_31_c_1004.2.2.2.2.2.1
theorem dX12_spread_100 : decode cX12_spread 100 = .ok (.ifCond .eq 28, 3) := dGR_31_c_1004.2.2.2.2.2.2.1
theorem dX12_spread_103 : decode cX12_spread 103 = .ok (.iload 6, 2) := dGR_31_c_1004.2.2.2.2.2.2.2.1
theorem dX12_spread_105 : decode cX12_spread 105 = .ok (.iload 6, 2) := dGR_31_c_1004.2.2.2.2.2.2.2.2.1
theorem dX12_spread_107 : decode cX12_spread 107 = .ok (.aload_n 0, 1) := dGR_31_c_1004.2.2.2.2.2.2.2.2.2.1
theorem dX12_spread_108 : decode cX12_spread 108 = .ok (.iload_n 1, 1) := dGR_31_c_1004.2.2.2.2.2.2.2.2.2.2.1
theorem dX12_spread_109 : decode cX12_spread 109 = .ok (.iload 8, 2) := dGR_31_c_1004.2.2.2.2.2.2.2.2.2.2.2
set_option maxRecDepth 100000 in
theorem dGR_31_c_1005 : (decode cX12_spread 111 = .ok (.bipush 8, 2)) ∧ (decode cX12_spread 113 = .ok (.invokevirtual 323, 3)) ∧ (decode cX12_spread 116 = .ok (.invokestatic 332, 3)) ∧ (decode cX12_spread 119 = .ok (.ior, 1)) ∧ (decode cX12_spread 120 = .ok (.istore 6, 2)) ∧ (decode cX12_spread 122 = .ok (.iinc 8 1, 3)) ∧ (decode cX12_spread 125 = .ok (.goto (-45), 3)) ∧ (decode cX12_spread 128 = .ok (.goto (-122), 3)) ∧ (decode cX12_spread 131 = .ok (.iload 6, 2)) ∧ (decode cX12_spread 133 = .ok (.ireturn, 1)) := by decide +kernel
theorem dX12_spread_111 : decode cX12_spread 111 = .ok (.bipush 8, 2) := dGR_31_c_1005.1
theorem dX12_spread_113 : decode cX12_spread 113 = .ok (.invokevirtual 323, 3) := dGR_31_c_1005.2.1
theorem dX12_spread_116 : decode cX12_spread 116 = .ok (.invokestatic 332, 3) := dGR_31_c_1005.2.2.1
theorem dX12_spread_119 : decode cX12_spread 119 = .ok (.ior, 1) := dGR_31_c_1005.2.2.2.1
theorem dX12_spread_120 : decode cX12_spread 120 = .ok (.istore 6, 2) := dGR_31_c_1005.2.2.2.2.1
theorem dX12_spread_122 : decode cX12_spread 122 = .ok (.iinc 8 1, 3) := dGR_31_c_1005.2.2.2.2.2.1
theorem dX12_spread_125 : decode cX12_spread 125 = .ok (.goto (-45), 3) := dGR_31_c_1005.2.2.2.2.2.2.1
theorem dX12_spread_128 : decode cX12_spread 128 = .ok (.goto (-122), 3) := dGR_31_c_1005.2.2.2.2.2.2.2.1
theorem dX12_spread_131 : decode cX12_spread 131 = .ok (.iload 6, 2) := dGR_31_c_1005.2.2.2.2.2.2.2.2.1
theorem dX12_spread_133 : decode cX12_spread 133 = .ok (.ireturn, 1) := dGR_31_c_1005.2.2.2.2.2.2.2.2.2
set_option maxHeartbeats 4000000 in
set_option maxRecDepth 100000 in
theorem c_X12_spread (G : KG) (l : Launch) (M : Mem) (a1 : Int) (a2 : Int) (a3 : Int) (a4 : Int) (a5 : Int) (hI_M : Inv true M) (hpre : -2147483648 ≤ a1 ∧ a1 ≤ 2147483647 ∧ -2147483648 ≤ a2 ∧ a2 ≤ 2147483647 ∧ -2147483648 ≤ a3 ∧ a3 ≤ 2147483647 ∧ 0 ≤ a4 ∧ a4 ≤ 1 ∧ 0 ≤ a5 ∧ a5 ≤ 1 ∧ 0 ≤ a1 ∧ a1 ≤ 2 ∧ 0 ≤ a2 ∧ a2 ≤ 7) : KC true G l yX12_spread cX12_spread 9 (some .int) (2, 49) [vR G 163, vI a1, vI a2, vI a3, vI a4, vI a5] M (fun A => kQi true G A (fun (r : Int) (N : Mem) => M = N ∧ (0 ≤ r ∧ r ≤ 7))) := by
  refine kx_met (lo := [some (vR G 163), some (vI a1), some (vI a2), some (vI a3), some (vI a4), some (vI a5), none, none, none]) (by decide) (Nat.le_of_ble_eq_true rfl) rfl ?_
  intro X F hQ
  refine kx_iload_n 1 F 2 dX12_spread_0 rfl rfl rfl ?_
  refine kx_istore 3 F 6 (lo' := [some (vR G 163), some (vI a1), some (vI a2), some (vI a3), some (vI a4), some (vI a5), some (vI a2), none, none]) dX12_spread_1 (by decide) rfl rfl rfl ?_
  refine kx_iconst 4 F dX12_spread_3 rfl ?_
  refine kx_istore 6 F 7 (lo' := [some (vR G 163), some (vI a1), some (vI a2), some (vI a3), some (vI a4), some (vI a5), some (vI a2), some (vI (-1)), none]) dX12_spread_4 (by decide) rfl rfl rfl ?_
  have L_560 : ∀ (n_561 : Nat) (x6_558 : Int) (x7_559 : Int), 0 ≤ x6_558 ∧ x6_558 ≤ 7 ∧ (-1) ≤ x7_559 ∧ x7_559 ≤ 7 ∧ x7_559 ≤ x6_558 → (7 - (x7_559)).toNat = n_561 → KJ true G X M 6 [some (vR G 163), some (vI a1), none, some (vI a3), some (vI a4), some (vI a5), some (vI x6_558), some (vI x7_559), none] [] := by
    intro n_561
    refine Nat.strongRecOn n_561 ?_
    intro n_561 ih_562 x6_558 x7_559 h_563 hm_564
    refine kx_iload 8 F 6 dX12_spread_6 rfl rfl ?_
    refine kx_iload 10 F 7 dX12_spread_8 rfl rfl ?_
    refine kx_icmp_eq 13 F 131 dX12_spread_10 (by decide) rfl (by omega) (by omega) (fun h_565 => ?_) (fun h_565 => ?_)
    · refine kx_iload 133 F 6 dX12_spread_131 rfl rfl ?_
      exact kx_iret F hQ ⟨rfl, (by omega)⟩ dX12_spread_133
    · refine kx_iload 15 F 6 dX12_spread_13 rfl rfl ?_
      refine kx_istore 17 F 7 (lo' := [some (vR G 163), some (vI a1), none, some (vI a3), some (vI a4), some (vI a5), some (vI x6_558), some (vI x6_558), none]) dX12_spread_15 (by decide) rfl rfl rfl ?_
      refine kx_iload 19 F 6 dX12_spread_17 rfl rfl ?_
      refine kx_iload 21 F 6 dX12_spread_19 rfl rfl ?_
      refine kx_iload_n 22 F 3 dX12_spread_21 rfl rfl rfl ?_
      refine kx_Si 25 F (As := [vI x6_558, vI a3]) (st := [vI x6_558]) sd_X12_332 (c_X12_image G l M x6_558 a3 hI_M (by omega)) ⟨by decide, by decide⟩ rfl rfl (Nat.le_of_ble_eq_true rfl) dX12_spread_22 rfl ?_
      intro r_566 N_567 q_568
      obtain ⟨rfl, q_568c⟩ := q_568
      refine kx_ior 26 F (v := (zor x6_558 r_566)) dX12_spread_25 rfl rfl ?_
      have h_570 := zor_ge (a := x6_558) (b := r_566) (by omega) (by omega)
      have h_569 : 0 ≤ (zor x6_558 r_566) ∧ (zor x6_558 r_566) < 8 := zor_lt (a := x6_558) (b := r_566) 3 (by decide) (by omega) (by omega)
      refine kx_istore 28 F 6 (lo' := [some (vR G 163), some (vI a1), none, some (vI a3), some (vI a4), some (vI a5), some (vI (zor x6_558 r_566)), some (vI x6_558), none]) dX12_spread_26 (by decide) rfl rfl rfl ?_
      refine kx_iconst 29 F dX12_spread_28 rfl ?_
      refine kx_istore 31 F 8 (lo' := [some (vR G 163), some (vI a1), none, some (vI a3), some (vI a4), some (vI a5), some (vI (zor x6_558 r_566)), some (vI x6_558), some (vI 0)]) dX12_spread_29 (by decide) rfl rfl rfl ?_
      have L_981 : ∀ (n_982 : Nat) (x6_979 : Int) (x8_980 : Int), 0 ≤ x6_979 ∧ x6_979 ≤ 7 ∧ 0 ≤ x8_980 ∧ x8_980 ≤ 2 ∧ x6_558 ≤ x6_979 → (2 - (x8_980)).toNat = n_982 → KJ true G X M 31 [some (vR G 163), some (vI a1), none, some (vI a3), some (vI a4), some (vI a5), some (vI x6_979), some (vI x6_558), some (vI x8_980)] [] := by
        intro n_982
        refine Nat.strongRecOn n_982 ?_
        intro n_982 ih_983 x6_979 x8_980 h_984 hm_985
        refine kx_iload 33 F 8 dX12_spread_31 rfl rfl ?_
        refine kx_aload_n 34 F 0 dX12_spread_33 rfl rfl rfl ?_
        refine kx_getr 37 F fl_X12_7 kd_163 rfl rfl (j := 0) rfl dX12_spread_34 (v := 164) (uq_164 (Inv.r hI_M kd_163 rfl 0 rfl rfl)) rfl ?_
        refine kx_iconst 38 F dX12_spread_37 rfl ?_
        refine kx_iald 39 F kd_164 rfl rfl (by omega) (by decide) dX12_spread_38 (v := (M 164 0)) rfl rfl ?_
        have ha_986 : atlo 0 = 0 ∧ athi 0 = 2 := at_c 0 0 (o := 0) (lo := 0) (hi := 2) (by omega) (by decide) (by decide) (by decide)
        have h_987 := Inv.g hI_M kd_164 rfl 0 (a := 0) (b := 2) ha_986.1 ha_986.2
        refine kx_icmp_ge 42 F 72 dX12_spread_39 (by decide) rfl (by omega) (by omega) (fun h_988 => ?_) (fun h_988 => ?_)
        · refine kx_aload_n 73 F 0 dX12_spread_72 rfl rfl rfl ?_
          refine kx_getr 76 F fl_X12_7 kd_163 rfl rfl (j := 0) rfl dX12_spread_73 (v := 164) (uq_164 (Inv.r hI_M kd_163 rfl 0 rfl rfl)) rfl ?_
          refine kx_iconst 77 F dX12_spread_76 rfl ?_
          refine kx_iald 78 F kd_164 rfl rfl (by omega) (by decide) dX12_spread_77 (v := (M 164 0)) rfl rfl ?_
          refine kx_istore 80 F 8 (lo' := [some (vR G 163), some (vI a1), none, some (vI a3), some (vI a4), some (vI a5), some (vI x6_979), some (vI x6_558), some (vI (M 164 0))]) dX12_spread_78 (by decide) rfl rfl rfl ?_
          have L_1033 : ∀ (n_1034 : Nat) (x6_1031 : Int) (x8_1032 : Int), 0 ≤ x6_1031 ∧ x6_1031 ≤ 7 ∧ 0 ≤ x8_1032 ∧ x8_1032 ≤ 4 ∧ x6_558 ≤ x6_1031 ∧ (M 164 0) ≤ x8_1032 → (4 - (x8_1032)).toNat = n_1034 → KJ true G X M 80 [some (vR G 163), some (vI a1), none, some (vI a3), some (vI a4), some (vI a5), some (vI x6_1031), some (vI x6_558), some (vI x8_1032)] [] := by
            intro n_1034
            refine Nat.strongRecOn n_1034 ?_
            intro n_1034 ih_1035 x6_1031 x8_1032 h_1036 hm_1037
            refine kx_iload 82 F 8 dX12_spread_80 rfl rfl ?_
            refine kx_aload_n 83 F 0 dX12_spread_82 rfl rfl rfl ?_
            refine kx_getr 86 F fl_X12_7 kd_163 rfl rfl (j := 0) rfl dX12_spread_83 (v := 164) (uq_164 (Inv.r hI_M kd_163 rfl 0 rfl rfl)) rfl ?_
            refine kx_iconst 87 F dX12_spread_86 rfl ?_
            refine kx_iald 88 F kd_164 rfl rfl (by omega) (by decide) dX12_spread_87 (v := (M 164 0)) rfl rfl ?_
            refine kx_aload_n 89 F 0 dX12_spread_88 rfl rfl rfl ?_
            refine kx_getr 92 F fl_X12_7 kd_163 rfl rfl (j := 0) rfl dX12_spread_89 (v := 164) (uq_164 (Inv.r hI_M kd_163 rfl 0 rfl rfl)) rfl ?_
            refine kx_iconst 93 F dX12_spread_92 rfl ?_
            refine kx_iald 94 F kd_164 rfl rfl (by omega) (by decide) dX12_spread_93 (v := (M 164 1)) rfl rfl ?_
            have ha_1038 : atlo 1 = 0 ∧ athi 1 = 2 := at_c 1 0 (o := 1) (lo := 0) (hi := 2) (by omega) (by decide) (by decide) (by decide)
            have h_1039 := Inv.g hI_M kd_164 rfl 1 (a := 0) (b := 2) ha_1038.1 ha_1038.2
            refine kx_iadd 95 F (v := (M 164 0) + (M 164 1)) dX12_spread_94 rfl rfl ?_
            refine kx_icmp_ge 98 F 128 dX12_spread_95 (by decide) rfl (by omega) (by omega) (fun h_1040 => ?_) (fun h_1040 => ?_)
            · refine kx_goto 6 F dX12_spread_128 (by decide) ?_
              refine kx_drop 8 (lo' := [some (vR G 163), some (vI a1), none, some (vI a3), some (vI a4), some (vI a5), some (vI x6_1031), some (vI x6_558), none]) rfl ?_
              exact ih_562 _ (by omega) x6_1031 x6_558 (by omega) rfl
            · refine kx_iload 100 F 4 dX12_spread_98 rfl rfl ?_
              refine kx_if_eq 103 F 128 dX12_spread_100 (by decide) rfl (by omega) (fun h_1041 => ?_) (fun h_1041 => ?_)
              · refine kx_goto 6 F dX12_spread_128 (by decide) ?_
                refine kx_drop 8 (lo' := [some (vR G 163), some (vI a1), none, some (vI a3), some (vI a4), some (vI a5), some (vI x6_1031), some (vI x6_558), none]) rfl ?_
                exact ih_562 _ (by omega) x6_1031 x6_558 (by omega) rfl
              · refine kx_iload 105 F 6 dX12_spread_103 rfl rfl ?_
                refine kx_iload 107 F 6 dX12_spread_105 rfl rfl ?_
                refine kx_aload_n 108 F 0 dX12_spread_107 rfl rfl rfl ?_
                refine kx_iload_n 109 F 1 dX12_spread_108 rfl rfl rfl ?_
                refine kx_iload 111 F 8 dX12_spread_109 rfl rfl ?_
                refine kx_bipush 113 F dX12_spread_111 (by decide) rfl ?_
                refine kx_Vi 116 (ci := 0) F (As := [vI a1, vI x8_1032, vI 8]) (st := [vI x6_1031, vI x6_1031]) vd_X12_323 (c_X12_leads G l M a1 x8_1032 8 hI_M (by omega)) kd_163 rfl rfl rfl ⟨by decide, by decide⟩ rfl rfl (Nat.le_of_ble_eq_true rfl) dX12_spread_113 rfl ?_
                intro r_1042 N_1043 q_1044
                obtain ⟨rfl, q_1044c⟩ := q_1044
                refine kx_Si 119 F (As := [vI x6_1031, vI r_1042]) (st := [vI x6_1031]) sd_X12_332 (c_X12_image G l M x6_1031 r_1042 hI_M (by omega)) ⟨by decide, by decide⟩ rfl rfl (Nat.le_of_ble_eq_true rfl) dX12_spread_116 rfl ?_
                intro r_1045 N_1046 q_1047
                obtain ⟨rfl, q_1047c⟩ := q_1047
                refine kx_ior 120 F (v := (zor x6_1031 r_1045)) dX12_spread_119 rfl rfl ?_
                have h_1049 := zor_ge (a := x6_1031) (b := r_1045) (by omega) (by omega)
                have h_1048 : 0 ≤ (zor x6_1031 r_1045) ∧ (zor x6_1031 r_1045) < 8 := zor_lt (a := x6_1031) (b := r_1045) 3 (by decide) (by omega) (by omega)
                refine kx_istore 122 F 6 (lo' := [some (vR G 163), some (vI a1), none, some (vI a3), some (vI a4), some (vI a5), some (vI (zor x6_1031 r_1045)), some (vI x6_558), some (vI x8_1032)]) dX12_spread_120 (by decide) rfl rfl rfl ?_
                refine kx_iinc 125 F 8 (v := x8_1032 + 1) (lo' := [some (vR G 163), some (vI a1), none, some (vI a3), some (vI a4), some (vI a5), some (vI (zor x6_1031 r_1045)), some (vI x6_558), some (vI (x8_1032 + 1))]) dX12_spread_122 rfl (by omega) (by decide) rfl rfl rfl ?_
                refine kx_goto 80 F dX12_spread_125 (by decide) ?_
                exact ih_1035 _ (by omega) (zor x6_1031 r_1045) (x8_1032 + 1) (by omega) rfl
          exact L_1033 _ x6_979 (M 164 0) (by omega) rfl
        · refine kx_iload 44 F 5 dX12_spread_42 rfl rfl ?_
          refine kx_if_eq 47 F 72 dX12_spread_44 (by decide) rfl (by omega) (fun h_1050 => ?_) (fun h_1050 => ?_)
          · refine kx_aload_n 73 F 0 dX12_spread_72 rfl rfl rfl ?_
            refine kx_getr 76 F fl_X12_7 kd_163 rfl rfl (j := 0) rfl dX12_spread_73 (v := 164) (uq_164 (Inv.r hI_M kd_163 rfl 0 rfl rfl)) rfl ?_
            refine kx_iconst 77 F dX12_spread_76 rfl ?_
            refine kx_iald 78 F kd_164 rfl rfl (by omega) (by decide) dX12_spread_77 (v := (M 164 0)) rfl rfl ?_
            refine kx_istore 80 F 8 (lo' := [some (vR G 163), some (vI a1), none, some (vI a3), some (vI a4), some (vI a5), some (vI x6_979), some (vI x6_558), some (vI (M 164 0))]) dX12_spread_78 (by decide) rfl rfl rfl ?_
            have L_1095 : ∀ (n_1096 : Nat) (x6_1093 : Int) (x8_1094 : Int), 0 ≤ x6_1093 ∧ x6_1093 ≤ 7 ∧ 1 ≤ x8_1094 ∧ x8_1094 ≤ 4 ∧ x6_558 ≤ x6_1093 ∧ (M 164 0) ≤ x8_1094 → (4 - (x8_1094)).toNat = n_1096 → KJ true G X M 80 [some (vR G 163), some (vI a1), none, some (vI a3), some (vI a4), some (vI a5), some (vI x6_1093), some (vI x6_558), some (vI x8_1094)] [] := by
              intro n_1096
              refine Nat.strongRecOn n_1096 ?_
              intro n_1096 ih_1097 x6_1093 x8_1094 h_1098 hm_1099
              refine kx_iload 82 F 8 dX12_spread_80 rfl rfl ?_
              refine kx_aload_n 83 F 0 dX12_spread_82 rfl rfl rfl ?_
              refine kx_getr 86 F fl_X12_7 kd_163 rfl rfl (j := 0) rfl dX12_spread_83 (v := 164) (uq_164 (Inv.r hI_M kd_163 rfl 0 rfl rfl)) rfl ?_
              refine kx_iconst 87 F dX12_spread_86 rfl ?_
              refine kx_iald 88 F kd_164 rfl rfl (by omega) (by decide) dX12_spread_87 (v := (M 164 0)) rfl rfl ?_
              refine kx_aload_n 89 F 0 dX12_spread_88 rfl rfl rfl ?_
              refine kx_getr 92 F fl_X12_7 kd_163 rfl rfl (j := 0) rfl dX12_spread_89 (v := 164) (uq_164 (Inv.r hI_M kd_163 rfl 0 rfl rfl)) rfl ?_
              refine kx_iconst 93 F dX12_spread_92 rfl ?_
              refine kx_iald 94 F kd_164 rfl rfl (by omega) (by decide) dX12_spread_93 (v := (M 164 1)) rfl rfl ?_
              have ha_1100 : atlo 1 = 0 ∧ athi 1 = 2 := at_c 1 0 (o := 1) (lo := 0) (hi := 2) (by omega) (by decide) (by decide) (by decide)
              have h_1101 := Inv.g hI_M kd_164 rfl 1 (a := 0) (b := 2) ha_1100.1 ha_1100.2
              refine kx_iadd 95 F (v := (M 164 0) + (M 164 1)) dX12_spread_94 rfl rfl ?_
              refine kx_icmp_ge 98 F 128 dX12_spread_95 (by decide) rfl (by omega) (by omega) (fun h_1102 => ?_) (fun h_1102 => ?_)
              · refine kx_goto 6 F dX12_spread_128 (by decide) ?_
                refine kx_drop 8 (lo' := [some (vR G 163), some (vI a1), none, some (vI a3), some (vI a4), some (vI a5), some (vI x6_1093), some (vI x6_558), none]) rfl ?_
                exact ih_562 _ (by omega) x6_1093 x6_558 (by omega) rfl
              · refine kx_iload 100 F 4 dX12_spread_98 rfl rfl ?_
                refine kx_if_eq 103 F 128 dX12_spread_100 (by decide) rfl (by omega) (fun h_1103 => ?_) (fun h_1103 => ?_)
                · refine kx_goto 6 F dX12_spread_128 (by decide) ?_
                  refine kx_drop 8 (lo' := [some (vR G 163), some (vI a1), none, some (vI a3), some (vI a4), some (vI a5), some (vI x6_1093), some (vI x6_558), none]) rfl ?_
                  exact ih_562 _ (by omega) x6_1093 x6_558 (by omega) rfl
                · refine kx_iload 105 F 6 dX12_spread_103 rfl rfl ?_
                  refine kx_iload 107 F 6 dX12_spread_105 rfl rfl ?_
                  refine kx_aload_n 108 F 0 dX12_spread_107 rfl rfl rfl ?_
                  refine kx_iload_n 109 F 1 dX12_spread_108 rfl rfl rfl ?_
                  refine kx_iload 111 F 8 dX12_spread_109 rfl rfl ?_
                  refine kx_bipush 113 F dX12_spread_111 (by decide) rfl ?_
                  refine kx_Vi 116 (ci := 0) F (As := [vI a1, vI x8_1094, vI 8]) (st := [vI x6_1093, vI x6_1093]) vd_X12_323 (c_X12_leads G l M a1 x8_1094 8 hI_M (by omega)) kd_163 rfl rfl rfl ⟨by decide, by decide⟩ rfl rfl (Nat.le_of_ble_eq_true rfl) dX12_spread_113 rfl ?_
                  intro r_1104 N_1105 q_1106
                  obtain ⟨rfl, q_1106c⟩ := q_1106
                  refine kx_Si 119 F (As := [vI x6_1093, vI r_1104]) (st := [vI x6_1093]) sd_X12_332 (c_X12_image G l M x6_1093 r_1104 hI_M (by omega)) ⟨by decide, by decide⟩ rfl rfl (Nat.le_of_ble_eq_true rfl) dX12_spread_116 rfl ?_
                  intro r_1107 N_1108 q_1109
                  obtain ⟨rfl, q_1109c⟩ := q_1109
                  refine kx_ior 120 F (v := (zor x6_1093 r_1107)) dX12_spread_119 rfl rfl ?_
                  have h_1111 := zor_ge (a := x6_1093) (b := r_1107) (by omega) (by omega)
                  have h_1110 : 0 ≤ (zor x6_1093 r_1107) ∧ (zor x6_1093 r_1107) < 8 := zor_lt (a := x6_1093) (b := r_1107) 3 (by decide) (by omega) (by omega)
                  refine kx_istore 122 F 6 (lo' := [some (vR G 163), some (vI a1), none, some (vI a3), some (vI a4), some (vI a5), some (vI (zor x6_1093 r_1107)), some (vI x6_558), some (vI x8_1094)]) dX12_spread_120 (by decide) rfl rfl rfl ?_
                  refine kx_iinc 125 F 8 (v := x8_1094 + 1) (lo' := [some (vR G 163), some (vI a1), none, some (vI a3), some (vI a4), some (vI a5), some (vI (zor x6_1093 r_1107)), some (vI x6_558), some (vI (x8_1094 + 1))]) dX12_spread_122 rfl (by omega) (by decide) rfl rfl rfl ?_
                  refine kx_goto 80 F dX12_spread_125 (by decide) ?_
                  exact ih_1097 _ (by omega) (zor x6_1093 r_1107) (x8_1094 + 1) (by omega) rfl
            exact L_1095 _ x6_979 (M 164 0) (by omega) rfl
          · refine kx_iload 49 F 6 dX12_spread_47 rfl rfl ?_
            refine kx_iload 51 F 6 dX12_spread_49 rfl rfl ?_
            refine kx_aload_n 52 F 0 dX12_spread_51 rfl rfl rfl ?_
            refine kx_iload_n 53 F 1 dX12_spread_52 rfl rfl rfl ?_
            refine kx_iload 55 F 8 dX12_spread_53 rfl rfl ?_
            refine kx_bipush 57 F dX12_spread_55 (by decide) rfl ?_
            refine kx_Vi 60 (ci := 0) F (As := [vI a1, vI x8_980, vI 7]) (st := [vI x6_979, vI x6_979]) vd_X12_323 (c_X12_leads G l M a1 x8_980 7 hI_M (by omega)) kd_163 rfl rfl rfl ⟨by decide, by decide⟩ rfl rfl (Nat.le_of_ble_eq_true rfl) dX12_spread_57 rfl ?_
            intro r_1112 N_1113 q_1114
            obtain ⟨rfl, q_1114c⟩ := q_1114
            refine kx_Si 63 F (As := [vI x6_979, vI r_1112]) (st := [vI x6_979]) sd_X12_332 (c_X12_image G l M x6_979 r_1112 hI_M (by omega)) ⟨by decide, by decide⟩ rfl rfl (Nat.le_of_ble_eq_true rfl) dX12_spread_60 rfl ?_
            intro r_1115 N_1116 q_1117
            obtain ⟨rfl, q_1117c⟩ := q_1117
            refine kx_ior 64 F (v := (zor x6_979 r_1115)) dX12_spread_63 rfl rfl ?_
            have h_1119 := zor_ge (a := x6_979) (b := r_1115) (by omega) (by omega)
            have h_1118 : 0 ≤ (zor x6_979 r_1115) ∧ (zor x6_979 r_1115) < 8 := zor_lt (a := x6_979) (b := r_1115) 3 (by decide) (by omega) (by omega)
            refine kx_istore 66 F 6 (lo' := [some (vR G 163), some (vI a1), none, some (vI a3), some (vI a4), some (vI a5), some (vI (zor x6_979 r_1115)), some (vI x6_558), some (vI x8_980)]) dX12_spread_64 (by decide) rfl rfl rfl ?_
            refine kx_iinc 69 F 8 (v := x8_980 + 1) (lo' := [some (vR G 163), some (vI a1), none, some (vI a3), some (vI a4), some (vI a5), some (vI (zor x6_979 r_1115)), some (vI x6_558), some (vI (x8_980 + 1))]) dX12_spread_66 rfl (by omega) (by decide) rfl rfl rfl ?_
            refine kx_goto 31 F dX12_spread_69 (by decide) ?_
            exact ih_983 _ (by omega) (zor x6_979 r_1115) (x8_980 + 1) (by omega) rfl
      exact L_981 _ (zor x6_558 r_566) 0 (by omega) rfl
  refine kx_drop 2 (lo' := [some (vR G 163), some (vI a1), none, some (vI a3), some (vI a4), some (vI a5), some (vI a2), some (vI (-1)), none]) rfl ?_
  exact L_560 _ a2 (-1) (by omega) rfl
set_option maxHeartbeats 4000000 in
set_option maxRecDepth 100000 in
theorem c_belowRowE (G : KG) (l : Launch) (M : Mem) (a1 : Int) (hI_M : Inv true M) (hpre : -2147483648 ≤ a1 ∧ a1 ≤ 2147483647 ∧ 0 ≤ a1 ∧ a1 ≤ 30) : KC true G l yX12_belowRow cX12_belowRow 2 (some .int) (0, 0) [vR G 163, vI a1] M (fun A => kQi true G A (fun (r : Int) (N : Mem) => M = N ∧ (r = 3 * a1 + 10))) := by
  refine kx_met (lo := [some (vR G 163), some (vI a1)]) (by decide) (Nat.le_of_ble_eq_true rfl) rfl ?_
  intro X F hQ
  refine kx_bipush 2 F dX12_belowRow_0 (by decide) rfl ?_
  refine kx_iconst 3 F dX12_belowRow_2 rfl ?_
  refine kx_iload_n 4 F 1 dX12_belowRow_3 rfl rfl rfl ?_
  refine kx_imul 5 F (v := 3 * a1) dX12_belowRow_4 (by omega) rfl ?_
  refine kx_iadd 6 F (v := 3 * a1 + 10) dX12_belowRow_5 (by omega) rfl ?_
  exact kx_iret F hQ ⟨rfl, (by omega)⟩ dX12_belowRow_6
set_option maxRecDepth 100000 in
theorem dGR_31_c_1006 : (decode cX12_doomed 0 = .ok (.aload_n 0, 1)) ∧ (decode cX12_doomed 1 = .ok (.getfield 7, 3)) ∧ (decode cX12_doomed 4 = .ok (.iconst 4, 1)) ∧ (decode cX12_doomed 5 = .ok (.iaload, 1)) ∧ (decode cX12_doomed 6 = .ok (.istore_n 1, 1)) ∧ (decode cX12_doomed 7 = .ok (.iload_n 1, 1)) ∧ (decode cX12_doomed 8 = .ok (.iconst (-1), 1)) ∧ (decode cX12_doomed 9 = .ok (.if_icmp .ne 10, 3)) ∧ (decode cX12_doomed 12 = .ok (.aload_n 0, 1)) ∧ (decode cX12_doomed 13 = .ok (.bipush 6, 2)) ∧ (decode cX12_doomed 15 = .ok (.invokevirtual 123, 3)) ∧ (decode cX12_doomed 18 = .ok (.ireturn, 1)) := by decide +kernel
theorem dX12_doomed_0 : decode cX12_doomed 0 = .ok (.aload_n 0, 1) := dGR_31_c_1006.1
theorem dX12_doomed_1 : decode cX12_doomed 1 = .ok (.getfield 7, 3) := dGR_31_c_1006.2.1
theorem dX12_doomed_4 : decode cX12_doomed 4 = .ok (.iconst 4, 1) := dGR_31_c_1006.2.2.1
theorem dX12_doomed_5 : decode cX12_doomed 5 = .ok (.iaload, 1) := dGR_31_c_1006.2.2.2.1
theorem dX12_doomed_6 : decode cX12_doomed 6 = .ok (.istore_n 1, 1) := dGR_31_c_1006.2.2.2.2.1
theorem dX12_doomed_7 : decode cX12_doomed 7 = .ok (.iload_n 1, 1) := dGR_31_c_1006.2.2.2.2.2.1
theorem dX12_doomed_8 : decode cX12_doomed 8 = .ok (.iconst (-1), 1) := dGR_31_c_1006.2.2.2.2.2.2.1
theorem dX12_doomed_9 : decode cX12_doomed 9 = .ok (.if_icmp .ne 10, 3) := dGR_31_c_1006.2.2.2.2.2.2.2.1
theorem dX12_doomed_12 : decode cX12_doomed 12 = .ok (.aload_n 0, 1) := dGR_31_c_1006.2.2.2.2.2.2.2.2.1
theorem dX12_doomed_13 : decode cX12_doomed 13 = .ok (.bipush 6, 2) := dGR_31_c_1006.2.2.2.2.2.2.2.2.2.1
theorem dX12_doomed_15 : decode cX12_doomed 15 = .ok (.invokevirtual 123, 3) := dGR_31_c_1006.2.2.2.2.2.2.2.2.2.2.1
theorem dX12_doomed_18 : decode cX12_doomed 18 = .ok (.ireturn, 1) := dGR_31_c_1006.2.2.2.2.2.2.2.2.2.2.2
set_option maxRecDepth 100000 in
theorem dGR_31_c_1007 : (decode cX12_doomed 19 = .ok (.aload_n 0, 1)) ∧ (decode cX12_doomed 20 = .ok (.iload_n 1, 1)) ∧ (decode cX12_doomed 21 = .ok (.iconst 2, 1)) ∧ (decode cX12_doomed 22 = .ok (.invokevirtual 445, 3)) ∧ (decode cX12_doomed 25 = .ok (.iconst 0, 1)) ∧ (decode cX12_doomed 26 = .ok (.istore_n 2, 1)) ∧ (decode cX12_doomed 27 = .ok (.iconst 0, 1)) ∧ (decode cX12_doomed 28 = .ok (.istore_n 3, 1)) ∧ (decode cX12_doomed 29 = .ok (.iload_n 3, 1)) ∧ (decode cX12_doomed 30 = .ok (.iconst 3, 1)) ∧ (decode cX12_doomed 31 = .ok (.if_icmp .ge 57, 3)) ∧ (decode cX12_doomed 34 = .ok (.iconst 0, 1)) := by decide +kernel
theorem dX12_doomed_19 : decode cX12_doomed 19 = .ok (.aload_n 0, 1) := dGR_31_c_1007.1
theorem dX12_doomed_20 : decode cX12_doomed 20 = .ok (.iload_n 1, 1) := dGR_31_c_1007.2.1
theorem dX12_doomed_21 : decode cX12_doomed 21 = .ok (.iconst 2, 1) := dGR_31_c_1007.2.2.1
theorem dX12_doomed_22 : decode cX12_doomed 22 = .ok (.invokevirtual 445, 3) := dGR_31_c_1007.2.2.2.1
theorem dX12_doomed_25 : decode cX12_doomed 25 = .ok (.iconst 0, 1) := dGR_31_c_1007.2.2.2.2.1
theorem dX12_doomed_26 : decode cX12_doomed 26 = .ok (.istore_n 2, 1) := dGR_31_c_1007.2.2.2.2.2.1
theorem dX12_doomed_27 : decode cX12_doomed 27 = .ok (.iconst 0, 1) := dGR_31_c_1007.2.2.2.2.2.2.1
theorem dX12_doomed_28 : decode cX12_doomed 28 = .ok (.istore_n 3, 1) := dGR_31_c_1007.2.2.2.2.2.2.2.1
theorem dX12_doomed_29 : decode cX12_doomed 29 = .ok (.iload_n 3, 1) := dGR_31_c_1007.2.2.2.2.2.2.2.2.1
theorem dX12_doomed_30 : decode cX12_doomed 30 = .ok (.iconst 3, 1) := dGR_31_c_1007.2.2.2.2.2.2.2.2.2.1
theorem dX12_doomed_31 : decode cX12_doomed 31 = .ok (.if_icmp .ge 57, 3) := dGR_31_c_1007.2.2.2.2.2.2.2.2.2.2.1
theorem dX12_doomed_34 : decode cX12_doomed 34 = .ok (.iconst 0, 1) := dGR_31_c_1007.2.2.2.2.2.2.2.2.2.2.2
set_option maxRecDepth 100000 in
theorem dGR_31_c_1008 : (decode cX12_doomed 35 = .ok (.istore 4, 2)) ∧ (decode cX12_doomed 37 = .ok (.iload 4, 2)) ∧ (decode cX12_doomed 39 = .ok (.iconst 3, 1)) ∧ (decode cX12_doomed 40 = .ok (.if_icmp .ge 42, 3)) ∧ (decode cX12_doomed 43 = .ok (.iload_n 2, 1)) ∧ (decode cX12_doomed 44 = .ok (.aload_n 0, 1)) ∧ (decode cX12_doomed 45 = .ok (.getfield 80, 3)) ∧ (decode cX12_doomed 48 = .ok (.bipush 27, 2)) ∧ (decode cX12_doomed 50 = .ok (.iload_n 3, 1)) ∧ (decode cX12_doomed 51 = .ok (.imul, 1)) ∧ (decode cX12_doomed 52 = .ok (.iconst 3, 1)) ∧ (decode cX12_doomed 53 = .ok (.iload 4, 2)) := by decide +kernel
theorem dX12_doomed_35 : decode cX12_doomed 35 = .ok (.istore 4, 2) := dGR_31_c_1008.1
theorem dX12_doomed_37 : decode cX12_doomed 37 = .ok (.iload 4, 2) := dGR_31_c_1008.2.1
theorem dX12_doomed_39 : decode cX12_doomed 39 = .ok (.iconst 3, 1) := dGR_31_c_1008.2.2.1
theorem dX12_doomed_40 : decode cX12_doomed 40 = .ok (.if_icmp .ge 42, 3) := dGR_31_c_1008.2.2.2.1
theorem dX12_doomed_43 : decode cX12_doomed 43 = .ok (.iload_n 2, 1) := dGR_31_c_1008.2.2.2.2.1
theorem dX12_doomed_44 : decode cX12_doomed 44 = .ok (.aload_n 0, 1) := dGR_31_c_1008.2.2.2.2.2.1
theorem dX12_doomed_45 : decode cX12_doomed 45 = .ok (.getfield 80, 3) := dGR_31_c_1008.2.2.2.2.2.2.1
theorem dX12_doomed_48 : decode cX12_doomed 48 = .ok (.bipush 27, 2) := dGR_31_c_1008.2.2.2.2.2.2.2.1
theorem dX12_doomed_50 : decode cX12_doomed 50 = .ok (.iload_n 3, 1) := dGR_31_c_1008.2.2.2.2.2.2.2.2.1
theorem dX12_doomed_51 : decode cX12_doomed 51 = .ok (.imul, 1) := dGR_31_c_1008.2.2.2.2.2.2.2.2.2.1
theorem dX12_doomed_52 : decode cX12_doomed 52 = .ok (.iconst 3, 1) := dGR_31_c_1008.2.2.2.2.2.2.2.2.2.2.1
theorem dX12_doomed_53 : decode cX12_doomed 53 = .ok (.iload 4, 2) := dGR_31_c_1008.2.2.2.2.2.2.2.2.2.2.2
set_option maxRecDepth 100000 in
theorem dGR_31_c_1009 : (decode cX12_doomed 55 = .ok (.imul, 1)) ∧ (decode cX12_doomed 56 = .ok (.iadd, 1)) ∧ (decode cX12_doomed 57 = .ok (.iaload, 1)) ∧ (decode cX12_doomed 58 = .ok (.ldc_w 428, 3)) ∧ (decode cX12_doomed 61 = .ok (.if_icmp .ge 12, 3)) ∧ (decode cX12_doomed 64 = .ok (.iload_n 3, 1)) ∧ (decode cX12_doomed 65 = .ok (.iload 4, 2)) ∧ (decode cX12_doomed 67 = .ok (.invokestatic 316, 3)) ∧ (decode cX12_doomed 70 = .ok (.goto 4, 3)) ∧ (decode cX12_doomed 73 = .ok (.iconst 0, 1)) ∧ (decode cX12_doomed 74 = .ok (.ior, 1)) ∧ (decode cX12_doomed 75 = .ok (.istore_n 2, 1)) := by decide +kernel
theorem dX12_doomed_55 : decode cX12_doomed 55 = .ok (.imul, 1) := dGR_31_c_1009.1
theorem dX12_doomed_56 : decode cX12_doomed 56 = .ok (.iadd, 1) := dGR_31_c_1009.2.1
theorem dX12_doomed_57 : decode cX12_doomed 57 = .ok (.iaload, 1) := dGR_31_c_1009.2.2.1
theorem dX12_doomed_58 : decode cX12_doomed 58 = .ok (.ldc_w 428, 3) := dGR_31_c_1009.2.2.2.1
theorem dX12_doomed_61 : decode cX12_doomed 61 = .ok (.if_icmp .ge 12, 3) := dGR_31_c_1009.2.2.2.2.1
theorem dX12_doomed_64 : decode cX12_doomed 64 = .ok (.iload_n 3, 1) := dGR_31_c_1009.2.2.2.2.2.1
theorem dX12_doomed_65 : decode cX12_doomed 65 = .ok (.iload 4, 2) := dGR_31_c_1009.2.2.2.2.2.2.1
theorem dX12_doomed_67 : decode cX12_doomed 67 = .ok (.invokestatic 316, 3) := dGR_31_c_1009.2.2.2.2.2.2.2.1
theorem dX12_doomed_70 : decode cX12_doomed 70 = .ok (.goto 4, 3) := dGR_31_c_1009.2.2.2.2.2.2.2.2.1
theorem dX12_doomed_73 : decode cX12_doomed 73 = .ok (.iconst 0, 1) := dGR_31_c_1009.2.2.2.2.2.2.2.2.2.1
theorem dX12_doomed_74 : decode cX12_doomed 74 = .ok (.ior, 1) := dGR_31_c_1009.2.2.2.2.2.2.2.2.2.2.1
theorem dX12_doomed_75 : decode cX12_doomed 75 = .ok (.istore_n 2, 1) := dGR_31_c_1009.2.2.2.2.2.2.2.2.2.2.2
set_option maxRecDepth 100000 in
theorem dGR_31_c_1010 : (decode cX12_doomed 76 = .ok (.iinc 4 1, 3)) ∧ (decode cX12_doomed 79 = .ok (.goto (-42), 3)) ∧ (decode cX12_doomed 82 = .ok (.iinc 3 1, 3)) ∧ (decode cX12_doomed 85 = .ok (.goto (-56), 3)) ∧ (decode cX12_doomed 88 = .ok (.aload_n 0, 1)) ∧ (decode cX12_doomed 89 = .ok (.iload_n 1, 1)) ∧ (decode cX12_doomed 90 = .ok (.aload_n 0, 1)) ∧ (decode cX12_doomed 91 = .ok (.getfield 7, 3)) ∧ (decode cX12_doomed 94 = .ok (.bipush 7, 2)) ∧ (decode cX12_doomed 96 = .ok (.iaload, 1)) ∧ (decode cX12_doomed 97 = .ok (.iload_n 2, 1)) ∧ (decode cX12_doomed 98 = .ok (.iconst 0, 1)) := by decide +kernel
theorem dX12_doomed_76 : decode cX12_doomed 76 = .ok (.iinc 4 1, 3) := dGR_31_c_1010.1
theorem dX12_doomed_79 : decode cX12_doomed 79 = .ok (.goto (-42), 3) := dGR_31_c_1010.2.1
theorem dX12_doomed_82 : decode cX12_doomed 82 = .ok (.iinc 3 1, 3) := dGR_31_c_1010.2.2.1
theorem dX12_doomed_85 : decode cX12_doomed 85 = .ok (.goto (-56), 3) := dGR_31_c_1010.2.2.2.1
theorem dX12_doomed_88 : decode cX12_doomed 88 = .ok (.aload_n 0, 1) := dGR_31_c_1010.2.2.2.2.1
theorem dX12_doomed_89 : decode cX12_doomed 89 = .ok (.iload_n 1, 1) := dGR_31_c_1010.2.2.2.2.2.1
theorem dX12_doomed_90 : decode cX12_doomed 90 = .ok (.aload_n 0, 1) := dGR_31_c_1010.2.2.2.2.2.2.1
theorem dX12_doomed_91 : decode cX12_doomed 91 = .ok (.getfield 7, 3) := dGR_31_c_1010.2.2.2.2.2.2.2.1
theorem dX12_doomed_94 : decode cX12_doomed 94 = .ok (.bipush 7, 2) := dGR_31_c_1010.2.2.2.2.2.2.2.2.1
theorem dX12_doomed_96 : decode cX12_doomed 96 = .ok (.iaload, 1) := dGR_31_c_1010.2.2.2.2.2.2.2.2.2.1
theorem dX12_doomed_97 : decode cX12_doomed 97 = .ok (.iload_n 2, 1) := dGR_31_c_1010.2.2.2.2.2.2.2.2.2.2.1
theorem dX12_doomed_98 : decode cX12_doomed 98 = .ok (.iconst 0, 1) := dGR_31_c_1010.2.2.2.2.2.2.2.2.2.2.2
set_option maxRecDepth 100000 in
theorem dGR_31_c_1011 : (decode cX12_doomed 99 = .ok (.iconst 0, 1)) ∧ (decode cX12_doomed 100 = .ok (.invokevirtual 531, 3)) ∧ (decode cX12_doomed 103 = .ok (.istore_n 3, 1)) ∧ (decode cX12_doomed 104 = .ok (.aload_n 0, 1)) ∧ (decode cX12_doomed 105 = .ok (.getfield 7, 3)) ∧ (decode cX12_doomed 108 = .ok (.bipush 8, 2)) ∧ (decode cX12_doomed 110 = .ok (.iaload, 1)) ∧ (decode cX12_doomed 111 = .ok (.aload_n 0, 1)) ∧ (decode cX12_doomed 112 = .ok (.getfield 7, 3)) ∧ (decode cX12_doomed 115 = .ok (.bipush 8, 2)) ∧ (decode cX12_doomed 117 = .ok (.iaload, 1)) ∧ (decode cX12_doomed 118 = .ok (.iload_n 2, 1)) := by decide +kernel
theorem dX12_doomed_99 : decode cX12_doomed 99 = .ok (.iconst 0, 1) := dGR_31_c_1011.1
theorem dX12_doomed_100 : decode cX12_doomed 100 = .ok (.invokevirtual 531, 3) := dGR_31_c_1011.2.1
theorem dX12_doomed_103 : decode cX12_doomed 103 = .ok (.istore_n 3, 1) := dGR_31_c_1011.2.2.1
theorem dX12_doomed_104 : decode cX12_doomed 104 = .ok (.aload_n 0, 1) := dGR_31_c_1011.2.2.2.1
theorem dX12_doomed_105 : decode cX12_doomed 105 = .ok (.getfield 7, 3) := dGR_31_c_1011.2.2.2.2.1
theorem dX12_doomed_108 : decode cX12_doomed 108 = .ok (.bipush 8, 2) := dGR_31_c_1011.2.2.2.2.2.1
theorem dX12_doomed_110 : decode cX12_doomed 110 = .ok (.iaload, 1) := dGR_31_c_1011.2.2.2.2.2.2.1
theorem dX12_doomed_111 : decode cX12_doomed 111 = .ok (.aload_n 0, 1) := dGR_31_c_1011.2.2.2.2.2.2.2.1
theorem dX12_doomed_112 : decode cX12_doomed 112 = .ok (.getfield 7, 3) := dGR_31_c_1011.2.2.2.2.2.2.2.2.1
theorem dX12_doomed_115 : decode cX12_doomed 115 = .ok (.bipush 8, 2) := dGR_31_c_1011.2.2.2.2.2.2.2.2.2.1
theorem dX12_doomed_117 : decode cX12_doomed 117 = .ok (.iaload, 1) := dGR_31_c_1011.2.2.2.2.2.2.2.2.2.2.1
theorem dX12_doomed_118 : decode cX12_doomed 118 = .ok (.iload_n 2, 1) := dGR_31_c_1011.2.2.2.2.2.2.2.2.2.2.2
set_option maxRecDepth 100000 in
theorem dGR_31_c_1012 : (decode cX12_doomed 119 = .ok (.invokestatic 326, 3)) ∧ (decode cX12_doomed 122 = .ok (.ior, 1)) ∧ (decode cX12_doomed 123 = .ok (.istore 4, 2)) ∧ (decode cX12_doomed 125 = .ok (.aload_n 0, 1)) ∧ (decode cX12_doomed 126 = .ok (.iload_n 1, 1)) ∧ (decode cX12_doomed 127 = .ok (.iload_n 3, 1)) ∧ (decode cX12_doomed 128 = .ok (.iload_n 2, 1)) ∧ (decode cX12_doomed 129 = .ok (.iconst 0, 1)) ∧ (decode cX12_doomed 130 = .ok (.iconst 1, 1)) ∧ (decode cX12_doomed 131 = .ok (.invokevirtual 531, 3)) ∧ (decode cX12_doomed 134 = .ok (.istore 5, 2)) ∧ (decode cX12_doomed 136 = .ok (.aload_n 0, 1)) := by decide +kernel
theorem dX12_doomed_119 : decode cX12_doomed 119 = .ok (.invokestatic 326, 3) := dGR_31_c_1012.1
theorem dX12_doomed_122 : decode cX12_doomed 122 = .ok (.ior, 1) := dGR_31_c_1012.2.1
theorem dX12_doomed_123 : decode cX12_doomed 123 = .ok (.istore 4, 2) := dGR_31_c_1012.2.2.1
theorem dX12_doomed_125 : decode cX12_doomed 125 = .ok (.aload_n 0, 1) := dGR_31_c_1012.2.2.2.1
theorem dX12_doomed_126 : decode cX12_doomed 126 = .ok (.iload_n 1, 1) := dGR_31_c_1012.2.2.2.2.1
theorem dX12_doomed_127 : decode cX12_doomed 127 = .ok (.iload_n 3, 1) := dGR_31_c_1012.2.2.2.2.2.1
theorem dX12_doomed_128 : decode cX12_doomed 128 = .ok (.iload_n 2, 1) := dGR_31_c_1012.2.2.2.2.2.2.1
theorem dX12_doomed_129 : decode cX12_doomed 129 = .ok (.iconst 0, 1) := dGR_31_c_1012.2.2.2.2.2.2.2.1
theorem dX12_doomed_130 : decode cX12_doomed 130 = .ok (.iconst 1, 1) := dGR_31_c_1012.2.2.2.2.2.2.2.2.1
theorem dX12_doomed_131 : decode cX12_doomed 131 = .ok (.invokevirtual 531, 3) := dGR_31_c_1012.2.2.2.2.2.2.2.2.2.1
theorem dX12_doomed_134 : decode cX12_doomed 134 = .ok (.istore 5, 2) := dGR_31_c_1012.2.2.2.2.2.2.2.2.2.2.1
theorem dX12_doomed_136 : decode cX12_doomed 136 = .ok (.aload_n 0, 1) := dGR_31_c_1012.2.2.2.2.2.2.2.2.2.2.2
set_option maxRecDepth 100000 in
theorem dGR_31_c_1013 : (decode cX12_doomed 137 = .ok (.getfield 7, 3)) ∧ (decode cX12_doomed 140 = .ok (.bipush 6, 2)) ∧ (decode cX12_doomed 142 = .ok (.iaload, 1)) ∧ (decode cX12_doomed 143 = .ok (.iconst 1, 1)) ∧ (decode cX12_doomed 144 = .ok (.isub, 1)) ∧ (decode cX12_doomed 145 = .ok (.istore 6, 2)) ∧ (decode cX12_doomed 147 = .ok (.iload 6, 2)) ∧ (decode cX12_doomed 149 = .ok (.ifCond .lt 137, 3)) ∧ (decode cX12_doomed 152 = .ok (.aload_n 0, 1)) ∧ (decode cX12_doomed 153 = .ok (.iload 6, 2)) ∧ (decode cX12_doomed 155 = .ok (.invokevirtual 525, 3)) ∧ (decode cX12_doomed 158 = .ok (.istore 7, 2)) := by decide +kernel
theorem dX12_doomed_137 : decode cX12_doomed 137 = .ok (.getfield 7, 3) := dGR_31_c_1013.1
theorem dX12_doomed_140 : decode cX12_doomed 140 = .ok (.bipush 6, 2) := dGR_31_c_1013.2.1
theorem dX12_doomed_142 : decode cX12_doomed 142 = .ok (.iaload, 1) := dGR_31_c_1013.2.2.1
theorem dX12_doomed_143 : decode cX12_doomed 143 = .ok (.iconst 1, 1) := dGR_31_c_1013.2.2.2.1
theorem dX12_doomed_144 : decode cX12_doomed 144 = .ok (.isub, 1) := dGR_31_c_1013.2.2.2.2.1
theorem dX12_doomed_145 : decode cX12_doomed 145 = .ok (.istore 6, 2) := dGR_31_c_1013.2.2.2.2.2.1
theorem dX12_doomed_147 : decode cX12_doomed 147 = .ok (.iload 6, 2) := dGR_31_c_1013.2.2.2.2.2.2.1
theorem dX12_doomed_149 : decode cX12_doomed 149 = .ok (.ifCond .lt 137, 3) := dGR_31_c_1013.2.2.2.2.2.2.2.1
theorem dX12_doomed_152 : decode cX12_doomed 152 = .ok (.aload_n 0, 1) := dGR_31_c_1013.2.2.2.2.2.2.2.2.1
theorem dX12_doomed_153 : decode cX12_doomed 153 = .ok (.iload 6, 2) := dGR_31_c_1013.2.2.2.2.2.2.2.2.2.1
theorem dX12_doomed_155 : decode cX12_doomed 155 = .ok (.invokevirtual 525, 3) := dGR_31_c_1013.2.2.2.2.2.2.2.2.2.2.1
theorem dX12_doomed_158 : decode cX12_doomed 158 = .ok (.istore 7, 2) := dGR_31_c_1013.2.2.2.2.2.2.2.2.2.2.2
set_option maxRecDepth 100000 in
theorem dGR_31_c_1014 : (decode cX12_doomed 160 = .ok (.iconst 0, 1)) ∧ (decode cX12_doomed 161 = .ok (.istore 8, 2)) ∧ (decode cX12_doomed 163 = .ok (.aload_n 0, 1)) ∧ (decode cX12_doomed 164 = .ok (.getfield 7, 3)) ∧ (decode cX12_doomed 167 = .ok (.iconst 0, 1)) ∧ (decode cX12_doomed 168 = .ok (.iaload, 1)) ∧ (decode cX12_doomed 169 = .ok (.istore 9, 2)) ∧ (decode cX12_doomed 171 = .ok (.iload 9, 2)) ∧ (decode cX12_doomed 173 = .ok (.aload_n 0, 1)) ∧ (decode cX12_doomed 174 = .ok (.getfield 7, 3)) ∧ (decode cX12_doomed 177 = .ok (.iconst 0, 1)) ∧ (decode cX12_doomed 178 = .ok (.iaload, 1)) := by decide +kernel
theorem dX12_doomed_160 : decode cX12_doomed 160 = .ok (.iconst 0, 1) := dGR_31_c_1014.1
theorem dX12_doomed_161 : decode cX12_doomed 161 = .ok (.istore 8, 2) := dGR_31_c_1014.2.1
theorem dX12_doomed_163 : decode cX12_doomed 163 = .ok (.aload_n 0, 1) := dGR_31_c_1014.2.2.1
theorem dX12_doomed_164 : decode cX12_doomed 164 = .ok (.getfield 7, 3) := dGR_31_c_1014.2.2.2.1
theorem dX12_doomed_167 : decode cX12_doomed 167 = .ok (.iconst 0, 1) := dGR_31_c_1014.2.2.2.2.1
theorem dX12_doomed_168 : decode cX12_doomed 168 = .ok (.iaload, 1) := dGR_31_c_1014.2.2.2.2.2.1
theorem dX12_doomed_169 : decode cX12_doomed 169 = .ok (.istore 9, 2) := dGR_31_c_1014.2.2.2.2.2.2.1
theorem dX12_doomed_171 : decode cX12_doomed 171 = .ok (.iload 9, 2) := dGR_31_c_1014.2.2.2.2.2.2.2.1
theorem dX12_doomed_173 : decode cX12_doomed 173 = .ok (.aload_n 0, 1) := dGR_31_c_1014.2.2.2.2.2.2.2.2.1
theorem dX12_doomed_174 : decode cX12_doomed 174 = .ok (.getfield 7, 3) := dGR_31_c_1014.2.2.2.2.2.2.2.2.2.1
theorem dX12_doomed_177 : decode cX12_doomed 177 = .ok (.iconst 0, 1) := dGR_31_c_1014.2.2.2.2.2.2.2.2.2.2.1
theorem dX12_doomed_178 : decode cX12_doomed 178 = .ok (.iaload, 1) := dGR_31_c_1014.2.2.2.2.2.2.2.2.2.2.2
set_option maxRecDepth 100000 in
theorem dGR_31_c_1015 : (decode cX12_doomed 179 = .ok (.aload_n 0, 1)) ∧ (decode cX12_doomed 180 = .ok (.getfield 7, 3)) ∧ (decode cX12_doomed 183 = .ok (.iconst 1, 1)) ∧ (decode cX12_doomed 184 = .ok (.iaload, 1)) ∧ (decode cX12_doomed 185 = .ok (.iadd, 1)) ∧ (decode cX12_doomed 186 = .ok (.if_icmp .ge 32, 3)) ∧ (decode cX12_doomed 189 = .ok (.iload 8, 2)) ∧ (decode cX12_doomed 191 = .ok (.aload_n 0, 1)) ∧ (decode cX12_doomed 192 = .ok (.iload_n 1, 1)) ∧ (decode cX12_doomed 193 = .ok (.iload 4, 2)) ∧ (decode cX12_doomed 195 = .ok (.aload_n 0, 1)) ∧ (decode cX12_doomed 196 = .ok (.getfield 7, 3)) := by decide +kernel
theorem dX12_doomed_179 : decode cX12_doomed 179 = .ok (.aload_n 0, 1) := dGR_31_c_1015.1
theorem dX12_doomed_180 : decode cX12_doomed 180 = .ok (.getfield 7, 3) := dGR_31_c_1015.2.1
theorem dX12_doomed_183 : decode cX12_doomed 183 = .ok (.iconst 1, 1) := dGR_31_c_1015.2.2.1
theorem dX12_doomed_184 : decode cX12_doomed 184 = .ok (.iaload, 1) := dGR_31_c_1015.2.2.2.1
theorem dX12_doomed_185 : decode cX12_doomed 185 = .ok (.iadd, 1) := dGR_31_c_1015.2.2.2.2.1
theorem dX12_doomed_186 : decode cX12_doomed 186 = .ok (.if_icmp .ge 32, 3) := dGR_31_c_1015.2.2.2.2.2.1
theorem dX12_doomed_189 : decode cX12_doomed 189 = .ok (.iload 8, 2) := dGR_31_c_1015.2.2.2.2.2.2.1
theorem dX12_doomed_191 : decode cX12_doomed 191 = .ok (.aload_n 0, 1) := dGR_31_c_1015.2.2.2.2.2.2.2.1
theorem dX12_doomed_192 : decode cX12_doomed 192 = .ok (.iload_n 1, 1) := dGR_31_c_1015.2.2.2.2.2.2.2.2.1
theorem dX12_doomed_193 : decode cX12_doomed 193 = .ok (.iload 4, 2) := dGR_31_c_1015.2.2.2.2.2.2.2.2.2.1
theorem dX12_doomed_195 : decode cX12_doomed 195 = .ok (.aload_n 0, 1) := dGR_31_c_1015.2.2.2.2.2.2.2.2.2.2.1
theorem dX12_doomed_196 : decode cX12_doomed 196 = .ok (.getfield 7, 3) := dGR_31_c_1015.2.2.2.2.2.2.2.2.2.2.2
set_option maxRecDepth 100000 in
theorem dGR_31_c_1016 : (decode cX12_doomed 199 = .ok (.iload 7, 2)) ∧ (decode cX12_doomed 201 = .ok (.iconst 2, 1)) ∧ (decode cX12_doomed 202 = .ok (.iadd, 1)) ∧ (decode cX12_doomed 203 = .ok (.iaload, 1)) ∧ (decode cX12_doomed 204 = .ok (.iload 9, 2)) ∧ (decode cX12_doomed 206 = .ok (.invokevirtual 335, 3)) ∧ (decode cX12_doomed 209 = .ok (.ior, 1)) ∧ (decode cX12_doomed 210 = .ok (.istore 8, 2)) ∧ (decode cX12_doomed 212 = .ok (.iinc 9 1, 3)) ∧ (decode cX12_doomed 215 = .ok (.goto (-44), 3)) ∧ (decode cX12_doomed 218 = .ok (.aload_n 0, 1)) ∧ (decode cX12_doomed 219 = .ok (.iload_n 1, 1)) := by decide +kernel
theorem dX12_doomed_199 : decode cX12_doomed 199 = .ok (.iload 7, 2) := dGR_31_c_1016.1
theorem dX12_doomed_201 : decode cX12_doomed 201 = .ok (.iconst 2, 1) := dGR_31_c_1016.2.1
theorem dX12_doomed_202 : decode cX12_doomed 202 = .ok (.iadd, 1) := dGR_31_c_1016.2.2.1
theorem dX12_doomed_203 : decode cX12_doomed 203 = .ok (.iaload, 1) := dGR_31_c_1016.2.2.2.1
theorem dX12_doomed_204 : decode cX12_doomed 204 = .ok (.iload 9, 2) := dGR_31_c_1016.2.2.2.2.1
theorem dX12_doomed_206 : decode cX12_doomed 206 = .ok (.invokevirtual 335, 3) := dGR_31_c_1016.2.2.2.2.2.1
theorem dX12_doomed_209 : decode cX12_doomed 209 = .ok (.ior, 1) := dGR_31_c_1016.2.2.2.2.2.2.1
theorem dX12_doomed_210 : decode cX12_doomed 210 = .ok (.istore 8, 2) := dGR_31_c_1016.2.2.2.2.2.2.2.1
theorem dX12_doomed_212 : decode cX12_doomed 212 = .ok (.iinc 9 1, 3) := dGR_31_c_1016.2.2.2.2.2.2.2.2.1
theorem dX12_doomed_215 : decode cX12_doomed 215 = .ok (.goto (-44), 3) := dGR_31_c_1016.2.2.2.2.2.2.2.2.2.1
theorem dX12_doomed_218 : decode cX12_doomed 218 = .ok (.aload_n 0, 1) := dGR_31_c_1016.2.2.2.2.2.2.2.2.2.2.1
theorem dX12_doomed_219 : decode cX12_doomed 219 = .ok (.iload_n 1, 1) := dGR_31_c_1016.2.2.2.2.2.2.2.2.2.2.2
set_option maxRecDepth 100000 in
theorem dGR_31_c_1017 : (decode cX12_doomed 220 = .ok (.aload_n 0, 1)) ∧ (decode cX12_doomed 221 = .ok (.getfield 7, 3)) ∧ (decode cX12_doomed 224 = .ok (.iload 7, 2)) ∧ (decode cX12_doomed 226 = .ok (.iaload, 1)) ∧ (decode cX12_doomed 227 = .ok (.iload 8, 2)) ∧ (decode cX12_doomed 229 = .ok (.invokestatic 332, 3)) ∧ (decode cX12_doomed 232 = .ok (.iload_n 2, 1)) ∧ (decode cX12_doomed 233 = .ok (.iconst 0, 1)) ∧ (decode cX12_doomed 234 = .ok (.iconst 0, 1)) ∧ (decode cX12_doomed 235 = .ok (.invokevirtual 531, 3)) ∧ (decode cX12_doomed 238 = .ok (.istore_n 3, 1)) ∧ (decode cX12_doomed 239 = .ok (.aload_n 0, 1)) := by decide +kernel
theorem dX12_doomed_220 : decode cX12_doomed 220 = .ok (.aload_n 0, 1) := dGR_31_c_1017.1
theorem dX12_doomed_221 : decode cX12_doomed 221 = .ok (.getfield 7, 3) := dGR_31_c_1017.2.1
theorem dX12_doomed_224 : decode cX12_doomed 224 = .ok (.iload 7, 2) := dGR_31_c_1017.2.2.1
theorem dX12_doomed_226 : decode cX12_doomed 226 = .ok (.iaload, 1) := dGR_31_c_1017.2.2.2.1
theorem dX12_doomed_227 : decode cX12_doomed 227 = .ok (.iload 8, 2) := dGR_31_c_1017.2.2.2.2.1
theorem dX12_doomed_229 : decode cX12_doomed 229 = .ok (.invokestatic 332, 3) := dGR_31_c_1017.2.2.2.2.2.1
theorem dX12_doomed_232 : decode cX12_doomed 232 = .ok (.iload_n 2, 1) := dGR_31_c_1017.2.2.2.2.2.2.1
theorem dX12_doomed_233 : decode cX12_doomed 233 = .ok (.iconst 0, 1) := dGR_31_c_1017.2.2.2.2.2.2.2.1
theorem dX12_doomed_234 : decode cX12_doomed 234 = .ok (.iconst 0, 1) := dGR_31_c_1017.2.2.2.2.2.2.2.2.1
theorem dX12_doomed_235 : decode cX12_doomed 235 = .ok (.invokevirtual 531, 3) := dGR_31_c_1017.2.2.2.2.2.2.2.2.2.1
theorem dX12_doomed_238 : decode cX12_doomed 238 = .ok (.istore_n 3, 1) := dGR_31_c_1017.2.2.2.2.2.2.2.2.2.2.1
theorem dX12_doomed_239 : decode cX12_doomed 239 = .ok (.aload_n 0, 1) := dGR_31_c_1017.2.2.2.2.2.2.2.2.2.2.2
set_option maxRecDepth 100000 in
theorem dGR_31_c_1018 : (decode cX12_doomed 240 = .ok (.getfield 7, 3)) ∧ (decode cX12_doomed 243 = .ok (.iload 7, 2)) ∧ (decode cX12_doomed 245 = .ok (.iconst 1, 1)) ∧ (decode cX12_doomed 246 = .ok (.iadd, 1)) ∧ (decode cX12_doomed 247 = .ok (.iaload, 1)) ∧ (decode cX12_doomed 248 = .ok (.iload 8, 2)) ∧ (decode cX12_doomed 250 = .ok (.invokestatic 326, 3)) ∧ (decode cX12_doomed 253 = .ok (.istore 4, 2)) ∧ (decode cX12_doomed 255 = .ok (.iload 4, 2)) ∧ (decode cX12_doomed 257 = .ok (.iload 4, 2)) ∧ (decode cX12_doomed 259 = .ok (.iload_n 2, 1)) ∧ (decode cX12_doomed 260 = .ok (.invokestatic 326, 3)) := by decide +kernel
theorem dX12_doomed_240 : decode cX12_doomed 240 = .ok (.getfield 7, 3) := dGR_31_c_1018.1
theorem dX12_doomed_243 : decode cX12_doomed 243 = .ok (.iload 7, 2) := dGR_31_c_1018.2.1
theorem dX12_doomed_245 : decode cX12_doomed 245 = .ok (.iconst 1, 1) := dGR_31_c_1018.2.2.1
theorem dX12_doomed_246 : decode cX12_doomed 246 = .ok (.iadd, 1) := dGR_31_c_1018.2.2.2.1
theorem dX12_doomed_247 : decode cX12_doomed 247 = .ok (.iaload, 1) := dGR_31_c_1018.2.2.2.2.1
theorem dX12_doomed_248 : decode cX12_doomed 248 = .ok (.iload 8, 2) := dGR_31_c_1018.2.2.2.2.2.1
theorem dX12_doomed_250 : decode cX12_doomed 250 = .ok (.invokestatic 326, 3) := dGR_31_c_1018.2.2.2.2.2.2.1
theorem dX12_doomed_253 : decode cX12_doomed 253 = .ok (.istore 4, 2) := dGR_31_c_1018.2.2.2.2.2.2.2.1
theorem dX12_doomed_255 : decode cX12_doomed 255 = .ok (.iload 4, 2) := dGR_31_c_1018.2.2.2.2.2.2.2.2.1
theorem dX12_doomed_257 : decode cX12_doomed 257 = .ok (.iload 4, 2) := dGR_31_c_1018.2.2.2.2.2.2.2.2.2.1
theorem dX12_doomed_259 : decode cX12_doomed 259 = .ok (.iload_n 2, 1) := dGR_31_c_1018.2.2.2.2.2.2.2.2.2.2.1
theorem dX12_doomed_260 : decode cX12_doomed 260 = .ok (.invokestatic 326, 3) := dGR_31_c_1018.2.2.2.2.2.2.2.2.2.2.2
set_option maxRecDepth 100000 in
theorem dGR_31_c_1019 : (decode cX12_doomed 263 = .ok (.ior, 1)) ∧ (decode cX12_doomed 264 = .ok (.istore 4, 2)) ∧ (decode cX12_doomed 266 = .ok (.iload 5, 2)) ∧ (decode cX12_doomed 268 = .ok (.aload_n 0, 1)) ∧ (decode cX12_doomed 269 = .ok (.iload_n 1, 1)) ∧ (decode cX12_doomed 270 = .ok (.iload_n 3, 1)) ∧ (decode cX12_doomed 271 = .ok (.iload_n 2, 1)) ∧ (decode cX12_doomed 272 = .ok (.iconst 0, 1)) ∧ (decode cX12_doomed 273 = .ok (.iconst 1, 1)) ∧ (decode cX12_doomed 274 = .ok (.invokevirtual 531, 3)) ∧ (decode cX12_doomed 277 = .ok (.ior, 1)) ∧ (decode cX12_doomed 278 = .ok (.istore 5, 2)) := by decide +kernel
theorem dX12_doomed_263 : decode cX12_doomed 263 = .ok (.ior, 1) := dGR_31_c_1019.1
theorem dX12_doomed_264 : decode cX12_doomed 264 = .ok (.istore 4, 2) := dGR_31_c_1019.2.1
theorem dX12_doomed_266 : decode cX12_doomed 266 = .ok (.iload 5, 2) := dGR_31_c_1019.2.2.1
theorem dX12_doomed_268 : decode cX12_doomed 268 = .ok (.aload_n 0, 1) := dGR_31_c_1019.2.2.2.1
theorem dX12_doomed_269 : decode cX12_doomed 269 = .ok (.iload_n 1, 1) := dGR_31_c_1019.2.2.2.2.1
theorem dX12_doomed_270 : decode cX12_doomed 270 = .ok (.iload_n 3, 1) := dGR_31_c_1019.2.2.2.2.2.1
theorem dX12_doomed_271 : decode cX12_doomed 271 = .ok (.iload_n 2, 1) := dGR_31_c_1019.2.2.2.2.2.2.1
theorem dX12_doomed_272 : decode cX12_doomed 272 = .ok (.iconst 0, 1) := dGR_31_c_1019.2.2.2.2.2.2.2.1
theorem dX12_doomed_273 : decode cX12_doomed 273 = .ok (.iconst 1, 1) := dGR_31_c_1019.2.2.2.2.2.2.2.2.1
theorem dX12_doomed_274 : decode cX12_doomed 274 = .ok (.invokevirtual 531, 3) := dGR_31_c_1019.2.2.2.2.2.2.2.2.2.1
theorem dX12_doomed_277 : decode cX12_doomed 277 = .ok (.ior, 1) := dGR_31_c_1019.2.2.2.2.2.2.2.2.2.2.1
theorem dX12_doomed_278 : decode cX12_doomed 278 = .ok (.istore 5, 2) := dGR_31_c_1019.2.2.2.2.2.2.2.2.2.2.2
set_option maxRecDepth 100000 in
theorem dGR_31_c_1020 : (decode cX12_doomed 280 = .ok (.iinc 6 (-1), 3)) ∧ (decode cX12_doomed 283 = .ok (.goto (-136), 3)) ∧ (decode cX12_doomed 286 = .ok (.iload 5, 2)) ∧ (decode cX12_doomed 288 = .ok (.aload_n 0, 1)) ∧ (decode cX12_doomed 289 = .ok (.iload_n 1, 1)) ∧ (decode cX12_doomed 290 = .ok (.aload_n 0, 1)) ∧ (decode cX12_doomed 291 = .ok (.iload_n 1, 1)) ∧ (decode cX12_doomed 292 = .ok (.iload_n 3, 1)) ∧ (decode cX12_doomed 293 = .ok (.iload_n 2, 1)) ∧ (decode cX12_doomed 294 = .ok (.iconst 1, 1)) ∧ (decode cX12_doomed 295 = .ok (.iconst 0, 1)) ∧ (decode cX12_doomed 296 = .ok (.invokevirtual 531, 3)) := by decide +kernel
theorem dX12_doomed_280 : decode cX12_doomed 280 = .ok (.iinc 6 (-1), 3) := dGR_31_c_1020.1
theorem dX12_doomed_283 : decode cX12_doomed 283 = .ok (.goto (-136), 3) := dGR_31_c_1020.2.1
theorem dX12_doomed_286 : decode cX12_doomed 286 = .ok (.iload 5, 2) := dGR_31_c_1020.2.2.1
theorem dX12_doomed_288 : decode cX12_doomed 288 = .ok (.aload_n 0, 1) := dGR_31_c_1020.2.2.2.1
theorem dX12_doomed_289 : decode cX12_doomed 289 = .ok (.iload_n 1, 1) := dGR_31_c_1020.2.2.2.2.1
theorem dX12_doomed_290 : decode cX12_doomed 290 = .ok (.aload_n 0, 1) := dGR_31_c_1020.2.2.2.2.2.1
theorem dX12_doomed_291 : decode cX12_doomed 291 = .ok (.iload_n 1, 1) := dGR_31_c_1020.2.2.2.2.2.2.1
theorem dX12_doomed_292 : decode cX12_doomed 292 = .ok (.iload_n 3, 1) := dGR_31_c_1020.2.2.2.2.2.2.2.1
theorem dX12_doomed_293 : decode cX12_doomed 293 = .ok (.iload_n 2, 1) := dGR_31_c_1020.2.2.2.2.2.2.2.2.1
theorem dX12_doomed_294 : decode cX12_doomed 294 = .ok (.iconst 1, 1) := dGR_31_c_1020.2.2.2.2.2.2.2.2.2.1
theorem dX12_doomed_295 : decode cX12_doomed 295 = .ok (.iconst 0, 1) := dGR_31_c_1020.2.2.2.2.2.2.2.2.2.2.1
theorem dX12_doomed_296 : decode cX12_doomed 296 = .ok (.invokevirtual 531, 3) := dGR_31_c_1020.2.2.2.2.2.2.2.2.2.2.2
set_option maxRecDepth 100000 in
theorem dGR_31_c_1021 : (decode cX12_doomed 299 = .ok (.iload_n 2, 1)) ∧ (decode cX12_doomed 300 = .ok (.iconst 0, 1)) ∧ (decode cX12_doomed 301 = .ok (.iconst 1, 1)) ∧ (decode cX12_doomed 302 = .ok (.invokevirtual 531, 3)) ∧ (decode cX12_doomed 305 = .ok (.ior, 1)) ∧ (decode cX12_doomed 306 = .ok (.istore 5, 2)) ∧ (decode cX12_doomed 308 = .ok (.aload_n 0, 1)) ∧ (decode cX12_doomed 309 = .ok (.iload 5, 2)) ∧ (decode cX12_doomed 311 = .ok (.aload_n 0, 1)) ∧ (decode cX12_doomed 312 = .ok (.iload_n 1, 1)) ∧ (decode cX12_doomed 313 = .ok (.iconst 3, 1)) ∧ (decode cX12_doomed 314 = .ok (.invokevirtual 288, 3)) := by decide +kernel
theorem dX12_doomed_299 : decode cX12_doomed 299 = .ok (.iload_n 2, 1) := dGR_31_c_1021.1
theorem dX12_doomed_300 : decode cX12_doomed 300 = .ok (.iconst 0, 1) := dGR_31_c_1021.2.1
theorem dX12_doomed_301 : decode cX12_doomed 301 = .ok (.iconst 1, 1) := dGR_31_c_1021.2.2.1
theorem dX12_doomed_302 : decode cX12_doomed 302 = .ok (.invokevirtual 531, 3) := dGR_31_c_1021.2.2.2.1
theorem dX12_doomed_305 : decode cX12_doomed 305 = .ok (.ior, 1) := dGR_31_c_1021.2.2.2.2.1
theorem dX12_doomed_306 : decode cX12_doomed 306 = .ok (.istore 5, 2) := dGR_31_c_1021.2.2.2.2.2.1
theorem dX12_doomed_308 : decode cX12_doomed 308 = .ok (.aload_n 0, 1) := dGR_31_c_1021.2.2.2.2.2.2.1
theorem dX12_doomed_309 : decode cX12_doomed 309 = .ok (.iload 5, 2) := dGR_31_c_1021.2.2.2.2.2.2.2.1
theorem dX12_doomed_311 : decode cX12_doomed 311 = .ok (.aload_n 0, 1) := dGR_31_c_1021.2.2.2.2.2.2.2.2.1
theorem dX12_doomed_312 : decode cX12_doomed 312 = .ok (.iload_n 1, 1) := dGR_31_c_1021.2.2.2.2.2.2.2.2.2.1
theorem dX12_doomed_313 : decode cX12_doomed 313 = .ok (.iconst 3, 1) := dGR_31_c_1021.2.2.2.2.2.2.2.2.2.2.1
theorem dX12_doomed_314 : decode cX12_doomed 314 = .ok (.invokevirtual 288, 3) := dGR_31_c_1021.2.2.2.2.2.2.2.2.2.2.2
set_option maxRecDepth 100000 in
theorem dGR_31_c_1022 : (decode cX12_doomed 317 = .ok (.iand, 1)) ∧ (decode cX12_doomed 318 = .ok (.ifCond .ne 7, 3)) ∧ (decode cX12_doomed 321 = .ok (.iconst 1, 1)) ∧ (decode cX12_doomed 322 = .ok (.goto 4, 3)) ∧ (decode cX12_doomed 325 = .ok (.iconst 0, 1)) ∧ (decode cX12_doomed 326 = .ok (.invokevirtual 127, 3)) ∧ (decode cX12_doomed 329 = .ok (.ireturn, 1)) := by decide +kernel
theorem dX12_doomed_317 : decode cX12_doomed 317 = .ok (.iand, 1) := dGR_31_c_1022.1
theorem dX12_doomed_318 : decode cX12_doomed 318 = .ok (.ifCond .ne 7, 3) := dGR_31_c_1022.2.1
theorem dX12_doomed_321 : decode cX12_doomed 321 = .ok (.iconst 1, 1) := dGR_31_c_1022.2.2.1
theorem dX12_doomed_322 : decode cX12_doomed 322 = .ok (.goto 4, 3) := dGR_31_c_1022.2.2.2.1
theorem dX12_doomed_325 : decode cX12_doomed 325 = .ok (.iconst 0, 1) := dGR_31_c_1022.2.2.2.2.1
theorem dX12_doomed_326 : decode cX12_doomed 326 = .ok (.invokevirtual 127, 3) := dGR_31_c_1022.2.2.2.2.2.1
theorem dX12_doomed_329 : decode cX12_doomed 329 = .ok (.ireturn, 1) := dGR_31_c_1022.2.2.2.2.2.2
abbrev f_c_X12_doomed : List (Nat × Int) := [(64, 2), (72, -1), (83, -1), (84, -1)]
set_option maxHeartbeats 4000000 in
set_option maxRecDepth 100000 in
theorem c_X12_doomed (G : KG) (l : Launch) (M : Mem) (hI_M : Inv true M) : KC true G l yX12_doomed cX12_doomed 10 (some .int) (5, 115) [vR G 163] M (fun A => kQi true G A (fun (r : Int) (N : Mem) => Inv true N ∧ Fr f_c_X12_doomed M N ∧ (r ≥ -1 ∧ r ≤ 1))) := by
  refine kx_met (lo := [some (vR G 163), none, none, none, none, none, none, none, none, none]) (by decide) (Nat.le_of_ble_eq_true rfl) rfl ?_
  intro X F hQ
  have hF_M : Fr f_c_X12_doomed M M := Fr.rf _ _
  refine kx_aload_n 1 F 0 dX12_doomed_0 rfl rfl rfl ?_
  refine kx_getr 4 F fl_X12_7 kd_163 rfl rfl (j := 0) rfl dX12_doomed_1 (v := 164) (uq_164 (Inv.r hI_M kd_163 rfl 0 rfl rfl)) rfl ?_
  refine kx_iconst 5 F dX12_doomed_4 rfl ?_
  refine kx_iald 6 F kd_164 rfl rfl (by omega) (by decide) dX12_doomed_5 (v := (M 164 4)) rfl rfl ?_
  have ha_1 : atlo 4 = (-1) ∧ athi 4 = 1 := at_c 4 0 (o := 4) (lo := (-1)) (hi := 1) (by omega) (by decide) (by decide) (by decide)
  have h_2 := Inv.g hI_M kd_164 rfl 4 (a := (-1)) (b := 1) ha_1.1 ha_1.2
  refine kx_istore_n 7 F 1 (lo' := [some (vR G 163), some (vI (M 164 4)), none, none, none, none, none, none, none, none]) dX12_doomed_6 rfl (by decide) rfl rfl rfl ?_
  refine kx_iload_n 8 F 1 dX12_doomed_7 rfl rfl rfl ?_
  refine kx_iconst 9 F dX12_doomed_8 rfl ?_
  refine kx_icmp_ne 12 F 19 dX12_doomed_9 (by decide) rfl (by omega) (by decide) (fun h_3 => ?_) (fun h_3 => ?_)
  · refine kx_aload_n 20 F 0 dX12_doomed_19 rfl rfl rfl ?_
    refine kx_iload_n 21 F 1 dX12_doomed_20 rfl rfl rfl ?_
    refine kx_iconst 22 F dX12_doomed_21 rfl ?_
    refine kx_Vv 25 (ci := 0) F (As := [vI (M 164 4), vI 2]) (st := []) vd_X12_445 (c_X12_laysMatches G l M (M 164 4) 2 hI_M (by omega)) kd_163 rfl rfl rfl ⟨by decide, by decide⟩ rfl rfl (Nat.le_of_ble_eq_true rfl) dX12_doomed_22 rfl ?_
    intro N_4 q_5
    obtain ⟨hI_N_4, hG_N_4⟩ := q_5
    have hF_N_4 : Fr f_c_X12_doomed M N_4 := Fr.c hF_M hG_N_4 rfl
    refine kx_iconst 26 F dX12_doomed_25 rfl ?_
    refine kx_istore_n 27 F 2 (lo' := [some (vR G 163), some (vI (M 164 4)), some (vI 0), none, none, none, none, none, none, none]) dX12_doomed_26 rfl (by decide) rfl rfl rfl ?_
    refine kx_iconst 28 F dX12_doomed_27 rfl ?_
    refine kx_istore_n 29 F 3 (lo' := [some (vR G 163), some (vI (M 164 4)), some (vI 0), some (vI 0), none, none, none, none, none, none]) dX12_doomed_28 rfl (by decide) rfl rfl rfl ?_
    have L_583 : ∀ (n_584 : Nat) (x2_581 : Int) (x3_582 : Int), 0 ≤ x2_581 ∧ x2_581 ≤ 511 ∧ 0 ≤ x3_582 ∧ x3_582 ≤ 3 → (3 - (x3_582)).toNat = n_584 → KJ true G X N_4 29 [some (vR G 163), some (vI (M 164 4)), some (vI x2_581), some (vI x3_582), none, none, none, none, none, none] [] := by
      intro n_584
      refine Nat.strongRecOn n_584 ?_
      intro n_584 ih_585 x2_581 x3_582 h_586 hm_587
      refine kx_iload_n 30 F 3 dX12_doomed_29 rfl rfl rfl ?_
      refine kx_iconst 31 F dX12_doomed_30 rfl ?_
      refine kx_icmp_ge 34 F 88 dX12_doomed_31 (by decide) rfl (by omega) (by decide) (fun h_588 => ?_) (fun h_588 => ?_)
      · refine kx_aload_n 89 F 0 dX12_doomed_88 rfl rfl rfl ?_
        refine kx_iload_n 90 F 1 dX12_doomed_89 rfl rfl rfl ?_
        refine kx_aload_n 91 F 0 dX12_doomed_90 rfl rfl rfl ?_
        refine kx_getr 94 F fl_X12_7 kd_163 rfl rfl (j := 0) rfl dX12_doomed_91 (v := 164) (uq_164 (Inv.r hI_N_4 kd_163 rfl 0 rfl rfl)) rfl ?_
        refine kx_bipush 96 F dX12_doomed_94 (by decide) rfl ?_
        refine kx_iald 97 F kd_164 rfl rfl (by omega) (by decide) dX12_doomed_96 (v := (M 164 7)) (by rw [Fr.e hG_N_4 kd_164 _ rfl]) rfl ?_
        have ha_589 : atlo 7 = 0 ∧ athi 7 = 7 := at_c 7 0 (o := 7) (lo := 0) (hi := 7) (by omega) (by decide) (by decide) (by decide)
        have h_590 := Inv.g hI_M kd_164 rfl 7 (a := 0) (b := 7) ha_589.1 ha_589.2
        refine kx_iload_n 98 F 2 dX12_doomed_97 rfl rfl rfl ?_
        refine kx_iconst 99 F dX12_doomed_98 rfl ?_
        refine kx_iconst 100 F dX12_doomed_99 rfl ?_
        refine kx_Vi 103 (ci := 0) F (As := [vI (M 164 4), vI (M 164 7), vI x2_581, vI 0, vI 0]) (st := []) vd_X12_531 (c_X12_spread G l N_4 (M 164 4) (M 164 7) x2_581 0 0 hI_N_4 (by omega)) kd_163 rfl rfl rfl ⟨by decide, by decide⟩ rfl rfl (Nat.le_of_ble_eq_true rfl) dX12_doomed_100 rfl ?_
        intro r_591 N_592 q_593
        obtain ⟨rfl, q_593c⟩ := q_593
        refine kx_istore_n 104 F 3 (lo' := [some (vR G 163), some (vI (M 164 4)), some (vI x2_581), some (vI r_591), none, none, none, none, none, none]) dX12_doomed_103 rfl (by decide) rfl rfl rfl ?_
        refine kx_aload_n 105 F 0 dX12_doomed_104 rfl rfl rfl ?_
        refine kx_getr 108 F fl_X12_7 kd_163 rfl rfl (j := 0) rfl dX12_doomed_105 (v := 164) (uq_164 (Inv.r hI_N_4 kd_163 rfl 0 rfl rfl)) rfl ?_
        refine kx_bipush 110 F dX12_doomed_108 (by decide) rfl ?_
        refine kx_iald 111 F kd_164 rfl rfl (by omega) (by decide) dX12_doomed_110 (v := (M 164 8)) (by rw [Fr.e hG_N_4 kd_164 _ rfl]) rfl ?_
        have ha_594 : atlo 8 = 0 ∧ athi 8 = 511 := at_c 8 0 (o := 8) (lo := 0) (hi := 511) (by omega) (by decide) (by decide) (by decide)
        have h_595 := Inv.g hI_M kd_164 rfl 8 (a := 0) (b := 511) ha_594.1 ha_594.2
        refine kx_aload_n 112 F 0 dX12_doomed_111 rfl rfl rfl ?_
        refine kx_getr 115 F fl_X12_7 kd_163 rfl rfl (j := 0) rfl dX12_doomed_112 (v := 164) (uq_164 (Inv.r hI_N_4 kd_163 rfl 0 rfl rfl)) rfl ?_
        refine kx_bipush 117 F dX12_doomed_115 (by decide) rfl ?_
        refine kx_iald 118 F kd_164 rfl rfl (by omega) (by decide) dX12_doomed_117 (v := (M 164 8)) (by rw [Fr.e hG_N_4 kd_164 _ rfl]) rfl ?_
        refine kx_iload_n 119 F 2 dX12_doomed_118 rfl rfl rfl ?_
        refine kx_Si 122 F (As := [vI (M 164 8), vI x2_581]) (st := [vI (M 164 8)]) sd_X12_326 (c_X12_then G l N_4 (M 164 8) x2_581 hI_N_4 (by omega)) ⟨by decide, by decide⟩ rfl rfl (Nat.le_of_ble_eq_true rfl) dX12_doomed_119 rfl ?_
        intro r_596 N_597 q_598
        obtain ⟨rfl, q_598c⟩ := q_598
        refine kx_ior 123 F (v := (zor (M 164 8) r_596)) dX12_doomed_122 rfl rfl ?_
        have h_599 : 0 ≤ (zor (M 164 8) r_596) ∧ (zor (M 164 8) r_596) < 512 := zor_lt (a := (M 164 8)) (b := r_596) 9 (by decide) (by omega) (by omega)
        refine kx_istore 125 F 4 (lo' := [some (vR G 163), some (vI (M 164 4)), some (vI x2_581), some (vI r_591), some (vI (zor (M 164 8) r_596)), none, none, none, none, none]) dX12_doomed_123 (by decide) rfl rfl rfl ?_
        refine kx_aload_n 126 F 0 dX12_doomed_125 rfl rfl rfl ?_
        refine kx_iload_n 127 F 1 dX12_doomed_126 rfl rfl rfl ?_
        refine kx_iload_n 128 F 3 dX12_doomed_127 rfl rfl rfl ?_
        refine kx_iload_n 129 F 2 dX12_doomed_128 rfl rfl rfl ?_
        refine kx_iconst 130 F dX12_doomed_129 rfl ?_
        refine kx_iconst 131 F dX12_doomed_130 rfl ?_
        refine kx_Vi 134 (ci := 0) F (As := [vI (M 164 4), vI r_591, vI x2_581, vI 0, vI 1]) (st := []) vd_X12_531 (c_X12_spread G l N_4 (M 164 4) r_591 x2_581 0 1 hI_N_4 (by omega)) kd_163 rfl rfl rfl ⟨by decide, by decide⟩ rfl rfl (Nat.le_of_ble_eq_true rfl) dX12_doomed_131 rfl ?_
        intro r_600 N_601 q_602
        obtain ⟨rfl, q_602c⟩ := q_602
        refine kx_istore 136 F 5 (lo' := [some (vR G 163), some (vI (M 164 4)), some (vI x2_581), some (vI r_591), some (vI (zor (M 164 8) r_596)), some (vI r_600), none, none, none, none]) dX12_doomed_134 (by decide) rfl rfl rfl ?_
        refine kx_aload_n 137 F 0 dX12_doomed_136 rfl rfl rfl ?_
        refine kx_getr 140 F fl_X12_7 kd_163 rfl rfl (j := 0) rfl dX12_doomed_137 (v := 164) (uq_164 (Inv.r hI_N_4 kd_163 rfl 0 rfl rfl)) rfl ?_
        refine kx_bipush 142 F dX12_doomed_140 (by decide) rfl ?_
        refine kx_iald 143 F kd_164 rfl rfl (by omega) (by decide) dX12_doomed_142 (v := (M 164 6)) (by rw [Fr.e hG_N_4 kd_164 _ rfl]) rfl ?_
        have ha_603 : atlo 6 = 0 ∧ athi 6 = 30 := at_c 6 0 (o := 6) (lo := 0) (hi := 30) (by omega) (by decide) (by decide) (by decide)
        have h_604 := Inv.g hI_M kd_164 rfl 6 (a := 0) (b := 30) ha_603.1 ha_603.2
        refine kx_iconst 144 F dX12_doomed_143 rfl ?_
        refine kx_isub 145 F (v := (M 164 6) - 1) dX12_doomed_144 rfl rfl ?_
        refine kx_istore 147 F 6 (lo' := [some (vR G 163), some (vI (M 164 4)), some (vI x2_581), some (vI r_591), some (vI (zor (M 164 8) r_596)), some (vI r_600), some (vI ((M 164 6) - 1)), none, none, none]) dX12_doomed_145 (by decide) rfl rfl rfl ?_
        have L_770 : ∀ (n_771 : Nat) (x3_766 : Int) (x4_767 : Int) (x5_768 : Int) (x6_769 : Int), 0 ≤ x3_766 ∧ x3_766 ≤ 7 ∧ 0 ≤ x4_767 ∧ x4_767 ≤ 511 ∧ 0 ≤ x5_768 ∧ x5_768 ≤ 7 ∧ (-1) ≤ x6_769 ∧ x6_769 ≤ 29 ∧ x6_769 ≤ (M 164 6) - 1 → ((x6_769) - (-1)).toNat = n_771 → KJ true G X N_4 147 [some (vR G 163), some (vI (M 164 4)), some (vI x2_581), some (vI x3_766), some (vI x4_767), some (vI x5_768), some (vI x6_769), none, none, none] [] := by
          intro n_771
          refine Nat.strongRecOn n_771 ?_
          intro n_771 ih_772 x3_766 x4_767 x5_768 x6_769 h_773 hm_774
          refine kx_iload 149 F 6 dX12_doomed_147 rfl rfl ?_
          refine kx_if_lt 152 F 286 dX12_doomed_149 (by decide) rfl (by omega) (fun h_775 => ?_) (fun h_775 => ?_)
          · refine kx_iload 288 F 5 dX12_doomed_286 rfl rfl ?_
            refine kx_aload_n 289 F 0 dX12_doomed_288 rfl rfl rfl ?_
            refine kx_iload_n 290 F 1 dX12_doomed_289 rfl rfl rfl ?_
            refine kx_aload_n 291 F 0 dX12_doomed_290 rfl rfl rfl ?_
            refine kx_iload_n 292 F 1 dX12_doomed_291 rfl rfl rfl ?_
            refine kx_iload_n 293 F 3 dX12_doomed_292 rfl rfl rfl ?_
            refine kx_iload_n 294 F 2 dX12_doomed_293 rfl rfl rfl ?_
            refine kx_iconst 295 F dX12_doomed_294 rfl ?_
            refine kx_iconst 296 F dX12_doomed_295 rfl ?_
            refine kx_Vi 299 (ci := 0) F (As := [vI (M 164 4), vI x3_766, vI x2_581, vI 1, vI 0]) (st := [vI (M 164 4), vR G 163, vI x5_768]) vd_X12_531 (c_X12_spread G l N_4 (M 164 4) x3_766 x2_581 1 0 hI_N_4 (by omega)) kd_163 rfl rfl rfl ⟨by decide, by decide⟩ rfl rfl (Nat.le_of_ble_eq_true rfl) dX12_doomed_296 rfl ?_
            intro r_776 N_777 q_778
            obtain ⟨rfl, q_778c⟩ := q_778
            refine kx_iload_n 300 F 2 dX12_doomed_299 rfl rfl rfl ?_
            refine kx_iconst 301 F dX12_doomed_300 rfl ?_
            refine kx_iconst 302 F dX12_doomed_301 rfl ?_
            refine kx_Vi 305 (ci := 0) F (As := [vI (M 164 4), vI r_776, vI x2_581, vI 0, vI 1]) (st := [vI x5_768]) vd_X12_531 (c_X12_spread G l N_4 (M 164 4) r_776 x2_581 0 1 hI_N_4 (by omega)) kd_163 rfl rfl rfl ⟨by decide, by decide⟩ rfl rfl (Nat.le_of_ble_eq_true rfl) dX12_doomed_302 rfl ?_
            intro r_779 N_780 q_781
            obtain ⟨rfl, q_781c⟩ := q_781
            refine kx_ior 306 F (v := (zor x5_768 r_779)) dX12_doomed_305 rfl rfl ?_
            have h_782 : 0 ≤ (zor x5_768 r_779) ∧ (zor x5_768 r_779) < 8 := zor_lt (a := x5_768) (b := r_779) 3 (by decide) (by omega) (by omega)
            refine kx_istore 308 F 5 (lo' := [some (vR G 163), some (vI (M 164 4)), some (vI x2_581), some (vI x3_766), some (vI x4_767), some (vI (zor x5_768 r_779)), some (vI x6_769), none, none, none]) dX12_doomed_306 (by decide) rfl rfl rfl ?_
            refine kx_aload_n 309 F 0 dX12_doomed_308 rfl rfl rfl ?_
            refine kx_iload 311 F 5 dX12_doomed_309 rfl rfl ?_
            refine kx_aload_n 312 F 0 dX12_doomed_311 rfl rfl rfl ?_
            refine kx_iload_n 313 F 1 dX12_doomed_312 rfl rfl rfl ?_
            refine kx_iconst 314 F dX12_doomed_313 rfl ?_
            refine kx_Vi 317 (ci := 0) F (As := [vI (M 164 4), vI 3]) (st := [vI (zor x5_768 r_779), vR G 163]) vd_X12_288 (c_of3 G l N_4 (M 164 4) 3 hI_N_4 (by omega)) kd_163 rfl rfl rfl ⟨by decide, by decide⟩ rfl rfl (Nat.le_of_ble_eq_true rfl) dX12_doomed_314 rfl ?_
            intro r_783 N_784 q_785
            obtain ⟨rfl, q_785c⟩ := q_785
            refine kx_iand 318 F (v := (zand (zor x5_768 r_779) r_783)) dX12_doomed_317 rfl rfl ?_
            have h_786 := zand_r (a := (zor x5_768 r_779)) (b := r_783) (by omega)
            refine kx_if_ne 321 F 325 dX12_doomed_318 (by decide) rfl (by omega) (fun h_787 => ?_) (fun h_787 => ?_)
            · refine kx_iconst 326 F dX12_doomed_325 rfl ?_
              refine kx_Vi 329 (ci := 0) F (As := [vI 0]) (st := []) vd_X12_127 (c_X12_gives G l N_4 0 hI_N_4 (by omega)) kd_163 rfl rfl rfl ⟨by decide, by decide⟩ rfl rfl (Nat.le_of_ble_eq_true rfl) dX12_doomed_326 rfl ?_
              intro r_788 N_789 q_790
              obtain ⟨hI_N_789, hG_N_789, q_790c⟩ := q_790
              have hF_N_789 : Fr f_c_X12_doomed M N_789 := Fr.c hF_N_4 hG_N_789 rfl
              refine kx_topi (e' := 0) (by omega) ?_
              exact kx_iret F hQ ⟨hI_N_789, hF_N_789, (by omega)⟩ dX12_doomed_329
            · refine kx_iconst 322 F dX12_doomed_321 rfl ?_
              refine kx_goto 326 F dX12_doomed_322 (by decide) ?_
              refine kx_Vi 329 (ci := 0) F (As := [vI 1]) (st := []) vd_X12_127 (c_X12_gives G l N_4 1 hI_N_4 (by omega)) kd_163 rfl rfl rfl ⟨by decide, by decide⟩ rfl rfl (Nat.le_of_ble_eq_true rfl) dX12_doomed_326 rfl ?_
              intro r_791 N_792 q_793
              obtain ⟨hI_N_792, hG_N_792, q_793c⟩ := q_793
              have hF_N_792 : Fr f_c_X12_doomed M N_792 := Fr.c hF_N_4 hG_N_792 rfl
              refine kx_topi (e' := 1) (by omega) ?_
              exact kx_iret F hQ ⟨hI_N_792, hF_N_792, (by omega)⟩ dX12_doomed_329
          · refine kx_aload_n 153 F 0 dX12_doomed_152 rfl rfl rfl ?_
            refine kx_iload 155 F 6 dX12_doomed_153 rfl rfl ?_
            refine kx_Vi 158 (ci := 0) F (As := [vI x6_769]) (st := []) vd_X12_525 (c_belowRowE G l N_4 x6_769 hI_N_4 (by omega)) kd_163 rfl rfl rfl ⟨by decide, by decide⟩ rfl rfl (Nat.le_of_ble_eq_true rfl) dX12_doomed_155 rfl ?_
            intro r_794 N_795 q_796
            obtain ⟨rfl, q_796c⟩ := q_796
            refine kx_topi (e' := 3 * x6_769 + 10) (by omega) ?_
            refine kx_istore 160 F 7 (lo' := [some (vR G 163), some (vI (M 164 4)), some (vI x2_581), some (vI x3_766), some (vI x4_767), some (vI x5_768), some (vI x6_769), some (vI (3 * x6_769 + 10)), none, none]) dX12_doomed_158 (by decide) rfl rfl rfl ?_
            refine kx_iconst 161 F dX12_doomed_160 rfl ?_
            refine kx_istore 163 F 8 (lo' := [some (vR G 163), some (vI (M 164 4)), some (vI x2_581), some (vI x3_766), some (vI x4_767), some (vI x5_768), some (vI x6_769), some (vI (3 * x6_769 + 10)), some (vI 0), none]) dX12_doomed_161 (by decide) rfl rfl rfl ?_
            refine kx_aload_n 164 F 0 dX12_doomed_163 rfl rfl rfl ?_
            refine kx_getr 167 F fl_X12_7 kd_163 rfl rfl (j := 0) rfl dX12_doomed_164 (v := 164) (uq_164 (Inv.r hI_N_4 kd_163 rfl 0 rfl rfl)) rfl ?_
            refine kx_iconst 168 F dX12_doomed_167 rfl ?_
            refine kx_iald 169 F kd_164 rfl rfl (by omega) (by decide) dX12_doomed_168 (v := (M 164 0)) (by rw [Fr.e hG_N_4 kd_164 _ rfl]) rfl ?_
            have ha_797 : atlo 0 = 0 ∧ athi 0 = 2 := at_c 0 0 (o := 0) (lo := 0) (hi := 2) (by omega) (by decide) (by decide) (by decide)
            have h_798 := Inv.g hI_M kd_164 rfl 0 (a := 0) (b := 2) ha_797.1 ha_797.2
            refine kx_istore 171 F 9 (lo' := [some (vR G 163), some (vI (M 164 4)), some (vI x2_581), some (vI x3_766), some (vI x4_767), some (vI x5_768), some (vI x6_769), some (vI (3 * x6_769 + 10)), some (vI 0), some (vI (M 164 0))]) dX12_doomed_169 (by decide) rfl rfl rfl ?_
            have L_897 : ∀ (n_898 : Nat) (x8_895 : Int) (x9_896 : Int), 0 ≤ x8_895 ∧ x8_895 ≤ 511 ∧ 0 ≤ x9_896 ∧ x9_896 ≤ 4 ∧ (M 164 0) ≤ x9_896 → (4 - (x9_896)).toNat = n_898 → KJ true G X N_4 171 [some (vR G 163), some (vI (M 164 4)), some (vI x2_581), none, some (vI x4_767), some (vI x5_768), some (vI x6_769), some (vI (3 * x6_769 + 10)), some (vI x8_895), some (vI x9_896)] [] := by
              intro n_898
              refine Nat.strongRecOn n_898 ?_
              intro n_898 ih_899 x8_895 x9_896 h_900 hm_901
              refine kx_iload 173 F 9 dX12_doomed_171 rfl rfl ?_
              refine kx_aload_n 174 F 0 dX12_doomed_173 rfl rfl rfl ?_
              refine kx_getr 177 F fl_X12_7 kd_163 rfl rfl (j := 0) rfl dX12_doomed_174 (v := 164) (uq_164 (Inv.r hI_N_4 kd_163 rfl 0 rfl rfl)) rfl ?_
              refine kx_iconst 178 F dX12_doomed_177 rfl ?_
              refine kx_iald 179 F kd_164 rfl rfl (by omega) (by decide) dX12_doomed_178 (v := (M 164 0)) (by rw [Fr.e hG_N_4 kd_164 _ rfl]) rfl ?_
              refine kx_aload_n 180 F 0 dX12_doomed_179 rfl rfl rfl ?_
              refine kx_getr 183 F fl_X12_7 kd_163 rfl rfl (j := 0) rfl dX12_doomed_180 (v := 164) (uq_164 (Inv.r hI_N_4 kd_163 rfl 0 rfl rfl)) rfl ?_
              refine kx_iconst 184 F dX12_doomed_183 rfl ?_
              refine kx_iald 185 F kd_164 rfl rfl (by omega) (by decide) dX12_doomed_184 (v := (M 164 1)) (by rw [Fr.e hG_N_4 kd_164 _ rfl]) rfl ?_
              have ha_902 : atlo 1 = 0 ∧ athi 1 = 2 := at_c 1 0 (o := 1) (lo := 0) (hi := 2) (by omega) (by decide) (by decide) (by decide)
              have h_903 := Inv.g hI_M kd_164 rfl 1 (a := 0) (b := 2) ha_902.1 ha_902.2
              refine kx_iadd 186 F (v := (M 164 0) + (M 164 1)) dX12_doomed_185 rfl rfl ?_
              refine kx_icmp_ge 189 F 218 dX12_doomed_186 (by decide) rfl (by omega) (by omega) (fun h_904 => ?_) (fun h_904 => ?_)
              · refine kx_aload_n 219 F 0 dX12_doomed_218 rfl rfl rfl ?_
                refine kx_iload_n 220 F 1 dX12_doomed_219 rfl rfl rfl ?_
                refine kx_aload_n 221 F 0 dX12_doomed_220 rfl rfl rfl ?_
                refine kx_getr 224 F fl_X12_7 kd_163 rfl rfl (j := 0) rfl dX12_doomed_221 (v := 164) (uq_164 (Inv.r hI_N_4 kd_163 rfl 0 rfl rfl)) rfl ?_
                refine kx_iload 226 F 7 dX12_doomed_224 rfl rfl ?_
                refine kx_iald 227 F kd_164 rfl rfl (by omega) (by decide) dX12_doomed_226 (v := (M 164 (3 * x6_769 + 10))) (by rw [Fr.e hG_N_4 kd_164 _ rfl]) rfl ?_
                have ha_905 : atlo (3 * x6_769 + 10) = 0 ∧ athi (3 * x6_769 + 10) = 7 := at_b (3 * x6_769 + 10) 0 x6_769 0 (by omega) (by omega) (by decide)
                have h_906 := Inv.g hI_M kd_164 rfl (3 * x6_769 + 10) (a := 0) (b := 7) ha_905.1 ha_905.2
                refine kx_iload 229 F 8 dX12_doomed_227 rfl rfl ?_
                refine kx_Si 232 F (As := [vI (M 164 (3 * x6_769 + 10)), vI x8_895]) (st := [vI (M 164 4), vR G 163]) sd_X12_332 (c_X12_image G l N_4 (M 164 (3 * x6_769 + 10)) x8_895 hI_N_4 (by omega)) ⟨by decide, by decide⟩ rfl rfl (Nat.le_of_ble_eq_true rfl) dX12_doomed_229 rfl ?_
                intro r_907 N_908 q_909
                obtain ⟨rfl, q_909c⟩ := q_909
                refine kx_iload_n 233 F 2 dX12_doomed_232 rfl rfl rfl ?_
                refine kx_iconst 234 F dX12_doomed_233 rfl ?_
                refine kx_iconst 235 F dX12_doomed_234 rfl ?_
                refine kx_Vi 238 (ci := 0) F (As := [vI (M 164 4), vI r_907, vI x2_581, vI 0, vI 0]) (st := []) vd_X12_531 (c_X12_spread G l N_4 (M 164 4) r_907 x2_581 0 0 hI_N_4 (by omega)) kd_163 rfl rfl rfl ⟨by decide, by decide⟩ rfl rfl (Nat.le_of_ble_eq_true rfl) dX12_doomed_235 rfl ?_
                intro r_910 N_911 q_912
                obtain ⟨rfl, q_912c⟩ := q_912
                refine kx_istore_n 239 F 3 (lo' := [some (vR G 163), some (vI (M 164 4)), some (vI x2_581), some (vI r_910), some (vI x4_767), some (vI x5_768), some (vI x6_769), some (vI (3 * x6_769 + 10)), some (vI x8_895), some (vI x9_896)]) dX12_doomed_238 rfl (by decide) rfl rfl rfl ?_
                refine kx_aload_n 240 F 0 dX12_doomed_239 rfl rfl rfl ?_
                refine kx_getr 243 F fl_X12_7 kd_163 rfl rfl (j := 0) rfl dX12_doomed_240 (v := 164) (uq_164 (Inv.r hI_N_4 kd_163 rfl 0 rfl rfl)) rfl ?_
                refine kx_iload 245 F 7 dX12_doomed_243 rfl rfl ?_
                refine kx_iconst 246 F dX12_doomed_245 rfl ?_
                refine kx_iadd 247 F (v := 3 * x6_769 + 11) dX12_doomed_246 (by omega) rfl ?_
                refine kx_iald 248 F kd_164 rfl rfl (by omega) (by decide) dX12_doomed_247 (v := (M 164 (3 * x6_769 + 11))) (by rw [Fr.e hG_N_4 kd_164 _ rfl]) rfl ?_
                have ha_913 : atlo (3 * x6_769 + 11) = 0 ∧ athi (3 * x6_769 + 11) = 511 := at_b (3 * x6_769 + 11) 0 x6_769 1 (by omega) (by omega) (by decide)
                have h_914 := Inv.g hI_M kd_164 rfl (3 * x6_769 + 11) (a := 0) (b := 511) ha_913.1 ha_913.2
                refine kx_iload 250 F 8 dX12_doomed_248 rfl rfl ?_
                refine kx_Si 253 F (As := [vI (M 164 (3 * x6_769 + 11)), vI x8_895]) (st := []) sd_X12_326 (c_X12_then G l N_4 (M 164 (3 * x6_769 + 11)) x8_895 hI_N_4 (by omega)) ⟨by decide, by decide⟩ rfl rfl (Nat.le_of_ble_eq_true rfl) dX12_doomed_250 rfl ?_
                intro r_915 N_916 q_917
                obtain ⟨rfl, q_917c⟩ := q_917
                refine kx_istore 255 F 4 (lo' := [some (vR G 163), some (vI (M 164 4)), some (vI x2_581), some (vI r_910), some (vI r_915), some (vI x5_768), some (vI x6_769), some (vI (3 * x6_769 + 10)), some (vI x8_895), some (vI x9_896)]) dX12_doomed_253 (by decide) rfl rfl rfl ?_
                refine kx_iload 257 F 4 dX12_doomed_255 rfl rfl ?_
                refine kx_iload 259 F 4 dX12_doomed_257 rfl rfl ?_
                refine kx_iload_n 260 F 2 dX12_doomed_259 rfl rfl rfl ?_
                refine kx_Si 263 F (As := [vI r_915, vI x2_581]) (st := [vI r_915]) sd_X12_326 (c_X12_then G l N_4 r_915 x2_581 hI_N_4 (by omega)) ⟨by decide, by decide⟩ rfl rfl (Nat.le_of_ble_eq_true rfl) dX12_doomed_260 rfl ?_
                intro r_918 N_919 q_920
                obtain ⟨rfl, q_920c⟩ := q_920
                refine kx_ior 264 F (v := (zor r_915 r_918)) dX12_doomed_263 rfl rfl ?_
                have h_921 : 0 ≤ (zor r_915 r_918) ∧ (zor r_915 r_918) < 512 := zor_lt (a := r_915) (b := r_918) 9 (by decide) (by omega) (by omega)
                refine kx_istore 266 F 4 (lo' := [some (vR G 163), some (vI (M 164 4)), some (vI x2_581), some (vI r_910), some (vI (zor r_915 r_918)), some (vI x5_768), some (vI x6_769), some (vI (3 * x6_769 + 10)), some (vI x8_895), some (vI x9_896)]) dX12_doomed_264 (by decide) rfl rfl rfl ?_
                refine kx_iload 268 F 5 dX12_doomed_266 rfl rfl ?_
                refine kx_aload_n 269 F 0 dX12_doomed_268 rfl rfl rfl ?_
                refine kx_iload_n 270 F 1 dX12_doomed_269 rfl rfl rfl ?_
                refine kx_iload_n 271 F 3 dX12_doomed_270 rfl rfl rfl ?_
                refine kx_iload_n 272 F 2 dX12_doomed_271 rfl rfl rfl ?_
                refine kx_iconst 273 F dX12_doomed_272 rfl ?_
                refine kx_iconst 274 F dX12_doomed_273 rfl ?_
                refine kx_Vi 277 (ci := 0) F (As := [vI (M 164 4), vI r_910, vI x2_581, vI 0, vI 1]) (st := [vI x5_768]) vd_X12_531 (c_X12_spread G l N_4 (M 164 4) r_910 x2_581 0 1 hI_N_4 (by omega)) kd_163 rfl rfl rfl ⟨by decide, by decide⟩ rfl rfl (Nat.le_of_ble_eq_true rfl) dX12_doomed_274 rfl ?_
                intro r_922 N_923 q_924
                obtain ⟨rfl, q_924c⟩ := q_924
                refine kx_ior 278 F (v := (zor x5_768 r_922)) dX12_doomed_277 rfl rfl ?_
                have h_925 : 0 ≤ (zor x5_768 r_922) ∧ (zor x5_768 r_922) < 8 := zor_lt (a := x5_768) (b := r_922) 3 (by decide) (by omega) (by omega)
                refine kx_istore 280 F 5 (lo' := [some (vR G 163), some (vI (M 164 4)), some (vI x2_581), some (vI r_910), some (vI (zor r_915 r_918)), some (vI (zor x5_768 r_922)), some (vI x6_769), some (vI (3 * x6_769 + 10)), some (vI x8_895), some (vI x9_896)]) dX12_doomed_278 (by decide) rfl rfl rfl ?_
                refine kx_iinc 283 F 6 (v := x6_769 - 1) (lo' := [some (vR G 163), some (vI (M 164 4)), some (vI x2_581), some (vI r_910), some (vI (zor r_915 r_918)), some (vI (zor x5_768 r_922)), some (vI (x6_769 - 1)), some (vI (3 * x6_769 + 10)), some (vI x8_895), some (vI x9_896)]) dX12_doomed_280 rfl (by omega) (by decide) rfl rfl rfl ?_
                refine kx_goto 147 F dX12_doomed_283 (by decide) ?_
                refine kx_drop 7 (lo' := [some (vR G 163), some (vI (M 164 4)), some (vI x2_581), some (vI r_910), some (vI (zor r_915 r_918)), some (vI (zor x5_768 r_922)), some (vI (x6_769 - 1)), none, some (vI x8_895), some (vI x9_896)]) rfl ?_
                refine kx_drop 8 (lo' := [some (vR G 163), some (vI (M 164 4)), some (vI x2_581), some (vI r_910), some (vI (zor r_915 r_918)), some (vI (zor x5_768 r_922)), some (vI (x6_769 - 1)), none, none, some (vI x9_896)]) rfl ?_
                refine kx_drop 9 (lo' := [some (vR G 163), some (vI (M 164 4)), some (vI x2_581), some (vI r_910), some (vI (zor r_915 r_918)), some (vI (zor x5_768 r_922)), some (vI (x6_769 - 1)), none, none, none]) rfl ?_
                exact ih_772 _ (by omega) r_910 (zor r_915 r_918) (zor x5_768 r_922) (x6_769 - 1) (by omega) rfl
              · refine kx_iload 191 F 8 dX12_doomed_189 rfl rfl ?_
                refine kx_aload_n 192 F 0 dX12_doomed_191 rfl rfl rfl ?_
                refine kx_iload_n 193 F 1 dX12_doomed_192 rfl rfl rfl ?_
                refine kx_iload 195 F 4 dX12_doomed_193 rfl rfl ?_
                refine kx_aload_n 196 F 0 dX12_doomed_195 rfl rfl rfl ?_
                refine kx_getr 199 F fl_X12_7 kd_163 rfl rfl (j := 0) rfl dX12_doomed_196 (v := 164) (uq_164 (Inv.r hI_N_4 kd_163 rfl 0 rfl rfl)) rfl ?_
                refine kx_iload 201 F 7 dX12_doomed_199 rfl rfl ?_
                refine kx_iconst 202 F dX12_doomed_201 rfl ?_
                refine kx_iadd 203 F (v := 3 * x6_769 + 12) dX12_doomed_202 (by omega) rfl ?_
                refine kx_iald 204 F kd_164 rfl rfl (by omega) (by decide) dX12_doomed_203 (v := (M 164 (3 * x6_769 + 12))) (by rw [Fr.e hG_N_4 kd_164 _ rfl]) rfl ?_
                have ha_926 : atlo (3 * x6_769 + 12) = 0 ∧ athi (3 * x6_769 + 12) = 5 := at_b (3 * x6_769 + 12) 0 x6_769 2 (by omega) (by omega) (by decide)
                have h_927 := Inv.g hI_M kd_164 rfl (3 * x6_769 + 12) (a := 0) (b := 5) ha_926.1 ha_926.2
                refine kx_iload 206 F 9 dX12_doomed_204 rfl rfl ?_
                refine kx_Vi 209 (ci := 0) F (As := [vI (M 164 4), vI x4_767, vI (M 164 (3 * x6_769 + 12)), vI x9_896]) (st := [vI x8_895]) vd_X12_335 (c_X12_over G l N_4 (M 164 4) x4_767 (M 164 (3 * x6_769 + 12)) x9_896 hI_N_4 (by omega)) kd_163 rfl rfl rfl ⟨by decide, by decide⟩ rfl rfl (Nat.le_of_ble_eq_true rfl) dX12_doomed_206 rfl ?_
                intro r_928 N_929 q_930
                obtain ⟨rfl, q_930c⟩ := q_930
                refine kx_ior 210 F (v := (zor x8_895 r_928)) dX12_doomed_209 rfl rfl ?_
                have h_931 : 0 ≤ (zor x8_895 r_928) ∧ (zor x8_895 r_928) < 512 := zor_lt (a := x8_895) (b := r_928) 9 (by decide) (by omega) (by omega)
                refine kx_istore 212 F 8 (lo' := [some (vR G 163), some (vI (M 164 4)), some (vI x2_581), none, some (vI x4_767), some (vI x5_768), some (vI x6_769), some (vI (3 * x6_769 + 10)), some (vI (zor x8_895 r_928)), some (vI x9_896)]) dX12_doomed_210 (by decide) rfl rfl rfl ?_
                refine kx_iinc 215 F 9 (v := x9_896 + 1) (lo' := [some (vR G 163), some (vI (M 164 4)), some (vI x2_581), none, some (vI x4_767), some (vI x5_768), some (vI x6_769), some (vI (3 * x6_769 + 10)), some (vI (zor x8_895 r_928)), some (vI (x9_896 + 1))]) dX12_doomed_212 rfl (by omega) (by decide) rfl rfl rfl ?_
                refine kx_goto 171 F dX12_doomed_215 (by decide) ?_
                exact ih_899 _ (by omega) (zor x8_895 r_928) (x9_896 + 1) (by omega) rfl
            refine kx_drop 3 (lo' := [some (vR G 163), some (vI (M 164 4)), some (vI x2_581), none, some (vI x4_767), some (vI x5_768), some (vI x6_769), some (vI (3 * x6_769 + 10)), some (vI 0), some (vI (M 164 0))]) rfl ?_
            exact L_897 _ 0 (M 164 0) (by omega) rfl
        exact L_770 _ r_591 (zor (M 164 8) r_596) r_600 ((M 164 6) - 1) (by omega) rfl
      · refine kx_iconst 35 F dX12_doomed_34 rfl ?_
        refine kx_istore 37 F 4 (lo' := [some (vR G 163), some (vI (M 164 4)), some (vI x2_581), some (vI x3_582), some (vI 0), none, none, none, none, none]) dX12_doomed_35 (by decide) rfl rfl rfl ?_
        have L_974 : ∀ (n_975 : Nat) (x2_972 : Int) (x4_973 : Int), 0 ≤ x2_972 ∧ x2_972 ≤ 511 ∧ 0 ≤ x4_973 ∧ x4_973 ≤ 3 → (3 - (x4_973)).toNat = n_975 → KJ true G X N_4 37 [some (vR G 163), some (vI (M 164 4)), some (vI x2_972), some (vI x3_582), some (vI x4_973), none, none, none, none, none] [] := by
          intro n_975
          refine Nat.strongRecOn n_975 ?_
          intro n_975 ih_976 x2_972 x4_973 h_977 hm_978
          refine kx_iload 39 F 4 dX12_doomed_37 rfl rfl ?_
          refine kx_iconst 40 F dX12_doomed_39 rfl ?_
          refine kx_icmp_ge 43 F 82 dX12_doomed_40 (by decide) rfl (by omega) (by decide) (fun h_979 => ?_) (fun h_979 => ?_)
          · refine kx_iinc 85 F 3 (v := x3_582 + 1) (lo' := [some (vR G 163), some (vI (M 164 4)), some (vI x2_972), some (vI (x3_582 + 1)), some (vI x4_973), none, none, none, none, none]) dX12_doomed_82 rfl (by omega) (by decide) rfl rfl rfl ?_
            refine kx_goto 29 F dX12_doomed_85 (by decide) ?_
            refine kx_drop 4 (lo' := [some (vR G 163), some (vI (M 164 4)), some (vI x2_972), some (vI (x3_582 + 1)), none, none, none, none, none, none]) rfl ?_
            exact ih_585 _ (by omega) x2_972 (x3_582 + 1) (by omega) rfl
          · refine kx_iload_n 44 F 2 dX12_doomed_43 rfl rfl rfl ?_
            refine kx_aload_n 45 F 0 dX12_doomed_44 rfl rfl rfl ?_
            refine kx_getr 48 F fl_X12_80 kd_163 rfl rfl (j := 36) rfl dX12_doomed_45 (v := 183) (uq_183 (Inv.r hI_N_4 kd_163 rfl 36 rfl rfl)) rfl ?_
            refine kx_bipush 50 F dX12_doomed_48 (by decide) rfl ?_
            refine kx_iload_n 51 F 3 dX12_doomed_50 rfl rfl rfl ?_
            refine kx_imul 52 F (v := 27 * x3_582) dX12_doomed_51 (by omega) rfl ?_
            refine kx_iconst 53 F dX12_doomed_52 rfl ?_
            refine kx_iload 55 F 4 dX12_doomed_53 rfl rfl ?_
            refine kx_imul 56 F (v := 3 * x4_973) dX12_doomed_55 (by omega) rfl ?_
            refine kx_iadd 57 F (v := 27 * x3_582 + 3 * x4_973) dX12_doomed_56 (by omega) rfl ?_
            refine kx_iald 58 F kd_183 rfl rfl (by omega) (by decide) dX12_doomed_57 (v := (N_4 183 (27 * x3_582 + 3 * x4_973))) rfl rfl ?_
            have h_980 := Inv.g hI_N_4 kd_183 rfl (27 * x3_582 + 3 * x4_973) (a := 0) (b := 1000000) rfl rfl
            refine kx_ldcw 61 (z := 1000000) F dX12_doomed_58 ct_X12_428 rfl ?_
            have J_990 : ∀ (y0_989 : Int), 0 ≤ y0_989 ∧ y0_989 ≤ 256 → KJ true G X N_4 74 [some (vR G 163), some (vI (M 164 4)), none, some (vI x3_582), some (vI x4_973), none, none, none, none, none] [vI y0_989, vI x2_972] := by
              intro y0_989 h_991
              refine kx_ior 75 F (v := (zor x2_972 y0_989)) dX12_doomed_74 rfl rfl ?_
              have h_992 : 0 ≤ (zor x2_972 y0_989) ∧ (zor x2_972 y0_989) < 512 := zor_lt (a := x2_972) (b := y0_989) 9 (by decide) (by omega) (by omega)
              refine kx_istore_n 76 F 2 (lo' := [some (vR G 163), some (vI (M 164 4)), some (vI (zor x2_972 y0_989)), some (vI x3_582), some (vI x4_973), none, none, none, none, none]) dX12_doomed_75 rfl (by decide) rfl rfl rfl ?_
              refine kx_iinc 79 F 4 (v := x4_973 + 1) (lo' := [some (vR G 163), some (vI (M 164 4)), some (vI (zor x2_972 y0_989)), some (vI x3_582), some (vI (x4_973 + 1)), none, none, none, none, none]) dX12_doomed_76 rfl (by omega) (by decide) rfl rfl rfl ?_
              refine kx_goto 37 F dX12_doomed_79 (by decide) ?_
              exact ih_976 _ (by omega) (zor x2_972 y0_989) (x4_973 + 1) (by omega) rfl
            refine kx_icmp_ge 64 F 73 dX12_doomed_61 (by decide) rfl (by omega) (by decide) (fun h_993 => ?_) (fun h_993 => ?_)
            · refine kx_iconst 74 F dX12_doomed_73 rfl ?_
              refine kx_drop 2 (lo' := [some (vR G 163), some (vI (M 164 4)), none, some (vI x3_582), some (vI x4_973), none, none, none, none, none]) rfl ?_
              exact J_990 0 (by omega)
            · refine kx_iload_n 65 F 3 dX12_doomed_64 rfl rfl rfl ?_
              refine kx_iload 67 F 4 dX12_doomed_65 rfl rfl ?_
              refine kx_Si 70 F (As := [vI x3_582, vI x4_973]) (st := [vI x2_972]) sd_X12_316 (c_X12_pair G l N_4 x3_582 x4_973 hI_N_4 (by omega)) ⟨by decide, by decide⟩ rfl rfl (Nat.le_of_ble_eq_true rfl) dX12_doomed_67 rfl ?_
              intro r_994 N_995 q_996
              obtain ⟨rfl, q_996c⟩ := q_996
              refine kx_goto 74 F dX12_doomed_70 (by decide) ?_
              refine kx_drop 2 (lo' := [some (vR G 163), some (vI (M 164 4)), none, some (vI x3_582), some (vI x4_973), none, none, none, none, none]) rfl ?_
              exact J_990 r_994 (by omega)
        exact L_974 _ x2_581 0 (by omega) rfl
    exact L_583 _ 0 0 (by omega) rfl
  · refine kx_aload_n 13 F 0 dX12_doomed_12 rfl rfl rfl ?_
    refine kx_bipush 15 F dX12_doomed_13 (by decide) rfl ?_
    refine kx_Vi 18 (ci := 0) F (As := [vI 6]) (st := []) vd_X12_123 (c_X12_refuse G l M 6 hI_M (by omega)) kd_163 rfl rfl rfl ⟨by decide, by decide⟩ rfl rfl (Nat.le_of_ble_eq_true rfl) dX12_doomed_15 rfl ?_
    intro r_997 N_998 q_999
    obtain ⟨hI_N_998, hG_N_998, q_999c⟩ := q_999
    have hF_N_998 : Fr f_c_X12_doomed M N_998 := Fr.c hF_M hG_N_998 rfl
    subst q_999c
    exact kx_iret F hQ ⟨hI_N_998, hF_N_998, (by omega)⟩ dX12_doomed_18
