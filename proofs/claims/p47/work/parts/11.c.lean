set_option maxRecDepth 100000 in
theorem dGR_11_c_81 : (decode cX5_couldHave 0 = .ok (.aload_n 0, 1)) ∧ (decode cX5_couldHave 1 = .ok (.iload_n 2, 1)) ∧ (decode cX5_couldHave 2 = .ok (.invokevirtual 51, 3)) ∧ (decode cX5_couldHave 5 = .ok (.ifCond .eq 20, 3)) ∧ (decode cX5_couldHave 8 = .ok (.aload_n 1, 1)) ∧ (decode cX5_couldHave 9 = .ok (.iload_n 3, 1)) ∧ (decode cX5_couldHave 10 = .ok (.invokevirtual 55, 3)) ∧ (decode cX5_couldHave 13 = .ok (.ifCond .eq 12, 3)) ∧ (decode cX5_couldHave 16 = .ok (.aload_n 1, 1)) ∧ (decode cX5_couldHave 17 = .ok (.iload 4, 2)) ∧ (decode cX5_couldHave 19 = .ok (.invokevirtual 55, 3)) ∧ (decode cX5_couldHave 22 = .ok (.ifCond .ne 5, 3)) := by decide +kernel
theorem dX5_couldHave_0 : decode cX5_couldHave 0 = .ok (.aload_n 0, 1) := dGR_11_c_81.1
theorem dX5_couldHave_1 : decode cX5_couldHave 1 = .ok (.iload_n 2, 1) := dGR_11_c_81.2.1
theorem dX5_couldHave_2 : decode cX5_couldHave 2 = .ok (.invokevirtual 51, 3) := dGR_11_c_81.2.2.1
theorem dX5_couldHave_5 : decode cX5_couldHave 5 = .ok (.ifCond .eq 20, 3) := dGR_11_c_81.2.2.2.1
theorem dX5_couldHave_8 : decode cX5_couldHave 8 = .ok (.aload_n 1, 1) := dGR_11_c_81.2.2.2.2.1
theorem dX5_couldHave_9 : decode cX5_couldHave 9 = .ok (.iload_n 3, 1) := dGR_11_c_81.2.2.2.2.2.1
theorem dX5_couldHave_10 : decode cX5_couldHave 10 = .ok (.invokevirtual 55, 3) := dGR_11_c_81.2.2.2.2.2.2.1
theorem dX5_couldHave_13 : decode cX5_couldHave 13 = .ok (.ifCond .eq 12, 3) := dGR_11_c_81.2.2.2.2.2.2.2.1
theorem dX5_couldHave_16 : decode cX5_couldHave 16 = .ok (.aload_n 1, 1) := dGR_11_c_81.2.2.2.2.2.2.2.2.1
theorem dX5_couldHave_17 : decode cX5_couldHave 17 = .ok (.iload 4, 2) := dGR_11_c_81.2.2.2.2.2.2.2.2.2.1
theorem dX5_couldHave_19 : decode cX5_couldHave 19 = .ok (.invokevirtual 55, 3) := dGR_11_c_81.2.2.2.2.2.2.2.2.2.2.1
theorem dX5_couldHave_22 : decode cX5_couldHave 22 = .ok (.ifCond .ne 5, 3) := dGR_11_c_81.2.2.2.2.2.2.2.2.2.2.2
set_option maxRecDepth 100000 in
theorem dGR_11_c_82 : (decode cX5_couldHave 25 = .ok (.iconst 0, 1)) ∧ (decode cX5_couldHave 26 = .ok (.ireturn, 1)) ∧ (decode cX5_couldHave 27 = .ok (.aload_n 0, 1)) ∧ (decode cX5_couldHave 28 = .ok (.iload_n 2, 1)) ∧ (decode cX5_couldHave 29 = .ok (.invokevirtual 58, 3)) ∧ (decode cX5_couldHave 32 = .ok (.istore 6, 2)) ∧ (decode cX5_couldHave 34 = .ok (.iload 5, 2)) ∧ (decode cX5_couldHave 36 = .ok (.iconst (-1), 1)) ∧ (decode cX5_couldHave 37 = .ok (.if_icmp .ne 14, 3)) ∧ (decode cX5_couldHave 40 = .ok (.iload 6, 2)) ∧ (decode cX5_couldHave 42 = .ok (.ifCond .eq 7, 3)) ∧ (decode cX5_couldHave 45 = .ok (.iconst 1, 1)) := by decide +kernel
theorem dX5_couldHave_25 : decode cX5_couldHave 25 = .ok (.iconst 0, 1) := dGR_11_c_82.1
theorem dX5_couldHave_26 : decode cX5_couldHave 26 = .ok (.ireturn, 1) := dGR_11_c_82.2.1
theorem dX5_couldHave_27 : decode cX5_couldHave 27 = .ok (.aload_n 0, 1) := dGR_11_c_82.2.2.1
theorem dX5_couldHave_28 : decode cX5_couldHave 28 = .ok (.iload_n 2, 1) := dGR_11_c_82.2.2.2.1
theorem dX5_couldHave_29 : decode cX5_couldHave 29 = .ok (.invokevirtual 58, 3) := dGR_11_c_82.2.2.2.2.1
theorem dX5_couldHave_32 : decode cX5_couldHave 32 = .ok (.istore 6, 2) := dGR_11_c_82.2.2.2.2.2.1
theorem dX5_couldHave_34 : decode cX5_couldHave 34 = .ok (.iload 5, 2) := dGR_11_c_82.2.2.2.2.2.2.1
theorem dX5_couldHave_36 : decode cX5_couldHave 36 = .ok (.iconst (-1), 1) := dGR_11_c_82.2.2.2.2.2.2.2.1
theorem dX5_couldHave_37 : decode cX5_couldHave 37 = .ok (.if_icmp .ne 14, 3) := dGR_11_c_82.2.2.2.2.2.2.2.2.1
theorem dX5_couldHave_40 : decode cX5_couldHave 40 = .ok (.iload 6, 2) := dGR_11_c_82.2.2.2.2.2.2.2.2.2.1
theorem dX5_couldHave_42 : decode cX5_couldHave 42 = .ok (.ifCond .eq 7, 3) := dGR_11_c_82.2.2.2.2.2.2.2.2.2.2.1
theorem dX5_couldHave_45 : decode cX5_couldHave 45 = .ok (.iconst 1, 1) := dGR_11_c_82.2.2.2.2.2.2.2.2.2.2.2
set_option maxRecDepth 100000 in
theorem dGR_11_c_83 : (decode cX5_couldHave 46 = .ok (.goto 4, 3)) ∧ (decode cX5_couldHave 49 = .ok (.iconst 0, 1)) ∧ (decode cX5_couldHave 50 = .ok (.ireturn, 1)) ∧ (decode cX5_couldHave 51 = .ok (.iload 6, 2)) ∧ (decode cX5_couldHave 53 = .ok (.iconst 2, 1)) ∧ (decode cX5_couldHave 54 = .ok (.if_icmp .eq 16, 3)) ∧ (decode cX5_couldHave 57 = .ok (.aload_n 1, 1)) ∧ (decode cX5_couldHave 58 = .ok (.iload 5, 2)) ∧ (decode cX5_couldHave 60 = .ok (.invokevirtual 62, 3)) ∧ (decode cX5_couldHave 63 = .ok (.ifCond .eq 7, 3)) ∧ (decode cX5_couldHave 66 = .ok (.iconst 1, 1)) ∧ (decode cX5_couldHave 67 = .ok (.goto 4, 3)) := by decide +kernel
theorem dX5_couldHave_46 : decode cX5_couldHave 46 = .ok (.goto 4, 3) := dGR_11_c_83.1
theorem dX5_couldHave_49 : decode cX5_couldHave 49 = .ok (.iconst 0, 1) := dGR_11_c_83.2.1
theorem dX5_couldHave_50 : decode cX5_couldHave 50 = .ok (.ireturn, 1) := dGR_11_c_83.2.2.1
theorem dX5_couldHave_51 : decode cX5_couldHave 51 = .ok (.iload 6, 2) := dGR_11_c_83.2.2.2.1
theorem dX5_couldHave_53 : decode cX5_couldHave 53 = .ok (.iconst 2, 1) := dGR_11_c_83.2.2.2.2.1
theorem dX5_couldHave_54 : decode cX5_couldHave 54 = .ok (.if_icmp .eq 16, 3) := dGR_11_c_83.2.2.2.2.2.1
theorem dX5_couldHave_57 : decode cX5_couldHave 57 = .ok (.aload_n 1, 1) := dGR_11_c_83.2.2.2.2.2.2.1
theorem dX5_couldHave_58 : decode cX5_couldHave 58 = .ok (.iload 5, 2) := dGR_11_c_83.2.2.2.2.2.2.2.1
theorem dX5_couldHave_60 : decode cX5_couldHave 60 = .ok (.invokevirtual 62, 3) := dGR_11_c_83.2.2.2.2.2.2.2.2.1
theorem dX5_couldHave_63 : decode cX5_couldHave 63 = .ok (.ifCond .eq 7, 3) := dGR_11_c_83.2.2.2.2.2.2.2.2.2.1
theorem dX5_couldHave_66 : decode cX5_couldHave 66 = .ok (.iconst 1, 1) := dGR_11_c_83.2.2.2.2.2.2.2.2.2.2.1
theorem dX5_couldHave_67 : decode cX5_couldHave 67 = .ok (.goto 4, 3) := dGR_11_c_83.2.2.2.2.2.2.2.2.2.2.2
theorem dX5_couldHave_70 : decode cX5_couldHave 70 = .ok (.iconst 0, 1) := by decide +kernel
theorem dX5_couldHave_71 : decode cX5_couldHave 71 = .ok (.ireturn, 1) := by decide +kernel
set_option maxRecDepth 100000 in
theorem dGR_11_c_84 : (decode cX5_overAny 0 = .ok (.iconst 0, 1)) ∧ (decode cX5_overAny 1 = .ok (.istore 4, 2)) ∧ (decode cX5_overAny 3 = .ok (.aload_n 0, 1)) ∧ (decode cX5_overAny 4 = .ok (.getfield 28, 3)) ∧ (decode cX5_overAny 7 = .ok (.istore 5, 2)) ∧ (decode cX5_overAny 9 = .ok (.iload 5, 2)) ∧ (decode cX5_overAny 11 = .ok (.aload_n 0, 1)) ∧ (decode cX5_overAny 12 = .ok (.getfield 32, 3)) ∧ (decode cX5_overAny 15 = .ok (.if_icmp .ge 22, 3)) ∧ (decode cX5_overAny 18 = .ok (.iload 4, 2)) ∧ (decode cX5_overAny 20 = .ok (.aload_n 1, 1)) ∧ (decode cX5_overAny 21 = .ok (.iload_n 2, 1)) := by decide +kernel
theorem dX5_overAny_0 : decode cX5_overAny 0 = .ok (.iconst 0, 1) := dGR_11_c_84.1
theorem dX5_overAny_1 : decode cX5_overAny 1 = .ok (.istore 4, 2) := dGR_11_c_84.2.1
theorem dX5_overAny_3 : decode cX5_overAny 3 = .ok (.aload_n 0, 1) := dGR_11_c_84.2.2.1
theorem dX5_overAny_4 : decode cX5_overAny 4 = .ok (.getfield 28, 3) := dGR_11_c_84.2.2.2.1
theorem dX5_overAny_7 : decode cX5_overAny 7 = .ok (.istore 5, 2) := dGR_11_c_84.2.2.2.2.1
theorem dX5_overAny_9 : decode cX5_overAny 9 = .ok (.iload 5, 2) := dGR_11_c_84.2.2.2.2.2.1
theorem dX5_overAny_11 : decode cX5_overAny 11 = .ok (.aload_n 0, 1) := dGR_11_c_84.2.2.2.2.2.2.1
theorem dX5_overAny_12 : decode cX5_overAny 12 = .ok (.getfield 32, 3) := dGR_11_c_84.2.2.2.2.2.2.2.1
theorem dX5_overAny_15 : decode cX5_overAny 15 = .ok (.if_icmp .ge 22, 3) := dGR_11_c_84.2.2.2.2.2.2.2.2.1
theorem dX5_overAny_18 : decode cX5_overAny 18 = .ok (.iload 4, 2) := dGR_11_c_84.2.2.2.2.2.2.2.2.2.1
theorem dX5_overAny_20 : decode cX5_overAny 20 = .ok (.aload_n 1, 1) := dGR_11_c_84.2.2.2.2.2.2.2.2.2.2.1
theorem dX5_overAny_21 : decode cX5_overAny 21 = .ok (.iload_n 2, 1) := dGR_11_c_84.2.2.2.2.2.2.2.2.2.2.2
set_option maxRecDepth 100000 in
theorem dGR_11_c_85 : (decode cX5_overAny 22 = .ok (.iload 5, 2)) ∧ (decode cX5_overAny 24 = .ok (.iload_n 3, 1)) ∧ (decode cX5_overAny 25 = .ok (.invokevirtual 85, 3)) ∧ (decode cX5_overAny 28 = .ok (.ior, 1)) ∧ (decode cX5_overAny 29 = .ok (.istore 4, 2)) ∧ (decode cX5_overAny 31 = .ok (.iinc 5 1, 3)) ∧ (decode cX5_overAny 34 = .ok (.goto (-25), 3)) ∧ (decode cX5_overAny 37 = .ok (.iload 4, 2)) ∧ (decode cX5_overAny 39 = .ok (.ireturn, 1)) := by decide +kernel
theorem dX5_overAny_22 : decode cX5_overAny 22 = .ok (.iload 5, 2) := dGR_11_c_85.1
theorem dX5_overAny_24 : decode cX5_overAny 24 = .ok (.iload_n 3, 1) := dGR_11_c_85.2.1
theorem dX5_overAny_25 : decode cX5_overAny 25 = .ok (.invokevirtual 85, 3) := dGR_11_c_85.2.2.1
theorem dX5_overAny_28 : decode cX5_overAny 28 = .ok (.ior, 1) := dGR_11_c_85.2.2.2.1
theorem dX5_overAny_29 : decode cX5_overAny 29 = .ok (.istore 4, 2) := dGR_11_c_85.2.2.2.2.1
theorem dX5_overAny_31 : decode cX5_overAny 31 = .ok (.iinc 5 1, 3) := dGR_11_c_85.2.2.2.2.2.1
theorem dX5_overAny_34 : decode cX5_overAny 34 = .ok (.goto (-25), 3) := dGR_11_c_85.2.2.2.2.2.2.1
theorem dX5_overAny_37 : decode cX5_overAny 37 = .ok (.iload 4, 2) := dGR_11_c_85.2.2.2.2.2.2.2.1
theorem dX5_overAny_39 : decode cX5_overAny 39 = .ok (.ireturn, 1) := dGR_11_c_85.2.2.2.2.2.2.2.2
set_option maxHeartbeats 4000000 in
set_option maxRecDepth 100000 in
theorem c_X5_overAny (G : KG) (l : Launch) (M : Mem) (c0 : Int) (c1 : Int) (a2 : Int) (a3 : Int) (hI_M : Inv false M) (hk_c0 : kd c0 = 12) (hk_c1 : kd c1 = 1) (hpre : -2147483648 ≤ a2 ∧ a2 ≤ 2147483647 ∧ -2147483648 ≤ a3 ∧ a3 ≤ 2147483647 ∧ 0 ≤ a2 ∧ a2 ≤ 5) : KC false G l yX5_overAny cX5_overAny 6 (some .int) (2, 48) [vR G c0, vR G c1, vI a2, vI a3] M (fun A => kQi false G A (fun (r : Int) (N : Mem) => M = N ∧ (0 ≤ r ∧ r ≤ 511))) := by
  refine kx_met (lo := [some (vR G c0), some (vR G c1), some (vI a2), some (vI a3), none, none]) (by decide) (Nat.le_of_ble_eq_true rfl) rfl ?_
  intro X F hQ
  refine kx_iconst 1 F dX5_overAny_0 rfl ?_
  refine kx_istore 3 F 4 (lo' := [some (vR G c0), some (vR G c1), some (vI a2), some (vI a3), some (vI 0), none]) dX5_overAny_1 (by decide) rfl rfl rfl ?_
  refine kx_aload_n 4 F 0 dX5_overAny_3 rfl rfl rfl ?_
  refine kx_geti 7 F fl_X5_28 hk_c0 rfl rfl (j := 0) rfl dX5_overAny_4 (v := (M c0 0)) rfl rfl ?_
  have h_1 := Inv.g hI_M hk_c0 rfl 0 (a := 0) (b := 2) rfl rfl
  refine kx_istore 9 F 5 (lo' := [some (vR G c0), some (vR G c1), some (vI a2), some (vI a3), some (vI 0), some (vI (M c0 0))]) dX5_overAny_7 (by decide) rfl rfl rfl ?_
  have L_28 : ∀ (n_29 : Nat) (x4_26 : Int) (x5_27 : Int), 0 ≤ x4_26 ∧ x4_26 ≤ 511 ∧ 0 ≤ x5_27 ∧ x5_27 ≤ 4 ∧ (M c0 0) ≤ x5_27 → (4 - (x5_27)).toNat = n_29 → KJ false G X M 9 [some (vR G c0), some (vR G c1), some (vI a2), some (vI a3), some (vI x4_26), some (vI x5_27)] [] := by
    intro n_29
    refine Nat.strongRecOn n_29 ?_
    intro n_29 ih_30 x4_26 x5_27 h_31 hm_32
    refine kx_iload 11 F 5 dX5_overAny_9 rfl rfl ?_
    refine kx_aload_n 12 F 0 dX5_overAny_11 rfl rfl rfl ?_
    refine kx_geti 15 F fl_X5_32 hk_c0 rfl rfl (j := 1) rfl dX5_overAny_12 (v := (M c0 1)) rfl rfl ?_
    have h_33 := Inv.g hI_M hk_c0 rfl 1 (a := 0) (b := 4) rfl rfl
    refine kx_icmp_ge 18 F 37 dX5_overAny_15 (by decide) rfl (by omega) (by omega) (fun h_34 => ?_) (fun h_34 => ?_)
    · refine kx_iload 39 F 4 dX5_overAny_37 rfl rfl ?_
      exact kx_iret F hQ ⟨rfl, (by omega)⟩ dX5_overAny_39
    · refine kx_iload 20 F 4 dX5_overAny_18 rfl rfl ?_
      refine kx_aload_n 21 F 1 dX5_overAny_20 rfl rfl rfl ?_
      refine kx_iload_n 22 F 2 dX5_overAny_21 rfl rfl rfl ?_
      refine kx_iload 24 F 5 dX5_overAny_22 rfl rfl ?_
      refine kx_iload_n 25 F 3 dX5_overAny_24 rfl rfl rfl ?_
      refine kx_Vi 28 (ci := 0) F (As := [vI a2, vI x5_27, vI a3]) (st := [vI x4_26]) vd_X5_85 (c_X0_over G l M c1 a2 x5_27 a3 hI_M hk_c1 (by omega)) hk_c1 rfl rfl rfl ⟨by decide, by decide⟩ rfl rfl (Nat.le_of_ble_eq_true rfl) dX5_overAny_25 rfl ?_
      intro r_35 N_36 q_37
      obtain ⟨rfl, q_37c⟩ := q_37
      refine kx_ior 29 F (v := (zor x4_26 r_35)) dX5_overAny_28 rfl rfl ?_
      have h_38 : 0 ≤ (zor x4_26 r_35) ∧ (zor x4_26 r_35) < 512 := zor_lt (a := x4_26) (b := r_35) 9 (by decide) (by omega) (by omega)
      refine kx_istore 31 F 4 (lo' := [some (vR G c0), some (vR G c1), some (vI a2), some (vI a3), some (vI (zor x4_26 r_35)), some (vI x5_27)]) dX5_overAny_29 (by decide) rfl rfl rfl ?_
      refine kx_iinc 34 F 5 (v := x5_27 + 1) (lo' := [some (vR G c0), some (vR G c1), some (vI a2), some (vI a3), some (vI (zor x4_26 r_35)), some (vI (x5_27 + 1))]) dX5_overAny_31 rfl (by omega) (by decide) rfl rfl rfl ?_
      refine kx_goto 9 F dX5_overAny_34 (by decide) ?_
      exact ih_30 _ (by omega) (zor x4_26 r_35) (x5_27 + 1) (by omega) rfl
  exact L_28 _ 0 (M c0 0) (by omega) rfl
set_option maxRecDepth 100000 in
theorem dGR_11_c_86 : (decode cX5_wellPairs 0 = .ok (.aload_n 1, 1)) ∧ (decode cX5_wellPairs 1 = .ok (.getfield 65, 3)) ∧ (decode cX5_wellPairs 4 = .ok (.invokestatic 68, 3)) ∧ (decode cX5_wellPairs 7 = .ok (.istore_n 2, 1)) ∧ (decode cX5_wellPairs 8 = .ok (.iconst 0, 1)) ∧ (decode cX5_wellPairs 9 = .ok (.istore_n 3, 1)) ∧ (decode cX5_wellPairs 10 = .ok (.iload_n 3, 1)) ∧ (decode cX5_wellPairs 11 = .ok (.bipush 10, 2)) ∧ (decode cX5_wellPairs 13 = .ok (.if_icmp .ge 99, 3)) ∧ (decode cX5_wellPairs 16 = .ok (.iload_n 2, 1)) ∧ (decode cX5_wellPairs 17 = .ok (.istore 4, 2)) ∧ (decode cX5_wellPairs 19 = .ok (.aload_n 0, 1)) := by decide +kernel
theorem dX5_wellPairs_0 : decode cX5_wellPairs 0 = .ok (.aload_n 1, 1) := dGR_11_c_86.1
theorem dX5_wellPairs_1 : decode cX5_wellPairs 1 = .ok (.getfield 65, 3) := dGR_11_c_86.2.1
theorem dX5_wellPairs_4 : decode cX5_wellPairs 4 = .ok (.invokestatic 68, 3) := dGR_11_c_86.2.2.1
theorem dX5_wellPairs_7 : decode cX5_wellPairs 7 = .ok (.istore_n 2, 1) := dGR_11_c_86.2.2.2.1
theorem dX5_wellPairs_8 : decode cX5_wellPairs 8 = .ok (.iconst 0, 1) := dGR_11_c_86.2.2.2.2.1
theorem dX5_wellPairs_9 : decode cX5_wellPairs 9 = .ok (.istore_n 3, 1) := dGR_11_c_86.2.2.2.2.2.1
theorem dX5_wellPairs_10 : decode cX5_wellPairs 10 = .ok (.iload_n 3, 1) := dGR_11_c_86.2.2.2.2.2.2.1
theorem dX5_wellPairs_11 : decode cX5_wellPairs 11 = .ok (.bipush 10, 2) := dGR_11_c_86.2.2.2.2.2.2.2.1
theorem dX5_wellPairs_13 : decode cX5_wellPairs 13 = .ok (.if_icmp .ge 99, 3) := dGR_11_c_86.2.2.2.2.2.2.2.2.1
theorem dX5_wellPairs_16 : decode cX5_wellPairs 16 = .ok (.iload_n 2, 1) := dGR_11_c_86.2.2.2.2.2.2.2.2.2.1
theorem dX5_wellPairs_17 : decode cX5_wellPairs 17 = .ok (.istore 4, 2) := dGR_11_c_86.2.2.2.2.2.2.2.2.2.2.1
theorem dX5_wellPairs_19 : decode cX5_wellPairs 19 = .ok (.aload_n 0, 1) := dGR_11_c_86.2.2.2.2.2.2.2.2.2.2.2
set_option maxRecDepth 100000 in
theorem dGR_11_c_87 : (decode cX5_wellPairs 20 = .ok (.getfield 32, 3)) ∧ (decode cX5_wellPairs 23 = .ok (.istore 5, 2)) ∧ (decode cX5_wellPairs 25 = .ok (.iload 5, 2)) ∧ (decode cX5_wellPairs 27 = .ok (.aload_n 0, 1)) ∧ (decode cX5_wellPairs 28 = .ok (.getfield 35, 3)) ∧ (decode cX5_wellPairs 31 = .ok (.if_icmp .ge 26, 3)) ∧ (decode cX5_wellPairs 34 = .ok (.iload 4, 2)) ∧ (decode cX5_wellPairs 36 = .ok (.iload 4, 2)) ∧ (decode cX5_wellPairs 38 = .ok (.aload_n 1, 1)) ∧ (decode cX5_wellPairs 39 = .ok (.getfield 73, 3)) ∧ (decode cX5_wellPairs 42 = .ok (.iload 5, 2)) ∧ (decode cX5_wellPairs 44 = .ok (.iaload, 1)) := by decide +kernel
theorem dX5_wellPairs_20 : decode cX5_wellPairs 20 = .ok (.getfield 32, 3) := dGR_11_c_87.1
theorem dX5_wellPairs_23 : decode cX5_wellPairs 23 = .ok (.istore 5, 2) := dGR_11_c_87.2.1
theorem dX5_wellPairs_25 : decode cX5_wellPairs 25 = .ok (.iload 5, 2) := dGR_11_c_87.2.2.1
theorem dX5_wellPairs_27 : decode cX5_wellPairs 27 = .ok (.aload_n 0, 1) := dGR_11_c_87.2.2.2.1
theorem dX5_wellPairs_28 : decode cX5_wellPairs 28 = .ok (.getfield 35, 3) := dGR_11_c_87.2.2.2.2.1
theorem dX5_wellPairs_31 : decode cX5_wellPairs 31 = .ok (.if_icmp .ge 26, 3) := dGR_11_c_87.2.2.2.2.2.1
theorem dX5_wellPairs_34 : decode cX5_wellPairs 34 = .ok (.iload 4, 2) := dGR_11_c_87.2.2.2.2.2.2.1
theorem dX5_wellPairs_36 : decode cX5_wellPairs 36 = .ok (.iload 4, 2) := dGR_11_c_87.2.2.2.2.2.2.2.1
theorem dX5_wellPairs_38 : decode cX5_wellPairs 38 = .ok (.aload_n 1, 1) := dGR_11_c_87.2.2.2.2.2.2.2.2.1
theorem dX5_wellPairs_39 : decode cX5_wellPairs 39 = .ok (.getfield 73, 3) := dGR_11_c_87.2.2.2.2.2.2.2.2.2.1
theorem dX5_wellPairs_42 : decode cX5_wellPairs 42 = .ok (.iload 5, 2) := dGR_11_c_87.2.2.2.2.2.2.2.2.2.2.1
theorem dX5_wellPairs_44 : decode cX5_wellPairs 44 = .ok (.iaload, 1) := dGR_11_c_87.2.2.2.2.2.2.2.2.2.2.2
set_option maxRecDepth 100000 in
theorem dGR_11_c_88 : (decode cX5_wellPairs 45 = .ok (.invokestatic 77, 3)) ∧ (decode cX5_wellPairs 48 = .ok (.ior, 1)) ∧ (decode cX5_wellPairs 49 = .ok (.istore 4, 2)) ∧ (decode cX5_wellPairs 51 = .ok (.iinc 5 1, 3)) ∧ (decode cX5_wellPairs 54 = .ok (.goto (-29), 3)) ∧ (decode cX5_wellPairs 57 = .ok (.iconst 0, 1)) ∧ (decode cX5_wellPairs 58 = .ok (.istore 5, 2)) ∧ (decode cX5_wellPairs 60 = .ok (.iload 5, 2)) ∧ (decode cX5_wellPairs 62 = .ok (.aload_n 0, 1)) ∧ (decode cX5_wellPairs 63 = .ok (.getfield 28, 3)) ∧ (decode cX5_wellPairs 66 = .ok (.if_icmp .ge 28, 3)) ∧ (decode cX5_wellPairs 69 = .ok (.iload 4, 2)) := by decide +kernel
theorem dX5_wellPairs_45 : decode cX5_wellPairs 45 = .ok (.invokestatic 77, 3) := dGR_11_c_88.1
theorem dX5_wellPairs_48 : decode cX5_wellPairs 48 = .ok (.ior, 1) := dGR_11_c_88.2.1
theorem dX5_wellPairs_49 : decode cX5_wellPairs 49 = .ok (.istore 4, 2) := dGR_11_c_88.2.2.1
theorem dX5_wellPairs_51 : decode cX5_wellPairs 51 = .ok (.iinc 5 1, 3) := dGR_11_c_88.2.2.2.1
theorem dX5_wellPairs_54 : decode cX5_wellPairs 54 = .ok (.goto (-29), 3) := dGR_11_c_88.2.2.2.2.1
theorem dX5_wellPairs_57 : decode cX5_wellPairs 57 = .ok (.iconst 0, 1) := dGR_11_c_88.2.2.2.2.2.1
theorem dX5_wellPairs_58 : decode cX5_wellPairs 58 = .ok (.istore 5, 2) := dGR_11_c_88.2.2.2.2.2.2.1
theorem dX5_wellPairs_60 : decode cX5_wellPairs 60 = .ok (.iload 5, 2) := dGR_11_c_88.2.2.2.2.2.2.2.1
theorem dX5_wellPairs_62 : decode cX5_wellPairs 62 = .ok (.aload_n 0, 1) := dGR_11_c_88.2.2.2.2.2.2.2.2.1
theorem dX5_wellPairs_63 : decode cX5_wellPairs 63 = .ok (.getfield 28, 3) := dGR_11_c_88.2.2.2.2.2.2.2.2.2.1
theorem dX5_wellPairs_66 : decode cX5_wellPairs 66 = .ok (.if_icmp .ge 28, 3) := dGR_11_c_88.2.2.2.2.2.2.2.2.2.2.1
theorem dX5_wellPairs_69 : decode cX5_wellPairs 69 = .ok (.iload 4, 2) := dGR_11_c_88.2.2.2.2.2.2.2.2.2.2.2
set_option maxRecDepth 100000 in
theorem dGR_11_c_89 : (decode cX5_wellPairs 71 = .ok (.iload 4, 2)) ∧ (decode cX5_wellPairs 73 = .ok (.aload_n 0, 1)) ∧ (decode cX5_wellPairs 74 = .ok (.aload_n 1, 1)) ∧ (decode cX5_wellPairs 75 = .ok (.iload 5, 2)) ∧ (decode cX5_wellPairs 77 = .ok (.iload 4, 2)) ∧ (decode cX5_wellPairs 79 = .ok (.invokevirtual 81, 3)) ∧ (decode cX5_wellPairs 82 = .ok (.invokestatic 77, 3)) ∧ (decode cX5_wellPairs 85 = .ok (.ior, 1)) ∧ (decode cX5_wellPairs 86 = .ok (.istore 4, 2)) ∧ (decode cX5_wellPairs 88 = .ok (.iinc 5 1, 3)) ∧ (decode cX5_wellPairs 91 = .ok (.goto (-31), 3)) ∧ (decode cX5_wellPairs 94 = .ok (.iload 4, 2)) := by decide +kernel
theorem dX5_wellPairs_71 : decode cX5_wellPairs 71 = .ok (.iload 4, 2) := dGR_11_c_89.1
theorem dX5_wellPairs_73 : decode cX5_wellPairs 73 = .ok (.aload_n 0, 1) := dGR_11_c_89.2.1
theorem dX5_wellPairs_74 : decode cX5_wellPairs 74 = .ok (.aload_n 1, 1) := dGR_11_c_89.2.2.1
theorem dX5_wellPairs_75 : decode cX5_wellPairs 75 = .ok (.iload 5, 2) := dGR_11_c_89.2.2.2.1
theorem dX5_wellPairs_77 : decode cX5_wellPairs 77 = .ok (.iload 4, 2) := dGR_11_c_89.2.2.2.2.1
theorem dX5_wellPairs_79 : decode cX5_wellPairs 79 = .ok (.invokevirtual 81, 3) := dGR_11_c_89.2.2.2.2.2.1
theorem dX5_wellPairs_82 : decode cX5_wellPairs 82 = .ok (.invokestatic 77, 3) := dGR_11_c_89.2.2.2.2.2.2.1
theorem dX5_wellPairs_85 : decode cX5_wellPairs 85 = .ok (.ior, 1) := dGR_11_c_89.2.2.2.2.2.2.2.1
theorem dX5_wellPairs_86 : decode cX5_wellPairs 86 = .ok (.istore 4, 2) := dGR_11_c_89.2.2.2.2.2.2.2.2.1
theorem dX5_wellPairs_88 : decode cX5_wellPairs 88 = .ok (.iinc 5 1, 3) := dGR_11_c_89.2.2.2.2.2.2.2.2.2.1
theorem dX5_wellPairs_91 : decode cX5_wellPairs 91 = .ok (.goto (-31), 3) := dGR_11_c_89.2.2.2.2.2.2.2.2.2.2.1
theorem dX5_wellPairs_94 : decode cX5_wellPairs 94 = .ok (.iload 4, 2) := dGR_11_c_89.2.2.2.2.2.2.2.2.2.2.2
set_option maxRecDepth 100000 in
theorem dGR_11_c_90 : (decode cX5_wellPairs 96 = .ok (.iload_n 2, 1)) ∧ (decode cX5_wellPairs 97 = .ok (.if_icmp .ne 6, 3)) ∧ (decode cX5_wellPairs 100 = .ok (.goto 12, 3)) ∧ (decode cX5_wellPairs 103 = .ok (.iload 4, 2)) ∧ (decode cX5_wellPairs 105 = .ok (.istore_n 2, 1)) ∧ (decode cX5_wellPairs 106 = .ok (.iinc 3 1, 3)) ∧ (decode cX5_wellPairs 109 = .ok (.goto (-99), 3)) ∧ (decode cX5_wellPairs 112 = .ok (.iload_n 2, 1)) ∧ (decode cX5_wellPairs 113 = .ok (.ireturn, 1)) := by decide +kernel
theorem dX5_wellPairs_96 : decode cX5_wellPairs 96 = .ok (.iload_n 2, 1) := dGR_11_c_90.1
theorem dX5_wellPairs_97 : decode cX5_wellPairs 97 = .ok (.if_icmp .ne 6, 3) := dGR_11_c_90.2.1
theorem dX5_wellPairs_100 : decode cX5_wellPairs 100 = .ok (.goto 12, 3) := dGR_11_c_90.2.2.1
theorem dX5_wellPairs_103 : decode cX5_wellPairs 103 = .ok (.iload 4, 2) := dGR_11_c_90.2.2.2.1
theorem dX5_wellPairs_105 : decode cX5_wellPairs 105 = .ok (.istore_n 2, 1) := dGR_11_c_90.2.2.2.2.1
theorem dX5_wellPairs_106 : decode cX5_wellPairs 106 = .ok (.iinc 3 1, 3) := dGR_11_c_90.2.2.2.2.2.1
theorem dX5_wellPairs_109 : decode cX5_wellPairs 109 = .ok (.goto (-99), 3) := dGR_11_c_90.2.2.2.2.2.2.1
theorem dX5_wellPairs_112 : decode cX5_wellPairs 112 = .ok (.iload_n 2, 1) := dGR_11_c_90.2.2.2.2.2.2.2.1
theorem dX5_wellPairs_113 : decode cX5_wellPairs 113 = .ok (.ireturn, 1) := dGR_11_c_90.2.2.2.2.2.2.2.2
set_option maxHeartbeats 4000000 in
set_option maxRecDepth 100000 in
theorem c_X5_wellPairs (G : KG) (l : Launch) (M : Mem) (c0 : Int) (c1 : Int) (hI_M : Inv false M) (hk_c0 : kd c0 = 12) (hk_c1 : kd c1 = 1) : KC false G l yX5_wellPairs cX5_wellPairs 6 (some .int) (3, 73) [vR G c0, vR G c1] M (fun A => kQi false G A (fun (r : Int) (N : Mem) => M = N ∧ (0 ≤ r ∧ r ≤ 511))) := by
  refine kx_met (lo := [some (vR G c0), some (vR G c1), none, none, none, none]) (by decide) (Nat.le_of_ble_eq_true rfl) rfl ?_
  intro X F hQ
  refine kx_aload_n 1 F 1 dX5_wellPairs_0 rfl rfl rfl ?_
  refine kx_geti 4 F fl_X5_65 hk_c1 rfl rfl (j := 0) rfl dX5_wellPairs_1 (v := (M c1 0)) rfl rfl ?_
  have h_1 := Inv.g hI_M hk_c1 rfl 0 (a := 0) (b := 3) rfl rfl
  refine kx_Si 7 F (As := [vI (M c1 0)]) (st := []) sd_X5_68 (c_X2_identity G l M (M c1 0) hI_M (by omega)) ⟨by decide, by decide⟩ rfl rfl (Nat.le_of_ble_eq_true rfl) dX5_wellPairs_4 rfl ?_
  intro r_2 N_3 q_4
  obtain ⟨rfl, q_4c⟩ := q_4
  refine kx_istore_n 8 F 2 (lo' := [some (vR G c0), some (vR G c1), some (vI r_2), none, none, none]) dX5_wellPairs_7 rfl (by decide) rfl rfl rfl ?_
  refine kx_iconst 9 F dX5_wellPairs_8 rfl ?_
  refine kx_istore_n 10 F 3 (lo' := [some (vR G c0), some (vR G c1), some (vI r_2), some (vI 0), none, none]) dX5_wellPairs_9 rfl (by decide) rfl rfl rfl ?_
  have L_1834 : ∀ (n_1835 : Nat) (x2_1832 : Int) (x3_1833 : Int), 0 ≤ x2_1832 ∧ x2_1832 ≤ 511 ∧ 0 ≤ x3_1833 ∧ x3_1833 ≤ 10 → (10 - (x3_1833)).toNat = n_1835 → KJ false G X M 10 [some (vR G c0), some (vR G c1), some (vI x2_1832), some (vI x3_1833), none, none] [] := by
    intro n_1835
    refine Nat.strongRecOn n_1835 ?_
    intro n_1835 ih_1836 x2_1832 x3_1833 h_1837 hm_1838
    refine kx_iload_n 11 F 3 dX5_wellPairs_10 rfl rfl rfl ?_
    refine kx_bipush 13 F dX5_wellPairs_11 (by decide) rfl ?_
    refine kx_icmp_ge 16 F 112 dX5_wellPairs_13 (by decide) rfl (by omega) (by decide) (fun h_1839 => ?_) (fun h_1839 => ?_)
    · refine kx_iload_n 113 F 2 dX5_wellPairs_112 rfl rfl rfl ?_
      exact kx_iret F hQ ⟨rfl, (by omega)⟩ dX5_wellPairs_113
    · refine kx_iload_n 17 F 2 dX5_wellPairs_16 rfl rfl rfl ?_
      refine kx_istore 19 F 4 (lo' := [some (vR G c0), some (vR G c1), some (vI x2_1832), some (vI x3_1833), some (vI x2_1832), none]) dX5_wellPairs_17 (by decide) rfl rfl rfl ?_
      refine kx_aload_n 20 F 0 dX5_wellPairs_19 rfl rfl rfl ?_
      refine kx_geti 23 F fl_X5_32 hk_c0 rfl rfl (j := 1) rfl dX5_wellPairs_20 (v := (M c0 1)) rfl rfl ?_
      have h_1840 := Inv.g hI_M hk_c0 rfl 1 (a := 0) (b := 4) rfl rfl
      refine kx_istore 25 F 5 (lo' := [some (vR G c0), some (vR G c1), some (vI x2_1832), some (vI x3_1833), some (vI x2_1832), some (vI (M c0 1))]) dX5_wellPairs_23 (by decide) rfl rfl rfl ?_
      have L_2032 : ∀ (n_2033 : Nat) (x4_2030 : Int) (x5_2031 : Int), 0 ≤ x4_2030 ∧ x4_2030 ≤ 511 ∧ 0 ≤ x5_2031 ∧ x5_2031 ≤ 6 ∧ (M c0 1) ≤ x5_2031 → (6 - (x5_2031)).toNat = n_2033 → KJ false G X M 25 [some (vR G c0), some (vR G c1), some (vI x2_1832), some (vI x3_1833), some (vI x4_2030), some (vI x5_2031)] [] := by
        intro n_2033
        refine Nat.strongRecOn n_2033 ?_
        intro n_2033 ih_2034 x4_2030 x5_2031 h_2035 hm_2036
        refine kx_iload 27 F 5 dX5_wellPairs_25 rfl rfl ?_
        refine kx_aload_n 28 F 0 dX5_wellPairs_27 rfl rfl rfl ?_
        refine kx_geti 31 F fl_X5_35 hk_c0 rfl rfl (j := 2) rfl dX5_wellPairs_28 (v := (M c0 2)) rfl rfl ?_
        have h_2037 := Inv.g hI_M hk_c0 rfl 2 (a := 0) (b := 6) rfl rfl
        refine kx_icmp_ge 34 F 57 dX5_wellPairs_31 (by decide) rfl (by omega) (by omega) (fun h_2038 => ?_) (fun h_2038 => ?_)
        · refine kx_iconst 58 F dX5_wellPairs_57 rfl ?_
          refine kx_istore 60 F 5 (lo' := [some (vR G c0), some (vR G c1), some (vI x2_1832), some (vI x3_1833), some (vI x4_2030), some (vI 0)]) dX5_wellPairs_58 (by decide) rfl rfl rfl ?_
          have L_2077 : ∀ (n_2078 : Nat) (x4_2075 : Int) (x5_2076 : Int), 0 ≤ x4_2075 ∧ x4_2075 ≤ 511 ∧ 0 ≤ x5_2076 ∧ x5_2076 ≤ 2 → (2 - (x5_2076)).toNat = n_2078 → KJ false G X M 60 [some (vR G c0), some (vR G c1), some (vI x2_1832), some (vI x3_1833), some (vI x4_2075), some (vI x5_2076)] [] := by
            intro n_2078
            refine Nat.strongRecOn n_2078 ?_
            intro n_2078 ih_2079 x4_2075 x5_2076 h_2080 hm_2081
            refine kx_iload 62 F 5 dX5_wellPairs_60 rfl rfl ?_
            refine kx_aload_n 63 F 0 dX5_wellPairs_62 rfl rfl rfl ?_
            refine kx_geti 66 F fl_X5_28 hk_c0 rfl rfl (j := 0) rfl dX5_wellPairs_63 (v := (M c0 0)) rfl rfl ?_
            have h_2082 := Inv.g hI_M hk_c0 rfl 0 (a := 0) (b := 2) rfl rfl
            refine kx_icmp_ge 69 F 94 dX5_wellPairs_66 (by decide) rfl (by omega) (by omega) (fun h_2083 => ?_) (fun h_2083 => ?_)
            · refine kx_iload 96 F 4 dX5_wellPairs_94 rfl rfl ?_
              refine kx_iload_n 97 F 2 dX5_wellPairs_96 rfl rfl rfl ?_
              refine kx_icmp_ne 100 F 103 dX5_wellPairs_97 (by decide) rfl (by omega) (by omega) (fun h_2084 => ?_) (fun h_2084 => ?_)
              · refine kx_iload 105 F 4 dX5_wellPairs_103 rfl rfl ?_
                refine kx_istore_n 106 F 2 (lo' := [some (vR G c0), some (vR G c1), some (vI x4_2075), some (vI x3_1833), some (vI x4_2075), some (vI x5_2076)]) dX5_wellPairs_105 rfl (by decide) rfl rfl rfl ?_
                refine kx_iinc 109 F 3 (v := x3_1833 + 1) (lo' := [some (vR G c0), some (vR G c1), some (vI x4_2075), some (vI (x3_1833 + 1)), some (vI x4_2075), some (vI x5_2076)]) dX5_wellPairs_106 rfl (by omega) (by decide) rfl rfl rfl ?_
                refine kx_goto 10 F dX5_wellPairs_109 (by decide) ?_
                refine kx_drop 4 (lo' := [some (vR G c0), some (vR G c1), some (vI x4_2075), some (vI (x3_1833 + 1)), none, some (vI x5_2076)]) rfl ?_
                refine kx_drop 5 (lo' := [some (vR G c0), some (vR G c1), some (vI x4_2075), some (vI (x3_1833 + 1)), none, none]) rfl ?_
                exact ih_1836 _ (by omega) x4_2075 (x3_1833 + 1) (by omega) rfl
              · refine kx_goto 112 F dX5_wellPairs_100 (by decide) ?_
                refine kx_iload_n 113 F 2 dX5_wellPairs_112 rfl rfl rfl ?_
                exact kx_iret F hQ ⟨rfl, (by omega)⟩ dX5_wellPairs_113
            · refine kx_iload 71 F 4 dX5_wellPairs_69 rfl rfl ?_
              refine kx_iload 73 F 4 dX5_wellPairs_71 rfl rfl ?_
              refine kx_aload_n 74 F 0 dX5_wellPairs_73 rfl rfl rfl ?_
              refine kx_aload_n 75 F 1 dX5_wellPairs_74 rfl rfl rfl ?_
              refine kx_iload 77 F 5 dX5_wellPairs_75 rfl rfl ?_
              refine kx_iload 79 F 4 dX5_wellPairs_77 rfl rfl ?_
              refine kx_Vi 82 (ci := 0) F (As := [vR G c1, vI x5_2076, vI x4_2075]) (st := [vI x4_2075, vI x4_2075]) vd_X5_81 (c_X5_overAny G l M c0 c1 x5_2076 x4_2075 hI_M hk_c0 hk_c1 (by omega)) hk_c0 rfl rfl rfl ⟨by decide, by decide⟩ rfl rfl (Nat.le_of_ble_eq_true rfl) dX5_wellPairs_79 rfl ?_
              intro r_2085 N_2086 q_2087
              obtain ⟨rfl, q_2087c⟩ := q_2087
              refine kx_Si 85 F (As := [vI x4_2075, vI r_2085]) (st := [vI x4_2075]) sd_X5_77 (c_X2_compose G l M x4_2075 r_2085 hI_M (by omega)) ⟨by decide, by decide⟩ rfl rfl (Nat.le_of_ble_eq_true rfl) dX5_wellPairs_82 rfl ?_
              intro r_2088 N_2089 q_2090
              obtain ⟨rfl, q_2090c⟩ := q_2090
              refine kx_ior 86 F (v := (zor x4_2075 r_2088)) dX5_wellPairs_85 rfl rfl ?_
              have h_2091 : 0 ≤ (zor x4_2075 r_2088) ∧ (zor x4_2075 r_2088) < 512 := zor_lt (a := x4_2075) (b := r_2088) 9 (by decide) (by omega) (by omega)
              refine kx_istore 88 F 4 (lo' := [some (vR G c0), some (vR G c1), some (vI x2_1832), some (vI x3_1833), some (vI (zor x4_2075 r_2088)), some (vI x5_2076)]) dX5_wellPairs_86 (by decide) rfl rfl rfl ?_
              refine kx_iinc 91 F 5 (v := x5_2076 + 1) (lo' := [some (vR G c0), some (vR G c1), some (vI x2_1832), some (vI x3_1833), some (vI (zor x4_2075 r_2088)), some (vI (x5_2076 + 1))]) dX5_wellPairs_88 rfl (by omega) (by decide) rfl rfl rfl ?_
              refine kx_goto 60 F dX5_wellPairs_91 (by decide) ?_
              exact ih_2079 _ (by omega) (zor x4_2075 r_2088) (x5_2076 + 1) (by omega) rfl
          exact L_2077 _ x4_2030 0 (by omega) rfl
        · refine kx_iload 36 F 4 dX5_wellPairs_34 rfl rfl ?_
          refine kx_iload 38 F 4 dX5_wellPairs_36 rfl rfl ?_
          refine kx_aload_n 39 F 1 dX5_wellPairs_38 rfl rfl rfl ?_
          refine kx_getr 42 F fl_X5_73 hk_c1 rfl rfl (j := 10) rfl dX5_wellPairs_39 (v := (M c1 10)) rfl rfl ?_
          have hk_2092 : kd (M c1 10) = 6 := Inv.r hI_M hk_c1 rfl 10 rfl rfl
          refine kx_iload 44 F 5 dX5_wellPairs_42 rfl rfl ?_
          refine kx_iald 45 F hk_2092 rfl rfl (by omega) (by decide) dX5_wellPairs_44 (v := (M (M c1 10) x5_2031)) rfl rfl ?_
          have h_2093 := Inv.g hI_M hk_2092 rfl x5_2031 (a := 0) (b := 511) rfl rfl
          refine kx_Si 48 F (As := [vI x4_2030, vI (M (M c1 10) x5_2031)]) (st := [vI x4_2030]) sd_X5_77 (c_X2_compose G l M x4_2030 (M (M c1 10) x5_2031) hI_M (by omega)) ⟨by decide, by decide⟩ rfl rfl (Nat.le_of_ble_eq_true rfl) dX5_wellPairs_45 rfl ?_
          intro r_2094 N_2095 q_2096
          obtain ⟨rfl, q_2096c⟩ := q_2096
          refine kx_ior 49 F (v := (zor x4_2030 r_2094)) dX5_wellPairs_48 rfl rfl ?_
          have h_2097 : 0 ≤ (zor x4_2030 r_2094) ∧ (zor x4_2030 r_2094) < 512 := zor_lt (a := x4_2030) (b := r_2094) 9 (by decide) (by omega) (by omega)
          refine kx_istore 51 F 4 (lo' := [some (vR G c0), some (vR G c1), some (vI x2_1832), some (vI x3_1833), some (vI (zor x4_2030 r_2094)), some (vI x5_2031)]) dX5_wellPairs_49 (by decide) rfl rfl rfl ?_
          refine kx_iinc 54 F 5 (v := x5_2031 + 1) (lo' := [some (vR G c0), some (vR G c1), some (vI x2_1832), some (vI x3_1833), some (vI (zor x4_2030 r_2094)), some (vI (x5_2031 + 1))]) dX5_wellPairs_51 rfl (by omega) (by decide) rfl rfl rfl ?_
          refine kx_goto 25 F dX5_wellPairs_54 (by decide) ?_
          exact ih_2034 _ (by omega) (zor x4_2030 r_2094) (x5_2031 + 1) (by omega) rfl
      exact L_2032 _ x2_1832 (M c0 1) (by omega) rfl
  exact L_1834 _ r_2 0 (by omega) rfl
set_option maxRecDepth 100000 in
theorem dGR_11_c_91 : (decode cX5_reachable 0 = .ok (.iload_n 3, 1)) ∧ (decode cX5_reachable 1 = .ok (.ifCond .eq 7, 3)) ∧ (decode cX5_reachable 4 = .ok (.iload_n 2, 1)) ∧ (decode cX5_reachable 5 = .ok (.goto 4, 3)) ∧ (decode cX5_reachable 8 = .ok (.iconst 0, 1)) ∧ (decode cX5_reachable 9 = .ok (.istore 5, 2)) ∧ (decode cX5_reachable 11 = .ok (.iload_n 3, 1)) ∧ (decode cX5_reachable 12 = .ok (.ifCond .eq 7, 3)) ∧ (decode cX5_reachable 15 = .ok (.iconst 0, 1)) ∧ (decode cX5_reachable 16 = .ok (.goto 4, 3)) ∧ (decode cX5_reachable 19 = .ok (.iload_n 2, 1)) ∧ (decode cX5_reachable 20 = .ok (.istore 6, 2)) := by decide +kernel
theorem dX5_reachable_0 : decode cX5_reachable 0 = .ok (.iload_n 3, 1) := dGR_11_c_91.1
theorem dX5_reachable_1 : decode cX5_reachable 1 = .ok (.ifCond .eq 7, 3) := dGR_11_c_91.2.1
theorem dX5_reachable_4 : decode cX5_reachable 4 = .ok (.iload_n 2, 1) := dGR_11_c_91.2.2.1
theorem dX5_reachable_5 : decode cX5_reachable 5 = .ok (.goto 4, 3) := dGR_11_c_91.2.2.2.1
theorem dX5_reachable_8 : decode cX5_reachable 8 = .ok (.iconst 0, 1) := dGR_11_c_91.2.2.2.2.1
theorem dX5_reachable_9 : decode cX5_reachable 9 = .ok (.istore 5, 2) := dGR_11_c_91.2.2.2.2.2.1
theorem dX5_reachable_11 : decode cX5_reachable 11 = .ok (.iload_n 3, 1) := dGR_11_c_91.2.2.2.2.2.2.1
theorem dX5_reachable_12 : decode cX5_reachable 12 = .ok (.ifCond .eq 7, 3) := dGR_11_c_91.2.2.2.2.2.2.2.1
theorem dX5_reachable_15 : decode cX5_reachable 15 = .ok (.iconst 0, 1) := dGR_11_c_91.2.2.2.2.2.2.2.2.1
theorem dX5_reachable_16 : decode cX5_reachable 16 = .ok (.goto 4, 3) := dGR_11_c_91.2.2.2.2.2.2.2.2.2.1
theorem dX5_reachable_19 : decode cX5_reachable 19 = .ok (.iload_n 2, 1) := dGR_11_c_91.2.2.2.2.2.2.2.2.2.2.1
theorem dX5_reachable_20 : decode cX5_reachable 20 = .ok (.istore 6, 2) := dGR_11_c_91.2.2.2.2.2.2.2.2.2.2.2
set_option maxRecDepth 100000 in
theorem dGR_11_c_92 : (decode cX5_reachable 22 = .ok (.iconst 0, 1)) ∧ (decode cX5_reachable 23 = .ok (.istore 7, 2)) ∧ (decode cX5_reachable 25 = .ok (.iload 7, 2)) ∧ (decode cX5_reachable 27 = .ok (.bipush 8, 2)) ∧ (decode cX5_reachable 29 = .ok (.if_icmp .ge 134, 3)) ∧ (decode cX5_reachable 32 = .ok (.iload 5, 2)) ∧ (decode cX5_reachable 34 = .ok (.iload 5, 2)) ∧ (decode cX5_reachable 36 = .ok (.iload 4, 2)) ∧ (decode cX5_reachable 38 = .ok (.invokestatic 89, 3)) ∧ (decode cX5_reachable 41 = .ok (.ior, 1)) ∧ (decode cX5_reachable 42 = .ok (.istore 8, 2)) ∧ (decode cX5_reachable 44 = .ok (.aload_n 0, 1)) := by decide +kernel
theorem dX5_reachable_22 : decode cX5_reachable 22 = .ok (.iconst 0, 1) := dGR_11_c_92.1
theorem dX5_reachable_23 : decode cX5_reachable 23 = .ok (.istore 7, 2) := dGR_11_c_92.2.1
theorem dX5_reachable_25 : decode cX5_reachable 25 = .ok (.iload 7, 2) := dGR_11_c_92.2.2.1
theorem dX5_reachable_27 : decode cX5_reachable 27 = .ok (.bipush 8, 2) := dGR_11_c_92.2.2.2.1
theorem dX5_reachable_29 : decode cX5_reachable 29 = .ok (.if_icmp .ge 134, 3) := dGR_11_c_92.2.2.2.2.1
theorem dX5_reachable_32 : decode cX5_reachable 32 = .ok (.iload 5, 2) := dGR_11_c_92.2.2.2.2.2.1
theorem dX5_reachable_34 : decode cX5_reachable 34 = .ok (.iload 5, 2) := dGR_11_c_92.2.2.2.2.2.2.1
theorem dX5_reachable_36 : decode cX5_reachable 36 = .ok (.iload 4, 2) := dGR_11_c_92.2.2.2.2.2.2.2.1
theorem dX5_reachable_38 : decode cX5_reachable 38 = .ok (.invokestatic 89, 3) := dGR_11_c_92.2.2.2.2.2.2.2.2.1
theorem dX5_reachable_41 : decode cX5_reachable 41 = .ok (.ior, 1) := dGR_11_c_92.2.2.2.2.2.2.2.2.2.1
theorem dX5_reachable_42 : decode cX5_reachable 42 = .ok (.istore 8, 2) := dGR_11_c_92.2.2.2.2.2.2.2.2.2.2.1
theorem dX5_reachable_44 : decode cX5_reachable 44 = .ok (.aload_n 0, 1) := dGR_11_c_92.2.2.2.2.2.2.2.2.2.2.2
set_option maxRecDepth 100000 in
theorem dGR_11_c_93 : (decode cX5_reachable 45 = .ok (.getfield 28, 3)) ∧ (decode cX5_reachable 48 = .ok (.istore 9, 2)) ∧ (decode cX5_reachable 50 = .ok (.iload 9, 2)) ∧ (decode cX5_reachable 52 = .ok (.aload_n 0, 1)) ∧ (decode cX5_reachable 53 = .ok (.getfield 32, 3)) ∧ (decode cX5_reachable 56 = .ok (.if_icmp .ge 26, 3)) ∧ (decode cX5_reachable 59 = .ok (.iload 8, 2)) ∧ (decode cX5_reachable 61 = .ok (.iload 8, 2)) ∧ (decode cX5_reachable 63 = .ok (.aload_n 1, 1)) ∧ (decode cX5_reachable 64 = .ok (.getfield 73, 3)) ∧ (decode cX5_reachable 67 = .ok (.iload 9, 2)) ∧ (decode cX5_reachable 69 = .ok (.iaload, 1)) := by decide +kernel
theorem dX5_reachable_45 : decode cX5_reachable 45 = .ok (.getfield 28, 3) := dGR_11_c_93.1
theorem dX5_reachable_48 : decode cX5_reachable 48 = .ok (.istore 9, 2) := dGR_11_c_93.2.1
theorem dX5_reachable_50 : decode cX5_reachable 50 = .ok (.iload 9, 2) := dGR_11_c_93.2.2.1
theorem dX5_reachable_52 : decode cX5_reachable 52 = .ok (.aload_n 0, 1) := dGR_11_c_93.2.2.2.1
theorem dX5_reachable_53 : decode cX5_reachable 53 = .ok (.getfield 32, 3) := dGR_11_c_93.2.2.2.2.1
theorem dX5_reachable_56 : decode cX5_reachable 56 = .ok (.if_icmp .ge 26, 3) := dGR_11_c_93.2.2.2.2.2.1
theorem dX5_reachable_59 : decode cX5_reachable 59 = .ok (.iload 8, 2) := dGR_11_c_93.2.2.2.2.2.2.1
theorem dX5_reachable_61 : decode cX5_reachable 61 = .ok (.iload 8, 2) := dGR_11_c_93.2.2.2.2.2.2.2.1
theorem dX5_reachable_63 : decode cX5_reachable 63 = .ok (.aload_n 1, 1) := dGR_11_c_93.2.2.2.2.2.2.2.2.1
theorem dX5_reachable_64 : decode cX5_reachable 64 = .ok (.getfield 73, 3) := dGR_11_c_93.2.2.2.2.2.2.2.2.2.1
theorem dX5_reachable_67 : decode cX5_reachable 67 = .ok (.iload 9, 2) := dGR_11_c_93.2.2.2.2.2.2.2.2.2.2.1
theorem dX5_reachable_69 : decode cX5_reachable 69 = .ok (.iaload, 1) := dGR_11_c_93.2.2.2.2.2.2.2.2.2.2.2
set_option maxRecDepth 100000 in
theorem dGR_11_c_94 : (decode cX5_reachable 70 = .ok (.invokestatic 89, 3)) ∧ (decode cX5_reachable 73 = .ok (.ior, 1)) ∧ (decode cX5_reachable 74 = .ok (.istore 8, 2)) ∧ (decode cX5_reachable 76 = .ok (.iinc 9 1, 3)) ∧ (decode cX5_reachable 79 = .ok (.goto (-29), 3)) ∧ (decode cX5_reachable 82 = .ok (.iload 6, 2)) ∧ (decode cX5_reachable 84 = .ok (.iload 6, 2)) ∧ (decode cX5_reachable 86 = .ok (.iload 4, 2)) ∧ (decode cX5_reachable 88 = .ok (.invokestatic 89, 3)) ∧ (decode cX5_reachable 91 = .ok (.ior, 1)) ∧ (decode cX5_reachable 92 = .ok (.istore 9, 2)) ∧ (decode cX5_reachable 94 = .ok (.iconst 0, 1)) := by decide +kernel
theorem dX5_reachable_70 : decode cX5_reachable 70 = .ok (.invokestatic 89, 3) := dGR_11_c_94.1
theorem dX5_reachable_73 : decode cX5_reachable 73 = .ok (.ior, 1) := dGR_11_c_94.2.1
theorem dX5_reachable_74 : decode cX5_reachable 74 = .ok (.istore 8, 2) := dGR_11_c_94.2.2.1
theorem dX5_reachable_76 : decode cX5_reachable 76 = .ok (.iinc 9 1, 3) := dGR_11_c_94.2.2.2.1
theorem dX5_reachable_79 : decode cX5_reachable 79 = .ok (.goto (-29), 3) := dGR_11_c_94.2.2.2.2.1
theorem dX5_reachable_82 : decode cX5_reachable 82 = .ok (.iload 6, 2) := dGR_11_c_94.2.2.2.2.2.1
theorem dX5_reachable_84 : decode cX5_reachable 84 = .ok (.iload 6, 2) := dGR_11_c_94.2.2.2.2.2.2.1
theorem dX5_reachable_86 : decode cX5_reachable 86 = .ok (.iload 4, 2) := dGR_11_c_94.2.2.2.2.2.2.2.1
theorem dX5_reachable_88 : decode cX5_reachable 88 = .ok (.invokestatic 89, 3) := dGR_11_c_94.2.2.2.2.2.2.2.2.1
theorem dX5_reachable_91 : decode cX5_reachable 91 = .ok (.ior, 1) := dGR_11_c_94.2.2.2.2.2.2.2.2.2.1
theorem dX5_reachable_92 : decode cX5_reachable 92 = .ok (.istore 9, 2) := dGR_11_c_94.2.2.2.2.2.2.2.2.2.2.1
theorem dX5_reachable_94 : decode cX5_reachable 94 = .ok (.iconst 0, 1) := dGR_11_c_94.2.2.2.2.2.2.2.2.2.2.2
set_option maxRecDepth 100000 in
theorem dGR_11_c_95 : (decode cX5_reachable 95 = .ok (.istore 10, 2)) ∧ (decode cX5_reachable 97 = .ok (.iload 10, 2)) ∧ (decode cX5_reachable 99 = .ok (.aload_n 0, 1)) ∧ (decode cX5_reachable 100 = .ok (.getfield 28, 3)) ∧ (decode cX5_reachable 103 = .ok (.if_icmp .ge 29, 3)) ∧ (decode cX5_reachable 106 = .ok (.iload 9, 2)) ∧ (decode cX5_reachable 108 = .ok (.iload 8, 2)) ∧ (decode cX5_reachable 110 = .ok (.iload 9, 2)) ∧ (decode cX5_reachable 112 = .ok (.ior, 1)) ∧ (decode cX5_reachable 113 = .ok (.aload_n 1, 1)) ∧ (decode cX5_reachable 114 = .ok (.getfield 73, 3)) ∧ (decode cX5_reachable 117 = .ok (.iload 10, 2)) := by decide +kernel
theorem dX5_reachable_95 : decode cX5_reachable 95 = .ok (.istore 10, 2) := dGR_11_c_95.1
theorem dX5_reachable_97 : decode cX5_reachable 97 = .ok (.iload 10, 2) := dGR_11_c_95.2.1
theorem dX5_reachable_99 : decode cX5_reachable 99 = .ok (.aload_n 0, 1) := dGR_11_c_95.2.2.1
theorem dX5_reachable_100 : decode cX5_reachable 100 = .ok (.getfield 28, 3) := dGR_11_c_95.2.2.2.1
theorem dX5_reachable_103 : decode cX5_reachable 103 = .ok (.if_icmp .ge 29, 3) := dGR_11_c_95.2.2.2.2.1
theorem dX5_reachable_106 : decode cX5_reachable 106 = .ok (.iload 9, 2) := dGR_11_c_95.2.2.2.2.2.1
theorem dX5_reachable_108 : decode cX5_reachable 108 = .ok (.iload 8, 2) := dGR_11_c_95.2.2.2.2.2.2.1
theorem dX5_reachable_110 : decode cX5_reachable 110 = .ok (.iload 9, 2) := dGR_11_c_95.2.2.2.2.2.2.2.1
theorem dX5_reachable_112 : decode cX5_reachable 112 = .ok (.ior, 1) := dGR_11_c_95.2.2.2.2.2.2.2.2.1
theorem dX5_reachable_113 : decode cX5_reachable 113 = .ok (.aload_n 1, 1) := dGR_11_c_95.2.2.2.2.2.2.2.2.2.1
theorem dX5_reachable_114 : decode cX5_reachable 114 = .ok (.getfield 73, 3) := dGR_11_c_95.2.2.2.2.2.2.2.2.2.2.1
theorem dX5_reachable_117 : decode cX5_reachable 117 = .ok (.iload 10, 2) := dGR_11_c_95.2.2.2.2.2.2.2.2.2.2.2
set_option maxRecDepth 100000 in
theorem dGR_11_c_96 : (decode cX5_reachable 119 = .ok (.iaload, 1)) ∧ (decode cX5_reachable 120 = .ok (.invokestatic 89, 3)) ∧ (decode cX5_reachable 123 = .ok (.ior, 1)) ∧ (decode cX5_reachable 124 = .ok (.istore 9, 2)) ∧ (decode cX5_reachable 126 = .ok (.iinc 10 1, 3)) ∧ (decode cX5_reachable 129 = .ok (.goto (-32), 3)) ∧ (decode cX5_reachable 132 = .ok (.iload 8, 2)) ∧ (decode cX5_reachable 134 = .ok (.iload 5, 2)) ∧ (decode cX5_reachable 136 = .ok (.if_icmp .ne 13, 3)) ∧ (decode cX5_reachable 139 = .ok (.iload 9, 2)) ∧ (decode cX5_reachable 141 = .ok (.iload 6, 2)) ∧ (decode cX5_reachable 143 = .ok (.if_icmp .ne 6, 3)) := by decide +kernel
theorem dX5_reachable_119 : decode cX5_reachable 119 = .ok (.iaload, 1) := dGR_11_c_96.1
theorem dX5_reachable_120 : decode cX5_reachable 120 = .ok (.invokestatic 89, 3) := dGR_11_c_96.2.1
theorem dX5_reachable_123 : decode cX5_reachable 123 = .ok (.ior, 1) := dGR_11_c_96.2.2.1
theorem dX5_reachable_124 : decode cX5_reachable 124 = .ok (.istore 9, 2) := dGR_11_c_96.2.2.2.1
theorem dX5_reachable_126 : decode cX5_reachable 126 = .ok (.iinc 10 1, 3) := dGR_11_c_96.2.2.2.2.1
theorem dX5_reachable_129 : decode cX5_reachable 129 = .ok (.goto (-32), 3) := dGR_11_c_96.2.2.2.2.2.1
theorem dX5_reachable_132 : decode cX5_reachable 132 = .ok (.iload 8, 2) := dGR_11_c_96.2.2.2.2.2.2.1
theorem dX5_reachable_134 : decode cX5_reachable 134 = .ok (.iload 5, 2) := dGR_11_c_96.2.2.2.2.2.2.2.1
theorem dX5_reachable_136 : decode cX5_reachable 136 = .ok (.if_icmp .ne 13, 3) := dGR_11_c_96.2.2.2.2.2.2.2.2.1
theorem dX5_reachable_139 : decode cX5_reachable 139 = .ok (.iload 9, 2) := dGR_11_c_96.2.2.2.2.2.2.2.2.2.1
theorem dX5_reachable_141 : decode cX5_reachable 141 = .ok (.iload 6, 2) := dGR_11_c_96.2.2.2.2.2.2.2.2.2.2.1
theorem dX5_reachable_143 : decode cX5_reachable 143 = .ok (.if_icmp .ne 6, 3) := dGR_11_c_96.2.2.2.2.2.2.2.2.2.2.2
set_option maxRecDepth 100000 in
theorem dGR_11_c_97 : (decode cX5_reachable 146 = .ok (.goto 17, 3)) ∧ (decode cX5_reachable 149 = .ok (.iload 8, 2)) ∧ (decode cX5_reachable 151 = .ok (.istore 5, 2)) ∧ (decode cX5_reachable 153 = .ok (.iload 9, 2)) ∧ (decode cX5_reachable 155 = .ok (.istore 6, 2)) ∧ (decode cX5_reachable 157 = .ok (.iinc 7 1, 3)) ∧ (decode cX5_reachable 160 = .ok (.goto (-135), 3)) ∧ (decode cX5_reachable 163 = .ok (.iload 5, 2)) ∧ (decode cX5_reachable 165 = .ok (.iload 6, 2)) ∧ (decode cX5_reachable 167 = .ok (.ior, 1)) ∧ (decode cX5_reachable 168 = .ok (.ireturn, 1)) := by decide +kernel
theorem dX5_reachable_146 : decode cX5_reachable 146 = .ok (.goto 17, 3) := dGR_11_c_97.1
theorem dX5_reachable_149 : decode cX5_reachable 149 = .ok (.iload 8, 2) := dGR_11_c_97.2.1
theorem dX5_reachable_151 : decode cX5_reachable 151 = .ok (.istore 5, 2) := dGR_11_c_97.2.2.1
theorem dX5_reachable_153 : decode cX5_reachable 153 = .ok (.iload 9, 2) := dGR_11_c_97.2.2.2.1
theorem dX5_reachable_155 : decode cX5_reachable 155 = .ok (.istore 6, 2) := dGR_11_c_97.2.2.2.2.1
theorem dX5_reachable_157 : decode cX5_reachable 157 = .ok (.iinc 7 1, 3) := dGR_11_c_97.2.2.2.2.2.1
theorem dX5_reachable_160 : decode cX5_reachable 160 = .ok (.goto (-135), 3) := dGR_11_c_97.2.2.2.2.2.2.1
theorem dX5_reachable_163 : decode cX5_reachable 163 = .ok (.iload 5, 2) := dGR_11_c_97.2.2.2.2.2.2.2.1
theorem dX5_reachable_165 : decode cX5_reachable 165 = .ok (.iload 6, 2) := dGR_11_c_97.2.2.2.2.2.2.2.2.1
theorem dX5_reachable_167 : decode cX5_reachable 167 = .ok (.ior, 1) := dGR_11_c_97.2.2.2.2.2.2.2.2.2.1
theorem dX5_reachable_168 : decode cX5_reachable 168 = .ok (.ireturn, 1) := dGR_11_c_97.2.2.2.2.2.2.2.2.2.2
set_option maxHeartbeats 4000000 in
set_option maxRecDepth 100000 in
theorem c_X5_reachable (G : KG) (l : Launch) (M : Mem) (c0 : Int) (c1 : Int) (a2 : Int) (a3 : Int) (a4 : Int) (hI_M : Inv false M) (hk_c0 : kd c0 = 12) (hk_c1 : kd c1 = 1) (hpre : -2147483648 ≤ a2 ∧ a2 ≤ 2147483647 ∧ 0 ≤ a3 ∧ a3 ≤ 1 ∧ -2147483648 ≤ a4 ∧ a4 ≤ 2147483647 ∧ 0 ≤ a2 ∧ a2 ≤ 7) : KC false G l yX5_reachable cX5_reachable 11 (some .int) (1, 21) [vR G c0, vR G c1, vI a2, vI a3, vI a4] M (fun A => kQi false G A (fun (r : Int) (N : Mem) => M = N ∧ (0 ≤ r ∧ r ≤ 7))) := by
  refine kx_met (lo := [some (vR G c0), some (vR G c1), some (vI a2), some (vI a3), some (vI a4), none, none, none, none, none, none]) (by decide) (Nat.le_of_ble_eq_true rfl) rfl ?_
  intro X F hQ
  refine kx_iload_n 1 F 3 dX5_reachable_0 rfl rfl rfl ?_
  have J_4 : ∀ (y0_3 : Int), 0 ≤ y0_3 ∧ y0_3 ≤ 7 → KJ false G X M 9 [some (vR G c0), some (vR G c1), some (vI a2), some (vI a3), some (vI a4), none, none, none, none, none, none] [vI y0_3] := by
    intro y0_3 h_5
    refine kx_istore 11 F 5 (lo' := [some (vR G c0), some (vR G c1), some (vI a2), some (vI a3), some (vI a4), some (vI y0_3), none, none, none, none, none]) dX5_reachable_9 (by decide) rfl rfl rfl ?_
    refine kx_iload_n 12 F 3 dX5_reachable_11 rfl rfl rfl ?_
    have J_9 : ∀ (y0_8 : Int), 0 ≤ y0_8 ∧ y0_8 ≤ 7 → KJ false G X M 20 [some (vR G c0), some (vR G c1), none, none, some (vI a4), some (vI y0_3), none, none, none, none, none] [vI y0_8] := by
      intro y0_8 h_10
      refine kx_istore 22 F 6 (lo' := [some (vR G c0), some (vR G c1), none, none, some (vI a4), some (vI y0_3), some (vI y0_8), none, none, none, none]) dX5_reachable_20 (by decide) rfl rfl rfl ?_
      refine kx_iconst 23 F dX5_reachable_22 rfl ?_
      refine kx_istore 25 F 7 (lo' := [some (vR G c0), some (vR G c1), none, none, some (vI a4), some (vI y0_3), some (vI y0_8), some (vI 0), none, none, none]) dX5_reachable_23 (by decide) rfl rfl rfl ?_
      have L_2102 : ∀ (n_2103 : Nat) (x5_2099 : Int) (x6_2100 : Int) (x7_2101 : Int), 0 ≤ x5_2099 ∧ x5_2099 ≤ 7 ∧ 0 ≤ x6_2100 ∧ x6_2100 ≤ 7 ∧ 0 ≤ x7_2101 ∧ x7_2101 ≤ 8 → (8 - (x7_2101)).toNat = n_2103 → KJ false G X M 25 [some (vR G c0), some (vR G c1), none, none, some (vI a4), some (vI x5_2099), some (vI x6_2100), some (vI x7_2101), none, none, none] [] := by
        intro n_2103
        refine Nat.strongRecOn n_2103 ?_
        intro n_2103 ih_2104 x5_2099 x6_2100 x7_2101 h_2105 hm_2106
        refine kx_iload 27 F 7 dX5_reachable_25 rfl rfl ?_
        refine kx_bipush 29 F dX5_reachable_27 (by decide) rfl ?_
        refine kx_icmp_ge 32 F 163 dX5_reachable_29 (by decide) rfl (by omega) (by decide) (fun h_2107 => ?_) (fun h_2107 => ?_)
        · refine kx_iload 165 F 5 dX5_reachable_163 rfl rfl ?_
          refine kx_iload 167 F 6 dX5_reachable_165 rfl rfl ?_
          refine kx_ior 168 F (v := (zor x5_2099 x6_2100)) dX5_reachable_167 rfl rfl ?_
          have h_2108 : 0 ≤ (zor x5_2099 x6_2100) ∧ (zor x5_2099 x6_2100) < 8 := zor_lt (a := x5_2099) (b := x6_2100) 3 (by decide) (by omega) (by omega)
          exact kx_iret F hQ ⟨rfl, (by omega)⟩ dX5_reachable_168
        · refine kx_iload 34 F 5 dX5_reachable_32 rfl rfl ?_
          refine kx_iload 36 F 5 dX5_reachable_34 rfl rfl ?_
          refine kx_iload 38 F 4 dX5_reachable_36 rfl rfl ?_
          refine kx_Si 41 F (As := [vI x5_2099, vI a4]) (st := [vI x5_2099]) sd_X5_89 (c_X2_image G l M x5_2099 a4 hI_M (by omega)) ⟨by decide, by decide⟩ rfl rfl (Nat.le_of_ble_eq_true rfl) dX5_reachable_38 rfl ?_
          intro r_2109 N_2110 q_2111
          obtain ⟨rfl, q_2111c⟩ := q_2111
          refine kx_ior 42 F (v := (zor x5_2099 r_2109)) dX5_reachable_41 rfl rfl ?_
          have h_2112 : 0 ≤ (zor x5_2099 r_2109) ∧ (zor x5_2099 r_2109) < 8 := zor_lt (a := x5_2099) (b := r_2109) 3 (by decide) (by omega) (by omega)
          refine kx_istore 44 F 8 (lo' := [some (vR G c0), some (vR G c1), none, none, some (vI a4), some (vI x5_2099), some (vI x6_2100), some (vI x7_2101), some (vI (zor x5_2099 r_2109)), none, none]) dX5_reachable_42 (by decide) rfl rfl rfl ?_
          refine kx_aload_n 45 F 0 dX5_reachable_44 rfl rfl rfl ?_
          refine kx_geti 48 F fl_X5_28 hk_c0 rfl rfl (j := 0) rfl dX5_reachable_45 (v := (M c0 0)) rfl rfl ?_
          have h_2113 := Inv.g hI_M hk_c0 rfl 0 (a := 0) (b := 2) rfl rfl
          refine kx_istore 50 F 9 (lo' := [some (vR G c0), some (vR G c1), none, none, some (vI a4), some (vI x5_2099), some (vI x6_2100), some (vI x7_2101), some (vI (zor x5_2099 r_2109)), some (vI (M c0 0)), none]) dX5_reachable_48 (by decide) rfl rfl rfl ?_
          have L_2329 : ∀ (n_2330 : Nat) (x8_2327 : Int) (x9_2328 : Int), 0 ≤ x8_2327 ∧ x8_2327 ≤ 7 ∧ 0 ≤ x9_2328 ∧ x9_2328 ≤ 4 ∧ (M c0 0) ≤ x9_2328 → (4 - (x9_2328)).toNat = n_2330 → KJ false G X M 50 [some (vR G c0), some (vR G c1), none, none, some (vI a4), some (vI x5_2099), some (vI x6_2100), some (vI x7_2101), some (vI x8_2327), some (vI x9_2328), none] [] := by
            intro n_2330
            refine Nat.strongRecOn n_2330 ?_
            intro n_2330 ih_2331 x8_2327 x9_2328 h_2332 hm_2333
            refine kx_iload 52 F 9 dX5_reachable_50 rfl rfl ?_
            refine kx_aload_n 53 F 0 dX5_reachable_52 rfl rfl rfl ?_
            refine kx_geti 56 F fl_X5_32 hk_c0 rfl rfl (j := 1) rfl dX5_reachable_53 (v := (M c0 1)) rfl rfl ?_
            have h_2334 := Inv.g hI_M hk_c0 rfl 1 (a := 0) (b := 4) rfl rfl
            refine kx_icmp_ge 59 F 82 dX5_reachable_56 (by decide) rfl (by omega) (by omega) (fun h_2335 => ?_) (fun h_2335 => ?_)
            · refine kx_iload 84 F 6 dX5_reachable_82 rfl rfl ?_
              refine kx_iload 86 F 6 dX5_reachable_84 rfl rfl ?_
              refine kx_iload 88 F 4 dX5_reachable_86 rfl rfl ?_
              refine kx_Si 91 F (As := [vI x6_2100, vI a4]) (st := [vI x6_2100]) sd_X5_89 (c_X2_image G l M x6_2100 a4 hI_M (by omega)) ⟨by decide, by decide⟩ rfl rfl (Nat.le_of_ble_eq_true rfl) dX5_reachable_88 rfl ?_
              intro r_2336 N_2337 q_2338
              obtain ⟨rfl, q_2338c⟩ := q_2338
              refine kx_ior 92 F (v := (zor x6_2100 r_2336)) dX5_reachable_91 rfl rfl ?_
              have h_2339 : 0 ≤ (zor x6_2100 r_2336) ∧ (zor x6_2100 r_2336) < 8 := zor_lt (a := x6_2100) (b := r_2336) 3 (by decide) (by omega) (by omega)
              refine kx_istore 94 F 9 (lo' := [some (vR G c0), some (vR G c1), none, none, some (vI a4), some (vI x5_2099), some (vI x6_2100), some (vI x7_2101), some (vI x8_2327), some (vI (zor x6_2100 r_2336)), none]) dX5_reachable_92 (by decide) rfl rfl rfl ?_
              refine kx_iconst 95 F dX5_reachable_94 rfl ?_
              refine kx_istore 97 F 10 (lo' := [some (vR G c0), some (vR G c1), none, none, some (vI a4), some (vI x5_2099), some (vI x6_2100), some (vI x7_2101), some (vI x8_2327), some (vI (zor x6_2100 r_2336)), some (vI 0)]) dX5_reachable_95 (by decide) rfl rfl rfl ?_
              have L_2381 : ∀ (n_2382 : Nat) (x9_2379 : Int) (x10_2380 : Int), 0 ≤ x9_2379 ∧ x9_2379 ≤ 7 ∧ 0 ≤ x10_2380 ∧ x10_2380 ≤ 2 → (2 - (x10_2380)).toNat = n_2382 → KJ false G X M 97 [some (vR G c0), some (vR G c1), none, none, some (vI a4), some (vI x5_2099), some (vI x6_2100), some (vI x7_2101), some (vI x8_2327), some (vI x9_2379), some (vI x10_2380)] [] := by
                intro n_2382
                refine Nat.strongRecOn n_2382 ?_
                intro n_2382 ih_2383 x9_2379 x10_2380 h_2384 hm_2385
                refine kx_iload 99 F 10 dX5_reachable_97 rfl rfl ?_
                refine kx_aload_n 100 F 0 dX5_reachable_99 rfl rfl rfl ?_
                refine kx_geti 103 F fl_X5_28 hk_c0 rfl rfl (j := 0) rfl dX5_reachable_100 (v := (M c0 0)) rfl rfl ?_
                refine kx_icmp_ge 106 F 132 dX5_reachable_103 (by decide) rfl (by omega) (by omega) (fun h_2386 => ?_) (fun h_2386 => ?_)
                · refine kx_iload 134 F 8 dX5_reachable_132 rfl rfl ?_
                  refine kx_iload 136 F 5 dX5_reachable_134 rfl rfl ?_
                  have J_2390 : KJ false G X M 149 [some (vR G c0), some (vR G c1), none, none, some (vI a4), none, none, some (vI x7_2101), some (vI x8_2327), some (vI x9_2379), none] [] := by
                    refine kx_iload 151 F 8 dX5_reachable_149 rfl rfl ?_
                    refine kx_istore 153 F 5 (lo' := [some (vR G c0), some (vR G c1), none, none, some (vI a4), some (vI x8_2327), none, some (vI x7_2101), some (vI x8_2327), some (vI x9_2379), none]) dX5_reachable_151 (by decide) rfl rfl rfl ?_
                    refine kx_iload 155 F 9 dX5_reachable_153 rfl rfl ?_
                    refine kx_istore 157 F 6 (lo' := [some (vR G c0), some (vR G c1), none, none, some (vI a4), some (vI x8_2327), some (vI x9_2379), some (vI x7_2101), some (vI x8_2327), some (vI x9_2379), none]) dX5_reachable_155 (by decide) rfl rfl rfl ?_
                    refine kx_iinc 160 F 7 (v := x7_2101 + 1) (lo' := [some (vR G c0), some (vR G c1), none, none, some (vI a4), some (vI x8_2327), some (vI x9_2379), some (vI (x7_2101 + 1)), some (vI x8_2327), some (vI x9_2379), none]) dX5_reachable_157 rfl (by omega) (by decide) rfl rfl rfl ?_
                    refine kx_goto 25 F dX5_reachable_160 (by decide) ?_
                    refine kx_drop 8 (lo' := [some (vR G c0), some (vR G c1), none, none, some (vI a4), some (vI x8_2327), some (vI x9_2379), some (vI (x7_2101 + 1)), none, some (vI x9_2379), none]) rfl ?_
                    refine kx_drop 9 (lo' := [some (vR G c0), some (vR G c1), none, none, some (vI a4), some (vI x8_2327), some (vI x9_2379), some (vI (x7_2101 + 1)), none, none, none]) rfl ?_
                    exact ih_2104 _ (by omega) x8_2327 x9_2379 (x7_2101 + 1) (by omega) rfl
                  refine kx_icmp_ne 139 F 149 dX5_reachable_136 (by decide) rfl (by omega) (by omega) (fun h_2392 => ?_) (fun h_2392 => ?_)
                  · refine kx_drop 5 (lo' := [some (vR G c0), some (vR G c1), none, none, some (vI a4), none, some (vI x6_2100), some (vI x7_2101), some (vI x8_2327), some (vI x9_2379), some (vI x10_2380)]) rfl ?_
                    refine kx_drop 6 (lo' := [some (vR G c0), some (vR G c1), none, none, some (vI a4), none, none, some (vI x7_2101), some (vI x8_2327), some (vI x9_2379), some (vI x10_2380)]) rfl ?_
                    refine kx_drop 10 (lo' := [some (vR G c0), some (vR G c1), none, none, some (vI a4), none, none, some (vI x7_2101), some (vI x8_2327), some (vI x9_2379), none]) rfl ?_
                    exact J_2390 
                  · refine kx_iload 141 F 9 dX5_reachable_139 rfl rfl ?_
                    refine kx_iload 143 F 6 dX5_reachable_141 rfl rfl ?_
                    refine kx_icmp_ne 146 F 149 dX5_reachable_143 (by decide) rfl (by omega) (by omega) (fun h_2393 => ?_) (fun h_2393 => ?_)
                    · refine kx_drop 5 (lo' := [some (vR G c0), some (vR G c1), none, none, some (vI a4), none, some (vI x6_2100), some (vI x7_2101), some (vI x8_2327), some (vI x9_2379), some (vI x10_2380)]) rfl ?_
                      refine kx_drop 6 (lo' := [some (vR G c0), some (vR G c1), none, none, some (vI a4), none, none, some (vI x7_2101), some (vI x8_2327), some (vI x9_2379), some (vI x10_2380)]) rfl ?_
                      refine kx_drop 10 (lo' := [some (vR G c0), some (vR G c1), none, none, some (vI a4), none, none, some (vI x7_2101), some (vI x8_2327), some (vI x9_2379), none]) rfl ?_
                      exact J_2390 
                    · refine kx_goto 163 F dX5_reachable_146 (by decide) ?_
                      refine kx_iload 165 F 5 dX5_reachable_163 rfl rfl ?_
                      refine kx_iload 167 F 6 dX5_reachable_165 rfl rfl ?_
                      refine kx_ior 168 F (v := (zor x5_2099 x6_2100)) dX5_reachable_167 rfl rfl ?_
                      have h_2394 : 0 ≤ (zor x5_2099 x6_2100) ∧ (zor x5_2099 x6_2100) < 8 := zor_lt (a := x5_2099) (b := x6_2100) 3 (by decide) (by omega) (by omega)
                      exact kx_iret F hQ ⟨rfl, (by omega)⟩ dX5_reachable_168
                · refine kx_iload 108 F 9 dX5_reachable_106 rfl rfl ?_
                  refine kx_iload 110 F 8 dX5_reachable_108 rfl rfl ?_
                  refine kx_iload 112 F 9 dX5_reachable_110 rfl rfl ?_
                  refine kx_ior 113 F (v := (zor x8_2327 x9_2379)) dX5_reachable_112 rfl rfl ?_
                  have h_2395 : 0 ≤ (zor x8_2327 x9_2379) ∧ (zor x8_2327 x9_2379) < 8 := zor_lt (a := x8_2327) (b := x9_2379) 3 (by decide) (by omega) (by omega)
                  refine kx_aload_n 114 F 1 dX5_reachable_113 rfl rfl rfl ?_
                  refine kx_getr 117 F fl_X5_73 hk_c1 rfl rfl (j := 10) rfl dX5_reachable_114 (v := (M c1 10)) rfl rfl ?_
                  have hk_2396 : kd (M c1 10) = 6 := Inv.r hI_M hk_c1 rfl 10 rfl rfl
                  refine kx_iload 119 F 10 dX5_reachable_117 rfl rfl ?_
                  refine kx_iald 120 F hk_2396 rfl rfl (by omega) (by decide) dX5_reachable_119 (v := (M (M c1 10) x10_2380)) rfl rfl ?_
                  have h_2397 := Inv.g hI_M hk_2396 rfl x10_2380 (a := 0) (b := 511) rfl rfl
                  refine kx_Si 123 F (As := [vI (zor x8_2327 x9_2379), vI (M (M c1 10) x10_2380)]) (st := [vI x9_2379]) sd_X5_89 (c_X2_image G l M (zor x8_2327 x9_2379) (M (M c1 10) x10_2380) hI_M (by omega)) ⟨by decide, by decide⟩ rfl rfl (Nat.le_of_ble_eq_true rfl) dX5_reachable_120 rfl ?_
                  intro r_2398 N_2399 q_2400
                  obtain ⟨rfl, q_2400c⟩ := q_2400
                  refine kx_ior 124 F (v := (zor x9_2379 r_2398)) dX5_reachable_123 rfl rfl ?_
                  have h_2401 : 0 ≤ (zor x9_2379 r_2398) ∧ (zor x9_2379 r_2398) < 8 := zor_lt (a := x9_2379) (b := r_2398) 3 (by decide) (by omega) (by omega)
                  refine kx_istore 126 F 9 (lo' := [some (vR G c0), some (vR G c1), none, none, some (vI a4), some (vI x5_2099), some (vI x6_2100), some (vI x7_2101), some (vI x8_2327), some (vI (zor x9_2379 r_2398)), some (vI x10_2380)]) dX5_reachable_124 (by decide) rfl rfl rfl ?_
                  refine kx_iinc 129 F 10 (v := x10_2380 + 1) (lo' := [some (vR G c0), some (vR G c1), none, none, some (vI a4), some (vI x5_2099), some (vI x6_2100), some (vI x7_2101), some (vI x8_2327), some (vI (zor x9_2379 r_2398)), some (vI (x10_2380 + 1))]) dX5_reachable_126 rfl (by omega) (by decide) rfl rfl rfl ?_
                  refine kx_goto 97 F dX5_reachable_129 (by decide) ?_
                  exact ih_2383 _ (by omega) (zor x9_2379 r_2398) (x10_2380 + 1) (by omega) rfl
              exact L_2381 _ (zor x6_2100 r_2336) 0 (by omega) rfl
            · refine kx_iload 61 F 8 dX5_reachable_59 rfl rfl ?_
              refine kx_iload 63 F 8 dX5_reachable_61 rfl rfl ?_
              refine kx_aload_n 64 F 1 dX5_reachable_63 rfl rfl rfl ?_
              refine kx_getr 67 F fl_X5_73 hk_c1 rfl rfl (j := 10) rfl dX5_reachable_64 (v := (M c1 10)) rfl rfl ?_
              have hk_2402 : kd (M c1 10) = 6 := Inv.r hI_M hk_c1 rfl 10 rfl rfl
              refine kx_iload 69 F 9 dX5_reachable_67 rfl rfl ?_
              refine kx_iald 70 F hk_2402 rfl rfl (by omega) (by decide) dX5_reachable_69 (v := (M (M c1 10) x9_2328)) rfl rfl ?_
              have h_2403 := Inv.g hI_M hk_2402 rfl x9_2328 (a := 0) (b := 511) rfl rfl
              refine kx_Si 73 F (As := [vI x8_2327, vI (M (M c1 10) x9_2328)]) (st := [vI x8_2327]) sd_X5_89 (c_X2_image G l M x8_2327 (M (M c1 10) x9_2328) hI_M (by omega)) ⟨by decide, by decide⟩ rfl rfl (Nat.le_of_ble_eq_true rfl) dX5_reachable_70 rfl ?_
              intro r_2404 N_2405 q_2406
              obtain ⟨rfl, q_2406c⟩ := q_2406
              refine kx_ior 74 F (v := (zor x8_2327 r_2404)) dX5_reachable_73 rfl rfl ?_
              have h_2407 : 0 ≤ (zor x8_2327 r_2404) ∧ (zor x8_2327 r_2404) < 8 := zor_lt (a := x8_2327) (b := r_2404) 3 (by decide) (by omega) (by omega)
              refine kx_istore 76 F 8 (lo' := [some (vR G c0), some (vR G c1), none, none, some (vI a4), some (vI x5_2099), some (vI x6_2100), some (vI x7_2101), some (vI (zor x8_2327 r_2404)), some (vI x9_2328), none]) dX5_reachable_74 (by decide) rfl rfl rfl ?_
              refine kx_iinc 79 F 9 (v := x9_2328 + 1) (lo' := [some (vR G c0), some (vR G c1), none, none, some (vI a4), some (vI x5_2099), some (vI x6_2100), some (vI x7_2101), some (vI (zor x8_2327 r_2404)), some (vI (x9_2328 + 1)), none]) dX5_reachable_76 rfl (by omega) (by decide) rfl rfl rfl ?_
              refine kx_goto 50 F dX5_reachable_79 (by decide) ?_
              exact ih_2331 _ (by omega) (zor x8_2327 r_2404) (x9_2328 + 1) (by omega) rfl
          exact L_2329 _ (zor x5_2099 r_2109) (M c0 0) (by omega) rfl
      exact L_2102 _ y0_3 y0_8 0 (by omega) rfl
    refine kx_if_eq 15 F 19 dX5_reachable_12 (by decide) rfl (by omega) (fun h_2408 => ?_) (fun h_2408 => ?_)
    · refine kx_iload_n 20 F 2 dX5_reachable_19 rfl rfl rfl ?_
      refine kx_drop 2 (lo' := [some (vR G c0), some (vR G c1), none, some (vI a3), some (vI a4), some (vI y0_3), none, none, none, none, none]) rfl ?_
      refine kx_drop 3 (lo' := [some (vR G c0), some (vR G c1), none, none, some (vI a4), some (vI y0_3), none, none, none, none, none]) rfl ?_
      exact J_9 a2 (by omega)
    · refine kx_iconst 16 F dX5_reachable_15 rfl ?_
      refine kx_goto 20 F dX5_reachable_16 (by decide) ?_
      refine kx_drop 2 (lo' := [some (vR G c0), some (vR G c1), none, some (vI a3), some (vI a4), some (vI y0_3), none, none, none, none, none]) rfl ?_
      refine kx_drop 3 (lo' := [some (vR G c0), some (vR G c1), none, none, some (vI a4), some (vI y0_3), none, none, none, none, none]) rfl ?_
      exact J_9 0 (by omega)
  refine kx_if_eq 4 F 8 dX5_reachable_1 (by decide) rfl (by omega) (fun h_2409 => ?_) (fun h_2409 => ?_)
  · refine kx_iconst 9 F dX5_reachable_8 rfl ?_
    exact J_4 0 (by omega)
  · refine kx_iload_n 5 F 2 dX5_reachable_4 rfl rfl rfl ?_
    refine kx_goto 9 F dX5_reachable_5 (by decide) ?_
    exact J_4 a2 (by omega)
set_option maxRecDepth 100000 in
theorem dGR_11_c_98 : (decode cX5_isLost 0 = .ok (.aload_n 0, 1)) ∧ (decode cX5_isLost 1 = .ok (.aload_n 0, 1)) ∧ (decode cX5_isLost 2 = .ok (.getfield 24, 3)) ∧ (decode cX5_isLost 5 = .ok (.getfield 41, 3)) ∧ (decode cX5_isLost 8 = .ok (.invokevirtual 92, 3)) ∧ (decode cX5_isLost 11 = .ok (.astore_n 1, 1)) ∧ (decode cX5_isLost 12 = .ok (.aload_n 0, 1)) ∧ (decode cX5_isLost 13 = .ok (.aload_n 1, 1)) ∧ (decode cX5_isLost 14 = .ok (.invokevirtual 96, 3)) ∧ (decode cX5_isLost 17 = .ok (.istore_n 2, 1)) ∧ (decode cX5_isLost 18 = .ok (.aload_n 0, 1)) ∧ (decode cX5_isLost 19 = .ok (.getfield 24, 3)) := by decide +kernel
theorem dX5_isLost_0 : decode cX5_isLost 0 = .ok (.aload_n 0, 1) := dGR_11_c_98.1
theorem dX5_isLost_1 : decode cX5_isLost 1 = .ok (.aload_n 0, 1) := dGR_11_c_98.2.1
theorem dX5_isLost_2 : decode cX5_isLost 2 = .ok (.getfield 24, 3) := dGR_11_c_98.2.2.1
theorem dX5_isLost_5 : decode cX5_isLost 5 = .ok (.getfield 41, 3) := dGR_11_c_98.2.2.2.1
theorem dX5_isLost_8 : decode cX5_isLost 8 = .ok (.invokevirtual 92, 3) := dGR_11_c_98.2.2.2.2.1
theorem dX5_isLost_11 : decode cX5_isLost 11 = .ok (.astore_n 1, 1) := dGR_11_c_98.2.2.2.2.2.1
theorem dX5_isLost_12 : decode cX5_isLost 12 = .ok (.aload_n 0, 1) := dGR_11_c_98.2.2.2.2.2.2.1
theorem dX5_isLost_13 : decode cX5_isLost 13 = .ok (.aload_n 1, 1) := dGR_11_c_98.2.2.2.2.2.2.2.1
theorem dX5_isLost_14 : decode cX5_isLost 14 = .ok (.invokevirtual 96, 3) := dGR_11_c_98.2.2.2.2.2.2.2.2.1
theorem dX5_isLost_17 : decode cX5_isLost 17 = .ok (.istore_n 2, 1) := dGR_11_c_98.2.2.2.2.2.2.2.2.2.1
theorem dX5_isLost_18 : decode cX5_isLost 18 = .ok (.aload_n 0, 1) := dGR_11_c_98.2.2.2.2.2.2.2.2.2.2.1
theorem dX5_isLost_19 : decode cX5_isLost 19 = .ok (.getfield 24, 3) := dGR_11_c_98.2.2.2.2.2.2.2.2.2.2.2
set_option maxRecDepth 100000 in
theorem dGR_11_c_99 : (decode cX5_isLost 22 = .ok (.getfield 100, 3)) ∧ (decode cX5_isLost 25 = .ok (.istore_n 3, 1)) ∧ (decode cX5_isLost 26 = .ok (.aload_n 0, 1)) ∧ (decode cX5_isLost 27 = .ok (.getfield 24, 3)) ∧ (decode cX5_isLost 30 = .ok (.getfield 101, 3)) ∧ (decode cX5_isLost 33 = .ok (.istore 4, 2)) ∧ (decode cX5_isLost 35 = .ok (.aload_n 0, 1)) ∧ (decode cX5_isLost 36 = .ok (.getfield 24, 3)) ∧ (decode cX5_isLost 39 = .ok (.getfield 104, 3)) ∧ (decode cX5_isLost 42 = .ok (.istore 5, 2)) ∧ (decode cX5_isLost 44 = .ok (.iload 5, 2)) ∧ (decode cX5_isLost 46 = .ok (.ifCond .lt 103, 3)) := by decide +kernel
theorem dX5_isLost_22 : decode cX5_isLost 22 = .ok (.getfield 100, 3) := dGR_11_c_99.1
theorem dX5_isLost_25 : decode cX5_isLost 25 = .ok (.istore_n 3, 1) := dGR_11_c_99.2.1
theorem dX5_isLost_26 : decode cX5_isLost 26 = .ok (.aload_n 0, 1) := dGR_11_c_99.2.2.1
theorem dX5_isLost_27 : decode cX5_isLost 27 = .ok (.getfield 24, 3) := dGR_11_c_99.2.2.2.1
theorem dX5_isLost_30 : decode cX5_isLost 30 = .ok (.getfield 101, 3) := dGR_11_c_99.2.2.2.2.1
theorem dX5_isLost_33 : decode cX5_isLost 33 = .ok (.istore 4, 2) := dGR_11_c_99.2.2.2.2.2.1
theorem dX5_isLost_35 : decode cX5_isLost 35 = .ok (.aload_n 0, 1) := dGR_11_c_99.2.2.2.2.2.2.1
theorem dX5_isLost_36 : decode cX5_isLost 36 = .ok (.getfield 24, 3) := dGR_11_c_99.2.2.2.2.2.2.2.1
theorem dX5_isLost_39 : decode cX5_isLost 39 = .ok (.getfield 104, 3) := dGR_11_c_99.2.2.2.2.2.2.2.2.1
theorem dX5_isLost_42 : decode cX5_isLost 42 = .ok (.istore 5, 2) := dGR_11_c_99.2.2.2.2.2.2.2.2.2.1
theorem dX5_isLost_44 : decode cX5_isLost 44 = .ok (.iload 5, 2) := dGR_11_c_99.2.2.2.2.2.2.2.2.2.2.1
theorem dX5_isLost_46 : decode cX5_isLost 46 = .ok (.ifCond .lt 103, 3) := dGR_11_c_99.2.2.2.2.2.2.2.2.2.2.2
set_option maxRecDepth 100000 in
theorem dGR_11_c_100 : (decode cX5_isLost 49 = .ok (.aload_n 0, 1)) ∧ (decode cX5_isLost 50 = .ok (.aload_n 1, 1)) ∧ (decode cX5_isLost 51 = .ok (.iload_n 3, 1)) ∧ (decode cX5_isLost 52 = .ok (.iload 5, 2)) ∧ (decode cX5_isLost 54 = .ok (.ifCond .ne 7, 3)) ∧ (decode cX5_isLost 57 = .ok (.iconst 1, 1)) ∧ (decode cX5_isLost 58 = .ok (.goto 4, 3)) ∧ (decode cX5_isLost 61 = .ok (.iconst 0, 1)) ∧ (decode cX5_isLost 62 = .ok (.iload_n 2, 1)) ∧ (decode cX5_isLost 63 = .ok (.invokevirtual 107, 3)) ∧ (decode cX5_isLost 66 = .ok (.aload_n 1, 1)) ∧ (decode cX5_isLost 67 = .ok (.getfield 111, 3)) := by decide +kernel
theorem dX5_isLost_49 : decode cX5_isLost 49 = .ok (.aload_n 0, 1) := dGR_11_c_100.1
theorem dX5_isLost_50 : decode cX5_isLost 50 = .ok (.aload_n 1, 1) := dGR_11_c_100.2.1
theorem dX5_isLost_51 : decode cX5_isLost 51 = .ok (.iload_n 3, 1) := dGR_11_c_100.2.2.1
theorem dX5_isLost_52 : decode cX5_isLost 52 = .ok (.iload 5, 2) := dGR_11_c_100.2.2.2.1
theorem dX5_isLost_54 : decode cX5_isLost 54 = .ok (.ifCond .ne 7, 3) := dGR_11_c_100.2.2.2.2.1
theorem dX5_isLost_57 : decode cX5_isLost 57 = .ok (.iconst 1, 1) := dGR_11_c_100.2.2.2.2.2.1
theorem dX5_isLost_58 : decode cX5_isLost 58 = .ok (.goto 4, 3) := dGR_11_c_100.2.2.2.2.2.2.1
theorem dX5_isLost_61 : decode cX5_isLost 61 = .ok (.iconst 0, 1) := dGR_11_c_100.2.2.2.2.2.2.2.1
theorem dX5_isLost_62 : decode cX5_isLost 62 = .ok (.iload_n 2, 1) := dGR_11_c_100.2.2.2.2.2.2.2.2.1
theorem dX5_isLost_63 : decode cX5_isLost 63 = .ok (.invokevirtual 107, 3) := dGR_11_c_100.2.2.2.2.2.2.2.2.2.1
theorem dX5_isLost_66 : decode cX5_isLost 66 = .ok (.aload_n 1, 1) := dGR_11_c_100.2.2.2.2.2.2.2.2.2.2.1
theorem dX5_isLost_67 : decode cX5_isLost 67 = .ok (.getfield 111, 3) := dGR_11_c_100.2.2.2.2.2.2.2.2.2.2.2
set_option maxRecDepth 100000 in
theorem dGR_11_c_101 : (decode cX5_isLost 70 = .ok (.iand, 1)) ∧ (decode cX5_isLost 71 = .ok (.ifCond .eq 5, 3)) ∧ (decode cX5_isLost 74 = .ok (.iconst 0, 1)) ∧ (decode cX5_isLost 75 = .ok (.ireturn, 1)) ∧ (decode cX5_isLost 76 = .ok (.iload 5, 2)) ∧ (decode cX5_isLost 78 = .ok (.ifCond .le 65, 3)) ∧ (decode cX5_isLost 81 = .ok (.aload_n 0, 1)) ∧ (decode cX5_isLost 82 = .ok (.aload_n 1, 1)) ∧ (decode cX5_isLost 83 = .ok (.aload_n 0, 1)) ∧ (decode cX5_isLost 84 = .ok (.getfield 24, 3)) ∧ (decode cX5_isLost 87 = .ok (.getfield 114, 3)) ∧ (decode cX5_isLost 90 = .ok (.iload 5, 2)) := by decide +kernel
theorem dX5_isLost_70 : decode cX5_isLost 70 = .ok (.iand, 1) := dGR_11_c_101.1
theorem dX5_isLost_71 : decode cX5_isLost 71 = .ok (.ifCond .eq 5, 3) := dGR_11_c_101.2.1
theorem dX5_isLost_74 : decode cX5_isLost 74 = .ok (.iconst 0, 1) := dGR_11_c_101.2.2.1
theorem dX5_isLost_75 : decode cX5_isLost 75 = .ok (.ireturn, 1) := dGR_11_c_101.2.2.2.1
theorem dX5_isLost_76 : decode cX5_isLost 76 = .ok (.iload 5, 2) := dGR_11_c_101.2.2.2.2.1
theorem dX5_isLost_78 : decode cX5_isLost 78 = .ok (.ifCond .le 65, 3) := dGR_11_c_101.2.2.2.2.2.1
theorem dX5_isLost_81 : decode cX5_isLost 81 = .ok (.aload_n 0, 1) := dGR_11_c_101.2.2.2.2.2.2.1
theorem dX5_isLost_82 : decode cX5_isLost 82 = .ok (.aload_n 1, 1) := dGR_11_c_101.2.2.2.2.2.2.2.1
theorem dX5_isLost_83 : decode cX5_isLost 83 = .ok (.aload_n 0, 1) := dGR_11_c_101.2.2.2.2.2.2.2.2.1
theorem dX5_isLost_84 : decode cX5_isLost 84 = .ok (.getfield 24, 3) := dGR_11_c_101.2.2.2.2.2.2.2.2.2.1
theorem dX5_isLost_87 : decode cX5_isLost 87 = .ok (.getfield 114, 3) := dGR_11_c_101.2.2.2.2.2.2.2.2.2.2.1
theorem dX5_isLost_90 : decode cX5_isLost 90 = .ok (.iload 5, 2) := dGR_11_c_101.2.2.2.2.2.2.2.2.2.2.2
set_option maxRecDepth 100000 in
theorem dGR_11_c_102 : (decode cX5_isLost 92 = .ok (.iconst 1, 1)) ∧ (decode cX5_isLost 93 = .ok (.isub, 1)) ∧ (decode cX5_isLost 94 = .ok (.iaload, 1)) ∧ (decode cX5_isLost 95 = .ok (.iload 4, 2)) ∧ (decode cX5_isLost 97 = .ok (.iload_n 2, 1)) ∧ (decode cX5_isLost 98 = .ok (.invokestatic 77, 3)) ∧ (decode cX5_isLost 101 = .ok (.invokevirtual 81, 3)) ∧ (decode cX5_isLost 104 = .ok (.istore 6, 2)) ∧ (decode cX5_isLost 106 = .ok (.aload_n 0, 1)) ∧ (decode cX5_isLost 107 = .ok (.getfield 24, 3)) ∧ (decode cX5_isLost 110 = .ok (.getfield 117, 3)) ∧ (decode cX5_isLost 113 = .ok (.iload 5, 2)) := by decide +kernel
theorem dX5_isLost_92 : decode cX5_isLost 92 = .ok (.iconst 1, 1) := dGR_11_c_102.1
theorem dX5_isLost_93 : decode cX5_isLost 93 = .ok (.isub, 1) := dGR_11_c_102.2.1
theorem dX5_isLost_94 : decode cX5_isLost 94 = .ok (.iaload, 1) := dGR_11_c_102.2.2.1
theorem dX5_isLost_95 : decode cX5_isLost 95 = .ok (.iload 4, 2) := dGR_11_c_102.2.2.2.1
theorem dX5_isLost_97 : decode cX5_isLost 97 = .ok (.iload_n 2, 1) := dGR_11_c_102.2.2.2.2.1
theorem dX5_isLost_98 : decode cX5_isLost 98 = .ok (.invokestatic 77, 3) := dGR_11_c_102.2.2.2.2.2.1
theorem dX5_isLost_101 : decode cX5_isLost 101 = .ok (.invokevirtual 81, 3) := dGR_11_c_102.2.2.2.2.2.2.1
theorem dX5_isLost_104 : decode cX5_isLost 104 = .ok (.istore 6, 2) := dGR_11_c_102.2.2.2.2.2.2.2.1
theorem dX5_isLost_106 : decode cX5_isLost 106 = .ok (.aload_n 0, 1) := dGR_11_c_102.2.2.2.2.2.2.2.2.1
theorem dX5_isLost_107 : decode cX5_isLost 107 = .ok (.getfield 24, 3) := dGR_11_c_102.2.2.2.2.2.2.2.2.2.1
theorem dX5_isLost_110 : decode cX5_isLost 110 = .ok (.getfield 117, 3) := dGR_11_c_102.2.2.2.2.2.2.2.2.2.2.1
theorem dX5_isLost_113 : decode cX5_isLost 113 = .ok (.iload 5, 2) := dGR_11_c_102.2.2.2.2.2.2.2.2.2.2.2
set_option maxRecDepth 100000 in
theorem dGR_11_c_103 : (decode cX5_isLost 115 = .ok (.iconst 1, 1)) ∧ (decode cX5_isLost 116 = .ok (.isub, 1)) ∧ (decode cX5_isLost 117 = .ok (.iaload, 1)) ∧ (decode cX5_isLost 118 = .ok (.iload 6, 2)) ∧ (decode cX5_isLost 120 = .ok (.invokestatic 77, 3)) ∧ (decode cX5_isLost 123 = .ok (.istore 4, 2)) ∧ (decode cX5_isLost 125 = .ok (.aload_n 0, 1)) ∧ (decode cX5_isLost 126 = .ok (.getfield 24, 3)) ∧ (decode cX5_isLost 129 = .ok (.getfield 120, 3)) ∧ (decode cX5_isLost 132 = .ok (.iload 5, 2)) ∧ (decode cX5_isLost 134 = .ok (.iconst 1, 1)) ∧ (decode cX5_isLost 135 = .ok (.isub, 1)) := by decide +kernel
theorem dX5_isLost_115 : decode cX5_isLost 115 = .ok (.iconst 1, 1) := dGR_11_c_103.1
theorem dX5_isLost_116 : decode cX5_isLost 116 = .ok (.isub, 1) := dGR_11_c_103.2.1
theorem dX5_isLost_117 : decode cX5_isLost 117 = .ok (.iaload, 1) := dGR_11_c_103.2.2.1
theorem dX5_isLost_118 : decode cX5_isLost 118 = .ok (.iload 6, 2) := dGR_11_c_103.2.2.2.1
theorem dX5_isLost_120 : decode cX5_isLost 120 = .ok (.invokestatic 77, 3) := dGR_11_c_103.2.2.2.2.1
theorem dX5_isLost_123 : decode cX5_isLost 123 = .ok (.istore 4, 2) := dGR_11_c_103.2.2.2.2.2.1
theorem dX5_isLost_125 : decode cX5_isLost 125 = .ok (.aload_n 0, 1) := dGR_11_c_103.2.2.2.2.2.2.1
theorem dX5_isLost_126 : decode cX5_isLost 126 = .ok (.getfield 24, 3) := dGR_11_c_103.2.2.2.2.2.2.2.1
theorem dX5_isLost_129 : decode cX5_isLost 129 = .ok (.getfield 120, 3) := dGR_11_c_103.2.2.2.2.2.2.2.2.1
theorem dX5_isLost_132 : decode cX5_isLost 132 = .ok (.iload 5, 2) := dGR_11_c_103.2.2.2.2.2.2.2.2.2.1
theorem dX5_isLost_134 : decode cX5_isLost 134 = .ok (.iconst 1, 1) := dGR_11_c_103.2.2.2.2.2.2.2.2.2.2.1
theorem dX5_isLost_135 : decode cX5_isLost 135 = .ok (.isub, 1) := dGR_11_c_103.2.2.2.2.2.2.2.2.2.2.2
set_option maxRecDepth 100000 in
theorem dGR_11_c_104 : (decode cX5_isLost 136 = .ok (.iaload, 1)) ∧ (decode cX5_isLost 137 = .ok (.iload 6, 2)) ∧ (decode cX5_isLost 139 = .ok (.invokestatic 89, 3)) ∧ (decode cX5_isLost 142 = .ok (.istore_n 3, 1)) ∧ (decode cX5_isLost 143 = .ok (.iinc 5 (-1), 3)) ∧ (decode cX5_isLost 146 = .ok (.goto (-102), 3)) ∧ (decode cX5_isLost 149 = .ok (.iconst 1, 1)) ∧ (decode cX5_isLost 150 = .ok (.ireturn, 1)) := by decide +kernel
theorem dX5_isLost_136 : decode cX5_isLost 136 = .ok (.iaload, 1) := dGR_11_c_104.1
theorem dX5_isLost_137 : decode cX5_isLost 137 = .ok (.iload 6, 2) := dGR_11_c_104.2.1
theorem dX5_isLost_139 : decode cX5_isLost 139 = .ok (.invokestatic 89, 3) := dGR_11_c_104.2.2.1
theorem dX5_isLost_142 : decode cX5_isLost 142 = .ok (.istore_n 3, 1) := dGR_11_c_104.2.2.2.1
theorem dX5_isLost_143 : decode cX5_isLost 143 = .ok (.iinc 5 (-1), 3) := dGR_11_c_104.2.2.2.2.1
theorem dX5_isLost_146 : decode cX5_isLost 146 = .ok (.goto (-102), 3) := dGR_11_c_104.2.2.2.2.2.1
theorem dX5_isLost_149 : decode cX5_isLost 149 = .ok (.iconst 1, 1) := dGR_11_c_104.2.2.2.2.2.2.1
theorem dX5_isLost_150 : decode cX5_isLost 150 = .ok (.ireturn, 1) := dGR_11_c_104.2.2.2.2.2.2.2
set_option maxHeartbeats 4000000 in
set_option maxRecDepth 100000 in
theorem c_X5_isLost (G : KG) (l : Launch) (M : Mem) (c0 : Int) (hI_M : Inv false M) (hk_c0 : kd c0 = 12) : KC false G l yX5_isLost cX5_isLost 7 (some .boolean) (4, 98) [vR G c0] M (fun A => kQi false G A (fun (r : Int) (N : Mem) => M = N ∧ (0 ≤ r ∧ r ≤ 1))) := by
  refine kx_met (lo := [some (vR G c0), none, none, none, none, none, none]) (by decide) (Nat.le_of_ble_eq_true rfl) rfl ?_
  intro X F hQ
  refine kx_aload_n 1 F 0 dX5_isLost_0 rfl rfl rfl ?_
  refine kx_aload_n 2 F 0 dX5_isLost_1 rfl rfl rfl ?_
  refine kx_getr 5 F fl_X5_24 hk_c0 rfl rfl (j := 6) rfl dX5_isLost_2 (v := (M c0 6)) rfl rfl ?_
  have hk_1 : kd (M c0 6) = 8 := Inv.r hI_M hk_c0 rfl 6 rfl rfl
  refine kx_geti 8 F fl_X5_41 hk_1 rfl rfl (j := 0) rfl dX5_isLost_5 (v := (M (M c0 6) 0)) rfl rfl ?_
  have h_2 := Inv.g hI_M hk_1 rfl 0 (a := (-1)) (b := 1) rfl rfl
  refine kx_Vr 11 (ci := 0) F (As := [vI (M (M c0 6) 0)]) (st := []) vd_X5_92 (c_X5_pick G l M c0 (M (M c0 6) 0) hI_M hk_c0 (by omega)) hk_c0 rfl rfl rfl ⟨by decide, by decide⟩ rfl rfl (Nat.le_of_ble_eq_true rfl) dX5_isLost_8 rfl ?_
  intro r_3 N_4 q_5
  obtain ⟨rfl, hk_6⟩ := q_5
  refine kx_astore_n 12 F 1 (lo' := [some (vR G c0), some (vR G r_3), none, none, none, none, none]) dX5_isLost_11 rfl (by decide) rfl rfl rfl ?_
  refine kx_aload_n 13 F 0 dX5_isLost_12 rfl rfl rfl ?_
  refine kx_aload_n 14 F 1 dX5_isLost_13 rfl rfl rfl ?_
  refine kx_Vi 17 (ci := 0) F (As := [vR G r_3]) (st := []) vd_X5_96 (c_X5_wellPairs G l M c0 r_3 hI_M hk_c0 hk_6) hk_c0 rfl rfl rfl ⟨by decide, by decide⟩ rfl rfl (Nat.le_of_ble_eq_true rfl) dX5_isLost_14 rfl ?_
  intro r_7 N_8 q_9
  obtain ⟨rfl, q_9c⟩ := q_9
  refine kx_istore_n 18 F 2 (lo' := [some (vR G c0), some (vR G r_3), some (vI r_7), none, none, none, none]) dX5_isLost_17 rfl (by decide) rfl rfl rfl ?_
  refine kx_aload_n 19 F 0 dX5_isLost_18 rfl rfl rfl ?_
  refine kx_getr 22 F fl_X5_24 hk_c0 rfl rfl (j := 6) rfl dX5_isLost_19 (v := (M c0 6)) rfl rfl ?_
  refine kx_geti 25 F fl_X5_100 hk_1 rfl rfl (j := 3) rfl dX5_isLost_22 (v := (M (M c0 6) 3)) rfl rfl ?_
  have h_10 := Inv.g hI_M hk_1 rfl 3 (a := 0) (b := 7) rfl rfl
  refine kx_istore_n 26 F 3 (lo' := [some (vR G c0), some (vR G r_3), some (vI r_7), some (vI (M (M c0 6) 3)), none, none, none]) dX5_isLost_25 rfl (by decide) rfl rfl rfl ?_
  refine kx_aload_n 27 F 0 dX5_isLost_26 rfl rfl rfl ?_
  refine kx_getr 30 F fl_X5_24 hk_c0 rfl rfl (j := 6) rfl dX5_isLost_27 (v := (M c0 6)) rfl rfl ?_
  refine kx_geti 33 F fl_X5_101 hk_1 rfl rfl (j := 4) rfl dX5_isLost_30 (v := (M (M c0 6) 4)) rfl rfl ?_
  have h_11 := Inv.g hI_M hk_1 rfl 4 (a := 0) (b := 511) rfl rfl
  refine kx_istore 35 F 4 (lo' := [some (vR G c0), some (vR G r_3), some (vI r_7), some (vI (M (M c0 6) 3)), some (vI (M (M c0 6) 4)), none, none]) dX5_isLost_33 (by decide) rfl rfl rfl ?_
  refine kx_aload_n 36 F 0 dX5_isLost_35 rfl rfl rfl ?_
  refine kx_getr 39 F fl_X5_24 hk_c0 rfl rfl (j := 6) rfl dX5_isLost_36 (v := (M c0 6)) rfl rfl ?_
  refine kx_geti 42 F fl_X5_104 hk_1 rfl rfl (j := 2) rfl dX5_isLost_39 (v := (M (M c0 6) 2)) rfl rfl ?_
  have h_12 := Inv.g hI_M hk_1 rfl 2 (a := 0) (b := 30) rfl rfl
  refine kx_istore 44 F 5 (lo' := [some (vR G c0), some (vR G r_3), some (vI r_7), some (vI (M (M c0 6) 3)), some (vI (M (M c0 6) 4)), some (vI (M (M c0 6) 2)), none]) dX5_isLost_42 (by decide) rfl rfl rfl ?_
  have L_90 : ∀ (n_91 : Nat) (x3_87 : Int) (x4_88 : Int) (x5_89 : Int), 0 ≤ x3_87 ∧ x3_87 ≤ 7 ∧ 0 ≤ x4_88 ∧ x4_88 ≤ 511 ∧ (-1) ≤ x5_89 ∧ x5_89 ≤ 30 ∧ x5_89 ≤ (M (M c0 6) 2) → ((x5_89) - (-1)).toNat = n_91 → KJ false G X M 44 [some (vR G c0), some (vR G r_3), some (vI r_7), some (vI x3_87), some (vI x4_88), some (vI x5_89), none] [] := by
    intro n_91
    refine Nat.strongRecOn n_91 ?_
    intro n_91 ih_92 x3_87 x4_88 x5_89 h_93 hm_94
    refine kx_iload 46 F 5 dX5_isLost_44 rfl rfl ?_
    refine kx_if_lt 49 F 149 dX5_isLost_46 (by decide) rfl (by omega) (fun h_95 => ?_) (fun h_95 => ?_)
    · refine kx_iconst 150 F dX5_isLost_149 rfl ?_
      exact kx_zret F hQ (by omega) ⟨rfl, (by omega)⟩ dX5_isLost_150
    · refine kx_aload_n 50 F 0 dX5_isLost_49 rfl rfl rfl ?_
      refine kx_aload_n 51 F 1 dX5_isLost_50 rfl rfl rfl ?_
      refine kx_iload_n 52 F 3 dX5_isLost_51 rfl rfl rfl ?_
      refine kx_iload 54 F 5 dX5_isLost_52 rfl rfl ?_
      have J_99 : ∀ (y0_98 : Int), 0 ≤ y0_98 ∧ y0_98 ≤ 1 → KJ false G X M 62 [some (vR G c0), some (vR G r_3), some (vI r_7), some (vI x3_87), some (vI x4_88), some (vI x5_89), none] [vI y0_98, vI x3_87, vR G r_3, vR G c0] := by
        intro y0_98 h_100
        refine kx_iload_n 63 F 2 dX5_isLost_62 rfl rfl rfl ?_
        refine kx_Vi 66 (ci := 0) F (As := [vR G r_3, vI x3_87, vI y0_98, vI r_7]) (st := []) vd_X5_107 (c_X5_reachable G l M c0 r_3 x3_87 y0_98 r_7 hI_M hk_c0 hk_6 (by omega)) hk_c0 rfl rfl rfl ⟨by decide, by decide⟩ rfl rfl (Nat.le_of_ble_eq_true rfl) dX5_isLost_63 rfl ?_
        intro r_101 N_102 q_103
        obtain ⟨rfl, q_103c⟩ := q_103
        refine kx_aload_n 67 F 1 dX5_isLost_66 rfl rfl rfl ?_
        refine kx_geti 70 F fl_X5_111 hk_6 rfl rfl (j := 3) rfl dX5_isLost_67 (v := (M r_3 3)) rfl rfl ?_
        have h_104 := Inv.g hI_M hk_6 rfl 3 (a := 0) (b := 7) rfl rfl
        refine kx_iand 71 F (v := (zand r_101 (M r_3 3))) dX5_isLost_70 rfl rfl ?_
        have h_105 := zand_r (a := r_101) (b := (M r_3 3)) (by omega)
        refine kx_if_eq 74 F 76 dX5_isLost_71 (by decide) rfl (by omega) (fun h_106 => ?_) (fun h_106 => ?_)
        · refine kx_iload 78 F 5 dX5_isLost_76 rfl rfl ?_
          have J_128 : ∀ (x3_126 : Int) (x4_127 : Int), 0 ≤ x3_126 ∧ x3_126 ≤ 7 ∧ 0 ≤ x4_127 ∧ x4_127 ≤ 511 → KJ false G X M 143 [some (vR G c0), some (vR G r_3), some (vI r_7), some (vI x3_126), some (vI x4_127), some (vI x5_89), none] [] := by
            intro x3_126 x4_127 h_129
            refine kx_iinc 146 F 5 (v := x5_89 - 1) (lo' := [some (vR G c0), some (vR G r_3), some (vI r_7), some (vI x3_126), some (vI x4_127), some (vI (x5_89 - 1)), none]) dX5_isLost_143 rfl (by omega) (by decide) rfl rfl rfl ?_
            refine kx_goto 44 F dX5_isLost_146 (by decide) ?_
            exact ih_92 _ (by omega) x3_126 x4_127 (x5_89 - 1) (by omega) rfl
          refine kx_if_le 81 F 143 dX5_isLost_78 (by decide) rfl (by omega) (fun h_130 => ?_) (fun h_130 => ?_)
          · exact J_128 x3_87 x4_88 (by omega)
          · refine kx_aload_n 82 F 0 dX5_isLost_81 rfl rfl rfl ?_
            refine kx_aload_n 83 F 1 dX5_isLost_82 rfl rfl rfl ?_
            refine kx_aload_n 84 F 0 dX5_isLost_83 rfl rfl rfl ?_
            refine kx_getr 87 F fl_X5_24 hk_c0 rfl rfl (j := 6) rfl dX5_isLost_84 (v := (M c0 6)) rfl rfl ?_
            refine kx_getr 90 F fl_X5_114 hk_1 rfl rfl (j := 7) rfl dX5_isLost_87 (v := (M (M c0 6) 7)) rfl rfl ?_
            have hk_131 : kd (M (M c0 6) 7) = 11 := Inv.r hI_M hk_1 rfl 7 rfl rfl
            refine kx_iload 92 F 5 dX5_isLost_90 rfl rfl ?_
            refine kx_iconst 93 F dX5_isLost_92 rfl ?_
            refine kx_isub 94 F (v := x5_89 - 1) dX5_isLost_93 rfl rfl ?_
            refine kx_iald 95 F hk_131 rfl rfl (by omega) (by decide) dX5_isLost_94 (v := (M (M (M c0 6) 7) (x5_89 - 1))) rfl rfl ?_
            have h_132 := Inv.g hI_M hk_131 rfl (x5_89 - 1) (a := 0) (b := 5) rfl rfl
            refine kx_iload 97 F 4 dX5_isLost_95 rfl rfl ?_
            refine kx_iload_n 98 F 2 dX5_isLost_97 rfl rfl rfl ?_
            refine kx_Si 101 F (As := [vI x4_88, vI r_7]) (st := [vI (M (M (M c0 6) 7) (x5_89 - 1)), vR G r_3, vR G c0]) sd_X5_77 (c_X2_compose G l M x4_88 r_7 hI_M (by omega)) ⟨by decide, by decide⟩ rfl rfl (Nat.le_of_ble_eq_true rfl) dX5_isLost_98 rfl ?_
            intro r_133 N_134 q_135
            obtain ⟨rfl, q_135c⟩ := q_135
            refine kx_Vi 104 (ci := 0) F (As := [vR G r_3, vI (M (M (M c0 6) 7) (x5_89 - 1)), vI r_133]) (st := []) vd_X5_81 (c_X5_overAny G l M c0 r_3 (M (M (M c0 6) 7) (x5_89 - 1)) r_133 hI_M hk_c0 hk_6 (by omega)) hk_c0 rfl rfl rfl ⟨by decide, by decide⟩ rfl rfl (Nat.le_of_ble_eq_true rfl) dX5_isLost_101 rfl ?_
            intro r_136 N_137 q_138
            obtain ⟨rfl, q_138c⟩ := q_138
            refine kx_istore 106 F 6 (lo' := [some (vR G c0), some (vR G r_3), some (vI r_7), some (vI x3_87), some (vI x4_88), some (vI x5_89), some (vI r_136)]) dX5_isLost_104 (by decide) rfl rfl rfl ?_
            refine kx_aload_n 107 F 0 dX5_isLost_106 rfl rfl rfl ?_
            refine kx_getr 110 F fl_X5_24 hk_c0 rfl rfl (j := 6) rfl dX5_isLost_107 (v := (M c0 6)) rfl rfl ?_
            refine kx_getr 113 F fl_X5_117 hk_1 rfl rfl (j := 6) rfl dX5_isLost_110 (v := (M (M c0 6) 6)) rfl rfl ?_
            have hk_139 : kd (M (M c0 6) 6) = 10 := Inv.r hI_M hk_1 rfl 6 rfl rfl
            refine kx_iload 115 F 5 dX5_isLost_113 rfl rfl ?_
            refine kx_iconst 116 F dX5_isLost_115 rfl ?_
            refine kx_isub 117 F (v := x5_89 - 1) dX5_isLost_116 rfl rfl ?_
            refine kx_iald 118 F hk_139 rfl rfl (by omega) (by decide) dX5_isLost_117 (v := (M (M (M c0 6) 6) (x5_89 - 1))) rfl rfl ?_
            have h_140 := Inv.g hI_M hk_139 rfl (x5_89 - 1) (a := 0) (b := 511) rfl rfl
            refine kx_iload 120 F 6 dX5_isLost_118 rfl rfl ?_
            refine kx_Si 123 F (As := [vI (M (M (M c0 6) 6) (x5_89 - 1)), vI r_136]) (st := []) sd_X5_77 (c_X2_compose G l M (M (M (M c0 6) 6) (x5_89 - 1)) r_136 hI_M (by omega)) ⟨by decide, by decide⟩ rfl rfl (Nat.le_of_ble_eq_true rfl) dX5_isLost_120 rfl ?_
            intro r_141 N_142 q_143
            obtain ⟨rfl, q_143c⟩ := q_143
            refine kx_istore 125 F 4 (lo' := [some (vR G c0), some (vR G r_3), some (vI r_7), some (vI x3_87), some (vI r_141), some (vI x5_89), some (vI r_136)]) dX5_isLost_123 (by decide) rfl rfl rfl ?_
            refine kx_aload_n 126 F 0 dX5_isLost_125 rfl rfl rfl ?_
            refine kx_getr 129 F fl_X5_24 hk_c0 rfl rfl (j := 6) rfl dX5_isLost_126 (v := (M c0 6)) rfl rfl ?_
            refine kx_getr 132 F fl_X5_120 hk_1 rfl rfl (j := 5) rfl dX5_isLost_129 (v := (M (M c0 6) 5)) rfl rfl ?_
            have hk_144 : kd (M (M c0 6) 5) = 9 := Inv.r hI_M hk_1 rfl 5 rfl rfl
            refine kx_iload 134 F 5 dX5_isLost_132 rfl rfl ?_
            refine kx_iconst 135 F dX5_isLost_134 rfl ?_
            refine kx_isub 136 F (v := x5_89 - 1) dX5_isLost_135 rfl rfl ?_
            refine kx_iald 137 F hk_144 rfl rfl (by omega) (by decide) dX5_isLost_136 (v := (M (M (M c0 6) 5) (x5_89 - 1))) rfl rfl ?_
            have h_145 := Inv.g hI_M hk_144 rfl (x5_89 - 1) (a := 0) (b := 7) rfl rfl
            refine kx_iload 139 F 6 dX5_isLost_137 rfl rfl ?_
            refine kx_Si 142 F (As := [vI (M (M (M c0 6) 5) (x5_89 - 1)), vI r_136]) (st := []) sd_X5_89 (c_X2_image G l M (M (M (M c0 6) 5) (x5_89 - 1)) r_136 hI_M (by omega)) ⟨by decide, by decide⟩ rfl rfl (Nat.le_of_ble_eq_true rfl) dX5_isLost_139 rfl ?_
            intro r_146 N_147 q_148
            obtain ⟨rfl, q_148c⟩ := q_148
            refine kx_istore_n 143 F 3 (lo' := [some (vR G c0), some (vR G r_3), some (vI r_7), some (vI r_146), some (vI r_141), some (vI x5_89), some (vI r_136)]) dX5_isLost_142 rfl (by decide) rfl rfl rfl ?_
            refine kx_drop 6 (lo' := [some (vR G c0), some (vR G r_3), some (vI r_7), some (vI r_146), some (vI r_141), some (vI x5_89), none]) rfl ?_
            exact J_128 r_146 r_141 (by omega)
        · refine kx_iconst 75 F dX5_isLost_74 rfl ?_
          exact kx_zret F hQ (by omega) ⟨rfl, (by omega)⟩ dX5_isLost_75
      refine kx_if_ne 57 F 61 dX5_isLost_54 (by decide) rfl (by omega) (fun h_149 => ?_) (fun h_149 => ?_)
      · refine kx_iconst 62 F dX5_isLost_61 rfl ?_
        exact J_99 0 (by omega)
      · refine kx_iconst 58 F dX5_isLost_57 rfl ?_
        refine kx_goto 62 F dX5_isLost_58 (by decide) ?_
        exact J_99 1 (by omega)
  exact L_90 _ (M (M c0 6) 3) (M (M c0 6) 4) (M (M c0 6) 2) (by omega) rfl
set_option maxRecDepth 100000 in
theorem dGR_11_c_105 : (decode cX11_within 0 = .ok (.iload_n 0, 1)) ∧ (decode cX11_within 1 = .ok (.iload_n 1, 1)) ∧ (decode cX11_within 2 = .ok (.if_icmp .lt 12, 3)) ∧ (decode cX11_within 5 = .ok (.iload_n 0, 1)) ∧ (decode cX11_within 6 = .ok (.iload_n 2, 1)) ∧ (decode cX11_within 7 = .ok (.if_icmp .gt 7, 3)) ∧ (decode cX11_within 10 = .ok (.iconst 1, 1)) ∧ (decode cX11_within 11 = .ok (.goto 4, 3)) ∧ (decode cX11_within 14 = .ok (.iconst 0, 1)) ∧ (decode cX11_within 15 = .ok (.ireturn, 1)) := by decide +kernel
theorem dX11_within_0 : decode cX11_within 0 = .ok (.iload_n 0, 1) := dGR_11_c_105.1
theorem dX11_within_1 : decode cX11_within 1 = .ok (.iload_n 1, 1) := dGR_11_c_105.2.1
theorem dX11_within_2 : decode cX11_within 2 = .ok (.if_icmp .lt 12, 3) := dGR_11_c_105.2.2.1
theorem dX11_within_5 : decode cX11_within 5 = .ok (.iload_n 0, 1) := dGR_11_c_105.2.2.2.1
theorem dX11_within_6 : decode cX11_within 6 = .ok (.iload_n 2, 1) := dGR_11_c_105.2.2.2.2.1
theorem dX11_within_7 : decode cX11_within 7 = .ok (.if_icmp .gt 7, 3) := dGR_11_c_105.2.2.2.2.2.1
theorem dX11_within_10 : decode cX11_within 10 = .ok (.iconst 1, 1) := dGR_11_c_105.2.2.2.2.2.2.1
theorem dX11_within_11 : decode cX11_within 11 = .ok (.goto 4, 3) := dGR_11_c_105.2.2.2.2.2.2.2.1
theorem dX11_within_14 : decode cX11_within 14 = .ok (.iconst 0, 1) := dGR_11_c_105.2.2.2.2.2.2.2.2.1
theorem dX11_within_15 : decode cX11_within 15 = .ok (.ireturn, 1) := dGR_11_c_105.2.2.2.2.2.2.2.2.2
set_option maxHeartbeats 4000000 in
set_option maxRecDepth 100000 in
theorem c_X11_within (G : KG) (l : Launch) (M : Mem) (a0 : Int) (a1 : Int) (a2 : Int) (hI_M : Inv false M) (hpre : -2147483648 ≤ a0 ∧ a0 ≤ 2147483647 ∧ -2147483648 ≤ a1 ∧ a1 ≤ 2147483647 ∧ -2147483648 ≤ a2 ∧ a2 ≤ 2147483647) : KC false G l yX11_within cX11_within 3 (some .boolean) (0, 0) [vI a0, vI a1, vI a2] M (fun A => kQi false G A (fun (r : Int) (N : Mem) => M = N ∧ ((r = 1 ∧ a1 ≤ a0 ∧ a0 ≤ a2) ∨ (r = 0)))) := by
  refine kx_met (lo := [some (vI a0), some (vI a1), some (vI a2)]) (by decide) (Nat.le_of_ble_eq_true rfl) rfl ?_
  intro X F hQ
  refine kx_iload_n 1 F 0 dX11_within_0 rfl rfl rfl ?_
  refine kx_iload_n 2 F 1 dX11_within_1 rfl rfl rfl ?_
  refine kx_icmp_lt 5 F 14 dX11_within_2 (by decide) rfl (by omega) (by omega) (fun h_1 => ?_) (fun h_1 => ?_)
  · refine kx_iconst 15 F dX11_within_14 rfl ?_
    exact kx_zret F hQ (by omega) ⟨rfl, (by omega)⟩ dX11_within_15
  · refine kx_iload_n 6 F 0 dX11_within_5 rfl rfl rfl ?_
    refine kx_iload_n 7 F 2 dX11_within_6 rfl rfl rfl ?_
    refine kx_icmp_gt 10 F 14 dX11_within_7 (by decide) rfl (by omega) (by omega) (fun h_2 => ?_) (fun h_2 => ?_)
    · refine kx_iconst 15 F dX11_within_14 rfl ?_
      exact kx_zret F hQ (by omega) ⟨rfl, (by omega)⟩ dX11_within_15
    · refine kx_iconst 11 F dX11_within_10 rfl ?_
      refine kx_goto 15 F dX11_within_11 (by decide) ?_
      exact kx_zret F hQ (by omega) ⟨rfl, (by omega)⟩ dX11_within_15
set_option maxRecDepth 100000 in
theorem dGR_11_c_106 : (decode cX9_has 0 = .ok (.iload_n 1, 1)) ∧ (decode cX9_has 1 = .ok (.iconst 0, 1)) ∧ (decode cX9_has 2 = .ok (.iconst 3, 1)) ∧ (decode cX9_has 3 = .ok (.invokestatic 22, 3)) ∧ (decode cX9_has 6 = .ok (.ireturn, 1)) := by decide +kernel
theorem dX9_has_0 : decode cX9_has 0 = .ok (.iload_n 1, 1) := dGR_11_c_106.1
theorem dX9_has_1 : decode cX9_has 1 = .ok (.iconst 0, 1) := dGR_11_c_106.2.1
theorem dX9_has_2 : decode cX9_has 2 = .ok (.iconst 3, 1) := dGR_11_c_106.2.2.1
theorem dX9_has_3 : decode cX9_has 3 = .ok (.invokestatic 22, 3) := dGR_11_c_106.2.2.2.1
theorem dX9_has_6 : decode cX9_has 6 = .ok (.ireturn, 1) := dGR_11_c_106.2.2.2.2
theorem sn_X9_22 : kSNd RX9 22 yX11_within "NestedChecker" cX11_within 3 (some .boolean) 3 := ⟨⟨by decide +kernel, by decide +kernel, by decide +kernel⟩, (tt lm_171 rfl), List.mem_of_getElem? (i := 11) rfl, (tt lm_721 rfl), (tt lm_722 rfl)⟩
set_option maxRecDepth 100000 in
theorem dGR_11_c_107 : (decode cX9_isMissing 0 = .ok (.aload_n 0, 1)) ∧ (decode cX9_isMissing 1 = .ok (.getfield 19, 3)) ∧ (decode cX9_isMissing 4 = .ok (.iload_n 1, 1)) ∧ (decode cX9_isMissing 5 = .ok (.iaload, 1)) ∧ (decode cX9_isMissing 6 = .ok (.iconst (-1), 1)) ∧ (decode cX9_isMissing 7 = .ok (.if_icmp .ne 7, 3)) ∧ (decode cX9_isMissing 10 = .ok (.iconst 1, 1)) ∧ (decode cX9_isMissing 11 = .ok (.goto 4, 3)) ∧ (decode cX9_isMissing 14 = .ok (.iconst 0, 1)) ∧ (decode cX9_isMissing 15 = .ok (.ireturn, 1)) := by decide +kernel
theorem dX9_isMissing_0 : decode cX9_isMissing 0 = .ok (.aload_n 0, 1) := dGR_11_c_107.1
theorem dX9_isMissing_1 : decode cX9_isMissing 1 = .ok (.getfield 19, 3) := dGR_11_c_107.2.1
theorem dX9_isMissing_4 : decode cX9_isMissing 4 = .ok (.iload_n 1, 1) := dGR_11_c_107.2.2.1
theorem dX9_isMissing_5 : decode cX9_isMissing 5 = .ok (.iaload, 1) := dGR_11_c_107.2.2.2.1
theorem dX9_isMissing_6 : decode cX9_isMissing 6 = .ok (.iconst (-1), 1) := dGR_11_c_107.2.2.2.2.1
theorem dX9_isMissing_7 : decode cX9_isMissing 7 = .ok (.if_icmp .ne 7, 3) := dGR_11_c_107.2.2.2.2.2.1
theorem dX9_isMissing_10 : decode cX9_isMissing 10 = .ok (.iconst 1, 1) := dGR_11_c_107.2.2.2.2.2.2.1
theorem dX9_isMissing_11 : decode cX9_isMissing 11 = .ok (.goto 4, 3) := dGR_11_c_107.2.2.2.2.2.2.2.1
theorem dX9_isMissing_14 : decode cX9_isMissing 14 = .ok (.iconst 0, 1) := dGR_11_c_107.2.2.2.2.2.2.2.2.1
theorem dX9_isMissing_15 : decode cX9_isMissing 15 = .ok (.ireturn, 1) := dGR_11_c_107.2.2.2.2.2.2.2.2.2
set_option maxRecDepth 100000 in
theorem dGR_11_c_108 : (decode cX9_placesOf 0 = .ok (.aload_n 0, 1)) ∧ (decode cX9_placesOf 1 = .ok (.getfield 19, 3)) ∧ (decode cX9_placesOf 4 = .ok (.iload_n 1, 1)) ∧ (decode cX9_placesOf 5 = .ok (.iaload, 1)) ∧ (decode cX9_placesOf 6 = .ok (.ireturn, 1)) := by decide +kernel
theorem dX9_placesOf_0 : decode cX9_placesOf 0 = .ok (.aload_n 0, 1) := dGR_11_c_108.1
theorem dX9_placesOf_1 : decode cX9_placesOf 1 = .ok (.getfield 19, 3) := dGR_11_c_108.2.1
theorem dX9_placesOf_4 : decode cX9_placesOf 4 = .ok (.iload_n 1, 1) := dGR_11_c_108.2.2.1
theorem dX9_placesOf_5 : decode cX9_placesOf 5 = .ok (.iaload, 1) := dGR_11_c_108.2.2.2.1
theorem dX9_placesOf_6 : decode cX9_placesOf 6 = .ok (.ireturn, 1) := dGR_11_c_108.2.2.2.2
set_option maxRecDepth 100000 in
theorem dGR_11_c_109 : (decode cX9_refusal 0 = .ok (.aload_n 0, 1)) ∧ (decode cX9_refusal 1 = .ok (.iload_n 1, 1)) ∧ (decode cX9_refusal 2 = .ok (.invokevirtual 26, 3)) ∧ (decode cX9_refusal 5 = .ok (.ifCond .ne 5, 3)) ∧ (decode cX9_refusal 8 = .ok (.iconst 1, 1)) ∧ (decode cX9_refusal 9 = .ok (.ireturn, 1)) ∧ (decode cX9_refusal 10 = .ok (.aload_n 0, 1)) ∧ (decode cX9_refusal 11 = .ok (.iload_n 1, 1)) ∧ (decode cX9_refusal 12 = .ok (.invokevirtual 30, 3)) ∧ (decode cX9_refusal 15 = .ok (.ifCond .eq 5, 3)) ∧ (decode cX9_refusal 18 = .ok (.iconst 2, 1)) ∧ (decode cX9_refusal 19 = .ok (.ireturn, 1)) := by decide +kernel
theorem dX9_refusal_0 : decode cX9_refusal 0 = .ok (.aload_n 0, 1) := dGR_11_c_109.1
theorem dX9_refusal_1 : decode cX9_refusal 1 = .ok (.iload_n 1, 1) := dGR_11_c_109.2.1
theorem dX9_refusal_2 : decode cX9_refusal 2 = .ok (.invokevirtual 26, 3) := dGR_11_c_109.2.2.1
theorem dX9_refusal_5 : decode cX9_refusal 5 = .ok (.ifCond .ne 5, 3) := dGR_11_c_109.2.2.2.1
theorem dX9_refusal_8 : decode cX9_refusal 8 = .ok (.iconst 1, 1) := dGR_11_c_109.2.2.2.2.1
theorem dX9_refusal_9 : decode cX9_refusal 9 = .ok (.ireturn, 1) := dGR_11_c_109.2.2.2.2.2.1
theorem dX9_refusal_10 : decode cX9_refusal 10 = .ok (.aload_n 0, 1) := dGR_11_c_109.2.2.2.2.2.2.1
theorem dX9_refusal_11 : decode cX9_refusal 11 = .ok (.iload_n 1, 1) := dGR_11_c_109.2.2.2.2.2.2.2.1
theorem dX9_refusal_12 : decode cX9_refusal 12 = .ok (.invokevirtual 30, 3) := dGR_11_c_109.2.2.2.2.2.2.2.2.1
theorem dX9_refusal_15 : decode cX9_refusal 15 = .ok (.ifCond .eq 5, 3) := dGR_11_c_109.2.2.2.2.2.2.2.2.2.1
theorem dX9_refusal_18 : decode cX9_refusal 18 = .ok (.iconst 2, 1) := dGR_11_c_109.2.2.2.2.2.2.2.2.2.2.1
theorem dX9_refusal_19 : decode cX9_refusal 19 = .ok (.ireturn, 1) := dGR_11_c_109.2.2.2.2.2.2.2.2.2.2.2
set_option maxRecDepth 100000 in
theorem dGR_11_c_110 : (decode cX9_refusal 20 = .ok (.iload_n 2, 1)) ∧ (decode cX9_refusal 21 = .ok (.ifCond .lt 17, 3)) ∧ (decode cX9_refusal 24 = .ok (.iload_n 2, 1)) ∧ (decode cX9_refusal 25 = .ok (.aload_n 0, 1)) ∧ (decode cX9_refusal 26 = .ok (.getfield 19, 3)) ∧ (decode cX9_refusal 29 = .ok (.iload_n 1, 1)) ∧ (decode cX9_refusal 30 = .ok (.iaload, 1)) ∧ (decode cX9_refusal 31 = .ok (.if_icmp .ge 7, 3)) ∧ (decode cX9_refusal 34 = .ok (.iconst 0, 1)) ∧ (decode cX9_refusal 35 = .ok (.goto 4, 3)) ∧ (decode cX9_refusal 38 = .ok (.iconst 3, 1)) ∧ (decode cX9_refusal 39 = .ok (.ireturn, 1)) := by decide +kernel
theorem dX9_refusal_20 : decode cX9_refusal 20 = .ok (.iload_n 2, 1) := dGR_11_c_110.1
theorem dX9_refusal_21 : decode cX9_refusal 21 = .ok (.ifCond .lt 17, 3) := dGR_11_c_110.2.1
theorem dX9_refusal_24 : decode cX9_refusal 24 = .ok (.iload_n 2, 1) := dGR_11_c_110.2.2.1
theorem dX9_refusal_25 : decode cX9_refusal 25 = .ok (.aload_n 0, 1) := dGR_11_c_110.2.2.2.1
theorem dX9_refusal_26 : decode cX9_refusal 26 = .ok (.getfield 19, 3) := dGR_11_c_110.2.2.2.2.1
theorem dX9_refusal_29 : decode cX9_refusal 29 = .ok (.iload_n 1, 1) := dGR_11_c_110.2.2.2.2.2.1
theorem dX9_refusal_30 : decode cX9_refusal 30 = .ok (.iaload, 1) := dGR_11_c_110.2.2.2.2.2.2.1
theorem dX9_refusal_31 : decode cX9_refusal 31 = .ok (.if_icmp .ge 7, 3) := dGR_11_c_110.2.2.2.2.2.2.2.1
theorem dX9_refusal_34 : decode cX9_refusal 34 = .ok (.iconst 0, 1) := dGR_11_c_110.2.2.2.2.2.2.2.2.1
theorem dX9_refusal_35 : decode cX9_refusal 35 = .ok (.goto 4, 3) := dGR_11_c_110.2.2.2.2.2.2.2.2.2.1
theorem dX9_refusal_38 : decode cX9_refusal 38 = .ok (.iconst 3, 1) := dGR_11_c_110.2.2.2.2.2.2.2.2.2.2.1
theorem dX9_refusal_39 : decode cX9_refusal 39 = .ok (.ireturn, 1) := dGR_11_c_110.2.2.2.2.2.2.2.2.2.2.2
set_option maxRecDepth 100000 in
theorem dGR_11_c_111 : (decode cX9_pourRefusal 0 = .ok (.aload_n 0, 1)) ∧ (decode cX9_pourRefusal 1 = .ok (.iload_n 1, 1)) ∧ (decode cX9_pourRefusal 2 = .ok (.invokevirtual 26, 3)) ∧ (decode cX9_pourRefusal 5 = .ok (.ifCond .eq 25, 3)) ∧ (decode cX9_pourRefusal 8 = .ok (.aload_n 0, 1)) ∧ (decode cX9_pourRefusal 9 = .ok (.iload_n 3, 1)) ∧ (decode cX9_pourRefusal 10 = .ok (.invokevirtual 26, 3)) ∧ (decode cX9_pourRefusal 13 = .ok (.ifCond .eq 17, 3)) ∧ (decode cX9_pourRefusal 16 = .ok (.iload_n 2, 1)) ∧ (decode cX9_pourRefusal 17 = .ok (.ifCond .lt 13, 3)) ∧ (decode cX9_pourRefusal 20 = .ok (.iload 4, 2)) ∧ (decode cX9_pourRefusal 22 = .ok (.ifCond .lt 8, 3)) := by decide +kernel
theorem dX9_pourRefusal_0 : decode cX9_pourRefusal 0 = .ok (.aload_n 0, 1) := dGR_11_c_111.1
theorem dX9_pourRefusal_1 : decode cX9_pourRefusal 1 = .ok (.iload_n 1, 1) := dGR_11_c_111.2.1
theorem dX9_pourRefusal_2 : decode cX9_pourRefusal 2 = .ok (.invokevirtual 26, 3) := dGR_11_c_111.2.2.1
theorem dX9_pourRefusal_5 : decode cX9_pourRefusal 5 = .ok (.ifCond .eq 25, 3) := dGR_11_c_111.2.2.2.1
theorem dX9_pourRefusal_8 : decode cX9_pourRefusal 8 = .ok (.aload_n 0, 1) := dGR_11_c_111.2.2.2.2.1
theorem dX9_pourRefusal_9 : decode cX9_pourRefusal 9 = .ok (.iload_n 3, 1) := dGR_11_c_111.2.2.2.2.2.1
theorem dX9_pourRefusal_10 : decode cX9_pourRefusal 10 = .ok (.invokevirtual 26, 3) := dGR_11_c_111.2.2.2.2.2.2.1
theorem dX9_pourRefusal_13 : decode cX9_pourRefusal 13 = .ok (.ifCond .eq 17, 3) := dGR_11_c_111.2.2.2.2.2.2.2.1
theorem dX9_pourRefusal_16 : decode cX9_pourRefusal 16 = .ok (.iload_n 2, 1) := dGR_11_c_111.2.2.2.2.2.2.2.2.1
theorem dX9_pourRefusal_17 : decode cX9_pourRefusal 17 = .ok (.ifCond .lt 13, 3) := dGR_11_c_111.2.2.2.2.2.2.2.2.2.1
theorem dX9_pourRefusal_20 : decode cX9_pourRefusal 20 = .ok (.iload 4, 2) := dGR_11_c_111.2.2.2.2.2.2.2.2.2.2.1
theorem dX9_pourRefusal_22 : decode cX9_pourRefusal 22 = .ok (.ifCond .lt 8, 3) := dGR_11_c_111.2.2.2.2.2.2.2.2.2.2.2
set_option maxRecDepth 100000 in
theorem dGR_11_c_112 : (decode cX9_pourRefusal 25 = .ok (.iload 5, 2)) ∧ (decode cX9_pourRefusal 27 = .ok (.ifCond .ge 5, 3)) ∧ (decode cX9_pourRefusal 30 = .ok (.iconst 1, 1)) ∧ (decode cX9_pourRefusal 31 = .ok (.ireturn, 1)) ∧ (decode cX9_pourRefusal 32 = .ok (.aload_n 0, 1)) ∧ (decode cX9_pourRefusal 33 = .ok (.iload_n 1, 1)) ∧ (decode cX9_pourRefusal 34 = .ok (.invokevirtual 30, 3)) ∧ (decode cX9_pourRefusal 37 = .ok (.ifCond .ne 11, 3)) ∧ (decode cX9_pourRefusal 40 = .ok (.aload_n 0, 1)) ∧ (decode cX9_pourRefusal 41 = .ok (.iload_n 3, 1)) ∧ (decode cX9_pourRefusal 42 = .ok (.invokevirtual 30, 3)) ∧ (decode cX9_pourRefusal 45 = .ok (.ifCond .eq 5, 3)) := by decide +kernel
theorem dX9_pourRefusal_25 : decode cX9_pourRefusal 25 = .ok (.iload 5, 2) := dGR_11_c_112.1
theorem dX9_pourRefusal_27 : decode cX9_pourRefusal 27 = .ok (.ifCond .ge 5, 3) := dGR_11_c_112.2.1
theorem dX9_pourRefusal_30 : decode cX9_pourRefusal 30 = .ok (.iconst 1, 1) := dGR_11_c_112.2.2.1
theorem dX9_pourRefusal_31 : decode cX9_pourRefusal 31 = .ok (.ireturn, 1) := dGR_11_c_112.2.2.2.1
theorem dX9_pourRefusal_32 : decode cX9_pourRefusal 32 = .ok (.aload_n 0, 1) := dGR_11_c_112.2.2.2.2.1
theorem dX9_pourRefusal_33 : decode cX9_pourRefusal 33 = .ok (.iload_n 1, 1) := dGR_11_c_112.2.2.2.2.2.1
theorem dX9_pourRefusal_34 : decode cX9_pourRefusal 34 = .ok (.invokevirtual 30, 3) := dGR_11_c_112.2.2.2.2.2.2.1
theorem dX9_pourRefusal_37 : decode cX9_pourRefusal 37 = .ok (.ifCond .ne 11, 3) := dGR_11_c_112.2.2.2.2.2.2.2.1
theorem dX9_pourRefusal_40 : decode cX9_pourRefusal 40 = .ok (.aload_n 0, 1) := dGR_11_c_112.2.2.2.2.2.2.2.2.1
theorem dX9_pourRefusal_41 : decode cX9_pourRefusal 41 = .ok (.iload_n 3, 1) := dGR_11_c_112.2.2.2.2.2.2.2.2.2.1
theorem dX9_pourRefusal_42 : decode cX9_pourRefusal 42 = .ok (.invokevirtual 30, 3) := dGR_11_c_112.2.2.2.2.2.2.2.2.2.2.1
theorem dX9_pourRefusal_45 : decode cX9_pourRefusal 45 = .ok (.ifCond .eq 5, 3) := dGR_11_c_112.2.2.2.2.2.2.2.2.2.2.2
set_option maxRecDepth 100000 in
theorem dGR_11_c_113 : (decode cX9_pourRefusal 48 = .ok (.iconst 2, 1)) ∧ (decode cX9_pourRefusal 49 = .ok (.ireturn, 1)) ∧ (decode cX9_pourRefusal 50 = .ok (.aload_n 0, 1)) ∧ (decode cX9_pourRefusal 51 = .ok (.getfield 15, 3)) ∧ (decode cX9_pourRefusal 54 = .ok (.iload_n 1, 1)) ∧ (decode cX9_pourRefusal 55 = .ok (.iaload, 1)) ∧ (decode cX9_pourRefusal 56 = .ok (.aload_n 0, 1)) ∧ (decode cX9_pourRefusal 57 = .ok (.getfield 15, 3)) ∧ (decode cX9_pourRefusal 60 = .ok (.iload_n 3, 1)) ∧ (decode cX9_pourRefusal 61 = .ok (.iaload, 1)) ∧ (decode cX9_pourRefusal 62 = .ok (.if_icmp .eq 6, 3)) ∧ (decode cX9_pourRefusal 65 = .ok (.bipush 8, 2)) := by decide +kernel
theorem dX9_pourRefusal_48 : decode cX9_pourRefusal 48 = .ok (.iconst 2, 1) := dGR_11_c_113.1
theorem dX9_pourRefusal_49 : decode cX9_pourRefusal 49 = .ok (.ireturn, 1) := dGR_11_c_113.2.1
theorem dX9_pourRefusal_50 : decode cX9_pourRefusal 50 = .ok (.aload_n 0, 1) := dGR_11_c_113.2.2.1
theorem dX9_pourRefusal_51 : decode cX9_pourRefusal 51 = .ok (.getfield 15, 3) := dGR_11_c_113.2.2.2.1
theorem dX9_pourRefusal_54 : decode cX9_pourRefusal 54 = .ok (.iload_n 1, 1) := dGR_11_c_113.2.2.2.2.1
theorem dX9_pourRefusal_55 : decode cX9_pourRefusal 55 = .ok (.iaload, 1) := dGR_11_c_113.2.2.2.2.2.1
theorem dX9_pourRefusal_56 : decode cX9_pourRefusal 56 = .ok (.aload_n 0, 1) := dGR_11_c_113.2.2.2.2.2.2.1
theorem dX9_pourRefusal_57 : decode cX9_pourRefusal 57 = .ok (.getfield 15, 3) := dGR_11_c_113.2.2.2.2.2.2.2.1
theorem dX9_pourRefusal_60 : decode cX9_pourRefusal 60 = .ok (.iload_n 3, 1) := dGR_11_c_113.2.2.2.2.2.2.2.2.1
theorem dX9_pourRefusal_61 : decode cX9_pourRefusal 61 = .ok (.iaload, 1) := dGR_11_c_113.2.2.2.2.2.2.2.2.2.1
theorem dX9_pourRefusal_62 : decode cX9_pourRefusal 62 = .ok (.if_icmp .eq 6, 3) := dGR_11_c_113.2.2.2.2.2.2.2.2.2.2.1
theorem dX9_pourRefusal_65 : decode cX9_pourRefusal 65 = .ok (.bipush 8, 2) := dGR_11_c_113.2.2.2.2.2.2.2.2.2.2.2
set_option maxRecDepth 100000 in
theorem dGR_11_c_114 : (decode cX9_pourRefusal 67 = .ok (.ireturn, 1)) ∧ (decode cX9_pourRefusal 68 = .ok (.iload_n 2, 1)) ∧ (decode cX9_pourRefusal 69 = .ok (.i2l, 1)) ∧ (decode cX9_pourRefusal 70 = .ok (.iload 5, 2)) ∧ (decode cX9_pourRefusal 72 = .ok (.i2l, 1)) ∧ (decode cX9_pourRefusal 73 = .ok (.ladd, 1)) ∧ (decode cX9_pourRefusal 74 = .ok (.aload_n 0, 1)) ∧ (decode cX9_pourRefusal 75 = .ok (.getfield 19, 3)) ∧ (decode cX9_pourRefusal 78 = .ok (.iload_n 1, 1)) ∧ (decode cX9_pourRefusal 79 = .ok (.iaload, 1)) ∧ (decode cX9_pourRefusal 80 = .ok (.i2l, 1)) ∧ (decode cX9_pourRefusal 81 = .ok (.lcmp, 1)) := by decide +kernel
theorem dX9_pourRefusal_67 : decode cX9_pourRefusal 67 = .ok (.ireturn, 1) := dGR_11_c_114.1
theorem dX9_pourRefusal_68 : decode cX9_pourRefusal 68 = .ok (.iload_n 2, 1) := dGR_11_c_114.2.1
theorem dX9_pourRefusal_69 : decode cX9_pourRefusal 69 = .ok (.i2l, 1) := dGR_11_c_114.2.2.1
theorem dX9_pourRefusal_70 : decode cX9_pourRefusal 70 = .ok (.iload 5, 2) := dGR_11_c_114.2.2.2.1
theorem dX9_pourRefusal_72 : decode cX9_pourRefusal 72 = .ok (.i2l, 1) := dGR_11_c_114.2.2.2.2.1
theorem dX9_pourRefusal_73 : decode cX9_pourRefusal 73 = .ok (.ladd, 1) := dGR_11_c_114.2.2.2.2.2.1
theorem dX9_pourRefusal_74 : decode cX9_pourRefusal 74 = .ok (.aload_n 0, 1) := dGR_11_c_114.2.2.2.2.2.2.1
theorem dX9_pourRefusal_75 : decode cX9_pourRefusal 75 = .ok (.getfield 19, 3) := dGR_11_c_114.2.2.2.2.2.2.2.1
theorem dX9_pourRefusal_78 : decode cX9_pourRefusal 78 = .ok (.iload_n 1, 1) := dGR_11_c_114.2.2.2.2.2.2.2.2.1
theorem dX9_pourRefusal_79 : decode cX9_pourRefusal 79 = .ok (.iaload, 1) := dGR_11_c_114.2.2.2.2.2.2.2.2.2.1
theorem dX9_pourRefusal_80 : decode cX9_pourRefusal 80 = .ok (.i2l, 1) := dGR_11_c_114.2.2.2.2.2.2.2.2.2.2.1
theorem dX9_pourRefusal_81 : decode cX9_pourRefusal 81 = .ok (.lcmp, 1) := dGR_11_c_114.2.2.2.2.2.2.2.2.2.2.2
set_option maxRecDepth 100000 in
theorem dGR_11_c_115 : (decode cX9_pourRefusal 82 = .ok (.ifCond .gt 25, 3)) ∧ (decode cX9_pourRefusal 85 = .ok (.iload 4, 2)) ∧ (decode cX9_pourRefusal 87 = .ok (.i2l, 1)) ∧ (decode cX9_pourRefusal 88 = .ok (.iload 5, 2)) ∧ (decode cX9_pourRefusal 90 = .ok (.i2l, 1)) ∧ (decode cX9_pourRefusal 91 = .ok (.ladd, 1)) ∧ (decode cX9_pourRefusal 92 = .ok (.aload_n 0, 1)) ∧ (decode cX9_pourRefusal 93 = .ok (.getfield 19, 3)) ∧ (decode cX9_pourRefusal 96 = .ok (.iload_n 3, 1)) ∧ (decode cX9_pourRefusal 97 = .ok (.iaload, 1)) ∧ (decode cX9_pourRefusal 98 = .ok (.i2l, 1)) ∧ (decode cX9_pourRefusal 99 = .ok (.lcmp, 1)) := by decide +kernel
theorem dX9_pourRefusal_82 : decode cX9_pourRefusal 82 = .ok (.ifCond .gt 25, 3) := dGR_11_c_115.1
theorem dX9_pourRefusal_85 : decode cX9_pourRefusal 85 = .ok (.iload 4, 2) := dGR_11_c_115.2.1
theorem dX9_pourRefusal_87 : decode cX9_pourRefusal 87 = .ok (.i2l, 1) := dGR_11_c_115.2.2.1
theorem dX9_pourRefusal_88 : decode cX9_pourRefusal 88 = .ok (.iload 5, 2) := dGR_11_c_115.2.2.2.1
theorem dX9_pourRefusal_90 : decode cX9_pourRefusal 90 = .ok (.i2l, 1) := dGR_11_c_115.2.2.2.2.1
theorem dX9_pourRefusal_91 : decode cX9_pourRefusal 91 = .ok (.ladd, 1) := dGR_11_c_115.2.2.2.2.2.1
theorem dX9_pourRefusal_92 : decode cX9_pourRefusal 92 = .ok (.aload_n 0, 1) := dGR_11_c_115.2.2.2.2.2.2.1
theorem dX9_pourRefusal_93 : decode cX9_pourRefusal 93 = .ok (.getfield 19, 3) := dGR_11_c_115.2.2.2.2.2.2.2.1
theorem dX9_pourRefusal_96 : decode cX9_pourRefusal 96 = .ok (.iload_n 3, 1) := dGR_11_c_115.2.2.2.2.2.2.2.2.1
theorem dX9_pourRefusal_97 : decode cX9_pourRefusal 97 = .ok (.iaload, 1) := dGR_11_c_115.2.2.2.2.2.2.2.2.2.1
theorem dX9_pourRefusal_98 : decode cX9_pourRefusal 98 = .ok (.i2l, 1) := dGR_11_c_115.2.2.2.2.2.2.2.2.2.2.1
theorem dX9_pourRefusal_99 : decode cX9_pourRefusal 99 = .ok (.lcmp, 1) := dGR_11_c_115.2.2.2.2.2.2.2.2.2.2.2
set_option maxRecDepth 100000 in
theorem dGR_11_c_116 : (decode cX9_pourRefusal 100 = .ok (.ifCond .gt 7, 3)) ∧ (decode cX9_pourRefusal 103 = .ok (.iconst 1, 1)) ∧ (decode cX9_pourRefusal 104 = .ok (.goto 4, 3)) ∧ (decode cX9_pourRefusal 107 = .ok (.iconst 0, 1)) ∧ (decode cX9_pourRefusal 108 = .ok (.istore 6, 2)) ∧ (decode cX9_pourRefusal 110 = .ok (.iload 6, 2)) ∧ (decode cX9_pourRefusal 112 = .ok (.ifCond .eq 7, 3)) ∧ (decode cX9_pourRefusal 115 = .ok (.iconst 0, 1)) ∧ (decode cX9_pourRefusal 116 = .ok (.goto 4, 3)) ∧ (decode cX9_pourRefusal 119 = .ok (.iconst 3, 1)) ∧ (decode cX9_pourRefusal 120 = .ok (.ireturn, 1)) := by decide +kernel
theorem dX9_pourRefusal_100 : decode cX9_pourRefusal 100 = .ok (.ifCond .gt 7, 3) := dGR_11_c_116.1
theorem dX9_pourRefusal_103 : decode cX9_pourRefusal 103 = .ok (.iconst 1, 1) := dGR_11_c_116.2.1
theorem dX9_pourRefusal_104 : decode cX9_pourRefusal 104 = .ok (.goto 4, 3) := dGR_11_c_116.2.2.1
theorem dX9_pourRefusal_107 : decode cX9_pourRefusal 107 = .ok (.iconst 0, 1) := dGR_11_c_116.2.2.2.1
theorem dX9_pourRefusal_108 : decode cX9_pourRefusal 108 = .ok (.istore 6, 2) := dGR_11_c_116.2.2.2.2.1
theorem dX9_pourRefusal_110 : decode cX9_pourRefusal 110 = .ok (.iload 6, 2) := dGR_11_c_116.2.2.2.2.2.1
theorem dX9_pourRefusal_112 : decode cX9_pourRefusal 112 = .ok (.ifCond .eq 7, 3) := dGR_11_c_116.2.2.2.2.2.2.1
theorem dX9_pourRefusal_115 : decode cX9_pourRefusal 115 = .ok (.iconst 0, 1) := dGR_11_c_116.2.2.2.2.2.2.2.1
theorem dX9_pourRefusal_116 : decode cX9_pourRefusal 116 = .ok (.goto 4, 3) := dGR_11_c_116.2.2.2.2.2.2.2.2.1
theorem dX9_pourRefusal_119 : decode cX9_pourRefusal 119 = .ok (.iconst 3, 1) := dGR_11_c_116.2.2.2.2.2.2.2.2.2.1
theorem dX9_pourRefusal_120 : decode cX9_pourRefusal 120 = .ok (.ireturn, 1) := dGR_11_c_116.2.2.2.2.2.2.2.2.2.2
set_option maxRecDepth 100000 in
theorem dGR_11_c_117 : (decode cX9_cut 0 = .ok (.iload_n 2, 1)) ∧ (decode cX9_cut 1 = .ok (.tableswitch 41 0 2 #[27, 32, 37], 27)) ∧ (decode cX9_cut 28 = .ok (.lload_n 0, 1)) ∧ (decode cX9_cut 29 = .ok (.l2i, 1)) ∧ (decode cX9_cut 30 = .ok (.i2b, 1)) ∧ (decode cX9_cut 31 = .ok (.i2l, 1)) ∧ (decode cX9_cut 32 = .ok (.lreturn, 1)) ∧ (decode cX9_cut 33 = .ok (.lload_n 0, 1)) ∧ (decode cX9_cut 34 = .ok (.l2i, 1)) ∧ (decode cX9_cut 35 = .ok (.i2s, 1)) ∧ (decode cX9_cut 36 = .ok (.i2l, 1)) ∧ (decode cX9_cut 37 = .ok (.lreturn, 1)) := by decide +kernel
theorem dX9_cut_0 : decode cX9_cut 0 = .ok (.iload_n 2, 1) := dGR_11_c_117.1
theorem dX9_cut_1 : decode cX9_cut 1 = .ok (.tableswitch 41 0 2 #[27, 32, 37], 27) := dGR_11_c_117.2.1
theorem dX9_cut_28 : decode cX9_cut 28 = .ok (.lload_n 0, 1) := dGR_11_c_117.2.2.1
theorem dX9_cut_29 : decode cX9_cut 29 = .ok (.l2i, 1) := dGR_11_c_117.2.2.2.1
theorem dX9_cut_30 : decode cX9_cut 30 = .ok (.i2b, 1) := dGR_11_c_117.2.2.2.2.1
theorem dX9_cut_31 : decode cX9_cut 31 = .ok (.i2l, 1) := dGR_11_c_117.2.2.2.2.2.1
theorem dX9_cut_32 : decode cX9_cut 32 = .ok (.lreturn, 1) := dGR_11_c_117.2.2.2.2.2.2.1
theorem dX9_cut_33 : decode cX9_cut 33 = .ok (.lload_n 0, 1) := dGR_11_c_117.2.2.2.2.2.2.2.1
theorem dX9_cut_34 : decode cX9_cut 34 = .ok (.l2i, 1) := dGR_11_c_117.2.2.2.2.2.2.2.2.1
theorem dX9_cut_35 : decode cX9_cut 35 = .ok (.i2s, 1) := dGR_11_c_117.2.2.2.2.2.2.2.2.2.1
theorem dX9_cut_36 : decode cX9_cut 36 = .ok (.i2l, 1) := dGR_11_c_117.2.2.2.2.2.2.2.2.2.2.1
theorem dX9_cut_37 : decode cX9_cut 37 = .ok (.lreturn, 1) := dGR_11_c_117.2.2.2.2.2.2.2.2.2.2.2
set_option maxRecDepth 100000 in
theorem dGR_11_c_118 : (decode cX9_cut 38 = .ok (.lload_n 0, 1)) ∧ (decode cX9_cut 39 = .ok (.l2i, 1)) ∧ (decode cX9_cut 40 = .ok (.i2l, 1)) ∧ (decode cX9_cut 41 = .ok (.lreturn, 1)) ∧ (decode cX9_cut 42 = .ok (.lload_n 0, 1)) ∧ (decode cX9_cut 43 = .ok (.lreturn, 1)) := by decide +kernel
theorem dX9_cut_38 : decode cX9_cut 38 = .ok (.lload_n 0, 1) := dGR_11_c_118.1
theorem dX9_cut_39 : decode cX9_cut 39 = .ok (.l2i, 1) := dGR_11_c_118.2.1
theorem dX9_cut_40 : decode cX9_cut 40 = .ok (.i2l, 1) := dGR_11_c_118.2.2.1
theorem dX9_cut_41 : decode cX9_cut 41 = .ok (.lreturn, 1) := dGR_11_c_118.2.2.2.1
theorem dX9_cut_42 : decode cX9_cut 42 = .ok (.lload_n 0, 1) := dGR_11_c_118.2.2.2.2.1
theorem dX9_cut_43 : decode cX9_cut 43 = .ok (.lreturn, 1) := dGR_11_c_118.2.2.2.2.2
set_option maxRecDepth 100000 in
theorem dGR_11_c_119 : (decode cX9_make 0 = .ok (.aload_n 0, 1)) ∧ (decode cX9_make 1 = .ok (.getfield 15, 3)) ∧ (decode cX9_make 4 = .ok (.iload_n 1, 1)) ∧ (decode cX9_make 5 = .ok (.iload_n 2, 1)) ∧ (decode cX9_make 6 = .ok (.iastore, 1)) ∧ (decode cX9_make 7 = .ok (.aload_n 0, 1)) ∧ (decode cX9_make 8 = .ok (.getfield 19, 3)) ∧ (decode cX9_make 11 = .ok (.iload_n 1, 1)) ∧ (decode cX9_make 12 = .ok (.iload_n 3, 1)) ∧ (decode cX9_make 13 = .ok (.iastore, 1)) ∧ (decode cX9_make 14 = .ok (.iconst 0, 1)) ∧ (decode cX9_make 15 = .ok (.istore 4, 2)) := by decide +kernel
theorem dX9_make_0 : decode cX9_make 0 = .ok (.aload_n 0, 1) := dGR_11_c_119.1
theorem dX9_make_1 : decode cX9_make 1 = .ok (.getfield 15, 3) := dGR_11_c_119.2.1
theorem dX9_make_4 : decode cX9_make 4 = .ok (.iload_n 1, 1) := dGR_11_c_119.2.2.1
theorem dX9_make_5 : decode cX9_make 5 = .ok (.iload_n 2, 1) := dGR_11_c_119.2.2.2.1
theorem dX9_make_6 : decode cX9_make 6 = .ok (.iastore, 1) := dGR_11_c_119.2.2.2.2.1
theorem dX9_make_7 : decode cX9_make 7 = .ok (.aload_n 0, 1) := dGR_11_c_119.2.2.2.2.2.1
theorem dX9_make_8 : decode cX9_make 8 = .ok (.getfield 19, 3) := dGR_11_c_119.2.2.2.2.2.2.1
theorem dX9_make_11 : decode cX9_make 11 = .ok (.iload_n 1, 1) := dGR_11_c_119.2.2.2.2.2.2.2.1
theorem dX9_make_12 : decode cX9_make 12 = .ok (.iload_n 3, 1) := dGR_11_c_119.2.2.2.2.2.2.2.2.1
theorem dX9_make_13 : decode cX9_make 13 = .ok (.iastore, 1) := dGR_11_c_119.2.2.2.2.2.2.2.2.2.1
theorem dX9_make_14 : decode cX9_make 14 = .ok (.iconst 0, 1) := dGR_11_c_119.2.2.2.2.2.2.2.2.2.2.1
theorem dX9_make_15 : decode cX9_make 15 = .ok (.istore 4, 2) := dGR_11_c_119.2.2.2.2.2.2.2.2.2.2.2
set_option maxRecDepth 100000 in
theorem dGR_11_c_120 : (decode cX9_make 17 = .ok (.iload 4, 2)) ∧ (decode cX9_make 19 = .ok (.iload_n 3, 1)) ∧ (decode cX9_make 20 = .ok (.if_icmp .ge 22, 3)) ∧ (decode cX9_make 23 = .ok (.aload_n 0, 1)) ∧ (decode cX9_make 24 = .ok (.getfield 11, 3)) ∧ (decode cX9_make 27 = .ok (.iload_n 1, 1)) ∧ (decode cX9_make 28 = .ok (.bipush 60, 2)) ∧ (decode cX9_make 30 = .ok (.imul, 1)) ∧ (decode cX9_make 31 = .ok (.iload 4, 2)) ∧ (decode cX9_make 33 = .ok (.iadd, 1)) ∧ (decode cX9_make 34 = .ok (.lconst 0, 1)) ∧ (decode cX9_make 35 = .ok (.lastore, 1)) := by decide +kernel
theorem dX9_make_17 : decode cX9_make 17 = .ok (.iload 4, 2) := dGR_11_c_120.1
theorem dX9_make_19 : decode cX9_make 19 = .ok (.iload_n 3, 1) := dGR_11_c_120.2.1
theorem dX9_make_20 : decode cX9_make 20 = .ok (.if_icmp .ge 22, 3) := dGR_11_c_120.2.2.1
theorem dX9_make_23 : decode cX9_make 23 = .ok (.aload_n 0, 1) := dGR_11_c_120.2.2.2.1
theorem dX9_make_24 : decode cX9_make 24 = .ok (.getfield 11, 3) := dGR_11_c_120.2.2.2.2.1
theorem dX9_make_27 : decode cX9_make 27 = .ok (.iload_n 1, 1) := dGR_11_c_120.2.2.2.2.2.1
theorem dX9_make_28 : decode cX9_make 28 = .ok (.bipush 60, 2) := dGR_11_c_120.2.2.2.2.2.2.1
theorem dX9_make_30 : decode cX9_make 30 = .ok (.imul, 1) := dGR_11_c_120.2.2.2.2.2.2.2.1
theorem dX9_make_31 : decode cX9_make 31 = .ok (.iload 4, 2) := dGR_11_c_120.2.2.2.2.2.2.2.2.1
theorem dX9_make_33 : decode cX9_make 33 = .ok (.iadd, 1) := dGR_11_c_120.2.2.2.2.2.2.2.2.2.1
theorem dX9_make_34 : decode cX9_make 34 = .ok (.lconst 0, 1) := dGR_11_c_120.2.2.2.2.2.2.2.2.2.2.1
theorem dX9_make_35 : decode cX9_make 35 = .ok (.lastore, 1) := dGR_11_c_120.2.2.2.2.2.2.2.2.2.2.2
set_option maxRecDepth 100000 in
theorem dGR_11_c_121 : (decode cX9_make 36 = .ok (.iinc 4 1, 3)) ∧ (decode cX9_make 39 = .ok (.goto (-22), 3)) ∧ (decode cX9_make 42 = .ok (.return_, 1)) := by decide +kernel
theorem dX9_make_36 : decode cX9_make 36 = .ok (.iinc 4 1, 3) := dGR_11_c_121.1
theorem dX9_make_39 : decode cX9_make 39 = .ok (.goto (-22), 3) := dGR_11_c_121.2.1
theorem dX9_make_42 : decode cX9_make 42 = .ok (.return_, 1) := dGR_11_c_121.2.2
set_option maxRecDepth 100000 in
theorem dGR_11_c_122 : (decode cX9_set 0 = .ok (.aload_n 0, 1)) ∧ (decode cX9_set 1 = .ok (.getfield 11, 3)) ∧ (decode cX9_set 4 = .ok (.iload_n 1, 1)) ∧ (decode cX9_set 5 = .ok (.bipush 60, 2)) ∧ (decode cX9_set 7 = .ok (.imul, 1)) ∧ (decode cX9_set 8 = .ok (.iload_n 2, 1)) ∧ (decode cX9_set 9 = .ok (.iadd, 1)) ∧ (decode cX9_set 10 = .ok (.lload_n 3, 1)) ∧ (decode cX9_set 11 = .ok (.aload_n 0, 1)) ∧ (decode cX9_set 12 = .ok (.getfield 15, 3)) ∧ (decode cX9_set 15 = .ok (.iload_n 1, 1)) ∧ (decode cX9_set 16 = .ok (.iaload, 1)) := by decide +kernel
theorem dX9_set_0 : decode cX9_set 0 = .ok (.aload_n 0, 1) := dGR_11_c_122.1
theorem dX9_set_1 : decode cX9_set 1 = .ok (.getfield 11, 3) := dGR_11_c_122.2.1
theorem dX9_set_4 : decode cX9_set 4 = .ok (.iload_n 1, 1) := dGR_11_c_122.2.2.1
theorem dX9_set_5 : decode cX9_set 5 = .ok (.bipush 60, 2) := dGR_11_c_122.2.2.2.1
theorem dX9_set_7 : decode cX9_set 7 = .ok (.imul, 1) := dGR_11_c_122.2.2.2.2.1
theorem dX9_set_8 : decode cX9_set 8 = .ok (.iload_n 2, 1) := dGR_11_c_122.2.2.2.2.2.1
theorem dX9_set_9 : decode cX9_set 9 = .ok (.iadd, 1) := dGR_11_c_122.2.2.2.2.2.2.1
theorem dX9_set_10 : decode cX9_set 10 = .ok (.lload_n 3, 1) := dGR_11_c_122.2.2.2.2.2.2.2.1
theorem dX9_set_11 : decode cX9_set 11 = .ok (.aload_n 0, 1) := dGR_11_c_122.2.2.2.2.2.2.2.2.1
theorem dX9_set_12 : decode cX9_set 12 = .ok (.getfield 15, 3) := dGR_11_c_122.2.2.2.2.2.2.2.2.2.1
theorem dX9_set_15 : decode cX9_set 15 = .ok (.iload_n 1, 1) := dGR_11_c_122.2.2.2.2.2.2.2.2.2.2.1
theorem dX9_set_16 : decode cX9_set 16 = .ok (.iaload, 1) := dGR_11_c_122.2.2.2.2.2.2.2.2.2.2.2
set_option maxRecDepth 100000 in
theorem dGR_11_c_123 : (decode cX9_set 17 = .ok (.invokestatic 33, 3)) ∧ (decode cX9_set 20 = .ok (.lastore, 1)) ∧ (decode cX9_set 21 = .ok (.return_, 1)) := by decide +kernel
theorem dX9_set_17 : decode cX9_set 17 = .ok (.invokestatic 33, 3) := dGR_11_c_123.1
theorem dX9_set_20 : decode cX9_set 20 = .ok (.lastore, 1) := dGR_11_c_123.2.1
theorem dX9_set_21 : decode cX9_set 21 = .ok (.return_, 1) := dGR_11_c_123.2.2
set_option maxRecDepth 100000 in
theorem dGR_11_c_124 : (decode cX9_get 0 = .ok (.aload_n 0, 1)) ∧ (decode cX9_get 1 = .ok (.getfield 11, 3)) ∧ (decode cX9_get 4 = .ok (.iload_n 1, 1)) ∧ (decode cX9_get 5 = .ok (.bipush 60, 2)) ∧ (decode cX9_get 7 = .ok (.imul, 1)) ∧ (decode cX9_get 8 = .ok (.iload_n 2, 1)) ∧ (decode cX9_get 9 = .ok (.iadd, 1)) ∧ (decode cX9_get 10 = .ok (.laload, 1)) ∧ (decode cX9_get 11 = .ok (.lreturn, 1)) := by decide +kernel
theorem dX9_get_0 : decode cX9_get 0 = .ok (.aload_n 0, 1) := dGR_11_c_124.1
theorem dX9_get_1 : decode cX9_get 1 = .ok (.getfield 11, 3) := dGR_11_c_124.2.1
theorem dX9_get_4 : decode cX9_get 4 = .ok (.iload_n 1, 1) := dGR_11_c_124.2.2.1
theorem dX9_get_5 : decode cX9_get 5 = .ok (.bipush 60, 2) := dGR_11_c_124.2.2.2.1
theorem dX9_get_7 : decode cX9_get 7 = .ok (.imul, 1) := dGR_11_c_124.2.2.2.2.1
theorem dX9_get_8 : decode cX9_get 8 = .ok (.iload_n 2, 1) := dGR_11_c_124.2.2.2.2.2.1
theorem dX9_get_9 : decode cX9_get 9 = .ok (.iadd, 1) := dGR_11_c_124.2.2.2.2.2.2.1
theorem dX9_get_10 : decode cX9_get 10 = .ok (.laload, 1) := dGR_11_c_124.2.2.2.2.2.2.2.1
theorem dX9_get_11 : decode cX9_get 11 = .ok (.lreturn, 1) := dGR_11_c_124.2.2.2.2.2.2.2.2
set_option maxHeartbeats 4000000 in
set_option maxRecDepth 100000 in
theorem c_X9_get (G : KG) (l : Launch) (M : Mem) (c0 : Int) (a1 : Int) (a2 : Int) (hI_M : Inv false M) (hk_c0 : kd c0 = 13) (hpre : -2147483648 ≤ a1 ∧ a1 ≤ 2147483647 ∧ -2147483648 ≤ a2 ∧ a2 ≤ 2147483647 ∧ 0 ≤ a1 ∧ a1 ≤ 3 ∧ 0 ≤ a2 ∧ a2 ≤ 59) : KC false G l yX9_get cX9_get 3 (some .long) (0, 0) [vR G c0, vI a1, vI a2] M (fun A => kQl false G A (fun (r : Int) (N : Mem) => M = N ∧ (r = (M (M c0 0) (60 * a1 + a2)) ∧ r ≥ -9223372036854775808 ∧ r ≤ 9223372036854775807))) := by
  refine kx_met (lo := [some (vR G c0), some (vI a1), some (vI a2)]) (by decide) (Nat.le_of_ble_eq_true rfl) rfl ?_
  intro X F hQ
  refine kx_aload_n 1 F 0 dX9_get_0 rfl rfl rfl ?_
  refine kx_getr 4 F fl_X9_11 hk_c0 rfl rfl (j := 0) rfl dX9_get_1 (v := (M c0 0)) rfl rfl ?_
  have hk_1 : kd (M c0 0) = 14 := Inv.r hI_M hk_c0 rfl 0 rfl rfl
  refine kx_iload_n 5 F 1 dX9_get_4 rfl rfl rfl ?_
  refine kx_bipush 7 F dX9_get_5 (by decide) rfl ?_
  refine kx_imul 8 F (v := 60 * a1) dX9_get_7 (by omega) rfl ?_
  refine kx_iload_n 9 F 2 dX9_get_8 rfl rfl rfl ?_
  refine kx_iadd 10 F (v := 60 * a1 + a2) dX9_get_9 rfl rfl ?_
  refine kx_lald 11 F hk_1 rfl rfl (by omega) (by decide) dX9_get_10 (v := (M (M c0 0) (60 * a1 + a2))) rfl rfl ?_
  have h_2 := Inv.g hI_M hk_1 rfl (60 * a1 + a2) (a := (-9223372036854775808)) (b := 9223372036854775807) rfl rfl
  exact kx_lret F hQ ⟨rfl, (by omega)⟩ dX9_get_11
set_option maxRecDepth 100000 in
theorem dGR_11_c_125 : (decode cX9_move 0 = .ok (.aload_n 0, 1)) ∧ (decode cX9_move 1 = .ok (.getfield 11, 3)) ∧ (decode cX9_move 4 = .ok (.iload_n 1, 1)) ∧ (decode cX9_move 5 = .ok (.bipush 60, 2)) ∧ (decode cX9_move 7 = .ok (.imul, 1)) ∧ (decode cX9_move 8 = .ok (.iload_n 2, 1)) ∧ (decode cX9_move 9 = .ok (.iadd, 1)) ∧ (decode cX9_move 10 = .ok (.aload_n 0, 1)) ∧ (decode cX9_move 11 = .ok (.getfield 11, 3)) ∧ (decode cX9_move 14 = .ok (.iload_n 3, 1)) ∧ (decode cX9_move 15 = .ok (.bipush 60, 2)) ∧ (decode cX9_move 17 = .ok (.imul, 1)) := by decide +kernel
theorem dX9_move_0 : decode cX9_move 0 = .ok (.aload_n 0, 1) := dGR_11_c_125.1
theorem dX9_move_1 : decode cX9_move 1 = .ok (.getfield 11, 3) := dGR_11_c_125.2.1
theorem dX9_move_4 : decode cX9_move 4 = .ok (.iload_n 1, 1) := dGR_11_c_125.2.2.1
theorem dX9_move_5 : decode cX9_move 5 = .ok (.bipush 60, 2) := dGR_11_c_125.2.2.2.1
theorem dX9_move_7 : decode cX9_move 7 = .ok (.imul, 1) := dGR_11_c_125.2.2.2.2.1
theorem dX9_move_8 : decode cX9_move 8 = .ok (.iload_n 2, 1) := dGR_11_c_125.2.2.2.2.2.1
theorem dX9_move_9 : decode cX9_move 9 = .ok (.iadd, 1) := dGR_11_c_125.2.2.2.2.2.2.1
theorem dX9_move_10 : decode cX9_move 10 = .ok (.aload_n 0, 1) := dGR_11_c_125.2.2.2.2.2.2.2.1
theorem dX9_move_11 : decode cX9_move 11 = .ok (.getfield 11, 3) := dGR_11_c_125.2.2.2.2.2.2.2.2.1
theorem dX9_move_14 : decode cX9_move 14 = .ok (.iload_n 3, 1) := dGR_11_c_125.2.2.2.2.2.2.2.2.2.1
theorem dX9_move_15 : decode cX9_move 15 = .ok (.bipush 60, 2) := dGR_11_c_125.2.2.2.2.2.2.2.2.2.2.1
theorem dX9_move_17 : decode cX9_move 17 = .ok (.imul, 1) := dGR_11_c_125.2.2.2.2.2.2.2.2.2.2.2
set_option maxRecDepth 100000 in
theorem dGR_11_c_126 : (decode cX9_move 18 = .ok (.iload 4, 2)) ∧ (decode cX9_move 20 = .ok (.iadd, 1)) ∧ (decode cX9_move 21 = .ok (.iload 5, 2)) ∧ (decode cX9_move 23 = .ok (.invokestatic 37, 3)) ∧ (decode cX9_move 26 = .ok (.return_, 1)) := by decide +kernel
theorem dX9_move_18 : decode cX9_move 18 = .ok (.iload 4, 2) := dGR_11_c_126.1
theorem dX9_move_20 : decode cX9_move 20 = .ok (.iadd, 1) := dGR_11_c_126.2.1
theorem dX9_move_21 : decode cX9_move 21 = .ok (.iload 5, 2) := dGR_11_c_126.2.2.1
theorem dX9_move_23 : decode cX9_move 23 = .ok (.invokestatic 37, 3) := dGR_11_c_126.2.2.2.1
theorem dX9_move_26 : decode cX9_move 26 = .ok (.return_, 1) := dGR_11_c_126.2.2.2.2
set_option maxRecDepth 100000 in
theorem dGR_11_c_127 : (decode cX7_stands 0 = .ok (.aload_n 0, 1)) ∧ (decode cX7_stands 1 = .ok (.getfield 24, 3)) ∧ (decode cX7_stands 4 = .ok (.bipush 40, 2)) ∧ (decode cX7_stands 6 = .ok (.if_icmp .gt 7, 3)) ∧ (decode cX7_stands 9 = .ok (.iconst 1, 1)) ∧ (decode cX7_stands 10 = .ok (.goto 4, 3)) ∧ (decode cX7_stands 13 = .ok (.iconst 0, 1)) ∧ (decode cX7_stands 14 = .ok (.ireturn, 1)) := by decide +kernel
theorem dX7_stands_0 : decode cX7_stands 0 = .ok (.aload_n 0, 1) := dGR_11_c_127.1
theorem dX7_stands_1 : decode cX7_stands 1 = .ok (.getfield 24, 3) := dGR_11_c_127.2.1
theorem dX7_stands_4 : decode cX7_stands 4 = .ok (.bipush 40, 2) := dGR_11_c_127.2.2.1
theorem dX7_stands_6 : decode cX7_stands 6 = .ok (.if_icmp .gt 7, 3) := dGR_11_c_127.2.2.2.1
theorem dX7_stands_9 : decode cX7_stands 9 = .ok (.iconst 1, 1) := dGR_11_c_127.2.2.2.2.1
theorem dX7_stands_10 : decode cX7_stands 10 = .ok (.goto 4, 3) := dGR_11_c_127.2.2.2.2.2.1
theorem dX7_stands_13 : decode cX7_stands 13 = .ok (.iconst 0, 1) := dGR_11_c_127.2.2.2.2.2.2.1
theorem dX7_stands_14 : decode cX7_stands 14 = .ok (.ireturn, 1) := dGR_11_c_127.2.2.2.2.2.2.2
set_option maxRecDepth 100000 in
theorem dGR_11_c_128 : (decode cX7_overPlace 0 = .ok (.iload_n 1, 1)) ∧ (decode cX7_overPlace 1 = .ok (.iconst 4, 1)) ∧ (decode cX7_overPlace 2 = .ok (.imul, 1)) ∧ (decode cX7_overPlace 3 = .ok (.iload_n 2, 1)) ∧ (decode cX7_overPlace 4 = .ok (.iconst 2, 1)) ∧ (decode cX7_overPlace 5 = .ok (.imul, 1)) ∧ (decode cX7_overPlace 6 = .ok (.iadd, 1)) ∧ (decode cX7_overPlace 7 = .ok (.iload_n 3, 1)) ∧ (decode cX7_overPlace 8 = .ok (.iadd, 1)) ∧ (decode cX7_overPlace 9 = .ok (.aload_n 0, 1)) ∧ (decode cX7_overPlace 10 = .ok (.getfield 86, 3)) ∧ (decode cX7_overPlace 13 = .ok (.isub, 1)) := by decide +kernel
theorem dX7_overPlace_0 : decode cX7_overPlace 0 = .ok (.iload_n 1, 1) := dGR_11_c_128.1
theorem dX7_overPlace_1 : decode cX7_overPlace 1 = .ok (.iconst 4, 1) := dGR_11_c_128.2.1
theorem dX7_overPlace_2 : decode cX7_overPlace 2 = .ok (.imul, 1) := dGR_11_c_128.2.2.1
theorem dX7_overPlace_3 : decode cX7_overPlace 3 = .ok (.iload_n 2, 1) := dGR_11_c_128.2.2.2.1
theorem dX7_overPlace_4 : decode cX7_overPlace 4 = .ok (.iconst 2, 1) := dGR_11_c_128.2.2.2.2.1
theorem dX7_overPlace_5 : decode cX7_overPlace 5 = .ok (.imul, 1) := dGR_11_c_128.2.2.2.2.2.1
theorem dX7_overPlace_6 : decode cX7_overPlace 6 = .ok (.iadd, 1) := dGR_11_c_128.2.2.2.2.2.2.1
theorem dX7_overPlace_7 : decode cX7_overPlace 7 = .ok (.iload_n 3, 1) := dGR_11_c_128.2.2.2.2.2.2.2.1
theorem dX7_overPlace_8 : decode cX7_overPlace 8 = .ok (.iadd, 1) := dGR_11_c_128.2.2.2.2.2.2.2.2.1
theorem dX7_overPlace_9 : decode cX7_overPlace 9 = .ok (.aload_n 0, 1) := dGR_11_c_128.2.2.2.2.2.2.2.2.2.1
theorem dX7_overPlace_10 : decode cX7_overPlace 10 = .ok (.getfield 86, 3) := dGR_11_c_128.2.2.2.2.2.2.2.2.2.2.1
theorem dX7_overPlace_13 : decode cX7_overPlace 13 = .ok (.isub, 1) := dGR_11_c_128.2.2.2.2.2.2.2.2.2.2.2
theorem dX7_overPlace_14 : decode cX7_overPlace 14 = .ok (.ireturn, 1) := by decide +kernel
set_option maxRecDepth 100000 in
theorem dGR_11_c_129 : (decode cX7_put 0 = .ok (.aload_n 0, 1)) ∧ (decode cX7_put 1 = .ok (.getfield 24, 3)) ∧ (decode cX7_put 4 = .ok (.bipush 40, 2)) ∧ (decode cX7_put 6 = .ok (.if_icmp .gt 16, 3)) ∧ (decode cX7_put 9 = .ok (.aload_n 0, 1)) ∧ (decode cX7_put 10 = .ok (.getfield 18, 3)) ∧ (decode cX7_put 13 = .ok (.iload_n 2, 1)) ∧ (decode cX7_put 14 = .ok (.iaload, 1)) ∧ (decode cX7_put 15 = .ok (.iload_n 1, 1)) ∧ (decode cX7_put 16 = .ok (.ishr, 1)) ∧ (decode cX7_put 17 = .ok (.iconst 1, 1)) ∧ (decode cX7_put 18 = .ok (.iand, 1)) := by decide +kernel
theorem dX7_put_0 : decode cX7_put 0 = .ok (.aload_n 0, 1) := dGR_11_c_129.1
theorem dX7_put_1 : decode cX7_put 1 = .ok (.getfield 24, 3) := dGR_11_c_129.2.1
theorem dX7_put_4 : decode cX7_put 4 = .ok (.bipush 40, 2) := dGR_11_c_129.2.2.1
theorem dX7_put_6 : decode cX7_put 6 = .ok (.if_icmp .gt 16, 3) := dGR_11_c_129.2.2.2.1
theorem dX7_put_9 : decode cX7_put 9 = .ok (.aload_n 0, 1) := dGR_11_c_129.2.2.2.2.1
theorem dX7_put_10 : decode cX7_put 10 = .ok (.getfield 18, 3) := dGR_11_c_129.2.2.2.2.2.1
theorem dX7_put_13 : decode cX7_put 13 = .ok (.iload_n 2, 1) := dGR_11_c_129.2.2.2.2.2.2.1
theorem dX7_put_14 : decode cX7_put 14 = .ok (.iaload, 1) := dGR_11_c_129.2.2.2.2.2.2.2.1
theorem dX7_put_15 : decode cX7_put 15 = .ok (.iload_n 1, 1) := dGR_11_c_129.2.2.2.2.2.2.2.2.1
theorem dX7_put_16 : decode cX7_put 16 = .ok (.ishr, 1) := dGR_11_c_129.2.2.2.2.2.2.2.2.2.1
theorem dX7_put_17 : decode cX7_put 17 = .ok (.iconst 1, 1) := dGR_11_c_129.2.2.2.2.2.2.2.2.2.2.1
theorem dX7_put_18 : decode cX7_put 18 = .ok (.iand, 1) := dGR_11_c_129.2.2.2.2.2.2.2.2.2.2.2
set_option maxRecDepth 100000 in
theorem dGR_11_c_130 : (decode cX7_put 19 = .ok (.ifCond .eq 4, 3)) ∧ (decode cX7_put 22 = .ok (.return_, 1)) ∧ (decode cX7_put 23 = .ok (.aload_n 0, 1)) ∧ (decode cX7_put 24 = .ok (.getfield 18, 3)) ∧ (decode cX7_put 27 = .ok (.iload_n 2, 1)) ∧ (decode cX7_put 28 = .ok (.dup2, 1)) ∧ (decode cX7_put 29 = .ok (.iaload, 1)) ∧ (decode cX7_put 30 = .ok (.iconst 1, 1)) ∧ (decode cX7_put 31 = .ok (.iload_n 1, 1)) ∧ (decode cX7_put 32 = .ok (.ishl, 1)) ∧ (decode cX7_put 33 = .ok (.ior, 1)) ∧ (decode cX7_put 34 = .ok (.iastore, 1)) := by decide +kernel
theorem dX7_put_19 : decode cX7_put 19 = .ok (.ifCond .eq 4, 3) := dGR_11_c_130.1
theorem dX7_put_22 : decode cX7_put 22 = .ok (.return_, 1) := dGR_11_c_130.2.1
theorem dX7_put_23 : decode cX7_put 23 = .ok (.aload_n 0, 1) := dGR_11_c_130.2.2.1
theorem dX7_put_24 : decode cX7_put 24 = .ok (.getfield 18, 3) := dGR_11_c_130.2.2.2.1
theorem dX7_put_27 : decode cX7_put 27 = .ok (.iload_n 2, 1) := dGR_11_c_130.2.2.2.2.1
theorem dX7_put_28 : decode cX7_put 28 = .ok (.dup2, 1) := dGR_11_c_130.2.2.2.2.2.1
theorem dX7_put_29 : decode cX7_put 29 = .ok (.iaload, 1) := dGR_11_c_130.2.2.2.2.2.2.1
theorem dX7_put_30 : decode cX7_put 30 = .ok (.iconst 1, 1) := dGR_11_c_130.2.2.2.2.2.2.2.1
theorem dX7_put_31 : decode cX7_put 31 = .ok (.iload_n 1, 1) := dGR_11_c_130.2.2.2.2.2.2.2.2.1
theorem dX7_put_32 : decode cX7_put 32 = .ok (.ishl, 1) := dGR_11_c_130.2.2.2.2.2.2.2.2.2.1
theorem dX7_put_33 : decode cX7_put 33 = .ok (.ior, 1) := dGR_11_c_130.2.2.2.2.2.2.2.2.2.2.1
theorem dX7_put_34 : decode cX7_put 34 = .ok (.iastore, 1) := dGR_11_c_130.2.2.2.2.2.2.2.2.2.2.2
set_option maxRecDepth 100000 in
theorem dGR_11_c_131 : (decode cX7_put 35 = .ok (.aload_n 0, 1)) ∧ (decode cX7_put 36 = .ok (.getfield 24, 3)) ∧ (decode cX7_put 39 = .ok (.bipush 40, 2)) ∧ (decode cX7_put 41 = .ok (.if_icmp .ge 23, 3)) ∧ (decode cX7_put 44 = .ok (.aload_n 0, 1)) ∧ (decode cX7_put 45 = .ok (.getfield 9, 3)) ∧ (decode cX7_put 48 = .ok (.aload_n 0, 1)) ∧ (decode cX7_put 49 = .ok (.getfield 24, 3)) ∧ (decode cX7_put 52 = .ok (.iload_n 1, 1)) ∧ (decode cX7_put 53 = .ok (.iastore, 1)) ∧ (decode cX7_put 54 = .ok (.aload_n 0, 1)) ∧ (decode cX7_put 55 = .ok (.getfield 15, 3)) := by decide +kernel
theorem dX7_put_35 : decode cX7_put 35 = .ok (.aload_n 0, 1) := dGR_11_c_131.1
theorem dX7_put_36 : decode cX7_put 36 = .ok (.getfield 24, 3) := dGR_11_c_131.2.1
theorem dX7_put_39 : decode cX7_put 39 = .ok (.bipush 40, 2) := dGR_11_c_131.2.2.1
theorem dX7_put_41 : decode cX7_put 41 = .ok (.if_icmp .ge 23, 3) := dGR_11_c_131.2.2.2.1
theorem dX7_put_44 : decode cX7_put 44 = .ok (.aload_n 0, 1) := dGR_11_c_131.2.2.2.2.1
theorem dX7_put_45 : decode cX7_put 45 = .ok (.getfield 9, 3) := dGR_11_c_131.2.2.2.2.2.1
theorem dX7_put_48 : decode cX7_put 48 = .ok (.aload_n 0, 1) := dGR_11_c_131.2.2.2.2.2.2.1
theorem dX7_put_49 : decode cX7_put 49 = .ok (.getfield 24, 3) := dGR_11_c_131.2.2.2.2.2.2.2.1
theorem dX7_put_52 : decode cX7_put 52 = .ok (.iload_n 1, 1) := dGR_11_c_131.2.2.2.2.2.2.2.2.1
theorem dX7_put_53 : decode cX7_put 53 = .ok (.iastore, 1) := dGR_11_c_131.2.2.2.2.2.2.2.2.2.1
theorem dX7_put_54 : decode cX7_put 54 = .ok (.aload_n 0, 1) := dGR_11_c_131.2.2.2.2.2.2.2.2.2.2.1
theorem dX7_put_55 : decode cX7_put 55 = .ok (.getfield 15, 3) := dGR_11_c_131.2.2.2.2.2.2.2.2.2.2.2
set_option maxRecDepth 100000 in
theorem dGR_11_c_132 : (decode cX7_put 58 = .ok (.aload_n 0, 1)) ∧ (decode cX7_put 59 = .ok (.getfield 24, 3)) ∧ (decode cX7_put 62 = .ok (.iload_n 2, 1)) ∧ (decode cX7_put 63 = .ok (.iastore, 1)) ∧ (decode cX7_put 64 = .ok (.aload_n 0, 1)) ∧ (decode cX7_put 65 = .ok (.dup, 1)) ∧ (decode cX7_put 66 = .ok (.getfield 24, 3)) ∧ (decode cX7_put 69 = .ok (.iconst 1, 1)) ∧ (decode cX7_put 70 = .ok (.iadd, 1)) ∧ (decode cX7_put 71 = .ok (.putfield 24, 3)) ∧ (decode cX7_put 74 = .ok (.return_, 1)) := by decide +kernel
theorem dX7_put_58 : decode cX7_put 58 = .ok (.aload_n 0, 1) := dGR_11_c_132.1
theorem dX7_put_59 : decode cX7_put 59 = .ok (.getfield 24, 3) := dGR_11_c_132.2.1
theorem dX7_put_62 : decode cX7_put 62 = .ok (.iload_n 2, 1) := dGR_11_c_132.2.2.1
theorem dX7_put_63 : decode cX7_put 63 = .ok (.iastore, 1) := dGR_11_c_132.2.2.2.1
theorem dX7_put_64 : decode cX7_put 64 = .ok (.aload_n 0, 1) := dGR_11_c_132.2.2.2.2.1
theorem dX7_put_65 : decode cX7_put 65 = .ok (.dup, 1) := dGR_11_c_132.2.2.2.2.2.1
theorem dX7_put_66 : decode cX7_put 66 = .ok (.getfield 24, 3) := dGR_11_c_132.2.2.2.2.2.2.1
theorem dX7_put_69 : decode cX7_put 69 = .ok (.iconst 1, 1) := dGR_11_c_132.2.2.2.2.2.2.2.1
theorem dX7_put_70 : decode cX7_put 70 = .ok (.iadd, 1) := dGR_11_c_132.2.2.2.2.2.2.2.2.1
theorem dX7_put_71 : decode cX7_put 71 = .ok (.putfield 24, 3) := dGR_11_c_132.2.2.2.2.2.2.2.2.2.1
theorem dX7_put_74 : decode cX7_put 74 = .ok (.return_, 1) := dGR_11_c_132.2.2.2.2.2.2.2.2.2.2
set_option maxRecDepth 100000 in
theorem dGR_11_c_133 : (decode cX7_pairsAfter 0 = .ok (.iload_n 3, 1)) ∧ (decode cX7_pairsAfter 1 = .ok (.aload_n 0, 1)) ∧ (decode cX7_pairsAfter 2 = .ok (.getfield 86, 3)) ∧ (decode cX7_pairsAfter 5 = .ok (.if_icmp .ge 11, 3)) ∧ (decode cX7_pairsAfter 8 = .ok (.aload_n 1, 1)) ∧ (decode cX7_pairsAfter 9 = .ok (.getfield 43, 3)) ∧ (decode cX7_pairsAfter 12 = .ok (.invokestatic 45, 3)) ∧ (decode cX7_pairsAfter 15 = .ok (.ireturn, 1)) ∧ (decode cX7_pairsAfter 16 = .ok (.iload_n 2, 1)) ∧ (decode cX7_pairsAfter 17 = .ok (.aload_n 1, 1)) ∧ (decode cX7_pairsAfter 18 = .ok (.getfield 75, 3)) ∧ (decode cX7_pairsAfter 21 = .ok (.iload_n 3, 1)) := by decide +kernel
theorem dX7_pairsAfter_0 : decode cX7_pairsAfter 0 = .ok (.iload_n 3, 1) := dGR_11_c_133.1
theorem dX7_pairsAfter_1 : decode cX7_pairsAfter 1 = .ok (.aload_n 0, 1) := dGR_11_c_133.2.1
theorem dX7_pairsAfter_2 : decode cX7_pairsAfter 2 = .ok (.getfield 86, 3) := dGR_11_c_133.2.2.1
theorem dX7_pairsAfter_5 : decode cX7_pairsAfter 5 = .ok (.if_icmp .ge 11, 3) := dGR_11_c_133.2.2.2.1
theorem dX7_pairsAfter_8 : decode cX7_pairsAfter 8 = .ok (.aload_n 1, 1) := dGR_11_c_133.2.2.2.2.1
theorem dX7_pairsAfter_9 : decode cX7_pairsAfter 9 = .ok (.getfield 43, 3) := dGR_11_c_133.2.2.2.2.2.1
theorem dX7_pairsAfter_12 : decode cX7_pairsAfter 12 = .ok (.invokestatic 45, 3) := dGR_11_c_133.2.2.2.2.2.2.1
theorem dX7_pairsAfter_15 : decode cX7_pairsAfter 15 = .ok (.ireturn, 1) := dGR_11_c_133.2.2.2.2.2.2.2.1
theorem dX7_pairsAfter_16 : decode cX7_pairsAfter 16 = .ok (.iload_n 2, 1) := dGR_11_c_133.2.2.2.2.2.2.2.2.1
theorem dX7_pairsAfter_17 : decode cX7_pairsAfter 17 = .ok (.aload_n 1, 1) := dGR_11_c_133.2.2.2.2.2.2.2.2.2.1
theorem dX7_pairsAfter_18 : decode cX7_pairsAfter 18 = .ok (.getfield 75, 3) := dGR_11_c_133.2.2.2.2.2.2.2.2.2.2.1
theorem dX7_pairsAfter_21 : decode cX7_pairsAfter 21 = .ok (.iload_n 3, 1) := dGR_11_c_133.2.2.2.2.2.2.2.2.2.2.2
set_option maxRecDepth 100000 in
theorem dGR_11_c_134 : (decode cX7_pairsAfter 22 = .ok (.iaload, 1)) ∧ (decode cX7_pairsAfter 23 = .ok (.invokestatic 103, 3)) ∧ (decode cX7_pairsAfter 26 = .ok (.ireturn, 1)) := by decide +kernel
theorem dX7_pairsAfter_22 : decode cX7_pairsAfter 22 = .ok (.iaload, 1) := dGR_11_c_134.1
theorem dX7_pairsAfter_23 : decode cX7_pairsAfter 23 = .ok (.invokestatic 103, 3) := dGR_11_c_134.2.1
theorem dX7_pairsAfter_26 : decode cX7_pairsAfter 26 = .ok (.ireturn, 1) := dGR_11_c_134.2.2
set_option maxRecDepth 100000 in
theorem dGR_11_c_135 : (decode cX7_putSteps 0 = .ok (.iconst 0, 1)) ∧ (decode cX7_putSteps 1 = .ok (.istore 4, 2)) ∧ (decode cX7_putSteps 3 = .ok (.iload 4, 2)) ∧ (decode cX7_putSteps 5 = .ok (.aload_n 1, 1)) ∧ (decode cX7_putSteps 6 = .ok (.getfield 70, 3)) ∧ (decode cX7_putSteps 9 = .ok (.if_icmp .ge 42, 3)) ∧ (decode cX7_putSteps 12 = .ok (.aload_n 0, 1)) ∧ (decode cX7_putSteps 13 = .ok (.aload_n 0, 1)) ∧ (decode cX7_putSteps 14 = .ok (.getfield 9, 3)) ∧ (decode cX7_putSteps 17 = .ok (.iload_n 3, 1)) ∧ (decode cX7_putSteps 18 = .ok (.iaload, 1)) ∧ (decode cX7_putSteps 19 = .ok (.aload_n 2, 1)) := by decide +kernel
theorem dX7_putSteps_0 : decode cX7_putSteps 0 = .ok (.iconst 0, 1) := dGR_11_c_135.1
theorem dX7_putSteps_1 : decode cX7_putSteps 1 = .ok (.istore 4, 2) := dGR_11_c_135.2.1
theorem dX7_putSteps_3 : decode cX7_putSteps 3 = .ok (.iload 4, 2) := dGR_11_c_135.2.2.1
theorem dX7_putSteps_5 : decode cX7_putSteps 5 = .ok (.aload_n 1, 1) := dGR_11_c_135.2.2.2.1
theorem dX7_putSteps_6 : decode cX7_putSteps 6 = .ok (.getfield 70, 3) := dGR_11_c_135.2.2.2.2.1
theorem dX7_putSteps_9 : decode cX7_putSteps 9 = .ok (.if_icmp .ge 42, 3) := dGR_11_c_135.2.2.2.2.2.1
theorem dX7_putSteps_12 : decode cX7_putSteps 12 = .ok (.aload_n 0, 1) := dGR_11_c_135.2.2.2.2.2.2.1
theorem dX7_putSteps_13 : decode cX7_putSteps 13 = .ok (.aload_n 0, 1) := dGR_11_c_135.2.2.2.2.2.2.2.1
theorem dX7_putSteps_14 : decode cX7_putSteps 14 = .ok (.getfield 9, 3) := dGR_11_c_135.2.2.2.2.2.2.2.2.1
theorem dX7_putSteps_17 : decode cX7_putSteps 17 = .ok (.iload_n 3, 1) := dGR_11_c_135.2.2.2.2.2.2.2.2.2.1
theorem dX7_putSteps_18 : decode cX7_putSteps 18 = .ok (.iaload, 1) := dGR_11_c_135.2.2.2.2.2.2.2.2.2.2.1
theorem dX7_putSteps_19 : decode cX7_putSteps 19 = .ok (.aload_n 2, 1) := dGR_11_c_135.2.2.2.2.2.2.2.2.2.2.2
set_option maxRecDepth 100000 in
theorem dGR_11_c_136 : (decode cX7_putSteps 20 = .ok (.getfield 75, 3)) ∧ (decode cX7_putSteps 23 = .ok (.iload 4, 2)) ∧ (decode cX7_putSteps 25 = .ok (.iaload, 1)) ∧ (decode cX7_putSteps 26 = .ok (.invokestatic 78, 3)) ∧ (decode cX7_putSteps 29 = .ok (.aload_n 1, 1)) ∧ (decode cX7_putSteps 30 = .ok (.aload_n 2, 1)) ∧ (decode cX7_putSteps 31 = .ok (.aload_n 0, 1)) ∧ (decode cX7_putSteps 32 = .ok (.getfield 15, 3)) ∧ (decode cX7_putSteps 35 = .ok (.iload_n 3, 1)) ∧ (decode cX7_putSteps 36 = .ok (.iaload, 1)) ∧ (decode cX7_putSteps 37 = .ok (.iload 4, 2)) ∧ (decode cX7_putSteps 39 = .ok (.invokestatic 82, 3)) := by decide +kernel
theorem dX7_putSteps_20 : decode cX7_putSteps 20 = .ok (.getfield 75, 3) := dGR_11_c_136.1
theorem dX7_putSteps_23 : decode cX7_putSteps 23 = .ok (.iload 4, 2) := dGR_11_c_136.2.1
theorem dX7_putSteps_25 : decode cX7_putSteps 25 = .ok (.iaload, 1) := dGR_11_c_136.2.2.1
theorem dX7_putSteps_26 : decode cX7_putSteps 26 = .ok (.invokestatic 78, 3) := dGR_11_c_136.2.2.2.1
theorem dX7_putSteps_29 : decode cX7_putSteps 29 = .ok (.aload_n 1, 1) := dGR_11_c_136.2.2.2.2.1
theorem dX7_putSteps_30 : decode cX7_putSteps 30 = .ok (.aload_n 2, 1) := dGR_11_c_136.2.2.2.2.2.1
theorem dX7_putSteps_31 : decode cX7_putSteps 31 = .ok (.aload_n 0, 1) := dGR_11_c_136.2.2.2.2.2.2.1
theorem dX7_putSteps_32 : decode cX7_putSteps 32 = .ok (.getfield 15, 3) := dGR_11_c_136.2.2.2.2.2.2.2.1
theorem dX7_putSteps_35 : decode cX7_putSteps 35 = .ok (.iload_n 3, 1) := dGR_11_c_136.2.2.2.2.2.2.2.2.1
theorem dX7_putSteps_36 : decode cX7_putSteps 36 = .ok (.iaload, 1) := dGR_11_c_136.2.2.2.2.2.2.2.2.2.1
theorem dX7_putSteps_37 : decode cX7_putSteps 37 = .ok (.iload 4, 2) := dGR_11_c_136.2.2.2.2.2.2.2.2.2.2.1
theorem dX7_putSteps_39 : decode cX7_putSteps 39 = .ok (.invokestatic 82, 3) := dGR_11_c_136.2.2.2.2.2.2.2.2.2.2.2
set_option maxRecDepth 100000 in
theorem dGR_11_c_137 : (decode cX7_putSteps 42 = .ok (.invokevirtual 51, 3)) ∧ (decode cX7_putSteps 45 = .ok (.iinc 4 1, 3)) ∧ (decode cX7_putSteps 48 = .ok (.goto (-45), 3)) ∧ (decode cX7_putSteps 51 = .ok (.return_, 1)) := by decide +kernel
theorem dX7_putSteps_42 : decode cX7_putSteps 42 = .ok (.invokevirtual 51, 3) := dGR_11_c_137.1
theorem dX7_putSteps_45 : decode cX7_putSteps 45 = .ok (.iinc 4 1, 3) := dGR_11_c_137.2.1
theorem dX7_putSteps_48 : decode cX7_putSteps 48 = .ok (.goto (-45), 3) := dGR_11_c_137.2.2.1
theorem dX7_putSteps_51 : decode cX7_putSteps 51 = .ok (.return_, 1) := dGR_11_c_137.2.2.2
set_option maxRecDepth 100000 in
theorem dGR_11_c_138 : (decode cX7_noteOvers 0 = .ok (.iconst 0, 1)) ∧ (decode cX7_noteOvers 1 = .ok (.istore 4, 2)) ∧ (decode cX7_noteOvers 3 = .ok (.iload 4, 2)) ∧ (decode cX7_noteOvers 5 = .ok (.aload_n 1, 1)) ∧ (decode cX7_noteOvers 6 = .ok (.getfield 86, 3)) ∧ (decode cX7_noteOvers 9 = .ok (.if_icmp .ge 58, 3)) ∧ (decode cX7_noteOvers 12 = .ok (.aload_n 1, 1)) ∧ (decode cX7_noteOvers 13 = .ok (.getfield 86, 3)) ∧ (decode cX7_noteOvers 16 = .ok (.istore 5, 2)) ∧ (decode cX7_noteOvers 18 = .ok (.iload 5, 2)) ∧ (decode cX7_noteOvers 20 = .ok (.aload_n 1, 1)) ∧ (decode cX7_noteOvers 21 = .ok (.getfield 89, 3)) := by decide +kernel
theorem dX7_noteOvers_0 : decode cX7_noteOvers 0 = .ok (.iconst 0, 1) := dGR_11_c_138.1
theorem dX7_noteOvers_1 : decode cX7_noteOvers 1 = .ok (.istore 4, 2) := dGR_11_c_138.2.1
theorem dX7_noteOvers_3 : decode cX7_noteOvers 3 = .ok (.iload 4, 2) := dGR_11_c_138.2.2.1
theorem dX7_noteOvers_5 : decode cX7_noteOvers 5 = .ok (.aload_n 1, 1) := dGR_11_c_138.2.2.2.1
theorem dX7_noteOvers_6 : decode cX7_noteOvers 6 = .ok (.getfield 86, 3) := dGR_11_c_138.2.2.2.2.1
theorem dX7_noteOvers_9 : decode cX7_noteOvers 9 = .ok (.if_icmp .ge 58, 3) := dGR_11_c_138.2.2.2.2.2.1
theorem dX7_noteOvers_12 : decode cX7_noteOvers 12 = .ok (.aload_n 1, 1) := dGR_11_c_138.2.2.2.2.2.2.1
theorem dX7_noteOvers_13 : decode cX7_noteOvers 13 = .ok (.getfield 86, 3) := dGR_11_c_138.2.2.2.2.2.2.2.1
theorem dX7_noteOvers_16 : decode cX7_noteOvers 16 = .ok (.istore 5, 2) := dGR_11_c_138.2.2.2.2.2.2.2.2.1
theorem dX7_noteOvers_18 : decode cX7_noteOvers 18 = .ok (.iload 5, 2) := dGR_11_c_138.2.2.2.2.2.2.2.2.2.1
theorem dX7_noteOvers_20 : decode cX7_noteOvers 20 = .ok (.aload_n 1, 1) := dGR_11_c_138.2.2.2.2.2.2.2.2.2.2.1
theorem dX7_noteOvers_21 : decode cX7_noteOvers 21 = .ok (.getfield 89, 3) := dGR_11_c_138.2.2.2.2.2.2.2.2.2.2.2
set_option maxRecDepth 100000 in
theorem dGR_11_c_139 : (decode cX7_noteOvers 24 = .ok (.if_icmp .ge 37, 3)) ∧ (decode cX7_noteOvers 27 = .ok (.aload_n 0, 1)) ∧ (decode cX7_noteOvers 28 = .ok (.getfield 21, 3)) ∧ (decode cX7_noteOvers 31 = .ok (.aload_n 1, 1)) ∧ (decode cX7_noteOvers 32 = .ok (.iload_n 3, 1)) ∧ (decode cX7_noteOvers 33 = .ok (.iload 4, 2)) ∧ (decode cX7_noteOvers 35 = .ok (.iload 5, 2)) ∧ (decode cX7_noteOvers 37 = .ok (.invokestatic 92, 3)) ∧ (decode cX7_noteOvers 40 = .ok (.aload_n 2, 1)) ∧ (decode cX7_noteOvers 41 = .ok (.iload 4, 2)) ∧ (decode cX7_noteOvers 43 = .ok (.iload 5, 2)) ∧ (decode cX7_noteOvers 45 = .ok (.aload_n 0, 1)) := by decide +kernel
theorem dX7_noteOvers_24 : decode cX7_noteOvers 24 = .ok (.if_icmp .ge 37, 3) := dGR_11_c_139.1
theorem dX7_noteOvers_27 : decode cX7_noteOvers 27 = .ok (.aload_n 0, 1) := dGR_11_c_139.2.1
theorem dX7_noteOvers_28 : decode cX7_noteOvers 28 = .ok (.getfield 21, 3) := dGR_11_c_139.2.2.1
theorem dX7_noteOvers_31 : decode cX7_noteOvers 31 = .ok (.aload_n 1, 1) := dGR_11_c_139.2.2.2.1
theorem dX7_noteOvers_32 : decode cX7_noteOvers 32 = .ok (.iload_n 3, 1) := dGR_11_c_139.2.2.2.2.1
theorem dX7_noteOvers_33 : decode cX7_noteOvers 33 = .ok (.iload 4, 2) := dGR_11_c_139.2.2.2.2.2.1
theorem dX7_noteOvers_35 : decode cX7_noteOvers 35 = .ok (.iload 5, 2) := dGR_11_c_139.2.2.2.2.2.2.1
theorem dX7_noteOvers_37 : decode cX7_noteOvers 37 = .ok (.invokestatic 92, 3) := dGR_11_c_139.2.2.2.2.2.2.2.1
theorem dX7_noteOvers_40 : decode cX7_noteOvers 40 = .ok (.aload_n 2, 1) := dGR_11_c_139.2.2.2.2.2.2.2.2.1
theorem dX7_noteOvers_41 : decode cX7_noteOvers 41 = .ok (.iload 4, 2) := dGR_11_c_139.2.2.2.2.2.2.2.2.2.1
theorem dX7_noteOvers_43 : decode cX7_noteOvers 43 = .ok (.iload 5, 2) := dGR_11_c_139.2.2.2.2.2.2.2.2.2.2.1
theorem dX7_noteOvers_45 : decode cX7_noteOvers 45 = .ok (.aload_n 0, 1) := dGR_11_c_139.2.2.2.2.2.2.2.2.2.2.2
set_option maxRecDepth 100000 in
theorem dGR_11_c_140 : (decode cX7_noteOvers 46 = .ok (.getfield 15, 3)) ∧ (decode cX7_noteOvers 49 = .ok (.iload_n 3, 1)) ∧ (decode cX7_noteOvers 50 = .ok (.iaload, 1)) ∧ (decode cX7_noteOvers 51 = .ok (.invokevirtual 96, 3)) ∧ (decode cX7_noteOvers 54 = .ok (.iastore, 1)) ∧ (decode cX7_noteOvers 55 = .ok (.iinc 5 1, 3)) ∧ (decode cX7_noteOvers 58 = .ok (.goto (-40), 3)) ∧ (decode cX7_noteOvers 61 = .ok (.iinc 4 1, 3)) ∧ (decode cX7_noteOvers 64 = .ok (.goto (-61), 3)) ∧ (decode cX7_noteOvers 67 = .ok (.return_, 1)) := by decide +kernel
theorem dX7_noteOvers_46 : decode cX7_noteOvers 46 = .ok (.getfield 15, 3) := dGR_11_c_140.1
theorem dX7_noteOvers_49 : decode cX7_noteOvers 49 = .ok (.iload_n 3, 1) := dGR_11_c_140.2.1
theorem dX7_noteOvers_50 : decode cX7_noteOvers 50 = .ok (.iaload, 1) := dGR_11_c_140.2.2.1
theorem dX7_noteOvers_51 : decode cX7_noteOvers 51 = .ok (.invokevirtual 96, 3) := dGR_11_c_140.2.2.2.1
theorem dX7_noteOvers_54 : decode cX7_noteOvers 54 = .ok (.iastore, 1) := dGR_11_c_140.2.2.2.2.1
theorem dX7_noteOvers_55 : decode cX7_noteOvers 55 = .ok (.iinc 5 1, 3) := dGR_11_c_140.2.2.2.2.2.1
theorem dX7_noteOvers_58 : decode cX7_noteOvers 58 = .ok (.goto (-40), 3) := dGR_11_c_140.2.2.2.2.2.2.1
theorem dX7_noteOvers_61 : decode cX7_noteOvers 61 = .ok (.iinc 4 1, 3) := dGR_11_c_140.2.2.2.2.2.2.2.1
theorem dX7_noteOvers_64 : decode cX7_noteOvers 64 = .ok (.goto (-61), 3) := dGR_11_c_140.2.2.2.2.2.2.2.2.1
theorem dX7_noteOvers_67 : decode cX7_noteOvers 67 = .ok (.return_, 1) := dGR_11_c_140.2.2.2.2.2.2.2.2.2
set_option maxRecDepth 100000 in
theorem dGR_11_c_141 : (decode cX7_putBack 0 = .ok (.aload_n 0, 1)) ∧ (decode cX7_putBack 1 = .ok (.aload_n 0, 1)) ∧ (decode cX7_putBack 2 = .ok (.getfield 9, 3)) ∧ (decode cX7_putBack 5 = .ok (.iload_n 1, 1)) ∧ (decode cX7_putBack 6 = .ok (.iaload, 1)) ∧ (decode cX7_putBack 7 = .ok (.iload_n 2, 1)) ∧ (decode cX7_putBack 8 = .ok (.invokestatic 78, 3)) ∧ (decode cX7_putBack 11 = .ok (.aload_n 0, 1)) ∧ (decode cX7_putBack 12 = .ok (.getfield 15, 3)) ∧ (decode cX7_putBack 15 = .ok (.iload_n 1, 1)) ∧ (decode cX7_putBack 16 = .ok (.iaload, 1)) ∧ (decode cX7_putBack 17 = .ok (.iload_n 2, 1)) := by decide +kernel
theorem dX7_putBack_0 : decode cX7_putBack 0 = .ok (.aload_n 0, 1) := dGR_11_c_141.1
theorem dX7_putBack_1 : decode cX7_putBack 1 = .ok (.aload_n 0, 1) := dGR_11_c_141.2.1
theorem dX7_putBack_2 : decode cX7_putBack 2 = .ok (.getfield 9, 3) := dGR_11_c_141.2.2.1
theorem dX7_putBack_5 : decode cX7_putBack 5 = .ok (.iload_n 1, 1) := dGR_11_c_141.2.2.2.1
theorem dX7_putBack_6 : decode cX7_putBack 6 = .ok (.iaload, 1) := dGR_11_c_141.2.2.2.2.1
theorem dX7_putBack_7 : decode cX7_putBack 7 = .ok (.iload_n 2, 1) := dGR_11_c_141.2.2.2.2.2.1
theorem dX7_putBack_8 : decode cX7_putBack 8 = .ok (.invokestatic 78, 3) := dGR_11_c_141.2.2.2.2.2.2.1
theorem dX7_putBack_11 : decode cX7_putBack 11 = .ok (.aload_n 0, 1) := dGR_11_c_141.2.2.2.2.2.2.2.1
theorem dX7_putBack_12 : decode cX7_putBack 12 = .ok (.getfield 15, 3) := dGR_11_c_141.2.2.2.2.2.2.2.2.1
theorem dX7_putBack_15 : decode cX7_putBack 15 = .ok (.iload_n 1, 1) := dGR_11_c_141.2.2.2.2.2.2.2.2.2.1
theorem dX7_putBack_16 : decode cX7_putBack 16 = .ok (.iaload, 1) := dGR_11_c_141.2.2.2.2.2.2.2.2.2.2.1
theorem dX7_putBack_17 : decode cX7_putBack 17 = .ok (.iload_n 2, 1) := dGR_11_c_141.2.2.2.2.2.2.2.2.2.2.2
set_option maxRecDepth 100000 in
theorem dGR_11_c_142 : (decode cX7_putBack 18 = .ok (.invokestatic 103, 3)) ∧ (decode cX7_putBack 21 = .ok (.invokevirtual 51, 3)) ∧ (decode cX7_putBack 24 = .ok (.return_, 1)) := by decide +kernel
theorem dX7_putBack_18 : decode cX7_putBack 18 = .ok (.invokestatic 103, 3) := dGR_11_c_142.1
theorem dX7_putBack_21 : decode cX7_putBack 21 = .ok (.invokevirtual 51, 3) := dGR_11_c_142.2.1
theorem dX7_putBack_24 : decode cX7_putBack 24 = .ok (.return_, 1) := dGR_11_c_142.2.2
set_option maxRecDepth 100000 in
theorem dGR_11_c_143 : (decode cX7_putBacks 0 = .ok (.iconst 0, 1)) ∧ (decode cX7_putBacks 1 = .ok (.istore 4, 2)) ∧ (decode cX7_putBacks 3 = .ok (.iload 4, 2)) ∧ (decode cX7_putBacks 5 = .ok (.aload_n 1, 1)) ∧ (decode cX7_putBacks 6 = .ok (.getfield 86, 3)) ∧ (decode cX7_putBacks 9 = .ok (.if_icmp .ge 73, 3)) ∧ (decode cX7_putBacks 12 = .ok (.aload_n 1, 1)) ∧ (decode cX7_putBacks 13 = .ok (.getfield 86, 3)) ∧ (decode cX7_putBacks 16 = .ok (.istore 5, 2)) ∧ (decode cX7_putBacks 18 = .ok (.iload 5, 2)) ∧ (decode cX7_putBacks 20 = .ok (.aload_n 1, 1)) ∧ (decode cX7_putBacks 21 = .ok (.getfield 89, 3)) := by decide +kernel
theorem dX7_putBacks_0 : decode cX7_putBacks 0 = .ok (.iconst 0, 1) := dGR_11_c_143.1
theorem dX7_putBacks_1 : decode cX7_putBacks 1 = .ok (.istore 4, 2) := dGR_11_c_143.2.1
theorem dX7_putBacks_3 : decode cX7_putBacks 3 = .ok (.iload 4, 2) := dGR_11_c_143.2.2.1
theorem dX7_putBacks_5 : decode cX7_putBacks 5 = .ok (.aload_n 1, 1) := dGR_11_c_143.2.2.2.1
theorem dX7_putBacks_6 : decode cX7_putBacks 6 = .ok (.getfield 86, 3) := dGR_11_c_143.2.2.2.2.1
theorem dX7_putBacks_9 : decode cX7_putBacks 9 = .ok (.if_icmp .ge 73, 3) := dGR_11_c_143.2.2.2.2.2.1
theorem dX7_putBacks_12 : decode cX7_putBacks 12 = .ok (.aload_n 1, 1) := dGR_11_c_143.2.2.2.2.2.2.1
theorem dX7_putBacks_13 : decode cX7_putBacks 13 = .ok (.getfield 86, 3) := dGR_11_c_143.2.2.2.2.2.2.2.1
theorem dX7_putBacks_16 : decode cX7_putBacks 16 = .ok (.istore 5, 2) := dGR_11_c_143.2.2.2.2.2.2.2.2.1
theorem dX7_putBacks_18 : decode cX7_putBacks 18 = .ok (.iload 5, 2) := dGR_11_c_143.2.2.2.2.2.2.2.2.2.1
theorem dX7_putBacks_20 : decode cX7_putBacks 20 = .ok (.aload_n 1, 1) := dGR_11_c_143.2.2.2.2.2.2.2.2.2.2.1
theorem dX7_putBacks_21 : decode cX7_putBacks 21 = .ok (.getfield 89, 3) := dGR_11_c_143.2.2.2.2.2.2.2.2.2.2.2
set_option maxRecDepth 100000 in
theorem dGR_11_c_144 : (decode cX7_putBacks 24 = .ok (.if_icmp .ge 52, 3)) ∧ (decode cX7_putBacks 27 = .ok (.aload_n 0, 1)) ∧ (decode cX7_putBacks 28 = .ok (.iload_n 3, 1)) ∧ (decode cX7_putBacks 29 = .ok (.aload_n 0, 1)) ∧ (decode cX7_putBacks 30 = .ok (.getfield 21, 3)) ∧ (decode cX7_putBacks 33 = .ok (.aload_n 1, 1)) ∧ (decode cX7_putBacks 34 = .ok (.iload_n 2, 1)) ∧ (decode cX7_putBacks 35 = .ok (.iload 4, 2)) ∧ (decode cX7_putBacks 37 = .ok (.iload 5, 2)) ∧ (decode cX7_putBacks 39 = .ok (.invokestatic 92, 3)) ∧ (decode cX7_putBacks 42 = .ok (.iaload, 1)) ∧ (decode cX7_putBacks 43 = .ok (.invokevirtual 100, 3)) := by decide +kernel
theorem dX7_putBacks_24 : decode cX7_putBacks 24 = .ok (.if_icmp .ge 52, 3) := dGR_11_c_144.1
theorem dX7_putBacks_27 : decode cX7_putBacks 27 = .ok (.aload_n 0, 1) := dGR_11_c_144.2.1
theorem dX7_putBacks_28 : decode cX7_putBacks 28 = .ok (.iload_n 3, 1) := dGR_11_c_144.2.2.1
theorem dX7_putBacks_29 : decode cX7_putBacks 29 = .ok (.aload_n 0, 1) := dGR_11_c_144.2.2.2.1
theorem dX7_putBacks_30 : decode cX7_putBacks 30 = .ok (.getfield 21, 3) := dGR_11_c_144.2.2.2.2.1
theorem dX7_putBacks_33 : decode cX7_putBacks 33 = .ok (.aload_n 1, 1) := dGR_11_c_144.2.2.2.2.2.1
theorem dX7_putBacks_34 : decode cX7_putBacks 34 = .ok (.iload_n 2, 1) := dGR_11_c_144.2.2.2.2.2.2.1
theorem dX7_putBacks_35 : decode cX7_putBacks 35 = .ok (.iload 4, 2) := dGR_11_c_144.2.2.2.2.2.2.2.1
theorem dX7_putBacks_37 : decode cX7_putBacks 37 = .ok (.iload 5, 2) := dGR_11_c_144.2.2.2.2.2.2.2.2.1
theorem dX7_putBacks_39 : decode cX7_putBacks 39 = .ok (.invokestatic 92, 3) := dGR_11_c_144.2.2.2.2.2.2.2.2.2.1
theorem dX7_putBacks_42 : decode cX7_putBacks 42 = .ok (.iaload, 1) := dGR_11_c_144.2.2.2.2.2.2.2.2.2.2.1
theorem dX7_putBacks_43 : decode cX7_putBacks 43 = .ok (.invokevirtual 100, 3) := dGR_11_c_144.2.2.2.2.2.2.2.2.2.2.2
set_option maxRecDepth 100000 in
theorem dGR_11_c_145 : (decode cX7_putBacks 46 = .ok (.iload_n 3, 1)) ∧ (decode cX7_putBacks 47 = .ok (.iload_n 2, 1)) ∧ (decode cX7_putBacks 48 = .ok (.if_icmp .ge 22, 3)) ∧ (decode cX7_putBacks 51 = .ok (.aload_n 0, 1)) ∧ (decode cX7_putBacks 52 = .ok (.iload_n 2, 1)) ∧ (decode cX7_putBacks 53 = .ok (.aload_n 0, 1)) ∧ (decode cX7_putBacks 54 = .ok (.getfield 21, 3)) ∧ (decode cX7_putBacks 57 = .ok (.aload_n 1, 1)) ∧ (decode cX7_putBacks 58 = .ok (.iload_n 3, 1)) ∧ (decode cX7_putBacks 59 = .ok (.iload 4, 2)) ∧ (decode cX7_putBacks 61 = .ok (.iload 5, 2)) ∧ (decode cX7_putBacks 63 = .ok (.invokestatic 92, 3)) := by decide +kernel
theorem dX7_putBacks_46 : decode cX7_putBacks 46 = .ok (.iload_n 3, 1) := dGR_11_c_145.1
theorem dX7_putBacks_47 : decode cX7_putBacks 47 = .ok (.iload_n 2, 1) := dGR_11_c_145.2.1
theorem dX7_putBacks_48 : decode cX7_putBacks 48 = .ok (.if_icmp .ge 22, 3) := dGR_11_c_145.2.2.1
theorem dX7_putBacks_51 : decode cX7_putBacks 51 = .ok (.aload_n 0, 1) := dGR_11_c_145.2.2.2.1
theorem dX7_putBacks_52 : decode cX7_putBacks 52 = .ok (.iload_n 2, 1) := dGR_11_c_145.2.2.2.2.1
theorem dX7_putBacks_53 : decode cX7_putBacks 53 = .ok (.aload_n 0, 1) := dGR_11_c_145.2.2.2.2.2.1
theorem dX7_putBacks_54 : decode cX7_putBacks 54 = .ok (.getfield 21, 3) := dGR_11_c_145.2.2.2.2.2.2.1
theorem dX7_putBacks_57 : decode cX7_putBacks 57 = .ok (.aload_n 1, 1) := dGR_11_c_145.2.2.2.2.2.2.2.1
theorem dX7_putBacks_58 : decode cX7_putBacks 58 = .ok (.iload_n 3, 1) := dGR_11_c_145.2.2.2.2.2.2.2.2.1
theorem dX7_putBacks_59 : decode cX7_putBacks 59 = .ok (.iload 4, 2) := dGR_11_c_145.2.2.2.2.2.2.2.2.2.1
theorem dX7_putBacks_61 : decode cX7_putBacks 61 = .ok (.iload 5, 2) := dGR_11_c_145.2.2.2.2.2.2.2.2.2.2.1
theorem dX7_putBacks_63 : decode cX7_putBacks 63 = .ok (.invokestatic 92, 3) := dGR_11_c_145.2.2.2.2.2.2.2.2.2.2.2
set_option maxRecDepth 100000 in
theorem dGR_11_c_146 : (decode cX7_putBacks 66 = .ok (.iaload, 1)) ∧ (decode cX7_putBacks 67 = .ok (.invokevirtual 100, 3)) ∧ (decode cX7_putBacks 70 = .ok (.iinc 5 1, 3)) ∧ (decode cX7_putBacks 73 = .ok (.goto (-55), 3)) ∧ (decode cX7_putBacks 76 = .ok (.iinc 4 1, 3)) ∧ (decode cX7_putBacks 79 = .ok (.goto (-76), 3)) ∧ (decode cX7_putBacks 82 = .ok (.return_, 1)) := by decide +kernel
theorem dX7_putBacks_66 : decode cX7_putBacks 66 = .ok (.iaload, 1) := dGR_11_c_146.1
theorem dX7_putBacks_67 : decode cX7_putBacks 67 = .ok (.invokevirtual 100, 3) := dGR_11_c_146.2.1
theorem dX7_putBacks_70 : decode cX7_putBacks 70 = .ok (.iinc 5 1, 3) := dGR_11_c_146.2.2.1
theorem dX7_putBacks_73 : decode cX7_putBacks 73 = .ok (.goto (-55), 3) := dGR_11_c_146.2.2.2.1
theorem dX7_putBacks_76 : decode cX7_putBacks 76 = .ok (.iinc 4 1, 3) := dGR_11_c_146.2.2.2.2.1
theorem dX7_putBacks_79 : decode cX7_putBacks 79 = .ok (.goto (-76), 3) := dGR_11_c_146.2.2.2.2.2.1
theorem dX7_putBacks_82 : decode cX7_putBacks 82 = .ok (.return_, 1) := dGR_11_c_146.2.2.2.2.2.2
set_option maxRecDepth 100000 in
theorem dGR_11_c_147 : (decode cX7_find 0 = .ok (.iconst 0, 1)) ∧ (decode cX7_find 1 = .ok (.istore_n 3, 1)) ∧ (decode cX7_find 2 = .ok (.iload_n 3, 1)) ∧ (decode cX7_find 3 = .ok (.aload_n 0, 1)) ∧ (decode cX7_find 4 = .ok (.getfield 24, 3)) ∧ (decode cX7_find 7 = .ok (.if_icmp .ge 37, 3)) ∧ (decode cX7_find 10 = .ok (.iload_n 3, 1)) ∧ (decode cX7_find 11 = .ok (.bipush 40, 2)) ∧ (decode cX7_find 13 = .ok (.if_icmp .ge 31, 3)) ∧ (decode cX7_find 16 = .ok (.aload_n 0, 1)) ∧ (decode cX7_find 17 = .ok (.getfield 9, 3)) ∧ (decode cX7_find 20 = .ok (.iload_n 3, 1)) := by decide +kernel
theorem dX7_find_0 : decode cX7_find 0 = .ok (.iconst 0, 1) := dGR_11_c_147.1
theorem dX7_find_1 : decode cX7_find 1 = .ok (.istore_n 3, 1) := dGR_11_c_147.2.1
theorem dX7_find_2 : decode cX7_find 2 = .ok (.iload_n 3, 1) := dGR_11_c_147.2.2.1
theorem dX7_find_3 : decode cX7_find 3 = .ok (.aload_n 0, 1) := dGR_11_c_147.2.2.2.1
theorem dX7_find_4 : decode cX7_find 4 = .ok (.getfield 24, 3) := dGR_11_c_147.2.2.2.2.1
theorem dX7_find_7 : decode cX7_find 7 = .ok (.if_icmp .ge 37, 3) := dGR_11_c_147.2.2.2.2.2.1
theorem dX7_find_10 : decode cX7_find 10 = .ok (.iload_n 3, 1) := dGR_11_c_147.2.2.2.2.2.2.1
theorem dX7_find_11 : decode cX7_find 11 = .ok (.bipush 40, 2) := dGR_11_c_147.2.2.2.2.2.2.2.1
theorem dX7_find_13 : decode cX7_find 13 = .ok (.if_icmp .ge 31, 3) := dGR_11_c_147.2.2.2.2.2.2.2.2.1
theorem dX7_find_16 : decode cX7_find 16 = .ok (.aload_n 0, 1) := dGR_11_c_147.2.2.2.2.2.2.2.2.2.1
theorem dX7_find_17 : decode cX7_find 17 = .ok (.getfield 9, 3) := dGR_11_c_147.2.2.2.2.2.2.2.2.2.2.1
theorem dX7_find_20 : decode cX7_find 20 = .ok (.iload_n 3, 1) := dGR_11_c_147.2.2.2.2.2.2.2.2.2.2.2
set_option maxRecDepth 100000 in
theorem dGR_11_c_148 : (decode cX7_find 21 = .ok (.iaload, 1)) ∧ (decode cX7_find 22 = .ok (.iload_n 1, 1)) ∧ (decode cX7_find 23 = .ok (.if_icmp .ne 15, 3)) ∧ (decode cX7_find 26 = .ok (.aload_n 0, 1)) ∧ (decode cX7_find 27 = .ok (.getfield 15, 3)) ∧ (decode cX7_find 30 = .ok (.iload_n 3, 1)) ∧ (decode cX7_find 31 = .ok (.iaload, 1)) ∧ (decode cX7_find 32 = .ok (.iload_n 2, 1)) ∧ (decode cX7_find 33 = .ok (.if_icmp .ne 5, 3)) ∧ (decode cX7_find 36 = .ok (.iload_n 3, 1)) ∧ (decode cX7_find 37 = .ok (.ireturn, 1)) ∧ (decode cX7_find 38 = .ok (.iinc 3 1, 3)) := by decide +kernel
theorem dX7_find_21 : decode cX7_find 21 = .ok (.iaload, 1) := dGR_11_c_148.1
theorem dX7_find_22 : decode cX7_find 22 = .ok (.iload_n 1, 1) := dGR_11_c_148.2.1
theorem dX7_find_23 : decode cX7_find 23 = .ok (.if_icmp .ne 15, 3) := dGR_11_c_148.2.2.1
theorem dX7_find_26 : decode cX7_find 26 = .ok (.aload_n 0, 1) := dGR_11_c_148.2.2.2.1
theorem dX7_find_27 : decode cX7_find 27 = .ok (.getfield 15, 3) := dGR_11_c_148.2.2.2.2.1
theorem dX7_find_30 : decode cX7_find 30 = .ok (.iload_n 3, 1) := dGR_11_c_148.2.2.2.2.2.1
theorem dX7_find_31 : decode cX7_find 31 = .ok (.iaload, 1) := dGR_11_c_148.2.2.2.2.2.2.1
theorem dX7_find_32 : decode cX7_find 32 = .ok (.iload_n 2, 1) := dGR_11_c_148.2.2.2.2.2.2.2.1
theorem dX7_find_33 : decode cX7_find 33 = .ok (.if_icmp .ne 5, 3) := dGR_11_c_148.2.2.2.2.2.2.2.2.1
theorem dX7_find_36 : decode cX7_find 36 = .ok (.iload_n 3, 1) := dGR_11_c_148.2.2.2.2.2.2.2.2.2.1
theorem dX7_find_37 : decode cX7_find 37 = .ok (.ireturn, 1) := dGR_11_c_148.2.2.2.2.2.2.2.2.2.2.1
theorem dX7_find_38 : decode cX7_find 38 = .ok (.iinc 3 1, 3) := dGR_11_c_148.2.2.2.2.2.2.2.2.2.2.2
set_option maxRecDepth 100000 in
theorem dGR_11_c_149 : (decode cX7_find 41 = .ok (.goto (-39), 3)) ∧ (decode cX7_find 44 = .ok (.iconst (-1), 1)) ∧ (decode cX7_find 45 = .ok (.ireturn, 1)) := by decide +kernel
theorem dX7_find_41 : decode cX7_find 41 = .ok (.goto (-39), 3) := dGR_11_c_149.1
theorem dX7_find_44 : decode cX7_find 44 = .ok (.iconst (-1), 1) := dGR_11_c_149.2.1
theorem dX7_find_45 : decode cX7_find 45 = .ok (.ireturn, 1) := dGR_11_c_149.2.2
set_option maxRecDepth 100000 in
theorem dGR_11_c_150 : (decode cX7_after 0 = .ok (.aload_n 0, 1)) ∧ (decode cX7_after 1 = .ok (.aload_n 0, 1)) ∧ (decode cX7_after 2 = .ok (.getfield 9, 3)) ∧ (decode cX7_after 5 = .ok (.iload_n 3, 1)) ∧ (decode cX7_after 6 = .ok (.iaload, 1)) ∧ (decode cX7_after 7 = .ok (.aload_n 2, 1)) ∧ (decode cX7_after 8 = .ok (.getfield 75, 3)) ∧ (decode cX7_after 11 = .ok (.iload 4, 2)) ∧ (decode cX7_after 13 = .ok (.iaload, 1)) ∧ (decode cX7_after 14 = .ok (.invokestatic 78, 3)) ∧ (decode cX7_after 17 = .ok (.aload_n 1, 1)) ∧ (decode cX7_after 18 = .ok (.aload_n 2, 1)) := by decide +kernel
theorem dX7_after_0 : decode cX7_after 0 = .ok (.aload_n 0, 1) := dGR_11_c_150.1
theorem dX7_after_1 : decode cX7_after 1 = .ok (.aload_n 0, 1) := dGR_11_c_150.2.1
theorem dX7_after_2 : decode cX7_after 2 = .ok (.getfield 9, 3) := dGR_11_c_150.2.2.1
theorem dX7_after_5 : decode cX7_after 5 = .ok (.iload_n 3, 1) := dGR_11_c_150.2.2.2.1
theorem dX7_after_6 : decode cX7_after 6 = .ok (.iaload, 1) := dGR_11_c_150.2.2.2.2.1
theorem dX7_after_7 : decode cX7_after 7 = .ok (.aload_n 2, 1) := dGR_11_c_150.2.2.2.2.2.1
theorem dX7_after_8 : decode cX7_after 8 = .ok (.getfield 75, 3) := dGR_11_c_150.2.2.2.2.2.2.1
theorem dX7_after_11 : decode cX7_after 11 = .ok (.iload 4, 2) := dGR_11_c_150.2.2.2.2.2.2.2.1
theorem dX7_after_13 : decode cX7_after 13 = .ok (.iaload, 1) := dGR_11_c_150.2.2.2.2.2.2.2.2.1
theorem dX7_after_14 : decode cX7_after 14 = .ok (.invokestatic 78, 3) := dGR_11_c_150.2.2.2.2.2.2.2.2.2.1
theorem dX7_after_17 : decode cX7_after 17 = .ok (.aload_n 1, 1) := dGR_11_c_150.2.2.2.2.2.2.2.2.2.2.1
theorem dX7_after_18 : decode cX7_after 18 = .ok (.aload_n 2, 1) := dGR_11_c_150.2.2.2.2.2.2.2.2.2.2.2
set_option maxRecDepth 100000 in
theorem dGR_11_c_151 : (decode cX7_after 19 = .ok (.aload_n 0, 1)) ∧ (decode cX7_after 20 = .ok (.getfield 15, 3)) ∧ (decode cX7_after 23 = .ok (.iload_n 3, 1)) ∧ (decode cX7_after 24 = .ok (.iaload, 1)) ∧ (decode cX7_after 25 = .ok (.iload 4, 2)) ∧ (decode cX7_after 27 = .ok (.invokestatic 82, 3)) ∧ (decode cX7_after 30 = .ok (.invokevirtual 106, 3)) ∧ (decode cX7_after 33 = .ok (.ireturn, 1)) := by decide +kernel
theorem dX7_after_19 : decode cX7_after 19 = .ok (.aload_n 0, 1) := dGR_11_c_151.1
theorem dX7_after_20 : decode cX7_after 20 = .ok (.getfield 15, 3) := dGR_11_c_151.2.1
theorem dX7_after_23 : decode cX7_after 23 = .ok (.iload_n 3, 1) := dGR_11_c_151.2.2.1
theorem dX7_after_24 : decode cX7_after 24 = .ok (.iaload, 1) := dGR_11_c_151.2.2.2.1
theorem dX7_after_25 : decode cX7_after 25 = .ok (.iload 4, 2) := dGR_11_c_151.2.2.2.2.1
theorem dX7_after_27 : decode cX7_after 27 = .ok (.invokestatic 82, 3) := dGR_11_c_151.2.2.2.2.2.1
theorem dX7_after_30 : decode cX7_after 30 = .ok (.invokevirtual 106, 3) := dGR_11_c_151.2.2.2.2.2.2.1
theorem dX7_after_33 : decode cX7_after 33 = .ok (.ireturn, 1) := dGR_11_c_151.2.2.2.2.2.2.2
set_option maxRecDepth 100000 in
theorem dGR_11_c_152 : (decode cX7_build 0 = .ok (.aload_n 0, 1)) ∧ (decode cX7_build 1 = .ok (.iconst 1, 1)) ∧ (decode cX7_build 2 = .ok (.putfield 28, 3)) ∧ (decode cX7_build 5 = .ok (.aload_n 0, 1)) ∧ (decode cX7_build 6 = .ok (.iconst 0, 1)) ∧ (decode cX7_build 7 = .ok (.putfield 24, 3)) ∧ (decode cX7_build 10 = .ok (.aload_n 0, 1)) ∧ (decode cX7_build 11 = .ok (.getfield 18, 3)) ∧ (decode cX7_build 14 = .ok (.iconst 0, 1)) ∧ (decode cX7_build 15 = .ok (.invokestatic 32, 3)) ∧ (decode cX7_build 18 = .ok (.aload_n 0, 1)) ∧ (decode cX7_build 19 = .ok (.aload_n 2, 1)) := by decide +kernel
theorem dX7_build_0 : decode cX7_build 0 = .ok (.aload_n 0, 1) := dGR_11_c_152.1
theorem dX7_build_1 : decode cX7_build 1 = .ok (.iconst 1, 1) := dGR_11_c_152.2.1
theorem dX7_build_2 : decode cX7_build 2 = .ok (.putfield 28, 3) := dGR_11_c_152.2.2.1
theorem dX7_build_5 : decode cX7_build 5 = .ok (.aload_n 0, 1) := dGR_11_c_152.2.2.2.1
theorem dX7_build_6 : decode cX7_build 6 = .ok (.iconst 0, 1) := dGR_11_c_152.2.2.2.2.1
theorem dX7_build_7 : decode cX7_build 7 = .ok (.putfield 24, 3) := dGR_11_c_152.2.2.2.2.2.1
theorem dX7_build_10 : decode cX7_build 10 = .ok (.aload_n 0, 1) := dGR_11_c_152.2.2.2.2.2.2.1
theorem dX7_build_11 : decode cX7_build 11 = .ok (.getfield 18, 3) := dGR_11_c_152.2.2.2.2.2.2.2.1
theorem dX7_build_14 : decode cX7_build 14 = .ok (.iconst 0, 1) := dGR_11_c_152.2.2.2.2.2.2.2.2.1
theorem dX7_build_15 : decode cX7_build 15 = .ok (.invokestatic 32, 3) := dGR_11_c_152.2.2.2.2.2.2.2.2.2.1
theorem dX7_build_18 : decode cX7_build 18 = .ok (.aload_n 0, 1) := dGR_11_c_152.2.2.2.2.2.2.2.2.2.2.1
theorem dX7_build_19 : decode cX7_build 19 = .ok (.aload_n 2, 1) := dGR_11_c_152.2.2.2.2.2.2.2.2.2.2.2
set_option maxRecDepth 100000 in
theorem dGR_11_c_153 : (decode cX7_build 20 = .ok (.getfield 38, 3)) ∧ (decode cX7_build 23 = .ok (.aload_n 2, 1)) ∧ (decode cX7_build 24 = .ok (.getfield 43, 3)) ∧ (decode cX7_build 27 = .ok (.invokestatic 45, 3)) ∧ (decode cX7_build 30 = .ok (.invokevirtual 51, 3)) ∧ (decode cX7_build 33 = .ok (.iconst 0, 1)) ∧ (decode cX7_build 34 = .ok (.istore_n 3, 1)) ∧ (decode cX7_build 35 = .ok (.iload_n 3, 1)) ∧ (decode cX7_build 36 = .ok (.bipush 40, 2)) ∧ (decode cX7_build 38 = .ok (.if_icmp .ge 68, 3)) ∧ (decode cX7_build 41 = .ok (.iload_n 3, 1)) ∧ (decode cX7_build 42 = .ok (.aload_n 0, 1)) := by decide +kernel
theorem dX7_build_20 : decode cX7_build 20 = .ok (.getfield 38, 3) := dGR_11_c_153.1
theorem dX7_build_23 : decode cX7_build 23 = .ok (.aload_n 2, 1) := dGR_11_c_153.2.1
theorem dX7_build_24 : decode cX7_build 24 = .ok (.getfield 43, 3) := dGR_11_c_153.2.2.1
theorem dX7_build_27 : decode cX7_build 27 = .ok (.invokestatic 45, 3) := dGR_11_c_153.2.2.2.1
theorem dX7_build_30 : decode cX7_build 30 = .ok (.invokevirtual 51, 3) := dGR_11_c_153.2.2.2.2.1
theorem dX7_build_33 : decode cX7_build 33 = .ok (.iconst 0, 1) := dGR_11_c_153.2.2.2.2.2.1
theorem dX7_build_34 : decode cX7_build 34 = .ok (.istore_n 3, 1) := dGR_11_c_153.2.2.2.2.2.2.1
theorem dX7_build_35 : decode cX7_build 35 = .ok (.iload_n 3, 1) := dGR_11_c_153.2.2.2.2.2.2.2.1
theorem dX7_build_36 : decode cX7_build 36 = .ok (.bipush 40, 2) := dGR_11_c_153.2.2.2.2.2.2.2.2.1
theorem dX7_build_38 : decode cX7_build 38 = .ok (.if_icmp .ge 68, 3) := dGR_11_c_153.2.2.2.2.2.2.2.2.2.1
theorem dX7_build_41 : decode cX7_build 41 = .ok (.iload_n 3, 1) := dGR_11_c_153.2.2.2.2.2.2.2.2.2.2.1
theorem dX7_build_42 : decode cX7_build 42 = .ok (.aload_n 0, 1) := dGR_11_c_153.2.2.2.2.2.2.2.2.2.2.2
set_option maxRecDepth 100000 in
theorem dGR_11_c_154 : (decode cX7_build 43 = .ok (.getfield 24, 3)) ∧ (decode cX7_build 46 = .ok (.if_icmp .ge 60, 3)) ∧ (decode cX7_build 49 = .ok (.aload_n 0, 1)) ∧ (decode cX7_build 50 = .ok (.invokevirtual 55, 3)) ∧ (decode cX7_build 53 = .ok (.ifCond .eq 53, 3)) ∧ (decode cX7_build 56 = .ok (.aload_n 0, 1)) ∧ (decode cX7_build 57 = .ok (.aload_n 1, 1)) ∧ (decode cX7_build 58 = .ok (.aload_n 2, 1)) ∧ (decode cX7_build 59 = .ok (.iload_n 3, 1)) ∧ (decode cX7_build 60 = .ok (.invokevirtual 59, 3)) ∧ (decode cX7_build 63 = .ok (.aload_n 0, 1)) ∧ (decode cX7_build 64 = .ok (.aload_n 1, 1)) := by decide +kernel
theorem dX7_build_43 : decode cX7_build 43 = .ok (.getfield 24, 3) := dGR_11_c_154.1
theorem dX7_build_46 : decode cX7_build 46 = .ok (.if_icmp .ge 60, 3) := dGR_11_c_154.2.1
theorem dX7_build_49 : decode cX7_build 49 = .ok (.aload_n 0, 1) := dGR_11_c_154.2.2.1
theorem dX7_build_50 : decode cX7_build 50 = .ok (.invokevirtual 55, 3) := dGR_11_c_154.2.2.2.1
theorem dX7_build_53 : decode cX7_build 53 = .ok (.ifCond .eq 53, 3) := dGR_11_c_154.2.2.2.2.1
theorem dX7_build_56 : decode cX7_build 56 = .ok (.aload_n 0, 1) := dGR_11_c_154.2.2.2.2.2.1
theorem dX7_build_57 : decode cX7_build 57 = .ok (.aload_n 1, 1) := dGR_11_c_154.2.2.2.2.2.2.1
theorem dX7_build_58 : decode cX7_build 58 = .ok (.aload_n 2, 1) := dGR_11_c_154.2.2.2.2.2.2.2.1
theorem dX7_build_59 : decode cX7_build 59 = .ok (.iload_n 3, 1) := dGR_11_c_154.2.2.2.2.2.2.2.2.1
theorem dX7_build_60 : decode cX7_build 60 = .ok (.invokevirtual 59, 3) := dGR_11_c_154.2.2.2.2.2.2.2.2.2.1
theorem dX7_build_63 : decode cX7_build 63 = .ok (.aload_n 0, 1) := dGR_11_c_154.2.2.2.2.2.2.2.2.2.2.1
theorem dX7_build_64 : decode cX7_build 64 = .ok (.aload_n 1, 1) := dGR_11_c_154.2.2.2.2.2.2.2.2.2.2.2
set_option maxRecDepth 100000 in
theorem dGR_11_c_155 : (decode cX7_build 65 = .ok (.aload_n 2, 1)) ∧ (decode cX7_build 66 = .ok (.iload_n 3, 1)) ∧ (decode cX7_build 67 = .ok (.invokevirtual 63, 3)) ∧ (decode cX7_build 70 = .ok (.iconst 0, 1)) ∧ (decode cX7_build 71 = .ok (.istore 4, 2)) ∧ (decode cX7_build 73 = .ok (.iload 4, 2)) ∧ (decode cX7_build 75 = .ok (.iload_n 3, 1)) ∧ (decode cX7_build 76 = .ok (.if_icmp .gt 24, 3)) ∧ (decode cX7_build 79 = .ok (.aload_n 0, 1)) ∧ (decode cX7_build 80 = .ok (.invokevirtual 55, 3)) ∧ (decode cX7_build 83 = .ok (.ifCond .eq 17, 3)) ∧ (decode cX7_build 86 = .ok (.aload_n 0, 1)) := by decide +kernel
theorem dX7_build_65 : decode cX7_build 65 = .ok (.aload_n 2, 1) := dGR_11_c_155.1
theorem dX7_build_66 : decode cX7_build 66 = .ok (.iload_n 3, 1) := dGR_11_c_155.2.1
theorem dX7_build_67 : decode cX7_build 67 = .ok (.invokevirtual 63, 3) := dGR_11_c_155.2.2.1
theorem dX7_build_70 : decode cX7_build 70 = .ok (.iconst 0, 1) := dGR_11_c_155.2.2.2.1
theorem dX7_build_71 : decode cX7_build 71 = .ok (.istore 4, 2) := dGR_11_c_155.2.2.2.2.1
theorem dX7_build_73 : decode cX7_build 73 = .ok (.iload 4, 2) := dGR_11_c_155.2.2.2.2.2.1
theorem dX7_build_75 : decode cX7_build 75 = .ok (.iload_n 3, 1) := dGR_11_c_155.2.2.2.2.2.2.1
theorem dX7_build_76 : decode cX7_build 76 = .ok (.if_icmp .gt 24, 3) := dGR_11_c_155.2.2.2.2.2.2.2.1
theorem dX7_build_79 : decode cX7_build 79 = .ok (.aload_n 0, 1) := dGR_11_c_155.2.2.2.2.2.2.2.2.1
theorem dX7_build_80 : decode cX7_build 80 = .ok (.invokevirtual 55, 3) := dGR_11_c_155.2.2.2.2.2.2.2.2.2.1
theorem dX7_build_83 : decode cX7_build 83 = .ok (.ifCond .eq 17, 3) := dGR_11_c_155.2.2.2.2.2.2.2.2.2.2.1
theorem dX7_build_86 : decode cX7_build 86 = .ok (.aload_n 0, 1) := dGR_11_c_155.2.2.2.2.2.2.2.2.2.2.2
set_option maxRecDepth 100000 in
theorem dGR_11_c_156 : (decode cX7_build 87 = .ok (.aload_n 1, 1)) ∧ (decode cX7_build 88 = .ok (.iload_n 3, 1)) ∧ (decode cX7_build 89 = .ok (.iload 4, 2)) ∧ (decode cX7_build 91 = .ok (.invokevirtual 66, 3)) ∧ (decode cX7_build 94 = .ok (.iinc 4 1, 3)) ∧ (decode cX7_build 97 = .ok (.goto (-24), 3)) ∧ (decode cX7_build 100 = .ok (.iinc 3 1, 3)) ∧ (decode cX7_build 103 = .ok (.goto (-68), 3)) ∧ (decode cX7_build 106 = .ok (.return_, 1)) := by decide +kernel
theorem dX7_build_87 : decode cX7_build 87 = .ok (.aload_n 1, 1) := dGR_11_c_156.1
theorem dX7_build_88 : decode cX7_build 88 = .ok (.iload_n 3, 1) := dGR_11_c_156.2.1
theorem dX7_build_89 : decode cX7_build 89 = .ok (.iload 4, 2) := dGR_11_c_156.2.2.1
theorem dX7_build_91 : decode cX7_build 91 = .ok (.invokevirtual 66, 3) := dGR_11_c_156.2.2.2.1
theorem dX7_build_94 : decode cX7_build 94 = .ok (.iinc 4 1, 3) := dGR_11_c_156.2.2.2.2.1
theorem dX7_build_97 : decode cX7_build 97 = .ok (.goto (-24), 3) := dGR_11_c_156.2.2.2.2.2.1
theorem dX7_build_100 : decode cX7_build 100 = .ok (.iinc 3 1, 3) := dGR_11_c_156.2.2.2.2.2.2.1
theorem dX7_build_103 : decode cX7_build 103 = .ok (.goto (-68), 3) := dGR_11_c_156.2.2.2.2.2.2.2.1
theorem dX7_build_106 : decode cX7_build 106 = .ok (.return_, 1) := dGR_11_c_156.2.2.2.2.2.2.2.2
set_option maxRecDepth 100000 in
theorem dGR_11_c_157 : (decode cX8_placeOf 0 = .ok (.iload_n 0, 1)) ∧ (decode cX8_placeOf 1 = .ok (.bipush 7, 2)) ∧ (decode cX8_placeOf 3 = .ok (.imul, 1)) ∧ (decode cX8_placeOf 4 = .ok (.iload_n 1, 1)) ∧ (decode cX8_placeOf 5 = .ok (.iadd, 1)) ∧ (decode cX8_placeOf 6 = .ok (.bipush 8, 2)) ∧ (decode cX8_placeOf 8 = .ok (.imul, 1)) ∧ (decode cX8_placeOf 9 = .ok (.iload_n 2, 1)) ∧ (decode cX8_placeOf 10 = .ok (.iadd, 1)) ∧ (decode cX8_placeOf 11 = .ok (.ireturn, 1)) := by decide +kernel
theorem dX8_placeOf_0 : decode cX8_placeOf 0 = .ok (.iload_n 0, 1) := dGR_11_c_157.1
theorem dX8_placeOf_1 : decode cX8_placeOf 1 = .ok (.bipush 7, 2) := dGR_11_c_157.2.1
theorem dX8_placeOf_3 : decode cX8_placeOf 3 = .ok (.imul, 1) := dGR_11_c_157.2.2.1
theorem dX8_placeOf_4 : decode cX8_placeOf 4 = .ok (.iload_n 1, 1) := dGR_11_c_157.2.2.2.1
theorem dX8_placeOf_5 : decode cX8_placeOf 5 = .ok (.iadd, 1) := dGR_11_c_157.2.2.2.2.1
theorem dX8_placeOf_6 : decode cX8_placeOf 6 = .ok (.bipush 8, 2) := dGR_11_c_157.2.2.2.2.2.1
theorem dX8_placeOf_8 : decode cX8_placeOf 8 = .ok (.imul, 1) := dGR_11_c_157.2.2.2.2.2.2.1
theorem dX8_placeOf_9 : decode cX8_placeOf 9 = .ok (.iload_n 2, 1) := dGR_11_c_157.2.2.2.2.2.2.2.1
theorem dX8_placeOf_10 : decode cX8_placeOf 10 = .ok (.iadd, 1) := dGR_11_c_157.2.2.2.2.2.2.2.2.1
theorem dX8_placeOf_11 : decode cX8_placeOf 11 = .ok (.ireturn, 1) := dGR_11_c_157.2.2.2.2.2.2.2.2.2
set_option maxHeartbeats 4000000 in
set_option maxRecDepth 100000 in
theorem c_X8_placeOf (G : KG) (l : Launch) (M : Mem) (a0 : Int) (a1 : Int) (a2 : Int) (hI_M : Inv false M) (hpre : -2147483648 ≤ a0 ∧ a0 ≤ 2147483647 ∧ -2147483648 ≤ a1 ∧ a1 ≤ 2147483647 ∧ -2147483648 ≤ a2 ∧ a2 ≤ 2147483647 ∧ 0 ≤ a0 ∧ a0 ≤ 1 ∧ 0 ≤ a1 ∧ a1 ≤ 6 ∧ 0 ≤ a2 ∧ a2 ≤ 7) : KC false G l yX8_placeOf cX8_placeOf 3 (some .int) (0, 0) [vI a0, vI a1, vI a2] M (fun A => kQi false G A (fun (r : Int) (N : Mem) => M = N ∧ (r = 56 * a0 + 8 * a1 + a2))) := by
  refine kx_met (lo := [some (vI a0), some (vI a1), some (vI a2)]) (by decide) (Nat.le_of_ble_eq_true rfl) rfl ?_
  intro X F hQ
  refine kx_iload_n 1 F 0 dX8_placeOf_0 rfl rfl rfl ?_
  refine kx_bipush 3 F dX8_placeOf_1 (by decide) rfl ?_
  refine kx_imul 4 F (v := 7 * a0) dX8_placeOf_3 (by omega) rfl ?_
  refine kx_iload_n 5 F 1 dX8_placeOf_4 rfl rfl rfl ?_
  refine kx_iadd 6 F (v := 7 * a0 + a1) dX8_placeOf_5 rfl rfl ?_
  refine kx_bipush 8 F dX8_placeOf_6 (by decide) rfl ?_
  refine kx_imul 9 F (v := 56 * a0 + 8 * a1) dX8_placeOf_8 (by omega) rfl ?_
  refine kx_iload_n 10 F 2 dX8_placeOf_9 rfl rfl rfl ?_
  refine kx_iadd 11 F (v := 56 * a0 + 8 * a1 + a2) dX8_placeOf_10 rfl rfl ?_
  exact kx_iret F hQ ⟨rfl, (by omega)⟩ dX8_placeOf_11
set_option maxRecDepth 100000 in
theorem dGR_11_c_158 : (decode cX8_codeOf 0 = .ok (.iload_n 1, 1)) ∧ (decode cX8_codeOf 1 = .ok (.aload_n 0, 1)) ∧ (decode cX8_codeOf 2 = .ok (.getfield 50, 3)) ∧ (decode cX8_codeOf 5 = .ok (.iload_n 2, 1)) ∧ (decode cX8_codeOf 6 = .ok (.invokestatic 132, 3)) ∧ (decode cX8_codeOf 9 = .ok (.imul, 1)) ∧ (decode cX8_codeOf 10 = .ok (.iload_n 3, 1)) ∧ (decode cX8_codeOf 11 = .ok (.iadd, 1)) ∧ (decode cX8_codeOf 12 = .ok (.ireturn, 1)) := by decide +kernel
theorem dX8_codeOf_0 : decode cX8_codeOf 0 = .ok (.iload_n 1, 1) := dGR_11_c_158.1
theorem dX8_codeOf_1 : decode cX8_codeOf 1 = .ok (.aload_n 0, 1) := dGR_11_c_158.2.1
theorem dX8_codeOf_2 : decode cX8_codeOf 2 = .ok (.getfield 50, 3) := dGR_11_c_158.2.2.1
theorem dX8_codeOf_5 : decode cX8_codeOf 5 = .ok (.iload_n 2, 1) := dGR_11_c_158.2.2.2.1
theorem dX8_codeOf_6 : decode cX8_codeOf 6 = .ok (.invokestatic 132, 3) := dGR_11_c_158.2.2.2.2.1
theorem dX8_codeOf_9 : decode cX8_codeOf 9 = .ok (.imul, 1) := dGR_11_c_158.2.2.2.2.2.1
theorem dX8_codeOf_10 : decode cX8_codeOf 10 = .ok (.iload_n 3, 1) := dGR_11_c_158.2.2.2.2.2.2.1
theorem dX8_codeOf_11 : decode cX8_codeOf 11 = .ok (.iadd, 1) := dGR_11_c_158.2.2.2.2.2.2.2.1
theorem dX8_codeOf_12 : decode cX8_codeOf 12 = .ok (.ireturn, 1) := dGR_11_c_158.2.2.2.2.2.2.2.2
set_option maxHeartbeats 4000000 in
set_option maxRecDepth 100000 in
theorem c_X8_codeOf (G : KG) (l : Launch) (M : Mem) (c0 : Int) (a1 : Int) (a2 : Int) (a3 : Int) (hI_M : Inv false M) (hk_c0 : kd c0 = 47) (hpre : -2147483648 ≤ a1 ∧ a1 ≤ 2147483647 ∧ -2147483648 ≤ a2 ∧ a2 ≤ 2147483647 ∧ -2147483648 ≤ a3 ∧ a3 ≤ 2147483647) : KC false G l yX8_codeOf cX8_codeOf 4 (some .int) (1, 23) [vR G c0, vI a1, vI a2, vI a3] M (fun A => kQi false G A (fun (r : Int) (N : Mem) => M = N ∧ (r ≥ -2147483648 ∧ r ≤ 2147483647))) := by
  refine kx_met (lo := [some (vR G c0), some (vI a1), some (vI a2), some (vI a3)]) (by decide) (Nat.le_of_ble_eq_true rfl) rfl ?_
  intro X F hQ
  refine kx_iload_n 1 F 1 dX8_codeOf_0 rfl rfl rfl ?_
  refine kx_aload_n 2 F 0 dX8_codeOf_1 rfl rfl rfl ?_
  refine kx_geti 5 F fl_X8_50 hk_c0 rfl rfl (j := 2) rfl dX8_codeOf_2 (v := (M c0 2)) rfl rfl ?_
  have h_1 := Inv.g hI_M hk_c0 rfl 2 (a := 0) (b := 6) rfl rfl
  refine kx_iload_n 6 F 2 dX8_codeOf_5 rfl rfl rfl ?_
  refine kx_Si 9 F (As := [vI (M c0 2), vI a2]) (st := [vI a1]) sd_X8_132 (c_X2_power G l M (M c0 2) a2 hI_M (by omega)) ⟨by decide, by decide⟩ rfl rfl (Nat.le_of_ble_eq_true rfl) dX8_codeOf_6 rfl ?_
  intro r_2 N_3 q_4
  obtain ⟨rfl, q_4c⟩ := q_4
  refine kx_imul 10 F (v := (a1 * r_2)) dX8_codeOf_9 rfl rfl ?_
  refine kx_wrapi (fun w_5 h_6 _ => ?_)
  refine kx_iload_n 11 F 3 dX8_codeOf_10 rfl rfl rfl ?_
  refine kx_iadd 12 F (v := w_5 + a3) dX8_codeOf_11 rfl rfl ?_
  refine kx_wrapi (fun w_7 h_8 _ => ?_)
  exact kx_iret F hQ ⟨rfl, (by omega)⟩ dX8_codeOf_12
set_option maxRecDepth 100000 in
theorem dGR_11_c_159 : (decode cX8_addInside 0 = .ok (.aload_n 0, 1)) ∧ (decode cX8_addInside 1 = .ok (.getfield 87, 3)) ∧ (decode cX8_addInside 4 = .ok (.sipush 187, 3)) ∧ (decode cX8_addInside 7 = .ok (.if_icmp .ge 33, 3)) ∧ (decode cX8_addInside 10 = .ok (.aload_n 0, 1)) ∧ (decode cX8_addInside 11 = .ok (.getfield 11, 3)) ∧ (decode cX8_addInside 14 = .ok (.aload_n 0, 1)) ∧ (decode cX8_addInside 15 = .ok (.getfield 87, 3)) ∧ (decode cX8_addInside 18 = .ok (.iload_n 1, 1)) ∧ (decode cX8_addInside 19 = .ok (.iastore, 1)) ∧ (decode cX8_addInside 20 = .ok (.aload_n 0, 1)) ∧ (decode cX8_addInside 21 = .ok (.getfield 15, 3)) := by decide +kernel
theorem dX8_addInside_0 : decode cX8_addInside 0 = .ok (.aload_n 0, 1) := dGR_11_c_159.1
theorem dX8_addInside_1 : decode cX8_addInside 1 = .ok (.getfield 87, 3) := dGR_11_c_159.2.1
theorem dX8_addInside_4 : decode cX8_addInside 4 = .ok (.sipush 187, 3) := dGR_11_c_159.2.2.1
theorem dX8_addInside_7 : decode cX8_addInside 7 = .ok (.if_icmp .ge 33, 3) := dGR_11_c_159.2.2.2.1
theorem dX8_addInside_10 : decode cX8_addInside 10 = .ok (.aload_n 0, 1) := dGR_11_c_159.2.2.2.2.1
theorem dX8_addInside_11 : decode cX8_addInside 11 = .ok (.getfield 11, 3) := dGR_11_c_159.2.2.2.2.2.1
theorem dX8_addInside_14 : decode cX8_addInside 14 = .ok (.aload_n 0, 1) := dGR_11_c_159.2.2.2.2.2.2.1
theorem dX8_addInside_15 : decode cX8_addInside 15 = .ok (.getfield 87, 3) := dGR_11_c_159.2.2.2.2.2.2.2.1
theorem dX8_addInside_18 : decode cX8_addInside 18 = .ok (.iload_n 1, 1) := dGR_11_c_159.2.2.2.2.2.2.2.2.1
theorem dX8_addInside_19 : decode cX8_addInside 19 = .ok (.iastore, 1) := dGR_11_c_159.2.2.2.2.2.2.2.2.2.1
theorem dX8_addInside_20 : decode cX8_addInside 20 = .ok (.aload_n 0, 1) := dGR_11_c_159.2.2.2.2.2.2.2.2.2.2.1
theorem dX8_addInside_21 : decode cX8_addInside 21 = .ok (.getfield 15, 3) := dGR_11_c_159.2.2.2.2.2.2.2.2.2.2.2
set_option maxRecDepth 100000 in
theorem dGR_11_c_160 : (decode cX8_addInside 24 = .ok (.aload_n 0, 1)) ∧ (decode cX8_addInside 25 = .ok (.getfield 87, 3)) ∧ (decode cX8_addInside 28 = .ok (.iload_n 2, 1)) ∧ (decode cX8_addInside 29 = .ok (.iastore, 1)) ∧ (decode cX8_addInside 30 = .ok (.aload_n 0, 1)) ∧ (decode cX8_addInside 31 = .ok (.dup, 1)) ∧ (decode cX8_addInside 32 = .ok (.getfield 87, 3)) ∧ (decode cX8_addInside 35 = .ok (.iconst 1, 1)) ∧ (decode cX8_addInside 36 = .ok (.iadd, 1)) ∧ (decode cX8_addInside 37 = .ok (.putfield 87, 3)) ∧ (decode cX8_addInside 40 = .ok (.return_, 1)) := by decide +kernel
theorem dX8_addInside_24 : decode cX8_addInside 24 = .ok (.aload_n 0, 1) := dGR_11_c_160.1
theorem dX8_addInside_25 : decode cX8_addInside 25 = .ok (.getfield 87, 3) := dGR_11_c_160.2.1
theorem dX8_addInside_28 : decode cX8_addInside 28 = .ok (.iload_n 2, 1) := dGR_11_c_160.2.2.1
theorem dX8_addInside_29 : decode cX8_addInside 29 = .ok (.iastore, 1) := dGR_11_c_160.2.2.2.1
theorem dX8_addInside_30 : decode cX8_addInside 30 = .ok (.aload_n 0, 1) := dGR_11_c_160.2.2.2.2.1
theorem dX8_addInside_31 : decode cX8_addInside 31 = .ok (.dup, 1) := dGR_11_c_160.2.2.2.2.2.1
theorem dX8_addInside_32 : decode cX8_addInside 32 = .ok (.getfield 87, 3) := dGR_11_c_160.2.2.2.2.2.2.1
theorem dX8_addInside_35 : decode cX8_addInside 35 = .ok (.iconst 1, 1) := dGR_11_c_160.2.2.2.2.2.2.2.1
theorem dX8_addInside_36 : decode cX8_addInside 36 = .ok (.iadd, 1) := dGR_11_c_160.2.2.2.2.2.2.2.2.1
theorem dX8_addInside_37 : decode cX8_addInside 37 = .ok (.putfield 87, 3) := dGR_11_c_160.2.2.2.2.2.2.2.2.2.1
theorem dX8_addInside_40 : decode cX8_addInside 40 = .ok (.return_, 1) := dGR_11_c_160.2.2.2.2.2.2.2.2.2.2
abbrev f_c_X8_addInside : List (Nat × Int) := [(47, 3), (48, -1), (49, -1)]
set_option maxHeartbeats 4000000 in
set_option maxRecDepth 100000 in
theorem c_X8_addInside (G : KG) (l : Launch) (M : Mem) (c0 : Int) (a1 : Int) (a2 : Int) (hI_M : Inv false M) (hk_c0 : kd c0 = 47) (hpre : -2147483648 ≤ a1 ∧ a1 ≤ 2147483647 ∧ -2147483648 ≤ a2 ∧ a2 ≤ 2147483647 ∧ 0 ≤ a1 ∧ a1 ≤ 511) : KC false G l yX8_addInside cX8_addInside 3 none (0, 0) [vR G c0, vI a1, vI a2] M (fun A => kQv false G A (fun (N : Mem) => Inv false N ∧ Fr f_c_X8_addInside M N)) := by
  refine kx_met (lo := [some (vR G c0), some (vI a1), some (vI a2)]) (by decide) (Nat.le_of_ble_eq_true rfl) rfl ?_
  intro X F hQ
  have hF_M : Fr f_c_X8_addInside M M := Fr.rf _ _
  refine kx_aload_n 1 F 0 dX8_addInside_0 rfl rfl rfl ?_
  refine kx_geti 4 F fl_X8_87 hk_c0 rfl rfl (j := 3) rfl dX8_addInside_1 (v := (M c0 3)) rfl rfl ?_
  have h_1 := Inv.g hI_M hk_c0 rfl 3 (a := 0) (b := 187) rfl rfl
  refine kx_sipush 7 F dX8_addInside_4 (by decide) rfl ?_
  refine kx_icmp_ge 10 F 40 dX8_addInside_7 (by decide) rfl (by omega) (by decide) (fun h_2 => ?_) (fun h_2 => ?_)
  · exact kx_vret F hQ ⟨hI_M, hF_M⟩ dX8_addInside_40
  · refine kx_aload_n 11 F 0 dX8_addInside_10 rfl rfl rfl ?_
    refine kx_getr 14 F fl_X8_11 hk_c0 rfl rfl (j := 4) rfl dX8_addInside_11 (v := (M c0 4)) rfl rfl ?_
    have hk_3 : kd (M c0 4) = 48 := Inv.r hI_M hk_c0 rfl 4 rfl rfl
    refine kx_aload_n 15 F 0 dX8_addInside_14 rfl rfl rfl ?_
    refine kx_geti 18 F fl_X8_87 hk_c0 rfl rfl (j := 3) rfl dX8_addInside_15 (v := (M c0 3)) rfl rfl ?_
    refine kx_iload_n 19 F 1 dX8_addInside_18 rfl rfl rfl ?_
    refine kx_iast 20 F hk_3 rfl rfl (by omega) (by decide) dX8_addInside_19 rfl ?_
    intro N_4 hM_N_4
    have hI_N_4 : Inv false N_4 := Inv.u hI_M hM_N_4 hk_3 (a := 0) (b := 511) rfl rfl rfl (by omega)
    have hF_N_4 : Fr f_c_X8_addInside M N_4 := Fr.u hF_M hM_N_4 hk_3 rfl
    refine kx_aload_n 21 F 0 dX8_addInside_20 rfl rfl rfl ?_
    refine kx_getr 24 F fl_X8_15 hk_c0 rfl rfl (j := 5) rfl dX8_addInside_21 (v := (M c0 5)) (by rw [hM_N_4, mu_k hk_c0 hk_3 rfl]) rfl ?_
    have hk_5 : kd (M c0 5) = 49 := Inv.r hI_M hk_c0 rfl 5 rfl rfl
    refine kx_aload_n 25 F 0 dX8_addInside_24 rfl rfl rfl ?_
    refine kx_geti 28 F fl_X8_87 hk_c0 rfl rfl (j := 3) rfl dX8_addInside_25 (v := (M c0 3)) (by rw [hM_N_4, mu_k hk_c0 hk_3 rfl]) rfl ?_
    refine kx_iload_n 29 F 2 dX8_addInside_28 rfl rfl rfl ?_
    refine kx_iast 30 F hk_5 rfl rfl (by omega) (by decide) dX8_addInside_29 rfl ?_
    intro N_6 hM_N_6
    have hI_N_6 : Inv false N_6 := Inv.u hI_N_4 hM_N_6 hk_5 (a := (-2147483648)) (b := 2147483647) rfl rfl rfl (by omega)
    have hF_N_6 : Fr f_c_X8_addInside M N_6 := Fr.u hF_N_4 hM_N_6 hk_5 rfl
    refine kx_aload_n 31 F 0 dX8_addInside_30 rfl rfl rfl ?_
    refine kx_dup 32 F dX8_addInside_31 rfl rfl ?_
    refine kx_geti 35 F fl_X8_87 hk_c0 rfl rfl (j := 3) rfl dX8_addInside_32 (v := (M c0 3)) (by rw [hM_N_6, mu_k hk_c0 hk_5 rfl, hM_N_4, mu_k hk_c0 hk_3 rfl]) rfl ?_
    refine kx_iconst 36 F dX8_addInside_35 rfl ?_
    refine kx_iadd 37 F (v := (M c0 3) + 1) dX8_addInside_36 rfl rfl ?_
    refine kx_puti 40 F fw_X8_87 rfl hk_c0 rfl rfl (j := 3) rfl dX8_addInside_37 rfl ?_
    intro N_7 hM_N_7
    have hI_N_7 : Inv false N_7 := Inv.u hI_N_6 hM_N_7 hk_c0 (a := 0) (b := 187) rfl rfl rfl (by omega)
    have hF_N_7 : Fr f_c_X8_addInside M N_7 := Fr.u hF_N_6 hM_N_7 hk_c0 rfl
    exact kx_vret F hQ ⟨hI_N_7, hF_N_7⟩ dX8_addInside_40
set_option maxRecDepth 100000 in
theorem dGR_11_c_161 : (decode cX8_addBlock 0 = .ok (.aload_n 0, 1)) ∧ (decode cX8_addBlock 1 = .ok (.getfield 90, 3)) ∧ (decode cX8_addBlock 4 = .ok (.sipush 750, 3)) ∧ (decode cX8_addBlock 7 = .ok (.if_icmp .ge 33, 3)) ∧ (decode cX8_addBlock 10 = .ok (.aload_n 0, 1)) ∧ (decode cX8_addBlock 11 = .ok (.getfield 21, 3)) ∧ (decode cX8_addBlock 14 = .ok (.aload_n 0, 1)) ∧ (decode cX8_addBlock 15 = .ok (.getfield 90, 3)) ∧ (decode cX8_addBlock 18 = .ok (.iload_n 1, 1)) ∧ (decode cX8_addBlock 19 = .ok (.iastore, 1)) ∧ (decode cX8_addBlock 20 = .ok (.aload_n 0, 1)) ∧ (decode cX8_addBlock 21 = .ok (.getfield 24, 3)) := by decide +kernel
theorem dX8_addBlock_0 : decode cX8_addBlock 0 = .ok (.aload_n 0, 1) := dGR_11_c_161.1
theorem dX8_addBlock_1 : decode cX8_addBlock 1 = .ok (.getfield 90, 3) := dGR_11_c_161.2.1
theorem dX8_addBlock_4 : decode cX8_addBlock 4 = .ok (.sipush 750, 3) := dGR_11_c_161.2.2.1
theorem dX8_addBlock_7 : decode cX8_addBlock 7 = .ok (.if_icmp .ge 33, 3) := dGR_11_c_161.2.2.2.1
theorem dX8_addBlock_10 : decode cX8_addBlock 10 = .ok (.aload_n 0, 1) := dGR_11_c_161.2.2.2.2.1
theorem dX8_addBlock_11 : decode cX8_addBlock 11 = .ok (.getfield 21, 3) := dGR_11_c_161.2.2.2.2.2.1
theorem dX8_addBlock_14 : decode cX8_addBlock 14 = .ok (.aload_n 0, 1) := dGR_11_c_161.2.2.2.2.2.2.1
theorem dX8_addBlock_15 : decode cX8_addBlock 15 = .ok (.getfield 90, 3) := dGR_11_c_161.2.2.2.2.2.2.2.1
theorem dX8_addBlock_18 : decode cX8_addBlock 18 = .ok (.iload_n 1, 1) := dGR_11_c_161.2.2.2.2.2.2.2.2.1
theorem dX8_addBlock_19 : decode cX8_addBlock 19 = .ok (.iastore, 1) := dGR_11_c_161.2.2.2.2.2.2.2.2.2.1
theorem dX8_addBlock_20 : decode cX8_addBlock 20 = .ok (.aload_n 0, 1) := dGR_11_c_161.2.2.2.2.2.2.2.2.2.2.1
theorem dX8_addBlock_21 : decode cX8_addBlock 21 = .ok (.getfield 24, 3) := dGR_11_c_161.2.2.2.2.2.2.2.2.2.2.2
set_option maxRecDepth 100000 in
theorem dGR_11_c_162 : (decode cX8_addBlock 24 = .ok (.aload_n 0, 1)) ∧ (decode cX8_addBlock 25 = .ok (.getfield 90, 3)) ∧ (decode cX8_addBlock 28 = .ok (.iload_n 2, 1)) ∧ (decode cX8_addBlock 29 = .ok (.iastore, 1)) ∧ (decode cX8_addBlock 30 = .ok (.aload_n 0, 1)) ∧ (decode cX8_addBlock 31 = .ok (.dup, 1)) ∧ (decode cX8_addBlock 32 = .ok (.getfield 90, 3)) ∧ (decode cX8_addBlock 35 = .ok (.iconst 1, 1)) ∧ (decode cX8_addBlock 36 = .ok (.iadd, 1)) ∧ (decode cX8_addBlock 37 = .ok (.putfield 90, 3)) ∧ (decode cX8_addBlock 40 = .ok (.return_, 1)) := by decide +kernel
theorem dX8_addBlock_24 : decode cX8_addBlock 24 = .ok (.aload_n 0, 1) := dGR_11_c_162.1
theorem dX8_addBlock_25 : decode cX8_addBlock 25 = .ok (.getfield 90, 3) := dGR_11_c_162.2.1
theorem dX8_addBlock_28 : decode cX8_addBlock 28 = .ok (.iload_n 2, 1) := dGR_11_c_162.2.2.1
theorem dX8_addBlock_29 : decode cX8_addBlock 29 = .ok (.iastore, 1) := dGR_11_c_162.2.2.2.1
theorem dX8_addBlock_30 : decode cX8_addBlock 30 = .ok (.aload_n 0, 1) := dGR_11_c_162.2.2.2.2.1
theorem dX8_addBlock_31 : decode cX8_addBlock 31 = .ok (.dup, 1) := dGR_11_c_162.2.2.2.2.2.1
theorem dX8_addBlock_32 : decode cX8_addBlock 32 = .ok (.getfield 90, 3) := dGR_11_c_162.2.2.2.2.2.2.1
theorem dX8_addBlock_35 : decode cX8_addBlock 35 = .ok (.iconst 1, 1) := dGR_11_c_162.2.2.2.2.2.2.2.1
theorem dX8_addBlock_36 : decode cX8_addBlock 36 = .ok (.iadd, 1) := dGR_11_c_162.2.2.2.2.2.2.2.2.1
theorem dX8_addBlock_37 : decode cX8_addBlock 37 = .ok (.putfield 90, 3) := dGR_11_c_162.2.2.2.2.2.2.2.2.2.1
theorem dX8_addBlock_40 : decode cX8_addBlock 40 = .ok (.return_, 1) := dGR_11_c_162.2.2.2.2.2.2.2.2.2.2
abbrev f_c_X8_addBlock : List (Nat × Int) := [(47, 7), (51, -1), (52, -1)]
set_option maxHeartbeats 4000000 in
set_option maxRecDepth 100000 in
theorem c_X8_addBlock (G : KG) (l : Launch) (M : Mem) (c0 : Int) (a1 : Int) (a2 : Int) (hI_M : Inv false M) (hk_c0 : kd c0 = 47) (hpre : -2147483648 ≤ a1 ∧ a1 ≤ 2147483647 ∧ -2147483648 ≤ a2 ∧ a2 ≤ 2147483647 ∧ 0 ≤ a1 ∧ a1 ≤ 511) : KC false G l yX8_addBlock cX8_addBlock 3 none (0, 0) [vR G c0, vI a1, vI a2] M (fun A => kQv false G A (fun (N : Mem) => Inv false N ∧ Fr f_c_X8_addBlock M N)) := by
  refine kx_met (lo := [some (vR G c0), some (vI a1), some (vI a2)]) (by decide) (Nat.le_of_ble_eq_true rfl) rfl ?_
  intro X F hQ
  have hF_M : Fr f_c_X8_addBlock M M := Fr.rf _ _
  refine kx_aload_n 1 F 0 dX8_addBlock_0 rfl rfl rfl ?_
  refine kx_geti 4 F fl_X8_90 hk_c0 rfl rfl (j := 7) rfl dX8_addBlock_1 (v := (M c0 7)) rfl rfl ?_
  have h_1 := Inv.g hI_M hk_c0 rfl 7 (a := 0) (b := 750) rfl rfl
  refine kx_sipush 7 F dX8_addBlock_4 (by decide) rfl ?_
  refine kx_icmp_ge 10 F 40 dX8_addBlock_7 (by decide) rfl (by omega) (by decide) (fun h_2 => ?_) (fun h_2 => ?_)
  · exact kx_vret F hQ ⟨hI_M, hF_M⟩ dX8_addBlock_40
  · refine kx_aload_n 11 F 0 dX8_addBlock_10 rfl rfl rfl ?_
    refine kx_getr 14 F fl_X8_21 hk_c0 rfl rfl (j := 8) rfl dX8_addBlock_11 (v := (M c0 8)) rfl rfl ?_
    have hk_3 : kd (M c0 8) = 51 := Inv.r hI_M hk_c0 rfl 8 rfl rfl
    refine kx_aload_n 15 F 0 dX8_addBlock_14 rfl rfl rfl ?_
    refine kx_geti 18 F fl_X8_90 hk_c0 rfl rfl (j := 7) rfl dX8_addBlock_15 (v := (M c0 7)) rfl rfl ?_
    refine kx_iload_n 19 F 1 dX8_addBlock_18 rfl rfl rfl ?_
    refine kx_iast 20 F hk_3 rfl rfl (by omega) (by decide) dX8_addBlock_19 rfl ?_
    intro N_4 hM_N_4
    have hI_N_4 : Inv false N_4 := Inv.u hI_M hM_N_4 hk_3 (a := 0) (b := 511) rfl rfl rfl (by omega)
    have hF_N_4 : Fr f_c_X8_addBlock M N_4 := Fr.u hF_M hM_N_4 hk_3 rfl
    refine kx_aload_n 21 F 0 dX8_addBlock_20 rfl rfl rfl ?_
    refine kx_getr 24 F fl_X8_24 hk_c0 rfl rfl (j := 9) rfl dX8_addBlock_21 (v := (M c0 9)) (by rw [hM_N_4, mu_k hk_c0 hk_3 rfl]) rfl ?_
    have hk_5 : kd (M c0 9) = 52 := Inv.r hI_M hk_c0 rfl 9 rfl rfl
    refine kx_aload_n 25 F 0 dX8_addBlock_24 rfl rfl rfl ?_
    refine kx_geti 28 F fl_X8_90 hk_c0 rfl rfl (j := 7) rfl dX8_addBlock_25 (v := (M c0 7)) (by rw [hM_N_4, mu_k hk_c0 hk_3 rfl]) rfl ?_
    refine kx_iload_n 29 F 2 dX8_addBlock_28 rfl rfl rfl ?_
    refine kx_iast 30 F hk_5 rfl rfl (by omega) (by decide) dX8_addBlock_29 rfl ?_
    intro N_6 hM_N_6
    have hI_N_6 : Inv false N_6 := Inv.u hI_N_4 hM_N_6 hk_5 (a := (-2147483648)) (b := 2147483647) rfl rfl rfl (by omega)
    have hF_N_6 : Fr f_c_X8_addBlock M N_6 := Fr.u hF_N_4 hM_N_6 hk_5 rfl
    refine kx_aload_n 31 F 0 dX8_addBlock_30 rfl rfl rfl ?_
    refine kx_dup 32 F dX8_addBlock_31 rfl rfl ?_
    refine kx_geti 35 F fl_X8_90 hk_c0 rfl rfl (j := 7) rfl dX8_addBlock_32 (v := (M c0 7)) (by rw [hM_N_6, mu_k hk_c0 hk_5 rfl, hM_N_4, mu_k hk_c0 hk_3 rfl]) rfl ?_
    refine kx_iconst 36 F dX8_addBlock_35 rfl ?_
    refine kx_iadd 37 F (v := (M c0 7) + 1) dX8_addBlock_36 rfl rfl ?_
    refine kx_puti 40 F fw_X8_90 rfl hk_c0 rfl rfl (j := 7) rfl dX8_addBlock_37 rfl ?_
    intro N_7 hM_N_7
    have hI_N_7 : Inv false N_7 := Inv.u hI_N_6 hM_N_7 hk_c0 (a := 0) (b := 750) rfl rfl rfl (by omega)
    have hF_N_7 : Fr f_c_X8_addBlock M N_7 := Fr.u hF_N_6 hM_N_7 hk_c0 rfl
    exact kx_vret F hQ ⟨hI_N_7, hF_N_7⟩ dX8_addBlock_40
set_option maxRecDepth 100000 in
theorem dGR_11_c_163 : (decode cX8_lead 0 = .ok (.iload_n 1, 1)) ∧ (decode cX8_lead 1 = .ok (.iload_n 2, 1)) ∧ (decode cX8_lead 2 = .ok (.iload_n 3, 1)) ∧ (decode cX8_lead 3 = .ok (.invokestatic 77, 3)) ∧ (decode cX8_lead 6 = .ok (.istore 6, 2)) ∧ (decode cX8_lead 8 = .ok (.aload_n 0, 1)) ∧ (decode cX8_lead 9 = .ok (.getfield 30, 3)) ∧ (decode cX8_lead 12 = .ok (.iload 6, 2)) ∧ (decode cX8_lead 14 = .ok (.dup2, 1)) ∧ (decode cX8_lead 15 = .ok (.iaload, 1)) ∧ (decode cX8_lead 16 = .ok (.iload 4, 2)) ∧ (decode cX8_lead 18 = .ok (.iadd, 1)) := by decide +kernel
theorem dX8_lead_0 : decode cX8_lead 0 = .ok (.iload_n 1, 1) := dGR_11_c_163.1
theorem dX8_lead_1 : decode cX8_lead 1 = .ok (.iload_n 2, 1) := dGR_11_c_163.2.1
theorem dX8_lead_2 : decode cX8_lead 2 = .ok (.iload_n 3, 1) := dGR_11_c_163.2.2.1
theorem dX8_lead_3 : decode cX8_lead 3 = .ok (.invokestatic 77, 3) := dGR_11_c_163.2.2.2.1
theorem dX8_lead_6 : decode cX8_lead 6 = .ok (.istore 6, 2) := dGR_11_c_163.2.2.2.2.1
theorem dX8_lead_8 : decode cX8_lead 8 = .ok (.aload_n 0, 1) := dGR_11_c_163.2.2.2.2.2.1
theorem dX8_lead_9 : decode cX8_lead 9 = .ok (.getfield 30, 3) := dGR_11_c_163.2.2.2.2.2.2.1
theorem dX8_lead_12 : decode cX8_lead 12 = .ok (.iload 6, 2) := dGR_11_c_163.2.2.2.2.2.2.2.1
theorem dX8_lead_14 : decode cX8_lead 14 = .ok (.dup2, 1) := dGR_11_c_163.2.2.2.2.2.2.2.2.1
theorem dX8_lead_15 : decode cX8_lead 15 = .ok (.iaload, 1) := dGR_11_c_163.2.2.2.2.2.2.2.2.2.1
theorem dX8_lead_16 : decode cX8_lead 16 = .ok (.iload 4, 2) := dGR_11_c_163.2.2.2.2.2.2.2.2.2.2.1
theorem dX8_lead_18 : decode cX8_lead 18 = .ok (.iadd, 1) := dGR_11_c_163.2.2.2.2.2.2.2.2.2.2.2
set_option maxRecDepth 100000 in
theorem dGR_11_c_164 : (decode cX8_lead 19 = .ok (.iastore, 1)) ∧ (decode cX8_lead 20 = .ok (.aload_n 0, 1)) ∧ (decode cX8_lead 21 = .ok (.getfield 33, 3)) ∧ (decode cX8_lead 24 = .ok (.iload 6, 2)) ∧ (decode cX8_lead 26 = .ok (.aload_n 0, 1)) ∧ (decode cX8_lead 27 = .ok (.getfield 33, 3)) ∧ (decode cX8_lead 30 = .ok (.iload 6, 2)) ∧ (decode cX8_lead 32 = .ok (.iaload, 1)) ∧ (decode cX8_lead 33 = .ok (.iload 5, 2)) ∧ (decode cX8_lead 35 = .ok (.invokestatic 81, 3)) ∧ (decode cX8_lead 38 = .ok (.iastore, 1)) ∧ (decode cX8_lead 39 = .ok (.return_, 1)) := by decide +kernel
theorem dX8_lead_19 : decode cX8_lead 19 = .ok (.iastore, 1) := dGR_11_c_164.1
theorem dX8_lead_20 : decode cX8_lead 20 = .ok (.aload_n 0, 1) := dGR_11_c_164.2.1
theorem dX8_lead_21 : decode cX8_lead 21 = .ok (.getfield 33, 3) := dGR_11_c_164.2.2.1
theorem dX8_lead_24 : decode cX8_lead 24 = .ok (.iload 6, 2) := dGR_11_c_164.2.2.2.1
theorem dX8_lead_26 : decode cX8_lead 26 = .ok (.aload_n 0, 1) := dGR_11_c_164.2.2.2.2.1
theorem dX8_lead_27 : decode cX8_lead 27 = .ok (.getfield 33, 3) := dGR_11_c_164.2.2.2.2.2.1
theorem dX8_lead_30 : decode cX8_lead 30 = .ok (.iload 6, 2) := dGR_11_c_164.2.2.2.2.2.2.1
theorem dX8_lead_32 : decode cX8_lead 32 = .ok (.iaload, 1) := dGR_11_c_164.2.2.2.2.2.2.2.1
theorem dX8_lead_33 : decode cX8_lead 33 = .ok (.iload 5, 2) := dGR_11_c_164.2.2.2.2.2.2.2.2.1
theorem dX8_lead_35 : decode cX8_lead 35 = .ok (.invokestatic 81, 3) := dGR_11_c_164.2.2.2.2.2.2.2.2.2.1
theorem dX8_lead_38 : decode cX8_lead 38 = .ok (.iastore, 1) := dGR_11_c_164.2.2.2.2.2.2.2.2.2.2.1
theorem dX8_lead_39 : decode cX8_lead 39 = .ok (.return_, 1) := dGR_11_c_164.2.2.2.2.2.2.2.2.2.2.2
abbrev f_c_X8_lead : List (Nat × Int) := [(54, -1), (55, -1)]
set_option maxHeartbeats 4000000 in
set_option maxRecDepth 100000 in
theorem c_X8_lead (G : KG) (l : Launch) (M : Mem) (c0 : Int) (a1 : Int) (a2 : Int) (a3 : Int) (a4 : Int) (a5 : Int) (hI_M : Inv false M) (hk_c0 : kd c0 = 47) (hpre : -2147483648 ≤ a1 ∧ a1 ≤ 2147483647 ∧ -2147483648 ≤ a2 ∧ a2 ≤ 2147483647 ∧ -2147483648 ≤ a3 ∧ a3 ≤ 2147483647 ∧ -2147483648 ≤ a4 ∧ a4 ≤ 2147483647 ∧ -2147483648 ≤ a5 ∧ a5 ≤ 2147483647 ∧ 0 ≤ a1 ∧ a1 ≤ 1 ∧ 0 ≤ a2 ∧ a2 ≤ 6 ∧ 0 ≤ a3 ∧ a3 ≤ 7) : KC false G l yX8_lead cX8_lead 7 none (1, 22) [vR G c0, vI a1, vI a2, vI a3, vI a4, vI a5] M (fun A => kQv false G A (fun (N : Mem) => Inv false N ∧ Fr f_c_X8_lead M N)) := by
  refine kx_met (lo := [some (vR G c0), some (vI a1), some (vI a2), some (vI a3), some (vI a4), some (vI a5), none]) (by decide) (Nat.le_of_ble_eq_true rfl) rfl ?_
  intro X F hQ
  have hF_M : Fr f_c_X8_lead M M := Fr.rf _ _
  refine kx_iload_n 1 F 1 dX8_lead_0 rfl rfl rfl ?_
  refine kx_iload_n 2 F 2 dX8_lead_1 rfl rfl rfl ?_
  refine kx_iload_n 3 F 3 dX8_lead_2 rfl rfl rfl ?_
  refine kx_Si 6 F (As := [vI a1, vI a2, vI a3]) (st := []) sd_X8_77 (c_X8_placeOf G l M a1 a2 a3 hI_M (by omega)) ⟨by decide, by decide⟩ rfl rfl (Nat.le_of_ble_eq_true rfl) dX8_lead_3 rfl ?_
  intro r_1 N_2 q_3
  obtain ⟨rfl, q_3c⟩ := q_3
  refine kx_istore 8 F 6 (lo' := [some (vR G c0), some (vI a1), some (vI a2), some (vI a3), some (vI a4), some (vI a5), some (vI r_1)]) dX8_lead_6 (by decide) rfl rfl rfl ?_
  refine kx_aload_n 9 F 0 dX8_lead_8 rfl rfl rfl ?_
  refine kx_getr 12 F fl_X8_30 hk_c0 rfl rfl (j := 11) rfl dX8_lead_9 (v := (M c0 11)) rfl rfl ?_
  have hk_4 : kd (M c0 11) = 54 := Inv.r hI_M hk_c0 rfl 11 rfl rfl
  refine kx_iload 14 F 6 dX8_lead_12 rfl rfl ?_
  refine kx_dup2 15 F dX8_lead_14 rfl rfl rfl ?_
  refine kx_iald 16 F hk_4 rfl rfl (by omega) (by decide) dX8_lead_15 (v := (M (M c0 11) r_1)) rfl rfl ?_
  have h_5 := Inv.g hI_M hk_4 rfl r_1 (a := (-2147483648)) (b := 2147483647) rfl rfl
  refine kx_iload 18 F 4 dX8_lead_16 rfl rfl ?_
  refine kx_iadd 19 F (v := (M (M c0 11) r_1) + a4) dX8_lead_18 rfl rfl ?_
  refine kx_wrapi (fun w_6 h_7 _ => ?_)
  refine kx_iast 20 F hk_4 rfl rfl (by omega) (by decide) dX8_lead_19 rfl ?_
  intro N_8 hM_N_8
  have hI_N_8 : Inv false N_8 := Inv.u hI_M hM_N_8 hk_4 (a := (-2147483648)) (b := 2147483647) rfl rfl rfl (by omega)
  have hF_N_8 : Fr f_c_X8_lead M N_8 := Fr.u hF_M hM_N_8 hk_4 rfl
  refine kx_aload_n 21 F 0 dX8_lead_20 rfl rfl rfl ?_
  refine kx_getr 24 F fl_X8_33 hk_c0 rfl rfl (j := 12) rfl dX8_lead_21 (v := (M c0 12)) (by rw [hM_N_8, mu_k hk_c0 hk_4 rfl]) rfl ?_
  have hk_9 : kd (M c0 12) = 55 := Inv.r hI_M hk_c0 rfl 12 rfl rfl
  refine kx_iload 26 F 6 dX8_lead_24 rfl rfl ?_
  refine kx_aload_n 27 F 0 dX8_lead_26 rfl rfl rfl ?_
  refine kx_getr 30 F fl_X8_33 hk_c0 rfl rfl (j := 12) rfl dX8_lead_27 (v := (M c0 12)) (by rw [hM_N_8, mu_k hk_c0 hk_4 rfl]) rfl ?_
  refine kx_iload 32 F 6 dX8_lead_30 rfl rfl ?_
  refine kx_iald 33 F hk_9 rfl rfl (by omega) (by decide) dX8_lead_32 (v := (M (M c0 12) r_1)) (by rw [hM_N_8, mu_k hk_9 hk_4 rfl]) rfl ?_
  have h_10 := Inv.g hI_M hk_9 rfl r_1 (a := (-2147483648)) (b := 2147483647) rfl rfl
  refine kx_iload 35 F 5 dX8_lead_33 rfl rfl ?_
  refine kx_mmax 38 F dX8_lead_35 (tt lm_1510 rfl) (tt lm_480 rfl) (tt lm_180 rfl) (tt lm_481 rfl) (by decide) (Nat.le_of_ble_eq_true rfl) (by omega) (by omega) rfl (fun w_11 h_12 => ?_)
  refine kx_iast 39 F hk_9 rfl rfl (by omega) (by decide) dX8_lead_38 rfl ?_
  intro N_13 hM_N_13
  have hI_N_13 : Inv false N_13 := Inv.u hI_N_8 hM_N_13 hk_9 (a := (-2147483648)) (b := 2147483647) rfl rfl rfl (by omega)
  have hF_N_13 : Fr f_c_X8_lead M N_13 := Fr.u hF_N_8 hM_N_13 hk_9 rfl
  exact kx_vret F hQ ⟨hI_N_13, hF_N_13⟩ dX8_lead_39
set_option maxRecDepth 100000 in
theorem dGR_11_c_165 : (decode cX8_follow 0 = .ok (.iload_n 2, 1)) ∧ (decode cX8_follow 1 = .ok (.iload_n 3, 1)) ∧ (decode cX8_follow 2 = .ok (.iload 4, 2)) ∧ (decode cX8_follow 4 = .ok (.invokestatic 77, 3)) ∧ (decode cX8_follow 7 = .ok (.istore 6, 2)) ∧ (decode cX8_follow 9 = .ok (.aload_n 0, 1)) ∧ (decode cX8_follow 10 = .ok (.getfield 30, 3)) ∧ (decode cX8_follow 13 = .ok (.iload 6, 2)) ∧ (decode cX8_follow 15 = .ok (.iaload, 1)) ∧ (decode cX8_follow 16 = .ok (.istore 7, 2)) ∧ (decode cX8_follow 18 = .ok (.iload 7, 2)) ∧ (decode cX8_follow 20 = .ok (.ifCond .ne 4, 3)) := by decide +kernel
theorem dX8_follow_0 : decode cX8_follow 0 = .ok (.iload_n 2, 1) := dGR_11_c_165.1
theorem dX8_follow_1 : decode cX8_follow 1 = .ok (.iload_n 3, 1) := dGR_11_c_165.2.1
theorem dX8_follow_2 : decode cX8_follow 2 = .ok (.iload 4, 2) := dGR_11_c_165.2.2.1
theorem dX8_follow_4 : decode cX8_follow 4 = .ok (.invokestatic 77, 3) := dGR_11_c_165.2.2.2.1
theorem dX8_follow_7 : decode cX8_follow 7 = .ok (.istore 6, 2) := dGR_11_c_165.2.2.2.2.1
theorem dX8_follow_9 : decode cX8_follow 9 = .ok (.aload_n 0, 1) := dGR_11_c_165.2.2.2.2.2.1
theorem dX8_follow_10 : decode cX8_follow 10 = .ok (.getfield 30, 3) := dGR_11_c_165.2.2.2.2.2.2.1
theorem dX8_follow_13 : decode cX8_follow 13 = .ok (.iload 6, 2) := dGR_11_c_165.2.2.2.2.2.2.2.1
theorem dX8_follow_15 : decode cX8_follow 15 = .ok (.iaload, 1) := dGR_11_c_165.2.2.2.2.2.2.2.2.1
theorem dX8_follow_16 : decode cX8_follow 16 = .ok (.istore 7, 2) := dGR_11_c_165.2.2.2.2.2.2.2.2.2.1
theorem dX8_follow_18 : decode cX8_follow 18 = .ok (.iload 7, 2) := dGR_11_c_165.2.2.2.2.2.2.2.2.2.2.1
theorem dX8_follow_20 : decode cX8_follow 20 = .ok (.ifCond .ne 4, 3) := dGR_11_c_165.2.2.2.2.2.2.2.2.2.2.2
set_option maxRecDepth 100000 in
theorem dGR_11_c_166 : (decode cX8_follow 23 = .ok (.return_, 1)) ∧ (decode cX8_follow 24 = .ok (.iconst 1, 1)) ∧ (decode cX8_follow 25 = .ok (.istore 8, 2)) ∧ (decode cX8_follow 27 = .ok (.iload_n 3, 1)) ∧ (decode cX8_follow 28 = .ok (.iload 8, 2)) ∧ (decode cX8_follow 30 = .ok (.iadd, 1)) ∧ (decode cX8_follow 31 = .ok (.iload 5, 2)) ∧ (decode cX8_follow 33 = .ok (.if_icmp .gt 87, 3)) ∧ (decode cX8_follow 36 = .ok (.aload_n 0, 1)) ∧ (decode cX8_follow 37 = .ok (.aload_n 0, 1)) ∧ (decode cX8_follow 38 = .ok (.getfield 33, 3)) ∧ (decode cX8_follow 41 = .ok (.iload 6, 2)) := by decide +kernel
theorem dX8_follow_23 : decode cX8_follow 23 = .ok (.return_, 1) := dGR_11_c_166.1
theorem dX8_follow_24 : decode cX8_follow 24 = .ok (.iconst 1, 1) := dGR_11_c_166.2.1
theorem dX8_follow_25 : decode cX8_follow 25 = .ok (.istore 8, 2) := dGR_11_c_166.2.2.1
theorem dX8_follow_27 : decode cX8_follow 27 = .ok (.iload_n 3, 1) := dGR_11_c_166.2.2.2.1
theorem dX8_follow_28 : decode cX8_follow 28 = .ok (.iload 8, 2) := dGR_11_c_166.2.2.2.2.1
theorem dX8_follow_30 : decode cX8_follow 30 = .ok (.iadd, 1) := dGR_11_c_166.2.2.2.2.2.1
theorem dX8_follow_31 : decode cX8_follow 31 = .ok (.iload 5, 2) := dGR_11_c_166.2.2.2.2.2.2.1
theorem dX8_follow_33 : decode cX8_follow 33 = .ok (.if_icmp .gt 87, 3) := dGR_11_c_166.2.2.2.2.2.2.2.1
theorem dX8_follow_36 : decode cX8_follow 36 = .ok (.aload_n 0, 1) := dGR_11_c_166.2.2.2.2.2.2.2.2.1
theorem dX8_follow_37 : decode cX8_follow 37 = .ok (.aload_n 0, 1) := dGR_11_c_166.2.2.2.2.2.2.2.2.2.1
theorem dX8_follow_38 : decode cX8_follow 38 = .ok (.getfield 33, 3) := dGR_11_c_166.2.2.2.2.2.2.2.2.2.2.1
theorem dX8_follow_41 : decode cX8_follow 41 = .ok (.iload 6, 2) := dGR_11_c_166.2.2.2.2.2.2.2.2.2.2.2
set_option maxRecDepth 100000 in
theorem dGR_11_c_167 : (decode cX8_follow 43 = .ok (.iaload, 1)) ∧ (decode cX8_follow 44 = .ok (.iload 8, 2)) ∧ (decode cX8_follow 46 = .ok (.iconst 0, 1)) ∧ (decode cX8_follow 47 = .ok (.invokevirtual 123, 3)) ∧ (decode cX8_follow 50 = .ok (.istore 9, 2)) ∧ (decode cX8_follow 52 = .ok (.aload_n 0, 1)) ∧ (decode cX8_follow 53 = .ok (.getfield 27, 3)) ∧ (decode cX8_follow 56 = .ok (.iload 8, 2)) ∧ (decode cX8_follow 58 = .ok (.iconst 1, 1)) ∧ (decode cX8_follow 59 = .ok (.isub, 1)) ∧ (decode cX8_follow 60 = .ok (.iaload, 1)) ∧ (decode cX8_follow 61 = .ok (.istore 10, 2)) := by decide +kernel
theorem dX8_follow_43 : decode cX8_follow 43 = .ok (.iaload, 1) := dGR_11_c_167.1
theorem dX8_follow_44 : decode cX8_follow 44 = .ok (.iload 8, 2) := dGR_11_c_167.2.1
theorem dX8_follow_46 : decode cX8_follow 46 = .ok (.iconst 0, 1) := dGR_11_c_167.2.2.1
theorem dX8_follow_47 : decode cX8_follow 47 = .ok (.invokevirtual 123, 3) := dGR_11_c_167.2.2.2.1
theorem dX8_follow_50 : decode cX8_follow 50 = .ok (.istore 9, 2) := dGR_11_c_167.2.2.2.2.1
theorem dX8_follow_52 : decode cX8_follow 52 = .ok (.aload_n 0, 1) := dGR_11_c_167.2.2.2.2.2.1
theorem dX8_follow_53 : decode cX8_follow 53 = .ok (.getfield 27, 3) := dGR_11_c_167.2.2.2.2.2.2.1
theorem dX8_follow_56 : decode cX8_follow 56 = .ok (.iload 8, 2) := dGR_11_c_167.2.2.2.2.2.2.2.1
theorem dX8_follow_58 : decode cX8_follow 58 = .ok (.iconst 1, 1) := dGR_11_c_167.2.2.2.2.2.2.2.2.1
theorem dX8_follow_59 : decode cX8_follow 59 = .ok (.isub, 1) := dGR_11_c_167.2.2.2.2.2.2.2.2.2.1
theorem dX8_follow_60 : decode cX8_follow 60 = .ok (.iaload, 1) := dGR_11_c_167.2.2.2.2.2.2.2.2.2.2.1
theorem dX8_follow_61 : decode cX8_follow 61 = .ok (.istore 10, 2) := dGR_11_c_167.2.2.2.2.2.2.2.2.2.2.2
set_option maxRecDepth 100000 in
theorem dGR_11_c_168 : (decode cX8_follow 63 = .ok (.iload 10, 2)) ∧ (decode cX8_follow 65 = .ok (.aload_n 0, 1)) ∧ (decode cX8_follow 66 = .ok (.getfield 27, 3)) ∧ (decode cX8_follow 69 = .ok (.iload 8, 2)) ∧ (decode cX8_follow 71 = .ok (.iaload, 1)) ∧ (decode cX8_follow 72 = .ok (.if_icmp .ge 42, 3)) ∧ (decode cX8_follow 75 = .ok (.aload_n 0, 1)) ∧ (decode cX8_follow 76 = .ok (.iload_n 2, 1)) ∧ (decode cX8_follow 77 = .ok (.iload_n 3, 1)) ∧ (decode cX8_follow 78 = .ok (.iload 8, 2)) ∧ (decode cX8_follow 80 = .ok (.iadd, 1)) ∧ (decode cX8_follow 81 = .ok (.iload 4, 2)) := by decide +kernel
theorem dX8_follow_63 : decode cX8_follow 63 = .ok (.iload 10, 2) := dGR_11_c_168.1
theorem dX8_follow_65 : decode cX8_follow 65 = .ok (.aload_n 0, 1) := dGR_11_c_168.2.1
theorem dX8_follow_66 : decode cX8_follow 66 = .ok (.getfield 27, 3) := dGR_11_c_168.2.2.1
theorem dX8_follow_69 : decode cX8_follow 69 = .ok (.iload 8, 2) := dGR_11_c_168.2.2.2.1
theorem dX8_follow_71 : decode cX8_follow 71 = .ok (.iaload, 1) := dGR_11_c_168.2.2.2.2.1
theorem dX8_follow_72 : decode cX8_follow 72 = .ok (.if_icmp .ge 42, 3) := dGR_11_c_168.2.2.2.2.2.1
theorem dX8_follow_75 : decode cX8_follow 75 = .ok (.aload_n 0, 1) := dGR_11_c_168.2.2.2.2.2.2.1
theorem dX8_follow_76 : decode cX8_follow 76 = .ok (.iload_n 2, 1) := dGR_11_c_168.2.2.2.2.2.2.2.1
theorem dX8_follow_77 : decode cX8_follow 77 = .ok (.iload_n 3, 1) := dGR_11_c_168.2.2.2.2.2.2.2.2.1
theorem dX8_follow_78 : decode cX8_follow 78 = .ok (.iload 8, 2) := dGR_11_c_168.2.2.2.2.2.2.2.2.2.1
theorem dX8_follow_80 : decode cX8_follow 80 = .ok (.iadd, 1) := dGR_11_c_168.2.2.2.2.2.2.2.2.2.2.1
theorem dX8_follow_81 : decode cX8_follow 81 = .ok (.iload 4, 2) := dGR_11_c_168.2.2.2.2.2.2.2.2.2.2.2
set_option maxRecDepth 100000 in
theorem dGR_11_c_169 : (decode cX8_follow 83 = .ok (.aload_n 0, 1)) ∧ (decode cX8_follow 84 = .ok (.getfield 21, 3)) ∧ (decode cX8_follow 87 = .ok (.iload 10, 2)) ∧ (decode cX8_follow 89 = .ok (.iaload, 1)) ∧ (decode cX8_follow 90 = .ok (.invokestatic 135, 3)) ∧ (decode cX8_follow 93 = .ok (.iload 7, 2)) ∧ (decode cX8_follow 95 = .ok (.iload 9, 2)) ∧ (decode cX8_follow 97 = .ok (.aload_n 0, 1)) ∧ (decode cX8_follow 98 = .ok (.getfield 24, 3)) ∧ (decode cX8_follow 101 = .ok (.iload 10, 2)) ∧ (decode cX8_follow 103 = .ok (.iaload, 1)) ∧ (decode cX8_follow 104 = .ok (.iadd, 1)) := by decide +kernel
theorem dX8_follow_83 : decode cX8_follow 83 = .ok (.aload_n 0, 1) := dGR_11_c_169.1
theorem dX8_follow_84 : decode cX8_follow 84 = .ok (.getfield 21, 3) := dGR_11_c_169.2.1
theorem dX8_follow_87 : decode cX8_follow 87 = .ok (.iload 10, 2) := dGR_11_c_169.2.2.1
theorem dX8_follow_89 : decode cX8_follow 89 = .ok (.iaload, 1) := dGR_11_c_169.2.2.2.1
theorem dX8_follow_90 : decode cX8_follow 90 = .ok (.invokestatic 135, 3) := dGR_11_c_169.2.2.2.2.1
theorem dX8_follow_93 : decode cX8_follow 93 = .ok (.iload 7, 2) := dGR_11_c_169.2.2.2.2.2.1
theorem dX8_follow_95 : decode cX8_follow 95 = .ok (.iload 9, 2) := dGR_11_c_169.2.2.2.2.2.2.1
theorem dX8_follow_97 : decode cX8_follow 97 = .ok (.aload_n 0, 1) := dGR_11_c_169.2.2.2.2.2.2.2.1
theorem dX8_follow_98 : decode cX8_follow 98 = .ok (.getfield 24, 3) := dGR_11_c_169.2.2.2.2.2.2.2.2.1
theorem dX8_follow_101 : decode cX8_follow 101 = .ok (.iload 10, 2) := dGR_11_c_169.2.2.2.2.2.2.2.2.2.1
theorem dX8_follow_103 : decode cX8_follow 103 = .ok (.iaload, 1) := dGR_11_c_169.2.2.2.2.2.2.2.2.2.2.1
theorem dX8_follow_104 : decode cX8_follow 104 = .ok (.iadd, 1) := dGR_11_c_169.2.2.2.2.2.2.2.2.2.2.2
set_option maxRecDepth 100000 in
theorem dGR_11_c_170 : (decode cX8_follow 105 = .ok (.invokevirtual 66, 3)) ∧ (decode cX8_follow 108 = .ok (.iinc 10 1, 3)) ∧ (decode cX8_follow 111 = .ok (.goto (-48), 3)) ∧ (decode cX8_follow 114 = .ok (.iinc 8 1, 3)) ∧ (decode cX8_follow 117 = .ok (.goto (-90), 3)) ∧ (decode cX8_follow 120 = .ok (.iload_n 2, 1)) ∧ (decode cX8_follow 121 = .ok (.ifCond .ne 10, 3)) ∧ (decode cX8_follow 124 = .ok (.aload_n 0, 1)) ∧ (decode cX8_follow 125 = .ok (.getfield 46, 3)) ∧ (decode cX8_follow 128 = .ok (.goto 7, 3)) ∧ (decode cX8_follow 131 = .ok (.aload_n 0, 1)) ∧ (decode cX8_follow 132 = .ok (.getfield 42, 3)) := by decide +kernel
theorem dX8_follow_105 : decode cX8_follow 105 = .ok (.invokevirtual 66, 3) := dGR_11_c_170.1
theorem dX8_follow_108 : decode cX8_follow 108 = .ok (.iinc 10 1, 3) := dGR_11_c_170.2.1
theorem dX8_follow_111 : decode cX8_follow 111 = .ok (.goto (-48), 3) := dGR_11_c_170.2.2.1
theorem dX8_follow_114 : decode cX8_follow 114 = .ok (.iinc 8 1, 3) := dGR_11_c_170.2.2.2.1
theorem dX8_follow_117 : decode cX8_follow 117 = .ok (.goto (-90), 3) := dGR_11_c_170.2.2.2.2.1
theorem dX8_follow_120 : decode cX8_follow 120 = .ok (.iload_n 2, 1) := dGR_11_c_170.2.2.2.2.2.1
theorem dX8_follow_121 : decode cX8_follow 121 = .ok (.ifCond .ne 10, 3) := dGR_11_c_170.2.2.2.2.2.2.1
theorem dX8_follow_124 : decode cX8_follow 124 = .ok (.aload_n 0, 1) := dGR_11_c_170.2.2.2.2.2.2.2.1
theorem dX8_follow_125 : decode cX8_follow 125 = .ok (.getfield 46, 3) := dGR_11_c_170.2.2.2.2.2.2.2.2.1
theorem dX8_follow_128 : decode cX8_follow 128 = .ok (.goto 7, 3) := dGR_11_c_170.2.2.2.2.2.2.2.2.2.1
theorem dX8_follow_131 : decode cX8_follow 131 = .ok (.aload_n 0, 1) := dGR_11_c_170.2.2.2.2.2.2.2.2.2.2.1
theorem dX8_follow_132 : decode cX8_follow 132 = .ok (.getfield 42, 3) := dGR_11_c_170.2.2.2.2.2.2.2.2.2.2.2
set_option maxRecDepth 100000 in
theorem dGR_11_c_171 : (decode cX8_follow 135 = .ok (.istore 8, 2)) ∧ (decode cX8_follow 137 = .ok (.iconst 0, 1)) ∧ (decode cX8_follow 138 = .ok (.istore 9, 2)) ∧ (decode cX8_follow 140 = .ok (.iload 9, 2)) ∧ (decode cX8_follow 142 = .ok (.iload 8, 2)) ∧ (decode cX8_follow 144 = .ok (.if_icmp .ge 58, 3)) ∧ (decode cX8_follow 147 = .ok (.aload_n 0, 1)) ∧ (decode cX8_follow 148 = .ok (.iload 9, 2)) ∧ (decode cX8_follow 150 = .ok (.aload_n 0, 1)) ∧ (decode cX8_follow 151 = .ok (.getfield 42, 3)) ∧ (decode cX8_follow 154 = .ok (.if_icmp .ge 7, 3)) ∧ (decode cX8_follow 157 = .ok (.iconst 1, 1)) := by decide +kernel
theorem dX8_follow_135 : decode cX8_follow 135 = .ok (.istore 8, 2) := dGR_11_c_171.1
theorem dX8_follow_137 : decode cX8_follow 137 = .ok (.iconst 0, 1) := dGR_11_c_171.2.1
theorem dX8_follow_138 : decode cX8_follow 138 = .ok (.istore 9, 2) := dGR_11_c_171.2.2.1
theorem dX8_follow_140 : decode cX8_follow 140 = .ok (.iload 9, 2) := dGR_11_c_171.2.2.2.1
theorem dX8_follow_142 : decode cX8_follow 142 = .ok (.iload 8, 2) := dGR_11_c_171.2.2.2.2.1
theorem dX8_follow_144 : decode cX8_follow 144 = .ok (.if_icmp .ge 58, 3) := dGR_11_c_171.2.2.2.2.2.1
theorem dX8_follow_147 : decode cX8_follow 147 = .ok (.aload_n 0, 1) := dGR_11_c_171.2.2.2.2.2.2.1
theorem dX8_follow_148 : decode cX8_follow 148 = .ok (.iload 9, 2) := dGR_11_c_171.2.2.2.2.2.2.2.1
theorem dX8_follow_150 : decode cX8_follow 150 = .ok (.aload_n 0, 1) := dGR_11_c_171.2.2.2.2.2.2.2.2.1
theorem dX8_follow_151 : decode cX8_follow 151 = .ok (.getfield 42, 3) := dGR_11_c_171.2.2.2.2.2.2.2.2.2.1
theorem dX8_follow_154 : decode cX8_follow 154 = .ok (.if_icmp .ge 7, 3) := dGR_11_c_171.2.2.2.2.2.2.2.2.2.2.1
theorem dX8_follow_157 : decode cX8_follow 157 = .ok (.iconst 1, 1) := dGR_11_c_171.2.2.2.2.2.2.2.2.2.2.2
set_option maxRecDepth 100000 in
theorem dGR_11_c_172 : (decode cX8_follow 158 = .ok (.goto 4, 3)) ∧ (decode cX8_follow 161 = .ok (.iload_n 2, 1)) ∧ (decode cX8_follow 162 = .ok (.iload_n 3, 1)) ∧ (decode cX8_follow 163 = .ok (.iconst 1, 1)) ∧ (decode cX8_follow 164 = .ok (.iadd, 1)) ∧ (decode cX8_follow 165 = .ok (.iload 4, 2)) ∧ (decode cX8_follow 167 = .ok (.aload_n 1, 1)) ∧ (decode cX8_follow 168 = .ok (.getfield 117, 3)) ∧ (decode cX8_follow 171 = .ok (.iload 9, 2)) ∧ (decode cX8_follow 173 = .ok (.iaload, 1)) ∧ (decode cX8_follow 174 = .ok (.invokestatic 135, 3)) ∧ (decode cX8_follow 177 = .ok (.iload 7, 2)) := by decide +kernel
theorem dX8_follow_158 : decode cX8_follow 158 = .ok (.goto 4, 3) := dGR_11_c_172.1
theorem dX8_follow_161 : decode cX8_follow 161 = .ok (.iload_n 2, 1) := dGR_11_c_172.2.1
theorem dX8_follow_162 : decode cX8_follow 162 = .ok (.iload_n 3, 1) := dGR_11_c_172.2.2.1
theorem dX8_follow_163 : decode cX8_follow 163 = .ok (.iconst 1, 1) := dGR_11_c_172.2.2.2.1
theorem dX8_follow_164 : decode cX8_follow 164 = .ok (.iadd, 1) := dGR_11_c_172.2.2.2.2.1
theorem dX8_follow_165 : decode cX8_follow 165 = .ok (.iload 4, 2) := dGR_11_c_172.2.2.2.2.2.1
theorem dX8_follow_167 : decode cX8_follow 167 = .ok (.aload_n 1, 1) := dGR_11_c_172.2.2.2.2.2.2.1
theorem dX8_follow_168 : decode cX8_follow 168 = .ok (.getfield 117, 3) := dGR_11_c_172.2.2.2.2.2.2.2.1
theorem dX8_follow_171 : decode cX8_follow 171 = .ok (.iload 9, 2) := dGR_11_c_172.2.2.2.2.2.2.2.2.1
theorem dX8_follow_173 : decode cX8_follow 173 = .ok (.iaload, 1) := dGR_11_c_172.2.2.2.2.2.2.2.2.2.1
theorem dX8_follow_174 : decode cX8_follow 174 = .ok (.invokestatic 135, 3) := dGR_11_c_172.2.2.2.2.2.2.2.2.2.2.1
theorem dX8_follow_177 : decode cX8_follow 177 = .ok (.iload 7, 2) := dGR_11_c_172.2.2.2.2.2.2.2.2.2.2.2
set_option maxRecDepth 100000 in
theorem dGR_11_c_173 : (decode cX8_follow 179 = .ok (.aload_n 0, 1)) ∧ (decode cX8_follow 180 = .ok (.aload_n 0, 1)) ∧ (decode cX8_follow 181 = .ok (.getfield 33, 3)) ∧ (decode cX8_follow 184 = .ok (.iload 6, 2)) ∧ (decode cX8_follow 186 = .ok (.iaload, 1)) ∧ (decode cX8_follow 187 = .ok (.iconst 1, 1)) ∧ (decode cX8_follow 188 = .ok (.iload 9, 2)) ∧ (decode cX8_follow 190 = .ok (.invokevirtual 123, 3)) ∧ (decode cX8_follow 193 = .ok (.invokevirtual 66, 3)) ∧ (decode cX8_follow 196 = .ok (.iinc 9 1, 3)) ∧ (decode cX8_follow 199 = .ok (.goto (-59), 3)) ∧ (decode cX8_follow 202 = .ok (.return_, 1)) := by decide +kernel
theorem dX8_follow_179 : decode cX8_follow 179 = .ok (.aload_n 0, 1) := dGR_11_c_173.1
theorem dX8_follow_180 : decode cX8_follow 180 = .ok (.aload_n 0, 1) := dGR_11_c_173.2.1
theorem dX8_follow_181 : decode cX8_follow 181 = .ok (.getfield 33, 3) := dGR_11_c_173.2.2.1
theorem dX8_follow_184 : decode cX8_follow 184 = .ok (.iload 6, 2) := dGR_11_c_173.2.2.2.1
theorem dX8_follow_186 : decode cX8_follow 186 = .ok (.iaload, 1) := dGR_11_c_173.2.2.2.2.1
theorem dX8_follow_187 : decode cX8_follow 187 = .ok (.iconst 1, 1) := dGR_11_c_173.2.2.2.2.2.1
theorem dX8_follow_188 : decode cX8_follow 188 = .ok (.iload 9, 2) := dGR_11_c_173.2.2.2.2.2.2.1
theorem dX8_follow_190 : decode cX8_follow 190 = .ok (.invokevirtual 123, 3) := dGR_11_c_173.2.2.2.2.2.2.2.1
theorem dX8_follow_193 : decode cX8_follow 193 = .ok (.invokevirtual 66, 3) := dGR_11_c_173.2.2.2.2.2.2.2.2.1
theorem dX8_follow_196 : decode cX8_follow 196 = .ok (.iinc 9 1, 3) := dGR_11_c_173.2.2.2.2.2.2.2.2.2.1
theorem dX8_follow_199 : decode cX8_follow 199 = .ok (.goto (-59), 3) := dGR_11_c_173.2.2.2.2.2.2.2.2.2.2.1
theorem dX8_follow_202 : decode cX8_follow 202 = .ok (.return_, 1) := dGR_11_c_173.2.2.2.2.2.2.2.2.2.2.2
abbrev f_c_X8_follow : List (Nat × Int) := [(54, -1), (55, -1)]
set_option maxHeartbeats 4000000 in
set_option maxRecDepth 100000 in
theorem c_X8_follow (G : KG) (l : Launch) (M : Mem) (c0 : Int) (c1 : Int) (a2 : Int) (a3 : Int) (a4 : Int) (a5 : Int) (hI_M : Inv false M) (hk_c0 : kd c0 = 47) (hk_c1 : kd c1 = 1) (hpre : -2147483648 ≤ a2 ∧ a2 ≤ 2147483647 ∧ -2147483648 ≤ a3 ∧ a3 ≤ 2147483647 ∧ -2147483648 ≤ a4 ∧ a4 ≤ 2147483647 ∧ -2147483648 ≤ a5 ∧ a5 ≤ 2147483647 ∧ 0 ≤ a2 ∧ a2 ≤ 1 ∧ 0 ≤ a3 ∧ a3 ≤ 5 ∧ 0 ≤ a4 ∧ a4 ≤ 7 ∧ 0 ≤ a5 ∧ a5 ≤ 6) : KC false G l yX8_follow cX8_follow 11 none (2, 48) [vR G c0, vR G c1, vI a2, vI a3, vI a4, vI a5] M (fun A => kQv false G A (fun (N : Mem) => Inv false N ∧ Fr f_c_X8_follow M N)) := by
  refine kx_met (lo := [some (vR G c0), some (vR G c1), some (vI a2), some (vI a3), some (vI a4), some (vI a5), none, none, none, none, none]) (by decide) (Nat.le_of_ble_eq_true rfl) rfl ?_
  intro X F hQ
  have hF_M : Fr f_c_X8_follow M M := Fr.rf _ _
  refine kx_iload_n 1 F 2 dX8_follow_0 rfl rfl rfl ?_
  refine kx_iload_n 2 F 3 dX8_follow_1 rfl rfl rfl ?_
  refine kx_iload 4 F 4 dX8_follow_2 rfl rfl ?_
  refine kx_Si 7 F (As := [vI a2, vI a3, vI a4]) (st := []) sd_X8_77 (c_X8_placeOf G l M a2 a3 a4 hI_M (by omega)) ⟨by decide, by decide⟩ rfl rfl (Nat.le_of_ble_eq_true rfl) dX8_follow_4 rfl ?_
  intro r_1 N_2 q_3
  obtain ⟨rfl, q_3c⟩ := q_3
  refine kx_istore 9 F 6 (lo' := [some (vR G c0), some (vR G c1), some (vI a2), some (vI a3), some (vI a4), some (vI a5), some (vI r_1), none, none, none, none]) dX8_follow_7 (by decide) rfl rfl rfl ?_
  refine kx_aload_n 10 F 0 dX8_follow_9 rfl rfl rfl ?_
  refine kx_getr 13 F fl_X8_30 hk_c0 rfl rfl (j := 11) rfl dX8_follow_10 (v := (M c0 11)) rfl rfl ?_
  have hk_4 : kd (M c0 11) = 54 := Inv.r hI_M hk_c0 rfl 11 rfl rfl
  refine kx_iload 15 F 6 dX8_follow_13 rfl rfl ?_
  refine kx_iald 16 F hk_4 rfl rfl (by omega) (by decide) dX8_follow_15 (v := (M (M c0 11) r_1)) rfl rfl ?_
  have h_5 := Inv.g hI_M hk_4 rfl r_1 (a := (-2147483648)) (b := 2147483647) rfl rfl
  refine kx_istore 18 F 7 (lo' := [some (vR G c0), some (vR G c1), some (vI a2), some (vI a3), some (vI a4), some (vI a5), some (vI r_1), some (vI (M (M c0 11) r_1)), none, none, none]) dX8_follow_16 (by decide) rfl rfl rfl ?_
  refine kx_iload 20 F 7 dX8_follow_18 rfl rfl ?_
  refine kx_if_ne 23 F 24 dX8_follow_20 (by decide) rfl (by omega) (fun h_6 => ?_) (fun h_6 => ?_)
  · refine kx_iconst 25 F dX8_follow_24 rfl ?_
    refine kx_istore 27 F 8 (lo' := [some (vR G c0), some (vR G c1), some (vI a2), some (vI a3), some (vI a4), some (vI a5), some (vI r_1), some (vI (M (M c0 11) r_1)), some (vI 1), none, none]) dX8_follow_25 (by decide) rfl rfl rfl ?_
    have L_2081 : ∀ (n_2082 : Nat) (x8_2079 : Int) (N_2080 : Mem), Inv false N_2080 → Fr f_c_X8_follow M N_2080 → 1 ≤ x8_2079 ∧ x8_2079 ≤ 7 → (7 - (x8_2079)).toNat = n_2082 → KJ false G X N_2080 27 [some (vR G c0), some (vR G c1), some (vI a2), some (vI a3), some (vI a4), some (vI a5), some (vI r_1), some (vI (M (M c0 11) r_1)), some (vI x8_2079), none, none] [] := by
      intro n_2082
      refine Nat.strongRecOn n_2082 ?_
      intro n_2082 ih_2083 x8_2079 N_2080 hI_N_2080 hF_N_2080 h_2084 hm_2085
      refine kx_iload_n 28 F 3 dX8_follow_27 rfl rfl rfl ?_
      refine kx_iload 30 F 8 dX8_follow_28 rfl rfl ?_
      refine kx_iadd 31 F (v := a3 + x8_2079) dX8_follow_30 rfl rfl ?_
      refine kx_iload 33 F 5 dX8_follow_31 rfl rfl ?_
      refine kx_icmp_gt 36 F 120 dX8_follow_33 (by decide) rfl (by omega) (by omega) (fun h_2086 => ?_) (fun h_2086 => ?_)
      · refine kx_iload_n 121 F 2 dX8_follow_120 rfl rfl rfl ?_
        have J_2094 : ∀ (y0_2093 : Int), 0 ≤ y0_2093 ∧ y0_2093 ≤ 4 → KJ false G X N_2080 135 [some (vR G c0), some (vR G c1), some (vI a2), some (vI a3), some (vI a4), none, some (vI r_1), some (vI (M (M c0 11) r_1)), none, none, none] [vI y0_2093] := by
          intro y0_2093 h_2095
          refine kx_istore 137 F 8 (lo' := [some (vR G c0), some (vR G c1), some (vI a2), some (vI a3), some (vI a4), none, some (vI r_1), some (vI (M (M c0 11) r_1)), some (vI y0_2093), none, none]) dX8_follow_135 (by decide) rfl rfl rfl ?_
          refine kx_iconst 138 F dX8_follow_137 rfl ?_
          refine kx_istore 140 F 9 (lo' := [some (vR G c0), some (vR G c1), some (vI a2), some (vI a3), some (vI a4), none, some (vI r_1), some (vI (M (M c0 11) r_1)), some (vI y0_2093), some (vI 0), none]) dX8_follow_138 (by decide) rfl rfl rfl ?_
          have L_2243 : ∀ (n_2244 : Nat) (x9_2241 : Int) (N_2242 : Mem), Inv false N_2242 → Fr f_c_X8_follow M N_2242 → 0 ≤ x9_2241 ∧ x9_2241 ≤ 4 → (4 - (x9_2241)).toNat = n_2244 → KJ false G X N_2242 140 [some (vR G c0), some (vR G c1), some (vI a2), some (vI a3), some (vI a4), none, some (vI r_1), some (vI (M (M c0 11) r_1)), some (vI y0_2093), some (vI x9_2241), none] [] := by
            intro n_2244
            refine Nat.strongRecOn n_2244 ?_
            intro n_2244 ih_2245 x9_2241 N_2242 hI_N_2242 hF_N_2242 h_2246 hm_2247
            refine kx_iload 142 F 9 dX8_follow_140 rfl rfl ?_
            refine kx_iload 144 F 8 dX8_follow_142 rfl rfl ?_
            refine kx_icmp_ge 147 F 202 dX8_follow_144 (by decide) rfl (by omega) (by omega) (fun h_2248 => ?_) (fun h_2248 => ?_)
            · exact kx_vret F hQ ⟨hI_N_2242, hF_N_2242⟩ dX8_follow_202
            · refine kx_aload_n 148 F 0 dX8_follow_147 rfl rfl rfl ?_
              refine kx_iload 150 F 9 dX8_follow_148 rfl rfl ?_
              refine kx_aload_n 151 F 0 dX8_follow_150 rfl rfl rfl ?_
              refine kx_geti 154 F fl_X8_42 hk_c0 rfl rfl (j := 0) rfl dX8_follow_151 (v := (M c0 0)) (by rw [Fr.e hF_N_2242 hk_c0 _ rfl]) rfl ?_
              have h_2249 := Inv.g hI_M hk_c0 rfl 0 (a := 0) (b := 2) rfl rfl
              have J_2253 : ∀ (y0_2252 : Int), 0 ≤ y0_2252 ∧ y0_2252 ≤ 1 → KJ false G X N_2242 162 [some (vR G c0), some (vR G c1), some (vI a2), some (vI a3), some (vI a4), none, some (vI r_1), some (vI (M (M c0 11) r_1)), some (vI y0_2093), some (vI x9_2241), none] [vI y0_2252, vR G c0] := by
                intro y0_2252 h_2254
                refine kx_iload_n 163 F 3 dX8_follow_162 rfl rfl rfl ?_
                refine kx_iconst 164 F dX8_follow_163 rfl ?_
                refine kx_iadd 165 F (v := a3 + 1) dX8_follow_164 rfl rfl ?_
                refine kx_iload 167 F 4 dX8_follow_165 rfl rfl ?_
                refine kx_aload_n 168 F 1 dX8_follow_167 rfl rfl rfl ?_
                refine kx_getr 171 F fl_X8_117 hk_c1 rfl rfl (j := 10) rfl dX8_follow_168 (v := (M c1 10)) (by rw [Fr.e hF_N_2242 hk_c1 _ rfl]) rfl ?_
                have hk_2255 : kd (M c1 10) = 6 := Inv.r hI_M hk_c1 rfl 10 rfl rfl
                refine kx_iload 173 F 9 dX8_follow_171 rfl rfl ?_
                refine kx_iald 174 F hk_2255 rfl rfl (by omega) (by decide) dX8_follow_173 (v := (M (M c1 10) x9_2241)) (by rw [Fr.e hF_N_2242 hk_2255 _ rfl]) rfl ?_
                have h_2256 := Inv.g hI_M hk_2255 rfl x9_2241 (a := 0) (b := 511) rfl rfl
                refine kx_Si 177 F (As := [vI a4, vI (M (M c1 10) x9_2241)]) (st := [vI (a3 + 1), vI y0_2252, vR G c0]) sd_X8_135 (c_X2_image G l N_2242 a4 (M (M c1 10) x9_2241) hI_N_2242 (by omega)) ⟨by decide, by decide⟩ rfl rfl (Nat.le_of_ble_eq_true rfl) dX8_follow_174 rfl ?_
                intro r_2257 N_2258 q_2259
                obtain ⟨rfl, q_2259c⟩ := q_2259
                refine kx_iload 179 F 7 dX8_follow_177 rfl rfl ?_
                refine kx_aload_n 180 F 0 dX8_follow_179 rfl rfl rfl ?_
                refine kx_aload_n 181 F 0 dX8_follow_180 rfl rfl rfl ?_
                refine kx_getr 184 F fl_X8_33 hk_c0 rfl rfl (j := 12) rfl dX8_follow_181 (v := (M c0 12)) (by rw [Fr.e hF_N_2242 hk_c0 _ rfl]) rfl ?_
                have hk_2260 : kd (M c0 12) = 55 := Inv.r hI_M hk_c0 rfl 12 rfl rfl
                refine kx_iload 186 F 6 dX8_follow_184 rfl rfl ?_
                refine kx_iald 187 F hk_2260 rfl rfl (by omega) (by decide) dX8_follow_186 (v := (N_2242 (M c0 12) r_1)) rfl rfl ?_
                have h_2261 := Inv.g hI_N_2242 hk_2260 rfl r_1 (a := (-2147483648)) (b := 2147483647) rfl rfl
                refine kx_iconst 188 F dX8_follow_187 rfl ?_
                refine kx_iload 190 F 9 dX8_follow_188 rfl rfl ?_
                refine kx_Vi 193 (ci := 0) F (As := [vI (N_2242 (M c0 12) r_1), vI 1, vI x9_2241]) (st := [vI (M (M c0 11) r_1), vI r_2257, vI (a3 + 1), vI y0_2252, vR G c0]) vd_X8_123 (c_X8_codeOf G l N_2242 c0 (N_2242 (M c0 12) r_1) 1 x9_2241 hI_N_2242 hk_c0 (by omega)) hk_c0 rfl rfl rfl ⟨by decide, by decide⟩ rfl rfl (Nat.le_of_ble_eq_true rfl) dX8_follow_190 rfl ?_
                intro r_2262 N_2263 q_2264
                obtain ⟨rfl, q_2264c⟩ := q_2264
                refine kx_Vv 196 (ci := 0) F (As := [vI y0_2252, vI (a3 + 1), vI r_2257, vI (M (M c0 11) r_1), vI r_2262]) (st := []) vd_X8_66 (c_X8_lead G l N_2242 c0 y0_2252 (a3 + 1) r_2257 (M (M c0 11) r_1) r_2262 hI_N_2242 hk_c0 (by omega)) hk_c0 rfl rfl rfl ⟨by decide, by decide⟩ rfl rfl (Nat.le_of_ble_eq_true rfl) dX8_follow_193 rfl ?_
                intro N_2265 q_2266
                obtain ⟨hI_N_2265, hG_N_2265⟩ := q_2266
                have hF_N_2265 : Fr f_c_X8_follow M N_2265 := Fr.c hF_N_2242 hG_N_2265 rfl
                refine kx_iinc 199 F 9 (v := x9_2241 + 1) (lo' := [some (vR G c0), some (vR G c1), some (vI a2), some (vI a3), some (vI a4), none, some (vI r_1), some (vI (M (M c0 11) r_1)), some (vI y0_2093), some (vI (x9_2241 + 1)), none]) dX8_follow_196 rfl (by omega) (by decide) rfl rfl rfl ?_
                refine kx_goto 140 F dX8_follow_199 (by decide) ?_
                exact ih_2245 _ (by omega) (x9_2241 + 1) N_2265 hI_N_2265 hF_N_2265 (by omega) rfl
              refine kx_icmp_ge 157 F 161 dX8_follow_154 (by decide) rfl (by omega) (by omega) (fun h_2267 => ?_) (fun h_2267 => ?_)
              · refine kx_iload_n 162 F 2 dX8_follow_161 rfl rfl rfl ?_
                exact J_2253 a2 (by omega)
              · refine kx_iconst 158 F dX8_follow_157 rfl ?_
                refine kx_goto 162 F dX8_follow_158 (by decide) ?_
                exact J_2253 1 (by omega)
          exact L_2243 _ 0 N_2080 hI_N_2080 hF_N_2080 (by omega) rfl
        refine kx_if_ne 124 F 131 dX8_follow_121 (by decide) rfl (by omega) (fun h_2268 => ?_) (fun h_2268 => ?_)
        · refine kx_aload_n 132 F 0 dX8_follow_131 rfl rfl rfl ?_
          refine kx_geti 135 F fl_X8_42 hk_c0 rfl rfl (j := 0) rfl dX8_follow_132 (v := (M c0 0)) (by rw [Fr.e hF_N_2080 hk_c0 _ rfl]) rfl ?_
          have h_2269 := Inv.g hI_M hk_c0 rfl 0 (a := 0) (b := 2) rfl rfl
          refine kx_drop 5 (lo' := [some (vR G c0), some (vR G c1), some (vI a2), some (vI a3), some (vI a4), none, some (vI r_1), some (vI (M (M c0 11) r_1)), some (vI x8_2079), none, none]) rfl ?_
          refine kx_drop 8 (lo' := [some (vR G c0), some (vR G c1), some (vI a2), some (vI a3), some (vI a4), none, some (vI r_1), some (vI (M (M c0 11) r_1)), none, none, none]) rfl ?_
          exact J_2094 (M c0 0) (by omega)
        · refine kx_aload_n 125 F 0 dX8_follow_124 rfl rfl rfl ?_
          refine kx_geti 128 F fl_X8_46 hk_c0 rfl rfl (j := 1) rfl dX8_follow_125 (v := (M c0 1)) (by rw [Fr.e hF_N_2080 hk_c0 _ rfl]) rfl ?_
          have h_2270 := Inv.g hI_M hk_c0 rfl 1 (a := 0) (b := 4) rfl rfl
          refine kx_goto 135 F dX8_follow_128 (by decide) ?_
          refine kx_drop 5 (lo' := [some (vR G c0), some (vR G c1), some (vI a2), some (vI a3), some (vI a4), none, some (vI r_1), some (vI (M (M c0 11) r_1)), some (vI x8_2079), none, none]) rfl ?_
          refine kx_drop 8 (lo' := [some (vR G c0), some (vR G c1), some (vI a2), some (vI a3), some (vI a4), none, some (vI r_1), some (vI (M (M c0 11) r_1)), none, none, none]) rfl ?_
          exact J_2094 (M c0 1) (by omega)
      · refine kx_aload_n 37 F 0 dX8_follow_36 rfl rfl rfl ?_
        refine kx_aload_n 38 F 0 dX8_follow_37 rfl rfl rfl ?_
        refine kx_getr 41 F fl_X8_33 hk_c0 rfl rfl (j := 12) rfl dX8_follow_38 (v := (M c0 12)) (by rw [Fr.e hF_N_2080 hk_c0 _ rfl]) rfl ?_
        have hk_2271 : kd (M c0 12) = 55 := Inv.r hI_M hk_c0 rfl 12 rfl rfl
        refine kx_iload 43 F 6 dX8_follow_41 rfl rfl ?_
        refine kx_iald 44 F hk_2271 rfl rfl (by omega) (by decide) dX8_follow_43 (v := (N_2080 (M c0 12) r_1)) rfl rfl ?_
        have h_2272 := Inv.g hI_N_2080 hk_2271 rfl r_1 (a := (-2147483648)) (b := 2147483647) rfl rfl
        refine kx_iload 46 F 8 dX8_follow_44 rfl rfl ?_
        refine kx_iconst 47 F dX8_follow_46 rfl ?_
        refine kx_Vi 50 (ci := 0) F (As := [vI (N_2080 (M c0 12) r_1), vI x8_2079, vI 0]) (st := []) vd_X8_123 (c_X8_codeOf G l N_2080 c0 (N_2080 (M c0 12) r_1) x8_2079 0 hI_N_2080 hk_c0 (by omega)) hk_c0 rfl rfl rfl ⟨by decide, by decide⟩ rfl rfl (Nat.le_of_ble_eq_true rfl) dX8_follow_47 rfl ?_
        intro r_2273 N_2274 q_2275
        obtain ⟨rfl, q_2275c⟩ := q_2275
        refine kx_istore 52 F 9 (lo' := [some (vR G c0), some (vR G c1), some (vI a2), some (vI a3), some (vI a4), some (vI a5), some (vI r_1), some (vI (M (M c0 11) r_1)), some (vI x8_2079), some (vI r_2273), none]) dX8_follow_50 (by decide) rfl rfl rfl ?_
        refine kx_aload_n 53 F 0 dX8_follow_52 rfl rfl rfl ?_
        refine kx_getr 56 F fl_X8_27 hk_c0 rfl rfl (j := 10) rfl dX8_follow_53 (v := (M c0 10)) (by rw [Fr.e hF_N_2080 hk_c0 _ rfl]) rfl ?_
        have hk_2276 : kd (M c0 10) = 53 := Inv.r hI_M hk_c0 rfl 10 rfl rfl
        refine kx_iload 58 F 8 dX8_follow_56 rfl rfl ?_
        refine kx_iconst 59 F dX8_follow_58 rfl ?_
        refine kx_isub 60 F (v := x8_2079 - 1) dX8_follow_59 rfl rfl ?_
        refine kx_iald 61 F hk_2276 rfl rfl (by omega) (by decide) dX8_follow_60 (v := (M (M c0 10) (x8_2079 - 1))) (by rw [Fr.e hF_N_2080 hk_2276 _ rfl]) rfl ?_
        have h_2277 := Inv.g hI_M hk_2276 rfl (x8_2079 - 1) (a := 0) (b := 750) rfl rfl
        refine kx_istore 63 F 10 (lo' := [some (vR G c0), some (vR G c1), some (vI a2), some (vI a3), some (vI a4), some (vI a5), some (vI r_1), some (vI (M (M c0 11) r_1)), some (vI x8_2079), some (vI r_2273), some (vI (M (M c0 10) (x8_2079 - 1)))]) dX8_follow_61 (by decide) rfl rfl rfl ?_
        have L_2295 : ∀ (n_2296 : Nat) (x10_2293 : Int) (N_2294 : Mem), Inv false N_2294 → Fr f_c_X8_follow M N_2294 → 0 ≤ x10_2293 ∧ x10_2293 ≤ 750 ∧ (M (M c0 10) (x8_2079 - 1)) ≤ x10_2293 → (750 - (x10_2293)).toNat = n_2296 → KJ false G X N_2294 63 [some (vR G c0), some (vR G c1), some (vI a2), some (vI a3), some (vI a4), some (vI a5), some (vI r_1), some (vI (M (M c0 11) r_1)), some (vI x8_2079), some (vI r_2273), some (vI x10_2293)] [] := by
          intro n_2296
          refine Nat.strongRecOn n_2296 ?_
          intro n_2296 ih_2297 x10_2293 N_2294 hI_N_2294 hF_N_2294 h_2298 hm_2299
          refine kx_iload 65 F 10 dX8_follow_63 rfl rfl ?_
          refine kx_aload_n 66 F 0 dX8_follow_65 rfl rfl rfl ?_
          refine kx_getr 69 F fl_X8_27 hk_c0 rfl rfl (j := 10) rfl dX8_follow_66 (v := (M c0 10)) (by rw [Fr.e hF_N_2294 hk_c0 _ rfl]) rfl ?_
          refine kx_iload 71 F 8 dX8_follow_69 rfl rfl ?_
          refine kx_iald 72 F hk_2276 rfl rfl (by omega) (by decide) dX8_follow_71 (v := (M (M c0 10) x8_2079)) (by rw [Fr.e hF_N_2294 hk_2276 _ rfl]) rfl ?_
          have h_2300 := Inv.g hI_M hk_2276 rfl x8_2079 (a := 0) (b := 750) rfl rfl
          refine kx_icmp_ge 75 F 114 dX8_follow_72 (by decide) rfl (by omega) (by omega) (fun h_2301 => ?_) (fun h_2301 => ?_)
          · refine kx_iinc 117 F 8 (v := x8_2079 + 1) (lo' := [some (vR G c0), some (vR G c1), some (vI a2), some (vI a3), some (vI a4), some (vI a5), some (vI r_1), some (vI (M (M c0 11) r_1)), some (vI (x8_2079 + 1)), some (vI r_2273), some (vI x10_2293)]) dX8_follow_114 rfl (by omega) (by decide) rfl rfl rfl ?_
            refine kx_goto 27 F dX8_follow_117 (by decide) ?_
            refine kx_drop 9 (lo' := [some (vR G c0), some (vR G c1), some (vI a2), some (vI a3), some (vI a4), some (vI a5), some (vI r_1), some (vI (M (M c0 11) r_1)), some (vI (x8_2079 + 1)), none, some (vI x10_2293)]) rfl ?_
            refine kx_drop 10 (lo' := [some (vR G c0), some (vR G c1), some (vI a2), some (vI a3), some (vI a4), some (vI a5), some (vI r_1), some (vI (M (M c0 11) r_1)), some (vI (x8_2079 + 1)), none, none]) rfl ?_
            exact ih_2083 _ (by omega) (x8_2079 + 1) N_2294 hI_N_2294 hF_N_2294 (by omega) rfl
          · refine kx_aload_n 76 F 0 dX8_follow_75 rfl rfl rfl ?_
            refine kx_iload_n 77 F 2 dX8_follow_76 rfl rfl rfl ?_
            refine kx_iload_n 78 F 3 dX8_follow_77 rfl rfl rfl ?_
            refine kx_iload 80 F 8 dX8_follow_78 rfl rfl ?_
            refine kx_iadd 81 F (v := a3 + x8_2079) dX8_follow_80 rfl rfl ?_
            refine kx_iload 83 F 4 dX8_follow_81 rfl rfl ?_
            refine kx_aload_n 84 F 0 dX8_follow_83 rfl rfl rfl ?_
            refine kx_getr 87 F fl_X8_21 hk_c0 rfl rfl (j := 8) rfl dX8_follow_84 (v := (M c0 8)) (by rw [Fr.e hF_N_2294 hk_c0 _ rfl]) rfl ?_
            have hk_2302 : kd (M c0 8) = 51 := Inv.r hI_M hk_c0 rfl 8 rfl rfl
            refine kx_iload 89 F 10 dX8_follow_87 rfl rfl ?_
            refine kx_iald 90 F hk_2302 rfl rfl (by omega) (by decide) dX8_follow_89 (v := (M (M c0 8) x10_2293)) (by rw [Fr.e hF_N_2294 hk_2302 _ rfl]) rfl ?_
            have h_2303 := Inv.g hI_M hk_2302 rfl x10_2293 (a := 0) (b := 511) rfl rfl
            refine kx_Si 93 F (As := [vI a4, vI (M (M c0 8) x10_2293)]) (st := [vI (a3 + x8_2079), vI a2, vR G c0]) sd_X8_135 (c_X2_image G l N_2294 a4 (M (M c0 8) x10_2293) hI_N_2294 (by omega)) ⟨by decide, by decide⟩ rfl rfl (Nat.le_of_ble_eq_true rfl) dX8_follow_90 rfl ?_
            intro r_2304 N_2305 q_2306
            obtain ⟨rfl, q_2306c⟩ := q_2306
            refine kx_iload 95 F 7 dX8_follow_93 rfl rfl ?_
            refine kx_iload 97 F 9 dX8_follow_95 rfl rfl ?_
            refine kx_aload_n 98 F 0 dX8_follow_97 rfl rfl rfl ?_
            refine kx_getr 101 F fl_X8_24 hk_c0 rfl rfl (j := 9) rfl dX8_follow_98 (v := (M c0 9)) (by rw [Fr.e hF_N_2294 hk_c0 _ rfl]) rfl ?_
            have hk_2307 : kd (M c0 9) = 52 := Inv.r hI_M hk_c0 rfl 9 rfl rfl
            refine kx_iload 103 F 10 dX8_follow_101 rfl rfl ?_
            refine kx_iald 104 F hk_2307 rfl rfl (by omega) (by decide) dX8_follow_103 (v := (M (M c0 9) x10_2293)) (by rw [Fr.e hF_N_2294 hk_2307 _ rfl]) rfl ?_
            have h_2308 := Inv.g hI_M hk_2307 rfl x10_2293 (a := (-2147483648)) (b := 2147483647) rfl rfl
            refine kx_iadd 105 F (v := r_2273 + (M (M c0 9) x10_2293)) dX8_follow_104 rfl rfl ?_
            refine kx_wrapi (fun w_2309 h_2310 _ => ?_)
            refine kx_Vv 108 (ci := 0) F (As := [vI a2, vI (a3 + x8_2079), vI r_2304, vI (M (M c0 11) r_1), vI w_2309]) (st := []) vd_X8_66 (c_X8_lead G l N_2294 c0 a2 (a3 + x8_2079) r_2304 (M (M c0 11) r_1) w_2309 hI_N_2294 hk_c0 (by omega)) hk_c0 rfl rfl rfl ⟨by decide, by decide⟩ rfl rfl (Nat.le_of_ble_eq_true rfl) dX8_follow_105 rfl ?_
            intro N_2311 q_2312
            obtain ⟨hI_N_2311, hG_N_2311⟩ := q_2312
            have hF_N_2311 : Fr f_c_X8_follow M N_2311 := Fr.c hF_N_2294 hG_N_2311 rfl
            refine kx_iinc 111 F 10 (v := x10_2293 + 1) (lo' := [some (vR G c0), some (vR G c1), some (vI a2), some (vI a3), some (vI a4), some (vI a5), some (vI r_1), some (vI (M (M c0 11) r_1)), some (vI x8_2079), some (vI r_2273), some (vI (x10_2293 + 1))]) dX8_follow_108 rfl (by omega) (by decide) rfl rfl rfl ?_
            refine kx_goto 63 F dX8_follow_111 (by decide) ?_
            exact ih_2297 _ (by omega) (x10_2293 + 1) N_2311 hI_N_2311 hF_N_2311 (by omega) rfl
        exact L_2295 _ (M (M c0 10) (x8_2079 - 1)) N_2080 hI_N_2080 hF_N_2080 (by omega) rfl
    exact L_2081 _ 1 M hI_M hF_M (by omega) rfl
  · exact kx_vret F hQ ⟨hI_M, hF_M⟩ dX8_follow_23
