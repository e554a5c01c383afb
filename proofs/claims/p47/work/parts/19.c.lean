set_option maxRecDepth 100000 in
theorem dGR_19_c_563 : (decode cJ0_coder_7d493 0 = .ok (.getstatic 38, 3)) ∧ (decode cJ0_coder_7d493 3 = .ok (.ifCond .eq 10, 3)) ∧ (decode cJ0_coder_7d493 6 = .ok (.aload_n 0, 1)) ∧ (decode cJ0_coder_7d493 7 = .ok (.getfield 15, 3)) ∧ (decode cJ0_coder_7d493 10 = .ok (.goto 4, 3)) ∧ (decode cJ0_coder_7d493 14 = .ok (.ireturn, 1)) := by decide +kernel
theorem dJ0_coder_7d493_0 : decode cJ0_coder_7d493 0 = .ok (.getstatic 38, 3) := dGR_19_c_563.1
theorem dJ0_coder_7d493_3 : decode cJ0_coder_7d493 3 = .ok (.ifCond .eq 10, 3) := dGR_19_c_563.2.1
theorem dJ0_coder_7d493_6 : decode cJ0_coder_7d493 6 = .ok (.aload_n 0, 1) := dGR_19_c_563.2.2.1
theorem dJ0_coder_7d493_7 : decode cJ0_coder_7d493 7 = .ok (.getfield 15, 3) := dGR_19_c_563.2.2.2.1
theorem dJ0_coder_7d493_10 : decode cJ0_coder_7d493 10 = .ok (.goto 4, 3) := dGR_19_c_563.2.2.2.2.1
theorem dJ0_coder_7d493_14 : decode cJ0_coder_7d493 14 = .ok (.ireturn, 1) := dGR_19_c_563.2.2.2.2.2
set_option maxHeartbeats 4000000 in
set_option maxRecDepth 100000 in
theorem c_coder_f (G : KG) (l : Launch) (M : Mem) (i0 : Nat) (hI_M : Inv false M) (hpre : i0 < 12) : KC false G l yJ0_coder_7d493 cJ0_coder_7d493 1 (some .byte) (0, 0) [vT G i0] M (fun A => kQi false G A (fun (r : Int) (N : Mem) => M = N ∧ (r = 0))) := by
  refine kx_met (lo := [some (vT G i0)]) (by decide) (Nat.le_of_ble_eq_true rfl) rfl ?_
  intro X F hQ
  refine kx_gets1 3 F (tt lm_843 rfl) dJ0_coder_7d493_0 rfl ?_
  refine kx_if_eq 6 F 13 dJ0_coder_7d493_3 (by decide) rfl (by decide) (fun h_1 => (by exfalso; omega)) (fun h_1 => ?_)
  refine kx_aload_n 7 F 0 dJ0_coder_7d493_6 rfl rfl rfl ?_
  refine kx_sgetc 10 F (by omega) (tt lm_2366 rfl) dJ0_coder_7d493_7 rfl ?_
  refine kx_goto 14 F dJ0_coder_7d493_10 (by decide) ?_
  exact kx_nret F hQ rfl ⟨rfl, (by omega)⟩ dJ0_coder_7d493_14
set_option maxRecDepth 100000 in
theorem dGR_19_c_564 : (decode cJ0_isLatin1_aae02 0 = .ok (.getstatic 38, 3)) ∧ (decode cJ0_isLatin1_aae02 3 = .ok (.ifCond .eq 14, 3)) ∧ (decode cJ0_isLatin1_aae02 6 = .ok (.aload_n 0, 1)) ∧ (decode cJ0_isLatin1_aae02 7 = .ok (.getfield 15, 3)) ∧ (decode cJ0_isLatin1_aae02 10 = .ok (.ifCond .ne 7, 3)) ∧ (decode cJ0_isLatin1_aae02 13 = .ok (.iconst 1, 1)) ∧ (decode cJ0_isLatin1_aae02 14 = .ok (.goto 4, 3)) ∧ (decode cJ0_isLatin1_aae02 17 = .ok (.iconst 0, 1)) ∧ (decode cJ0_isLatin1_aae02 18 = .ok (.ireturn, 1)) := by decide +kernel
theorem dJ0_isLatin1_aae02_0 : decode cJ0_isLatin1_aae02 0 = .ok (.getstatic 38, 3) := dGR_19_c_564.1
theorem dJ0_isLatin1_aae02_3 : decode cJ0_isLatin1_aae02 3 = .ok (.ifCond .eq 14, 3) := dGR_19_c_564.2.1
theorem dJ0_isLatin1_aae02_6 : decode cJ0_isLatin1_aae02 6 = .ok (.aload_n 0, 1) := dGR_19_c_564.2.2.1
theorem dJ0_isLatin1_aae02_7 : decode cJ0_isLatin1_aae02 7 = .ok (.getfield 15, 3) := dGR_19_c_564.2.2.2.1
theorem dJ0_isLatin1_aae02_10 : decode cJ0_isLatin1_aae02 10 = .ok (.ifCond .ne 7, 3) := dGR_19_c_564.2.2.2.2.1
theorem dJ0_isLatin1_aae02_13 : decode cJ0_isLatin1_aae02 13 = .ok (.iconst 1, 1) := dGR_19_c_564.2.2.2.2.2.1
theorem dJ0_isLatin1_aae02_14 : decode cJ0_isLatin1_aae02 14 = .ok (.goto 4, 3) := dGR_19_c_564.2.2.2.2.2.2.1
theorem dJ0_isLatin1_aae02_17 : decode cJ0_isLatin1_aae02 17 = .ok (.iconst 0, 1) := dGR_19_c_564.2.2.2.2.2.2.2.1
theorem dJ0_isLatin1_aae02_18 : decode cJ0_isLatin1_aae02 18 = .ok (.ireturn, 1) := dGR_19_c_564.2.2.2.2.2.2.2.2
set_option maxHeartbeats 4000000 in
set_option maxRecDepth 100000 in
theorem c_isLatin1_f (G : KG) (l : Launch) (M : Mem) (i0 : Nat) (hI_M : Inv false M) (hpre : i0 < 12) : KC false G l yJ0_isLatin1_aae02 cJ0_isLatin1_aae02 1 (some .boolean) (0, 0) [vT G i0] M (fun A => kQi false G A (fun (r : Int) (N : Mem) => M = N ∧ (r = 1))) := by
  refine kx_met (lo := [some (vT G i0)]) (by decide) (Nat.le_of_ble_eq_true rfl) rfl ?_
  intro X F hQ
  refine kx_gets1 3 F (tt lm_843 rfl) dJ0_isLatin1_aae02_0 rfl ?_
  refine kx_if_eq 6 F 17 dJ0_isLatin1_aae02_3 (by decide) rfl (by decide) (fun h_1 => (by exfalso; omega)) (fun h_1 => ?_)
  refine kx_aload_n 7 F 0 dJ0_isLatin1_aae02_6 rfl rfl rfl ?_
  refine kx_sgetc 10 F (by omega) (tt lm_2366 rfl) dJ0_isLatin1_aae02_7 rfl ?_
  refine kx_if_ne 13 F 17 dJ0_isLatin1_aae02_10 (by decide) rfl (by decide) (fun h_2 => ?_) (fun h_2 => ?_)
  · refine kx_iconst 18 F dJ0_isLatin1_aae02_17 rfl ?_
    exact kx_zret F hQ (by omega) ⟨rfl, (by omega)⟩ dJ0_isLatin1_aae02_18
  · refine kx_iconst 14 F dJ0_isLatin1_aae02_13 rfl ?_
    refine kx_goto 18 F dJ0_isLatin1_aae02_14 (by decide) ?_
    exact kx_zret F hQ (by omega) ⟨rfl, (by omega)⟩ dJ0_isLatin1_aae02_18
set_option maxRecDepth 100000 in
theorem dGR_19_c_565 : (decode cJ0_length_8abf5 0 = .ok (.aload_n 0, 1)) ∧ (decode cJ0_length_8abf5 1 = .ok (.getfield 9, 3)) ∧ (decode cJ0_length_8abf5 4 = .ok (.arraylength, 1)) ∧ (decode cJ0_length_8abf5 5 = .ok (.aload_n 0, 1)) ∧ (decode cJ0_length_8abf5 6 = .ok (.invokevirtual 335, 3)) ∧ (decode cJ0_length_8abf5 9 = .ok (.ishr, 1)) ∧ (decode cJ0_length_8abf5 10 = .ok (.ireturn, 1)) := by decide +kernel
theorem dJ0_length_8abf5_0 : decode cJ0_length_8abf5 0 = .ok (.aload_n 0, 1) := dGR_19_c_565.1
theorem dJ0_length_8abf5_1 : decode cJ0_length_8abf5 1 = .ok (.getfield 9, 3) := dGR_19_c_565.2.1
theorem dJ0_length_8abf5_4 : decode cJ0_length_8abf5 4 = .ok (.arraylength, 1) := dGR_19_c_565.2.2.1
theorem dJ0_length_8abf5_5 : decode cJ0_length_8abf5 5 = .ok (.aload_n 0, 1) := dGR_19_c_565.2.2.2.1
theorem dJ0_length_8abf5_6 : decode cJ0_length_8abf5 6 = .ok (.invokevirtual 335, 3) := dGR_19_c_565.2.2.2.2.1
theorem dJ0_length_8abf5_9 : decode cJ0_length_8abf5 9 = .ok (.ishr, 1) := dGR_19_c_565.2.2.2.2.2.1
theorem dJ0_length_8abf5_10 : decode cJ0_length_8abf5 10 = .ok (.ireturn, 1) := dGR_19_c_565.2.2.2.2.2.2
set_option maxHeartbeats 4000000 in
set_option maxRecDepth 100000 in
theorem c_slength_f (G : KG) (l : Launch) (M : Mem) (i0 : Nat) (hI_M : Inv false M) (hpre : i0 < 12) : KC false G l yJ0_length_8abf5 cJ0_length_8abf5 1 (some .int) (1, 20) [vT G i0] M (fun A => kQi false G A (fun (r : Int) (N : Mem) => M = N ∧ (r = (slen i0)))) := by
  refine kx_met (lo := [some (vT G i0)]) (by decide) (Nat.le_of_ble_eq_true rfl) rfl ?_
  intro X F hQ
  refine kx_aload_n 1 F 0 dJ0_length_8abf5_0 rfl rfl rfl ?_
  refine kx_sgetv 4 F (by omega) (tt lm_2365 rfl) dJ0_length_8abf5_1 rfl ?_
  refine kx_salen 5 F (by omega) dJ0_length_8abf5_4 rfl ?_
  have h_1 := slen_rng i0
  refine kx_aload_n 6 F 0 dJ0_length_8abf5_5 rfl rfl rfl ?_
  refine kx_VSi 9 F (As := []) (st := [vI (slen i0)]) (by omega) vd_J0_335 (c_coder_f G l M i0 hI_M (by omega)) rfl ⟨by decide, by decide⟩ rfl rfl (Nat.le_of_ble_eq_true rfl) dJ0_length_8abf5_6 rfl ?_
  intro r_2 N_3 q_4
  obtain ⟨rfl, q_4c⟩ := q_4
  subst q_4c
  refine kx_ishr 10 F (v := (slen i0)) dJ0_length_8abf5_9 (zshr_0 (by omega)) rfl ?_
  exact kx_iret F hQ ⟨rfl, (by omega)⟩ dJ0_length_8abf5_10
set_option maxRecDepth 100000 in
theorem dGR_19_c_566 : (decode cJ3_checkIndex_8e157 0 = .ok (.iload_n 0, 1)) ∧ (decode cJ3_checkIndex_8e157 1 = .ok (.ifCond .lt 8, 3)) ∧ (decode cJ3_checkIndex_8e157 4 = .ok (.iload_n 0, 1)) ∧ (decode cJ3_checkIndex_8e157 5 = .ok (.iload_n 1, 1)) ∧ (decode cJ3_checkIndex_8e157 6 = .ok (.if_icmp .lt 10, 3)) ∧ (decode cJ3_checkIndex_8e157 16 = .ok (.iload_n 0, 1)) ∧ (decode cJ3_checkIndex_8e157 17 = .ok (.ireturn, 1)) := by decide +kernel
theorem dJ3_checkIndex_8e157_0 : decode cJ3_checkIndex_8e157 0 = .ok (.iload_n 0, 1) := dGR_19_c_566.1
theorem dJ3_checkIndex_8e157_1 : decode cJ3_checkIndex_8e157 1 = .ok (.ifCond .lt 8, 3) := dGR_19_c_566.2.1
theorem dJ3_checkIndex_8e157_4 : decode cJ3_checkIndex_8e157 4 = .ok (.iload_n 0, 1) := dGR_19_c_566.2.2.1
theorem dJ3_checkIndex_8e157_5 : decode cJ3_checkIndex_8e157 5 = .ok (.iload_n 1, 1) := dGR_19_c_566.2.2.2.1
theorem dJ3_checkIndex_8e157_6 : decode cJ3_checkIndex_8e157 6 = .ok (.if_icmp .lt 10, 3) := dGR_19_c_566.2.2.2.2.1
theorem dJ3_checkIndex_8e157_16 : decode cJ3_checkIndex_8e157 16 = .ok (.iload_n 0, 1) := dGR_19_c_566.2.2.2.2.2.1
theorem dJ3_checkIndex_8e157_17 : decode cJ3_checkIndex_8e157 17 = .ok (.ireturn, 1) := dGR_19_c_566.2.2.2.2.2.2
set_option maxHeartbeats 4000000 in
set_option maxRecDepth 100000 in
theorem c_pcheck_f (G : KG) (l : Launch) (M : Mem) (a0 : Int) (a1 : Int) (x2 : Value) (hI_M : Inv false M) (hpre : -2147483648 ≤ a0 ∧ a0 ≤ 2147483647 ∧ -2147483648 ≤ a1 ∧ a1 ≤ 2147483647 ∧ 0 ≤ a0 ∧ a0 < a1) (hc_x2 : x2.category = 1) : KC false G l yJ3_checkIndex_8e157 cJ3_checkIndex_8e157 3 (some .int) (0, 0) [vI a0, vI a1, x2] M (fun A => kQi false G A (fun (r : Int) (N : Mem) => M = N ∧ (r = a0))) := by
  refine kx_met (lo := [some (vI a0), some (vI a1), some (x2)]) (by decide) (lg3 rfl rfl hc_x2) rfl ?_
  intro X F hQ
  refine kx_iload_n 1 F 0 dJ3_checkIndex_8e157_0 rfl rfl rfl ?_
  refine kx_if_lt 4 F 9 dJ3_checkIndex_8e157_1 (by decide) rfl (by omega) (fun h_1 => (by exfalso; omega)) (fun h_1 => ?_)
  refine kx_iload_n 5 F 0 dJ3_checkIndex_8e157_4 rfl rfl rfl ?_
  refine kx_iload_n 6 F 1 dJ3_checkIndex_8e157_5 rfl rfl rfl ?_
  refine kx_icmp_lt 9 F 16 dJ3_checkIndex_8e157_6 (by decide) rfl (by omega) (by omega) (fun h_2 => ?_) (fun h_2 => (by exfalso; omega))
  refine kx_iload_n 17 F 0 dJ3_checkIndex_8e157_16 rfl rfl rfl ?_
  exact kx_iret F hQ ⟨rfl, (by omega)⟩ dJ3_checkIndex_8e157_17
set_option maxRecDepth 100000 in
theorem dGR_19_c_567 : (decode cJ0_checkIndex_df160 0 = .ok (.iload_n 0, 1)) ∧ (decode cJ0_checkIndex_df160 1 = .ok (.iload_n 1, 1)) ∧ (decode cJ0_checkIndex_df160 2 = .ok (.getstatic 1053, 3)) ∧ (decode cJ0_checkIndex_df160 5 = .ok (.invokestatic 1059, 3)) ∧ (decode cJ0_checkIndex_df160 8 = .ok (.pop, 1)) ∧ (decode cJ0_checkIndex_df160 9 = .ok (.return_, 1)) := by decide +kernel
theorem dJ0_checkIndex_df160_0 : decode cJ0_checkIndex_df160 0 = .ok (.iload_n 0, 1) := dGR_19_c_567.1
theorem dJ0_checkIndex_df160_1 : decode cJ0_checkIndex_df160 1 = .ok (.iload_n 1, 1) := dGR_19_c_567.2.1
theorem dJ0_checkIndex_df160_2 : decode cJ0_checkIndex_df160 2 = .ok (.getstatic 1053, 3) := dGR_19_c_567.2.2.1
theorem dJ0_checkIndex_df160_5 : decode cJ0_checkIndex_df160 5 = .ok (.invokestatic 1059, 3) := dGR_19_c_567.2.2.2.1
theorem dJ0_checkIndex_df160_8 : decode cJ0_checkIndex_df160 8 = .ok (.pop, 1) := dGR_19_c_567.2.2.2.2.1
theorem dJ0_checkIndex_df160_9 : decode cJ0_checkIndex_df160 9 = .ok (.return_, 1) := dGR_19_c_567.2.2.2.2.2
set_option maxHeartbeats 4000000 in
set_option maxRecDepth 100000 in
theorem c_scheck_f (G : KG) (l : Launch) (M : Mem) (a0 : Int) (a1 : Int) (hI_M : Inv false M) (hpre : -2147483648 ≤ a0 ∧ a0 ≤ 2147483647 ∧ -2147483648 ≤ a1 ∧ a1 ≤ 2147483647 ∧ 0 ≤ a0 ∧ a0 < a1) : KC false G l yJ0_checkIndex_df160 cJ0_checkIndex_df160 2 none (1, 22) [vI a0, vI a1] M (fun A => kQv false G A (fun (N : Mem) => M = N)) := by
  refine kx_met (lo := [some (vI a0), some (vI a1)]) (by decide) (Nat.le_of_ble_eq_true rfl) rfl ?_
  intro X F hQ
  refine kx_iload_n 1 F 0 dJ0_checkIndex_df160_0 rfl rfl rfl ?_
  refine kx_iload_n 2 F 1 dJ0_checkIndex_df160_1 rfl rfl rfl ?_
  refine kx_getsq 5 F (tt lm_859 rfl) dJ0_checkIndex_df160_2 rfl (fun v_1 hc_v_1 => ?_)
  refine kx_Si 8 F (As := [vI a0, vI a1, v_1]) (st := []) sd_J0_1059 (c_pcheck_f G l M a0 a1 v_1 hI_M (by omega) hc_v_1) ⟨by decide, by decide⟩ rfl rfl (Nat.le_of_ble_eq_true rfl) dJ0_checkIndex_df160_5 rfl ?_
  intro r_2 N_3 q_4
  obtain ⟨rfl, q_4c⟩ := q_4
  refine kx_pop 9 F dJ0_checkIndex_df160_8 rfl rfl ?_
  exact kx_vret F hQ rfl dJ0_checkIndex_df160_9
set_option maxRecDepth 100000 in
theorem dGR_19_c_568 : (decode cJ1_charAt_3b067 0 = .ok (.iload_n 1, 1)) ∧ (decode cJ1_charAt_3b067 1 = .ok (.aload_n 0, 1)) ∧ (decode cJ1_charAt_3b067 2 = .ok (.arraylength, 1)) ∧ (decode cJ1_charAt_3b067 3 = .ok (.invokestatic 9, 3)) ∧ (decode cJ1_charAt_3b067 6 = .ok (.aload_n 0, 1)) ∧ (decode cJ1_charAt_3b067 7 = .ok (.iload_n 1, 1)) ∧ (decode cJ1_charAt_3b067 8 = .ok (.baload, 1)) ∧ (decode cJ1_charAt_3b067 9 = .ok (.sipush 255, 3)) ∧ (decode cJ1_charAt_3b067 12 = .ok (.iand, 1)) ∧ (decode cJ1_charAt_3b067 13 = .ok (.i2c, 1)) ∧ (decode cJ1_charAt_3b067 14 = .ok (.ireturn, 1)) := by decide +kernel
theorem dJ1_charAt_3b067_0 : decode cJ1_charAt_3b067 0 = .ok (.iload_n 1, 1) := dGR_19_c_568.1
theorem dJ1_charAt_3b067_1 : decode cJ1_charAt_3b067 1 = .ok (.aload_n 0, 1) := dGR_19_c_568.2.1
theorem dJ1_charAt_3b067_2 : decode cJ1_charAt_3b067 2 = .ok (.arraylength, 1) := dGR_19_c_568.2.2.1
theorem dJ1_charAt_3b067_3 : decode cJ1_charAt_3b067 3 = .ok (.invokestatic 9, 3) := dGR_19_c_568.2.2.2.1
theorem dJ1_charAt_3b067_6 : decode cJ1_charAt_3b067 6 = .ok (.aload_n 0, 1) := dGR_19_c_568.2.2.2.2.1
theorem dJ1_charAt_3b067_7 : decode cJ1_charAt_3b067 7 = .ok (.iload_n 1, 1) := dGR_19_c_568.2.2.2.2.2.1
theorem dJ1_charAt_3b067_8 : decode cJ1_charAt_3b067 8 = .ok (.baload, 1) := dGR_19_c_568.2.2.2.2.2.2.1
theorem dJ1_charAt_3b067_9 : decode cJ1_charAt_3b067 9 = .ok (.sipush 255, 3) := dGR_19_c_568.2.2.2.2.2.2.2.1
theorem dJ1_charAt_3b067_12 : decode cJ1_charAt_3b067 12 = .ok (.iand, 1) := dGR_19_c_568.2.2.2.2.2.2.2.2.1
theorem dJ1_charAt_3b067_13 : decode cJ1_charAt_3b067 13 = .ok (.i2c, 1) := dGR_19_c_568.2.2.2.2.2.2.2.2.2.1
theorem dJ1_charAt_3b067_14 : decode cJ1_charAt_3b067 14 = .ok (.ireturn, 1) := dGR_19_c_568.2.2.2.2.2.2.2.2.2.2
set_option maxHeartbeats 4000000 in
set_option maxRecDepth 100000 in
theorem c_lcharAt_f (G : KG) (l : Launch) (M : Mem) (i0 : Nat) (a1 : Int) (hI_M : Inv false M) (hpre : i0 < 12 ∧ -2147483648 ≤ a1 ∧ a1 ≤ 2147483647 ∧ 0 ≤ a1 ∧ a1 < (slen i0)) : KC false G l yJ1_charAt_3b067 cJ1_charAt_3b067 2 (some .char) (2, 43) [vU G i0, vI a1] M (fun A => kQi false G A (fun (r : Int) (N : Mem) => M = N ∧ (r = (zand (schar i0 a1) 255) ∧ r ≥ 0 ∧ r ≤ 255))) := by
  refine kx_met (lo := [some (vU G i0), some (vI a1)]) (by decide) (Nat.le_of_ble_eq_true rfl) rfl ?_
  intro X F hQ
  refine kx_iload_n 1 F 1 dJ1_charAt_3b067_0 rfl rfl rfl ?_
  refine kx_aload_n 2 F 0 dJ1_charAt_3b067_1 rfl rfl rfl ?_
  refine kx_salen 3 F (by omega) dJ1_charAt_3b067_2 rfl ?_
  have h_1 := slen_rng i0
  refine kx_Sv 6 F (As := [vI a1, vI (slen i0)]) (st := []) sd_J1_9 (c_scheck_f G l M a1 (slen i0) hI_M (by omega)) ⟨by decide, by decide⟩ rfl rfl (Nat.le_of_ble_eq_true rfl) dJ1_charAt_3b067_3 rfl ?_
  intro N_2 q_3
  subst q_3
  refine kx_aload_n 7 F 0 dJ1_charAt_3b067_6 rfl rfl rfl ?_
  refine kx_iload_n 8 F 1 dJ1_charAt_3b067_7 rfl rfl rfl ?_
  refine kx_sbald 9 F (by omega) (by omega) dJ1_charAt_3b067_8 rfl ?_
  have h_4 := schar_rng i0 (by omega) a1
  refine kx_sipush 12 F dJ1_charAt_3b067_9 (by decide) rfl ?_
  refine kx_iand 13 F (v := (zand (schar i0 a1) 255)) dJ1_charAt_3b067_12 rfl rfl ?_
  have h_5 := zand_r (a := (schar i0 a1)) (b := 255) (by omega)
  refine kx_i2c 14 F (by omega) dJ1_charAt_3b067_13 rfl ?_
  exact kx_nret F hQ (nar_char (by omega)) ⟨rfl, (by omega)⟩ dJ1_charAt_3b067_14
set_option maxRecDepth 100000 in
theorem dGR_19_c_569 : (decode cJ0_charAt_5068e 0 = .ok (.aload_n 0, 1)) ∧ (decode cJ0_charAt_5068e 1 = .ok (.invokevirtual 492, 3)) ∧ (decode cJ0_charAt_5068e 4 = .ok (.ifCond .eq 12, 3)) ∧ (decode cJ0_charAt_5068e 7 = .ok (.aload_n 0, 1)) ∧ (decode cJ0_charAt_5068e 8 = .ok (.getfield 9, 3)) ∧ (decode cJ0_charAt_5068e 11 = .ok (.iload_n 1, 1)) ∧ (decode cJ0_charAt_5068e 12 = .ok (.invokestatic 495, 3)) ∧ (decode cJ0_charAt_5068e 15 = .ok (.ireturn, 1)) := by decide +kernel
theorem dJ0_charAt_5068e_0 : decode cJ0_charAt_5068e 0 = .ok (.aload_n 0, 1) := dGR_19_c_569.1
theorem dJ0_charAt_5068e_1 : decode cJ0_charAt_5068e 1 = .ok (.invokevirtual 492, 3) := dGR_19_c_569.2.1
theorem dJ0_charAt_5068e_4 : decode cJ0_charAt_5068e 4 = .ok (.ifCond .eq 12, 3) := dGR_19_c_569.2.2.1
theorem dJ0_charAt_5068e_7 : decode cJ0_charAt_5068e 7 = .ok (.aload_n 0, 1) := dGR_19_c_569.2.2.2.1
theorem dJ0_charAt_5068e_8 : decode cJ0_charAt_5068e 8 = .ok (.getfield 9, 3) := dGR_19_c_569.2.2.2.2.1
theorem dJ0_charAt_5068e_11 : decode cJ0_charAt_5068e 11 = .ok (.iload_n 1, 1) := dGR_19_c_569.2.2.2.2.2.1
theorem dJ0_charAt_5068e_12 : decode cJ0_charAt_5068e 12 = .ok (.invokestatic 495, 3) := dGR_19_c_569.2.2.2.2.2.2.1
theorem dJ0_charAt_5068e_15 : decode cJ0_charAt_5068e 15 = .ok (.ireturn, 1) := dGR_19_c_569.2.2.2.2.2.2.2
set_option maxHeartbeats 4000000 in
set_option maxRecDepth 100000 in
theorem c_charAt_f (G : KG) (l : Launch) (M : Mem) (i0 : Nat) (a1 : Int) (hI_M : Inv false M) (hpre : i0 < 12 ∧ -2147483648 ≤ a1 ∧ a1 ≤ 2147483647 ∧ 0 ≤ a1 ∧ a1 < (slen i0)) : KC false G l yJ0_charAt_5068e cJ0_charAt_5068e 2 (some .char) (3, 64) [vT G i0, vI a1] M (fun A => kQi false G A (fun (r : Int) (N : Mem) => M = N ∧ (r = (zand (schar i0 a1) 255) ∧ r ≥ 0 ∧ r ≤ 255))) := by
  refine kx_met (lo := [some (vT G i0), some (vI a1)]) (by decide) (Nat.le_of_ble_eq_true rfl) rfl ?_
  intro X F hQ
  refine kx_aload_n 1 F 0 dJ0_charAt_5068e_0 rfl rfl rfl ?_
  refine kx_VSi 4 F (As := []) (st := []) (by omega) vd_J0_492 (c_isLatin1_f G l M i0 hI_M (by omega)) rfl ⟨by decide, by decide⟩ rfl rfl (Nat.le_of_ble_eq_true rfl) dJ0_charAt_5068e_1 rfl ?_
  intro r_1 N_2 q_3
  obtain ⟨rfl, q_3c⟩ := q_3
  subst q_3c
  refine kx_if_eq 7 F 16 dJ0_charAt_5068e_4 (by decide) rfl (by decide) (fun h_4 => (by exfalso; omega)) (fun h_4 => ?_)
  refine kx_aload_n 8 F 0 dJ0_charAt_5068e_7 rfl rfl rfl ?_
  refine kx_sgetv 11 F (by omega) (tt lm_2365 rfl) dJ0_charAt_5068e_8 rfl ?_
  refine kx_iload_n 12 F 1 dJ0_charAt_5068e_11 rfl rfl rfl ?_
  refine kx_Si 15 F (As := [vU G i0, vI a1]) (st := []) sd_J0_495 (c_lcharAt_f G l M i0 a1 hI_M (by omega)) ⟨by decide, by decide⟩ rfl rfl (Nat.le_of_ble_eq_true rfl) dJ0_charAt_5068e_12 rfl ?_
  intro r_5 N_6 q_7
  obtain ⟨rfl, q_7c⟩ := q_7
  exact kx_nret F hQ (nar_char (by omega)) ⟨rfl, (by omega)⟩ dJ0_charAt_5068e_15
set_option maxHeartbeats 4000000 in
set_option maxRecDepth 100000 in
theorem c_coder_t (G : KG) (l : Launch) (M : Mem) (i0 : Nat) (hI_M : Inv true M) (hpre : i0 < 12) : KC true G l yJ0_coder_7d493 cJ0_coder_7d493 1 (some .byte) (0, 0) [vT G i0] M (fun A => kQi true G A (fun (r : Int) (N : Mem) => M = N ∧ (r = 0))) := by
  refine kx_met (lo := [some (vT G i0)]) (by decide) (Nat.le_of_ble_eq_true rfl) rfl ?_
  intro X F hQ
  refine kx_gets1 3 F (tt lm_843 rfl) dJ0_coder_7d493_0 rfl ?_
  refine kx_if_eq 6 F 13 dJ0_coder_7d493_3 (by decide) rfl (by decide) (fun h_1 => (by exfalso; omega)) (fun h_1 => ?_)
  refine kx_aload_n 7 F 0 dJ0_coder_7d493_6 rfl rfl rfl ?_
  refine kx_sgetc 10 F (by omega) (tt lm_2366 rfl) dJ0_coder_7d493_7 rfl ?_
  refine kx_goto 14 F dJ0_coder_7d493_10 (by decide) ?_
  exact kx_nret F hQ rfl ⟨rfl, (by omega)⟩ dJ0_coder_7d493_14
set_option maxHeartbeats 4000000 in
set_option maxRecDepth 100000 in
theorem c_isLatin1_t (G : KG) (l : Launch) (M : Mem) (i0 : Nat) (hI_M : Inv true M) (hpre : i0 < 12) : KC true G l yJ0_isLatin1_aae02 cJ0_isLatin1_aae02 1 (some .boolean) (0, 0) [vT G i0] M (fun A => kQi true G A (fun (r : Int) (N : Mem) => M = N ∧ (r = 1))) := by
  refine kx_met (lo := [some (vT G i0)]) (by decide) (Nat.le_of_ble_eq_true rfl) rfl ?_
  intro X F hQ
  refine kx_gets1 3 F (tt lm_843 rfl) dJ0_isLatin1_aae02_0 rfl ?_
  refine kx_if_eq 6 F 17 dJ0_isLatin1_aae02_3 (by decide) rfl (by decide) (fun h_1 => (by exfalso; omega)) (fun h_1 => ?_)
  refine kx_aload_n 7 F 0 dJ0_isLatin1_aae02_6 rfl rfl rfl ?_
  refine kx_sgetc 10 F (by omega) (tt lm_2366 rfl) dJ0_isLatin1_aae02_7 rfl ?_
  refine kx_if_ne 13 F 17 dJ0_isLatin1_aae02_10 (by decide) rfl (by decide) (fun h_2 => ?_) (fun h_2 => ?_)
  · refine kx_iconst 18 F dJ0_isLatin1_aae02_17 rfl ?_
    exact kx_zret F hQ (by omega) ⟨rfl, (by omega)⟩ dJ0_isLatin1_aae02_18
  · refine kx_iconst 14 F dJ0_isLatin1_aae02_13 rfl ?_
    refine kx_goto 18 F dJ0_isLatin1_aae02_14 (by decide) ?_
    exact kx_zret F hQ (by omega) ⟨rfl, (by omega)⟩ dJ0_isLatin1_aae02_18
set_option maxHeartbeats 4000000 in
set_option maxRecDepth 100000 in
theorem c_slength_t (G : KG) (l : Launch) (M : Mem) (i0 : Nat) (hI_M : Inv true M) (hpre : i0 < 12) : KC true G l yJ0_length_8abf5 cJ0_length_8abf5 1 (some .int) (1, 20) [vT G i0] M (fun A => kQi true G A (fun (r : Int) (N : Mem) => M = N ∧ (r = (slen i0)))) := by
  refine kx_met (lo := [some (vT G i0)]) (by decide) (Nat.le_of_ble_eq_true rfl) rfl ?_
  intro X F hQ
  refine kx_aload_n 1 F 0 dJ0_length_8abf5_0 rfl rfl rfl ?_
  refine kx_sgetv 4 F (by omega) (tt lm_2365 rfl) dJ0_length_8abf5_1 rfl ?_
  refine kx_salen 5 F (by omega) dJ0_length_8abf5_4 rfl ?_
  have h_1 := slen_rng i0
  refine kx_aload_n 6 F 0 dJ0_length_8abf5_5 rfl rfl rfl ?_
  refine kx_VSi 9 F (As := []) (st := [vI (slen i0)]) (by omega) vd_J0_335 (c_coder_t G l M i0 hI_M (by omega)) rfl ⟨by decide, by decide⟩ rfl rfl (Nat.le_of_ble_eq_true rfl) dJ0_length_8abf5_6 rfl ?_
  intro r_2 N_3 q_4
  obtain ⟨rfl, q_4c⟩ := q_4
  subst q_4c
  refine kx_ishr 10 F (v := (slen i0)) dJ0_length_8abf5_9 (zshr_0 (by omega)) rfl ?_
  exact kx_iret F hQ ⟨rfl, (by omega)⟩ dJ0_length_8abf5_10
set_option maxHeartbeats 4000000 in
set_option maxRecDepth 100000 in
theorem c_pcheck_t (G : KG) (l : Launch) (M : Mem) (a0 : Int) (a1 : Int) (x2 : Value) (hI_M : Inv true M) (hpre : -2147483648 ≤ a0 ∧ a0 ≤ 2147483647 ∧ -2147483648 ≤ a1 ∧ a1 ≤ 2147483647 ∧ 0 ≤ a0 ∧ a0 < a1) (hc_x2 : x2.category = 1) : KC true G l yJ3_checkIndex_8e157 cJ3_checkIndex_8e157 3 (some .int) (0, 0) [vI a0, vI a1, x2] M (fun A => kQi true G A (fun (r : Int) (N : Mem) => M = N ∧ (r = a0))) := by
  refine kx_met (lo := [some (vI a0), some (vI a1), some (x2)]) (by decide) (lg3 rfl rfl hc_x2) rfl ?_
  intro X F hQ
  refine kx_iload_n 1 F 0 dJ3_checkIndex_8e157_0 rfl rfl rfl ?_
  refine kx_if_lt 4 F 9 dJ3_checkIndex_8e157_1 (by decide) rfl (by omega) (fun h_1 => (by exfalso; omega)) (fun h_1 => ?_)
  refine kx_iload_n 5 F 0 dJ3_checkIndex_8e157_4 rfl rfl rfl ?_
  refine kx_iload_n 6 F 1 dJ3_checkIndex_8e157_5 rfl rfl rfl ?_
  refine kx_icmp_lt 9 F 16 dJ3_checkIndex_8e157_6 (by decide) rfl (by omega) (by omega) (fun h_2 => ?_) (fun h_2 => (by exfalso; omega))
  refine kx_iload_n 17 F 0 dJ3_checkIndex_8e157_16 rfl rfl rfl ?_
  exact kx_iret F hQ ⟨rfl, (by omega)⟩ dJ3_checkIndex_8e157_17
set_option maxHeartbeats 4000000 in
set_option maxRecDepth 100000 in
theorem c_scheck_t (G : KG) (l : Launch) (M : Mem) (a0 : Int) (a1 : Int) (hI_M : Inv true M) (hpre : -2147483648 ≤ a0 ∧ a0 ≤ 2147483647 ∧ -2147483648 ≤ a1 ∧ a1 ≤ 2147483647 ∧ 0 ≤ a0 ∧ a0 < a1) : KC true G l yJ0_checkIndex_df160 cJ0_checkIndex_df160 2 none (1, 22) [vI a0, vI a1] M (fun A => kQv true G A (fun (N : Mem) => M = N)) := by
  refine kx_met (lo := [some (vI a0), some (vI a1)]) (by decide) (Nat.le_of_ble_eq_true rfl) rfl ?_
  intro X F hQ
  refine kx_iload_n 1 F 0 dJ0_checkIndex_df160_0 rfl rfl rfl ?_
  refine kx_iload_n 2 F 1 dJ0_checkIndex_df160_1 rfl rfl rfl ?_
  refine kx_getsq 5 F (tt lm_859 rfl) dJ0_checkIndex_df160_2 rfl (fun v_1 hc_v_1 => ?_)
  refine kx_Si 8 F (As := [vI a0, vI a1, v_1]) (st := []) sd_J0_1059 (c_pcheck_t G l M a0 a1 v_1 hI_M (by omega) hc_v_1) ⟨by decide, by decide⟩ rfl rfl (Nat.le_of_ble_eq_true rfl) dJ0_checkIndex_df160_5 rfl ?_
  intro r_2 N_3 q_4
  obtain ⟨rfl, q_4c⟩ := q_4
  refine kx_topi (e' := a0) (by omega) ?_
  refine kx_pop 9 F dJ0_checkIndex_df160_8 rfl rfl ?_
  exact kx_vret F hQ rfl dJ0_checkIndex_df160_9
set_option maxHeartbeats 4000000 in
set_option maxRecDepth 100000 in
theorem c_lcharAt_t (G : KG) (l : Launch) (M : Mem) (i0 : Nat) (a1 : Int) (hI_M : Inv true M) (hpre : i0 < 12 ∧ -2147483648 ≤ a1 ∧ a1 ≤ 2147483647 ∧ 0 ≤ a1 ∧ a1 < (slen i0)) : KC true G l yJ1_charAt_3b067 cJ1_charAt_3b067 2 (some .char) (2, 43) [vU G i0, vI a1] M (fun A => kQi true G A (fun (r : Int) (N : Mem) => M = N ∧ (r = (zand (schar i0 a1) 255) ∧ r ≥ 0 ∧ r ≤ 255))) := by
  refine kx_met (lo := [some (vU G i0), some (vI a1)]) (by decide) (Nat.le_of_ble_eq_true rfl) rfl ?_
  intro X F hQ
  refine kx_iload_n 1 F 1 dJ1_charAt_3b067_0 rfl rfl rfl ?_
  refine kx_aload_n 2 F 0 dJ1_charAt_3b067_1 rfl rfl rfl ?_
  refine kx_salen 3 F (by omega) dJ1_charAt_3b067_2 rfl ?_
  have h_1 := slen_rng i0
  refine kx_Sv 6 F (As := [vI a1, vI (slen i0)]) (st := []) sd_J1_9 (c_scheck_t G l M a1 (slen i0) hI_M (by omega)) ⟨by decide, by decide⟩ rfl rfl (Nat.le_of_ble_eq_true rfl) dJ1_charAt_3b067_3 rfl ?_
  intro N_2 q_3
  subst q_3
  refine kx_aload_n 7 F 0 dJ1_charAt_3b067_6 rfl rfl rfl ?_
  refine kx_iload_n 8 F 1 dJ1_charAt_3b067_7 rfl rfl rfl ?_
  refine kx_sbald 9 F (by omega) (by omega) dJ1_charAt_3b067_8 rfl ?_
  have h_4 := schar_rng i0 (by omega) a1
  refine kx_sipush 12 F dJ1_charAt_3b067_9 (by decide) rfl ?_
  refine kx_iand 13 F (v := (zand (schar i0 a1) 255)) dJ1_charAt_3b067_12 rfl rfl ?_
  have h_5 := zand_r (a := (schar i0 a1)) (b := 255) (by omega)
  refine kx_i2c 14 F (by omega) dJ1_charAt_3b067_13 rfl ?_
  exact kx_nret F hQ (nar_char (by omega)) ⟨rfl, (by omega)⟩ dJ1_charAt_3b067_14
set_option maxHeartbeats 4000000 in
set_option maxRecDepth 100000 in
theorem c_charAt_t (G : KG) (l : Launch) (M : Mem) (i0 : Nat) (a1 : Int) (hI_M : Inv true M) (hpre : i0 < 12 ∧ -2147483648 ≤ a1 ∧ a1 ≤ 2147483647 ∧ 0 ≤ a1 ∧ a1 < (slen i0)) : KC true G l yJ0_charAt_5068e cJ0_charAt_5068e 2 (some .char) (3, 64) [vT G i0, vI a1] M (fun A => kQi true G A (fun (r : Int) (N : Mem) => M = N ∧ (r = (zand (schar i0 a1) 255) ∧ r ≥ 0 ∧ r ≤ 255))) := by
  refine kx_met (lo := [some (vT G i0), some (vI a1)]) (by decide) (Nat.le_of_ble_eq_true rfl) rfl ?_
  intro X F hQ
  refine kx_aload_n 1 F 0 dJ0_charAt_5068e_0 rfl rfl rfl ?_
  refine kx_VSi 4 F (As := []) (st := []) (by omega) vd_J0_492 (c_isLatin1_t G l M i0 hI_M (by omega)) rfl ⟨by decide, by decide⟩ rfl rfl (Nat.le_of_ble_eq_true rfl) dJ0_charAt_5068e_1 rfl ?_
  intro r_1 N_2 q_3
  obtain ⟨rfl, q_3c⟩ := q_3
  subst q_3c
  refine kx_if_eq 7 F 16 dJ0_charAt_5068e_4 (by decide) rfl (by decide) (fun h_4 => (by exfalso; omega)) (fun h_4 => ?_)
  refine kx_aload_n 8 F 0 dJ0_charAt_5068e_7 rfl rfl rfl ?_
  refine kx_sgetv 11 F (by omega) (tt lm_2365 rfl) dJ0_charAt_5068e_8 rfl ?_
  refine kx_iload_n 12 F 1 dJ0_charAt_5068e_11 rfl rfl rfl ?_
  refine kx_Si 15 F (As := [vU G i0, vI a1]) (st := []) sd_J0_495 (c_lcharAt_t G l M i0 a1 hI_M (by omega)) ⟨by decide, by decide⟩ rfl rfl (Nat.le_of_ble_eq_true rfl) dJ0_charAt_5068e_12 rfl ?_
  intro r_5 N_6 q_7
  obtain ⟨rfl, q_7c⟩ := q_7
  exact kx_nret F hQ (nar_char (by omega)) ⟨rfl, (by omega)⟩ dJ0_charAt_5068e_15
set_option maxRecDepth 100000 in
theorem dGR_19_c_570 : (decode cX1_append 0 = .ok (.bipush 24, 2)) ∧ (decode cX1_append 2 = .ok (.istore_n 2, 1)) ∧ (decode cX1_append 3 = .ok (.iload_n 2, 1)) ∧ (decode cX1_append 4 = .ok (.ifCond .lt 42, 3)) ∧ (decode cX1_append 7 = .ok (.aload_n 0, 1)) ∧ (decode cX1_append 8 = .ok (.getfield 36, 3)) ∧ (decode cX1_append 11 = .ok (.sipush 900, 3)) ∧ (decode cX1_append 14 = .ok (.if_icmp .ge 32, 3)) ∧ (decode cX1_append 17 = .ok (.aload_n 0, 1)) ∧ (decode cX1_append 18 = .ok (.getfield 25, 3)) ∧ (decode cX1_append 21 = .ok (.aload_n 0, 1)) ∧ (decode cX1_append 22 = .ok (.getfield 36, 3)) := by decide +kernel
theorem dX1_append_0 : decode cX1_append 0 = .ok (.bipush 24, 2) := dGR_19_c_570.1
theorem dX1_append_2 : decode cX1_append 2 = .ok (.istore_n 2, 1) := dGR_19_c_570.2.1
theorem dX1_append_3 : decode cX1_append 3 = .ok (.iload_n 2, 1) := dGR_19_c_570.2.2.1
theorem dX1_append_4 : decode cX1_append 4 = .ok (.ifCond .lt 42, 3) := dGR_19_c_570.2.2.2.1
theorem dX1_append_7 : decode cX1_append 7 = .ok (.aload_n 0, 1) := dGR_19_c_570.2.2.2.2.1
theorem dX1_append_8 : decode cX1_append 8 = .ok (.getfield 36, 3) := dGR_19_c_570.2.2.2.2.2.1
theorem dX1_append_11 : decode cX1_append 11 = .ok (.sipush 900, 3) := dGR_19_c_570.2.2.2.2.2.2.1
theorem dX1_append_14 : decode cX1_append 14 = .ok (.if_icmp .ge 32, 3) := dGR_19_c_570.2.2.2.2.2.2.2.1
theorem dX1_append_17 : decode cX1_append 17 = .ok (.aload_n 0, 1) := dGR_19_c_570.2.2.2.2.2.2.2.2.1
theorem dX1_append_18 : decode cX1_append 18 = .ok (.getfield 25, 3) := dGR_19_c_570.2.2.2.2.2.2.2.2.2.1
theorem dX1_append_21 : decode cX1_append 21 = .ok (.aload_n 0, 1) := dGR_19_c_570.2.2.2.2.2.2.2.2.2.2.1
theorem dX1_append_22 : decode cX1_append 22 = .ok (.getfield 36, 3) := dGR_19_c_570.2.2.2.2.2.2.2.2.2.2.2
set_option maxRecDepth 100000 in
theorem dGR_19_c_571 : (decode cX1_append 25 = .ok (.iload_n 1, 1)) ∧ (decode cX1_append 26 = .ok (.iload_n 2, 1)) ∧ (decode cX1_append 27 = .ok (.ishr, 1)) ∧ (decode cX1_append 28 = .ok (.i2b, 1)) ∧ (decode cX1_append 29 = .ok (.bastore, 1)) ∧ (decode cX1_append 30 = .ok (.aload_n 0, 1)) ∧ (decode cX1_append 31 = .ok (.dup, 1)) ∧ (decode cX1_append 32 = .ok (.getfield 36, 3)) ∧ (decode cX1_append 35 = .ok (.iconst 1, 1)) ∧ (decode cX1_append 36 = .ok (.iadd, 1)) ∧ (decode cX1_append 37 = .ok (.putfield 36, 3)) ∧ (decode cX1_append 40 = .ok (.iinc 2 (-8), 3)) := by decide +kernel
theorem dX1_append_25 : decode cX1_append 25 = .ok (.iload_n 1, 1) := dGR_19_c_571.1
theorem dX1_append_26 : decode cX1_append 26 = .ok (.iload_n 2, 1) := dGR_19_c_571.2.1
theorem dX1_append_27 : decode cX1_append 27 = .ok (.ishr, 1) := dGR_19_c_571.2.2.1
theorem dX1_append_28 : decode cX1_append 28 = .ok (.i2b, 1) := dGR_19_c_571.2.2.2.1
theorem dX1_append_29 : decode cX1_append 29 = .ok (.bastore, 1) := dGR_19_c_571.2.2.2.2.1
theorem dX1_append_30 : decode cX1_append 30 = .ok (.aload_n 0, 1) := dGR_19_c_571.2.2.2.2.2.1
theorem dX1_append_31 : decode cX1_append 31 = .ok (.dup, 1) := dGR_19_c_571.2.2.2.2.2.2.1
theorem dX1_append_32 : decode cX1_append 32 = .ok (.getfield 36, 3) := dGR_19_c_571.2.2.2.2.2.2.2.1
theorem dX1_append_35 : decode cX1_append 35 = .ok (.iconst 1, 1) := dGR_19_c_571.2.2.2.2.2.2.2.2.1
theorem dX1_append_36 : decode cX1_append 36 = .ok (.iadd, 1) := dGR_19_c_571.2.2.2.2.2.2.2.2.2.1
theorem dX1_append_37 : decode cX1_append 37 = .ok (.putfield 36, 3) := dGR_19_c_571.2.2.2.2.2.2.2.2.2.2.1
theorem dX1_append_40 : decode cX1_append 40 = .ok (.iinc 2 (-8), 3) := dGR_19_c_571.2.2.2.2.2.2.2.2.2.2.2
theorem dX1_append_43 : decode cX1_append 43 = .ok (.goto (-40), 3) := by decide +kernel
theorem dX1_append_46 : decode cX1_append 46 = .ok (.return_, 1) := by decide +kernel
set_option maxRecDepth 100000 in
theorem dGR_19_c_572 : (decode cX1_byteAt 0 = .ok (.iload_n 1, 1)) ∧ (decode cX1_byteAt 1 = .ok (.ifCond .lt 20, 3)) ∧ (decode cX1_byteAt 4 = .ok (.iload_n 1, 1)) ∧ (decode cX1_byteAt 5 = .ok (.aload_n 0, 1)) ∧ (decode cX1_byteAt 6 = .ok (.getfield 45, 3)) ∧ (decode cX1_byteAt 9 = .ok (.if_icmp .ge 12, 3)) ∧ (decode cX1_byteAt 12 = .ok (.aload_n 0, 1)) ∧ (decode cX1_byteAt 13 = .ok (.getfield 25, 3)) ∧ (decode cX1_byteAt 16 = .ok (.iload_n 1, 1)) ∧ (decode cX1_byteAt 17 = .ok (.baload, 1)) ∧ (decode cX1_byteAt 18 = .ok (.goto 4, 3)) ∧ (decode cX1_byteAt 21 = .ok (.iconst (-1), 1)) := by decide +kernel
theorem dX1_byteAt_0 : decode cX1_byteAt 0 = .ok (.iload_n 1, 1) := dGR_19_c_572.1
theorem dX1_byteAt_1 : decode cX1_byteAt 1 = .ok (.ifCond .lt 20, 3) := dGR_19_c_572.2.1
theorem dX1_byteAt_4 : decode cX1_byteAt 4 = .ok (.iload_n 1, 1) := dGR_19_c_572.2.2.1
theorem dX1_byteAt_5 : decode cX1_byteAt 5 = .ok (.aload_n 0, 1) := dGR_19_c_572.2.2.2.1
theorem dX1_byteAt_6 : decode cX1_byteAt 6 = .ok (.getfield 45, 3) := dGR_19_c_572.2.2.2.2.1
theorem dX1_byteAt_9 : decode cX1_byteAt 9 = .ok (.if_icmp .ge 12, 3) := dGR_19_c_572.2.2.2.2.2.1
theorem dX1_byteAt_12 : decode cX1_byteAt 12 = .ok (.aload_n 0, 1) := dGR_19_c_572.2.2.2.2.2.2.1
theorem dX1_byteAt_13 : decode cX1_byteAt 13 = .ok (.getfield 25, 3) := dGR_19_c_572.2.2.2.2.2.2.2.1
theorem dX1_byteAt_16 : decode cX1_byteAt 16 = .ok (.iload_n 1, 1) := dGR_19_c_572.2.2.2.2.2.2.2.2.1
theorem dX1_byteAt_17 : decode cX1_byteAt 17 = .ok (.baload, 1) := dGR_19_c_572.2.2.2.2.2.2.2.2.2.1
theorem dX1_byteAt_18 : decode cX1_byteAt 18 = .ok (.goto 4, 3) := dGR_19_c_572.2.2.2.2.2.2.2.2.2.2.1
theorem dX1_byteAt_21 : decode cX1_byteAt 21 = .ok (.iconst (-1), 1) := dGR_19_c_572.2.2.2.2.2.2.2.2.2.2.2
theorem dX1_byteAt_22 : decode cX1_byteAt 22 = .ok (.ireturn, 1) := by decide +kernel
set_option maxRecDepth 100000 in
theorem dGR_19_c_573 : (decode cX1_kindAt 0 = .ok (.iload_n 1, 1)) ∧ (decode cX1_kindAt 1 = .ok (.aload_n 0, 1)) ∧ (decode cX1_kindAt 2 = .ok (.getfield 45, 3)) ∧ (decode cX1_kindAt 5 = .ok (.if_icmp .lt 5, 3)) ∧ (decode cX1_kindAt 8 = .ok (.iconst 0, 1)) ∧ (decode cX1_kindAt 9 = .ok (.ireturn, 1)) ∧ (decode cX1_kindAt 10 = .ok (.aload_n 0, 1)) ∧ (decode cX1_kindAt 11 = .ok (.getfield 25, 3)) ∧ (decode cX1_kindAt 14 = .ok (.iload_n 1, 1)) ∧ (decode cX1_kindAt 15 = .ok (.baload, 1)) ∧ (decode cX1_kindAt 16 = .ok (.istore_n 2, 1)) ∧ (decode cX1_kindAt 17 = .ok (.iload_n 2, 1)) := by decide +kernel
theorem dX1_kindAt_0 : decode cX1_kindAt 0 = .ok (.iload_n 1, 1) := dGR_19_c_573.1
theorem dX1_kindAt_1 : decode cX1_kindAt 1 = .ok (.aload_n 0, 1) := dGR_19_c_573.2.1
theorem dX1_kindAt_2 : decode cX1_kindAt 2 = .ok (.getfield 45, 3) := dGR_19_c_573.2.2.1
theorem dX1_kindAt_5 : decode cX1_kindAt 5 = .ok (.if_icmp .lt 5, 3) := dGR_19_c_573.2.2.2.1
theorem dX1_kindAt_8 : decode cX1_kindAt 8 = .ok (.iconst 0, 1) := dGR_19_c_573.2.2.2.2.1
theorem dX1_kindAt_9 : decode cX1_kindAt 9 = .ok (.ireturn, 1) := dGR_19_c_573.2.2.2.2.2.1
theorem dX1_kindAt_10 : decode cX1_kindAt 10 = .ok (.aload_n 0, 1) := dGR_19_c_573.2.2.2.2.2.2.1
theorem dX1_kindAt_11 : decode cX1_kindAt 11 = .ok (.getfield 25, 3) := dGR_19_c_573.2.2.2.2.2.2.2.1
theorem dX1_kindAt_14 : decode cX1_kindAt 14 = .ok (.iload_n 1, 1) := dGR_19_c_573.2.2.2.2.2.2.2.2.1
theorem dX1_kindAt_15 : decode cX1_kindAt 15 = .ok (.baload, 1) := dGR_19_c_573.2.2.2.2.2.2.2.2.2.1
theorem dX1_kindAt_16 : decode cX1_kindAt 16 = .ok (.istore_n 2, 1) := dGR_19_c_573.2.2.2.2.2.2.2.2.2.2.1
theorem dX1_kindAt_17 : decode cX1_kindAt 17 = .ok (.iload_n 2, 1) := dGR_19_c_573.2.2.2.2.2.2.2.2.2.2.2
set_option maxRecDepth 100000 in
theorem dGR_19_c_574 : (decode cX1_kindAt 18 = .ok (.bipush 97, 2)) ∧ (decode cX1_kindAt 20 = .ok (.if_icmp .lt 11, 3)) ∧ (decode cX1_kindAt 23 = .ok (.iload_n 2, 1)) ∧ (decode cX1_kindAt 24 = .ok (.bipush 122, 2)) ∧ (decode cX1_kindAt 26 = .ok (.if_icmp .gt 5, 3)) ∧ (decode cX1_kindAt 29 = .ok (.iconst 1, 1)) ∧ (decode cX1_kindAt 30 = .ok (.ireturn, 1)) ∧ (decode cX1_kindAt 31 = .ok (.iload_n 2, 1)) ∧ (decode cX1_kindAt 32 = .ok (.bipush 48, 2)) ∧ (decode cX1_kindAt 34 = .ok (.if_icmp .lt 11, 3)) ∧ (decode cX1_kindAt 37 = .ok (.iload_n 2, 1)) ∧ (decode cX1_kindAt 38 = .ok (.bipush 57, 2)) := by decide +kernel
theorem dX1_kindAt_18 : decode cX1_kindAt 18 = .ok (.bipush 97, 2) := dGR_19_c_574.1
theorem dX1_kindAt_20 : decode cX1_kindAt 20 = .ok (.if_icmp .lt 11, 3) := dGR_19_c_574.2.1
theorem dX1_kindAt_23 : decode cX1_kindAt 23 = .ok (.iload_n 2, 1) := dGR_19_c_574.2.2.1
theorem dX1_kindAt_24 : decode cX1_kindAt 24 = .ok (.bipush 122, 2) := dGR_19_c_574.2.2.2.1
theorem dX1_kindAt_26 : decode cX1_kindAt 26 = .ok (.if_icmp .gt 5, 3) := dGR_19_c_574.2.2.2.2.1
theorem dX1_kindAt_29 : decode cX1_kindAt 29 = .ok (.iconst 1, 1) := dGR_19_c_574.2.2.2.2.2.1
theorem dX1_kindAt_30 : decode cX1_kindAt 30 = .ok (.ireturn, 1) := dGR_19_c_574.2.2.2.2.2.2.1
theorem dX1_kindAt_31 : decode cX1_kindAt 31 = .ok (.iload_n 2, 1) := dGR_19_c_574.2.2.2.2.2.2.2.1
theorem dX1_kindAt_32 : decode cX1_kindAt 32 = .ok (.bipush 48, 2) := dGR_19_c_574.2.2.2.2.2.2.2.2.1
theorem dX1_kindAt_34 : decode cX1_kindAt 34 = .ok (.if_icmp .lt 11, 3) := dGR_19_c_574.2.2.2.2.2.2.2.2.2.1
theorem dX1_kindAt_37 : decode cX1_kindAt 37 = .ok (.iload_n 2, 1) := dGR_19_c_574.2.2.2.2.2.2.2.2.2.2.1
theorem dX1_kindAt_38 : decode cX1_kindAt 38 = .ok (.bipush 57, 2) := dGR_19_c_574.2.2.2.2.2.2.2.2.2.2.2
set_option maxRecDepth 100000 in
theorem dGR_19_c_575 : (decode cX1_kindAt 40 = .ok (.if_icmp .gt 5, 3)) ∧ (decode cX1_kindAt 43 = .ok (.iconst 2, 1)) ∧ (decode cX1_kindAt 44 = .ok (.ireturn, 1)) ∧ (decode cX1_kindAt 45 = .ok (.iload_n 2, 1)) ∧ (decode cX1_kindAt 46 = .ok (.bipush 59, 2)) ∧ (decode cX1_kindAt 48 = .ok (.if_icmp .ne 5, 3)) ∧ (decode cX1_kindAt 51 = .ok (.iconst 3, 1)) ∧ (decode cX1_kindAt 52 = .ok (.ireturn, 1)) ∧ (decode cX1_kindAt 53 = .ok (.iload_n 2, 1)) ∧ (decode cX1_kindAt 54 = .ok (.bipush 10, 2)) ∧ (decode cX1_kindAt 56 = .ok (.if_icmp .eq 9, 3)) ∧ (decode cX1_kindAt 59 = .ok (.iload_n 2, 1)) := by decide +kernel
theorem dX1_kindAt_40 : decode cX1_kindAt 40 = .ok (.if_icmp .gt 5, 3) := dGR_19_c_575.1
theorem dX1_kindAt_43 : decode cX1_kindAt 43 = .ok (.iconst 2, 1) := dGR_19_c_575.2.1
theorem dX1_kindAt_44 : decode cX1_kindAt 44 = .ok (.ireturn, 1) := dGR_19_c_575.2.2.1
theorem dX1_kindAt_45 : decode cX1_kindAt 45 = .ok (.iload_n 2, 1) := dGR_19_c_575.2.2.2.1
theorem dX1_kindAt_46 : decode cX1_kindAt 46 = .ok (.bipush 59, 2) := dGR_19_c_575.2.2.2.2.1
theorem dX1_kindAt_48 : decode cX1_kindAt 48 = .ok (.if_icmp .ne 5, 3) := dGR_19_c_575.2.2.2.2.2.1
theorem dX1_kindAt_51 : decode cX1_kindAt 51 = .ok (.iconst 3, 1) := dGR_19_c_575.2.2.2.2.2.2.1
theorem dX1_kindAt_52 : decode cX1_kindAt 52 = .ok (.ireturn, 1) := dGR_19_c_575.2.2.2.2.2.2.2.1
theorem dX1_kindAt_53 : decode cX1_kindAt 53 = .ok (.iload_n 2, 1) := dGR_19_c_575.2.2.2.2.2.2.2.2.1
theorem dX1_kindAt_54 : decode cX1_kindAt 54 = .ok (.bipush 10, 2) := dGR_19_c_575.2.2.2.2.2.2.2.2.2.1
theorem dX1_kindAt_56 : decode cX1_kindAt 56 = .ok (.if_icmp .eq 9, 3) := dGR_19_c_575.2.2.2.2.2.2.2.2.2.2.1
theorem dX1_kindAt_59 : decode cX1_kindAt 59 = .ok (.iload_n 2, 1) := dGR_19_c_575.2.2.2.2.2.2.2.2.2.2.2
set_option maxRecDepth 100000 in
theorem dGR_19_c_576 : (decode cX1_kindAt 60 = .ok (.bipush 32, 2)) ∧ (decode cX1_kindAt 62 = .ok (.if_icmp .ne 7, 3)) ∧ (decode cX1_kindAt 65 = .ok (.iconst 5, 1)) ∧ (decode cX1_kindAt 66 = .ok (.goto 4, 3)) ∧ (decode cX1_kindAt 69 = .ok (.iconst 4, 1)) ∧ (decode cX1_kindAt 70 = .ok (.ireturn, 1)) := by decide +kernel
theorem dX1_kindAt_60 : decode cX1_kindAt 60 = .ok (.bipush 32, 2) := dGR_19_c_576.1
theorem dX1_kindAt_62 : decode cX1_kindAt 62 = .ok (.if_icmp .ne 7, 3) := dGR_19_c_576.2.1
theorem dX1_kindAt_65 : decode cX1_kindAt 65 = .ok (.iconst 5, 1) := dGR_19_c_576.2.2.1
theorem dX1_kindAt_66 : decode cX1_kindAt 66 = .ok (.goto 4, 3) := dGR_19_c_576.2.2.2.1
theorem dX1_kindAt_69 : decode cX1_kindAt 69 = .ok (.iconst 4, 1) := dGR_19_c_576.2.2.2.2.1
theorem dX1_kindAt_70 : decode cX1_kindAt 70 = .ok (.ireturn, 1) := dGR_19_c_576.2.2.2.2.2
set_option maxRecDepth 100000 in
theorem dGR_19_c_577 : (decode cX1_fail 0 = .ok (.aload_n 0, 1)) ∧ (decode cX1_fail 1 = .ok (.iload_n 1, 1)) ∧ (decode cX1_fail 2 = .ok (.putfield 18, 3)) ∧ (decode cX1_fail 5 = .ok (.aload_n 0, 1)) ∧ (decode cX1_fail 6 = .ok (.aload_n 0, 1)) ∧ (decode cX1_fail 7 = .ok (.getfield 51, 3)) ∧ (decode cX1_fail 10 = .ok (.putfield 22, 3)) ∧ (decode cX1_fail 13 = .ok (.iconst 0, 1)) ∧ (decode cX1_fail 14 = .ok (.ireturn, 1)) := by decide +kernel
theorem dX1_fail_0 : decode cX1_fail 0 = .ok (.aload_n 0, 1) := dGR_19_c_577.1
theorem dX1_fail_1 : decode cX1_fail 1 = .ok (.iload_n 1, 1) := dGR_19_c_577.2.1
theorem dX1_fail_2 : decode cX1_fail 2 = .ok (.putfield 18, 3) := dGR_19_c_577.2.2.1
theorem dX1_fail_5 : decode cX1_fail 5 = .ok (.aload_n 0, 1) := dGR_19_c_577.2.2.2.1
theorem dX1_fail_6 : decode cX1_fail 6 = .ok (.aload_n 0, 1) := dGR_19_c_577.2.2.2.2.1
theorem dX1_fail_7 : decode cX1_fail 7 = .ok (.getfield 51, 3) := dGR_19_c_577.2.2.2.2.2.1
theorem dX1_fail_10 : decode cX1_fail 10 = .ok (.putfield 22, 3) := dGR_19_c_577.2.2.2.2.2.2.1
theorem dX1_fail_13 : decode cX1_fail 13 = .ok (.iconst 0, 1) := dGR_19_c_577.2.2.2.2.2.2.2.1
theorem dX1_fail_14 : decode cX1_fail 14 = .ok (.ireturn, 1) := dGR_19_c_577.2.2.2.2.2.2.2.2
set_option maxRecDepth 100000 in
theorem dGR_19_c_578 : (decode cX1_reckonValue 0 = .ok (.aload_n 0, 1)) ∧ (decode cX1_reckonValue 1 = .ok (.iconst 0, 1)) ∧ (decode cX1_reckonValue 2 = .ok (.putfield 127, 3)) ∧ (decode cX1_reckonValue 5 = .ok (.iconst 0, 1)) ∧ (decode cX1_reckonValue 6 = .ok (.istore_n 1, 1)) ∧ (decode cX1_reckonValue 7 = .ok (.iload_n 1, 1)) ∧ (decode cX1_reckonValue 8 = .ok (.aload_n 0, 1)) ∧ (decode cX1_reckonValue 9 = .ok (.getfield 54, 3)) ∧ (decode cX1_reckonValue 12 = .ok (.if_icmp .ge 34, 3)) ∧ (decode cX1_reckonValue 15 = .ok (.aload_n 0, 1)) ∧ (decode cX1_reckonValue 16 = .ok (.aload_n 0, 1)) ∧ (decode cX1_reckonValue 17 = .ok (.getfield 127, 3)) := by decide +kernel
theorem dX1_reckonValue_0 : decode cX1_reckonValue 0 = .ok (.aload_n 0, 1) := dGR_19_c_578.1
theorem dX1_reckonValue_1 : decode cX1_reckonValue 1 = .ok (.iconst 0, 1) := dGR_19_c_578.2.1
theorem dX1_reckonValue_2 : decode cX1_reckonValue 2 = .ok (.putfield 127, 3) := dGR_19_c_578.2.2.1
theorem dX1_reckonValue_5 : decode cX1_reckonValue 5 = .ok (.iconst 0, 1) := dGR_19_c_578.2.2.2.1
theorem dX1_reckonValue_6 : decode cX1_reckonValue 6 = .ok (.istore_n 1, 1) := dGR_19_c_578.2.2.2.2.1
theorem dX1_reckonValue_7 : decode cX1_reckonValue 7 = .ok (.iload_n 1, 1) := dGR_19_c_578.2.2.2.2.2.1
theorem dX1_reckonValue_8 : decode cX1_reckonValue 8 = .ok (.aload_n 0, 1) := dGR_19_c_578.2.2.2.2.2.2.1
theorem dX1_reckonValue_9 : decode cX1_reckonValue 9 = .ok (.getfield 54, 3) := dGR_19_c_578.2.2.2.2.2.2.2.1
theorem dX1_reckonValue_12 : decode cX1_reckonValue 12 = .ok (.if_icmp .ge 34, 3) := dGR_19_c_578.2.2.2.2.2.2.2.2.1
theorem dX1_reckonValue_15 : decode cX1_reckonValue 15 = .ok (.aload_n 0, 1) := dGR_19_c_578.2.2.2.2.2.2.2.2.2.1
theorem dX1_reckonValue_16 : decode cX1_reckonValue 16 = .ok (.aload_n 0, 1) := dGR_19_c_578.2.2.2.2.2.2.2.2.2.2.1
theorem dX1_reckonValue_17 : decode cX1_reckonValue 17 = .ok (.getfield 127, 3) := dGR_19_c_578.2.2.2.2.2.2.2.2.2.2.2
set_option maxRecDepth 100000 in
theorem dGR_19_c_579 : (decode cX1_reckonValue 20 = .ok (.bipush 10, 2)) ∧ (decode cX1_reckonValue 22 = .ok (.imul, 1)) ∧ (decode cX1_reckonValue 23 = .ok (.aload_n 0, 1)) ∧ (decode cX1_reckonValue 24 = .ok (.aload_n 0, 1)) ∧ (decode cX1_reckonValue 25 = .ok (.getfield 51, 3)) ∧ (decode cX1_reckonValue 28 = .ok (.iload_n 1, 1)) ∧ (decode cX1_reckonValue 29 = .ok (.iadd, 1)) ∧ (decode cX1_reckonValue 30 = .ok (.invokevirtual 196, 3)) ∧ (decode cX1_reckonValue 33 = .ok (.iadd, 1)) ∧ (decode cX1_reckonValue 34 = .ok (.bipush 48, 2)) ∧ (decode cX1_reckonValue 36 = .ok (.isub, 1)) ∧ (decode cX1_reckonValue 37 = .ok (.putfield 127, 3)) := by decide +kernel
theorem dX1_reckonValue_20 : decode cX1_reckonValue 20 = .ok (.bipush 10, 2) := dGR_19_c_579.1
theorem dX1_reckonValue_22 : decode cX1_reckonValue 22 = .ok (.imul, 1) := dGR_19_c_579.2.1
theorem dX1_reckonValue_23 : decode cX1_reckonValue 23 = .ok (.aload_n 0, 1) := dGR_19_c_579.2.2.1
theorem dX1_reckonValue_24 : decode cX1_reckonValue 24 = .ok (.aload_n 0, 1) := dGR_19_c_579.2.2.2.1
theorem dX1_reckonValue_25 : decode cX1_reckonValue 25 = .ok (.getfield 51, 3) := dGR_19_c_579.2.2.2.2.1
theorem dX1_reckonValue_28 : decode cX1_reckonValue 28 = .ok (.iload_n 1, 1) := dGR_19_c_579.2.2.2.2.2.1
theorem dX1_reckonValue_29 : decode cX1_reckonValue 29 = .ok (.iadd, 1) := dGR_19_c_579.2.2.2.2.2.2.1
theorem dX1_reckonValue_30 : decode cX1_reckonValue 30 = .ok (.invokevirtual 196, 3) := dGR_19_c_579.2.2.2.2.2.2.2.1
theorem dX1_reckonValue_33 : decode cX1_reckonValue 33 = .ok (.iadd, 1) := dGR_19_c_579.2.2.2.2.2.2.2.2.1
theorem dX1_reckonValue_34 : decode cX1_reckonValue 34 = .ok (.bipush 48, 2) := dGR_19_c_579.2.2.2.2.2.2.2.2.2.1
theorem dX1_reckonValue_36 : decode cX1_reckonValue 36 = .ok (.isub, 1) := dGR_19_c_579.2.2.2.2.2.2.2.2.2.2.1
theorem dX1_reckonValue_37 : decode cX1_reckonValue 37 = .ok (.putfield 127, 3) := dGR_19_c_579.2.2.2.2.2.2.2.2.2.2.2
set_option maxRecDepth 100000 in
theorem dGR_19_c_580 : (decode cX1_reckonValue 40 = .ok (.iinc 1 1, 3)) ∧ (decode cX1_reckonValue 43 = .ok (.goto (-36), 3)) ∧ (decode cX1_reckonValue 46 = .ok (.return_, 1)) := by decide +kernel
theorem dX1_reckonValue_40 : decode cX1_reckonValue 40 = .ok (.iinc 1 1, 3) := dGR_19_c_580.1
theorem dX1_reckonValue_43 : decode cX1_reckonValue 43 = .ok (.goto (-36), 3) := dGR_19_c_580.2.1
theorem dX1_reckonValue_46 : decode cX1_reckonValue 46 = .ok (.return_, 1) := dGR_19_c_580.2.2
set_option maxRecDepth 100000 in
theorem dGR_19_c_581 : (decode cX1_advance 0 = .ok (.aload_n 0, 1)) ∧ (decode cX1_advance 1 = .ok (.dup, 1)) ∧ (decode cX1_advance 2 = .ok (.getfield 51, 3)) ∧ (decode cX1_advance 5 = .ok (.aload_n 0, 1)) ∧ (decode cX1_advance 6 = .ok (.getfield 54, 3)) ∧ (decode cX1_advance 9 = .ok (.iadd, 1)) ∧ (decode cX1_advance 10 = .ok (.putfield 51, 3)) ∧ (decode cX1_advance 13 = .ok (.iconst 0, 1)) ∧ (decode cX1_advance 14 = .ok (.istore_n 1, 1)) ∧ (decode cX1_advance 15 = .ok (.iload_n 1, 1)) ∧ (decode cX1_advance 16 = .ok (.aload_n 0, 1)) ∧ (decode cX1_advance 17 = .ok (.getfield 45, 3)) := by decide +kernel
theorem dX1_advance_0 : decode cX1_advance 0 = .ok (.aload_n 0, 1) := dGR_19_c_581.1
theorem dX1_advance_1 : decode cX1_advance 1 = .ok (.dup, 1) := dGR_19_c_581.2.1
theorem dX1_advance_2 : decode cX1_advance 2 = .ok (.getfield 51, 3) := dGR_19_c_581.2.2.1
theorem dX1_advance_5 : decode cX1_advance 5 = .ok (.aload_n 0, 1) := dGR_19_c_581.2.2.2.1
theorem dX1_advance_6 : decode cX1_advance 6 = .ok (.getfield 54, 3) := dGR_19_c_581.2.2.2.2.1
theorem dX1_advance_9 : decode cX1_advance 9 = .ok (.iadd, 1) := dGR_19_c_581.2.2.2.2.2.1
theorem dX1_advance_10 : decode cX1_advance 10 = .ok (.putfield 51, 3) := dGR_19_c_581.2.2.2.2.2.2.1
theorem dX1_advance_13 : decode cX1_advance 13 = .ok (.iconst 0, 1) := dGR_19_c_581.2.2.2.2.2.2.2.1
theorem dX1_advance_14 : decode cX1_advance 14 = .ok (.istore_n 1, 1) := dGR_19_c_581.2.2.2.2.2.2.2.2.1
theorem dX1_advance_15 : decode cX1_advance 15 = .ok (.iload_n 1, 1) := dGR_19_c_581.2.2.2.2.2.2.2.2.2.1
theorem dX1_advance_16 : decode cX1_advance 16 = .ok (.aload_n 0, 1) := dGR_19_c_581.2.2.2.2.2.2.2.2.2.2.1
theorem dX1_advance_17 : decode cX1_advance 17 = .ok (.getfield 45, 3) := dGR_19_c_581.2.2.2.2.2.2.2.2.2.2.2
set_option maxRecDepth 100000 in
theorem dGR_19_c_582 : (decode cX1_advance 20 = .ok (.if_icmp .ge 31, 3)) ∧ (decode cX1_advance 23 = .ok (.aload_n 0, 1)) ∧ (decode cX1_advance 24 = .ok (.aload_n 0, 1)) ∧ (decode cX1_advance 25 = .ok (.getfield 51, 3)) ∧ (decode cX1_advance 28 = .ok (.invokevirtual 209, 3)) ∧ (decode cX1_advance 31 = .ok (.iconst 5, 1)) ∧ (decode cX1_advance 32 = .ok (.if_icmp .ne 19, 3)) ∧ (decode cX1_advance 35 = .ok (.aload_n 0, 1)) ∧ (decode cX1_advance 36 = .ok (.dup, 1)) ∧ (decode cX1_advance 37 = .ok (.getfield 51, 3)) ∧ (decode cX1_advance 40 = .ok (.iconst 1, 1)) ∧ (decode cX1_advance 41 = .ok (.iadd, 1)) := by decide +kernel
theorem dX1_advance_20 : decode cX1_advance 20 = .ok (.if_icmp .ge 31, 3) := dGR_19_c_582.1
theorem dX1_advance_23 : decode cX1_advance 23 = .ok (.aload_n 0, 1) := dGR_19_c_582.2.1
theorem dX1_advance_24 : decode cX1_advance 24 = .ok (.aload_n 0, 1) := dGR_19_c_582.2.2.1
theorem dX1_advance_25 : decode cX1_advance 25 = .ok (.getfield 51, 3) := dGR_19_c_582.2.2.2.1
theorem dX1_advance_28 : decode cX1_advance 28 = .ok (.invokevirtual 209, 3) := dGR_19_c_582.2.2.2.2.1
theorem dX1_advance_31 : decode cX1_advance 31 = .ok (.iconst 5, 1) := dGR_19_c_582.2.2.2.2.2.1
theorem dX1_advance_32 : decode cX1_advance 32 = .ok (.if_icmp .ne 19, 3) := dGR_19_c_582.2.2.2.2.2.2.1
theorem dX1_advance_35 : decode cX1_advance 35 = .ok (.aload_n 0, 1) := dGR_19_c_582.2.2.2.2.2.2.2.1
theorem dX1_advance_36 : decode cX1_advance 36 = .ok (.dup, 1) := dGR_19_c_582.2.2.2.2.2.2.2.2.1
theorem dX1_advance_37 : decode cX1_advance 37 = .ok (.getfield 51, 3) := dGR_19_c_582.2.2.2.2.2.2.2.2.2.1
theorem dX1_advance_40 : decode cX1_advance 40 = .ok (.iconst 1, 1) := dGR_19_c_582.2.2.2.2.2.2.2.2.2.2.1
theorem dX1_advance_41 : decode cX1_advance 41 = .ok (.iadd, 1) := dGR_19_c_582.2.2.2.2.2.2.2.2.2.2.2
set_option maxRecDepth 100000 in
theorem dGR_19_c_583 : (decode cX1_advance 42 = .ok (.putfield 51, 3)) ∧ (decode cX1_advance 45 = .ok (.iinc 1 1, 3)) ∧ (decode cX1_advance 48 = .ok (.goto (-33), 3)) ∧ (decode cX1_advance 51 = .ok (.aload_n 0, 1)) ∧ (decode cX1_advance 52 = .ok (.aload_n 0, 1)) ∧ (decode cX1_advance 53 = .ok (.aload_n 0, 1)) ∧ (decode cX1_advance 54 = .ok (.getfield 51, 3)) ∧ (decode cX1_advance 57 = .ok (.invokevirtual 209, 3)) ∧ (decode cX1_advance 60 = .ok (.putfield 61, 3)) ∧ (decode cX1_advance 63 = .ok (.aload_n 0, 1)) ∧ (decode cX1_advance 64 = .ok (.aload_n 0, 1)) ∧ (decode cX1_advance 65 = .ok (.getfield 61, 3)) := by decide +kernel
theorem dX1_advance_42 : decode cX1_advance 42 = .ok (.putfield 51, 3) := dGR_19_c_583.1
theorem dX1_advance_45 : decode cX1_advance 45 = .ok (.iinc 1 1, 3) := dGR_19_c_583.2.1
theorem dX1_advance_48 : decode cX1_advance 48 = .ok (.goto (-33), 3) := dGR_19_c_583.2.2.1
theorem dX1_advance_51 : decode cX1_advance 51 = .ok (.aload_n 0, 1) := dGR_19_c_583.2.2.2.1
theorem dX1_advance_52 : decode cX1_advance 52 = .ok (.aload_n 0, 1) := dGR_19_c_583.2.2.2.2.1
theorem dX1_advance_53 : decode cX1_advance 53 = .ok (.aload_n 0, 1) := dGR_19_c_583.2.2.2.2.2.1
theorem dX1_advance_54 : decode cX1_advance 54 = .ok (.getfield 51, 3) := dGR_19_c_583.2.2.2.2.2.2.1
theorem dX1_advance_57 : decode cX1_advance 57 = .ok (.invokevirtual 209, 3) := dGR_19_c_583.2.2.2.2.2.2.2.1
theorem dX1_advance_60 : decode cX1_advance 60 = .ok (.putfield 61, 3) := dGR_19_c_583.2.2.2.2.2.2.2.2.1
theorem dX1_advance_63 : decode cX1_advance 63 = .ok (.aload_n 0, 1) := dGR_19_c_583.2.2.2.2.2.2.2.2.2.1
theorem dX1_advance_64 : decode cX1_advance 64 = .ok (.aload_n 0, 1) := dGR_19_c_583.2.2.2.2.2.2.2.2.2.2.1
theorem dX1_advance_65 : decode cX1_advance 65 = .ok (.getfield 61, 3) := dGR_19_c_583.2.2.2.2.2.2.2.2.2.2.2
set_option maxRecDepth 100000 in
theorem dGR_19_c_584 : (decode cX1_advance 68 = .ok (.ifCond .ne 7, 3)) ∧ (decode cX1_advance 71 = .ok (.iconst 0, 1)) ∧ (decode cX1_advance 72 = .ok (.goto 4, 3)) ∧ (decode cX1_advance 75 = .ok (.iconst 1, 1)) ∧ (decode cX1_advance 76 = .ok (.putfield 54, 3)) ∧ (decode cX1_advance 79 = .ok (.aload_n 0, 1)) ∧ (decode cX1_advance 80 = .ok (.getfield 61, 3)) ∧ (decode cX1_advance 83 = .ok (.iconst 1, 1)) ∧ (decode cX1_advance 84 = .ok (.if_icmp .eq 11, 3)) ∧ (decode cX1_advance 87 = .ok (.aload_n 0, 1)) ∧ (decode cX1_advance 88 = .ok (.getfield 61, 3)) ∧ (decode cX1_advance 91 = .ok (.iconst 2, 1)) := by decide +kernel
theorem dX1_advance_68 : decode cX1_advance 68 = .ok (.ifCond .ne 7, 3) := dGR_19_c_584.1
theorem dX1_advance_71 : decode cX1_advance 71 = .ok (.iconst 0, 1) := dGR_19_c_584.2.1
theorem dX1_advance_72 : decode cX1_advance 72 = .ok (.goto 4, 3) := dGR_19_c_584.2.2.1
theorem dX1_advance_75 : decode cX1_advance 75 = .ok (.iconst 1, 1) := dGR_19_c_584.2.2.2.1
theorem dX1_advance_76 : decode cX1_advance 76 = .ok (.putfield 54, 3) := dGR_19_c_584.2.2.2.2.1
theorem dX1_advance_79 : decode cX1_advance 79 = .ok (.aload_n 0, 1) := dGR_19_c_584.2.2.2.2.2.1
theorem dX1_advance_80 : decode cX1_advance 80 = .ok (.getfield 61, 3) := dGR_19_c_584.2.2.2.2.2.2.1
theorem dX1_advance_83 : decode cX1_advance 83 = .ok (.iconst 1, 1) := dGR_19_c_584.2.2.2.2.2.2.2.1
theorem dX1_advance_84 : decode cX1_advance 84 = .ok (.if_icmp .eq 11, 3) := dGR_19_c_584.2.2.2.2.2.2.2.2.1
theorem dX1_advance_87 : decode cX1_advance 87 = .ok (.aload_n 0, 1) := dGR_19_c_584.2.2.2.2.2.2.2.2.2.1
theorem dX1_advance_88 : decode cX1_advance 88 = .ok (.getfield 61, 3) := dGR_19_c_584.2.2.2.2.2.2.2.2.2.2.1
theorem dX1_advance_91 : decode cX1_advance 91 = .ok (.iconst 2, 1) := dGR_19_c_584.2.2.2.2.2.2.2.2.2.2.2
set_option maxRecDepth 100000 in
theorem dGR_19_c_585 : (decode cX1_advance 92 = .ok (.if_icmp .ne 49, 3)) ∧ (decode cX1_advance 95 = .ok (.iconst 0, 1)) ∧ (decode cX1_advance 96 = .ok (.istore_n 1, 1)) ∧ (decode cX1_advance 97 = .ok (.iload_n 1, 1)) ∧ (decode cX1_advance 98 = .ok (.aload_n 0, 1)) ∧ (decode cX1_advance 99 = .ok (.getfield 45, 3)) ∧ (decode cX1_advance 102 = .ok (.if_icmp .ge 39, 3)) ∧ (decode cX1_advance 105 = .ok (.aload_n 0, 1)) ∧ (decode cX1_advance 106 = .ok (.aload_n 0, 1)) ∧ (decode cX1_advance 107 = .ok (.getfield 51, 3)) ∧ (decode cX1_advance 110 = .ok (.aload_n 0, 1)) ∧ (decode cX1_advance 111 = .ok (.getfield 54, 3)) := by decide +kernel
theorem dX1_advance_92 : decode cX1_advance 92 = .ok (.if_icmp .ne 49, 3) := dGR_19_c_585.1
theorem dX1_advance_95 : decode cX1_advance 95 = .ok (.iconst 0, 1) := dGR_19_c_585.2.1
theorem dX1_advance_96 : decode cX1_advance 96 = .ok (.istore_n 1, 1) := dGR_19_c_585.2.2.1
theorem dX1_advance_97 : decode cX1_advance 97 = .ok (.iload_n 1, 1) := dGR_19_c_585.2.2.2.1
theorem dX1_advance_98 : decode cX1_advance 98 = .ok (.aload_n 0, 1) := dGR_19_c_585.2.2.2.2.1
theorem dX1_advance_99 : decode cX1_advance 99 = .ok (.getfield 45, 3) := dGR_19_c_585.2.2.2.2.2.1
theorem dX1_advance_102 : decode cX1_advance 102 = .ok (.if_icmp .ge 39, 3) := dGR_19_c_585.2.2.2.2.2.2.1
theorem dX1_advance_105 : decode cX1_advance 105 = .ok (.aload_n 0, 1) := dGR_19_c_585.2.2.2.2.2.2.2.1
theorem dX1_advance_106 : decode cX1_advance 106 = .ok (.aload_n 0, 1) := dGR_19_c_585.2.2.2.2.2.2.2.2.1
theorem dX1_advance_107 : decode cX1_advance 107 = .ok (.getfield 51, 3) := dGR_19_c_585.2.2.2.2.2.2.2.2.2.1
theorem dX1_advance_110 : decode cX1_advance 110 = .ok (.aload_n 0, 1) := dGR_19_c_585.2.2.2.2.2.2.2.2.2.2.1
theorem dX1_advance_111 : decode cX1_advance 111 = .ok (.getfield 54, 3) := dGR_19_c_585.2.2.2.2.2.2.2.2.2.2.2
set_option maxRecDepth 100000 in
theorem dGR_19_c_586 : (decode cX1_advance 114 = .ok (.iadd, 1)) ∧ (decode cX1_advance 115 = .ok (.invokevirtual 209, 3)) ∧ (decode cX1_advance 118 = .ok (.aload_n 0, 1)) ∧ (decode cX1_advance 119 = .ok (.getfield 61, 3)) ∧ (decode cX1_advance 122 = .ok (.if_icmp .ne 19, 3)) ∧ (decode cX1_advance 125 = .ok (.aload_n 0, 1)) ∧ (decode cX1_advance 126 = .ok (.dup, 1)) ∧ (decode cX1_advance 127 = .ok (.getfield 54, 3)) ∧ (decode cX1_advance 130 = .ok (.iconst 1, 1)) ∧ (decode cX1_advance 131 = .ok (.iadd, 1)) ∧ (decode cX1_advance 132 = .ok (.putfield 54, 3)) ∧ (decode cX1_advance 135 = .ok (.iinc 1 1, 3)) := by decide +kernel
theorem dX1_advance_114 : decode cX1_advance 114 = .ok (.iadd, 1) := dGR_19_c_586.1
theorem dX1_advance_115 : decode cX1_advance 115 = .ok (.invokevirtual 209, 3) := dGR_19_c_586.2.1
theorem dX1_advance_118 : decode cX1_advance 118 = .ok (.aload_n 0, 1) := dGR_19_c_586.2.2.1
theorem dX1_advance_119 : decode cX1_advance 119 = .ok (.getfield 61, 3) := dGR_19_c_586.2.2.2.1
theorem dX1_advance_122 : decode cX1_advance 122 = .ok (.if_icmp .ne 19, 3) := dGR_19_c_586.2.2.2.2.1
theorem dX1_advance_125 : decode cX1_advance 125 = .ok (.aload_n 0, 1) := dGR_19_c_586.2.2.2.2.2.1
theorem dX1_advance_126 : decode cX1_advance 126 = .ok (.dup, 1) := dGR_19_c_586.2.2.2.2.2.2.1
theorem dX1_advance_127 : decode cX1_advance 127 = .ok (.getfield 54, 3) := dGR_19_c_586.2.2.2.2.2.2.2.1
theorem dX1_advance_130 : decode cX1_advance 130 = .ok (.iconst 1, 1) := dGR_19_c_586.2.2.2.2.2.2.2.2.1
theorem dX1_advance_131 : decode cX1_advance 131 = .ok (.iadd, 1) := dGR_19_c_586.2.2.2.2.2.2.2.2.2.1
theorem dX1_advance_132 : decode cX1_advance 132 = .ok (.putfield 54, 3) := dGR_19_c_586.2.2.2.2.2.2.2.2.2.2.1
theorem dX1_advance_135 : decode cX1_advance 135 = .ok (.iinc 1 1, 3) := dGR_19_c_586.2.2.2.2.2.2.2.2.2.2.2
set_option maxRecDepth 100000 in
theorem dGR_19_c_587 : (decode cX1_advance 138 = .ok (.goto (-41), 3)) ∧ (decode cX1_advance 141 = .ok (.aload_n 0, 1)) ∧ (decode cX1_advance 142 = .ok (.getfield 61, 3)) ∧ (decode cX1_advance 145 = .ok (.iconst 4, 1)) ∧ (decode cX1_advance 146 = .ok (.if_icmp .eq 19, 3)) ∧ (decode cX1_advance 149 = .ok (.aload_n 0, 1)) ∧ (decode cX1_advance 150 = .ok (.getfield 61, 3)) ∧ (decode cX1_advance 153 = .ok (.iconst 2, 1)) ∧ (decode cX1_advance 154 = .ok (.if_icmp .ne 17, 3)) ∧ (decode cX1_advance 157 = .ok (.aload_n 0, 1)) ∧ (decode cX1_advance 158 = .ok (.getfield 54, 3)) ∧ (decode cX1_advance 161 = .ok (.iconst 4, 1)) := by decide +kernel
theorem dX1_advance_138 : decode cX1_advance 138 = .ok (.goto (-41), 3) := dGR_19_c_587.1
theorem dX1_advance_141 : decode cX1_advance 141 = .ok (.aload_n 0, 1) := dGR_19_c_587.2.1
theorem dX1_advance_142 : decode cX1_advance 142 = .ok (.getfield 61, 3) := dGR_19_c_587.2.2.1
theorem dX1_advance_145 : decode cX1_advance 145 = .ok (.iconst 4, 1) := dGR_19_c_587.2.2.2.1
theorem dX1_advance_146 : decode cX1_advance 146 = .ok (.if_icmp .eq 19, 3) := dGR_19_c_587.2.2.2.2.1
theorem dX1_advance_149 : decode cX1_advance 149 = .ok (.aload_n 0, 1) := dGR_19_c_587.2.2.2.2.2.1
theorem dX1_advance_150 : decode cX1_advance 150 = .ok (.getfield 61, 3) := dGR_19_c_587.2.2.2.2.2.2.1
theorem dX1_advance_153 : decode cX1_advance 153 = .ok (.iconst 2, 1) := dGR_19_c_587.2.2.2.2.2.2.2.1
theorem dX1_advance_154 : decode cX1_advance 154 = .ok (.if_icmp .ne 17, 3) := dGR_19_c_587.2.2.2.2.2.2.2.2.1
theorem dX1_advance_157 : decode cX1_advance 157 = .ok (.aload_n 0, 1) := dGR_19_c_587.2.2.2.2.2.2.2.2.2.1
theorem dX1_advance_158 : decode cX1_advance 158 = .ok (.getfield 54, 3) := dGR_19_c_587.2.2.2.2.2.2.2.2.2.2.1
theorem dX1_advance_161 : decode cX1_advance 161 = .ok (.iconst 4, 1) := dGR_19_c_587.2.2.2.2.2.2.2.2.2.2.2
set_option maxRecDepth 100000 in
theorem dGR_19_c_588 : (decode cX1_advance 162 = .ok (.if_icmp .le 9, 3)) ∧ (decode cX1_advance 165 = .ok (.aload_n 0, 1)) ∧ (decode cX1_advance 166 = .ok (.iconst 1, 1)) ∧ (decode cX1_advance 167 = .ok (.invokevirtual 89, 3)) ∧ (decode cX1_advance 170 = .ok (.ireturn, 1)) ∧ (decode cX1_advance 171 = .ok (.aload_n 0, 1)) ∧ (decode cX1_advance 172 = .ok (.getfield 61, 3)) ∧ (decode cX1_advance 175 = .ok (.iconst 2, 1)) ∧ (decode cX1_advance 176 = .ok (.if_icmp .ne 7, 3)) ∧ (decode cX1_advance 179 = .ok (.aload_n 0, 1)) ∧ (decode cX1_advance 180 = .ok (.invokevirtual 212, 3)) ∧ (decode cX1_advance 183 = .ok (.iconst 1, 1)) := by decide +kernel
theorem dX1_advance_162 : decode cX1_advance 162 = .ok (.if_icmp .le 9, 3) := dGR_19_c_588.1
theorem dX1_advance_165 : decode cX1_advance 165 = .ok (.aload_n 0, 1) := dGR_19_c_588.2.1
theorem dX1_advance_166 : decode cX1_advance 166 = .ok (.iconst 1, 1) := dGR_19_c_588.2.2.1
theorem dX1_advance_167 : decode cX1_advance 167 = .ok (.invokevirtual 89, 3) := dGR_19_c_588.2.2.2.1
theorem dX1_advance_170 : decode cX1_advance 170 = .ok (.ireturn, 1) := dGR_19_c_588.2.2.2.2.1
theorem dX1_advance_171 : decode cX1_advance 171 = .ok (.aload_n 0, 1) := dGR_19_c_588.2.2.2.2.2.1
theorem dX1_advance_172 : decode cX1_advance 172 = .ok (.getfield 61, 3) := dGR_19_c_588.2.2.2.2.2.2.1
theorem dX1_advance_175 : decode cX1_advance 175 = .ok (.iconst 2, 1) := dGR_19_c_588.2.2.2.2.2.2.2.1
theorem dX1_advance_176 : decode cX1_advance 176 = .ok (.if_icmp .ne 7, 3) := dGR_19_c_588.2.2.2.2.2.2.2.2.1
theorem dX1_advance_179 : decode cX1_advance 179 = .ok (.aload_n 0, 1) := dGR_19_c_588.2.2.2.2.2.2.2.2.2.1
theorem dX1_advance_180 : decode cX1_advance 180 = .ok (.invokevirtual 212, 3) := dGR_19_c_588.2.2.2.2.2.2.2.2.2.2.1
theorem dX1_advance_183 : decode cX1_advance 183 = .ok (.iconst 1, 1) := dGR_19_c_588.2.2.2.2.2.2.2.2.2.2.2
theorem dX1_advance_184 : decode cX1_advance 184 = .ok (.ireturn, 1) := by decide +kernel
set_option maxRecDepth 100000 in
theorem dGR_19_c_589 : (decode cX1_isWord 0 = .ok (.aload_n 0, 1)) ∧ (decode cX1_isWord 1 = .ok (.getfield 61, 3)) ∧ (decode cX1_isWord 4 = .ok (.iconst 1, 1)) ∧ (decode cX1_isWord 5 = .ok (.if_icmp .ne 14, 3)) ∧ (decode cX1_isWord 8 = .ok (.aload_n 0, 1)) ∧ (decode cX1_isWord 9 = .ok (.getfield 54, 3)) ∧ (decode cX1_isWord 12 = .ok (.aload_n 1, 1)) ∧ (decode cX1_isWord 13 = .ok (.invokevirtual 192, 3)) ∧ (decode cX1_isWord 16 = .ok (.if_icmp .eq 5, 3)) ∧ (decode cX1_isWord 19 = .ok (.iconst 0, 1)) ∧ (decode cX1_isWord 20 = .ok (.ireturn, 1)) ∧ (decode cX1_isWord 21 = .ok (.iconst 0, 1)) := by decide +kernel
theorem dX1_isWord_0 : decode cX1_isWord 0 = .ok (.aload_n 0, 1) := dGR_19_c_589.1
theorem dX1_isWord_1 : decode cX1_isWord 1 = .ok (.getfield 61, 3) := dGR_19_c_589.2.1
theorem dX1_isWord_4 : decode cX1_isWord 4 = .ok (.iconst 1, 1) := dGR_19_c_589.2.2.1
theorem dX1_isWord_5 : decode cX1_isWord 5 = .ok (.if_icmp .ne 14, 3) := dGR_19_c_589.2.2.2.1
theorem dX1_isWord_8 : decode cX1_isWord 8 = .ok (.aload_n 0, 1) := dGR_19_c_589.2.2.2.2.1
theorem dX1_isWord_9 : decode cX1_isWord 9 = .ok (.getfield 54, 3) := dGR_19_c_589.2.2.2.2.2.1
theorem dX1_isWord_12 : decode cX1_isWord 12 = .ok (.aload_n 1, 1) := dGR_19_c_589.2.2.2.2.2.2.1
theorem dX1_isWord_13 : decode cX1_isWord 13 = .ok (.invokevirtual 192, 3) := dGR_19_c_589.2.2.2.2.2.2.2.1
theorem dX1_isWord_16 : decode cX1_isWord 16 = .ok (.if_icmp .eq 5, 3) := dGR_19_c_589.2.2.2.2.2.2.2.2.1
theorem dX1_isWord_19 : decode cX1_isWord 19 = .ok (.iconst 0, 1) := dGR_19_c_589.2.2.2.2.2.2.2.2.2.1
theorem dX1_isWord_20 : decode cX1_isWord 20 = .ok (.ireturn, 1) := dGR_19_c_589.2.2.2.2.2.2.2.2.2.2.1
theorem dX1_isWord_21 : decode cX1_isWord 21 = .ok (.iconst 0, 1) := dGR_19_c_589.2.2.2.2.2.2.2.2.2.2.2
set_option maxRecDepth 100000 in
theorem dGR_19_c_590 : (decode cX1_isWord 22 = .ok (.istore_n 2, 1)) ∧ (decode cX1_isWord 23 = .ok (.iload_n 2, 1)) ∧ (decode cX1_isWord 24 = .ok (.aload_n 0, 1)) ∧ (decode cX1_isWord 25 = .ok (.getfield 54, 3)) ∧ (decode cX1_isWord 28 = .ok (.if_icmp .ge 29, 3)) ∧ (decode cX1_isWord 31 = .ok (.aload_n 0, 1)) ∧ (decode cX1_isWord 32 = .ok (.aload_n 0, 1)) ∧ (decode cX1_isWord 33 = .ok (.getfield 51, 3)) ∧ (decode cX1_isWord 36 = .ok (.iload_n 2, 1)) ∧ (decode cX1_isWord 37 = .ok (.iadd, 1)) ∧ (decode cX1_isWord 38 = .ok (.invokevirtual 196, 3)) ∧ (decode cX1_isWord 41 = .ok (.aload_n 1, 1)) := by decide +kernel
theorem dX1_isWord_22 : decode cX1_isWord 22 = .ok (.istore_n 2, 1) := dGR_19_c_590.1
theorem dX1_isWord_23 : decode cX1_isWord 23 = .ok (.iload_n 2, 1) := dGR_19_c_590.2.1
theorem dX1_isWord_24 : decode cX1_isWord 24 = .ok (.aload_n 0, 1) := dGR_19_c_590.2.2.1
theorem dX1_isWord_25 : decode cX1_isWord 25 = .ok (.getfield 54, 3) := dGR_19_c_590.2.2.2.1
theorem dX1_isWord_28 : decode cX1_isWord 28 = .ok (.if_icmp .ge 29, 3) := dGR_19_c_590.2.2.2.2.1
theorem dX1_isWord_31 : decode cX1_isWord 31 = .ok (.aload_n 0, 1) := dGR_19_c_590.2.2.2.2.2.1
theorem dX1_isWord_32 : decode cX1_isWord 32 = .ok (.aload_n 0, 1) := dGR_19_c_590.2.2.2.2.2.2.1
theorem dX1_isWord_33 : decode cX1_isWord 33 = .ok (.getfield 51, 3) := dGR_19_c_590.2.2.2.2.2.2.2.1
theorem dX1_isWord_36 : decode cX1_isWord 36 = .ok (.iload_n 2, 1) := dGR_19_c_590.2.2.2.2.2.2.2.2.1
theorem dX1_isWord_37 : decode cX1_isWord 37 = .ok (.iadd, 1) := dGR_19_c_590.2.2.2.2.2.2.2.2.2.1
theorem dX1_isWord_38 : decode cX1_isWord 38 = .ok (.invokevirtual 196, 3) := dGR_19_c_590.2.2.2.2.2.2.2.2.2.2.1
theorem dX1_isWord_41 : decode cX1_isWord 41 = .ok (.aload_n 1, 1) := dGR_19_c_590.2.2.2.2.2.2.2.2.2.2.2
set_option maxRecDepth 100000 in
theorem dGR_19_c_591 : (decode cX1_isWord 42 = .ok (.iload_n 2, 1)) ∧ (decode cX1_isWord 43 = .ok (.invokevirtual 199, 3)) ∧ (decode cX1_isWord 46 = .ok (.if_icmp .eq 5, 3)) ∧ (decode cX1_isWord 49 = .ok (.iconst 0, 1)) ∧ (decode cX1_isWord 50 = .ok (.ireturn, 1)) ∧ (decode cX1_isWord 51 = .ok (.iinc 2 1, 3)) ∧ (decode cX1_isWord 54 = .ok (.goto (-31), 3)) ∧ (decode cX1_isWord 57 = .ok (.iconst 1, 1)) ∧ (decode cX1_isWord 58 = .ok (.ireturn, 1)) := by decide +kernel
theorem dX1_isWord_42 : decode cX1_isWord 42 = .ok (.iload_n 2, 1) := dGR_19_c_591.1
theorem dX1_isWord_43 : decode cX1_isWord 43 = .ok (.invokevirtual 199, 3) := dGR_19_c_591.2.1
theorem dX1_isWord_46 : decode cX1_isWord 46 = .ok (.if_icmp .eq 5, 3) := dGR_19_c_591.2.2.1
theorem dX1_isWord_49 : decode cX1_isWord 49 = .ok (.iconst 0, 1) := dGR_19_c_591.2.2.2.1
theorem dX1_isWord_50 : decode cX1_isWord 50 = .ok (.ireturn, 1) := dGR_19_c_591.2.2.2.2.1
theorem dX1_isWord_51 : decode cX1_isWord 51 = .ok (.iinc 2 1, 3) := dGR_19_c_591.2.2.2.2.2.1
theorem dX1_isWord_54 : decode cX1_isWord 54 = .ok (.goto (-31), 3) := dGR_19_c_591.2.2.2.2.2.2.1
theorem dX1_isWord_57 : decode cX1_isWord 57 = .ok (.iconst 1, 1) := dGR_19_c_591.2.2.2.2.2.2.2.1
theorem dX1_isWord_58 : decode cX1_isWord 58 = .ok (.ireturn, 1) := dGR_19_c_591.2.2.2.2.2.2.2.2
set_option maxRecDepth 100000 in
theorem dGR_19_c_592 : (decode cX1_isKeyword 0 = .ok (.aload_n 0, 1)) ∧ (decode cX1_isKeyword 1 = .ok (.ldc 67, 2)) ∧ (decode cX1_isKeyword 3 = .ok (.invokevirtual 69, 3)) ∧ (decode cX1_isKeyword 6 = .ok (.ifCond .ne 93, 3)) ∧ (decode cX1_isKeyword 9 = .ok (.aload_n 0, 1)) ∧ (decode cX1_isKeyword 10 = .ok (.ldc 77, 2)) ∧ (decode cX1_isKeyword 12 = .ok (.invokevirtual 69, 3)) ∧ (decode cX1_isKeyword 15 = .ok (.ifCond .ne 84, 3)) ∧ (decode cX1_isKeyword 18 = .ok (.aload_n 0, 1)) ∧ (decode cX1_isKeyword 19 = .ok (.ldc 79, 2)) ∧ (decode cX1_isKeyword 21 = .ok (.invokevirtual 69, 3)) ∧ (decode cX1_isKeyword 24 = .ok (.ifCond .ne 75, 3)) := by decide +kernel
theorem dX1_isKeyword_0 : decode cX1_isKeyword 0 = .ok (.aload_n 0, 1) := dGR_19_c_592.1
theorem dX1_isKeyword_1 : decode cX1_isKeyword 1 = .ok (.ldc 67, 2) := dGR_19_c_592.2.1
theorem dX1_isKeyword_3 : decode cX1_isKeyword 3 = .ok (.invokevirtual 69, 3) := dGR_19_c_592.2.2.1
theorem dX1_isKeyword_6 : decode cX1_isKeyword 6 = .ok (.ifCond .ne 93, 3) := dGR_19_c_592.2.2.2.1
theorem dX1_isKeyword_9 : decode cX1_isKeyword 9 = .ok (.aload_n 0, 1) := dGR_19_c_592.2.2.2.2.1
theorem dX1_isKeyword_10 : decode cX1_isKeyword 10 = .ok (.ldc 77, 2) := dGR_19_c_592.2.2.2.2.2.1
theorem dX1_isKeyword_12 : decode cX1_isKeyword 12 = .ok (.invokevirtual 69, 3) := dGR_19_c_592.2.2.2.2.2.2.1
theorem dX1_isKeyword_15 : decode cX1_isKeyword 15 = .ok (.ifCond .ne 84, 3) := dGR_19_c_592.2.2.2.2.2.2.2.1
theorem dX1_isKeyword_18 : decode cX1_isKeyword 18 = .ok (.aload_n 0, 1) := dGR_19_c_592.2.2.2.2.2.2.2.2.1
theorem dX1_isKeyword_19 : decode cX1_isKeyword 19 = .ok (.ldc 79, 2) := dGR_19_c_592.2.2.2.2.2.2.2.2.2.1
theorem dX1_isKeyword_21 : decode cX1_isKeyword 21 = .ok (.invokevirtual 69, 3) := dGR_19_c_592.2.2.2.2.2.2.2.2.2.2.1
theorem dX1_isKeyword_24 : decode cX1_isKeyword 24 = .ok (.ifCond .ne 75, 3) := dGR_19_c_592.2.2.2.2.2.2.2.2.2.2.2
set_option maxRecDepth 100000 in
theorem dGR_19_c_593 : (decode cX1_isKeyword 27 = .ok (.aload_n 0, 1)) ∧ (decode cX1_isKeyword 28 = .ok (.ldc 81, 2)) ∧ (decode cX1_isKeyword 30 = .ok (.invokevirtual 69, 3)) ∧ (decode cX1_isKeyword 33 = .ok (.ifCond .ne 66, 3)) ∧ (decode cX1_isKeyword 36 = .ok (.aload_n 0, 1)) ∧ (decode cX1_isKeyword 37 = .ok (.ldc 130, 2)) ∧ (decode cX1_isKeyword 39 = .ok (.invokevirtual 69, 3)) ∧ (decode cX1_isKeyword 42 = .ok (.ifCond .ne 57, 3)) ∧ (decode cX1_isKeyword 45 = .ok (.aload_n 0, 1)) ∧ (decode cX1_isKeyword 46 = .ok (.ldc 92, 2)) ∧ (decode cX1_isKeyword 48 = .ok (.invokevirtual 69, 3)) ∧ (decode cX1_isKeyword 51 = .ok (.ifCond .ne 48, 3)) := by decide +kernel
theorem dX1_isKeyword_27 : decode cX1_isKeyword 27 = .ok (.aload_n 0, 1) := dGR_19_c_593.1
theorem dX1_isKeyword_28 : decode cX1_isKeyword 28 = .ok (.ldc 81, 2) := dGR_19_c_593.2.1
theorem dX1_isKeyword_30 : decode cX1_isKeyword 30 = .ok (.invokevirtual 69, 3) := dGR_19_c_593.2.2.1
theorem dX1_isKeyword_33 : decode cX1_isKeyword 33 = .ok (.ifCond .ne 66, 3) := dGR_19_c_593.2.2.2.1
theorem dX1_isKeyword_36 : decode cX1_isKeyword 36 = .ok (.aload_n 0, 1) := dGR_19_c_593.2.2.2.2.1
theorem dX1_isKeyword_37 : decode cX1_isKeyword 37 = .ok (.ldc 130, 2) := dGR_19_c_593.2.2.2.2.2.1
theorem dX1_isKeyword_39 : decode cX1_isKeyword 39 = .ok (.invokevirtual 69, 3) := dGR_19_c_593.2.2.2.2.2.2.1
theorem dX1_isKeyword_42 : decode cX1_isKeyword 42 = .ok (.ifCond .ne 57, 3) := dGR_19_c_593.2.2.2.2.2.2.2.1
theorem dX1_isKeyword_45 : decode cX1_isKeyword 45 = .ok (.aload_n 0, 1) := dGR_19_c_593.2.2.2.2.2.2.2.2.1
theorem dX1_isKeyword_46 : decode cX1_isKeyword 46 = .ok (.ldc 92, 2) := dGR_19_c_593.2.2.2.2.2.2.2.2.2.1
theorem dX1_isKeyword_48 : decode cX1_isKeyword 48 = .ok (.invokevirtual 69, 3) := dGR_19_c_593.2.2.2.2.2.2.2.2.2.2.1
theorem dX1_isKeyword_51 : decode cX1_isKeyword 51 = .ok (.ifCond .ne 48, 3) := dGR_19_c_593.2.2.2.2.2.2.2.2.2.2.2
set_option maxRecDepth 100000 in
theorem dGR_19_c_594 : (decode cX1_isKeyword 54 = .ok (.aload_n 0, 1)) ∧ (decode cX1_isKeyword 55 = .ok (.ldc 98, 2)) ∧ (decode cX1_isKeyword 57 = .ok (.invokevirtual 69, 3)) ∧ (decode cX1_isKeyword 60 = .ok (.ifCond .ne 39, 3)) ∧ (decode cX1_isKeyword 63 = .ok (.aload_n 0, 1)) ∧ (decode cX1_isKeyword 64 = .ok (.ldc 100, 2)) ∧ (decode cX1_isKeyword 66 = .ok (.invokevirtual 69, 3)) ∧ (decode cX1_isKeyword 69 = .ok (.ifCond .ne 30, 3)) ∧ (decode cX1_isKeyword 72 = .ok (.aload_n 0, 1)) ∧ (decode cX1_isKeyword 73 = .ok (.ldc 175, 2)) ∧ (decode cX1_isKeyword 75 = .ok (.invokevirtual 69, 3)) ∧ (decode cX1_isKeyword 78 = .ok (.ifCond .ne 21, 3)) := by decide +kernel
theorem dX1_isKeyword_54 : decode cX1_isKeyword 54 = .ok (.aload_n 0, 1) := dGR_19_c_594.1
theorem dX1_isKeyword_55 : decode cX1_isKeyword 55 = .ok (.ldc 98, 2) := dGR_19_c_594.2.1
theorem dX1_isKeyword_57 : decode cX1_isKeyword 57 = .ok (.invokevirtual 69, 3) := dGR_19_c_594.2.2.1
theorem dX1_isKeyword_60 : decode cX1_isKeyword 60 = .ok (.ifCond .ne 39, 3) := dGR_19_c_594.2.2.2.1
theorem dX1_isKeyword_63 : decode cX1_isKeyword 63 = .ok (.aload_n 0, 1) := dGR_19_c_594.2.2.2.2.1
theorem dX1_isKeyword_64 : decode cX1_isKeyword 64 = .ok (.ldc 100, 2) := dGR_19_c_594.2.2.2.2.2.1
theorem dX1_isKeyword_66 : decode cX1_isKeyword 66 = .ok (.invokevirtual 69, 3) := dGR_19_c_594.2.2.2.2.2.2.1
theorem dX1_isKeyword_69 : decode cX1_isKeyword 69 = .ok (.ifCond .ne 30, 3) := dGR_19_c_594.2.2.2.2.2.2.2.1
theorem dX1_isKeyword_72 : decode cX1_isKeyword 72 = .ok (.aload_n 0, 1) := dGR_19_c_594.2.2.2.2.2.2.2.2.1
theorem dX1_isKeyword_73 : decode cX1_isKeyword 73 = .ok (.ldc 175, 2) := dGR_19_c_594.2.2.2.2.2.2.2.2.2.1
theorem dX1_isKeyword_75 : decode cX1_isKeyword 75 = .ok (.invokevirtual 69, 3) := dGR_19_c_594.2.2.2.2.2.2.2.2.2.2.1
theorem dX1_isKeyword_78 : decode cX1_isKeyword 78 = .ok (.ifCond .ne 21, 3) := dGR_19_c_594.2.2.2.2.2.2.2.2.2.2.2
set_option maxRecDepth 100000 in
theorem dGR_19_c_595 : (decode cX1_isKeyword 81 = .ok (.aload_n 0, 1)) ∧ (decode cX1_isKeyword 82 = .ok (.ldc 177, 2)) ∧ (decode cX1_isKeyword 84 = .ok (.invokevirtual 69, 3)) ∧ (decode cX1_isKeyword 87 = .ok (.ifCond .ne 12, 3)) ∧ (decode cX1_isKeyword 90 = .ok (.aload_n 0, 1)) ∧ (decode cX1_isKeyword 91 = .ok (.ldc 173, 2)) ∧ (decode cX1_isKeyword 93 = .ok (.invokevirtual 69, 3)) ∧ (decode cX1_isKeyword 96 = .ok (.ifCond .eq 7, 3)) ∧ (decode cX1_isKeyword 99 = .ok (.iconst 1, 1)) ∧ (decode cX1_isKeyword 100 = .ok (.goto 4, 3)) ∧ (decode cX1_isKeyword 103 = .ok (.iconst 0, 1)) ∧ (decode cX1_isKeyword 104 = .ok (.ireturn, 1)) := by decide +kernel
theorem dX1_isKeyword_81 : decode cX1_isKeyword 81 = .ok (.aload_n 0, 1) := dGR_19_c_595.1
theorem dX1_isKeyword_82 : decode cX1_isKeyword 82 = .ok (.ldc 177, 2) := dGR_19_c_595.2.1
theorem dX1_isKeyword_84 : decode cX1_isKeyword 84 = .ok (.invokevirtual 69, 3) := dGR_19_c_595.2.2.1
theorem dX1_isKeyword_87 : decode cX1_isKeyword 87 = .ok (.ifCond .ne 12, 3) := dGR_19_c_595.2.2.2.1
theorem dX1_isKeyword_90 : decode cX1_isKeyword 90 = .ok (.aload_n 0, 1) := dGR_19_c_595.2.2.2.2.1
theorem dX1_isKeyword_91 : decode cX1_isKeyword 91 = .ok (.ldc 173, 2) := dGR_19_c_595.2.2.2.2.2.1
theorem dX1_isKeyword_93 : decode cX1_isKeyword 93 = .ok (.invokevirtual 69, 3) := dGR_19_c_595.2.2.2.2.2.2.1
theorem dX1_isKeyword_96 : decode cX1_isKeyword 96 = .ok (.ifCond .eq 7, 3) := dGR_19_c_595.2.2.2.2.2.2.2.1
theorem dX1_isKeyword_99 : decode cX1_isKeyword 99 = .ok (.iconst 1, 1) := dGR_19_c_595.2.2.2.2.2.2.2.2.1
theorem dX1_isKeyword_100 : decode cX1_isKeyword 100 = .ok (.goto 4, 3) := dGR_19_c_595.2.2.2.2.2.2.2.2.2.1
theorem dX1_isKeyword_103 : decode cX1_isKeyword 103 = .ok (.iconst 0, 1) := dGR_19_c_595.2.2.2.2.2.2.2.2.2.2.1
theorem dX1_isKeyword_104 : decode cX1_isKeyword 104 = .ok (.ireturn, 1) := dGR_19_c_595.2.2.2.2.2.2.2.2.2.2.2
set_option maxRecDepth 100000 in
theorem dGR_19_c_596 : (decode cX1_isNameAt 0 = .ok (.iload_n 1, 1)) ∧ (decode cX1_isNameAt 1 = .ok (.aload_n 0, 1)) ∧ (decode cX1_isNameAt 2 = .ok (.getfield 33, 3)) ∧ (decode cX1_isNameAt 5 = .ok (.arraylength, 1)) ∧ (decode cX1_isNameAt 6 = .ok (.if_icmp .ge 16, 3)) ∧ (decode cX1_isNameAt 9 = .ok (.aload_n 0, 1)) ∧ (decode cX1_isNameAt 10 = .ok (.getfield 33, 3)) ∧ (decode cX1_isNameAt 13 = .ok (.iload_n 1, 1)) ∧ (decode cX1_isNameAt 14 = .ok (.iaload, 1)) ∧ (decode cX1_isNameAt 15 = .ok (.aload_n 0, 1)) ∧ (decode cX1_isNameAt 16 = .ok (.getfield 54, 3)) ∧ (decode cX1_isNameAt 19 = .ok (.if_icmp .eq 5, 3)) := by decide +kernel
theorem dX1_isNameAt_0 : decode cX1_isNameAt 0 = .ok (.iload_n 1, 1) := dGR_19_c_596.1
theorem dX1_isNameAt_1 : decode cX1_isNameAt 1 = .ok (.aload_n 0, 1) := dGR_19_c_596.2.1
theorem dX1_isNameAt_2 : decode cX1_isNameAt 2 = .ok (.getfield 33, 3) := dGR_19_c_596.2.2.1
theorem dX1_isNameAt_5 : decode cX1_isNameAt 5 = .ok (.arraylength, 1) := dGR_19_c_596.2.2.2.1
theorem dX1_isNameAt_6 : decode cX1_isNameAt 6 = .ok (.if_icmp .ge 16, 3) := dGR_19_c_596.2.2.2.2.1
theorem dX1_isNameAt_9 : decode cX1_isNameAt 9 = .ok (.aload_n 0, 1) := dGR_19_c_596.2.2.2.2.2.1
theorem dX1_isNameAt_10 : decode cX1_isNameAt 10 = .ok (.getfield 33, 3) := dGR_19_c_596.2.2.2.2.2.2.1
theorem dX1_isNameAt_13 : decode cX1_isNameAt 13 = .ok (.iload_n 1, 1) := dGR_19_c_596.2.2.2.2.2.2.2.1
theorem dX1_isNameAt_14 : decode cX1_isNameAt 14 = .ok (.iaload, 1) := dGR_19_c_596.2.2.2.2.2.2.2.2.1
theorem dX1_isNameAt_15 : decode cX1_isNameAt 15 = .ok (.aload_n 0, 1) := dGR_19_c_596.2.2.2.2.2.2.2.2.2.1
theorem dX1_isNameAt_16 : decode cX1_isNameAt 16 = .ok (.getfield 54, 3) := dGR_19_c_596.2.2.2.2.2.2.2.2.2.2.1
theorem dX1_isNameAt_19 : decode cX1_isNameAt 19 = .ok (.if_icmp .eq 5, 3) := dGR_19_c_596.2.2.2.2.2.2.2.2.2.2.2
set_option maxRecDepth 100000 in
theorem dGR_19_c_597 : (decode cX1_isNameAt 22 = .ok (.iconst 0, 1)) ∧ (decode cX1_isNameAt 23 = .ok (.ireturn, 1)) ∧ (decode cX1_isNameAt 24 = .ok (.iconst 0, 1)) ∧ (decode cX1_isNameAt 25 = .ok (.istore_n 2, 1)) ∧ (decode cX1_isNameAt 26 = .ok (.iload_n 2, 1)) ∧ (decode cX1_isNameAt 27 = .ok (.aload_n 0, 1)) ∧ (decode cX1_isNameAt 28 = .ok (.getfield 54, 3)) ∧ (decode cX1_isNameAt 31 = .ok (.if_icmp .ge 36, 3)) ∧ (decode cX1_isNameAt 34 = .ok (.aload_n 0, 1)) ∧ (decode cX1_isNameAt 35 = .ok (.aload_n 0, 1)) ∧ (decode cX1_isNameAt 36 = .ok (.getfield 29, 3)) ∧ (decode cX1_isNameAt 39 = .ok (.iload_n 1, 1)) := by decide +kernel
theorem dX1_isNameAt_22 : decode cX1_isNameAt 22 = .ok (.iconst 0, 1) := dGR_19_c_597.1
theorem dX1_isNameAt_23 : decode cX1_isNameAt 23 = .ok (.ireturn, 1) := dGR_19_c_597.2.1
theorem dX1_isNameAt_24 : decode cX1_isNameAt 24 = .ok (.iconst 0, 1) := dGR_19_c_597.2.2.1
theorem dX1_isNameAt_25 : decode cX1_isNameAt 25 = .ok (.istore_n 2, 1) := dGR_19_c_597.2.2.2.1
theorem dX1_isNameAt_26 : decode cX1_isNameAt 26 = .ok (.iload_n 2, 1) := dGR_19_c_597.2.2.2.2.1
theorem dX1_isNameAt_27 : decode cX1_isNameAt 27 = .ok (.aload_n 0, 1) := dGR_19_c_597.2.2.2.2.2.1
theorem dX1_isNameAt_28 : decode cX1_isNameAt 28 = .ok (.getfield 54, 3) := dGR_19_c_597.2.2.2.2.2.2.1
theorem dX1_isNameAt_31 : decode cX1_isNameAt 31 = .ok (.if_icmp .ge 36, 3) := dGR_19_c_597.2.2.2.2.2.2.2.1
theorem dX1_isNameAt_34 : decode cX1_isNameAt 34 = .ok (.aload_n 0, 1) := dGR_19_c_597.2.2.2.2.2.2.2.2.1
theorem dX1_isNameAt_35 : decode cX1_isNameAt 35 = .ok (.aload_n 0, 1) := dGR_19_c_597.2.2.2.2.2.2.2.2.2.1
theorem dX1_isNameAt_36 : decode cX1_isNameAt 36 = .ok (.getfield 29, 3) := dGR_19_c_597.2.2.2.2.2.2.2.2.2.2.1
theorem dX1_isNameAt_39 : decode cX1_isNameAt 39 = .ok (.iload_n 1, 1) := dGR_19_c_597.2.2.2.2.2.2.2.2.2.2.2
set_option maxRecDepth 100000 in
theorem dGR_19_c_598 : (decode cX1_isNameAt 40 = .ok (.iaload, 1)) ∧ (decode cX1_isNameAt 41 = .ok (.iload_n 2, 1)) ∧ (decode cX1_isNameAt 42 = .ok (.iadd, 1)) ∧ (decode cX1_isNameAt 43 = .ok (.invokevirtual 196, 3)) ∧ (decode cX1_isNameAt 46 = .ok (.aload_n 0, 1)) ∧ (decode cX1_isNameAt 47 = .ok (.aload_n 0, 1)) ∧ (decode cX1_isNameAt 48 = .ok (.getfield 51, 3)) ∧ (decode cX1_isNameAt 51 = .ok (.iload_n 2, 1)) ∧ (decode cX1_isNameAt 52 = .ok (.iadd, 1)) ∧ (decode cX1_isNameAt 53 = .ok (.invokevirtual 196, 3)) ∧ (decode cX1_isNameAt 56 = .ok (.if_icmp .eq 5, 3)) ∧ (decode cX1_isNameAt 59 = .ok (.iconst 0, 1)) := by decide +kernel
theorem dX1_isNameAt_40 : decode cX1_isNameAt 40 = .ok (.iaload, 1) := dGR_19_c_598.1
theorem dX1_isNameAt_41 : decode cX1_isNameAt 41 = .ok (.iload_n 2, 1) := dGR_19_c_598.2.1
theorem dX1_isNameAt_42 : decode cX1_isNameAt 42 = .ok (.iadd, 1) := dGR_19_c_598.2.2.1
theorem dX1_isNameAt_43 : decode cX1_isNameAt 43 = .ok (.invokevirtual 196, 3) := dGR_19_c_598.2.2.2.1
theorem dX1_isNameAt_46 : decode cX1_isNameAt 46 = .ok (.aload_n 0, 1) := dGR_19_c_598.2.2.2.2.1
theorem dX1_isNameAt_47 : decode cX1_isNameAt 47 = .ok (.aload_n 0, 1) := dGR_19_c_598.2.2.2.2.2.1
theorem dX1_isNameAt_48 : decode cX1_isNameAt 48 = .ok (.getfield 51, 3) := dGR_19_c_598.2.2.2.2.2.2.1
theorem dX1_isNameAt_51 : decode cX1_isNameAt 51 = .ok (.iload_n 2, 1) := dGR_19_c_598.2.2.2.2.2.2.2.1
theorem dX1_isNameAt_52 : decode cX1_isNameAt 52 = .ok (.iadd, 1) := dGR_19_c_598.2.2.2.2.2.2.2.2.1
theorem dX1_isNameAt_53 : decode cX1_isNameAt 53 = .ok (.invokevirtual 196, 3) := dGR_19_c_598.2.2.2.2.2.2.2.2.2.1
theorem dX1_isNameAt_56 : decode cX1_isNameAt 56 = .ok (.if_icmp .eq 5, 3) := dGR_19_c_598.2.2.2.2.2.2.2.2.2.2.1
theorem dX1_isNameAt_59 : decode cX1_isNameAt 59 = .ok (.iconst 0, 1) := dGR_19_c_598.2.2.2.2.2.2.2.2.2.2.2
set_option maxRecDepth 100000 in
theorem dGR_19_c_599 : (decode cX1_isNameAt 60 = .ok (.ireturn, 1)) ∧ (decode cX1_isNameAt 61 = .ok (.iinc 2 1, 3)) ∧ (decode cX1_isNameAt 64 = .ok (.goto (-38), 3)) ∧ (decode cX1_isNameAt 67 = .ok (.iconst 1, 1)) ∧ (decode cX1_isNameAt 68 = .ok (.ireturn, 1)) := by decide +kernel
theorem dX1_isNameAt_60 : decode cX1_isNameAt 60 = .ok (.ireturn, 1) := dGR_19_c_599.1
theorem dX1_isNameAt_61 : decode cX1_isNameAt 61 = .ok (.iinc 2 1, 3) := dGR_19_c_599.2.1
theorem dX1_isNameAt_64 : decode cX1_isNameAt 64 = .ok (.goto (-38), 3) := dGR_19_c_599.2.2.1
theorem dX1_isNameAt_67 : decode cX1_isNameAt 67 = .ok (.iconst 1, 1) := dGR_19_c_599.2.2.2.1
theorem dX1_isNameAt_68 : decode cX1_isNameAt 68 = .ok (.ireturn, 1) := dGR_19_c_599.2.2.2.2
set_option maxRecDepth 100000 in
theorem dGR_19_c_600 : (decode cX1_findName 0 = .ok (.iconst 0, 1)) ∧ (decode cX1_findName 1 = .ok (.istore_n 1, 1)) ∧ (decode cX1_findName 2 = .ok (.iload_n 1, 1)) ∧ (decode cX1_findName 3 = .ok (.iconst 2, 1)) ∧ (decode cX1_findName 4 = .ok (.if_icmp .gt 52, 3)) ∧ (decode cX1_findName 7 = .ok (.iconst 0, 1)) ∧ (decode cX1_findName 8 = .ok (.istore_n 2, 1)) ∧ (decode cX1_findName 9 = .ok (.iload_n 2, 1)) ∧ (decode cX1_findName 10 = .ok (.aload_n 0, 1)) ∧ (decode cX1_findName 11 = .ok (.getfield 12, 3)) ∧ (decode cX1_findName 14 = .ok (.iload_n 1, 1)) ∧ (decode cX1_findName 15 = .ok (.invokevirtual 105, 3)) := by decide +kernel
theorem dX1_findName_0 : decode cX1_findName 0 = .ok (.iconst 0, 1) := dGR_19_c_600.1
theorem dX1_findName_1 : decode cX1_findName 1 = .ok (.istore_n 1, 1) := dGR_19_c_600.2.1
theorem dX1_findName_2 : decode cX1_findName 2 = .ok (.iload_n 1, 1) := dGR_19_c_600.2.2.1
theorem dX1_findName_3 : decode cX1_findName 3 = .ok (.iconst 2, 1) := dGR_19_c_600.2.2.2.1
theorem dX1_findName_4 : decode cX1_findName 4 = .ok (.if_icmp .gt 52, 3) := dGR_19_c_600.2.2.2.2.1
theorem dX1_findName_7 : decode cX1_findName 7 = .ok (.iconst 0, 1) := dGR_19_c_600.2.2.2.2.2.1
theorem dX1_findName_8 : decode cX1_findName 8 = .ok (.istore_n 2, 1) := dGR_19_c_600.2.2.2.2.2.2.1
theorem dX1_findName_9 : decode cX1_findName 9 = .ok (.iload_n 2, 1) := dGR_19_c_600.2.2.2.2.2.2.2.1
theorem dX1_findName_10 : decode cX1_findName 10 = .ok (.aload_n 0, 1) := dGR_19_c_600.2.2.2.2.2.2.2.2.1
theorem dX1_findName_11 : decode cX1_findName 11 = .ok (.getfield 12, 3) := dGR_19_c_600.2.2.2.2.2.2.2.2.2.1
theorem dX1_findName_14 : decode cX1_findName 14 = .ok (.iload_n 1, 1) := dGR_19_c_600.2.2.2.2.2.2.2.2.2.2.1
theorem dX1_findName_15 : decode cX1_findName 15 = .ok (.invokevirtual 105, 3) := dGR_19_c_600.2.2.2.2.2.2.2.2.2.2.2
set_option maxRecDepth 100000 in
theorem dGR_19_c_601 : (decode cX1_findName 18 = .ok (.if_icmp .ge 32, 3)) ∧ (decode cX1_findName 21 = .ok (.aload_n 0, 1)) ∧ (decode cX1_findName 22 = .ok (.iload_n 1, 1)) ∧ (decode cX1_findName 23 = .ok (.iconst 2, 1)) ∧ (decode cX1_findName 24 = .ok (.imul, 1)) ∧ (decode cX1_findName 25 = .ok (.iload_n 2, 1)) ∧ (decode cX1_findName 26 = .ok (.iadd, 1)) ∧ (decode cX1_findName 27 = .ok (.invokevirtual 203, 3)) ∧ (decode cX1_findName 30 = .ok (.ifCond .eq 14, 3)) ∧ (decode cX1_findName 33 = .ok (.aload_n 0, 1)) ∧ (decode cX1_findName 34 = .ok (.getfield 12, 3)) ∧ (decode cX1_findName 37 = .ok (.iload_n 1, 1)) := by decide +kernel
theorem dX1_findName_18 : decode cX1_findName 18 = .ok (.if_icmp .ge 32, 3) := dGR_19_c_601.1
theorem dX1_findName_21 : decode cX1_findName 21 = .ok (.aload_n 0, 1) := dGR_19_c_601.2.1
theorem dX1_findName_22 : decode cX1_findName 22 = .ok (.iload_n 1, 1) := dGR_19_c_601.2.2.1
theorem dX1_findName_23 : decode cX1_findName 23 = .ok (.iconst 2, 1) := dGR_19_c_601.2.2.2.1
theorem dX1_findName_24 : decode cX1_findName 24 = .ok (.imul, 1) := dGR_19_c_601.2.2.2.2.1
theorem dX1_findName_25 : decode cX1_findName 25 = .ok (.iload_n 2, 1) := dGR_19_c_601.2.2.2.2.2.1
theorem dX1_findName_26 : decode cX1_findName 26 = .ok (.iadd, 1) := dGR_19_c_601.2.2.2.2.2.2.1
theorem dX1_findName_27 : decode cX1_findName 27 = .ok (.invokevirtual 203, 3) := dGR_19_c_601.2.2.2.2.2.2.2.1
theorem dX1_findName_30 : decode cX1_findName 30 = .ok (.ifCond .eq 14, 3) := dGR_19_c_601.2.2.2.2.2.2.2.2.1
theorem dX1_findName_33 : decode cX1_findName 33 = .ok (.aload_n 0, 1) := dGR_19_c_601.2.2.2.2.2.2.2.2.2.1
theorem dX1_findName_34 : decode cX1_findName 34 = .ok (.getfield 12, 3) := dGR_19_c_601.2.2.2.2.2.2.2.2.2.2.1
theorem dX1_findName_37 : decode cX1_findName 37 = .ok (.iload_n 1, 1) := dGR_19_c_601.2.2.2.2.2.2.2.2.2.2.2
set_option maxRecDepth 100000 in
theorem dGR_19_c_602 : (decode cX1_findName 38 = .ok (.invokevirtual 206, 3)) ∧ (decode cX1_findName 41 = .ok (.iload_n 2, 1)) ∧ (decode cX1_findName 42 = .ok (.iadd, 1)) ∧ (decode cX1_findName 43 = .ok (.ireturn, 1)) ∧ (decode cX1_findName 44 = .ok (.iinc 2 1, 3)) ∧ (decode cX1_findName 47 = .ok (.goto (-38), 3)) ∧ (decode cX1_findName 50 = .ok (.iinc 1 1, 3)) ∧ (decode cX1_findName 53 = .ok (.goto (-51), 3)) ∧ (decode cX1_findName 56 = .ok (.iconst (-1), 1)) ∧ (decode cX1_findName 57 = .ok (.ireturn, 1)) := by decide +kernel
theorem dX1_findName_38 : decode cX1_findName 38 = .ok (.invokevirtual 206, 3) := dGR_19_c_602.1
theorem dX1_findName_41 : decode cX1_findName 41 = .ok (.iload_n 2, 1) := dGR_19_c_602.2.1
theorem dX1_findName_42 : decode cX1_findName 42 = .ok (.iadd, 1) := dGR_19_c_602.2.2.1
theorem dX1_findName_43 : decode cX1_findName 43 = .ok (.ireturn, 1) := dGR_19_c_602.2.2.2.1
theorem dX1_findName_44 : decode cX1_findName 44 = .ok (.iinc 2 1, 3) := dGR_19_c_602.2.2.2.2.1
theorem dX1_findName_47 : decode cX1_findName 47 = .ok (.goto (-38), 3) := dGR_19_c_602.2.2.2.2.2.1
theorem dX1_findName_50 : decode cX1_findName 50 = .ok (.iinc 1 1, 3) := dGR_19_c_602.2.2.2.2.2.2.1
theorem dX1_findName_53 : decode cX1_findName 53 = .ok (.goto (-51), 3) := dGR_19_c_602.2.2.2.2.2.2.2.1
theorem dX1_findName_56 : decode cX1_findName 56 = .ok (.iconst (-1), 1) := dGR_19_c_602.2.2.2.2.2.2.2.2.1
theorem dX1_findName_57 : decode cX1_findName 57 = .ok (.ireturn, 1) := dGR_19_c_602.2.2.2.2.2.2.2.2.2
set_option maxRecDepth 100000 in
theorem dGR_19_c_603 : (decode cX1_latest 0 = .ok (.aload_n 0, 1)) ∧ (decode cX1_latest 1 = .ok (.getfield 12, 3)) ∧ (decode cX1_latest 4 = .ok (.aload_n 0, 1)) ∧ (decode cX1_latest 5 = .ok (.getfield 12, 3)) ∧ (decode cX1_latest 8 = .ok (.getfield 86, 3)) ∧ (decode cX1_latest 11 = .ok (.iconst 1, 1)) ∧ (decode cX1_latest 12 = .ok (.isub, 1)) ∧ (decode cX1_latest 13 = .ok (.invokevirtual 181, 3)) ∧ (decode cX1_latest 16 = .ok (.areturn, 1)) := by decide +kernel
theorem dX1_latest_0 : decode cX1_latest 0 = .ok (.aload_n 0, 1) := dGR_19_c_603.1
theorem dX1_latest_1 : decode cX1_latest 1 = .ok (.getfield 12, 3) := dGR_19_c_603.2.1
theorem dX1_latest_4 : decode cX1_latest 4 = .ok (.aload_n 0, 1) := dGR_19_c_603.2.2.1
theorem dX1_latest_5 : decode cX1_latest 5 = .ok (.getfield 12, 3) := dGR_19_c_603.2.2.2.1
theorem dX1_latest_8 : decode cX1_latest 8 = .ok (.getfield 86, 3) := dGR_19_c_603.2.2.2.2.1
theorem dX1_latest_11 : decode cX1_latest 11 = .ok (.iconst 1, 1) := dGR_19_c_603.2.2.2.2.2.1
theorem dX1_latest_12 : decode cX1_latest 12 = .ok (.isub, 1) := dGR_19_c_603.2.2.2.2.2.2.1
theorem dX1_latest_13 : decode cX1_latest 13 = .ok (.invokevirtual 181, 3) := dGR_19_c_603.2.2.2.2.2.2.2.1
theorem dX1_latest_16 : decode cX1_latest 16 = .ok (.areturn, 1) := dGR_19_c_603.2.2.2.2.2.2.2.2
set_option maxRecDepth 100000 in
theorem dGR_19_c_604 : (decode cX1_standsSign 0 = .ok (.aload_n 0, 1)) ∧ (decode cX1_standsSign 1 = .ok (.getfield 61, 3)) ∧ (decode cX1_standsSign 4 = .ok (.iconst 3, 1)) ∧ (decode cX1_standsSign 5 = .ok (.if_icmp .eq 11, 3)) ∧ (decode cX1_standsSign 8 = .ok (.aload_n 0, 1)) ∧ (decode cX1_standsSign 9 = .ok (.iconst 2, 1)) ∧ (decode cX1_standsSign 10 = .ok (.invokevirtual 89, 3)) ∧ (decode cX1_standsSign 13 = .ok (.ifCond .eq 7, 3)) ∧ (decode cX1_standsSign 16 = .ok (.iconst 1, 1)) ∧ (decode cX1_standsSign 17 = .ok (.goto 4, 3)) ∧ (decode cX1_standsSign 20 = .ok (.iconst 0, 1)) ∧ (decode cX1_standsSign 21 = .ok (.ireturn, 1)) := by decide +kernel
theorem dX1_standsSign_0 : decode cX1_standsSign 0 = .ok (.aload_n 0, 1) := dGR_19_c_604.1
theorem dX1_standsSign_1 : decode cX1_standsSign 1 = .ok (.getfield 61, 3) := dGR_19_c_604.2.1
theorem dX1_standsSign_4 : decode cX1_standsSign 4 = .ok (.iconst 3, 1) := dGR_19_c_604.2.2.1
theorem dX1_standsSign_5 : decode cX1_standsSign 5 = .ok (.if_icmp .eq 11, 3) := dGR_19_c_604.2.2.2.1
theorem dX1_standsSign_8 : decode cX1_standsSign 8 = .ok (.aload_n 0, 1) := dGR_19_c_604.2.2.2.2.1
theorem dX1_standsSign_9 : decode cX1_standsSign 9 = .ok (.iconst 2, 1) := dGR_19_c_604.2.2.2.2.2.1
theorem dX1_standsSign_10 : decode cX1_standsSign 10 = .ok (.invokevirtual 89, 3) := dGR_19_c_604.2.2.2.2.2.2.1
theorem dX1_standsSign_13 : decode cX1_standsSign 13 = .ok (.ifCond .eq 7, 3) := dGR_19_c_604.2.2.2.2.2.2.2.1
theorem dX1_standsSign_16 : decode cX1_standsSign 16 = .ok (.iconst 1, 1) := dGR_19_c_604.2.2.2.2.2.2.2.2.1
theorem dX1_standsSign_17 : decode cX1_standsSign 17 = .ok (.goto 4, 3) := dGR_19_c_604.2.2.2.2.2.2.2.2.2.1
theorem dX1_standsSign_20 : decode cX1_standsSign 20 = .ok (.iconst 0, 1) := dGR_19_c_604.2.2.2.2.2.2.2.2.2.2.1
theorem dX1_standsSign_21 : decode cX1_standsSign 21 = .ok (.ireturn, 1) := dGR_19_c_604.2.2.2.2.2.2.2.2.2.2.2
set_option maxRecDepth 100000 in
theorem dGR_19_c_605 : (decode cX1_standsWord 0 = .ok (.aload_n 0, 1)) ∧ (decode cX1_standsWord 1 = .ok (.aload_n 1, 1)) ∧ (decode cX1_standsWord 2 = .ok (.invokevirtual 69, 3)) ∧ (decode cX1_standsWord 5 = .ok (.ifCond .ne 11, 3)) ∧ (decode cX1_standsWord 8 = .ok (.aload_n 0, 1)) ∧ (decode cX1_standsWord 9 = .ok (.iconst 2, 1)) ∧ (decode cX1_standsWord 10 = .ok (.invokevirtual 89, 3)) ∧ (decode cX1_standsWord 13 = .ok (.ifCond .eq 7, 3)) ∧ (decode cX1_standsWord 16 = .ok (.iconst 1, 1)) ∧ (decode cX1_standsWord 17 = .ok (.goto 4, 3)) ∧ (decode cX1_standsWord 20 = .ok (.iconst 0, 1)) ∧ (decode cX1_standsWord 21 = .ok (.ireturn, 1)) := by decide +kernel
theorem dX1_standsWord_0 : decode cX1_standsWord 0 = .ok (.aload_n 0, 1) := dGR_19_c_605.1
theorem dX1_standsWord_1 : decode cX1_standsWord 1 = .ok (.aload_n 1, 1) := dGR_19_c_605.2.1
theorem dX1_standsWord_2 : decode cX1_standsWord 2 = .ok (.invokevirtual 69, 3) := dGR_19_c_605.2.2.1
theorem dX1_standsWord_5 : decode cX1_standsWord 5 = .ok (.ifCond .ne 11, 3) := dGR_19_c_605.2.2.2.1
theorem dX1_standsWord_8 : decode cX1_standsWord 8 = .ok (.aload_n 0, 1) := dGR_19_c_605.2.2.2.2.1
theorem dX1_standsWord_9 : decode cX1_standsWord 9 = .ok (.iconst 2, 1) := dGR_19_c_605.2.2.2.2.2.1
theorem dX1_standsWord_10 : decode cX1_standsWord 10 = .ok (.invokevirtual 89, 3) := dGR_19_c_605.2.2.2.2.2.2.1
theorem dX1_standsWord_13 : decode cX1_standsWord 13 = .ok (.ifCond .eq 7, 3) := dGR_19_c_605.2.2.2.2.2.2.2.1
theorem dX1_standsWord_16 : decode cX1_standsWord 16 = .ok (.iconst 1, 1) := dGR_19_c_605.2.2.2.2.2.2.2.2.1
theorem dX1_standsWord_17 : decode cX1_standsWord 17 = .ok (.goto 4, 3) := dGR_19_c_605.2.2.2.2.2.2.2.2.2.1
theorem dX1_standsWord_20 : decode cX1_standsWord 20 = .ok (.iconst 0, 1) := dGR_19_c_605.2.2.2.2.2.2.2.2.2.2.1
theorem dX1_standsWord_21 : decode cX1_standsWord 21 = .ok (.ireturn, 1) := dGR_19_c_605.2.2.2.2.2.2.2.2.2.2.2
set_option maxRecDepth 100000 in
theorem dGR_19_c_606 : (decode cX1_standsName 0 = .ok (.aload_n 0, 1)) ∧ (decode cX1_standsName 1 = .ok (.getfield 61, 3)) ∧ (decode cX1_standsName 4 = .ok (.iconst 1, 1)) ∧ (decode cX1_standsName 5 = .ok (.if_icmp .ne 19, 3)) ∧ (decode cX1_standsName 8 = .ok (.aload_n 0, 1)) ∧ (decode cX1_standsName 9 = .ok (.getfield 54, 3)) ∧ (decode cX1_standsName 12 = .ok (.bipush 8, 2)) ∧ (decode cX1_standsName 14 = .ok (.if_icmp .gt 10, 3)) ∧ (decode cX1_standsName 17 = .ok (.aload_n 0, 1)) ∧ (decode cX1_standsName 18 = .ok (.invokevirtual 185, 3)) ∧ (decode cX1_standsName 21 = .ok (.ifCond .eq 11, 3)) ∧ (decode cX1_standsName 24 = .ok (.aload_n 0, 1)) := by decide +kernel
theorem dX1_standsName_0 : decode cX1_standsName 0 = .ok (.aload_n 0, 1) := dGR_19_c_606.1
theorem dX1_standsName_1 : decode cX1_standsName 1 = .ok (.getfield 61, 3) := dGR_19_c_606.2.1
theorem dX1_standsName_4 : decode cX1_standsName 4 = .ok (.iconst 1, 1) := dGR_19_c_606.2.2.1
theorem dX1_standsName_5 : decode cX1_standsName 5 = .ok (.if_icmp .ne 19, 3) := dGR_19_c_606.2.2.2.1
theorem dX1_standsName_8 : decode cX1_standsName 8 = .ok (.aload_n 0, 1) := dGR_19_c_606.2.2.2.2.1
theorem dX1_standsName_9 : decode cX1_standsName 9 = .ok (.getfield 54, 3) := dGR_19_c_606.2.2.2.2.2.1
theorem dX1_standsName_12 : decode cX1_standsName 12 = .ok (.bipush 8, 2) := dGR_19_c_606.2.2.2.2.2.2.1
theorem dX1_standsName_14 : decode cX1_standsName 14 = .ok (.if_icmp .gt 10, 3) := dGR_19_c_606.2.2.2.2.2.2.2.1
theorem dX1_standsName_17 : decode cX1_standsName 17 = .ok (.aload_n 0, 1) := dGR_19_c_606.2.2.2.2.2.2.2.2.1
theorem dX1_standsName_18 : decode cX1_standsName 18 = .ok (.invokevirtual 185, 3) := dGR_19_c_606.2.2.2.2.2.2.2.2.2.1
theorem dX1_standsName_21 : decode cX1_standsName 21 = .ok (.ifCond .eq 11, 3) := dGR_19_c_606.2.2.2.2.2.2.2.2.2.2.1
theorem dX1_standsName_24 : decode cX1_standsName 24 = .ok (.aload_n 0, 1) := dGR_19_c_606.2.2.2.2.2.2.2.2.2.2.2
set_option maxRecDepth 100000 in
theorem dGR_19_c_607 : (decode cX1_standsName 25 = .ok (.iconst 2, 1)) ∧ (decode cX1_standsName 26 = .ok (.invokevirtual 89, 3)) ∧ (decode cX1_standsName 29 = .ok (.ifCond .eq 7, 3)) ∧ (decode cX1_standsName 32 = .ok (.iconst 1, 1)) ∧ (decode cX1_standsName 33 = .ok (.goto 4, 3)) ∧ (decode cX1_standsName 36 = .ok (.iconst 0, 1)) ∧ (decode cX1_standsName 37 = .ok (.ireturn, 1)) := by decide +kernel
theorem dX1_standsName_25 : decode cX1_standsName 25 = .ok (.iconst 2, 1) := dGR_19_c_607.1
theorem dX1_standsName_26 : decode cX1_standsName 26 = .ok (.invokevirtual 89, 3) := dGR_19_c_607.2.1
theorem dX1_standsName_29 : decode cX1_standsName 29 = .ok (.ifCond .eq 7, 3) := dGR_19_c_607.2.2.1
theorem dX1_standsName_32 : decode cX1_standsName 32 = .ok (.iconst 1, 1) := dGR_19_c_607.2.2.2.1
theorem dX1_standsName_33 : decode cX1_standsName 33 = .ok (.goto 4, 3) := dGR_19_c_607.2.2.2.2.1
theorem dX1_standsName_36 : decode cX1_standsName 36 = .ok (.iconst 0, 1) := dGR_19_c_607.2.2.2.2.2.1
theorem dX1_standsName_37 : decode cX1_standsName 37 = .ok (.ireturn, 1) := dGR_19_c_607.2.2.2.2.2.2
set_option maxRecDepth 100000 in
theorem dGR_19_c_608 : (decode cX1_standsNumber 0 = .ok (.aload_n 0, 1)) ∧ (decode cX1_standsNumber 1 = .ok (.getfield 61, 3)) ∧ (decode cX1_standsNumber 4 = .ok (.iconst 2, 1)) ∧ (decode cX1_standsNumber 5 = .ok (.if_icmp .eq 9, 3)) ∧ (decode cX1_standsNumber 8 = .ok (.aload_n 0, 1)) ∧ (decode cX1_standsNumber 9 = .ok (.iconst 2, 1)) ∧ (decode cX1_standsNumber 10 = .ok (.invokevirtual 89, 3)) ∧ (decode cX1_standsNumber 13 = .ok (.ireturn, 1)) ∧ (decode cX1_standsNumber 14 = .ok (.aload_n 0, 1)) ∧ (decode cX1_standsNumber 15 = .ok (.getfield 127, 3)) ∧ (decode cX1_standsNumber 18 = .ok (.iload_n 1, 1)) ∧ (decode cX1_standsNumber 19 = .ok (.iload_n 2, 1)) := by decide +kernel
theorem dX1_standsNumber_0 : decode cX1_standsNumber 0 = .ok (.aload_n 0, 1) := dGR_19_c_608.1
theorem dX1_standsNumber_1 : decode cX1_standsNumber 1 = .ok (.getfield 61, 3) := dGR_19_c_608.2.1
theorem dX1_standsNumber_4 : decode cX1_standsNumber 4 = .ok (.iconst 2, 1) := dGR_19_c_608.2.2.1
theorem dX1_standsNumber_5 : decode cX1_standsNumber 5 = .ok (.if_icmp .eq 9, 3) := dGR_19_c_608.2.2.2.1
theorem dX1_standsNumber_8 : decode cX1_standsNumber 8 = .ok (.aload_n 0, 1) := dGR_19_c_608.2.2.2.2.1
theorem dX1_standsNumber_9 : decode cX1_standsNumber 9 = .ok (.iconst 2, 1) := dGR_19_c_608.2.2.2.2.2.1
theorem dX1_standsNumber_10 : decode cX1_standsNumber 10 = .ok (.invokevirtual 89, 3) := dGR_19_c_608.2.2.2.2.2.2.1
theorem dX1_standsNumber_13 : decode cX1_standsNumber 13 = .ok (.ireturn, 1) := dGR_19_c_608.2.2.2.2.2.2.2.1
theorem dX1_standsNumber_14 : decode cX1_standsNumber 14 = .ok (.aload_n 0, 1) := dGR_19_c_608.2.2.2.2.2.2.2.2.1
theorem dX1_standsNumber_15 : decode cX1_standsNumber 15 = .ok (.getfield 127, 3) := dGR_19_c_608.2.2.2.2.2.2.2.2.2.1
theorem dX1_standsNumber_18 : decode cX1_standsNumber 18 = .ok (.iload_n 1, 1) := dGR_19_c_608.2.2.2.2.2.2.2.2.2.2.1
theorem dX1_standsNumber_19 : decode cX1_standsNumber 19 = .ok (.iload_n 2, 1) := dGR_19_c_608.2.2.2.2.2.2.2.2.2.2.2
set_option maxRecDepth 100000 in
theorem dGR_19_c_609 : (decode cX1_standsNumber 20 = .ok (.invokestatic 188, 3)) ∧ (decode cX1_standsNumber 23 = .ok (.ifCond .ne 11, 3)) ∧ (decode cX1_standsNumber 26 = .ok (.aload_n 0, 1)) ∧ (decode cX1_standsNumber 27 = .ok (.iconst 4, 1)) ∧ (decode cX1_standsNumber 28 = .ok (.invokevirtual 89, 3)) ∧ (decode cX1_standsNumber 31 = .ok (.ifCond .eq 7, 3)) ∧ (decode cX1_standsNumber 34 = .ok (.iconst 1, 1)) ∧ (decode cX1_standsNumber 35 = .ok (.goto 4, 3)) ∧ (decode cX1_standsNumber 38 = .ok (.iconst 0, 1)) ∧ (decode cX1_standsNumber 39 = .ok (.ireturn, 1)) := by decide +kernel
theorem dX1_standsNumber_20 : decode cX1_standsNumber 20 = .ok (.invokestatic 188, 3) := dGR_19_c_609.1
theorem dX1_standsNumber_23 : decode cX1_standsNumber 23 = .ok (.ifCond .ne 11, 3) := dGR_19_c_609.2.1
theorem dX1_standsNumber_26 : decode cX1_standsNumber 26 = .ok (.aload_n 0, 1) := dGR_19_c_609.2.2.1
theorem dX1_standsNumber_27 : decode cX1_standsNumber 27 = .ok (.iconst 4, 1) := dGR_19_c_609.2.2.2.1
theorem dX1_standsNumber_28 : decode cX1_standsNumber 28 = .ok (.invokevirtual 89, 3) := dGR_19_c_609.2.2.2.2.1
theorem dX1_standsNumber_31 : decode cX1_standsNumber 31 = .ok (.ifCond .eq 7, 3) := dGR_19_c_609.2.2.2.2.2.1
theorem dX1_standsNumber_34 : decode cX1_standsNumber 34 = .ok (.iconst 1, 1) := dGR_19_c_609.2.2.2.2.2.2.1
theorem dX1_standsNumber_35 : decode cX1_standsNumber 35 = .ok (.goto 4, 3) := dGR_19_c_609.2.2.2.2.2.2.2.1
theorem dX1_standsNumber_38 : decode cX1_standsNumber 38 = .ok (.iconst 0, 1) := dGR_19_c_609.2.2.2.2.2.2.2.2.1
theorem dX1_standsNumber_39 : decode cX1_standsNumber 39 = .ok (.ireturn, 1) := dGR_19_c_609.2.2.2.2.2.2.2.2.2
theorem sn_X1_188 : kSNd RX1 188 yX11_within "NestedChecker" cX11_within 3 (some .boolean) 3 := ⟨⟨by decide +kernel, by decide +kernel, by decide +kernel⟩, (tt lm_171 rfl), List.mem_of_getElem? (i := 12) rfl, (tt lm_721 rfl), (tt lm_722 rfl)⟩
set_option maxRecDepth 100000 in
theorem dGR_19_c_610 : (decode cX1_takeLetter 0 = .ok (.aload_n 0, 1)) ∧ (decode cX1_takeLetter 1 = .ok (.getfield 12, 3)) ∧ (decode cX1_takeLetter 4 = .ok (.getfield 86, 3)) ∧ (decode cX1_takeLetter 7 = .ok (.ifCond .le 9, 3)) ∧ (decode cX1_takeLetter 10 = .ok (.aload_n 0, 1)) ∧ (decode cX1_takeLetter 11 = .ok (.iconst 5, 1)) ∧ (decode cX1_takeLetter 12 = .ok (.invokevirtual 89, 3)) ∧ (decode cX1_takeLetter 15 = .ok (.ireturn, 1)) ∧ (decode cX1_takeLetter 16 = .ok (.aload_n 0, 1)) ∧ (decode cX1_takeLetter 17 = .ok (.getfield 12, 3)) ∧ (decode cX1_takeLetter 20 = .ok (.iload_n 1, 1)) ∧ (decode cX1_takeLetter 21 = .ok (.invokevirtual 105, 3)) := by decide +kernel
theorem dX1_takeLetter_0 : decode cX1_takeLetter 0 = .ok (.aload_n 0, 1) := dGR_19_c_610.1
theorem dX1_takeLetter_1 : decode cX1_takeLetter 1 = .ok (.getfield 12, 3) := dGR_19_c_610.2.1
theorem dX1_takeLetter_4 : decode cX1_takeLetter 4 = .ok (.getfield 86, 3) := dGR_19_c_610.2.2.1
theorem dX1_takeLetter_7 : decode cX1_takeLetter 7 = .ok (.ifCond .le 9, 3) := dGR_19_c_610.2.2.2.1
theorem dX1_takeLetter_10 : decode cX1_takeLetter 10 = .ok (.aload_n 0, 1) := dGR_19_c_610.2.2.2.2.1
theorem dX1_takeLetter_11 : decode cX1_takeLetter 11 = .ok (.iconst 5, 1) := dGR_19_c_610.2.2.2.2.2.1
theorem dX1_takeLetter_12 : decode cX1_takeLetter 12 = .ok (.invokevirtual 89, 3) := dGR_19_c_610.2.2.2.2.2.2.1
theorem dX1_takeLetter_15 : decode cX1_takeLetter 15 = .ok (.ireturn, 1) := dGR_19_c_610.2.2.2.2.2.2.2.1
theorem dX1_takeLetter_16 : decode cX1_takeLetter 16 = .ok (.aload_n 0, 1) := dGR_19_c_610.2.2.2.2.2.2.2.2.1
theorem dX1_takeLetter_17 : decode cX1_takeLetter 17 = .ok (.getfield 12, 3) := dGR_19_c_610.2.2.2.2.2.2.2.2.2.1
theorem dX1_takeLetter_20 : decode cX1_takeLetter 20 = .ok (.iload_n 1, 1) := dGR_19_c_610.2.2.2.2.2.2.2.2.2.2.1
theorem dX1_takeLetter_21 : decode cX1_takeLetter 21 = .ok (.invokevirtual 105, 3) := dGR_19_c_610.2.2.2.2.2.2.2.2.2.2.2
set_option maxRecDepth 100000 in
theorem dGR_19_c_611 : (decode cX1_takeLetter 24 = .ok (.istore_n 2, 1)) ∧ (decode cX1_takeLetter 25 = .ok (.iload_n 2, 1)) ∧ (decode cX1_takeLetter 26 = .ok (.iconst 2, 1)) ∧ (decode cX1_takeLetter 27 = .ok (.if_icmp .lt 10, 3)) ∧ (decode cX1_takeLetter 30 = .ok (.aload_n 0, 1)) ∧ (decode cX1_takeLetter 31 = .ok (.bipush 6, 2)) ∧ (decode cX1_takeLetter 33 = .ok (.invokevirtual 89, 3)) ∧ (decode cX1_takeLetter 36 = .ok (.ireturn, 1)) ∧ (decode cX1_takeLetter 37 = .ok (.aload_n 0, 1)) ∧ (decode cX1_takeLetter 38 = .ok (.invokevirtual 57, 3)) ∧ (decode cX1_takeLetter 41 = .ok (.ifCond .eq 10, 3)) ∧ (decode cX1_takeLetter 44 = .ok (.aload_n 0, 1)) := by decide +kernel
theorem dX1_takeLetter_24 : decode cX1_takeLetter 24 = .ok (.istore_n 2, 1) := dGR_19_c_611.1
theorem dX1_takeLetter_25 : decode cX1_takeLetter 25 = .ok (.iload_n 2, 1) := dGR_19_c_611.2.1
theorem dX1_takeLetter_26 : decode cX1_takeLetter 26 = .ok (.iconst 2, 1) := dGR_19_c_611.2.2.1
theorem dX1_takeLetter_27 : decode cX1_takeLetter 27 = .ok (.if_icmp .lt 10, 3) := dGR_19_c_611.2.2.2.1
theorem dX1_takeLetter_30 : decode cX1_takeLetter 30 = .ok (.aload_n 0, 1) := dGR_19_c_611.2.2.2.2.1
theorem dX1_takeLetter_31 : decode cX1_takeLetter 31 = .ok (.bipush 6, 2) := dGR_19_c_611.2.2.2.2.2.1
theorem dX1_takeLetter_33 : decode cX1_takeLetter 33 = .ok (.invokevirtual 89, 3) := dGR_19_c_611.2.2.2.2.2.2.1
theorem dX1_takeLetter_36 : decode cX1_takeLetter 36 = .ok (.ireturn, 1) := dGR_19_c_611.2.2.2.2.2.2.2.1
theorem dX1_takeLetter_37 : decode cX1_takeLetter 37 = .ok (.aload_n 0, 1) := dGR_19_c_611.2.2.2.2.2.2.2.2.1
theorem dX1_takeLetter_38 : decode cX1_takeLetter 38 = .ok (.invokevirtual 57, 3) := dGR_19_c_611.2.2.2.2.2.2.2.2.2.1
theorem dX1_takeLetter_41 : decode cX1_takeLetter 41 = .ok (.ifCond .eq 10, 3) := dGR_19_c_611.2.2.2.2.2.2.2.2.2.2.1
theorem dX1_takeLetter_44 : decode cX1_takeLetter 44 = .ok (.aload_n 0, 1) := dGR_19_c_611.2.2.2.2.2.2.2.2.2.2.2
set_option maxRecDepth 100000 in
theorem dGR_19_c_612 : (decode cX1_takeLetter 45 = .ok (.invokevirtual 109, 3)) ∧ (decode cX1_takeLetter 48 = .ok (.ifCond .ne 5, 3)) ∧ (decode cX1_takeLetter 51 = .ok (.iconst 0, 1)) ∧ (decode cX1_takeLetter 52 = .ok (.ireturn, 1)) ∧ (decode cX1_takeLetter 53 = .ok (.aload_n 0, 1)) ∧ (decode cX1_takeLetter 54 = .ok (.invokevirtual 112, 3)) ∧ (decode cX1_takeLetter 57 = .ok (.iconst (-1), 1)) ∧ (decode cX1_takeLetter 58 = .ok (.if_icmp .eq 9, 3)) ∧ (decode cX1_takeLetter 61 = .ok (.aload_n 0, 1)) ∧ (decode cX1_takeLetter 62 = .ok (.iconst 3, 1)) ∧ (decode cX1_takeLetter 63 = .ok (.invokevirtual 89, 3)) ∧ (decode cX1_takeLetter 66 = .ok (.ireturn, 1)) := by decide +kernel
theorem dX1_takeLetter_45 : decode cX1_takeLetter 45 = .ok (.invokevirtual 109, 3) := dGR_19_c_612.1
theorem dX1_takeLetter_48 : decode cX1_takeLetter 48 = .ok (.ifCond .ne 5, 3) := dGR_19_c_612.2.1
theorem dX1_takeLetter_51 : decode cX1_takeLetter 51 = .ok (.iconst 0, 1) := dGR_19_c_612.2.2.1
theorem dX1_takeLetter_52 : decode cX1_takeLetter 52 = .ok (.ireturn, 1) := dGR_19_c_612.2.2.2.1
theorem dX1_takeLetter_53 : decode cX1_takeLetter 53 = .ok (.aload_n 0, 1) := dGR_19_c_612.2.2.2.2.1
theorem dX1_takeLetter_54 : decode cX1_takeLetter 54 = .ok (.invokevirtual 112, 3) := dGR_19_c_612.2.2.2.2.2.1
theorem dX1_takeLetter_57 : decode cX1_takeLetter 57 = .ok (.iconst (-1), 1) := dGR_19_c_612.2.2.2.2.2.2.1
theorem dX1_takeLetter_58 : decode cX1_takeLetter 58 = .ok (.if_icmp .eq 9, 3) := dGR_19_c_612.2.2.2.2.2.2.2.1
theorem dX1_takeLetter_61 : decode cX1_takeLetter 61 = .ok (.aload_n 0, 1) := dGR_19_c_612.2.2.2.2.2.2.2.2.1
theorem dX1_takeLetter_62 : decode cX1_takeLetter 62 = .ok (.iconst 3, 1) := dGR_19_c_612.2.2.2.2.2.2.2.2.2.1
theorem dX1_takeLetter_63 : decode cX1_takeLetter 63 = .ok (.invokevirtual 89, 3) := dGR_19_c_612.2.2.2.2.2.2.2.2.2.2.1
theorem dX1_takeLetter_66 : decode cX1_takeLetter 66 = .ok (.ireturn, 1) := dGR_19_c_612.2.2.2.2.2.2.2.2.2.2.2
set_option maxRecDepth 100000 in
theorem dGR_19_c_613 : (decode cX1_takeLetter 67 = .ok (.aload_n 0, 1)) ∧ (decode cX1_takeLetter 68 = .ok (.getfield 29, 3)) ∧ (decode cX1_takeLetter 71 = .ok (.iload_n 1, 1)) ∧ (decode cX1_takeLetter 72 = .ok (.iconst 2, 1)) ∧ (decode cX1_takeLetter 73 = .ok (.imul, 1)) ∧ (decode cX1_takeLetter 74 = .ok (.iload_n 2, 1)) ∧ (decode cX1_takeLetter 75 = .ok (.iadd, 1)) ∧ (decode cX1_takeLetter 76 = .ok (.aload_n 0, 1)) ∧ (decode cX1_takeLetter 77 = .ok (.getfield 51, 3)) ∧ (decode cX1_takeLetter 80 = .ok (.iastore, 1)) ∧ (decode cX1_takeLetter 81 = .ok (.aload_n 0, 1)) ∧ (decode cX1_takeLetter 82 = .ok (.getfield 33, 3)) := by decide +kernel
theorem dX1_takeLetter_67 : decode cX1_takeLetter 67 = .ok (.aload_n 0, 1) := dGR_19_c_613.1
theorem dX1_takeLetter_68 : decode cX1_takeLetter 68 = .ok (.getfield 29, 3) := dGR_19_c_613.2.1
theorem dX1_takeLetter_71 : decode cX1_takeLetter 71 = .ok (.iload_n 1, 1) := dGR_19_c_613.2.2.1
theorem dX1_takeLetter_72 : decode cX1_takeLetter 72 = .ok (.iconst 2, 1) := dGR_19_c_613.2.2.2.1
theorem dX1_takeLetter_73 : decode cX1_takeLetter 73 = .ok (.imul, 1) := dGR_19_c_613.2.2.2.2.1
theorem dX1_takeLetter_74 : decode cX1_takeLetter 74 = .ok (.iload_n 2, 1) := dGR_19_c_613.2.2.2.2.2.1
theorem dX1_takeLetter_75 : decode cX1_takeLetter 75 = .ok (.iadd, 1) := dGR_19_c_613.2.2.2.2.2.2.1
theorem dX1_takeLetter_76 : decode cX1_takeLetter 76 = .ok (.aload_n 0, 1) := dGR_19_c_613.2.2.2.2.2.2.2.1
theorem dX1_takeLetter_77 : decode cX1_takeLetter 77 = .ok (.getfield 51, 3) := dGR_19_c_613.2.2.2.2.2.2.2.2.1
theorem dX1_takeLetter_80 : decode cX1_takeLetter 80 = .ok (.iastore, 1) := dGR_19_c_613.2.2.2.2.2.2.2.2.2.1
theorem dX1_takeLetter_81 : decode cX1_takeLetter 81 = .ok (.aload_n 0, 1) := dGR_19_c_613.2.2.2.2.2.2.2.2.2.2.1
theorem dX1_takeLetter_82 : decode cX1_takeLetter 82 = .ok (.getfield 33, 3) := dGR_19_c_613.2.2.2.2.2.2.2.2.2.2.2
set_option maxRecDepth 100000 in
theorem dGR_19_c_614 : (decode cX1_takeLetter 85 = .ok (.iload_n 1, 1)) ∧ (decode cX1_takeLetter 86 = .ok (.iconst 2, 1)) ∧ (decode cX1_takeLetter 87 = .ok (.imul, 1)) ∧ (decode cX1_takeLetter 88 = .ok (.iload_n 2, 1)) ∧ (decode cX1_takeLetter 89 = .ok (.iadd, 1)) ∧ (decode cX1_takeLetter 90 = .ok (.aload_n 0, 1)) ∧ (decode cX1_takeLetter 91 = .ok (.getfield 54, 3)) ∧ (decode cX1_takeLetter 94 = .ok (.iastore, 1)) ∧ (decode cX1_takeLetter 95 = .ok (.aload_n 0, 1)) ∧ (decode cX1_takeLetter 96 = .ok (.getfield 12, 3)) ∧ (decode cX1_takeLetter 99 = .ok (.iload_n 1, 1)) ∧ (decode cX1_takeLetter 100 = .ok (.invokevirtual 116, 3)) := by decide +kernel
theorem dX1_takeLetter_85 : decode cX1_takeLetter 85 = .ok (.iload_n 1, 1) := dGR_19_c_614.1
theorem dX1_takeLetter_86 : decode cX1_takeLetter 86 = .ok (.iconst 2, 1) := dGR_19_c_614.2.1
theorem dX1_takeLetter_87 : decode cX1_takeLetter 87 = .ok (.imul, 1) := dGR_19_c_614.2.2.1
theorem dX1_takeLetter_88 : decode cX1_takeLetter 88 = .ok (.iload_n 2, 1) := dGR_19_c_614.2.2.2.1
theorem dX1_takeLetter_89 : decode cX1_takeLetter 89 = .ok (.iadd, 1) := dGR_19_c_614.2.2.2.2.1
theorem dX1_takeLetter_90 : decode cX1_takeLetter 90 = .ok (.aload_n 0, 1) := dGR_19_c_614.2.2.2.2.2.1
theorem dX1_takeLetter_91 : decode cX1_takeLetter 91 = .ok (.getfield 54, 3) := dGR_19_c_614.2.2.2.2.2.2.1
theorem dX1_takeLetter_94 : decode cX1_takeLetter 94 = .ok (.iastore, 1) := dGR_19_c_614.2.2.2.2.2.2.2.1
theorem dX1_takeLetter_95 : decode cX1_takeLetter 95 = .ok (.aload_n 0, 1) := dGR_19_c_614.2.2.2.2.2.2.2.2.1
theorem dX1_takeLetter_96 : decode cX1_takeLetter 96 = .ok (.getfield 12, 3) := dGR_19_c_614.2.2.2.2.2.2.2.2.2.1
theorem dX1_takeLetter_99 : decode cX1_takeLetter 99 = .ok (.iload_n 1, 1) := dGR_19_c_614.2.2.2.2.2.2.2.2.2.2.1
theorem dX1_takeLetter_100 : decode cX1_takeLetter 100 = .ok (.invokevirtual 116, 3) := dGR_19_c_614.2.2.2.2.2.2.2.2.2.2.2
set_option maxRecDepth 100000 in
theorem dGR_19_c_615 : (decode cX1_takeLetter 103 = .ok (.aload_n 0, 1)) ∧ (decode cX1_takeLetter 104 = .ok (.invokevirtual 57, 3)) ∧ (decode cX1_takeLetter 107 = .ok (.ifCond .eq 14, 3)) ∧ (decode cX1_takeLetter 110 = .ok (.aload_n 0, 1)) ∧ (decode cX1_takeLetter 111 = .ok (.invokevirtual 120, 3)) ∧ (decode cX1_takeLetter 114 = .ok (.ifCond .eq 7, 3)) ∧ (decode cX1_takeLetter 117 = .ok (.iconst 1, 1)) ∧ (decode cX1_takeLetter 118 = .ok (.goto 4, 3)) ∧ (decode cX1_takeLetter 121 = .ok (.iconst 0, 1)) ∧ (decode cX1_takeLetter 122 = .ok (.ireturn, 1)) := by decide +kernel
theorem dX1_takeLetter_103 : decode cX1_takeLetter 103 = .ok (.aload_n 0, 1) := dGR_19_c_615.1
theorem dX1_takeLetter_104 : decode cX1_takeLetter 104 = .ok (.invokevirtual 57, 3) := dGR_19_c_615.2.1
theorem dX1_takeLetter_107 : decode cX1_takeLetter 107 = .ok (.ifCond .eq 14, 3) := dGR_19_c_615.2.2.1
theorem dX1_takeLetter_110 : decode cX1_takeLetter 110 = .ok (.aload_n 0, 1) := dGR_19_c_615.2.2.2.1
theorem dX1_takeLetter_111 : decode cX1_takeLetter 111 = .ok (.invokevirtual 120, 3) := dGR_19_c_615.2.2.2.2.1
theorem dX1_takeLetter_114 : decode cX1_takeLetter 114 = .ok (.ifCond .eq 7, 3) := dGR_19_c_615.2.2.2.2.2.1
theorem dX1_takeLetter_117 : decode cX1_takeLetter 117 = .ok (.iconst 1, 1) := dGR_19_c_615.2.2.2.2.2.2.1
theorem dX1_takeLetter_118 : decode cX1_takeLetter 118 = .ok (.goto 4, 3) := dGR_19_c_615.2.2.2.2.2.2.2.1
theorem dX1_takeLetter_121 : decode cX1_takeLetter 121 = .ok (.iconst 0, 1) := dGR_19_c_615.2.2.2.2.2.2.2.2.1
theorem dX1_takeLetter_122 : decode cX1_takeLetter 122 = .ok (.ireturn, 1) := dGR_19_c_615.2.2.2.2.2.2.2.2.2
