theorem dJ0_coder_7d493_0 : decode cJ0_coder_7d493 0 = .ok (.getstatic 38, 3) := by decide +kernel
theorem dJ0_coder_7d493_3 : decode cJ0_coder_7d493 3 = .ok (.ifCond .eq 10, 3) := by decide +kernel
theorem dJ0_coder_7d493_6 : decode cJ0_coder_7d493 6 = .ok (.aload_n 0, 1) := by decide +kernel
theorem dJ0_coder_7d493_7 : decode cJ0_coder_7d493 7 = .ok (.getfield 15, 3) := by decide +kernel
theorem dJ0_coder_7d493_10 : decode cJ0_coder_7d493 10 = .ok (.goto 4, 3) := by decide +kernel
theorem dJ0_coder_7d493_14 : decode cJ0_coder_7d493 14 = .ok (.ireturn, 1) := by decide +kernel
set_option maxHeartbeats 4000000 in
set_option maxRecDepth 100000 in
theorem c_coder_f (G : KG) (l : Launch) (M : Mem) (i0 : Nat) (hI_M : Inv false M) (hpre : i0 < 12) : KC false G l yJ0_coder_7d493 cJ0_coder_7d493 1 (some .byte) (0, 0) [vT G i0] M (fun A => kQi false G A (fun (r : Int) (N : Mem) => M = N ∧ (r = 0))) := by
  refine kx_met (lo := [some (vT G i0)]) (by decide) (Nat.le_of_ble_eq_true rfl) rfl ?_
  intro X F hQ
  refine kx_gets1 3 F (tt lm_843 rfl) dJ0_coder_7d493_0 rfl ?_
  refine kx_if_eq 6 F 13 dJ0_coder_7d493_3 (by decide) rfl (by decide) (fun h_1 => (by exfalso; omega)) (fun h_1 => ?_)
  refine kx_aload_n 7 F 0 dJ0_coder_7d493_6 rfl rfl rfl ?_
  refine kx_sgetc 10 F (by omega) (tt lm_2366 rfl) dJ0_coder_7d493_7 rfl ?_
  refine kx_goto 14 F dJ0_coder_7d493_10 (by decide) ?_
  exact kx_nret F hQ rfl ⟨rfl, (by omega)⟩ dJ0_coder_7d493_14
theorem dJ0_isLatin1_aae02_0 : decode cJ0_isLatin1_aae02 0 = .ok (.getstatic 38, 3) := by decide +kernel
theorem dJ0_isLatin1_aae02_3 : decode cJ0_isLatin1_aae02 3 = .ok (.ifCond .eq 14, 3) := by decide +kernel
theorem dJ0_isLatin1_aae02_6 : decode cJ0_isLatin1_aae02 6 = .ok (.aload_n 0, 1) := by decide +kernel
theorem dJ0_isLatin1_aae02_7 : decode cJ0_isLatin1_aae02 7 = .ok (.getfield 15, 3) := by decide +kernel
theorem dJ0_isLatin1_aae02_10 : decode cJ0_isLatin1_aae02 10 = .ok (.ifCond .ne 7, 3) := by decide +kernel
theorem dJ0_isLatin1_aae02_13 : decode cJ0_isLatin1_aae02 13 = .ok (.iconst 1, 1) := by decide +kernel
theorem dJ0_isLatin1_aae02_14 : decode cJ0_isLatin1_aae02 14 = .ok (.goto 4, 3) := by decide +kernel
theorem dJ0_isLatin1_aae02_17 : decode cJ0_isLatin1_aae02 17 = .ok (.iconst 0, 1) := by decide +kernel
theorem dJ0_isLatin1_aae02_18 : decode cJ0_isLatin1_aae02 18 = .ok (.ireturn, 1) := by decide +kernel
set_option maxHeartbeats 4000000 in
set_option maxRecDepth 100000 in
theorem c_isLatin1_f (G : KG) (l : Launch) (M : Mem) (i0 : Nat) (hI_M : Inv false M) (hpre : i0 < 12) : KC false G l yJ0_isLatin1_aae02 cJ0_isLatin1_aae02 1 (some .boolean) (0, 0) [vT G i0] M (fun A => kQi false G A (fun (r : Int) (N : Mem) => M = N ∧ (r = 1))) := by
  refine kx_met (lo := [some (vT G i0)]) (by decide) (Nat.le_of_ble_eq_true rfl) rfl ?_
  intro X F hQ
  refine kx_gets1 3 F (tt lm_843 rfl) dJ0_isLatin1_aae02_0 rfl ?_
  refine kx_if_eq 6 F 17 dJ0_isLatin1_aae02_3 (by decide) rfl (by decide) (fun h_1 => (by exfalso; omega)) (fun h_1 => ?_)
  refine kx_aload_n 7 F 0 dJ0_isLatin1_aae02_6 rfl rfl rfl ?_
  refine kx_sgetc 10 F (by omega) (tt lm_2366 rfl) dJ0_isLatin1_aae02_7 rfl ?_
  refine kx_if_ne 13 F 17 dJ0_isLatin1_aae02_10 (by decide) rfl (by decide) (fun h_2 => ?_) (fun h_2 => ?_)
  · refine kx_iconst 18 F dJ0_isLatin1_aae02_17 rfl ?_
    exact kx_zret F hQ (by omega) ⟨rfl, (by omega)⟩ dJ0_isLatin1_aae02_18
  · refine kx_iconst 14 F dJ0_isLatin1_aae02_13 rfl ?_
    refine kx_goto 18 F dJ0_isLatin1_aae02_14 (by decide) ?_
    exact kx_zret F hQ (by omega) ⟨rfl, (by omega)⟩ dJ0_isLatin1_aae02_18
theorem dJ0_length_8abf5_0 : decode cJ0_length_8abf5 0 = .ok (.aload_n 0, 1) := by decide +kernel
theorem dJ0_length_8abf5_1 : decode cJ0_length_8abf5 1 = .ok (.getfield 9, 3) := by decide +kernel
theorem dJ0_length_8abf5_4 : decode cJ0_length_8abf5 4 = .ok (.arraylength, 1) := by decide +kernel
theorem dJ0_length_8abf5_5 : decode cJ0_length_8abf5 5 = .ok (.aload_n 0, 1) := by decide +kernel
theorem dJ0_length_8abf5_6 : decode cJ0_length_8abf5 6 = .ok (.invokevirtual 335, 3) := by decide +kernel
theorem dJ0_length_8abf5_9 : decode cJ0_length_8abf5 9 = .ok (.ishr, 1) := by decide +kernel
theorem dJ0_length_8abf5_10 : decode cJ0_length_8abf5 10 = .ok (.ireturn, 1) := by decide +kernel
set_option maxHeartbeats 4000000 in
set_option maxRecDepth 100000 in
theorem c_slength_f (G : KG) (l : Launch) (M : Mem) (i0 : Nat) (hI_M : Inv false M) (hpre : i0 < 12) : KC false G l yJ0_length_8abf5 cJ0_length_8abf5 1 (some .int) (1, 20) [vT G i0] M (fun A => kQi false G A (fun (r : Int) (N : Mem) => M = N ∧ (r = (slen i0)))) := by
  refine kx_met (lo := [some (vT G i0)]) (by decide) (Nat.le_of_ble_eq_true rfl) rfl ?_
  intro X F hQ
  refine kx_aload_n 1 F 0 dJ0_length_8abf5_0 rfl rfl rfl ?_
  refine kx_sgetv 4 F (by omega) (tt lm_2365 rfl) dJ0_length_8abf5_1 rfl ?_
  refine kx_salen 5 F (by omega) dJ0_length_8abf5_4 rfl ?_
  have h_1 := slen_rng i0
  refine kx_aload_n 6 F 0 dJ0_length_8abf5_5 rfl rfl rfl ?_
  refine kx_VSi 9 F (As := []) (st := [vI (slen i0)]) (by omega) vd_J0_335 (c_coder_f G l M i0 hI_M (by omega)) rfl ⟨by decide, by decide⟩ rfl rfl (Nat.le_of_ble_eq_true rfl) dJ0_length_8abf5_6 rfl ?_
  intro r_2 N_3 q_4
  obtain ⟨rfl, q_4c⟩ := q_4
  subst q_4c
  refine kx_ishr 10 F (v := (slen i0)) dJ0_length_8abf5_9 (zshr_0 (by omega)) rfl ?_
  exact kx_iret F hQ ⟨rfl, (by omega)⟩ dJ0_length_8abf5_10
theorem dJ3_checkIndex_8e157_0 : decode cJ3_checkIndex_8e157 0 = .ok (.iload_n 0, 1) := by decide +kernel
theorem dJ3_checkIndex_8e157_1 : decode cJ3_checkIndex_8e157 1 = .ok (.ifCond .lt 8, 3) := by decide +kernel
theorem dJ3_checkIndex_8e157_4 : decode cJ3_checkIndex_8e157 4 = .ok (.iload_n 0, 1) := by decide +kernel
theorem dJ3_checkIndex_8e157_5 : decode cJ3_checkIndex_8e157 5 = .ok (.iload_n 1, 1) := by decide +kernel
theorem dJ3_checkIndex_8e157_6 : decode cJ3_checkIndex_8e157 6 = .ok (.if_icmp .lt 10, 3) := by decide +kernel
theorem dJ3_checkIndex_8e157_16 : decode cJ3_checkIndex_8e157 16 = .ok (.iload_n 0, 1) := by decide +kernel
theorem dJ3_checkIndex_8e157_17 : decode cJ3_checkIndex_8e157 17 = .ok (.ireturn, 1) := by decide +kernel
set_option maxHeartbeats 4000000 in
set_option maxRecDepth 100000 in
theorem c_pcheck_f (G : KG) (l : Launch) (M : Mem) (a0 : Int) (a1 : Int) (x2 : Value) (hI_M : Inv false M) (hpre : -2147483648 ≤ a0 ∧ a0 ≤ 2147483647 ∧ -2147483648 ≤ a1 ∧ a1 ≤ 2147483647 ∧ 0 ≤ a0 ∧ a0 < a1) (hc_x2 : x2.category = 1) : KC false G l yJ3_checkIndex_8e157 cJ3_checkIndex_8e157 3 (some .int) (0, 0) [vI a0, vI a1, x2] M (fun A => kQi false G A (fun (r : Int) (N : Mem) => M = N ∧ (r = a0))) := by
  refine kx_met (lo := [some (vI a0), some (vI a1), some (x2)]) (by decide) (lg3 rfl rfl hc_x2) rfl ?_
  intro X F hQ
  refine kx_iload_n 1 F 0 dJ3_checkIndex_8e157_0 rfl rfl rfl ?_
  refine kx_if_lt 4 F 9 dJ3_checkIndex_8e157_1 (by decide) rfl (by omega) (fun h_1 => (by exfalso; omega)) (fun h_1 => ?_)
  refine kx_iload_n 5 F 0 dJ3_checkIndex_8e157_4 rfl rfl rfl ?_
  refine kx_iload_n 6 F 1 dJ3_checkIndex_8e157_5 rfl rfl rfl ?_
  refine kx_icmp_lt 9 F 16 dJ3_checkIndex_8e157_6 (by decide) rfl (by omega) (by omega) (fun h_2 => ?_) (fun h_2 => (by exfalso; omega))
  refine kx_iload_n 17 F 0 dJ3_checkIndex_8e157_16 rfl rfl rfl ?_
  exact kx_iret F hQ ⟨rfl, (by omega)⟩ dJ3_checkIndex_8e157_17
theorem dJ0_checkIndex_df160_0 : decode cJ0_checkIndex_df160 0 = .ok (.iload_n 0, 1) := by decide +kernel
theorem dJ0_checkIndex_df160_1 : decode cJ0_checkIndex_df160 1 = .ok (.iload_n 1, 1) := by decide +kernel
theorem dJ0_checkIndex_df160_2 : decode cJ0_checkIndex_df160 2 = .ok (.getstatic 1053, 3) := by decide +kernel
theorem dJ0_checkIndex_df160_5 : decode cJ0_checkIndex_df160 5 = .ok (.invokestatic 1059, 3) := by decide +kernel
theorem dJ0_checkIndex_df160_8 : decode cJ0_checkIndex_df160 8 = .ok (.pop, 1) := by decide +kernel
theorem dJ0_checkIndex_df160_9 : decode cJ0_checkIndex_df160 9 = .ok (.return_, 1) := by decide +kernel
set_option maxHeartbeats 4000000 in
set_option maxRecDepth 100000 in
theorem c_scheck_f (G : KG) (l : Launch) (M : Mem) (a0 : Int) (a1 : Int) (hI_M : Inv false M) (hpre : -2147483648 ≤ a0 ∧ a0 ≤ 2147483647 ∧ -2147483648 ≤ a1 ∧ a1 ≤ 2147483647 ∧ 0 ≤ a0 ∧ a0 < a1) : KC false G l yJ0_checkIndex_df160 cJ0_checkIndex_df160 2 none (1, 22) [vI a0, vI a1] M (fun A => kQv false G A (fun (N : Mem) => M = N)) := by
  refine kx_met (lo := [some (vI a0), some (vI a1)]) (by decide) (Nat.le_of_ble_eq_true rfl) rfl ?_
  intro X F hQ
  refine kx_iload_n 1 F 0 dJ0_checkIndex_df160_0 rfl rfl rfl ?_
  refine kx_iload_n 2 F 1 dJ0_checkIndex_df160_1 rfl rfl rfl ?_
  refine kx_getsq 5 F (tt lm_859 rfl) dJ0_checkIndex_df160_2 rfl (fun v_1 hc_v_1 => ?_)
  refine kx_Si 8 F (As := [vI a0, vI a1, v_1]) (st := []) sd_J0_1059 (c_pcheck_f G l M a0 a1 v_1 hI_M (by omega) hc_v_1) ⟨by decide, by decide⟩ rfl rfl (Nat.le_of_ble_eq_true rfl) dJ0_checkIndex_df160_5 rfl ?_
  intro r_2 N_3 q_4
  obtain ⟨rfl, q_4c⟩ := q_4
  refine kx_pop 9 F dJ0_checkIndex_df160_8 rfl rfl ?_
  exact kx_vret F hQ rfl dJ0_checkIndex_df160_9
theorem dJ1_charAt_3b067_0 : decode cJ1_charAt_3b067 0 = .ok (.iload_n 1, 1) := by decide +kernel
theorem dJ1_charAt_3b067_1 : decode cJ1_charAt_3b067 1 = .ok (.aload_n 0, 1) := by decide +kernel
theorem dJ1_charAt_3b067_2 : decode cJ1_charAt_3b067 2 = .ok (.arraylength, 1) := by decide +kernel
theorem dJ1_charAt_3b067_3 : decode cJ1_charAt_3b067 3 = .ok (.invokestatic 9, 3) := by decide +kernel
theorem dJ1_charAt_3b067_6 : decode cJ1_charAt_3b067 6 = .ok (.aload_n 0, 1) := by decide +kernel
theorem dJ1_charAt_3b067_7 : decode cJ1_charAt_3b067 7 = .ok (.iload_n 1, 1) := by decide +kernel
theorem dJ1_charAt_3b067_8 : decode cJ1_charAt_3b067 8 = .ok (.baload, 1) := by decide +kernel
theorem dJ1_charAt_3b067_9 : decode cJ1_charAt_3b067 9 = .ok (.sipush 255, 3) := by decide +kernel
theorem dJ1_charAt_3b067_12 : decode cJ1_charAt_3b067 12 = .ok (.iand, 1) := by decide +kernel
theorem dJ1_charAt_3b067_13 : decode cJ1_charAt_3b067 13 = .ok (.i2c, 1) := by decide +kernel
theorem dJ1_charAt_3b067_14 : decode cJ1_charAt_3b067 14 = .ok (.ireturn, 1) := by decide +kernel
set_option maxHeartbeats 4000000 in
set_option maxRecDepth 100000 in
theorem c_lcharAt_f (G : KG) (l : Launch) (M : Mem) (i0 : Nat) (a1 : Int) (hI_M : Inv false M) (hpre : i0 < 12 ∧ -2147483648 ≤ a1 ∧ a1 ≤ 2147483647 ∧ 0 ≤ a1 ∧ a1 < (slen i0)) : KC false G l yJ1_charAt_3b067 cJ1_charAt_3b067 2 (some .char) (2, 43) [vU G i0, vI a1] M (fun A => kQi false G A (fun (r : Int) (N : Mem) => M = N ∧ (r = (zand (schar i0 a1) 255) ∧ r ≥ 0 ∧ r ≤ 255))) := by
  refine kx_met (lo := [some (vU G i0), some (vI a1)]) (by decide) (Nat.le_of_ble_eq_true rfl) rfl ?_
  intro X F hQ
  refine kx_iload_n 1 F 1 dJ1_charAt_3b067_0 rfl rfl rfl ?_
  refine kx_aload_n 2 F 0 dJ1_charAt_3b067_1 rfl rfl rfl ?_
  refine kx_salen 3 F (by omega) dJ1_charAt_3b067_2 rfl ?_
  have h_1 := slen_rng i0
  refine kx_Sv 6 F (As := [vI a1, vI (slen i0)]) (st := []) sd_J1_9 (c_scheck_f G l M a1 (slen i0) hI_M (by omega)) ⟨by decide, by decide⟩ rfl rfl (Nat.le_of_ble_eq_true rfl) dJ1_charAt_3b067_3 rfl ?_
  intro N_2 q_3
  subst q_3
  refine kx_aload_n 7 F 0 dJ1_charAt_3b067_6 rfl rfl rfl ?_
  refine kx_iload_n 8 F 1 dJ1_charAt_3b067_7 rfl rfl rfl ?_
  refine kx_sbald 9 F (by omega) (by omega) dJ1_charAt_3b067_8 rfl ?_
  have h_4 := schar_rng i0 (by omega) a1
  refine kx_sipush 12 F dJ1_charAt_3b067_9 (by decide) rfl ?_
  refine kx_iand 13 F (v := (zand (schar i0 a1) 255)) dJ1_charAt_3b067_12 rfl rfl ?_
  have h_5 := zand_r (a := (schar i0 a1)) (b := 255) (by omega)
  refine kx_i2c 14 F (by omega) dJ1_charAt_3b067_13 rfl ?_
  exact kx_nret F hQ (nar_char (by omega)) ⟨rfl, (by omega)⟩ dJ1_charAt_3b067_14
theorem dJ0_charAt_5068e_0 : decode cJ0_charAt_5068e 0 = .ok (.aload_n 0, 1) := by decide +kernel
theorem dJ0_charAt_5068e_1 : decode cJ0_charAt_5068e 1 = .ok (.invokevirtual 492, 3) := by decide +kernel
theorem dJ0_charAt_5068e_4 : decode cJ0_charAt_5068e 4 = .ok (.ifCond .eq 12, 3) := by decide +kernel
theorem dJ0_charAt_5068e_7 : decode cJ0_charAt_5068e 7 = .ok (.aload_n 0, 1) := by decide +kernel
theorem dJ0_charAt_5068e_8 : decode cJ0_charAt_5068e 8 = .ok (.getfield 9, 3) := by decide +kernel
theorem dJ0_charAt_5068e_11 : decode cJ0_charAt_5068e 11 = .ok (.iload_n 1, 1) := by decide +kernel
theorem dJ0_charAt_5068e_12 : decode cJ0_charAt_5068e 12 = .ok (.invokestatic 495, 3) := by decide +kernel
theorem dJ0_charAt_5068e_15 : decode cJ0_charAt_5068e 15 = .ok (.ireturn, 1) := by decide +kernel
set_option maxHeartbeats 4000000 in
set_option maxRecDepth 100000 in
theorem c_charAt_f (G : KG) (l : Launch) (M : Mem) (i0 : Nat) (a1 : Int) (hI_M : Inv false M) (hpre : i0 < 12 ∧ -2147483648 ≤ a1 ∧ a1 ≤ 2147483647 ∧ 0 ≤ a1 ∧ a1 < (slen i0)) : KC false G l yJ0_charAt_5068e cJ0_charAt_5068e 2 (some .char) (3, 64) [vT G i0, vI a1] M (fun A => kQi false G A (fun (r : Int) (N : Mem) => M = N ∧ (r = (zand (schar i0 a1) 255) ∧ r ≥ 0 ∧ r ≤ 255))) := by
  refine kx_met (lo := [some (vT G i0), some (vI a1)]) (by decide) (Nat.le_of_ble_eq_true rfl) rfl ?_
  intro X F hQ
  refine kx_aload_n 1 F 0 dJ0_charAt_5068e_0 rfl rfl rfl ?_
  refine kx_VSi 4 F (As := []) (st := []) (by omega) vd_J0_492 (c_isLatin1_f G l M i0 hI_M (by omega)) rfl ⟨by decide, by decide⟩ rfl rfl (Nat.le_of_ble_eq_true rfl) dJ0_charAt_5068e_1 rfl ?_
  intro r_1 N_2 q_3
  obtain ⟨rfl, q_3c⟩ := q_3
  subst q_3c
  refine kx_if_eq 7 F 16 dJ0_charAt_5068e_4 (by decide) rfl (by decide) (fun h_4 => (by exfalso; omega)) (fun h_4 => ?_)
  refine kx_aload_n 8 F 0 dJ0_charAt_5068e_7 rfl rfl rfl ?_
  refine kx_sgetv 11 F (by omega) (tt lm_2365 rfl) dJ0_charAt_5068e_8 rfl ?_
  refine kx_iload_n 12 F 1 dJ0_charAt_5068e_11 rfl rfl rfl ?_
  refine kx_Si 15 F (As := [vU G i0, vI a1]) (st := []) sd_J0_495 (c_lcharAt_f G l M i0 a1 hI_M (by omega)) ⟨by decide, by decide⟩ rfl rfl (Nat.le_of_ble_eq_true rfl) dJ0_charAt_5068e_12 rfl ?_
  intro r_5 N_6 q_7
  obtain ⟨rfl, q_7c⟩ := q_7
  exact kx_nret F hQ (nar_char (by omega)) ⟨rfl, (by omega)⟩ dJ0_charAt_5068e_15
set_option maxHeartbeats 4000000 in
set_option maxRecDepth 100000 in
theorem c_coder_t (G : KG) (l : Launch) (M : Mem) (i0 : Nat) (hI_M : Inv true M) (hpre : i0 < 12) : KC true G l yJ0_coder_7d493 cJ0_coder_7d493 1 (some .byte) (0, 0) [vT G i0] M (fun A => kQi true G A (fun (r : Int) (N : Mem) => M = N ∧ (r = 0))) := by
  refine kx_met (lo := [some (vT G i0)]) (by decide) (Nat.le_of_ble_eq_true rfl) rfl ?_
  intro X F hQ
  refine kx_gets1 3 F (tt lm_843 rfl) dJ0_coder_7d493_0 rfl ?_
  refine kx_if_eq 6 F 13 dJ0_coder_7d493_3 (by decide) rfl (by decide) (fun h_1 => (by exfalso; omega)) (fun h_1 => ?_)
  refine kx_aload_n 7 F 0 dJ0_coder_7d493_6 rfl rfl rfl ?_
  refine kx_sgetc 10 F (by omega) (tt lm_2366 rfl) dJ0_coder_7d493_7 rfl ?_
  refine kx_goto 14 F dJ0_coder_7d493_10 (by decide) ?_
  exact kx_nret F hQ rfl ⟨rfl, (by omega)⟩ dJ0_coder_7d493_14
set_option maxHeartbeats 4000000 in
set_option maxRecDepth 100000 in
theorem c_isLatin1_t (G : KG) (l : Launch) (M : Mem) (i0 : Nat) (hI_M : Inv true M) (hpre : i0 < 12) : KC true G l yJ0_isLatin1_aae02 cJ0_isLatin1_aae02 1 (some .boolean) (0, 0) [vT G i0] M (fun A => kQi true G A (fun (r : Int) (N : Mem) => M = N ∧ (r = 1))) := by
  refine kx_met (lo := [some (vT G i0)]) (by decide) (Nat.le_of_ble_eq_true rfl) rfl ?_
  intro X F hQ
  refine kx_gets1 3 F (tt lm_843 rfl) dJ0_isLatin1_aae02_0 rfl ?_
  refine kx_if_eq 6 F 17 dJ0_isLatin1_aae02_3 (by decide) rfl (by decide) (fun h_1 => (by exfalso; omega)) (fun h_1 => ?_)
  refine kx_aload_n 7 F 0 dJ0_isLatin1_aae02_6 rfl rfl rfl ?_
  refine kx_sgetc 10 F (by omega) (tt lm_2366 rfl) dJ0_isLatin1_aae02_7 rfl ?_
  refine kx_if_ne 13 F 17 dJ0_isLatin1_aae02_10 (by decide) rfl (by decide) (fun h_2 => ?_) (fun h_2 => ?_)
  · refine kx_iconst 18 F dJ0_isLatin1_aae02_17 rfl ?_
    exact kx_zret F hQ (by omega) ⟨rfl, (by omega)⟩ dJ0_isLatin1_aae02_18
  · refine kx_iconst 14 F dJ0_isLatin1_aae02_13 rfl ?_
    refine kx_goto 18 F dJ0_isLatin1_aae02_14 (by decide) ?_
    exact kx_zret F hQ (by omega) ⟨rfl, (by omega)⟩ dJ0_isLatin1_aae02_18
set_option maxHeartbeats 4000000 in
set_option maxRecDepth 100000 in
theorem c_slength_t (G : KG) (l : Launch) (M : Mem) (i0 : Nat) (hI_M : Inv true M) (hpre : i0 < 12) : KC true G l yJ0_length_8abf5 cJ0_length_8abf5 1 (some .int) (1, 20) [vT G i0] M (fun A => kQi true G A (fun (r : Int) (N : Mem) => M = N ∧ (r = (slen i0)))) := by
  refine kx_met (lo := [some (vT G i0)]) (by decide) (Nat.le_of_ble_eq_true rfl) rfl ?_
  intro X F hQ
  refine kx_aload_n 1 F 0 dJ0_length_8abf5_0 rfl rfl rfl ?_
  refine kx_sgetv 4 F (by omega) (tt lm_2365 rfl) dJ0_length_8abf5_1 rfl ?_
  refine kx_salen 5 F (by omega) dJ0_length_8abf5_4 rfl ?_
  have h_1 := slen_rng i0
  refine kx_aload_n 6 F 0 dJ0_length_8abf5_5 rfl rfl rfl ?_
  refine kx_VSi 9 F (As := []) (st := [vI (slen i0)]) (by omega) vd_J0_335 (c_coder_t G l M i0 hI_M (by omega)) rfl ⟨by decide, by decide⟩ rfl rfl (Nat.le_of_ble_eq_true rfl) dJ0_length_8abf5_6 rfl ?_
  intro r_2 N_3 q_4
  obtain ⟨rfl, q_4c⟩ := q_4
  subst q_4c
  refine kx_ishr 10 F (v := (slen i0)) dJ0_length_8abf5_9 (zshr_0 (by omega)) rfl ?_
  exact kx_iret F hQ ⟨rfl, (by omega)⟩ dJ0_length_8abf5_10
set_option maxHeartbeats 4000000 in
set_option maxRecDepth 100000 in
theorem c_pcheck_t (G : KG) (l : Launch) (M : Mem) (a0 : Int) (a1 : Int) (x2 : Value) (hI_M : Inv true M) (hpre : -2147483648 ≤ a0 ∧ a0 ≤ 2147483647 ∧ -2147483648 ≤ a1 ∧ a1 ≤ 2147483647 ∧ 0 ≤ a0 ∧ a0 < a1) (hc_x2 : x2.category = 1) : KC true G l yJ3_checkIndex_8e157 cJ3_checkIndex_8e157 3 (some .int) (0, 0) [vI a0, vI a1, x2] M (fun A => kQi true G A (fun (r : Int) (N : Mem) => M = N ∧ (r = a0))) := by
  refine kx_met (lo := [some (vI a0), some (vI a1), some (x2)]) (by decide) (lg3 rfl rfl hc_x2) rfl ?_
  intro X F hQ
  refine kx_iload_n 1 F 0 dJ3_checkIndex_8e157_0 rfl rfl rfl ?_
  refine kx_if_lt 4 F 9 dJ3_checkIndex_8e157_1 (by decide) rfl (by omega) (fun h_1 => (by exfalso; omega)) (fun h_1 => ?_)
  refine kx_iload_n 5 F 0 dJ3_checkIndex_8e157_4 rfl rfl rfl ?_
  refine kx_iload_n 6 F 1 dJ3_checkIndex_8e157_5 rfl rfl rfl ?_
  refine kx_icmp_lt 9 F 16 dJ3_checkIndex_8e157_6 (by decide) rfl (by omega) (by omega) (fun h_2 => ?_) (fun h_2 => (by exfalso; omega))
  refine kx_iload_n 17 F 0 dJ3_checkIndex_8e157_16 rfl rfl rfl ?_
  exact kx_iret F hQ ⟨rfl, (by omega)⟩ dJ3_checkIndex_8e157_17
set_option maxHeartbeats 4000000 in
set_option maxRecDepth 100000 in
theorem c_scheck_t (G : KG) (l : Launch) (M : Mem) (a0 : Int) (a1 : Int) (hI_M : Inv true M) (hpre : -2147483648 ≤ a0 ∧ a0 ≤ 2147483647 ∧ -2147483648 ≤ a1 ∧ a1 ≤ 2147483647 ∧ 0 ≤ a0 ∧ a0 < a1) : KC true G l yJ0_checkIndex_df160 cJ0_checkIndex_df160 2 none (1, 22) [vI a0, vI a1] M (fun A => kQv true G A (fun (N : Mem) => M = N)) := by
  refine kx_met (lo := [some (vI a0), some (vI a1)]) (by decide) (Nat.le_of_ble_eq_true rfl) rfl ?_
  intro X F hQ
  refine kx_iload_n 1 F 0 dJ0_checkIndex_df160_0 rfl rfl rfl ?_
  refine kx_iload_n 2 F 1 dJ0_checkIndex_df160_1 rfl rfl rfl ?_
  refine kx_getsq 5 F (tt lm_859 rfl) dJ0_checkIndex_df160_2 rfl (fun v_1 hc_v_1 => ?_)
  refine kx_Si 8 F (As := [vI a0, vI a1, v_1]) (st := []) sd_J0_1059 (c_pcheck_t G l M a0 a1 v_1 hI_M (by omega) hc_v_1) ⟨by decide, by decide⟩ rfl rfl (Nat.le_of_ble_eq_true rfl) dJ0_checkIndex_df160_5 rfl ?_
  intro r_2 N_3 q_4
  obtain ⟨rfl, q_4c⟩ := q_4
  refine kx_topi (e' := a0) (by omega) ?_
  refine kx_pop 9 F dJ0_checkIndex_df160_8 rfl rfl ?_
  exact kx_vret F hQ rfl dJ0_checkIndex_df160_9
set_option maxHeartbeats 4000000 in
set_option maxRecDepth 100000 in
theorem c_lcharAt_t (G : KG) (l : Launch) (M : Mem) (i0 : Nat) (a1 : Int) (hI_M : Inv true M) (hpre : i0 < 12 ∧ -2147483648 ≤ a1 ∧ a1 ≤ 2147483647 ∧ 0 ≤ a1 ∧ a1 < (slen i0)) : KC true G l yJ1_charAt_3b067 cJ1_charAt_3b067 2 (some .char) (2, 43) [vU G i0, vI a1] M (fun A => kQi true G A (fun (r : Int) (N : Mem) => M = N ∧ (r = (zand (schar i0 a1) 255) ∧ r ≥ 0 ∧ r ≤ 255))) := by
  refine kx_met (lo := [some (vU G i0), some (vI a1)]) (by decide) (Nat.le_of_ble_eq_true rfl) rfl ?_
  intro X F hQ
  refine kx_iload_n 1 F 1 dJ1_charAt_3b067_0 rfl rfl rfl ?_
  refine kx_aload_n 2 F 0 dJ1_charAt_3b067_1 rfl rfl rfl ?_
  refine kx_salen 3 F (by omega) dJ1_charAt_3b067_2 rfl ?_
  have h_1 := slen_rng i0
  refine kx_Sv 6 F (As := [vI a1, vI (slen i0)]) (st := []) sd_J1_9 (c_scheck_t G l M a1 (slen i0) hI_M (by omega)) ⟨by decide, by decide⟩ rfl rfl (Nat.le_of_ble_eq_true rfl) dJ1_charAt_3b067_3 rfl ?_
  intro N_2 q_3
  subst q_3
  refine kx_aload_n 7 F 0 dJ1_charAt_3b067_6 rfl rfl rfl ?_
  refine kx_iload_n 8 F 1 dJ1_charAt_3b067_7 rfl rfl rfl ?_
  refine kx_sbald 9 F (by omega) (by omega) dJ1_charAt_3b067_8 rfl ?_
  have h_4 := schar_rng i0 (by omega) a1
  refine kx_sipush 12 F dJ1_charAt_3b067_9 (by decide) rfl ?_
  refine kx_iand 13 F (v := (zand (schar i0 a1) 255)) dJ1_charAt_3b067_12 rfl rfl ?_
  have h_5 := zand_r (a := (schar i0 a1)) (b := 255) (by omega)
  refine kx_i2c 14 F (by omega) dJ1_charAt_3b067_13 rfl ?_
  exact kx_nret F hQ (nar_char (by omega)) ⟨rfl, (by omega)⟩ dJ1_charAt_3b067_14
set_option maxHeartbeats 4000000 in
set_option maxRecDepth 100000 in
theorem c_charAt_t (G : KG) (l : Launch) (M : Mem) (i0 : Nat) (a1 : Int) (hI_M : Inv true M) (hpre : i0 < 12 ∧ -2147483648 ≤ a1 ∧ a1 ≤ 2147483647 ∧ 0 ≤ a1 ∧ a1 < (slen i0)) : KC true G l yJ0_charAt_5068e cJ0_charAt_5068e 2 (some .char) (3, 64) [vT G i0, vI a1] M (fun A => kQi true G A (fun (r : Int) (N : Mem) => M = N ∧ (r = (zand (schar i0 a1) 255) ∧ r ≥ 0 ∧ r ≤ 255))) := by
  refine kx_met (lo := [some (vT G i0), some (vI a1)]) (by decide) (Nat.le_of_ble_eq_true rfl) rfl ?_
  intro X F hQ
  refine kx_aload_n 1 F 0 dJ0_charAt_5068e_0 rfl rfl rfl ?_
  refine kx_VSi 4 F (As := []) (st := []) (by omega) vd_J0_492 (c_isLatin1_t G l M i0 hI_M (by omega)) rfl ⟨by decide, by decide⟩ rfl rfl (Nat.le_of_ble_eq_true rfl) dJ0_charAt_5068e_1 rfl ?_
  intro r_1 N_2 q_3
  obtain ⟨rfl, q_3c⟩ := q_3
  subst q_3c
  refine kx_if_eq 7 F 16 dJ0_charAt_5068e_4 (by decide) rfl (by decide) (fun h_4 => (by exfalso; omega)) (fun h_4 => ?_)
  refine kx_aload_n 8 F 0 dJ0_charAt_5068e_7 rfl rfl rfl ?_
  refine kx_sgetv 11 F (by omega) (tt lm_2365 rfl) dJ0_charAt_5068e_8 rfl ?_
  refine kx_iload_n 12 F 1 dJ0_charAt_5068e_11 rfl rfl rfl ?_
  refine kx_Si 15 F (As := [vU G i0, vI a1]) (st := []) sd_J0_495 (c_lcharAt_t G l M i0 a1 hI_M (by omega)) ⟨by decide, by decide⟩ rfl rfl (Nat.le_of_ble_eq_true rfl) dJ0_charAt_5068e_12 rfl ?_
  intro r_5 N_6 q_7
  obtain ⟨rfl, q_7c⟩ := q_7
  exact kx_nret F hQ (nar_char (by omega)) ⟨rfl, (by omega)⟩ dJ0_charAt_5068e_15
theorem dX1_append_0 : decode cX1_append 0 = .ok (.bipush 24, 2) := by decide +kernel
theorem dX1_append_2 : decode cX1_append 2 = .ok (.istore_n 2, 1) := by decide +kernel
theorem dX1_append_3 : decode cX1_append 3 = .ok (.iload_n 2, 1) := by decide +kernel
theorem dX1_append_4 : decode cX1_append 4 = .ok (.ifCond .lt 42, 3) := by decide +kernel
theorem dX1_append_7 : decode cX1_append 7 = .ok (.aload_n 0, 1) := by decide +kernel
theorem dX1_append_8 : decode cX1_append 8 = .ok (.getfield 36, 3) := by decide +kernel
theorem dX1_append_11 : decode cX1_append 11 = .ok (.sipush 900, 3) := by decide +kernel
theorem dX1_append_14 : decode cX1_append 14 = .ok (.if_icmp .ge 32, 3) := by decide +kernel
theorem dX1_append_17 : decode cX1_append 17 = .ok (.aload_n 0, 1) := by decide +kernel
theorem dX1_append_18 : decode cX1_append 18 = .ok (.getfield 25, 3) := by decide +kernel
theorem dX1_append_21 : decode cX1_append 21 = .ok (.aload_n 0, 1) := by decide +kernel
theorem dX1_append_22 : decode cX1_append 22 = .ok (.getfield 36, 3) := by decide +kernel
theorem dX1_append_25 : decode cX1_append 25 = .ok (.iload_n 1, 1) := by decide +kernel
theorem dX1_append_26 : decode cX1_append 26 = .ok (.iload_n 2, 1) := by decide +kernel
theorem dX1_append_27 : decode cX1_append 27 = .ok (.ishr, 1) := by decide +kernel
theorem dX1_append_28 : decode cX1_append 28 = .ok (.i2b, 1) := by decide +kernel
theorem dX1_append_29 : decode cX1_append 29 = .ok (.bastore, 1) := by decide +kernel
theorem dX1_append_30 : decode cX1_append 30 = .ok (.aload_n 0, 1) := by decide +kernel
theorem dX1_append_31 : decode cX1_append 31 = .ok (.dup, 1) := by decide +kernel
theorem dX1_append_32 : decode cX1_append 32 = .ok (.getfield 36, 3) := by decide +kernel
theorem dX1_append_35 : decode cX1_append 35 = .ok (.iconst 1, 1) := by decide +kernel
theorem dX1_append_36 : decode cX1_append 36 = .ok (.iadd, 1) := by decide +kernel
theorem dX1_append_37 : decode cX1_append 37 = .ok (.putfield 36, 3) := by decide +kernel
theorem dX1_append_40 : decode cX1_append 40 = .ok (.iinc 2 (-8), 3) := by decide +kernel
theorem dX1_append_43 : decode cX1_append 43 = .ok (.goto (-40), 3) := by decide +kernel
theorem dX1_append_46 : decode cX1_append 46 = .ok (.return_, 1) := by decide +kernel
abbrev f_c_X1_append : List (Nat × Int) := [(17, 1), (18, -1)]
set_option maxHeartbeats 4000000 in
set_option maxRecDepth 100000 in
theorem c_X1_append (G : KG) (l : Launch) (M : Mem) (c0 : Int) (a1 : Int) (hI_M : Inv false M) (hk_c0 : kd c0 = 17) (hpre : -2147483648 ≤ a1 ∧ a1 ≤ 2147483647) : KC false G l yX1_append cX1_append 3 none (0, 0) [vR G c0, vI a1] M (fun A => kQv false G A (fun (N : Mem) => Inv false N ∧ Fr f_c_X1_append M N)) := by
  refine kx_met (lo := [some (vR G c0), some (vI a1), none]) (by decide) (Nat.le_of_ble_eq_true rfl) rfl ?_
  intro X F hQ
  have hF_M : Fr f_c_X1_append M M := Fr.rf _ _
  refine kx_bipush 2 F dX1_append_0 (by decide) rfl ?_
  refine kx_istore_n 3 F 2 (lo' := [some (vR G c0), some (vI a1), some (vI 24)]) dX1_append_2 rfl (by decide) rfl rfl rfl ?_
  have L_69 : ∀ (n_70 : Nat) (x2_67 : Int) (N_68 : Mem), Inv false N_68 → Fr f_c_X1_append M N_68 → (-8) ≤ x2_67 ∧ x2_67 ≤ 24 → ((x2_67) - (-8)).toNat = n_70 → KJ false G X N_68 3 [some (vR G c0), some (vI a1), some (vI x2_67)] [] := by
    intro n_70
    refine Nat.strongRecOn n_70 ?_
    intro n_70 ih_71 x2_67 N_68 hI_N_68 hF_N_68 h_72 hm_73
    refine kx_iload_n 4 F 2 dX1_append_3 rfl rfl rfl ?_
    refine kx_if_lt 7 F 46 dX1_append_4 (by decide) rfl (by omega) (fun h_74 => ?_) (fun h_74 => ?_)
    · exact kx_vret F hQ ⟨hI_N_68, hF_N_68⟩ dX1_append_46
    · refine kx_aload_n 8 F 0 dX1_append_7 rfl rfl rfl ?_
      refine kx_geti 11 F fl_X1_36 hk_c0 rfl rfl (j := 1) rfl dX1_append_8 (v := (N_68 c0 1)) rfl rfl ?_
      have h_75 := Inv.g hI_N_68 hk_c0 rfl 1 (a := 0) (b := 900) rfl rfl
      refine kx_sipush 14 F dX1_append_11 (by decide) rfl ?_
      refine kx_icmp_ge 17 F 46 dX1_append_14 (by decide) rfl (by omega) (by decide) (fun h_76 => ?_) (fun h_76 => ?_)
      · exact kx_vret F hQ ⟨hI_N_68, hF_N_68⟩ dX1_append_46
      · refine kx_aload_n 18 F 0 dX1_append_17 rfl rfl rfl ?_
        refine kx_getr 21 F fl_X1_25 hk_c0 rfl rfl (j := 4) rfl dX1_append_18 (v := (M c0 4)) (by rw [Fr.e hF_N_68 hk_c0 _ rfl]) rfl ?_
        have hk_77 : kd (M c0 4) = 18 := Inv.r hI_M hk_c0 rfl 4 rfl rfl
        refine kx_aload_n 22 F 0 dX1_append_21 rfl rfl rfl ?_
        refine kx_geti 25 F fl_X1_36 hk_c0 rfl rfl (j := 1) rfl dX1_append_22 (v := (N_68 c0 1)) rfl rfl ?_
        refine kx_iload_n 26 F 1 dX1_append_25 rfl rfl rfl ?_
        refine kx_iload_n 27 F 2 dX1_append_26 rfl rfl rfl ?_
        refine kx_ishr 28 F (v := (zshr a1 x2_67)) dX1_append_27 rfl rfl ?_
        have h_78 := zshr_rng a1 x2_67
        refine kx_i2b 29 F dX1_append_28 rfl (fun w_79 h_80 _ => ?_)
        refine kx_bast 30 F (by omega) hk_77 rfl rfl (by omega) (by decide) dX1_append_29 rfl ?_
        intro N_81 hM_N_81
        have hI_N_81 : Inv false N_81 := Inv.u hI_N_68 hM_N_81 hk_77 (a := (-128)) (b := 127) rfl rfl rfl (by omega)
        have hF_N_81 : Fr f_c_X1_append M N_81 := Fr.u hF_N_68 hM_N_81 hk_77 rfl
        refine kx_aload_n 31 F 0 dX1_append_30 rfl rfl rfl ?_
        refine kx_dup 32 F dX1_append_31 rfl rfl ?_
        refine kx_geti 35 F fl_X1_36 hk_c0 rfl rfl (j := 1) rfl dX1_append_32 (v := (N_68 c0 1)) (by rw [hM_N_81, mu_k hk_c0 hk_77 rfl]) rfl ?_
        refine kx_iconst 36 F dX1_append_35 rfl ?_
        refine kx_iadd 37 F (v := (N_68 c0 1) + 1) dX1_append_36 rfl rfl ?_
        refine kx_puti 40 F fw_X1_36 rfl hk_c0 rfl rfl (j := 1) rfl dX1_append_37 rfl ?_
        intro N_82 hM_N_82
        have hI_N_82 : Inv false N_82 := Inv.u hI_N_81 hM_N_82 hk_c0 (a := 0) (b := 900) rfl rfl rfl (by omega)
        have hF_N_82 : Fr f_c_X1_append M N_82 := Fr.u hF_N_81 hM_N_82 hk_c0 rfl
        refine kx_iinc 43 F 2 (v := x2_67 - 8) (lo' := [some (vR G c0), some (vI a1), some (vI (x2_67 - 8))]) dX1_append_40 rfl (by omega) (by decide) rfl rfl rfl ?_
        refine kx_goto 3 F dX1_append_43 (by decide) ?_
        exact ih_71 _ (by omega) (x2_67 - 8) N_82 hI_N_82 hF_N_82 (by omega) rfl
  exact L_69 _ 24 M hI_M hF_M (by omega) rfl
theorem dX1_byteAt_0 : decode cX1_byteAt 0 = .ok (.iload_n 1, 1) := by decide +kernel
theorem dX1_byteAt_1 : decode cX1_byteAt 1 = .ok (.ifCond .lt 20, 3) := by decide +kernel
theorem dX1_byteAt_4 : decode cX1_byteAt 4 = .ok (.iload_n 1, 1) := by decide +kernel
theorem dX1_byteAt_5 : decode cX1_byteAt 5 = .ok (.aload_n 0, 1) := by decide +kernel
theorem dX1_byteAt_6 : decode cX1_byteAt 6 = .ok (.getfield 45, 3) := by decide +kernel
theorem dX1_byteAt_9 : decode cX1_byteAt 9 = .ok (.if_icmp .ge 12, 3) := by decide +kernel
theorem dX1_byteAt_12 : decode cX1_byteAt 12 = .ok (.aload_n 0, 1) := by decide +kernel
theorem dX1_byteAt_13 : decode cX1_byteAt 13 = .ok (.getfield 25, 3) := by decide +kernel
theorem dX1_byteAt_16 : decode cX1_byteAt 16 = .ok (.iload_n 1, 1) := by decide +kernel
theorem dX1_byteAt_17 : decode cX1_byteAt 17 = .ok (.baload, 1) := by decide +kernel
theorem dX1_byteAt_18 : decode cX1_byteAt 18 = .ok (.goto 4, 3) := by decide +kernel
theorem dX1_byteAt_21 : decode cX1_byteAt 21 = .ok (.iconst (-1), 1) := by decide +kernel
theorem dX1_byteAt_22 : decode cX1_byteAt 22 = .ok (.ireturn, 1) := by decide +kernel
set_option maxHeartbeats 4000000 in
set_option maxRecDepth 100000 in
theorem c_X1_byteAt (G : KG) (l : Launch) (M : Mem) (c0 : Int) (a1 : Int) (hI_M : Inv false M) (hk_c0 : kd c0 = 17) (hpre : -2147483648 ≤ a1 ∧ a1 ≤ 2147483647) : KC false G l yX1_byteAt cX1_byteAt 2 (some .int) (0, 0) [vR G c0, vI a1] M (fun A => kQi false G A (fun (r : Int) (N : Mem) => M = N ∧ (r ≥ -128 ∧ r ≤ 127))) := by
  refine kx_met (lo := [some (vR G c0), some (vI a1)]) (by decide) (Nat.le_of_ble_eq_true rfl) rfl ?_
  intro X F hQ
  refine kx_iload_n 1 F 1 dX1_byteAt_0 rfl rfl rfl ?_
  refine kx_if_lt 4 F 21 dX1_byteAt_1 (by decide) rfl (by omega) (fun h_1 => ?_) (fun h_1 => ?_)
  · refine kx_iconst 22 F dX1_byteAt_21 rfl ?_
    exact kx_iret F hQ ⟨rfl, (by omega)⟩ dX1_byteAt_22
  · refine kx_iload_n 5 F 1 dX1_byteAt_4 rfl rfl rfl ?_
    refine kx_aload_n 6 F 0 dX1_byteAt_5 rfl rfl rfl ?_
    refine kx_geti 9 F fl_X1_45 hk_c0 rfl rfl (j := 5) rfl dX1_byteAt_6 (v := (M c0 5)) rfl rfl ?_
    have h_2 := Inv.g hI_M hk_c0 rfl 5 (a := 0) (b := 900) rfl rfl
    refine kx_icmp_ge 12 F 21 dX1_byteAt_9 (by decide) rfl (by omega) (by omega) (fun h_3 => ?_) (fun h_3 => ?_)
    · refine kx_iconst 22 F dX1_byteAt_21 rfl ?_
      exact kx_iret F hQ ⟨rfl, (by omega)⟩ dX1_byteAt_22
    · refine kx_aload_n 13 F 0 dX1_byteAt_12 rfl rfl rfl ?_
      refine kx_getr 16 F fl_X1_25 hk_c0 rfl rfl (j := 4) rfl dX1_byteAt_13 (v := (M c0 4)) rfl rfl ?_
      have hk_4 : kd (M c0 4) = 18 := Inv.r hI_M hk_c0 rfl 4 rfl rfl
      refine kx_iload_n 17 F 1 dX1_byteAt_16 rfl rfl rfl ?_
      refine kx_bald 18 F hk_4 rfl rfl (by omega) (by decide) dX1_byteAt_17 (v := (M (M c0 4) a1)) rfl rfl ?_
      have h_5 := Inv.g hI_M hk_4 rfl a1 (a := (-128)) (b := 127) rfl rfl
      refine kx_goto 22 F dX1_byteAt_18 (by decide) ?_
      exact kx_iret F hQ ⟨rfl, (by omega)⟩ dX1_byteAt_22
theorem dX1_kindAt_0 : decode cX1_kindAt 0 = .ok (.iload_n 1, 1) := by decide +kernel
theorem dX1_kindAt_1 : decode cX1_kindAt 1 = .ok (.aload_n 0, 1) := by decide +kernel
theorem dX1_kindAt_2 : decode cX1_kindAt 2 = .ok (.getfield 45, 3) := by decide +kernel
theorem dX1_kindAt_5 : decode cX1_kindAt 5 = .ok (.if_icmp .lt 5, 3) := by decide +kernel
theorem dX1_kindAt_8 : decode cX1_kindAt 8 = .ok (.iconst 0, 1) := by decide +kernel
theorem dX1_kindAt_9 : decode cX1_kindAt 9 = .ok (.ireturn, 1) := by decide +kernel
theorem dX1_kindAt_10 : decode cX1_kindAt 10 = .ok (.aload_n 0, 1) := by decide +kernel
theorem dX1_kindAt_11 : decode cX1_kindAt 11 = .ok (.getfield 25, 3) := by decide +kernel
theorem dX1_kindAt_14 : decode cX1_kindAt 14 = .ok (.iload_n 1, 1) := by decide +kernel
theorem dX1_kindAt_15 : decode cX1_kindAt 15 = .ok (.baload, 1) := by decide +kernel
theorem dX1_kindAt_16 : decode cX1_kindAt 16 = .ok (.istore_n 2, 1) := by decide +kernel
theorem dX1_kindAt_17 : decode cX1_kindAt 17 = .ok (.iload_n 2, 1) := by decide +kernel
theorem dX1_kindAt_18 : decode cX1_kindAt 18 = .ok (.bipush 97, 2) := by decide +kernel
theorem dX1_kindAt_20 : decode cX1_kindAt 20 = .ok (.if_icmp .lt 11, 3) := by decide +kernel
theorem dX1_kindAt_23 : decode cX1_kindAt 23 = .ok (.iload_n 2, 1) := by decide +kernel
theorem dX1_kindAt_24 : decode cX1_kindAt 24 = .ok (.bipush 122, 2) := by decide +kernel
theorem dX1_kindAt_26 : decode cX1_kindAt 26 = .ok (.if_icmp .gt 5, 3) := by decide +kernel
theorem dX1_kindAt_29 : decode cX1_kindAt 29 = .ok (.iconst 1, 1) := by decide +kernel
theorem dX1_kindAt_30 : decode cX1_kindAt 30 = .ok (.ireturn, 1) := by decide +kernel
theorem dX1_kindAt_31 : decode cX1_kindAt 31 = .ok (.iload_n 2, 1) := by decide +kernel
theorem dX1_kindAt_32 : decode cX1_kindAt 32 = .ok (.bipush 48, 2) := by decide +kernel
theorem dX1_kindAt_34 : decode cX1_kindAt 34 = .ok (.if_icmp .lt 11, 3) := by decide +kernel
theorem dX1_kindAt_37 : decode cX1_kindAt 37 = .ok (.iload_n 2, 1) := by decide +kernel
theorem dX1_kindAt_38 : decode cX1_kindAt 38 = .ok (.bipush 57, 2) := by decide +kernel
theorem dX1_kindAt_40 : decode cX1_kindAt 40 = .ok (.if_icmp .gt 5, 3) := by decide +kernel
theorem dX1_kindAt_43 : decode cX1_kindAt 43 = .ok (.iconst 2, 1) := by decide +kernel
theorem dX1_kindAt_44 : decode cX1_kindAt 44 = .ok (.ireturn, 1) := by decide +kernel
theorem dX1_kindAt_45 : decode cX1_kindAt 45 = .ok (.iload_n 2, 1) := by decide +kernel
theorem dX1_kindAt_46 : decode cX1_kindAt 46 = .ok (.bipush 59, 2) := by decide +kernel
theorem dX1_kindAt_48 : decode cX1_kindAt 48 = .ok (.if_icmp .ne 5, 3) := by decide +kernel
theorem dX1_kindAt_51 : decode cX1_kindAt 51 = .ok (.iconst 3, 1) := by decide +kernel
theorem dX1_kindAt_52 : decode cX1_kindAt 52 = .ok (.ireturn, 1) := by decide +kernel
theorem dX1_kindAt_53 : decode cX1_kindAt 53 = .ok (.iload_n 2, 1) := by decide +kernel
theorem dX1_kindAt_54 : decode cX1_kindAt 54 = .ok (.bipush 10, 2) := by decide +kernel
theorem dX1_kindAt_56 : decode cX1_kindAt 56 = .ok (.if_icmp .eq 9, 3) := by decide +kernel
theorem dX1_kindAt_59 : decode cX1_kindAt 59 = .ok (.iload_n 2, 1) := by decide +kernel
theorem dX1_kindAt_60 : decode cX1_kindAt 60 = .ok (.bipush 32, 2) := by decide +kernel
theorem dX1_kindAt_62 : decode cX1_kindAt 62 = .ok (.if_icmp .ne 7, 3) := by decide +kernel
theorem dX1_kindAt_65 : decode cX1_kindAt 65 = .ok (.iconst 5, 1) := by decide +kernel
theorem dX1_kindAt_66 : decode cX1_kindAt 66 = .ok (.goto 4, 3) := by decide +kernel
theorem dX1_kindAt_69 : decode cX1_kindAt 69 = .ok (.iconst 4, 1) := by decide +kernel
theorem dX1_kindAt_70 : decode cX1_kindAt 70 = .ok (.ireturn, 1) := by decide +kernel
set_option maxHeartbeats 4000000 in
set_option maxRecDepth 100000 in
theorem c_X1_kindAt (G : KG) (l : Launch) (M : Mem) (c0 : Int) (a1 : Int) (hI_M : Inv false M) (hk_c0 : kd c0 = 17) (hpre : -2147483648 ≤ a1 ∧ a1 ≤ 2147483647 ∧ 0 ≤ a1) : KC false G l yX1_kindAt cX1_kindAt 3 (some .int) (0, 0) [vR G c0, vI a1] M (fun A => kQi false G A (fun (r : Int) (N : Mem) => M = N ∧ ((r = 0) ∨ (r ≥ 1 ∧ r ≤ 5 ∧ a1 < (M c0 5))))) := by
  refine kx_met (lo := [some (vR G c0), some (vI a1), none]) (by decide) (Nat.le_of_ble_eq_true rfl) rfl ?_
  intro X F hQ
  refine kx_iload_n 1 F 1 dX1_kindAt_0 rfl rfl rfl ?_
  refine kx_aload_n 2 F 0 dX1_kindAt_1 rfl rfl rfl ?_
  refine kx_geti 5 F fl_X1_45 hk_c0 rfl rfl (j := 5) rfl dX1_kindAt_2 (v := (M c0 5)) rfl rfl ?_
  have h_1 := Inv.g hI_M hk_c0 rfl 5 (a := 0) (b := 900) rfl rfl
  refine kx_icmp_lt 8 F 10 dX1_kindAt_5 (by decide) rfl (by omega) (by omega) (fun h_2 => ?_) (fun h_2 => ?_)
  · refine kx_aload_n 11 F 0 dX1_kindAt_10 rfl rfl rfl ?_
    refine kx_getr 14 F fl_X1_25 hk_c0 rfl rfl (j := 4) rfl dX1_kindAt_11 (v := (M c0 4)) rfl rfl ?_
    have hk_3 : kd (M c0 4) = 18 := Inv.r hI_M hk_c0 rfl 4 rfl rfl
    refine kx_iload_n 15 F 1 dX1_kindAt_14 rfl rfl rfl ?_
    refine kx_bald 16 F hk_3 rfl rfl (by omega) (by decide) dX1_kindAt_15 (v := (M (M c0 4) a1)) rfl rfl ?_
    have h_4 := Inv.g hI_M hk_3 rfl a1 (a := (-128)) (b := 127) rfl rfl
    refine kx_istore_n 17 F 2 (lo' := [some (vR G c0), some (vI a1), some (vI (M (M c0 4) a1))]) dX1_kindAt_16 rfl (by decide) rfl rfl rfl ?_
    refine kx_iload_n 18 F 2 dX1_kindAt_17 rfl rfl rfl ?_
    refine kx_bipush 20 F dX1_kindAt_18 (by decide) rfl ?_
    have J_7 : KJ false G X M 31 [none, none, some (vI (M (M c0 4) a1))] [] := by
      refine kx_iload_n 32 F 2 dX1_kindAt_31 rfl rfl rfl ?_
      refine kx_bipush 34 F dX1_kindAt_32 (by decide) rfl ?_
      have J_11 : KJ false G X M 45 [none, none, some (vI (M (M c0 4) a1))] [] := by
        refine kx_iload_n 46 F 2 dX1_kindAt_45 rfl rfl rfl ?_
        refine kx_bipush 48 F dX1_kindAt_46 (by decide) rfl ?_
        refine kx_icmp_ne 51 F 53 dX1_kindAt_48 (by decide) rfl (by omega) (by decide) (fun h_13 => ?_) (fun h_13 => ?_)
        · refine kx_iload_n 54 F 2 dX1_kindAt_53 rfl rfl rfl ?_
          refine kx_bipush 56 F dX1_kindAt_54 (by decide) rfl ?_
          refine kx_icmp_eq 59 F 65 dX1_kindAt_56 (by decide) rfl (by omega) (by decide) (fun h_14 => ?_) (fun h_14 => ?_)
          · refine kx_iconst 66 F dX1_kindAt_65 rfl ?_
            refine kx_goto 70 F dX1_kindAt_66 (by decide) ?_
            exact kx_iret F hQ ⟨rfl, (by omega)⟩ dX1_kindAt_70
          · refine kx_iload_n 60 F 2 dX1_kindAt_59 rfl rfl rfl ?_
            refine kx_bipush 62 F dX1_kindAt_60 (by decide) rfl ?_
            refine kx_icmp_ne 65 F 69 dX1_kindAt_62 (by decide) rfl (by omega) (by decide) (fun h_15 => ?_) (fun h_15 => ?_)
            · refine kx_iconst 70 F dX1_kindAt_69 rfl ?_
              exact kx_iret F hQ ⟨rfl, (by omega)⟩ dX1_kindAt_70
            · refine kx_iconst 66 F dX1_kindAt_65 rfl ?_
              refine kx_goto 70 F dX1_kindAt_66 (by decide) ?_
              exact kx_iret F hQ ⟨rfl, (by omega)⟩ dX1_kindAt_70
        · refine kx_iconst 52 F dX1_kindAt_51 rfl ?_
          exact kx_iret F hQ ⟨rfl, (by omega)⟩ dX1_kindAt_52
      refine kx_icmp_lt 37 F 45 dX1_kindAt_34 (by decide) rfl (by omega) (by decide) (fun h_16 => ?_) (fun h_16 => ?_)
      · exact J_11
      · refine kx_iload_n 38 F 2 dX1_kindAt_37 rfl rfl rfl ?_
        refine kx_bipush 40 F dX1_kindAt_38 (by decide) rfl ?_
        refine kx_icmp_gt 43 F 45 dX1_kindAt_40 (by decide) rfl (by omega) (by decide) (fun h_17 => ?_) (fun h_17 => ?_)
        · exact J_11
        · refine kx_iconst 44 F dX1_kindAt_43 rfl ?_
          exact kx_iret F hQ ⟨rfl, (by omega)⟩ dX1_kindAt_44
    refine kx_icmp_lt 23 F 31 dX1_kindAt_20 (by decide) rfl (by omega) (by decide) (fun h_18 => ?_) (fun h_18 => ?_)
    · refine kx_drop 0 (lo' := [none, some (vI a1), some (vI (M (M c0 4) a1))]) rfl ?_
      refine kx_drop 1 (lo' := [none, none, some (vI (M (M c0 4) a1))]) rfl ?_
      exact J_7 
    · refine kx_iload_n 24 F 2 dX1_kindAt_23 rfl rfl rfl ?_
      refine kx_bipush 26 F dX1_kindAt_24 (by decide) rfl ?_
      refine kx_icmp_gt 29 F 31 dX1_kindAt_26 (by decide) rfl (by omega) (by decide) (fun h_19 => ?_) (fun h_19 => ?_)
      · refine kx_drop 0 (lo' := [none, some (vI a1), some (vI (M (M c0 4) a1))]) rfl ?_
        refine kx_drop 1 (lo' := [none, none, some (vI (M (M c0 4) a1))]) rfl ?_
        exact J_7 
      · refine kx_iconst 30 F dX1_kindAt_29 rfl ?_
        exact kx_iret F hQ ⟨rfl, (by omega)⟩ dX1_kindAt_30
  · refine kx_iconst 9 F dX1_kindAt_8 rfl ?_
    exact kx_iret F hQ ⟨rfl, (by omega)⟩ dX1_kindAt_9
theorem dX1_fail_0 : decode cX1_fail 0 = .ok (.aload_n 0, 1) := by decide +kernel
theorem dX1_fail_1 : decode cX1_fail 1 = .ok (.iload_n 1, 1) := by decide +kernel
theorem dX1_fail_2 : decode cX1_fail 2 = .ok (.putfield 18, 3) := by decide +kernel
theorem dX1_fail_5 : decode cX1_fail 5 = .ok (.aload_n 0, 1) := by decide +kernel
theorem dX1_fail_6 : decode cX1_fail 6 = .ok (.aload_n 0, 1) := by decide +kernel
theorem dX1_fail_7 : decode cX1_fail 7 = .ok (.getfield 51, 3) := by decide +kernel
theorem dX1_fail_10 : decode cX1_fail 10 = .ok (.putfield 22, 3) := by decide +kernel
theorem dX1_fail_13 : decode cX1_fail 13 = .ok (.iconst 0, 1) := by decide +kernel
theorem dX1_fail_14 : decode cX1_fail 14 = .ok (.ireturn, 1) := by decide +kernel
abbrev f_c_X1_fail : List (Nat × Int) := [(17, 2), (17, 3)]
set_option maxHeartbeats 4000000 in
set_option maxRecDepth 100000 in
theorem c_X1_fail (G : KG) (l : Launch) (M : Mem) (c0 : Int) (a1 : Int) (hI_M : Inv false M) (hk_c0 : kd c0 = 17) (hpre : -2147483648 ≤ a1 ∧ a1 ≤ 2147483647) : KC false G l yX1_fail cX1_fail 2 (some .boolean) (0, 0) [vR G c0, vI a1] M (fun A => kQi false G A (fun (r : Int) (N : Mem) => Inv false N ∧ Fr f_c_X1_fail M N ∧ (r = 0))) := by
  refine kx_met (lo := [some (vR G c0), some (vI a1)]) (by decide) (Nat.le_of_ble_eq_true rfl) rfl ?_
  intro X F hQ
  have hF_M : Fr f_c_X1_fail M M := Fr.rf _ _
  refine kx_aload_n 1 F 0 dX1_fail_0 rfl rfl rfl ?_
  refine kx_iload_n 2 F 1 dX1_fail_1 rfl rfl rfl ?_
  refine kx_puti 5 F fw_X1_18 rfl hk_c0 rfl rfl (j := 2) rfl dX1_fail_2 rfl ?_
  intro N_1 hM_N_1
  have hI_N_1 : Inv false N_1 := Inv.u hI_M hM_N_1 hk_c0 (a := (-2147483648)) (b := 2147483647) rfl rfl rfl (by omega)
  have hF_N_1 : Fr f_c_X1_fail M N_1 := Fr.u hF_M hM_N_1 hk_c0 rfl
  refine kx_aload_n 6 F 0 dX1_fail_5 rfl rfl rfl ?_
  refine kx_aload_n 7 F 0 dX1_fail_6 rfl rfl rfl ?_
  refine kx_geti 10 F fl_X1_51 hk_c0 rfl rfl (j := 7) rfl dX1_fail_7 (v := (M c0 7)) (by rw [hM_N_1, mu_i (by omega)]) rfl ?_
  have h_2 := Inv.g hI_M hk_c0 rfl 7 (a := 0) (b := 900) rfl rfl
  refine kx_puti 13 F fw_X1_22 rfl hk_c0 rfl rfl (j := 3) rfl dX1_fail_10 rfl ?_
  intro N_3 hM_N_3
  have hI_N_3 : Inv false N_3 := Inv.u hI_N_1 hM_N_3 hk_c0 (a := (-2147483648)) (b := 2147483647) rfl rfl rfl (by omega)
  have hF_N_3 : Fr f_c_X1_fail M N_3 := Fr.u hF_N_1 hM_N_3 hk_c0 rfl
  refine kx_iconst 14 F dX1_fail_13 rfl ?_
  exact kx_zret F hQ (by omega) ⟨hI_N_3, hF_N_3, (by omega)⟩ dX1_fail_14
theorem dX1_reckonValue_0 : decode cX1_reckonValue 0 = .ok (.aload_n 0, 1) := by decide +kernel
theorem dX1_reckonValue_1 : decode cX1_reckonValue 1 = .ok (.iconst 0, 1) := by decide +kernel
theorem dX1_reckonValue_2 : decode cX1_reckonValue 2 = .ok (.putfield 127, 3) := by decide +kernel
theorem dX1_reckonValue_5 : decode cX1_reckonValue 5 = .ok (.iconst 0, 1) := by decide +kernel
theorem dX1_reckonValue_6 : decode cX1_reckonValue 6 = .ok (.istore_n 1, 1) := by decide +kernel
theorem dX1_reckonValue_7 : decode cX1_reckonValue 7 = .ok (.iload_n 1, 1) := by decide +kernel
theorem dX1_reckonValue_8 : decode cX1_reckonValue 8 = .ok (.aload_n 0, 1) := by decide +kernel
theorem dX1_reckonValue_9 : decode cX1_reckonValue 9 = .ok (.getfield 54, 3) := by decide +kernel
theorem dX1_reckonValue_12 : decode cX1_reckonValue 12 = .ok (.if_icmp .ge 34, 3) := by decide +kernel
theorem dX1_reckonValue_15 : decode cX1_reckonValue 15 = .ok (.aload_n 0, 1) := by decide +kernel
theorem dX1_reckonValue_16 : decode cX1_reckonValue 16 = .ok (.aload_n 0, 1) := by decide +kernel
theorem dX1_reckonValue_17 : decode cX1_reckonValue 17 = .ok (.getfield 127, 3) := by decide +kernel
theorem dX1_reckonValue_20 : decode cX1_reckonValue 20 = .ok (.bipush 10, 2) := by decide +kernel
theorem dX1_reckonValue_22 : decode cX1_reckonValue 22 = .ok (.imul, 1) := by decide +kernel
theorem dX1_reckonValue_23 : decode cX1_reckonValue 23 = .ok (.aload_n 0, 1) := by decide +kernel
theorem dX1_reckonValue_24 : decode cX1_reckonValue 24 = .ok (.aload_n 0, 1) := by decide +kernel
theorem dX1_reckonValue_25 : decode cX1_reckonValue 25 = .ok (.getfield 51, 3) := by decide +kernel
theorem dX1_reckonValue_28 : decode cX1_reckonValue 28 = .ok (.iload_n 1, 1) := by decide +kernel
theorem dX1_reckonValue_29 : decode cX1_reckonValue 29 = .ok (.iadd, 1) := by decide +kernel
theorem dX1_reckonValue_30 : decode cX1_reckonValue 30 = .ok (.invokevirtual 196, 3) := by decide +kernel
theorem dX1_reckonValue_33 : decode cX1_reckonValue 33 = .ok (.iadd, 1) := by decide +kernel
theorem dX1_reckonValue_34 : decode cX1_reckonValue 34 = .ok (.bipush 48, 2) := by decide +kernel
theorem dX1_reckonValue_36 : decode cX1_reckonValue 36 = .ok (.isub, 1) := by decide +kernel
theorem dX1_reckonValue_37 : decode cX1_reckonValue 37 = .ok (.putfield 127, 3) := by decide +kernel
theorem dX1_reckonValue_40 : decode cX1_reckonValue 40 = .ok (.iinc 1 1, 3) := by decide +kernel
theorem dX1_reckonValue_43 : decode cX1_reckonValue 43 = .ok (.goto (-36), 3) := by decide +kernel
theorem dX1_reckonValue_46 : decode cX1_reckonValue 46 = .ok (.return_, 1) := by decide +kernel
abbrev f_c_X1_reckonValue : List (Nat × Int) := [(17, 9)]
set_option maxHeartbeats 4000000 in
set_option maxRecDepth 100000 in
theorem c_X1_reckonValue (G : KG) (l : Launch) (M : Mem) (c0 : Int) (hI_M : Inv false M) (hk_c0 : kd c0 = 17) : KC false G l yX1_reckonValue cX1_reckonValue 2 none (1, 21) [vR G c0] M (fun A => kQv false G A (fun (N : Mem) => Inv false N ∧ Fr f_c_X1_reckonValue M N)) := by
  refine kx_met (lo := [some (vR G c0), none]) (by decide) (Nat.le_of_ble_eq_true rfl) rfl ?_
  intro X F hQ
  have hF_M : Fr f_c_X1_reckonValue M M := Fr.rf _ _
  refine kx_aload_n 1 F 0 dX1_reckonValue_0 rfl rfl rfl ?_
  refine kx_iconst 2 F dX1_reckonValue_1 rfl ?_
  refine kx_puti 5 F fw_X1_127 rfl hk_c0 rfl rfl (j := 9) rfl dX1_reckonValue_2 rfl ?_
  intro N_1 hM_N_1
  have hI_N_1 : Inv false N_1 := Inv.u hI_M hM_N_1 hk_c0 (a := (-2147483648)) (b := 2147483647) rfl rfl rfl (by omega)
  have hF_N_1 : Fr f_c_X1_reckonValue M N_1 := Fr.u hF_M hM_N_1 hk_c0 rfl
  refine kx_iconst 6 F dX1_reckonValue_5 rfl ?_
  refine kx_istore_n 7 F 1 (lo' := [some (vR G c0), some (vI 0)]) dX1_reckonValue_6 rfl (by decide) rfl rfl rfl ?_
  have L_116 : ∀ (n_117 : Nat) (x1_114 : Int) (N_115 : Mem), Inv false N_115 → Fr f_c_X1_reckonValue M N_115 → 0 ≤ x1_114 ∧ x1_114 ≤ 900 → (900 - (x1_114)).toNat = n_117 → KJ false G X N_115 7 [some (vR G c0), some (vI x1_114)] [] := by
    intro n_117
    refine Nat.strongRecOn n_117 ?_
    intro n_117 ih_118 x1_114 N_115 hI_N_115 hF_N_115 h_119 hm_120
    refine kx_iload_n 8 F 1 dX1_reckonValue_7 rfl rfl rfl ?_
    refine kx_aload_n 9 F 0 dX1_reckonValue_8 rfl rfl rfl ?_
    refine kx_geti 12 F fl_X1_54 hk_c0 rfl rfl (j := 8) rfl dX1_reckonValue_9 (v := (M c0 8)) (by rw [Fr.e hF_N_115 hk_c0 _ rfl]) rfl ?_
    have h_121 := Inv.g hI_M hk_c0 rfl 8 (a := 0) (b := 900) rfl rfl
    refine kx_icmp_ge 15 F 46 dX1_reckonValue_12 (by decide) rfl (by omega) (by omega) (fun h_122 => ?_) (fun h_122 => ?_)
    · exact kx_vret F hQ ⟨hI_N_115, hF_N_115⟩ dX1_reckonValue_46
    · refine kx_aload_n 16 F 0 dX1_reckonValue_15 rfl rfl rfl ?_
      refine kx_aload_n 17 F 0 dX1_reckonValue_16 rfl rfl rfl ?_
      refine kx_geti 20 F fl_X1_127 hk_c0 rfl rfl (j := 9) rfl dX1_reckonValue_17 (v := (N_115 c0 9)) rfl rfl ?_
      have h_123 := Inv.g hI_N_115 hk_c0 rfl 9 (a := (-2147483648)) (b := 2147483647) rfl rfl
      refine kx_bipush 22 F dX1_reckonValue_20 (by decide) rfl ?_
      refine kx_imul 23 F (v := 10 * (N_115 c0 9)) dX1_reckonValue_22 (by omega) rfl ?_
      refine kx_wrapi (fun w_124 h_125 _ => ?_)
      refine kx_aload_n 24 F 0 dX1_reckonValue_23 rfl rfl rfl ?_
      refine kx_aload_n 25 F 0 dX1_reckonValue_24 rfl rfl rfl ?_
      refine kx_geti 28 F fl_X1_51 hk_c0 rfl rfl (j := 7) rfl dX1_reckonValue_25 (v := (M c0 7)) (by rw [Fr.e hF_N_115 hk_c0 _ rfl]) rfl ?_
      have h_126 := Inv.g hI_M hk_c0 rfl 7 (a := 0) (b := 900) rfl rfl
      refine kx_iload_n 29 F 1 dX1_reckonValue_28 rfl rfl rfl ?_
      refine kx_iadd 30 F (v := (M c0 7) + x1_114) dX1_reckonValue_29 rfl rfl ?_
      refine kx_Vi 33 (ci := 0) F (As := [vI ((M c0 7) + x1_114)]) (st := [vI w_124, vR G c0]) vd_X1_196 (c_X1_byteAt G l N_115 c0 ((M c0 7) + x1_114) hI_N_115 hk_c0 (by omega)) hk_c0 rfl rfl rfl ⟨by decide, by decide⟩ rfl rfl (Nat.le_of_ble_eq_true rfl) dX1_reckonValue_30 rfl ?_
      intro r_127 N_128 q_129
      obtain ⟨rfl, q_129c⟩ := q_129
      refine kx_iadd 34 F (v := w_124 + r_127) dX1_reckonValue_33 rfl rfl ?_
      refine kx_wrapi (fun w_130 h_131 _ => ?_)
      refine kx_bipush 36 F dX1_reckonValue_34 (by decide) rfl ?_
      refine kx_isub 37 F (v := w_130 - 48) dX1_reckonValue_36 rfl rfl ?_
      refine kx_wrapi (fun w_132 h_133 _ => ?_)
      refine kx_puti 40 F fw_X1_127 rfl hk_c0 rfl rfl (j := 9) rfl dX1_reckonValue_37 rfl ?_
      intro N_134 hM_N_134
      have hI_N_134 : Inv false N_134 := Inv.u hI_N_115 hM_N_134 hk_c0 (a := (-2147483648)) (b := 2147483647) rfl rfl rfl (by omega)
      have hF_N_134 : Fr f_c_X1_reckonValue M N_134 := Fr.u hF_N_115 hM_N_134 hk_c0 rfl
      refine kx_iinc 43 F 1 (v := x1_114 + 1) (lo' := [some (vR G c0), some (vI (x1_114 + 1))]) dX1_reckonValue_40 rfl (by omega) (by decide) rfl rfl rfl ?_
      refine kx_goto 7 F dX1_reckonValue_43 (by decide) ?_
      exact ih_118 _ (by omega) (x1_114 + 1) N_134 hI_N_134 hF_N_134 (by omega) rfl
  exact L_116 _ 0 N_1 hI_N_1 hF_N_1 (by omega) rfl
theorem dX1_advance_0 : decode cX1_advance 0 = .ok (.aload_n 0, 1) := by decide +kernel
theorem dX1_advance_1 : decode cX1_advance 1 = .ok (.dup, 1) := by decide +kernel
theorem dX1_advance_2 : decode cX1_advance 2 = .ok (.getfield 51, 3) := by decide +kernel
theorem dX1_advance_5 : decode cX1_advance 5 = .ok (.aload_n 0, 1) := by decide +kernel
theorem dX1_advance_6 : decode cX1_advance 6 = .ok (.getfield 54, 3) := by decide +kernel
theorem dX1_advance_9 : decode cX1_advance 9 = .ok (.iadd, 1) := by decide +kernel
theorem dX1_advance_10 : decode cX1_advance 10 = .ok (.putfield 51, 3) := by decide +kernel
theorem dX1_advance_13 : decode cX1_advance 13 = .ok (.iconst 0, 1) := by decide +kernel
theorem dX1_advance_14 : decode cX1_advance 14 = .ok (.istore_n 1, 1) := by decide +kernel
theorem dX1_advance_15 : decode cX1_advance 15 = .ok (.iload_n 1, 1) := by decide +kernel
theorem dX1_advance_16 : decode cX1_advance 16 = .ok (.aload_n 0, 1) := by decide +kernel
theorem dX1_advance_17 : decode cX1_advance 17 = .ok (.getfield 45, 3) := by decide +kernel
theorem dX1_advance_20 : decode cX1_advance 20 = .ok (.if_icmp .ge 31, 3) := by decide +kernel
theorem dX1_advance_23 : decode cX1_advance 23 = .ok (.aload_n 0, 1) := by decide +kernel
theorem dX1_advance_24 : decode cX1_advance 24 = .ok (.aload_n 0, 1) := by decide +kernel
theorem dX1_advance_25 : decode cX1_advance 25 = .ok (.getfield 51, 3) := by decide +kernel
theorem dX1_advance_28 : decode cX1_advance 28 = .ok (.invokevirtual 209, 3) := by decide +kernel
theorem dX1_advance_31 : decode cX1_advance 31 = .ok (.iconst 5, 1) := by decide +kernel
theorem dX1_advance_32 : decode cX1_advance 32 = .ok (.if_icmp .ne 19, 3) := by decide +kernel
theorem dX1_advance_35 : decode cX1_advance 35 = .ok (.aload_n 0, 1) := by decide +kernel
theorem dX1_advance_36 : decode cX1_advance 36 = .ok (.dup, 1) := by decide +kernel
theorem dX1_advance_37 : decode cX1_advance 37 = .ok (.getfield 51, 3) := by decide +kernel
theorem dX1_advance_40 : decode cX1_advance 40 = .ok (.iconst 1, 1) := by decide +kernel
theorem dX1_advance_41 : decode cX1_advance 41 = .ok (.iadd, 1) := by decide +kernel
theorem dX1_advance_42 : decode cX1_advance 42 = .ok (.putfield 51, 3) := by decide +kernel
theorem dX1_advance_45 : decode cX1_advance 45 = .ok (.iinc 1 1, 3) := by decide +kernel
theorem dX1_advance_48 : decode cX1_advance 48 = .ok (.goto (-33), 3) := by decide +kernel
theorem dX1_advance_51 : decode cX1_advance 51 = .ok (.aload_n 0, 1) := by decide +kernel
theorem dX1_advance_52 : decode cX1_advance 52 = .ok (.aload_n 0, 1) := by decide +kernel
theorem dX1_advance_53 : decode cX1_advance 53 = .ok (.aload_n 0, 1) := by decide +kernel
theorem dX1_advance_54 : decode cX1_advance 54 = .ok (.getfield 51, 3) := by decide +kernel
theorem dX1_advance_57 : decode cX1_advance 57 = .ok (.invokevirtual 209, 3) := by decide +kernel
theorem dX1_advance_60 : decode cX1_advance 60 = .ok (.putfield 61, 3) := by decide +kernel
theorem dX1_advance_63 : decode cX1_advance 63 = .ok (.aload_n 0, 1) := by decide +kernel
theorem dX1_advance_64 : decode cX1_advance 64 = .ok (.aload_n 0, 1) := by decide +kernel
theorem dX1_advance_65 : decode cX1_advance 65 = .ok (.getfield 61, 3) := by decide +kernel
theorem dX1_advance_68 : decode cX1_advance 68 = .ok (.ifCond .ne 7, 3) := by decide +kernel
theorem dX1_advance_71 : decode cX1_advance 71 = .ok (.iconst 0, 1) := by decide +kernel
theorem dX1_advance_72 : decode cX1_advance 72 = .ok (.goto 4, 3) := by decide +kernel
theorem dX1_advance_75 : decode cX1_advance 75 = .ok (.iconst 1, 1) := by decide +kernel
theorem dX1_advance_76 : decode cX1_advance 76 = .ok (.putfield 54, 3) := by decide +kernel
theorem dX1_advance_79 : decode cX1_advance 79 = .ok (.aload_n 0, 1) := by decide +kernel
theorem dX1_advance_80 : decode cX1_advance 80 = .ok (.getfield 61, 3) := by decide +kernel
theorem dX1_advance_83 : decode cX1_advance 83 = .ok (.iconst 1, 1) := by decide +kernel
theorem dX1_advance_84 : decode cX1_advance 84 = .ok (.if_icmp .eq 11, 3) := by decide +kernel
theorem dX1_advance_87 : decode cX1_advance 87 = .ok (.aload_n 0, 1) := by decide +kernel
theorem dX1_advance_88 : decode cX1_advance 88 = .ok (.getfield 61, 3) := by decide +kernel
theorem dX1_advance_91 : decode cX1_advance 91 = .ok (.iconst 2, 1) := by decide +kernel
theorem dX1_advance_92 : decode cX1_advance 92 = .ok (.if_icmp .ne 49, 3) := by decide +kernel
theorem dX1_advance_95 : decode cX1_advance 95 = .ok (.iconst 0, 1) := by decide +kernel
theorem dX1_advance_96 : decode cX1_advance 96 = .ok (.istore_n 1, 1) := by decide +kernel
theorem dX1_advance_97 : decode cX1_advance 97 = .ok (.iload_n 1, 1) := by decide +kernel
theorem dX1_advance_98 : decode cX1_advance 98 = .ok (.aload_n 0, 1) := by decide +kernel
theorem dX1_advance_99 : decode cX1_advance 99 = .ok (.getfield 45, 3) := by decide +kernel
theorem dX1_advance_102 : decode cX1_advance 102 = .ok (.if_icmp .ge 39, 3) := by decide +kernel
theorem dX1_advance_105 : decode cX1_advance 105 = .ok (.aload_n 0, 1) := by decide +kernel
theorem dX1_advance_106 : decode cX1_advance 106 = .ok (.aload_n 0, 1) := by decide +kernel
theorem dX1_advance_107 : decode cX1_advance 107 = .ok (.getfield 51, 3) := by decide +kernel
theorem dX1_advance_110 : decode cX1_advance 110 = .ok (.aload_n 0, 1) := by decide +kernel
theorem dX1_advance_111 : decode cX1_advance 111 = .ok (.getfield 54, 3) := by decide +kernel
theorem dX1_advance_114 : decode cX1_advance 114 = .ok (.iadd, 1) := by decide +kernel
theorem dX1_advance_115 : decode cX1_advance 115 = .ok (.invokevirtual 209, 3) := by decide +kernel
theorem dX1_advance_118 : decode cX1_advance 118 = .ok (.aload_n 0, 1) := by decide +kernel
theorem dX1_advance_119 : decode cX1_advance 119 = .ok (.getfield 61, 3) := by decide +kernel
theorem dX1_advance_122 : decode cX1_advance 122 = .ok (.if_icmp .ne 19, 3) := by decide +kernel
theorem dX1_advance_125 : decode cX1_advance 125 = .ok (.aload_n 0, 1) := by decide +kernel
theorem dX1_advance_126 : decode cX1_advance 126 = .ok (.dup, 1) := by decide +kernel
theorem dX1_advance_127 : decode cX1_advance 127 = .ok (.getfield 54, 3) := by decide +kernel
theorem dX1_advance_130 : decode cX1_advance 130 = .ok (.iconst 1, 1) := by decide +kernel
theorem dX1_advance_131 : decode cX1_advance 131 = .ok (.iadd, 1) := by decide +kernel
theorem dX1_advance_132 : decode cX1_advance 132 = .ok (.putfield 54, 3) := by decide +kernel
theorem dX1_advance_135 : decode cX1_advance 135 = .ok (.iinc 1 1, 3) := by decide +kernel
theorem dX1_advance_138 : decode cX1_advance 138 = .ok (.goto (-41), 3) := by decide +kernel
theorem dX1_advance_141 : decode cX1_advance 141 = .ok (.aload_n 0, 1) := by decide +kernel
theorem dX1_advance_142 : decode cX1_advance 142 = .ok (.getfield 61, 3) := by decide +kernel
theorem dX1_advance_145 : decode cX1_advance 145 = .ok (.iconst 4, 1) := by decide +kernel
theorem dX1_advance_146 : decode cX1_advance 146 = .ok (.if_icmp .eq 19, 3) := by decide +kernel
theorem dX1_advance_149 : decode cX1_advance 149 = .ok (.aload_n 0, 1) := by decide +kernel
theorem dX1_advance_150 : decode cX1_advance 150 = .ok (.getfield 61, 3) := by decide +kernel
theorem dX1_advance_153 : decode cX1_advance 153 = .ok (.iconst 2, 1) := by decide +kernel
theorem dX1_advance_154 : decode cX1_advance 154 = .ok (.if_icmp .ne 17, 3) := by decide +kernel
theorem dX1_advance_157 : decode cX1_advance 157 = .ok (.aload_n 0, 1) := by decide +kernel
theorem dX1_advance_158 : decode cX1_advance 158 = .ok (.getfield 54, 3) := by decide +kernel
theorem dX1_advance_161 : decode cX1_advance 161 = .ok (.iconst 4, 1) := by decide +kernel
theorem dX1_advance_162 : decode cX1_advance 162 = .ok (.if_icmp .le 9, 3) := by decide +kernel
theorem dX1_advance_165 : decode cX1_advance 165 = .ok (.aload_n 0, 1) := by decide +kernel
theorem dX1_advance_166 : decode cX1_advance 166 = .ok (.iconst 1, 1) := by decide +kernel
theorem dX1_advance_167 : decode cX1_advance 167 = .ok (.invokevirtual 89, 3) := by decide +kernel
theorem dX1_advance_170 : decode cX1_advance 170 = .ok (.ireturn, 1) := by decide +kernel
theorem dX1_advance_171 : decode cX1_advance 171 = .ok (.aload_n 0, 1) := by decide +kernel
theorem dX1_advance_172 : decode cX1_advance 172 = .ok (.getfield 61, 3) := by decide +kernel
theorem dX1_advance_175 : decode cX1_advance 175 = .ok (.iconst 2, 1) := by decide +kernel
theorem dX1_advance_176 : decode cX1_advance 176 = .ok (.if_icmp .ne 7, 3) := by decide +kernel
theorem dX1_advance_179 : decode cX1_advance 179 = .ok (.aload_n 0, 1) := by decide +kernel
theorem dX1_advance_180 : decode cX1_advance 180 = .ok (.invokevirtual 212, 3) := by decide +kernel
theorem dX1_advance_183 : decode cX1_advance 183 = .ok (.iconst 1, 1) := by decide +kernel
theorem dX1_advance_184 : decode cX1_advance 184 = .ok (.ireturn, 1) := by decide +kernel
abbrev f_c_X1_advance : List (Nat × Int) := [(17, 2), (17, 3), (17, 6), (17, 7), (17, 8), (17, 9)]
set_option maxHeartbeats 4000000 in
set_option maxRecDepth 100000 in
theorem c_X1_advance (G : KG) (l : Launch) (M : Mem) (c0 : Int) (hI_M : Inv false M) (hk_c0 : kd c0 = 17) (hpre : (M c0 7) + (M c0 8) ≤ 900) : KC false G l yX1_advance cX1_advance 2 (some .boolean) (2, 42) [vR G c0] M (fun A => kQi false G A (fun (r : Int) (N : Mem) => Inv false N ∧ Fr f_c_X1_advance M N ∧ ((N c0 7) + (N c0 8) ≤ 900 ∧ r ≥ 0 ∧ r ≤ 1))) := by
  refine kx_met (lo := [some (vR G c0), none]) (by decide) (Nat.le_of_ble_eq_true rfl) rfl ?_
  intro X F hQ
  have hF_M : Fr f_c_X1_advance M M := Fr.rf _ _
  have h_1 := Inv.g hI_M hk_c0 rfl 7 (a := 0) (b := 900) rfl rfl
  have h_2 := Inv.g hI_M hk_c0 rfl 8 (a := 0) (b := 900) rfl rfl
  refine kx_aload_n 1 F 0 dX1_advance_0 rfl rfl rfl ?_
  refine kx_dup 2 F dX1_advance_1 rfl rfl ?_
  refine kx_geti 5 F fl_X1_51 hk_c0 rfl rfl (j := 7) rfl dX1_advance_2 (v := (M c0 7)) rfl rfl ?_
  refine kx_aload_n 6 F 0 dX1_advance_5 rfl rfl rfl ?_
  refine kx_geti 9 F fl_X1_54 hk_c0 rfl rfl (j := 8) rfl dX1_advance_6 (v := (M c0 8)) rfl rfl ?_
  refine kx_iadd 10 F (v := (M c0 7) + (M c0 8)) dX1_advance_9 rfl rfl ?_
  refine kx_puti 13 F fw_X1_51 rfl hk_c0 rfl rfl (j := 7) rfl dX1_advance_10 rfl ?_
  intro N_3 hM_N_3
  have hI_N_3 : Inv false N_3 := Inv.u hI_M hM_N_3 hk_c0 (a := 0) (b := 900) rfl rfl rfl (by omega)
  have hF_N_3 : Fr f_c_X1_advance M N_3 := Fr.u hF_M hM_N_3 hk_c0 rfl
  refine kx_iconst 14 F dX1_advance_13 rfl ?_
  refine kx_istore_n 15 F 1 (lo' := [some (vR G c0), some (vI 0)]) dX1_advance_14 rfl (by decide) rfl rfl rfl ?_
  have L_23019 : ∀ (n_23020 : Nat) (x1_23017 : Int) (N_23018 : Mem), Inv false N_23018 → Fr f_c_X1_advance M N_23018 → 0 ≤ x1_23017 ∧ x1_23017 ≤ 900 → (900 - (x1_23017)).toNat = n_23020 → KJ false G X N_23018 15 [some (vR G c0), some (vI x1_23017)] [] := by
    intro n_23020
    refine Nat.strongRecOn n_23020 ?_
    intro n_23020 ih_23021 x1_23017 N_23018 hI_N_23018 hF_N_23018 h_23022 hm_23023
    refine kx_iload_n 16 F 1 dX1_advance_15 rfl rfl rfl ?_
    refine kx_aload_n 17 F 0 dX1_advance_16 rfl rfl rfl ?_
    refine kx_geti 20 F fl_X1_45 hk_c0 rfl rfl (j := 5) rfl dX1_advance_17 (v := (M c0 5)) (by rw [Fr.e hF_N_23018 hk_c0 _ rfl]) rfl ?_
    have h_23024 := Inv.g hI_M hk_c0 rfl 5 (a := 0) (b := 900) rfl rfl
    have J_23035 : KJ false G X N_23018 51 [some (vR G c0), none] [] := by
      refine kx_aload_n 52 F 0 dX1_advance_51 rfl rfl rfl ?_
      refine kx_aload_n 53 F 0 dX1_advance_52 rfl rfl rfl ?_
      refine kx_aload_n 54 F 0 dX1_advance_53 rfl rfl rfl ?_
      refine kx_geti 57 F fl_X1_51 hk_c0 rfl rfl (j := 7) rfl dX1_advance_54 (v := (N_23018 c0 7)) rfl rfl ?_
      have h_23037 := Inv.g hI_N_23018 hk_c0 rfl 7 (a := 0) (b := 900) rfl rfl
      refine kx_Vi 60 (ci := 0) F (As := [vI (N_23018 c0 7)]) (st := [vR G c0]) vd_X1_209 (c_X1_kindAt G l N_23018 c0 (N_23018 c0 7) hI_N_23018 hk_c0 (by omega)) hk_c0 rfl rfl rfl ⟨by decide, by decide⟩ rfl rfl (Nat.le_of_ble_eq_true rfl) dX1_advance_57 rfl ?_
      intro r_23038 N_23039 q_23040
      obtain ⟨rfl, q_23040c⟩ := q_23040
      have e_23041 : (N_23018 c0 5) = (M c0 5) := by rw [Fr.e hF_N_23018 hk_c0 _ rfl]
      have e_23042 : (N_23018 c0 5) = (M c0 5) := by rw [Fr.e hF_N_23018 hk_c0 _ rfl]
      rcases q_23040c with q_23040c | q_23040c
      · refine kx_puti 63 F fw_X1_61 rfl hk_c0 rfl rfl (j := 6) rfl dX1_advance_60 rfl ?_
        intro N_23043 hM_N_23043
        have hI_N_23043 : Inv false N_23043 := Inv.u hI_N_23018 hM_N_23043 hk_c0 (a := 0) (b := 5) rfl rfl rfl (by omega)
        have hF_N_23043 : Fr f_c_X1_advance M N_23043 := Fr.u hF_N_23018 hM_N_23043 hk_c0 rfl
        refine kx_aload_n 64 F 0 dX1_advance_63 rfl rfl rfl ?_
        refine kx_aload_n 65 F 0 dX1_advance_64 rfl rfl rfl ?_
        refine kx_geti 68 F fl_X1_61 hk_c0 rfl rfl (j := 6) rfl dX1_advance_65 (v := r_23038) (by rw [hM_N_23043, mu_s]) rfl ?_
        have J_23047 : ∀ (y0_23046 : Int), 0 ≤ y0_23046 ∧ y0_23046 ≤ 0 ∧ (N_23043 c0 7) + y0_23046 ≤ 900 → KJ false G X N_23043 76 [some (vR G c0), none] [vI y0_23046, vR G c0] := by
          intro y0_23046 h_23048
          refine kx_puti 79 F fw_X1_54 rfl hk_c0 rfl rfl (j := 8) rfl dX1_advance_76 rfl ?_
          intro N_23049 hM_N_23049
          have hI_N_23049 : Inv false N_23049 := Inv.u hI_N_23043 hM_N_23049 hk_c0 (a := 0) (b := 900) rfl rfl rfl (by omega)
          have hF_N_23049 : Fr f_c_X1_advance M N_23049 := Fr.u hF_N_23043 hM_N_23049 hk_c0 rfl
          refine kx_aload_n 80 F 0 dX1_advance_79 rfl rfl rfl ?_
          refine kx_geti 83 F fl_X1_61 hk_c0 rfl rfl (j := 6) rfl dX1_advance_80 (v := r_23038) (by rw [hM_N_23049, mu_i (by omega), hM_N_23043, mu_s]) rfl ?_
          refine kx_iconst 84 F dX1_advance_83 rfl ?_
          have J_23053 : ∀ (N_23052 : Mem), Inv false N_23052 → Fr f_c_X1_advance M N_23052 → (N_23052 c0 7) + (N_23052 c0 8) ≤ 900 → KJ false G X N_23052 141 [some (vR G c0), none] [] := by
            intro N_23052 hI_N_23052 hF_N_23052 h_23054
            refine kx_aload_n 142 F 0 dX1_advance_141 rfl rfl rfl ?_
            refine kx_geti 145 F fl_X1_61 hk_c0 rfl rfl (j := 6) rfl dX1_advance_142 (v := (N_23052 c0 6)) rfl rfl ?_
            have h_23055 := Inv.g hI_N_23052 hk_c0 rfl 6 (a := 0) (b := 5) rfl rfl
            refine kx_iconst 146 F dX1_advance_145 rfl ?_
            refine kx_icmp_eq 149 F 165 dX1_advance_146 (by decide) rfl (by omega) (by decide) (fun h_23056 => ?_) (fun h_23056 => ?_)
            · refine kx_aload_n 166 F 0 dX1_advance_165 rfl rfl rfl ?_
              refine kx_iconst 167 F dX1_advance_166 rfl ?_
              refine kx_Vi 170 (ci := 0) F (As := [vI 1]) (st := []) vd_X1_89 (c_X1_fail G l N_23052 c0 1 hI_N_23052 hk_c0 (by omega)) hk_c0 rfl rfl rfl ⟨by decide, by decide⟩ rfl rfl (Nat.le_of_ble_eq_true rfl) dX1_advance_167 rfl ?_
              intro r_23057 N_23058 q_23059
              obtain ⟨hI_N_23058, hG_N_23058, q_23059c⟩ := q_23059
              have hF_N_23058 : Fr f_c_X1_advance M N_23058 := Fr.c hF_N_23052 hG_N_23058 rfl
              subst q_23059c
              have e_23060 : (N_23058 c0 7) = (N_23052 c0 7) := by rw [Fr.e hG_N_23058 hk_c0 _ rfl]
              have h_23061 := Inv.g hI_N_23052 hk_c0 rfl 7 (a := 0) (b := 900) rfl rfl
              have e_23062 : (N_23058 c0 8) = (N_23052 c0 8) := by rw [Fr.e hG_N_23058 hk_c0 _ rfl]
              have h_23063 := Inv.g hI_N_23052 hk_c0 rfl 8 (a := 0) (b := 900) rfl rfl
              exact kx_zret F hQ (by omega) ⟨hI_N_23058, hF_N_23058, (by omega)⟩ dX1_advance_170
            · refine kx_aload_n 150 F 0 dX1_advance_149 rfl rfl rfl ?_
              refine kx_geti 153 F fl_X1_61 hk_c0 rfl rfl (j := 6) rfl dX1_advance_150 (v := (N_23052 c0 6)) rfl rfl ?_
              refine kx_iconst 154 F dX1_advance_153 rfl ?_
              refine kx_icmp_ne 157 F 171 dX1_advance_154 (by decide) rfl (by omega) (by decide) (fun h_23064 => ?_) (fun h_23064 => ?_)
              · refine kx_aload_n 172 F 0 dX1_advance_171 rfl rfl rfl ?_
                refine kx_geti 175 F fl_X1_61 hk_c0 rfl rfl (j := 6) rfl dX1_advance_172 (v := (N_23052 c0 6)) rfl rfl ?_
                refine kx_iconst 176 F dX1_advance_175 rfl ?_
                refine kx_icmp_ne 179 F 183 dX1_advance_176 (by decide) rfl (by omega) (by decide) (fun h_23065 => ?_) (fun h_23065 => (by exfalso; omega))
                refine kx_iconst 184 F dX1_advance_183 rfl ?_
                have h_23066 := Inv.g hI_N_23052 hk_c0 rfl 7 (a := 0) (b := 900) rfl rfl
                have h_23067 := Inv.g hI_N_23052 hk_c0 rfl 8 (a := 0) (b := 900) rfl rfl
                exact kx_zret F hQ (by omega) ⟨hI_N_23052, hF_N_23052, (by omega)⟩ dX1_advance_184
              · refine kx_aload_n 158 F 0 dX1_advance_157 rfl rfl rfl ?_
                refine kx_geti 161 F fl_X1_54 hk_c0 rfl rfl (j := 8) rfl dX1_advance_158 (v := (N_23052 c0 8)) rfl rfl ?_
                have h_23068 := Inv.g hI_N_23052 hk_c0 rfl 8 (a := 0) (b := 900) rfl rfl
                refine kx_iconst 162 F dX1_advance_161 rfl ?_
                refine kx_icmp_le 165 F 171 dX1_advance_162 (by decide) rfl (by omega) (by decide) (fun h_23069 => ?_) (fun h_23069 => ?_)
                · refine kx_aload_n 172 F 0 dX1_advance_171 rfl rfl rfl ?_
                  refine kx_geti 175 F fl_X1_61 hk_c0 rfl rfl (j := 6) rfl dX1_advance_172 (v := (N_23052 c0 6)) rfl rfl ?_
                  refine kx_iconst 176 F dX1_advance_175 rfl ?_
                  refine kx_icmp_ne 179 F 183 dX1_advance_176 (by decide) rfl (by omega) (by decide) (fun h_23070 => (by exfalso; omega)) (fun h_23070 => ?_)
                  refine kx_aload_n 180 F 0 dX1_advance_179 rfl rfl rfl ?_
                  refine kx_Vv 183 (ci := 0) F (As := []) (st := []) vd_X1_212 (c_X1_reckonValue G l N_23052 c0 hI_N_23052 hk_c0) hk_c0 rfl rfl rfl ⟨by decide, by decide⟩ rfl rfl (Nat.le_of_ble_eq_true rfl) dX1_advance_180 rfl ?_
                  intro N_23071 q_23072
                  obtain ⟨hI_N_23071, hG_N_23071⟩ := q_23072
                  have hF_N_23071 : Fr f_c_X1_advance M N_23071 := Fr.c hF_N_23052 hG_N_23071 rfl
                  refine kx_iconst 184 F dX1_advance_183 rfl ?_
                  have e_23073 : (N_23071 c0 7) = (N_23052 c0 7) := by rw [Fr.e hG_N_23071 hk_c0 _ rfl]
                  have h_23074 := Inv.g hI_N_23052 hk_c0 rfl 7 (a := 0) (b := 900) rfl rfl
                  have e_23075 : (N_23071 c0 8) = (N_23052 c0 8) := by rw [Fr.e hG_N_23071 hk_c0 _ rfl]
                  exact kx_zret F hQ (by omega) ⟨hI_N_23071, hF_N_23071, (by omega)⟩ dX1_advance_184
                · refine kx_aload_n 166 F 0 dX1_advance_165 rfl rfl rfl ?_
                  refine kx_iconst 167 F dX1_advance_166 rfl ?_
                  refine kx_Vi 170 (ci := 0) F (As := [vI 1]) (st := []) vd_X1_89 (c_X1_fail G l N_23052 c0 1 hI_N_23052 hk_c0 (by omega)) hk_c0 rfl rfl rfl ⟨by decide, by decide⟩ rfl rfl (Nat.le_of_ble_eq_true rfl) dX1_advance_167 rfl ?_
                  intro r_23076 N_23077 q_23078
                  obtain ⟨hI_N_23077, hG_N_23077, q_23078c⟩ := q_23078
                  have hF_N_23077 : Fr f_c_X1_advance M N_23077 := Fr.c hF_N_23052 hG_N_23077 rfl
                  subst q_23078c
                  have e_23079 : (N_23077 c0 7) = (N_23052 c0 7) := by rw [Fr.e hG_N_23077 hk_c0 _ rfl]
                  have h_23080 := Inv.g hI_N_23052 hk_c0 rfl 7 (a := 0) (b := 900) rfl rfl
                  have e_23081 : (N_23077 c0 8) = (N_23052 c0 8) := by rw [Fr.e hG_N_23077 hk_c0 _ rfl]
                  exact kx_zret F hQ (by omega) ⟨hI_N_23077, hF_N_23077, (by omega)⟩ dX1_advance_170
          refine kx_icmp_eq 87 F 95 dX1_advance_84 (by decide) rfl (by omega) (by decide) (fun h_23089 => (by exfalso; omega)) (fun h_23089 => ?_)
          refine kx_aload_n 88 F 0 dX1_advance_87 rfl rfl rfl ?_
          refine kx_geti 91 F fl_X1_61 hk_c0 rfl rfl (j := 6) rfl dX1_advance_88 (v := r_23038) (by rw [hM_N_23049, mu_i (by omega), hM_N_23043, mu_s]) rfl ?_
          refine kx_iconst 92 F dX1_advance_91 rfl ?_
          refine kx_icmp_ne 95 F 141 dX1_advance_92 (by decide) rfl (by omega) (by decide) (fun h_23090 => ?_) (fun h_23090 => (by exfalso; omega))
          have e_23091 : (N_23049 c0 7) = (N_23018 c0 7) := by rw [hM_N_23049, mu_i (by omega), hM_N_23043, mu_i (by omega)]
          have e_23092 : (N_23049 c0 8) = y0_23046 := by rw [hM_N_23049, mu_s]
          exact J_23053 N_23049 hI_N_23049 hF_N_23049 (by omega)
        refine kx_if_ne 71 F 75 dX1_advance_68 (by decide) rfl (by omega) (fun h_23093 => (by exfalso; omega)) (fun h_23093 => ?_)
        refine kx_iconst 72 F dX1_advance_71 rfl ?_
        refine kx_goto 76 F dX1_advance_72 (by decide) ?_
        have e_23094 : (N_23043 c0 7) = (N_23018 c0 7) := by rw [hM_N_23043, mu_i (by omega)]
        exact J_23047 0 (by omega)
      · refine kx_puti 63 F fw_X1_61 rfl hk_c0 rfl rfl (j := 6) rfl dX1_advance_60 rfl ?_
        intro N_23095 hM_N_23095
        have hI_N_23095 : Inv false N_23095 := Inv.u hI_N_23018 hM_N_23095 hk_c0 (a := 0) (b := 5) rfl rfl rfl (by omega)
        have hF_N_23095 : Fr f_c_X1_advance M N_23095 := Fr.u hF_N_23018 hM_N_23095 hk_c0 rfl
        refine kx_aload_n 64 F 0 dX1_advance_63 rfl rfl rfl ?_
        refine kx_aload_n 65 F 0 dX1_advance_64 rfl rfl rfl ?_
        refine kx_geti 68 F fl_X1_61 hk_c0 rfl rfl (j := 6) rfl dX1_advance_65 (v := r_23038) (by rw [hM_N_23095, mu_s]) rfl ?_
        have J_23099 : ∀ (y0_23098 : Int), 1 ≤ y0_23098 ∧ y0_23098 ≤ 1 ∧ (N_23095 c0 7) + y0_23098 ≤ 900 → KJ false G X N_23095 76 [some (vR G c0), none] [vI y0_23098, vR G c0] := by
          intro y0_23098 h_23100
          refine kx_puti 79 F fw_X1_54 rfl hk_c0 rfl rfl (j := 8) rfl dX1_advance_76 rfl ?_
          intro N_23101 hM_N_23101
          have hI_N_23101 : Inv false N_23101 := Inv.u hI_N_23095 hM_N_23101 hk_c0 (a := 0) (b := 900) rfl rfl rfl (by omega)
          have hF_N_23101 : Fr f_c_X1_advance M N_23101 := Fr.u hF_N_23095 hM_N_23101 hk_c0 rfl
          refine kx_aload_n 80 F 0 dX1_advance_79 rfl rfl rfl ?_
          refine kx_geti 83 F fl_X1_61 hk_c0 rfl rfl (j := 6) rfl dX1_advance_80 (v := r_23038) (by rw [hM_N_23101, mu_i (by omega), hM_N_23095, mu_s]) rfl ?_
          refine kx_iconst 84 F dX1_advance_83 rfl ?_
          have J_23355 : ∀ (N_23354 : Mem), Inv false N_23354 → Fr f_c_X1_advance M N_23354 → (N_23354 c0 7) + (N_23354 c0 8) ≤ 900 → KJ false G X N_23354 141 [some (vR G c0), none] [] := by
            intro N_23354 hI_N_23354 hF_N_23354 h_23356
            refine kx_aload_n 142 F 0 dX1_advance_141 rfl rfl rfl ?_
            refine kx_geti 145 F fl_X1_61 hk_c0 rfl rfl (j := 6) rfl dX1_advance_142 (v := (N_23354 c0 6)) rfl rfl ?_
            have h_23357 := Inv.g hI_N_23354 hk_c0 rfl 6 (a := 0) (b := 5) rfl rfl
            refine kx_iconst 146 F dX1_advance_145 rfl ?_
            refine kx_icmp_eq 149 F 165 dX1_advance_146 (by decide) rfl (by omega) (by decide) (fun h_23358 => ?_) (fun h_23358 => ?_)
            · refine kx_aload_n 166 F 0 dX1_advance_165 rfl rfl rfl ?_
              refine kx_iconst 167 F dX1_advance_166 rfl ?_
              refine kx_Vi 170 (ci := 0) F (As := [vI 1]) (st := []) vd_X1_89 (c_X1_fail G l N_23354 c0 1 hI_N_23354 hk_c0 (by omega)) hk_c0 rfl rfl rfl ⟨by decide, by decide⟩ rfl rfl (Nat.le_of_ble_eq_true rfl) dX1_advance_167 rfl ?_
              intro r_23359 N_23360 q_23361
              obtain ⟨hI_N_23360, hG_N_23360, q_23361c⟩ := q_23361
              have hF_N_23360 : Fr f_c_X1_advance M N_23360 := Fr.c hF_N_23354 hG_N_23360 rfl
              subst q_23361c
              have e_23362 : (N_23360 c0 7) = (N_23354 c0 7) := by rw [Fr.e hG_N_23360 hk_c0 _ rfl]
              have h_23363 := Inv.g hI_N_23354 hk_c0 rfl 7 (a := 0) (b := 900) rfl rfl
              have e_23364 : (N_23360 c0 8) = (N_23354 c0 8) := by rw [Fr.e hG_N_23360 hk_c0 _ rfl]
              have h_23365 := Inv.g hI_N_23354 hk_c0 rfl 8 (a := 0) (b := 900) rfl rfl
              exact kx_zret F hQ (by omega) ⟨hI_N_23360, hF_N_23360, (by omega)⟩ dX1_advance_170
            · refine kx_aload_n 150 F 0 dX1_advance_149 rfl rfl rfl ?_
              refine kx_geti 153 F fl_X1_61 hk_c0 rfl rfl (j := 6) rfl dX1_advance_150 (v := (N_23354 c0 6)) rfl rfl ?_
              refine kx_iconst 154 F dX1_advance_153 rfl ?_
              refine kx_icmp_ne 157 F 171 dX1_advance_154 (by decide) rfl (by omega) (by decide) (fun h_23366 => ?_) (fun h_23366 => ?_)
              · refine kx_aload_n 172 F 0 dX1_advance_171 rfl rfl rfl ?_
                refine kx_geti 175 F fl_X1_61 hk_c0 rfl rfl (j := 6) rfl dX1_advance_172 (v := (N_23354 c0 6)) rfl rfl ?_
                refine kx_iconst 176 F dX1_advance_175 rfl ?_
                refine kx_icmp_ne 179 F 183 dX1_advance_176 (by decide) rfl (by omega) (by decide) (fun h_23367 => ?_) (fun h_23367 => (by exfalso; omega))
                refine kx_iconst 184 F dX1_advance_183 rfl ?_
                have h_23368 := Inv.g hI_N_23354 hk_c0 rfl 7 (a := 0) (b := 900) rfl rfl
                have h_23369 := Inv.g hI_N_23354 hk_c0 rfl 8 (a := 0) (b := 900) rfl rfl
                exact kx_zret F hQ (by omega) ⟨hI_N_23354, hF_N_23354, (by omega)⟩ dX1_advance_184
              · refine kx_aload_n 158 F 0 dX1_advance_157 rfl rfl rfl ?_
                refine kx_geti 161 F fl_X1_54 hk_c0 rfl rfl (j := 8) rfl dX1_advance_158 (v := (N_23354 c0 8)) rfl rfl ?_
                have h_23370 := Inv.g hI_N_23354 hk_c0 rfl 8 (a := 0) (b := 900) rfl rfl
                refine kx_iconst 162 F dX1_advance_161 rfl ?_
                refine kx_icmp_le 165 F 171 dX1_advance_162 (by decide) rfl (by omega) (by decide) (fun h_23371 => ?_) (fun h_23371 => ?_)
                · refine kx_aload_n 172 F 0 dX1_advance_171 rfl rfl rfl ?_
                  refine kx_geti 175 F fl_X1_61 hk_c0 rfl rfl (j := 6) rfl dX1_advance_172 (v := (N_23354 c0 6)) rfl rfl ?_
                  refine kx_iconst 176 F dX1_advance_175 rfl ?_
                  refine kx_icmp_ne 179 F 183 dX1_advance_176 (by decide) rfl (by omega) (by decide) (fun h_23372 => (by exfalso; omega)) (fun h_23372 => ?_)
                  refine kx_aload_n 180 F 0 dX1_advance_179 rfl rfl rfl ?_
                  refine kx_Vv 183 (ci := 0) F (As := []) (st := []) vd_X1_212 (c_X1_reckonValue G l N_23354 c0 hI_N_23354 hk_c0) hk_c0 rfl rfl rfl ⟨by decide, by decide⟩ rfl rfl (Nat.le_of_ble_eq_true rfl) dX1_advance_180 rfl ?_
                  intro N_23373 q_23374
                  obtain ⟨hI_N_23373, hG_N_23373⟩ := q_23374
                  have hF_N_23373 : Fr f_c_X1_advance M N_23373 := Fr.c hF_N_23354 hG_N_23373 rfl
                  refine kx_iconst 184 F dX1_advance_183 rfl ?_
                  have e_23375 : (N_23373 c0 7) = (N_23354 c0 7) := by rw [Fr.e hG_N_23373 hk_c0 _ rfl]
                  have h_23376 := Inv.g hI_N_23354 hk_c0 rfl 7 (a := 0) (b := 900) rfl rfl
                  have e_23377 : (N_23373 c0 8) = (N_23354 c0 8) := by rw [Fr.e hG_N_23373 hk_c0 _ rfl]
                  exact kx_zret F hQ (by omega) ⟨hI_N_23373, hF_N_23373, (by omega)⟩ dX1_advance_184
                · refine kx_aload_n 166 F 0 dX1_advance_165 rfl rfl rfl ?_
                  refine kx_iconst 167 F dX1_advance_166 rfl ?_
                  refine kx_Vi 170 (ci := 0) F (As := [vI 1]) (st := []) vd_X1_89 (c_X1_fail G l N_23354 c0 1 hI_N_23354 hk_c0 (by omega)) hk_c0 rfl rfl rfl ⟨by decide, by decide⟩ rfl rfl (Nat.le_of_ble_eq_true rfl) dX1_advance_167 rfl ?_
                  intro r_23378 N_23379 q_23380
                  obtain ⟨hI_N_23379, hG_N_23379, q_23380c⟩ := q_23380
                  have hF_N_23379 : Fr f_c_X1_advance M N_23379 := Fr.c hF_N_23354 hG_N_23379 rfl
                  subst q_23380c
                  have e_23381 : (N_23379 c0 7) = (N_23354 c0 7) := by rw [Fr.e hG_N_23379 hk_c0 _ rfl]
                  have h_23382 := Inv.g hI_N_23354 hk_c0 rfl 7 (a := 0) (b := 900) rfl rfl
                  have e_23383 : (N_23379 c0 8) = (N_23354 c0 8) := by rw [Fr.e hG_N_23379 hk_c0 _ rfl]
                  exact kx_zret F hQ (by omega) ⟨hI_N_23379, hF_N_23379, (by omega)⟩ dX1_advance_170
          have J_23396 : KJ false G X N_23101 95 [some (vR G c0), none] [] := by
            refine kx_iconst 96 F dX1_advance_95 rfl ?_
            refine kx_istore_n 97 F 1 (lo' := [some (vR G c0), some (vI 0)]) dX1_advance_96 rfl (by decide) rfl rfl rfl ?_
            have L_23505 : ∀ (n_23506 : Nat) (x1_23503 : Int) (N_23504 : Mem), Inv false N_23504 → Fr f_c_X1_advance M N_23504 → 0 ≤ x1_23503 ∧ x1_23503 ≤ 900 ∧ (N_23504 c0 7) + (N_23504 c0 8) ≤ 900 ∧ (N_23504 c0 6) ≥ 1 → (900 - (x1_23503)).toNat = n_23506 → KJ false G X N_23504 97 [some (vR G c0), some (vI x1_23503)] [] := by
              intro n_23506
              refine Nat.strongRecOn n_23506 ?_
              intro n_23506 ih_23507 x1_23503 N_23504 hI_N_23504 hF_N_23504 h_23508 hm_23509
              refine kx_iload_n 98 F 1 dX1_advance_97 rfl rfl rfl ?_
              refine kx_aload_n 99 F 0 dX1_advance_98 rfl rfl rfl ?_
              refine kx_geti 102 F fl_X1_45 hk_c0 rfl rfl (j := 5) rfl dX1_advance_99 (v := (M c0 5)) (by rw [Fr.e hF_N_23504 hk_c0 _ rfl]) rfl ?_
              refine kx_icmp_ge 105 F 141 dX1_advance_102 (by decide) rfl (by omega) (by omega) (fun h_23510 => ?_) (fun h_23510 => ?_)
              · refine kx_drop 1 (lo' := [some (vR G c0), none]) rfl ?_
                have h_23511 := Inv.g hI_N_23504 hk_c0 rfl 7 (a := 0) (b := 900) rfl rfl
                have h_23512 := Inv.g hI_N_23504 hk_c0 rfl 8 (a := 0) (b := 900) rfl rfl
                exact J_23355 N_23504 hI_N_23504 hF_N_23504 (by omega)
              · refine kx_aload_n 106 F 0 dX1_advance_105 rfl rfl rfl ?_
                refine kx_aload_n 107 F 0 dX1_advance_106 rfl rfl rfl ?_
                refine kx_geti 110 F fl_X1_51 hk_c0 rfl rfl (j := 7) rfl dX1_advance_107 (v := (N_23504 c0 7)) rfl rfl ?_
                have h_23513 := Inv.g hI_N_23504 hk_c0 rfl 7 (a := 0) (b := 900) rfl rfl
                refine kx_aload_n 111 F 0 dX1_advance_110 rfl rfl rfl ?_
                refine kx_geti 114 F fl_X1_54 hk_c0 rfl rfl (j := 8) rfl dX1_advance_111 (v := (N_23504 c0 8)) rfl rfl ?_
                have h_23514 := Inv.g hI_N_23504 hk_c0 rfl 8 (a := 0) (b := 900) rfl rfl
                refine kx_iadd 115 F (v := (N_23504 c0 7) + (N_23504 c0 8)) dX1_advance_114 rfl rfl ?_
                refine kx_Vi 118 (ci := 0) F (As := [vI ((N_23504 c0 7) + (N_23504 c0 8))]) (st := []) vd_X1_209 (c_X1_kindAt G l N_23504 c0 ((N_23504 c0 7) + (N_23504 c0 8)) hI_N_23504 hk_c0 (by omega)) hk_c0 rfl rfl rfl ⟨by decide, by decide⟩ rfl rfl (Nat.le_of_ble_eq_true rfl) dX1_advance_115 rfl ?_
                intro r_23515 N_23516 q_23517
                obtain ⟨rfl, q_23517c⟩ := q_23517
                have e_23518 : (N_23504 c0 5) = (M c0 5) := by rw [Fr.e hF_N_23504 hk_c0 _ rfl]
                have e_23519 : (N_23504 c0 5) = (M c0 5) := by rw [Fr.e hF_N_23504 hk_c0 _ rfl]
                rcases q_23517c with q_23517c | q_23517c
                · refine kx_aload_n 119 F 0 dX1_advance_118 rfl rfl rfl ?_
                  refine kx_geti 122 F fl_X1_61 hk_c0 rfl rfl (j := 6) rfl dX1_advance_119 (v := (N_23504 c0 6)) rfl rfl ?_
                  have h_23520 := Inv.g hI_N_23504 hk_c0 rfl 6 (a := 0) (b := 5) rfl rfl
                  refine kx_icmp_ne 125 F 141 dX1_advance_122 (by decide) rfl (by omega) (by omega) (fun h_23521 => ?_) (fun h_23521 => (by exfalso; omega))
                  refine kx_drop 1 (lo' := [some (vR G c0), none]) rfl ?_
                  exact J_23355 N_23504 hI_N_23504 hF_N_23504 (by omega)
                · refine kx_aload_n 119 F 0 dX1_advance_118 rfl rfl rfl ?_
                  refine kx_geti 122 F fl_X1_61 hk_c0 rfl rfl (j := 6) rfl dX1_advance_119 (v := (N_23504 c0 6)) rfl rfl ?_
                  have h_23522 := Inv.g hI_N_23504 hk_c0 rfl 6 (a := 0) (b := 5) rfl rfl
                  refine kx_icmp_ne 125 F 141 dX1_advance_122 (by decide) rfl (by omega) (by omega) (fun h_23523 => ?_) (fun h_23523 => ?_)
                  · refine kx_drop 1 (lo' := [some (vR G c0), none]) rfl ?_
                    exact J_23355 N_23504 hI_N_23504 hF_N_23504 (by omega)
                  · refine kx_aload_n 126 F 0 dX1_advance_125 rfl rfl rfl ?_
                    refine kx_dup 127 F dX1_advance_126 rfl rfl ?_
                    refine kx_geti 130 F fl_X1_54 hk_c0 rfl rfl (j := 8) rfl dX1_advance_127 (v := (N_23504 c0 8)) rfl rfl ?_
                    refine kx_iconst 131 F dX1_advance_130 rfl ?_
                    refine kx_iadd 132 F (v := (N_23504 c0 8) + 1) dX1_advance_131 rfl rfl ?_
                    refine kx_puti 135 F fw_X1_54 rfl hk_c0 rfl rfl (j := 8) rfl dX1_advance_132 rfl ?_
                    intro N_23524 hM_N_23524
                    have hI_N_23524 : Inv false N_23524 := Inv.u hI_N_23504 hM_N_23524 hk_c0 (a := 0) (b := 900) rfl rfl rfl (by omega)
                    have hF_N_23524 : Fr f_c_X1_advance M N_23524 := Fr.u hF_N_23504 hM_N_23524 hk_c0 rfl
                    refine kx_iinc 138 F 1 (v := x1_23503 + 1) (lo' := [some (vR G c0), some (vI (x1_23503 + 1))]) dX1_advance_135 rfl (by omega) (by decide) rfl rfl rfl ?_
                    refine kx_goto 97 F dX1_advance_138 (by decide) ?_
                    have e_23525 : (N_23524 c0 7) = (N_23504 c0 7) := by rw [hM_N_23524, mu_i (by omega)]
                    have e_23526 : (N_23524 c0 8) = (N_23504 c0 8) + 1 := by rw [hM_N_23524, mu_s]
                    have e_23527 : (N_23524 c0 6) = (N_23504 c0 6) := by rw [hM_N_23524, mu_i (by omega)]
                    exact ih_23507 _ (by omega) (x1_23503 + 1) N_23524 hI_N_23524 hF_N_23524 (by omega) rfl
            have e_23528 : (N_23101 c0 7) = (N_23018 c0 7) := by rw [hM_N_23101, mu_i (by omega), hM_N_23095, mu_i (by omega)]
            have e_23529 : (N_23101 c0 8) = y0_23098 := by rw [hM_N_23101, mu_s]
            have e_23530 : (N_23101 c0 6) = r_23038 := by rw [hM_N_23101, mu_i (by omega), hM_N_23095, mu_s]
            exact L_23505 _ 0 N_23101 hI_N_23101 hF_N_23101 (by omega) rfl
          refine kx_icmp_eq 87 F 95 dX1_advance_84 (by decide) rfl (by omega) (by decide) (fun h_23531 => ?_) (fun h_23531 => ?_)
          · exact J_23396
          · refine kx_aload_n 88 F 0 dX1_advance_87 rfl rfl rfl ?_
            refine kx_geti 91 F fl_X1_61 hk_c0 rfl rfl (j := 6) rfl dX1_advance_88 (v := r_23038) (by rw [hM_N_23101, mu_i (by omega), hM_N_23095, mu_s]) rfl ?_
            refine kx_iconst 92 F dX1_advance_91 rfl ?_
            refine kx_icmp_ne 95 F 141 dX1_advance_92 (by decide) rfl (by omega) (by decide) (fun h_23532 => ?_) (fun h_23532 => ?_)
            · have e_23533 : (N_23101 c0 7) = (N_23018 c0 7) := by rw [hM_N_23101, mu_i (by omega), hM_N_23095, mu_i (by omega)]
              have e_23534 : (N_23101 c0 8) = y0_23098 := by rw [hM_N_23101, mu_s]
              exact J_23355 N_23101 hI_N_23101 hF_N_23101 (by omega)
            · exact J_23396
        refine kx_if_ne 71 F 75 dX1_advance_68 (by decide) rfl (by omega) (fun h_23535 => ?_) (fun h_23535 => (by exfalso; omega))
        refine kx_iconst 76 F dX1_advance_75 rfl ?_
        have e_23536 : (N_23095 c0 7) = (N_23018 c0 7) := by rw [hM_N_23095, mu_i (by omega)]
        exact J_23099 1 (by omega)
    refine kx_icmp_ge 23 F 51 dX1_advance_20 (by decide) rfl (by omega) (by omega) (fun h_23537 => ?_) (fun h_23537 => ?_)
    · refine kx_drop 1 (lo' := [some (vR G c0), none]) rfl ?_
      exact J_23035 
    · refine kx_aload_n 24 F 0 dX1_advance_23 rfl rfl rfl ?_
      refine kx_aload_n 25 F 0 dX1_advance_24 rfl rfl rfl ?_
      refine kx_geti 28 F fl_X1_51 hk_c0 rfl rfl (j := 7) rfl dX1_advance_25 (v := (N_23018 c0 7)) rfl rfl ?_
      have h_23538 := Inv.g hI_N_23018 hk_c0 rfl 7 (a := 0) (b := 900) rfl rfl
      refine kx_Vi 31 (ci := 0) F (As := [vI (N_23018 c0 7)]) (st := []) vd_X1_209 (c_X1_kindAt G l N_23018 c0 (N_23018 c0 7) hI_N_23018 hk_c0 (by omega)) hk_c0 rfl rfl rfl ⟨by decide, by decide⟩ rfl rfl (Nat.le_of_ble_eq_true rfl) dX1_advance_28 rfl ?_
      intro r_23539 N_23540 q_23541
      obtain ⟨rfl, q_23541c⟩ := q_23541
      have e_23542 : (N_23018 c0 5) = (M c0 5) := by rw [Fr.e hF_N_23018 hk_c0 _ rfl]
      have e_23543 : (N_23018 c0 5) = (M c0 5) := by rw [Fr.e hF_N_23018 hk_c0 _ rfl]
      rcases q_23541c with q_23541c | q_23541c
      · refine kx_iconst 32 F dX1_advance_31 rfl ?_
        refine kx_icmp_ne 35 F 51 dX1_advance_32 (by decide) rfl (by omega) (by decide) (fun h_23544 => ?_) (fun h_23544 => (by exfalso; omega))
        refine kx_drop 1 (lo' := [some (vR G c0), none]) rfl ?_
        exact J_23035 
      · refine kx_iconst 32 F dX1_advance_31 rfl ?_
        refine kx_icmp_ne 35 F 51 dX1_advance_32 (by decide) rfl (by omega) (by decide) (fun h_23545 => ?_) (fun h_23545 => ?_)
        · refine kx_drop 1 (lo' := [some (vR G c0), none]) rfl ?_
          exact J_23035 
        · refine kx_aload_n 36 F 0 dX1_advance_35 rfl rfl rfl ?_
          refine kx_dup 37 F dX1_advance_36 rfl rfl ?_
          refine kx_geti 40 F fl_X1_51 hk_c0 rfl rfl (j := 7) rfl dX1_advance_37 (v := (N_23018 c0 7)) rfl rfl ?_
          refine kx_iconst 41 F dX1_advance_40 rfl ?_
          refine kx_iadd 42 F (v := (N_23018 c0 7) + 1) dX1_advance_41 rfl rfl ?_
          refine kx_puti 45 F fw_X1_51 rfl hk_c0 rfl rfl (j := 7) rfl dX1_advance_42 rfl ?_
          intro N_23546 hM_N_23546
          have hI_N_23546 : Inv false N_23546 := Inv.u hI_N_23018 hM_N_23546 hk_c0 (a := 0) (b := 900) rfl rfl rfl (by omega)
          have hF_N_23546 : Fr f_c_X1_advance M N_23546 := Fr.u hF_N_23018 hM_N_23546 hk_c0 rfl
          refine kx_iinc 48 F 1 (v := x1_23017 + 1) (lo' := [some (vR G c0), some (vI (x1_23017 + 1))]) dX1_advance_45 rfl (by omega) (by decide) rfl rfl rfl ?_
          refine kx_goto 15 F dX1_advance_48 (by decide) ?_
          exact ih_23021 _ (by omega) (x1_23017 + 1) N_23546 hI_N_23546 hF_N_23546 (by omega) rfl
  exact L_23019 _ 0 N_3 hI_N_3 hF_N_3 (by omega) rfl
theorem dX1_isWord_0 : decode cX1_isWord 0 = .ok (.aload_n 0, 1) := by decide +kernel
theorem dX1_isWord_1 : decode cX1_isWord 1 = .ok (.getfield 61, 3) := by decide +kernel
theorem dX1_isWord_4 : decode cX1_isWord 4 = .ok (.iconst 1, 1) := by decide +kernel
theorem dX1_isWord_5 : decode cX1_isWord 5 = .ok (.if_icmp .ne 14, 3) := by decide +kernel
theorem dX1_isWord_8 : decode cX1_isWord 8 = .ok (.aload_n 0, 1) := by decide +kernel
theorem dX1_isWord_9 : decode cX1_isWord 9 = .ok (.getfield 54, 3) := by decide +kernel
theorem dX1_isWord_12 : decode cX1_isWord 12 = .ok (.aload_n 1, 1) := by decide +kernel
theorem dX1_isWord_13 : decode cX1_isWord 13 = .ok (.invokevirtual 192, 3) := by decide +kernel
theorem dX1_isWord_16 : decode cX1_isWord 16 = .ok (.if_icmp .eq 5, 3) := by decide +kernel
theorem dX1_isWord_19 : decode cX1_isWord 19 = .ok (.iconst 0, 1) := by decide +kernel
theorem dX1_isWord_20 : decode cX1_isWord 20 = .ok (.ireturn, 1) := by decide +kernel
theorem dX1_isWord_21 : decode cX1_isWord 21 = .ok (.iconst 0, 1) := by decide +kernel
theorem dX1_isWord_22 : decode cX1_isWord 22 = .ok (.istore_n 2, 1) := by decide +kernel
theorem dX1_isWord_23 : decode cX1_isWord 23 = .ok (.iload_n 2, 1) := by decide +kernel
theorem dX1_isWord_24 : decode cX1_isWord 24 = .ok (.aload_n 0, 1) := by decide +kernel
theorem dX1_isWord_25 : decode cX1_isWord 25 = .ok (.getfield 54, 3) := by decide +kernel
theorem dX1_isWord_28 : decode cX1_isWord 28 = .ok (.if_icmp .ge 29, 3) := by decide +kernel
theorem dX1_isWord_31 : decode cX1_isWord 31 = .ok (.aload_n 0, 1) := by decide +kernel
theorem dX1_isWord_32 : decode cX1_isWord 32 = .ok (.aload_n 0, 1) := by decide +kernel
theorem dX1_isWord_33 : decode cX1_isWord 33 = .ok (.getfield 51, 3) := by decide +kernel
theorem dX1_isWord_36 : decode cX1_isWord 36 = .ok (.iload_n 2, 1) := by decide +kernel
theorem dX1_isWord_37 : decode cX1_isWord 37 = .ok (.iadd, 1) := by decide +kernel
theorem dX1_isWord_38 : decode cX1_isWord 38 = .ok (.invokevirtual 196, 3) := by decide +kernel
theorem dX1_isWord_41 : decode cX1_isWord 41 = .ok (.aload_n 1, 1) := by decide +kernel
theorem dX1_isWord_42 : decode cX1_isWord 42 = .ok (.iload_n 2, 1) := by decide +kernel
theorem dX1_isWord_43 : decode cX1_isWord 43 = .ok (.invokevirtual 199, 3) := by decide +kernel
theorem dX1_isWord_46 : decode cX1_isWord 46 = .ok (.if_icmp .eq 5, 3) := by decide +kernel
theorem dX1_isWord_49 : decode cX1_isWord 49 = .ok (.iconst 0, 1) := by decide +kernel
theorem dX1_isWord_50 : decode cX1_isWord 50 = .ok (.ireturn, 1) := by decide +kernel
theorem dX1_isWord_51 : decode cX1_isWord 51 = .ok (.iinc 2 1, 3) := by decide +kernel
theorem dX1_isWord_54 : decode cX1_isWord 54 = .ok (.goto (-31), 3) := by decide +kernel
theorem dX1_isWord_57 : decode cX1_isWord 57 = .ok (.iconst 1, 1) := by decide +kernel
theorem dX1_isWord_58 : decode cX1_isWord 58 = .ok (.ireturn, 1) := by decide +kernel
set_option maxHeartbeats 4000000 in
set_option maxRecDepth 100000 in
theorem c_X1_isWord (G : KG) (l : Launch) (M : Mem) (c0 : Int) (i1 : Nat) (hI_M : Inv false M) (hk_c0 : kd c0 = 17) (hpre : i1 < 12) : KC false G l yX1_isWord cX1_isWord 3 (some .boolean) (4, 85) [vR G c0, vT G i1] M (fun A => kQi false G A (fun (r : Int) (N : Mem) => M = N ∧ (0 ≤ r ∧ r ≤ 1))) := by
  refine kx_met (lo := [some (vR G c0), some (vT G i1), none]) (by decide) (Nat.le_of_ble_eq_true rfl) rfl ?_
  intro X F hQ
  refine kx_aload_n 1 F 0 dX1_isWord_0 rfl rfl rfl ?_
  refine kx_geti 4 F fl_X1_61 hk_c0 rfl rfl (j := 6) rfl dX1_isWord_1 (v := (M c0 6)) rfl rfl ?_
  have h_1 := Inv.g hI_M hk_c0 rfl 6 (a := 0) (b := 5) rfl rfl
  refine kx_iconst 5 F dX1_isWord_4 rfl ?_
  refine kx_icmp_ne 8 F 19 dX1_isWord_5 (by decide) rfl (by omega) (by decide) (fun h_2 => ?_) (fun h_2 => ?_)
  · refine kx_iconst 20 F dX1_isWord_19 rfl ?_
    exact kx_zret F hQ (by omega) ⟨rfl, (by omega)⟩ dX1_isWord_20
  · refine kx_aload_n 9 F 0 dX1_isWord_8 rfl rfl rfl ?_
    refine kx_geti 12 F fl_X1_54 hk_c0 rfl rfl (j := 8) rfl dX1_isWord_9 (v := (M c0 8)) rfl rfl ?_
    have h_3 := Inv.g hI_M hk_c0 rfl 8 (a := 0) (b := 900) rfl rfl
    refine kx_aload_n 13 F 1 dX1_isWord_12 rfl rfl rfl ?_
    refine kx_VSi 16 F (As := []) (st := [vI (M c0 8)]) (by omega) vd_X1_192 (c_slength_f G l M i1 hI_M (by omega)) rfl ⟨by decide, by decide⟩ rfl rfl (Nat.le_of_ble_eq_true rfl) dX1_isWord_13 rfl ?_
    intro r_4 N_5 q_6
    obtain ⟨rfl, q_6c⟩ := q_6
    have h_7 := slen_rng i1
    refine kx_icmp_eq 19 F 21 dX1_isWord_16 (by decide) rfl (by omega) (by omega) (fun h_8 => ?_) (fun h_8 => ?_)
    · refine kx_iconst 22 F dX1_isWord_21 rfl ?_
      refine kx_istore_n 23 F 2 (lo' := [some (vR G c0), some (vT G i1), some (vI 0)]) dX1_isWord_22 rfl (by decide) rfl rfl rfl ?_
      have L_80 : ∀ (n_81 : Nat) (x2_79 : Int), 0 ≤ x2_79 ∧ x2_79 ≤ 67 → (67 - (x2_79)).toNat = n_81 → KJ false G X M 23 [some (vR G c0), some (vT G i1), some (vI x2_79)] [] := by
        intro n_81
        refine Nat.strongRecOn n_81 ?_
        intro n_81 ih_82 x2_79 h_83 hm_84
        refine kx_iload_n 24 F 2 dX1_isWord_23 rfl rfl rfl ?_
        refine kx_aload_n 25 F 0 dX1_isWord_24 rfl rfl rfl ?_
        refine kx_geti 28 F fl_X1_54 hk_c0 rfl rfl (j := 8) rfl dX1_isWord_25 (v := (M c0 8)) rfl rfl ?_
        refine kx_icmp_ge 31 F 57 dX1_isWord_28 (by decide) rfl (by omega) (by omega) (fun h_85 => ?_) (fun h_85 => ?_)
        · refine kx_iconst 58 F dX1_isWord_57 rfl ?_
          exact kx_zret F hQ (by omega) ⟨rfl, (by omega)⟩ dX1_isWord_58
        · refine kx_aload_n 32 F 0 dX1_isWord_31 rfl rfl rfl ?_
          refine kx_aload_n 33 F 0 dX1_isWord_32 rfl rfl rfl ?_
          refine kx_geti 36 F fl_X1_51 hk_c0 rfl rfl (j := 7) rfl dX1_isWord_33 (v := (M c0 7)) rfl rfl ?_
          have h_86 := Inv.g hI_M hk_c0 rfl 7 (a := 0) (b := 900) rfl rfl
          refine kx_iload_n 37 F 2 dX1_isWord_36 rfl rfl rfl ?_
          refine kx_iadd 38 F (v := (M c0 7) + x2_79) dX1_isWord_37 rfl rfl ?_
          refine kx_Vi 41 (ci := 0) F (As := [vI ((M c0 7) + x2_79)]) (st := []) vd_X1_196 (c_X1_byteAt G l M c0 ((M c0 7) + x2_79) hI_M hk_c0 (by omega)) hk_c0 rfl rfl rfl ⟨by decide, by decide⟩ rfl rfl (Nat.le_of_ble_eq_true rfl) dX1_isWord_38 rfl ?_
          intro r_87 N_88 q_89
          obtain ⟨rfl, q_89c⟩ := q_89
          refine kx_aload_n 42 F 1 dX1_isWord_41 rfl rfl rfl ?_
          refine kx_iload_n 43 F 2 dX1_isWord_42 rfl rfl rfl ?_
          refine kx_VSi 46 F (As := [vI x2_79]) (st := [vI r_87]) (by omega) vd_X1_199 (c_charAt_f G l M i1 x2_79 hI_M (by omega)) rfl ⟨by decide, by decide⟩ rfl rfl (Nat.le_of_ble_eq_true rfl) dX1_isWord_43 rfl ?_
          intro r_90 N_91 q_92
          obtain ⟨rfl, q_92c⟩ := q_92
          refine kx_icmp_eq 49 F 51 dX1_isWord_46 (by decide) rfl (by omega) (by omega) (fun h_93 => ?_) (fun h_93 => ?_)
          · refine kx_iinc 54 F 2 (v := x2_79 + 1) (lo' := [some (vR G c0), some (vT G i1), some (vI (x2_79 + 1))]) dX1_isWord_51 rfl (by omega) (by decide) rfl rfl rfl ?_
            refine kx_goto 23 F dX1_isWord_54 (by decide) ?_
            exact ih_82 _ (by omega) (x2_79 + 1) (by omega) rfl
          · refine kx_iconst 50 F dX1_isWord_49 rfl ?_
            exact kx_zret F hQ (by omega) ⟨rfl, (by omega)⟩ dX1_isWord_50
      exact L_80 _ 0 (by omega) rfl
    · refine kx_iconst 20 F dX1_isWord_19 rfl ?_
      exact kx_zret F hQ (by omega) ⟨rfl, (by omega)⟩ dX1_isWord_20
theorem dX1_isKeyword_0 : decode cX1_isKeyword 0 = .ok (.aload_n 0, 1) := by decide +kernel
theorem dX1_isKeyword_1 : decode cX1_isKeyword 1 = .ok (.ldc 67, 2) := by decide +kernel
theorem dX1_isKeyword_3 : decode cX1_isKeyword 3 = .ok (.invokevirtual 69, 3) := by decide +kernel
theorem dX1_isKeyword_6 : decode cX1_isKeyword 6 = .ok (.ifCond .ne 93, 3) := by decide +kernel
theorem dX1_isKeyword_9 : decode cX1_isKeyword 9 = .ok (.aload_n 0, 1) := by decide +kernel
theorem dX1_isKeyword_10 : decode cX1_isKeyword 10 = .ok (.ldc 77, 2) := by decide +kernel
theorem dX1_isKeyword_12 : decode cX1_isKeyword 12 = .ok (.invokevirtual 69, 3) := by decide +kernel
theorem dX1_isKeyword_15 : decode cX1_isKeyword 15 = .ok (.ifCond .ne 84, 3) := by decide +kernel
theorem dX1_isKeyword_18 : decode cX1_isKeyword 18 = .ok (.aload_n 0, 1) := by decide +kernel
theorem dX1_isKeyword_19 : decode cX1_isKeyword 19 = .ok (.ldc 79, 2) := by decide +kernel
theorem dX1_isKeyword_21 : decode cX1_isKeyword 21 = .ok (.invokevirtual 69, 3) := by decide +kernel
theorem dX1_isKeyword_24 : decode cX1_isKeyword 24 = .ok (.ifCond .ne 75, 3) := by decide +kernel
theorem dX1_isKeyword_27 : decode cX1_isKeyword 27 = .ok (.aload_n 0, 1) := by decide +kernel
theorem dX1_isKeyword_28 : decode cX1_isKeyword 28 = .ok (.ldc 81, 2) := by decide +kernel
theorem dX1_isKeyword_30 : decode cX1_isKeyword 30 = .ok (.invokevirtual 69, 3) := by decide +kernel
theorem dX1_isKeyword_33 : decode cX1_isKeyword 33 = .ok (.ifCond .ne 66, 3) := by decide +kernel
theorem dX1_isKeyword_36 : decode cX1_isKeyword 36 = .ok (.aload_n 0, 1) := by decide +kernel
theorem dX1_isKeyword_37 : decode cX1_isKeyword 37 = .ok (.ldc 130, 2) := by decide +kernel
theorem dX1_isKeyword_39 : decode cX1_isKeyword 39 = .ok (.invokevirtual 69, 3) := by decide +kernel
theorem dX1_isKeyword_42 : decode cX1_isKeyword 42 = .ok (.ifCond .ne 57, 3) := by decide +kernel
theorem dX1_isKeyword_45 : decode cX1_isKeyword 45 = .ok (.aload_n 0, 1) := by decide +kernel
theorem dX1_isKeyword_46 : decode cX1_isKeyword 46 = .ok (.ldc 92, 2) := by decide +kernel
theorem dX1_isKeyword_48 : decode cX1_isKeyword 48 = .ok (.invokevirtual 69, 3) := by decide +kernel
theorem dX1_isKeyword_51 : decode cX1_isKeyword 51 = .ok (.ifCond .ne 48, 3) := by decide +kernel
theorem dX1_isKeyword_54 : decode cX1_isKeyword 54 = .ok (.aload_n 0, 1) := by decide +kernel
theorem dX1_isKeyword_55 : decode cX1_isKeyword 55 = .ok (.ldc 98, 2) := by decide +kernel
theorem dX1_isKeyword_57 : decode cX1_isKeyword 57 = .ok (.invokevirtual 69, 3) := by decide +kernel
theorem dX1_isKeyword_60 : decode cX1_isKeyword 60 = .ok (.ifCond .ne 39, 3) := by decide +kernel
theorem dX1_isKeyword_63 : decode cX1_isKeyword 63 = .ok (.aload_n 0, 1) := by decide +kernel
theorem dX1_isKeyword_64 : decode cX1_isKeyword 64 = .ok (.ldc 100, 2) := by decide +kernel
theorem dX1_isKeyword_66 : decode cX1_isKeyword 66 = .ok (.invokevirtual 69, 3) := by decide +kernel
theorem dX1_isKeyword_69 : decode cX1_isKeyword 69 = .ok (.ifCond .ne 30, 3) := by decide +kernel
theorem dX1_isKeyword_72 : decode cX1_isKeyword 72 = .ok (.aload_n 0, 1) := by decide +kernel
theorem dX1_isKeyword_73 : decode cX1_isKeyword 73 = .ok (.ldc 175, 2) := by decide +kernel
theorem dX1_isKeyword_75 : decode cX1_isKeyword 75 = .ok (.invokevirtual 69, 3) := by decide +kernel
theorem dX1_isKeyword_78 : decode cX1_isKeyword 78 = .ok (.ifCond .ne 21, 3) := by decide +kernel
theorem dX1_isKeyword_81 : decode cX1_isKeyword 81 = .ok (.aload_n 0, 1) := by decide +kernel
theorem dX1_isKeyword_82 : decode cX1_isKeyword 82 = .ok (.ldc 177, 2) := by decide +kernel
theorem dX1_isKeyword_84 : decode cX1_isKeyword 84 = .ok (.invokevirtual 69, 3) := by decide +kernel
theorem dX1_isKeyword_87 : decode cX1_isKeyword 87 = .ok (.ifCond .ne 12, 3) := by decide +kernel
theorem dX1_isKeyword_90 : decode cX1_isKeyword 90 = .ok (.aload_n 0, 1) := by decide +kernel
theorem dX1_isKeyword_91 : decode cX1_isKeyword 91 = .ok (.ldc 173, 2) := by decide +kernel
theorem dX1_isKeyword_93 : decode cX1_isKeyword 93 = .ok (.invokevirtual 69, 3) := by decide +kernel
theorem dX1_isKeyword_96 : decode cX1_isKeyword 96 = .ok (.ifCond .eq 7, 3) := by decide +kernel
theorem dX1_isKeyword_99 : decode cX1_isKeyword 99 = .ok (.iconst 1, 1) := by decide +kernel
theorem dX1_isKeyword_100 : decode cX1_isKeyword 100 = .ok (.goto 4, 3) := by decide +kernel
theorem dX1_isKeyword_103 : decode cX1_isKeyword 103 = .ok (.iconst 0, 1) := by decide +kernel
theorem dX1_isKeyword_104 : decode cX1_isKeyword 104 = .ok (.ireturn, 1) := by decide +kernel
set_option maxHeartbeats 4000000 in
set_option maxRecDepth 100000 in
theorem c_X1_isKeyword (G : KG) (l : Launch) (M : Mem) (c0 : Int) (hI_M : Inv false M) (hk_c0 : kd c0 = 17) : KC false G l yX1_isKeyword cX1_isKeyword 1 (some .boolean) (5, 107) [vR G c0] M (fun A => kQi false G A (fun (r : Int) (N : Mem) => M = N ∧ (0 ≤ r ∧ r ≤ 1))) := by
  refine kx_met (lo := [some (vR G c0)]) (by decide) (Nat.le_of_ble_eq_true rfl) rfl ?_
  intro X F hQ
  refine kx_aload_n 1 F 0 dX1_isKeyword_0 rfl rfl rfl ?_
  refine kx_ldcS 3 F 0 (by decide) rfl rfl dX1_isKeyword_1 rfl ?_
  refine kx_Vi 6 (ci := 0) F (As := [vT G 0]) (st := []) vd_X1_69 (c_X1_isWord G l M c0 0 hI_M hk_c0 (by omega)) hk_c0 rfl rfl rfl ⟨by decide, by decide⟩ rfl rfl (Nat.le_of_ble_eq_true rfl) dX1_isKeyword_3 rfl ?_
  intro r_1 N_2 q_3
  obtain ⟨rfl, q_3c⟩ := q_3
  refine kx_if_ne 9 F 99 dX1_isKeyword_6 (by decide) rfl (by omega) (fun h_4 => ?_) (fun h_4 => ?_)
  · refine kx_iconst 100 F dX1_isKeyword_99 rfl ?_
    refine kx_goto 104 F dX1_isKeyword_100 (by decide) ?_
    exact kx_zret F hQ (by omega) ⟨rfl, (by omega)⟩ dX1_isKeyword_104
  · refine kx_aload_n 10 F 0 dX1_isKeyword_9 rfl rfl rfl ?_
    refine kx_ldcS 12 F 1 (by decide) rfl rfl dX1_isKeyword_10 rfl ?_
    refine kx_Vi 15 (ci := 0) F (As := [vT G 1]) (st := []) vd_X1_69 (c_X1_isWord G l M c0 1 hI_M hk_c0 (by omega)) hk_c0 rfl rfl rfl ⟨by decide, by decide⟩ rfl rfl (Nat.le_of_ble_eq_true rfl) dX1_isKeyword_12 rfl ?_
    intro r_5 N_6 q_7
    obtain ⟨rfl, q_7c⟩ := q_7
    refine kx_if_ne 18 F 99 dX1_isKeyword_15 (by decide) rfl (by omega) (fun h_8 => ?_) (fun h_8 => ?_)
    · refine kx_iconst 100 F dX1_isKeyword_99 rfl ?_
      refine kx_goto 104 F dX1_isKeyword_100 (by decide) ?_
      exact kx_zret F hQ (by omega) ⟨rfl, (by omega)⟩ dX1_isKeyword_104
    · refine kx_aload_n 19 F 0 dX1_isKeyword_18 rfl rfl rfl ?_
      refine kx_ldcS 21 F 2 (by decide) rfl rfl dX1_isKeyword_19 rfl ?_
      refine kx_Vi 24 (ci := 0) F (As := [vT G 2]) (st := []) vd_X1_69 (c_X1_isWord G l M c0 2 hI_M hk_c0 (by omega)) hk_c0 rfl rfl rfl ⟨by decide, by decide⟩ rfl rfl (Nat.le_of_ble_eq_true rfl) dX1_isKeyword_21 rfl ?_
      intro r_9 N_10 q_11
      obtain ⟨rfl, q_11c⟩ := q_11
      refine kx_if_ne 27 F 99 dX1_isKeyword_24 (by decide) rfl (by omega) (fun h_12 => ?_) (fun h_12 => ?_)
      · refine kx_iconst 100 F dX1_isKeyword_99 rfl ?_
        refine kx_goto 104 F dX1_isKeyword_100 (by decide) ?_
        exact kx_zret F hQ (by omega) ⟨rfl, (by omega)⟩ dX1_isKeyword_104
      · refine kx_aload_n 28 F 0 dX1_isKeyword_27 rfl rfl rfl ?_
        refine kx_ldcS 30 F 3 (by decide) rfl rfl dX1_isKeyword_28 rfl ?_
        refine kx_Vi 33 (ci := 0) F (As := [vT G 3]) (st := []) vd_X1_69 (c_X1_isWord G l M c0 3 hI_M hk_c0 (by omega)) hk_c0 rfl rfl rfl ⟨by decide, by decide⟩ rfl rfl (Nat.le_of_ble_eq_true rfl) dX1_isKeyword_30 rfl ?_
        intro r_13 N_14 q_15
        obtain ⟨rfl, q_15c⟩ := q_15
        refine kx_if_ne 36 F 99 dX1_isKeyword_33 (by decide) rfl (by omega) (fun h_16 => ?_) (fun h_16 => ?_)
        · refine kx_iconst 100 F dX1_isKeyword_99 rfl ?_
          refine kx_goto 104 F dX1_isKeyword_100 (by decide) ?_
          exact kx_zret F hQ (by omega) ⟨rfl, (by omega)⟩ dX1_isKeyword_104
        · refine kx_aload_n 37 F 0 dX1_isKeyword_36 rfl rfl rfl ?_
          refine kx_ldcS 39 F 4 (by decide) rfl rfl dX1_isKeyword_37 rfl ?_
          refine kx_Vi 42 (ci := 0) F (As := [vT G 4]) (st := []) vd_X1_69 (c_X1_isWord G l M c0 4 hI_M hk_c0 (by omega)) hk_c0 rfl rfl rfl ⟨by decide, by decide⟩ rfl rfl (Nat.le_of_ble_eq_true rfl) dX1_isKeyword_39 rfl ?_
          intro r_17 N_18 q_19
          obtain ⟨rfl, q_19c⟩ := q_19
          refine kx_if_ne 45 F 99 dX1_isKeyword_42 (by decide) rfl (by omega) (fun h_20 => ?_) (fun h_20 => ?_)
          · refine kx_iconst 100 F dX1_isKeyword_99 rfl ?_
            refine kx_goto 104 F dX1_isKeyword_100 (by decide) ?_
            exact kx_zret F hQ (by omega) ⟨rfl, (by omega)⟩ dX1_isKeyword_104
          · refine kx_aload_n 46 F 0 dX1_isKeyword_45 rfl rfl rfl ?_
            refine kx_ldcS 48 F 5 (by decide) rfl rfl dX1_isKeyword_46 rfl ?_
            refine kx_Vi 51 (ci := 0) F (As := [vT G 5]) (st := []) vd_X1_69 (c_X1_isWord G l M c0 5 hI_M hk_c0 (by omega)) hk_c0 rfl rfl rfl ⟨by decide, by decide⟩ rfl rfl (Nat.le_of_ble_eq_true rfl) dX1_isKeyword_48 rfl ?_
            intro r_21 N_22 q_23
            obtain ⟨rfl, q_23c⟩ := q_23
            refine kx_if_ne 54 F 99 dX1_isKeyword_51 (by decide) rfl (by omega) (fun h_24 => ?_) (fun h_24 => ?_)
            · refine kx_iconst 100 F dX1_isKeyword_99 rfl ?_
              refine kx_goto 104 F dX1_isKeyword_100 (by decide) ?_
              exact kx_zret F hQ (by omega) ⟨rfl, (by omega)⟩ dX1_isKeyword_104
            · refine kx_aload_n 55 F 0 dX1_isKeyword_54 rfl rfl rfl ?_
              refine kx_ldcS 57 F 6 (by decide) rfl rfl dX1_isKeyword_55 rfl ?_
              refine kx_Vi 60 (ci := 0) F (As := [vT G 6]) (st := []) vd_X1_69 (c_X1_isWord G l M c0 6 hI_M hk_c0 (by omega)) hk_c0 rfl rfl rfl ⟨by decide, by decide⟩ rfl rfl (Nat.le_of_ble_eq_true rfl) dX1_isKeyword_57 rfl ?_
              intro r_25 N_26 q_27
              obtain ⟨rfl, q_27c⟩ := q_27
              refine kx_if_ne 63 F 99 dX1_isKeyword_60 (by decide) rfl (by omega) (fun h_28 => ?_) (fun h_28 => ?_)
              · refine kx_iconst 100 F dX1_isKeyword_99 rfl ?_
                refine kx_goto 104 F dX1_isKeyword_100 (by decide) ?_
                exact kx_zret F hQ (by omega) ⟨rfl, (by omega)⟩ dX1_isKeyword_104
              · refine kx_aload_n 64 F 0 dX1_isKeyword_63 rfl rfl rfl ?_
                refine kx_ldcS 66 F 7 (by decide) rfl rfl dX1_isKeyword_64 rfl ?_
                refine kx_Vi 69 (ci := 0) F (As := [vT G 7]) (st := []) vd_X1_69 (c_X1_isWord G l M c0 7 hI_M hk_c0 (by omega)) hk_c0 rfl rfl rfl ⟨by decide, by decide⟩ rfl rfl (Nat.le_of_ble_eq_true rfl) dX1_isKeyword_66 rfl ?_
                intro r_29 N_30 q_31
                obtain ⟨rfl, q_31c⟩ := q_31
                refine kx_if_ne 72 F 99 dX1_isKeyword_69 (by decide) rfl (by omega) (fun h_32 => ?_) (fun h_32 => ?_)
                · refine kx_iconst 100 F dX1_isKeyword_99 rfl ?_
                  refine kx_goto 104 F dX1_isKeyword_100 (by decide) ?_
                  exact kx_zret F hQ (by omega) ⟨rfl, (by omega)⟩ dX1_isKeyword_104
                · refine kx_aload_n 73 F 0 dX1_isKeyword_72 rfl rfl rfl ?_
                  refine kx_ldcS 75 F 8 (by decide) rfl rfl dX1_isKeyword_73 rfl ?_
                  refine kx_Vi 78 (ci := 0) F (As := [vT G 8]) (st := []) vd_X1_69 (c_X1_isWord G l M c0 8 hI_M hk_c0 (by omega)) hk_c0 rfl rfl rfl ⟨by decide, by decide⟩ rfl rfl (Nat.le_of_ble_eq_true rfl) dX1_isKeyword_75 rfl ?_
                  intro r_33 N_34 q_35
                  obtain ⟨rfl, q_35c⟩ := q_35
                  refine kx_if_ne 81 F 99 dX1_isKeyword_78 (by decide) rfl (by omega) (fun h_36 => ?_) (fun h_36 => ?_)
                  · refine kx_iconst 100 F dX1_isKeyword_99 rfl ?_
                    refine kx_goto 104 F dX1_isKeyword_100 (by decide) ?_
                    exact kx_zret F hQ (by omega) ⟨rfl, (by omega)⟩ dX1_isKeyword_104
                  · refine kx_aload_n 82 F 0 dX1_isKeyword_81 rfl rfl rfl ?_
                    refine kx_ldcS 84 F 9 (by decide) rfl rfl dX1_isKeyword_82 rfl ?_
                    refine kx_Vi 87 (ci := 0) F (As := [vT G 9]) (st := []) vd_X1_69 (c_X1_isWord G l M c0 9 hI_M hk_c0 (by omega)) hk_c0 rfl rfl rfl ⟨by decide, by decide⟩ rfl rfl (Nat.le_of_ble_eq_true rfl) dX1_isKeyword_84 rfl ?_
                    intro r_37 N_38 q_39
                    obtain ⟨rfl, q_39c⟩ := q_39
                    refine kx_if_ne 90 F 99 dX1_isKeyword_87 (by decide) rfl (by omega) (fun h_40 => ?_) (fun h_40 => ?_)
                    · refine kx_iconst 100 F dX1_isKeyword_99 rfl ?_
                      refine kx_goto 104 F dX1_isKeyword_100 (by decide) ?_
                      exact kx_zret F hQ (by omega) ⟨rfl, (by omega)⟩ dX1_isKeyword_104
                    · refine kx_aload_n 91 F 0 dX1_isKeyword_90 rfl rfl rfl ?_
                      refine kx_ldcS 93 F 10 (by decide) rfl rfl dX1_isKeyword_91 rfl ?_
                      refine kx_Vi 96 (ci := 0) F (As := [vT G 10]) (st := []) vd_X1_69 (c_X1_isWord G l M c0 10 hI_M hk_c0 (by omega)) hk_c0 rfl rfl rfl ⟨by decide, by decide⟩ rfl rfl (Nat.le_of_ble_eq_true rfl) dX1_isKeyword_93 rfl ?_
                      intro r_41 N_42 q_43
                      obtain ⟨rfl, q_43c⟩ := q_43
                      refine kx_if_eq 99 F 103 dX1_isKeyword_96 (by decide) rfl (by omega) (fun h_44 => ?_) (fun h_44 => ?_)
                      · refine kx_iconst 104 F dX1_isKeyword_103 rfl ?_
                        exact kx_zret F hQ (by omega) ⟨rfl, (by omega)⟩ dX1_isKeyword_104
                      · refine kx_iconst 100 F dX1_isKeyword_99 rfl ?_
                        refine kx_goto 104 F dX1_isKeyword_100 (by decide) ?_
                        exact kx_zret F hQ (by omega) ⟨rfl, (by omega)⟩ dX1_isKeyword_104
theorem dX1_isNameAt_0 : decode cX1_isNameAt 0 = .ok (.iload_n 1, 1) := by decide +kernel
theorem dX1_isNameAt_1 : decode cX1_isNameAt 1 = .ok (.aload_n 0, 1) := by decide +kernel
theorem dX1_isNameAt_2 : decode cX1_isNameAt 2 = .ok (.getfield 33, 3) := by decide +kernel
theorem dX1_isNameAt_5 : decode cX1_isNameAt 5 = .ok (.arraylength, 1) := by decide +kernel
theorem dX1_isNameAt_6 : decode cX1_isNameAt 6 = .ok (.if_icmp .ge 16, 3) := by decide +kernel
theorem dX1_isNameAt_9 : decode cX1_isNameAt 9 = .ok (.aload_n 0, 1) := by decide +kernel
theorem dX1_isNameAt_10 : decode cX1_isNameAt 10 = .ok (.getfield 33, 3) := by decide +kernel
theorem dX1_isNameAt_13 : decode cX1_isNameAt 13 = .ok (.iload_n 1, 1) := by decide +kernel
theorem dX1_isNameAt_14 : decode cX1_isNameAt 14 = .ok (.iaload, 1) := by decide +kernel
theorem dX1_isNameAt_15 : decode cX1_isNameAt 15 = .ok (.aload_n 0, 1) := by decide +kernel
theorem dX1_isNameAt_16 : decode cX1_isNameAt 16 = .ok (.getfield 54, 3) := by decide +kernel
theorem dX1_isNameAt_19 : decode cX1_isNameAt 19 = .ok (.if_icmp .eq 5, 3) := by decide +kernel
theorem dX1_isNameAt_22 : decode cX1_isNameAt 22 = .ok (.iconst 0, 1) := by decide +kernel
theorem dX1_isNameAt_23 : decode cX1_isNameAt 23 = .ok (.ireturn, 1) := by decide +kernel
theorem dX1_isNameAt_24 : decode cX1_isNameAt 24 = .ok (.iconst 0, 1) := by decide +kernel
theorem dX1_isNameAt_25 : decode cX1_isNameAt 25 = .ok (.istore_n 2, 1) := by decide +kernel
theorem dX1_isNameAt_26 : decode cX1_isNameAt 26 = .ok (.iload_n 2, 1) := by decide +kernel
theorem dX1_isNameAt_27 : decode cX1_isNameAt 27 = .ok (.aload_n 0, 1) := by decide +kernel
theorem dX1_isNameAt_28 : decode cX1_isNameAt 28 = .ok (.getfield 54, 3) := by decide +kernel
theorem dX1_isNameAt_31 : decode cX1_isNameAt 31 = .ok (.if_icmp .ge 36, 3) := by decide +kernel
theorem dX1_isNameAt_34 : decode cX1_isNameAt 34 = .ok (.aload_n 0, 1) := by decide +kernel
theorem dX1_isNameAt_35 : decode cX1_isNameAt 35 = .ok (.aload_n 0, 1) := by decide +kernel
theorem dX1_isNameAt_36 : decode cX1_isNameAt 36 = .ok (.getfield 29, 3) := by decide +kernel
theorem dX1_isNameAt_39 : decode cX1_isNameAt 39 = .ok (.iload_n 1, 1) := by decide +kernel
theorem dX1_isNameAt_40 : decode cX1_isNameAt 40 = .ok (.iaload, 1) := by decide +kernel
theorem dX1_isNameAt_41 : decode cX1_isNameAt 41 = .ok (.iload_n 2, 1) := by decide +kernel
theorem dX1_isNameAt_42 : decode cX1_isNameAt 42 = .ok (.iadd, 1) := by decide +kernel
theorem dX1_isNameAt_43 : decode cX1_isNameAt 43 = .ok (.invokevirtual 196, 3) := by decide +kernel
theorem dX1_isNameAt_46 : decode cX1_isNameAt 46 = .ok (.aload_n 0, 1) := by decide +kernel
theorem dX1_isNameAt_47 : decode cX1_isNameAt 47 = .ok (.aload_n 0, 1) := by decide +kernel
theorem dX1_isNameAt_48 : decode cX1_isNameAt 48 = .ok (.getfield 51, 3) := by decide +kernel
theorem dX1_isNameAt_51 : decode cX1_isNameAt 51 = .ok (.iload_n 2, 1) := by decide +kernel
theorem dX1_isNameAt_52 : decode cX1_isNameAt 52 = .ok (.iadd, 1) := by decide +kernel
theorem dX1_isNameAt_53 : decode cX1_isNameAt 53 = .ok (.invokevirtual 196, 3) := by decide +kernel
theorem dX1_isNameAt_56 : decode cX1_isNameAt 56 = .ok (.if_icmp .eq 5, 3) := by decide +kernel
theorem dX1_isNameAt_59 : decode cX1_isNameAt 59 = .ok (.iconst 0, 1) := by decide +kernel
theorem dX1_isNameAt_60 : decode cX1_isNameAt 60 = .ok (.ireturn, 1) := by decide +kernel
theorem dX1_isNameAt_61 : decode cX1_isNameAt 61 = .ok (.iinc 2 1, 3) := by decide +kernel
theorem dX1_isNameAt_64 : decode cX1_isNameAt 64 = .ok (.goto (-38), 3) := by decide +kernel
theorem dX1_isNameAt_67 : decode cX1_isNameAt 67 = .ok (.iconst 1, 1) := by decide +kernel
theorem dX1_isNameAt_68 : decode cX1_isNameAt 68 = .ok (.ireturn, 1) := by decide +kernel
set_option maxHeartbeats 4000000 in
set_option maxRecDepth 100000 in
theorem c_X1_isNameAt (G : KG) (l : Launch) (M : Mem) (c0 : Int) (a1 : Int) (hI_M : Inv false M) (hk_c0 : kd c0 = 17) (hpre : -2147483648 ≤ a1 ∧ a1 ≤ 2147483647 ∧ 0 ≤ a1) : KC false G l yX1_isNameAt cX1_isNameAt 3 (some .boolean) (1, 21) [vR G c0, vI a1] M (fun A => kQi false G A (fun (r : Int) (N : Mem) => M = N ∧ (0 ≤ r ∧ r ≤ 1))) := by
  refine kx_met (lo := [some (vR G c0), some (vI a1), none]) (by decide) (Nat.le_of_ble_eq_true rfl) rfl ?_
  intro X F hQ
  refine kx_iload_n 1 F 1 dX1_isNameAt_0 rfl rfl rfl ?_
  refine kx_aload_n 2 F 0 dX1_isNameAt_1 rfl rfl rfl ?_
  refine kx_getr 5 F fl_X1_33 hk_c0 rfl rfl (j := 11) rfl dX1_isNameAt_2 (v := (M c0 11)) rfl rfl ?_
  have hk_1 : kd (M c0 11) = 20 := Inv.r hI_M hk_c0 rfl 11 rfl rfl
  refine kx_alen 6 F hk_1 rfl rfl (z := 6) (by decide) dX1_isNameAt_5 rfl ?_
  refine kx_icmp_ge 9 F 22 dX1_isNameAt_6 (by decide) rfl (by omega) (by decide) (fun h_2 => ?_) (fun h_2 => ?_)
  · refine kx_iconst 23 F dX1_isNameAt_22 rfl ?_
    exact kx_zret F hQ (by omega) ⟨rfl, (by omega)⟩ dX1_isNameAt_23
  · refine kx_aload_n 10 F 0 dX1_isNameAt_9 rfl rfl rfl ?_
    refine kx_getr 13 F fl_X1_33 hk_c0 rfl rfl (j := 11) rfl dX1_isNameAt_10 (v := (M c0 11)) rfl rfl ?_
    refine kx_iload_n 14 F 1 dX1_isNameAt_13 rfl rfl rfl ?_
    refine kx_iald 15 F hk_1 rfl rfl (by omega) (by decide) dX1_isNameAt_14 (v := (M (M c0 11) a1)) rfl rfl ?_
    have h_3 := Inv.g hI_M hk_1 rfl a1 (a := 0) (b := 900) rfl rfl
    refine kx_aload_n 16 F 0 dX1_isNameAt_15 rfl rfl rfl ?_
    refine kx_geti 19 F fl_X1_54 hk_c0 rfl rfl (j := 8) rfl dX1_isNameAt_16 (v := (M c0 8)) rfl rfl ?_
    have h_4 := Inv.g hI_M hk_c0 rfl 8 (a := 0) (b := 900) rfl rfl
    refine kx_icmp_eq 22 F 24 dX1_isNameAt_19 (by decide) rfl (by omega) (by omega) (fun h_5 => ?_) (fun h_5 => ?_)
    · refine kx_iconst 25 F dX1_isNameAt_24 rfl ?_
      refine kx_istore_n 26 F 2 (lo' := [some (vR G c0), some (vI a1), some (vI 0)]) dX1_isNameAt_25 rfl (by decide) rfl rfl rfl ?_
      have L_91 : ∀ (n_92 : Nat) (x2_90 : Int), 0 ≤ x2_90 ∧ x2_90 ≤ 900 → (900 - (x2_90)).toNat = n_92 → KJ false G X M 26 [some (vR G c0), some (vI a1), some (vI x2_90)] [] := by
        intro n_92
        refine Nat.strongRecOn n_92 ?_
        intro n_92 ih_93 x2_90 h_94 hm_95
        refine kx_iload_n 27 F 2 dX1_isNameAt_26 rfl rfl rfl ?_
        refine kx_aload_n 28 F 0 dX1_isNameAt_27 rfl rfl rfl ?_
        refine kx_geti 31 F fl_X1_54 hk_c0 rfl rfl (j := 8) rfl dX1_isNameAt_28 (v := (M c0 8)) rfl rfl ?_
        refine kx_icmp_ge 34 F 67 dX1_isNameAt_31 (by decide) rfl (by omega) (by omega) (fun h_96 => ?_) (fun h_96 => ?_)
        · refine kx_iconst 68 F dX1_isNameAt_67 rfl ?_
          exact kx_zret F hQ (by omega) ⟨rfl, (by omega)⟩ dX1_isNameAt_68
        · refine kx_aload_n 35 F 0 dX1_isNameAt_34 rfl rfl rfl ?_
          refine kx_aload_n 36 F 0 dX1_isNameAt_35 rfl rfl rfl ?_
          refine kx_getr 39 F fl_X1_29 hk_c0 rfl rfl (j := 10) rfl dX1_isNameAt_36 (v := (M c0 10)) rfl rfl ?_
          have hk_97 : kd (M c0 10) = 19 := Inv.r hI_M hk_c0 rfl 10 rfl rfl
          refine kx_iload_n 40 F 1 dX1_isNameAt_39 rfl rfl rfl ?_
          refine kx_iald 41 F hk_97 rfl rfl (by omega) (by decide) dX1_isNameAt_40 (v := (M (M c0 10) a1)) rfl rfl ?_
          have h_98 := Inv.g hI_M hk_97 rfl a1 (a := 0) (b := 900) rfl rfl
          refine kx_iload_n 42 F 2 dX1_isNameAt_41 rfl rfl rfl ?_
          refine kx_iadd 43 F (v := (M (M c0 10) a1) + x2_90) dX1_isNameAt_42 rfl rfl ?_
          refine kx_Vi 46 (ci := 0) F (As := [vI ((M (M c0 10) a1) + x2_90)]) (st := []) vd_X1_196 (c_X1_byteAt G l M c0 ((M (M c0 10) a1) + x2_90) hI_M hk_c0 (by omega)) hk_c0 rfl rfl rfl ⟨by decide, by decide⟩ rfl rfl (Nat.le_of_ble_eq_true rfl) dX1_isNameAt_43 rfl ?_
          intro r_99 N_100 q_101
          obtain ⟨rfl, q_101c⟩ := q_101
          refine kx_aload_n 47 F 0 dX1_isNameAt_46 rfl rfl rfl ?_
          refine kx_aload_n 48 F 0 dX1_isNameAt_47 rfl rfl rfl ?_
          refine kx_geti 51 F fl_X1_51 hk_c0 rfl rfl (j := 7) rfl dX1_isNameAt_48 (v := (M c0 7)) rfl rfl ?_
          have h_102 := Inv.g hI_M hk_c0 rfl 7 (a := 0) (b := 900) rfl rfl
          refine kx_iload_n 52 F 2 dX1_isNameAt_51 rfl rfl rfl ?_
          refine kx_iadd 53 F (v := (M c0 7) + x2_90) dX1_isNameAt_52 rfl rfl ?_
          refine kx_Vi 56 (ci := 0) F (As := [vI ((M c0 7) + x2_90)]) (st := [vI r_99]) vd_X1_196 (c_X1_byteAt G l M c0 ((M c0 7) + x2_90) hI_M hk_c0 (by omega)) hk_c0 rfl rfl rfl ⟨by decide, by decide⟩ rfl rfl (Nat.le_of_ble_eq_true rfl) dX1_isNameAt_53 rfl ?_
          intro r_103 N_104 q_105
          obtain ⟨rfl, q_105c⟩ := q_105
          refine kx_icmp_eq 59 F 61 dX1_isNameAt_56 (by decide) rfl (by omega) (by omega) (fun h_106 => ?_) (fun h_106 => ?_)
          · refine kx_iinc 64 F 2 (v := x2_90 + 1) (lo' := [some (vR G c0), some (vI a1), some (vI (x2_90 + 1))]) dX1_isNameAt_61 rfl (by omega) (by decide) rfl rfl rfl ?_
            refine kx_goto 26 F dX1_isNameAt_64 (by decide) ?_
            exact ih_93 _ (by omega) (x2_90 + 1) (by omega) rfl
          · refine kx_iconst 60 F dX1_isNameAt_59 rfl ?_
            exact kx_zret F hQ (by omega) ⟨rfl, (by omega)⟩ dX1_isNameAt_60
      exact L_91 _ 0 (by omega) rfl
    · refine kx_iconst 23 F dX1_isNameAt_22 rfl ?_
      exact kx_zret F hQ (by omega) ⟨rfl, (by omega)⟩ dX1_isNameAt_23
theorem dX1_findName_0 : decode cX1_findName 0 = .ok (.iconst 0, 1) := by decide +kernel
theorem dX1_findName_1 : decode cX1_findName 1 = .ok (.istore_n 1, 1) := by decide +kernel
theorem dX1_findName_2 : decode cX1_findName 2 = .ok (.iload_n 1, 1) := by decide +kernel
theorem dX1_findName_3 : decode cX1_findName 3 = .ok (.iconst 2, 1) := by decide +kernel
theorem dX1_findName_4 : decode cX1_findName 4 = .ok (.if_icmp .gt 52, 3) := by decide +kernel
theorem dX1_findName_7 : decode cX1_findName 7 = .ok (.iconst 0, 1) := by decide +kernel
theorem dX1_findName_8 : decode cX1_findName 8 = .ok (.istore_n 2, 1) := by decide +kernel
theorem dX1_findName_9 : decode cX1_findName 9 = .ok (.iload_n 2, 1) := by decide +kernel
theorem dX1_findName_10 : decode cX1_findName 10 = .ok (.aload_n 0, 1) := by decide +kernel
theorem dX1_findName_11 : decode cX1_findName 11 = .ok (.getfield 12, 3) := by decide +kernel
theorem dX1_findName_14 : decode cX1_findName 14 = .ok (.iload_n 1, 1) := by decide +kernel
theorem dX1_findName_15 : decode cX1_findName 15 = .ok (.invokevirtual 105, 3) := by decide +kernel
theorem dX1_findName_18 : decode cX1_findName 18 = .ok (.if_icmp .ge 32, 3) := by decide +kernel
theorem dX1_findName_21 : decode cX1_findName 21 = .ok (.aload_n 0, 1) := by decide +kernel
theorem dX1_findName_22 : decode cX1_findName 22 = .ok (.iload_n 1, 1) := by decide +kernel
theorem dX1_findName_23 : decode cX1_findName 23 = .ok (.iconst 2, 1) := by decide +kernel
theorem dX1_findName_24 : decode cX1_findName 24 = .ok (.imul, 1) := by decide +kernel
theorem dX1_findName_25 : decode cX1_findName 25 = .ok (.iload_n 2, 1) := by decide +kernel
theorem dX1_findName_26 : decode cX1_findName 26 = .ok (.iadd, 1) := by decide +kernel
theorem dX1_findName_27 : decode cX1_findName 27 = .ok (.invokevirtual 203, 3) := by decide +kernel
theorem dX1_findName_30 : decode cX1_findName 30 = .ok (.ifCond .eq 14, 3) := by decide +kernel
theorem dX1_findName_33 : decode cX1_findName 33 = .ok (.aload_n 0, 1) := by decide +kernel
theorem dX1_findName_34 : decode cX1_findName 34 = .ok (.getfield 12, 3) := by decide +kernel
theorem dX1_findName_37 : decode cX1_findName 37 = .ok (.iload_n 1, 1) := by decide +kernel
theorem dX1_findName_38 : decode cX1_findName 38 = .ok (.invokevirtual 206, 3) := by decide +kernel
theorem dX1_findName_41 : decode cX1_findName 41 = .ok (.iload_n 2, 1) := by decide +kernel
theorem dX1_findName_42 : decode cX1_findName 42 = .ok (.iadd, 1) := by decide +kernel
theorem dX1_findName_43 : decode cX1_findName 43 = .ok (.ireturn, 1) := by decide +kernel
theorem dX1_findName_44 : decode cX1_findName 44 = .ok (.iinc 2 1, 3) := by decide +kernel
theorem dX1_findName_47 : decode cX1_findName 47 = .ok (.goto (-38), 3) := by decide +kernel
theorem dX1_findName_50 : decode cX1_findName 50 = .ok (.iinc 1 1, 3) := by decide +kernel
theorem dX1_findName_53 : decode cX1_findName 53 = .ok (.goto (-51), 3) := by decide +kernel
theorem dX1_findName_56 : decode cX1_findName 56 = .ok (.iconst (-1), 1) := by decide +kernel
theorem dX1_findName_57 : decode cX1_findName 57 = .ok (.ireturn, 1) := by decide +kernel
set_option maxHeartbeats 4000000 in
set_option maxRecDepth 100000 in
theorem c_X1_findName (G : KG) (l : Launch) (M : Mem) (c0 : Int) (hI_M : Inv false M) (hk_c0 : kd c0 = 17) : KC false G l yX1_findName cX1_findName 3 (some .int) (2, 43) [vR G c0] M (fun A => kQi false G A (fun (r : Int) (N : Mem) => M = N ∧ (r ≥ -1 ∧ r ≤ 5))) := by
  refine kx_met (lo := [some (vR G c0), none, none]) (by decide) (Nat.le_of_ble_eq_true rfl) rfl ?_
  intro X F hQ
  refine kx_iconst 1 F dX1_findName_0 rfl ?_
  refine kx_istore_n 2 F 1 (lo' := [some (vR G c0), some (vI 0), none]) dX1_findName_1 rfl (by decide) rfl rfl rfl ?_
  have L_844 : ∀ (n_845 : Nat) (x1_843 : Int), 0 ≤ x1_843 ∧ x1_843 ≤ 3 → (3 - (x1_843)).toNat = n_845 → KJ false G X M 2 [some (vR G c0), some (vI x1_843), none] [] := by
    intro n_845
    refine Nat.strongRecOn n_845 ?_
    intro n_845 ih_846 x1_843 h_847 hm_848
    refine kx_iload_n 3 F 1 dX1_findName_2 rfl rfl rfl ?_
    refine kx_iconst 4 F dX1_findName_3 rfl ?_
    refine kx_icmp_gt 7 F 56 dX1_findName_4 (by decide) rfl (by omega) (by decide) (fun h_849 => ?_) (fun h_849 => ?_)
    · refine kx_iconst 57 F dX1_findName_56 rfl ?_
      exact kx_iret F hQ ⟨rfl, (by omega)⟩ dX1_findName_57
    · refine kx_iconst 8 F dX1_findName_7 rfl ?_
      refine kx_istore_n 9 F 2 (lo' := [some (vR G c0), some (vI x1_843), some (vI 0)]) dX1_findName_8 rfl (by decide) rfl rfl rfl ?_
      have L_1103 : ∀ (n_1104 : Nat) (x2_1102 : Int), 0 ≤ x2_1102 ∧ x2_1102 ≤ 6 → (6 - (x2_1102)).toNat = n_1104 → KJ false G X M 9 [some (vR G c0), some (vI x1_843), some (vI x2_1102)] [] := by
        intro n_1104
        refine Nat.strongRecOn n_1104 ?_
        intro n_1104 ih_1105 x2_1102 h_1106 hm_1107
        refine kx_iload_n 10 F 2 dX1_findName_9 rfl rfl rfl ?_
        refine kx_aload_n 11 F 0 dX1_findName_10 rfl rfl rfl ?_
        refine kx_getr 14 F fl_X1_12 hk_c0 rfl rfl (j := 0) rfl dX1_findName_11 (v := (M c0 0)) rfl rfl ?_
        have hk_1108 : kd (M c0 0) = 12 := Inv.r hI_M hk_c0 rfl 0 rfl rfl
        refine kx_iload_n 15 F 1 dX1_findName_14 rfl rfl rfl ?_
        refine kx_Vi 18 (ci := 0) F (As := [vI x1_843]) (st := [vI x2_1102]) vd_X1_105 (c_X5_manyOf G l M (M c0 0) x1_843 hI_M hk_1108 (by omega)) hk_1108 rfl rfl rfl ⟨by decide, by decide⟩ rfl rfl (Nat.le_of_ble_eq_true rfl) dX1_findName_15 rfl ?_
        intro r_1109 N_1110 q_1111
        obtain ⟨rfl, q_1111c⟩ := q_1111
        have h_1112 := Inv.g hI_M hk_1108 rfl 0 (a := 0) (b := 2) rfl rfl
        have h_1113 := Inv.g hI_M hk_1108 rfl 1 (a := 0) (b := 4) rfl rfl
        have h_1114 := Inv.g hI_M hk_1108 rfl 0 (a := 0) (b := 2) rfl rfl
        have h_1115 := Inv.g hI_M hk_1108 rfl 2 (a := 0) (b := 6) rfl rfl
        have h_1116 := Inv.g hI_M hk_1108 rfl 1 (a := 0) (b := 4) rfl rfl
        rcases q_1111c with q_1111c | q_1111c | q_1111c
        · refine kx_icmp_ge 21 F 50 dX1_findName_18 (by decide) rfl (by omega) (by omega) (fun h_1117 => ?_) (fun h_1117 => ?_)
          · refine kx_iinc 53 F 1 (v := x1_843 + 1) (lo' := [some (vR G c0), some (vI (x1_843 + 1)), some (vI x2_1102)]) dX1_findName_50 rfl (by omega) (by decide) rfl rfl rfl ?_
            refine kx_goto 2 F dX1_findName_53 (by decide) ?_
            refine kx_drop 2 (lo' := [some (vR G c0), some (vI (x1_843 + 1)), none]) rfl ?_
            exact ih_846 _ (by omega) (x1_843 + 1) (by omega) rfl
          · refine kx_aload_n 22 F 0 dX1_findName_21 rfl rfl rfl ?_
            refine kx_iload_n 23 F 1 dX1_findName_22 rfl rfl rfl ?_
            refine kx_iconst 24 F dX1_findName_23 rfl ?_
            refine kx_imul 25 F (v := 2 * x1_843) dX1_findName_24 (by omega) rfl ?_
            refine kx_iload_n 26 F 2 dX1_findName_25 rfl rfl rfl ?_
            refine kx_iadd 27 F (v := 2 * x1_843 + x2_1102) dX1_findName_26 rfl rfl ?_
            refine kx_Vi 30 (ci := 0) F (As := [vI (2 * x1_843 + x2_1102)]) (st := []) vd_X1_203 (c_X1_isNameAt G l M c0 (2 * x1_843 + x2_1102) hI_M hk_c0 (by omega)) hk_c0 rfl rfl rfl ⟨by decide, by decide⟩ rfl rfl (Nat.le_of_ble_eq_true rfl) dX1_findName_27 rfl ?_
            intro r_1118 N_1119 q_1120
            obtain ⟨rfl, q_1120c⟩ := q_1120
            refine kx_if_eq 33 F 44 dX1_findName_30 (by decide) rfl (by omega) (fun h_1121 => ?_) (fun h_1121 => ?_)
            · refine kx_iinc 47 F 2 (v := x2_1102 + 1) (lo' := [some (vR G c0), some (vI x1_843), some (vI (x2_1102 + 1))]) dX1_findName_44 rfl (by omega) (by decide) rfl rfl rfl ?_
              refine kx_goto 9 F dX1_findName_47 (by decide) ?_
              exact ih_1105 _ (by omega) (x2_1102 + 1) (by omega) rfl
            · refine kx_aload_n 34 F 0 dX1_findName_33 rfl rfl rfl ?_
              refine kx_getr 37 F fl_X1_12 hk_c0 rfl rfl (j := 0) rfl dX1_findName_34 (v := (M c0 0)) rfl rfl ?_
              refine kx_iload_n 38 F 1 dX1_findName_37 rfl rfl rfl ?_
              refine kx_Vi 41 (ci := 0) F (As := [vI x1_843]) (st := []) vd_X1_206 (c_X5_firstOf G l M (M c0 0) x1_843 hI_M hk_1108 (by omega)) hk_1108 rfl rfl rfl ⟨by decide, by decide⟩ rfl rfl (Nat.le_of_ble_eq_true rfl) dX1_findName_38 rfl ?_
              intro r_1122 N_1123 q_1124
              obtain ⟨rfl, q_1124c⟩ := q_1124
              have h_1125 := Inv.g hI_M hk_1108 rfl 1 (a := 0) (b := 4) rfl rfl
              rcases q_1124c with q_1124c | q_1124c | q_1124c
              · refine kx_iload_n 42 F 2 dX1_findName_41 rfl rfl rfl ?_
                refine kx_iadd 43 F (v := r_1122 + x2_1102) dX1_findName_42 rfl rfl ?_
                exact kx_iret F hQ ⟨rfl, (by omega)⟩ dX1_findName_43
              · exfalso; omega
              · exfalso; omega
        · refine kx_icmp_ge 21 F 50 dX1_findName_18 (by decide) rfl (by omega) (by omega) (fun h_1126 => ?_) (fun h_1126 => ?_)
          · refine kx_iinc 53 F 1 (v := x1_843 + 1) (lo' := [some (vR G c0), some (vI (x1_843 + 1)), some (vI x2_1102)]) dX1_findName_50 rfl (by omega) (by decide) rfl rfl rfl ?_
            refine kx_goto 2 F dX1_findName_53 (by decide) ?_
            refine kx_drop 2 (lo' := [some (vR G c0), some (vI (x1_843 + 1)), none]) rfl ?_
            exact ih_846 _ (by omega) (x1_843 + 1) (by omega) rfl
          · refine kx_aload_n 22 F 0 dX1_findName_21 rfl rfl rfl ?_
            refine kx_iload_n 23 F 1 dX1_findName_22 rfl rfl rfl ?_
            refine kx_iconst 24 F dX1_findName_23 rfl ?_
            refine kx_imul 25 F (v := 2 * x1_843) dX1_findName_24 (by omega) rfl ?_
            refine kx_iload_n 26 F 2 dX1_findName_25 rfl rfl rfl ?_
            refine kx_iadd 27 F (v := 2 * x1_843 + x2_1102) dX1_findName_26 rfl rfl ?_
            refine kx_Vi 30 (ci := 0) F (As := [vI (2 * x1_843 + x2_1102)]) (st := []) vd_X1_203 (c_X1_isNameAt G l M c0 (2 * x1_843 + x2_1102) hI_M hk_c0 (by omega)) hk_c0 rfl rfl rfl ⟨by decide, by decide⟩ rfl rfl (Nat.le_of_ble_eq_true rfl) dX1_findName_27 rfl ?_
            intro r_1127 N_1128 q_1129
            obtain ⟨rfl, q_1129c⟩ := q_1129
            refine kx_if_eq 33 F 44 dX1_findName_30 (by decide) rfl (by omega) (fun h_1130 => ?_) (fun h_1130 => ?_)
            · refine kx_iinc 47 F 2 (v := x2_1102 + 1) (lo' := [some (vR G c0), some (vI x1_843), some (vI (x2_1102 + 1))]) dX1_findName_44 rfl (by omega) (by decide) rfl rfl rfl ?_
              refine kx_goto 9 F dX1_findName_47 (by decide) ?_
              exact ih_1105 _ (by omega) (x2_1102 + 1) (by omega) rfl
            · refine kx_aload_n 34 F 0 dX1_findName_33 rfl rfl rfl ?_
              refine kx_getr 37 F fl_X1_12 hk_c0 rfl rfl (j := 0) rfl dX1_findName_34 (v := (M c0 0)) rfl rfl ?_
              refine kx_iload_n 38 F 1 dX1_findName_37 rfl rfl rfl ?_
              refine kx_Vi 41 (ci := 0) F (As := [vI x1_843]) (st := []) vd_X1_206 (c_X5_firstOf G l M (M c0 0) x1_843 hI_M hk_1108 (by omega)) hk_1108 rfl rfl rfl ⟨by decide, by decide⟩ rfl rfl (Nat.le_of_ble_eq_true rfl) dX1_findName_38 rfl ?_
              intro r_1131 N_1132 q_1133
              obtain ⟨rfl, q_1133c⟩ := q_1133
              rcases q_1133c with q_1133c | q_1133c | q_1133c
              · exfalso; omega
              · refine kx_iload_n 42 F 2 dX1_findName_41 rfl rfl rfl ?_
                refine kx_iadd 43 F (v := r_1131 + x2_1102) dX1_findName_42 rfl rfl ?_
                exact kx_iret F hQ ⟨rfl, (by omega)⟩ dX1_findName_43
              · exfalso; omega
        · refine kx_icmp_ge 21 F 50 dX1_findName_18 (by decide) rfl (by omega) (by omega) (fun h_1134 => ?_) (fun h_1134 => ?_)
          · refine kx_iinc 53 F 1 (v := x1_843 + 1) (lo' := [some (vR G c0), some (vI (x1_843 + 1)), some (vI x2_1102)]) dX1_findName_50 rfl (by omega) (by decide) rfl rfl rfl ?_
            refine kx_goto 2 F dX1_findName_53 (by decide) ?_
            refine kx_drop 2 (lo' := [some (vR G c0), some (vI (x1_843 + 1)), none]) rfl ?_
            exact ih_846 _ (by omega) (x1_843 + 1) (by omega) rfl
          · refine kx_aload_n 22 F 0 dX1_findName_21 rfl rfl rfl ?_
            refine kx_iload_n 23 F 1 dX1_findName_22 rfl rfl rfl ?_
            refine kx_iconst 24 F dX1_findName_23 rfl ?_
            refine kx_imul 25 F (v := 2 * x1_843) dX1_findName_24 (by omega) rfl ?_
            refine kx_iload_n 26 F 2 dX1_findName_25 rfl rfl rfl ?_
            refine kx_iadd 27 F (v := 2 * x1_843 + x2_1102) dX1_findName_26 rfl rfl ?_
            refine kx_Vi 30 (ci := 0) F (As := [vI (2 * x1_843 + x2_1102)]) (st := []) vd_X1_203 (c_X1_isNameAt G l M c0 (2 * x1_843 + x2_1102) hI_M hk_c0 (by omega)) hk_c0 rfl rfl rfl ⟨by decide, by decide⟩ rfl rfl (Nat.le_of_ble_eq_true rfl) dX1_findName_27 rfl ?_
            intro r_1135 N_1136 q_1137
            obtain ⟨rfl, q_1137c⟩ := q_1137
            refine kx_if_eq 33 F 44 dX1_findName_30 (by decide) rfl (by omega) (fun h_1138 => ?_) (fun h_1138 => ?_)
            · refine kx_iinc 47 F 2 (v := x2_1102 + 1) (lo' := [some (vR G c0), some (vI x1_843), some (vI (x2_1102 + 1))]) dX1_findName_44 rfl (by omega) (by decide) rfl rfl rfl ?_
              refine kx_goto 9 F dX1_findName_47 (by decide) ?_
              exact ih_1105 _ (by omega) (x2_1102 + 1) (by omega) rfl
            · refine kx_aload_n 34 F 0 dX1_findName_33 rfl rfl rfl ?_
              refine kx_getr 37 F fl_X1_12 hk_c0 rfl rfl (j := 0) rfl dX1_findName_34 (v := (M c0 0)) rfl rfl ?_
              refine kx_iload_n 38 F 1 dX1_findName_37 rfl rfl rfl ?_
              refine kx_Vi 41 (ci := 0) F (As := [vI x1_843]) (st := []) vd_X1_206 (c_X5_firstOf G l M (M c0 0) x1_843 hI_M hk_1108 (by omega)) hk_1108 rfl rfl rfl ⟨by decide, by decide⟩ rfl rfl (Nat.le_of_ble_eq_true rfl) dX1_findName_38 rfl ?_
              intro r_1139 N_1140 q_1141
              obtain ⟨rfl, q_1141c⟩ := q_1141
              have h_1142 := Inv.g hI_M hk_1108 rfl 0 (a := 0) (b := 2) rfl rfl
              rcases q_1141c with q_1141c | q_1141c | q_1141c
              · exfalso; omega
              · exfalso; omega
              · refine kx_iload_n 42 F 2 dX1_findName_41 rfl rfl rfl ?_
                refine kx_iadd 43 F (v := r_1139 + x2_1102) dX1_findName_42 rfl rfl ?_
                exact kx_iret F hQ ⟨rfl, (by omega)⟩ dX1_findName_43
      exact L_1103 _ 0 (by omega) rfl
  exact L_844 _ 0 (by omega) rfl
theorem dX1_latest_0 : decode cX1_latest 0 = .ok (.aload_n 0, 1) := by decide +kernel
theorem dX1_latest_1 : decode cX1_latest 1 = .ok (.getfield 12, 3) := by decide +kernel
theorem dX1_latest_4 : decode cX1_latest 4 = .ok (.aload_n 0, 1) := by decide +kernel
theorem dX1_latest_5 : decode cX1_latest 5 = .ok (.getfield 12, 3) := by decide +kernel
theorem dX1_latest_8 : decode cX1_latest 8 = .ok (.getfield 86, 3) := by decide +kernel
theorem dX1_latest_11 : decode cX1_latest 11 = .ok (.iconst 1, 1) := by decide +kernel
theorem dX1_latest_12 : decode cX1_latest 12 = .ok (.isub, 1) := by decide +kernel
theorem dX1_latest_13 : decode cX1_latest 13 = .ok (.invokevirtual 181, 3) := by decide +kernel
theorem dX1_latest_16 : decode cX1_latest 16 = .ok (.areturn, 1) := by decide +kernel
set_option maxHeartbeats 4000000 in
set_option maxRecDepth 100000 in
theorem c_X1_latest (G : KG) (l : Launch) (M : Mem) (c0 : Int) (hI_M : Inv false M) (hk_c0 : kd c0 = 17) : KC false G l yX1_latest cX1_latest 1 (some (.object "NestedChecker$Automaton")) (1, 21) [vR G c0] M (fun A => kQr false G A (fun (r : Int) (N : Mem) => M = N ∧ kd r = 1)) := by
  refine kx_met (lo := [some (vR G c0)]) (by decide) (Nat.le_of_ble_eq_true rfl) rfl ?_
  intro X F hQ
  refine kx_aload_n 1 F 0 dX1_latest_0 rfl rfl rfl ?_
  refine kx_getr 4 F fl_X1_12 hk_c0 rfl rfl (j := 0) rfl dX1_latest_1 (v := (M c0 0)) rfl rfl ?_
  have hk_1 : kd (M c0 0) = 12 := Inv.r hI_M hk_c0 rfl 0 rfl rfl
  refine kx_aload_n 5 F 0 dX1_latest_4 rfl rfl rfl ?_
  refine kx_getr 8 F fl_X1_12 hk_c0 rfl rfl (j := 0) rfl dX1_latest_5 (v := (M c0 0)) rfl rfl ?_
  refine kx_geti 11 F fl_X1_86 hk_1 rfl rfl (j := 3) rfl dX1_latest_8 (v := (M (M c0 0) 3)) rfl rfl ?_
  have h_2 := Inv.g hI_M hk_1 rfl 3 (a := 0) (b := 2) rfl rfl
  refine kx_iconst 12 F dX1_latest_11 rfl ?_
  refine kx_isub 13 F (v := (M (M c0 0) 3) - 1) dX1_latest_12 rfl rfl ?_
  refine kx_Vr 16 (ci := 0) F (As := [vI ((M (M c0 0) 3) - 1)]) (st := []) vd_X1_181 (c_X5_pick G l M (M c0 0) ((M (M c0 0) 3) - 1) hI_M hk_1 (by omega)) hk_1 rfl rfl rfl ⟨by decide, by decide⟩ rfl rfl (Nat.le_of_ble_eq_true rfl) dX1_latest_13 rfl ?_
  intro r_3 N_4 q_5
  obtain ⟨rfl, hk_6⟩ := q_5
  exact kx_aret F hQ ⟨rfl, hk_6⟩ dX1_latest_16
theorem dX1_standsSign_0 : decode cX1_standsSign 0 = .ok (.aload_n 0, 1) := by decide +kernel
theorem dX1_standsSign_1 : decode cX1_standsSign 1 = .ok (.getfield 61, 3) := by decide +kernel
theorem dX1_standsSign_4 : decode cX1_standsSign 4 = .ok (.iconst 3, 1) := by decide +kernel
theorem dX1_standsSign_5 : decode cX1_standsSign 5 = .ok (.if_icmp .eq 11, 3) := by decide +kernel
theorem dX1_standsSign_8 : decode cX1_standsSign 8 = .ok (.aload_n 0, 1) := by decide +kernel
theorem dX1_standsSign_9 : decode cX1_standsSign 9 = .ok (.iconst 2, 1) := by decide +kernel
theorem dX1_standsSign_10 : decode cX1_standsSign 10 = .ok (.invokevirtual 89, 3) := by decide +kernel
theorem dX1_standsSign_13 : decode cX1_standsSign 13 = .ok (.ifCond .eq 7, 3) := by decide +kernel
theorem dX1_standsSign_16 : decode cX1_standsSign 16 = .ok (.iconst 1, 1) := by decide +kernel
theorem dX1_standsSign_17 : decode cX1_standsSign 17 = .ok (.goto 4, 3) := by decide +kernel
theorem dX1_standsSign_20 : decode cX1_standsSign 20 = .ok (.iconst 0, 1) := by decide +kernel
theorem dX1_standsSign_21 : decode cX1_standsSign 21 = .ok (.ireturn, 1) := by decide +kernel
abbrev f_c_X1_standsSign : List (Nat × Int) := [(17, 2), (17, 3)]
set_option maxHeartbeats 4000000 in
set_option maxRecDepth 100000 in
theorem c_X1_standsSign (G : KG) (l : Launch) (M : Mem) (c0 : Int) (hI_M : Inv false M) (hk_c0 : kd c0 = 17) : KC false G l yX1_standsSign cX1_standsSign 1 (some .boolean) (1, 21) [vR G c0] M (fun A => kQi false G A (fun (r : Int) (N : Mem) => Inv false N ∧ Fr f_c_X1_standsSign M N ∧ (0 ≤ r ∧ r ≤ 1))) := by
  refine kx_met (lo := [some (vR G c0)]) (by decide) (Nat.le_of_ble_eq_true rfl) rfl ?_
  intro X F hQ
  have hF_M : Fr f_c_X1_standsSign M M := Fr.rf _ _
  refine kx_aload_n 1 F 0 dX1_standsSign_0 rfl rfl rfl ?_
  refine kx_geti 4 F fl_X1_61 hk_c0 rfl rfl (j := 6) rfl dX1_standsSign_1 (v := (M c0 6)) rfl rfl ?_
  have h_1 := Inv.g hI_M hk_c0 rfl 6 (a := 0) (b := 5) rfl rfl
  refine kx_iconst 5 F dX1_standsSign_4 rfl ?_
  refine kx_icmp_eq 8 F 16 dX1_standsSign_5 (by decide) rfl (by omega) (by decide) (fun h_2 => ?_) (fun h_2 => ?_)
  · refine kx_iconst 17 F dX1_standsSign_16 rfl ?_
    refine kx_goto 21 F dX1_standsSign_17 (by decide) ?_
    exact kx_zret F hQ (by omega) ⟨hI_M, hF_M, (by omega)⟩ dX1_standsSign_21
  · refine kx_aload_n 9 F 0 dX1_standsSign_8 rfl rfl rfl ?_
    refine kx_iconst 10 F dX1_standsSign_9 rfl ?_
    refine kx_Vi 13 (ci := 0) F (As := [vI 2]) (st := []) vd_X1_89 (c_X1_fail G l M c0 2 hI_M hk_c0 (by omega)) hk_c0 rfl rfl rfl ⟨by decide, by decide⟩ rfl rfl (Nat.le_of_ble_eq_true rfl) dX1_standsSign_10 rfl ?_
    intro r_3 N_4 q_5
    obtain ⟨hI_N_4, hG_N_4, q_5c⟩ := q_5
    have hF_N_4 : Fr f_c_X1_standsSign M N_4 := Fr.c hF_M hG_N_4 rfl
    subst q_5c
    refine kx_if_eq 16 F 20 dX1_standsSign_13 (by decide) rfl (by decide) (fun h_6 => ?_) (fun h_6 => ?_)
    · refine kx_iconst 21 F dX1_standsSign_20 rfl ?_
      exact kx_zret F hQ (by omega) ⟨hI_N_4, hF_N_4, (by omega)⟩ dX1_standsSign_21
    · refine kx_iconst 17 F dX1_standsSign_16 rfl ?_
      refine kx_goto 21 F dX1_standsSign_17 (by decide) ?_
      exact kx_zret F hQ (by omega) ⟨hI_N_4, hF_N_4, (by omega)⟩ dX1_standsSign_21
theorem dX1_standsWord_0 : decode cX1_standsWord 0 = .ok (.aload_n 0, 1) := by decide +kernel
theorem dX1_standsWord_1 : decode cX1_standsWord 1 = .ok (.aload_n 1, 1) := by decide +kernel
theorem dX1_standsWord_2 : decode cX1_standsWord 2 = .ok (.invokevirtual 69, 3) := by decide +kernel
theorem dX1_standsWord_5 : decode cX1_standsWord 5 = .ok (.ifCond .ne 11, 3) := by decide +kernel
theorem dX1_standsWord_8 : decode cX1_standsWord 8 = .ok (.aload_n 0, 1) := by decide +kernel
theorem dX1_standsWord_9 : decode cX1_standsWord 9 = .ok (.iconst 2, 1) := by decide +kernel
theorem dX1_standsWord_10 : decode cX1_standsWord 10 = .ok (.invokevirtual 89, 3) := by decide +kernel
theorem dX1_standsWord_13 : decode cX1_standsWord 13 = .ok (.ifCond .eq 7, 3) := by decide +kernel
theorem dX1_standsWord_16 : decode cX1_standsWord 16 = .ok (.iconst 1, 1) := by decide +kernel
theorem dX1_standsWord_17 : decode cX1_standsWord 17 = .ok (.goto 4, 3) := by decide +kernel
theorem dX1_standsWord_20 : decode cX1_standsWord 20 = .ok (.iconst 0, 1) := by decide +kernel
theorem dX1_standsWord_21 : decode cX1_standsWord 21 = .ok (.ireturn, 1) := by decide +kernel
abbrev f_c_X1_standsWord : List (Nat × Int) := [(17, 2), (17, 3)]
set_option maxHeartbeats 4000000 in
set_option maxRecDepth 100000 in
theorem c_X1_standsWord (G : KG) (l : Launch) (M : Mem) (c0 : Int) (i1 : Nat) (hI_M : Inv false M) (hk_c0 : kd c0 = 17) (hpre : i1 < 12) : KC false G l yX1_standsWord cX1_standsWord 2 (some .boolean) (5, 107) [vR G c0, vT G i1] M (fun A => kQi false G A (fun (r : Int) (N : Mem) => Inv false N ∧ Fr f_c_X1_standsWord M N ∧ (0 ≤ r ∧ r ≤ 1))) := by
  refine kx_met (lo := [some (vR G c0), some (vT G i1)]) (by decide) (Nat.le_of_ble_eq_true rfl) rfl ?_
  intro X F hQ
  have hF_M : Fr f_c_X1_standsWord M M := Fr.rf _ _
  refine kx_aload_n 1 F 0 dX1_standsWord_0 rfl rfl rfl ?_
  refine kx_aload_n 2 F 1 dX1_standsWord_1 rfl rfl rfl ?_
  refine kx_Vi 5 (ci := 0) F (As := [vT G i1]) (st := []) vd_X1_69 (c_X1_isWord G l M c0 i1 hI_M hk_c0 (by omega)) hk_c0 rfl rfl rfl ⟨by decide, by decide⟩ rfl rfl (Nat.le_of_ble_eq_true rfl) dX1_standsWord_2 rfl ?_
  intro r_1 N_2 q_3
  obtain ⟨rfl, q_3c⟩ := q_3
  refine kx_if_ne 8 F 16 dX1_standsWord_5 (by decide) rfl (by omega) (fun h_4 => ?_) (fun h_4 => ?_)
  · refine kx_iconst 17 F dX1_standsWord_16 rfl ?_
    refine kx_goto 21 F dX1_standsWord_17 (by decide) ?_
    exact kx_zret F hQ (by omega) ⟨hI_M, hF_M, (by omega)⟩ dX1_standsWord_21
  · refine kx_aload_n 9 F 0 dX1_standsWord_8 rfl rfl rfl ?_
    refine kx_iconst 10 F dX1_standsWord_9 rfl ?_
    refine kx_Vi 13 (ci := 0) F (As := [vI 2]) (st := []) vd_X1_89 (c_X1_fail G l M c0 2 hI_M hk_c0 (by omega)) hk_c0 rfl rfl rfl ⟨by decide, by decide⟩ rfl rfl (Nat.le_of_ble_eq_true rfl) dX1_standsWord_10 rfl ?_
    intro r_5 N_6 q_7
    obtain ⟨hI_N_6, hG_N_6, q_7c⟩ := q_7
    have hF_N_6 : Fr f_c_X1_standsWord M N_6 := Fr.c hF_M hG_N_6 rfl
    subst q_7c
    refine kx_if_eq 16 F 20 dX1_standsWord_13 (by decide) rfl (by decide) (fun h_8 => ?_) (fun h_8 => ?_)
    · refine kx_iconst 21 F dX1_standsWord_20 rfl ?_
      exact kx_zret F hQ (by omega) ⟨hI_N_6, hF_N_6, (by omega)⟩ dX1_standsWord_21
    · refine kx_iconst 17 F dX1_standsWord_16 rfl ?_
      refine kx_goto 21 F dX1_standsWord_17 (by decide) ?_
      exact kx_zret F hQ (by omega) ⟨hI_N_6, hF_N_6, (by omega)⟩ dX1_standsWord_21
theorem dX1_standsName_0 : decode cX1_standsName 0 = .ok (.aload_n 0, 1) := by decide +kernel
theorem dX1_standsName_1 : decode cX1_standsName 1 = .ok (.getfield 61, 3) := by decide +kernel
theorem dX1_standsName_4 : decode cX1_standsName 4 = .ok (.iconst 1, 1) := by decide +kernel
theorem dX1_standsName_5 : decode cX1_standsName 5 = .ok (.if_icmp .ne 19, 3) := by decide +kernel
theorem dX1_standsName_8 : decode cX1_standsName 8 = .ok (.aload_n 0, 1) := by decide +kernel
theorem dX1_standsName_9 : decode cX1_standsName 9 = .ok (.getfield 54, 3) := by decide +kernel
theorem dX1_standsName_12 : decode cX1_standsName 12 = .ok (.bipush 8, 2) := by decide +kernel
theorem dX1_standsName_14 : decode cX1_standsName 14 = .ok (.if_icmp .gt 10, 3) := by decide +kernel
theorem dX1_standsName_17 : decode cX1_standsName 17 = .ok (.aload_n 0, 1) := by decide +kernel
theorem dX1_standsName_18 : decode cX1_standsName 18 = .ok (.invokevirtual 185, 3) := by decide +kernel
theorem dX1_standsName_21 : decode cX1_standsName 21 = .ok (.ifCond .eq 11, 3) := by decide +kernel
theorem dX1_standsName_24 : decode cX1_standsName 24 = .ok (.aload_n 0, 1) := by decide +kernel
theorem dX1_standsName_25 : decode cX1_standsName 25 = .ok (.iconst 2, 1) := by decide +kernel
theorem dX1_standsName_26 : decode cX1_standsName 26 = .ok (.invokevirtual 89, 3) := by decide +kernel
theorem dX1_standsName_29 : decode cX1_standsName 29 = .ok (.ifCond .eq 7, 3) := by decide +kernel
theorem dX1_standsName_32 : decode cX1_standsName 32 = .ok (.iconst 1, 1) := by decide +kernel
theorem dX1_standsName_33 : decode cX1_standsName 33 = .ok (.goto 4, 3) := by decide +kernel
theorem dX1_standsName_36 : decode cX1_standsName 36 = .ok (.iconst 0, 1) := by decide +kernel
theorem dX1_standsName_37 : decode cX1_standsName 37 = .ok (.ireturn, 1) := by decide +kernel
abbrev f_c_X1_standsName : List (Nat × Int) := [(17, 2), (17, 3)]
set_option maxHeartbeats 4000000 in
set_option maxRecDepth 100000 in
theorem c_X1_standsName (G : KG) (l : Launch) (M : Mem) (c0 : Int) (hI_M : Inv false M) (hk_c0 : kd c0 = 17) : KC false G l yX1_standsName cX1_standsName 1 (some .boolean) (6, 127) [vR G c0] M (fun A => kQi false G A (fun (r : Int) (N : Mem) => Inv false N ∧ Fr f_c_X1_standsName M N ∧ (0 ≤ r ∧ r ≤ 1))) := by
  refine kx_met (lo := [some (vR G c0)]) (by decide) (Nat.le_of_ble_eq_true rfl) rfl ?_
  intro X F hQ
  have hF_M : Fr f_c_X1_standsName M M := Fr.rf _ _
  refine kx_aload_n 1 F 0 dX1_standsName_0 rfl rfl rfl ?_
  refine kx_geti 4 F fl_X1_61 hk_c0 rfl rfl (j := 6) rfl dX1_standsName_1 (v := (M c0 6)) rfl rfl ?_
  have h_1 := Inv.g hI_M hk_c0 rfl 6 (a := 0) (b := 5) rfl rfl
  refine kx_iconst 5 F dX1_standsName_4 rfl ?_
  refine kx_icmp_ne 8 F 24 dX1_standsName_5 (by decide) rfl (by omega) (by decide) (fun h_2 => ?_) (fun h_2 => ?_)
  · refine kx_aload_n 25 F 0 dX1_standsName_24 rfl rfl rfl ?_
    refine kx_iconst 26 F dX1_standsName_25 rfl ?_
    refine kx_Vi 29 (ci := 0) F (As := [vI 2]) (st := []) vd_X1_89 (c_X1_fail G l M c0 2 hI_M hk_c0 (by omega)) hk_c0 rfl rfl rfl ⟨by decide, by decide⟩ rfl rfl (Nat.le_of_ble_eq_true rfl) dX1_standsName_26 rfl ?_
    intro r_3 N_4 q_5
    obtain ⟨hI_N_4, hG_N_4, q_5c⟩ := q_5
    have hF_N_4 : Fr f_c_X1_standsName M N_4 := Fr.c hF_M hG_N_4 rfl
    subst q_5c
    refine kx_if_eq 32 F 36 dX1_standsName_29 (by decide) rfl (by decide) (fun h_6 => ?_) (fun h_6 => ?_)
    · refine kx_iconst 37 F dX1_standsName_36 rfl ?_
      exact kx_zret F hQ (by omega) ⟨hI_N_4, hF_N_4, (by omega)⟩ dX1_standsName_37
    · refine kx_iconst 33 F dX1_standsName_32 rfl ?_
      refine kx_goto 37 F dX1_standsName_33 (by decide) ?_
      exact kx_zret F hQ (by omega) ⟨hI_N_4, hF_N_4, (by omega)⟩ dX1_standsName_37
  · refine kx_aload_n 9 F 0 dX1_standsName_8 rfl rfl rfl ?_
    refine kx_geti 12 F fl_X1_54 hk_c0 rfl rfl (j := 8) rfl dX1_standsName_9 (v := (M c0 8)) rfl rfl ?_
    have h_7 := Inv.g hI_M hk_c0 rfl 8 (a := 0) (b := 900) rfl rfl
    refine kx_bipush 14 F dX1_standsName_12 (by decide) rfl ?_
    refine kx_icmp_gt 17 F 24 dX1_standsName_14 (by decide) rfl (by omega) (by decide) (fun h_8 => ?_) (fun h_8 => ?_)
    · refine kx_aload_n 25 F 0 dX1_standsName_24 rfl rfl rfl ?_
      refine kx_iconst 26 F dX1_standsName_25 rfl ?_
      refine kx_Vi 29 (ci := 0) F (As := [vI 2]) (st := []) vd_X1_89 (c_X1_fail G l M c0 2 hI_M hk_c0 (by omega)) hk_c0 rfl rfl rfl ⟨by decide, by decide⟩ rfl rfl (Nat.le_of_ble_eq_true rfl) dX1_standsName_26 rfl ?_
      intro r_9 N_10 q_11
      obtain ⟨hI_N_10, hG_N_10, q_11c⟩ := q_11
      have hF_N_10 : Fr f_c_X1_standsName M N_10 := Fr.c hF_M hG_N_10 rfl
      subst q_11c
      refine kx_if_eq 32 F 36 dX1_standsName_29 (by decide) rfl (by decide) (fun h_12 => ?_) (fun h_12 => ?_)
      · refine kx_iconst 37 F dX1_standsName_36 rfl ?_
        exact kx_zret F hQ (by omega) ⟨hI_N_10, hF_N_10, (by omega)⟩ dX1_standsName_37
      · refine kx_iconst 33 F dX1_standsName_32 rfl ?_
        refine kx_goto 37 F dX1_standsName_33 (by decide) ?_
        exact kx_zret F hQ (by omega) ⟨hI_N_10, hF_N_10, (by omega)⟩ dX1_standsName_37
    · refine kx_aload_n 18 F 0 dX1_standsName_17 rfl rfl rfl ?_
      refine kx_Vi 21 (ci := 0) F (As := []) (st := []) vd_X1_185 (c_X1_isKeyword G l M c0 hI_M hk_c0) hk_c0 rfl rfl rfl ⟨by decide, by decide⟩ rfl rfl (Nat.le_of_ble_eq_true rfl) dX1_standsName_18 rfl ?_
      intro r_13 N_14 q_15
      obtain ⟨rfl, q_15c⟩ := q_15
      refine kx_if_eq 24 F 32 dX1_standsName_21 (by decide) rfl (by omega) (fun h_16 => ?_) (fun h_16 => ?_)
      · refine kx_iconst 33 F dX1_standsName_32 rfl ?_
        refine kx_goto 37 F dX1_standsName_33 (by decide) ?_
        exact kx_zret F hQ (by omega) ⟨hI_M, hF_M, (by omega)⟩ dX1_standsName_37
      · refine kx_aload_n 25 F 0 dX1_standsName_24 rfl rfl rfl ?_
        refine kx_iconst 26 F dX1_standsName_25 rfl ?_
        refine kx_Vi 29 (ci := 0) F (As := [vI 2]) (st := []) vd_X1_89 (c_X1_fail G l M c0 2 hI_M hk_c0 (by omega)) hk_c0 rfl rfl rfl ⟨by decide, by decide⟩ rfl rfl (Nat.le_of_ble_eq_true rfl) dX1_standsName_26 rfl ?_
        intro r_17 N_18 q_19
        obtain ⟨hI_N_18, hG_N_18, q_19c⟩ := q_19
        have hF_N_18 : Fr f_c_X1_standsName M N_18 := Fr.c hF_M hG_N_18 rfl
        subst q_19c
        refine kx_if_eq 32 F 36 dX1_standsName_29 (by decide) rfl (by decide) (fun h_20 => ?_) (fun h_20 => ?_)
        · refine kx_iconst 37 F dX1_standsName_36 rfl ?_
          exact kx_zret F hQ (by omega) ⟨hI_N_18, hF_N_18, (by omega)⟩ dX1_standsName_37
        · refine kx_iconst 33 F dX1_standsName_32 rfl ?_
          refine kx_goto 37 F dX1_standsName_33 (by decide) ?_
          exact kx_zret F hQ (by omega) ⟨hI_N_18, hF_N_18, (by omega)⟩ dX1_standsName_37
theorem dX1_standsNumber_0 : decode cX1_standsNumber 0 = .ok (.aload_n 0, 1) := by decide +kernel
theorem dX1_standsNumber_1 : decode cX1_standsNumber 1 = .ok (.getfield 61, 3) := by decide +kernel
theorem dX1_standsNumber_4 : decode cX1_standsNumber 4 = .ok (.iconst 2, 1) := by decide +kernel
theorem dX1_standsNumber_5 : decode cX1_standsNumber 5 = .ok (.if_icmp .eq 9, 3) := by decide +kernel
theorem dX1_standsNumber_8 : decode cX1_standsNumber 8 = .ok (.aload_n 0, 1) := by decide +kernel
theorem dX1_standsNumber_9 : decode cX1_standsNumber 9 = .ok (.iconst 2, 1) := by decide +kernel
theorem dX1_standsNumber_10 : decode cX1_standsNumber 10 = .ok (.invokevirtual 89, 3) := by decide +kernel
theorem dX1_standsNumber_13 : decode cX1_standsNumber 13 = .ok (.ireturn, 1) := by decide +kernel
theorem dX1_standsNumber_14 : decode cX1_standsNumber 14 = .ok (.aload_n 0, 1) := by decide +kernel
theorem dX1_standsNumber_15 : decode cX1_standsNumber 15 = .ok (.getfield 127, 3) := by decide +kernel
theorem dX1_standsNumber_18 : decode cX1_standsNumber 18 = .ok (.iload_n 1, 1) := by decide +kernel
theorem dX1_standsNumber_19 : decode cX1_standsNumber 19 = .ok (.iload_n 2, 1) := by decide +kernel
theorem dX1_standsNumber_20 : decode cX1_standsNumber 20 = .ok (.invokestatic 188, 3) := by decide +kernel
theorem dX1_standsNumber_23 : decode cX1_standsNumber 23 = .ok (.ifCond .ne 11, 3) := by decide +kernel
theorem dX1_standsNumber_26 : decode cX1_standsNumber 26 = .ok (.aload_n 0, 1) := by decide +kernel
theorem dX1_standsNumber_27 : decode cX1_standsNumber 27 = .ok (.iconst 4, 1) := by decide +kernel
theorem dX1_standsNumber_28 : decode cX1_standsNumber 28 = .ok (.invokevirtual 89, 3) := by decide +kernel
theorem dX1_standsNumber_31 : decode cX1_standsNumber 31 = .ok (.ifCond .eq 7, 3) := by decide +kernel
theorem dX1_standsNumber_34 : decode cX1_standsNumber 34 = .ok (.iconst 1, 1) := by decide +kernel
theorem dX1_standsNumber_35 : decode cX1_standsNumber 35 = .ok (.goto 4, 3) := by decide +kernel
theorem dX1_standsNumber_38 : decode cX1_standsNumber 38 = .ok (.iconst 0, 1) := by decide +kernel
theorem dX1_standsNumber_39 : decode cX1_standsNumber 39 = .ok (.ireturn, 1) := by decide +kernel
theorem sn_X1_188 : kSNd RX1 188 yX11_within "NestedChecker" cX11_within 3 (some .boolean) 3 := ⟨⟨by decide +kernel, by decide +kernel, by decide +kernel⟩, (tt lm_171 rfl), List.mem_of_getElem? (i := 12) rfl, (tt lm_721 rfl), (tt lm_722 rfl)⟩
abbrev f_c_X1_standsNumber : List (Nat × Int) := [(17, 2), (17, 3)]
set_option maxHeartbeats 4000000 in
set_option maxRecDepth 100000 in
theorem c_X1_standsNumber (G : KG) (l : Launch) (M : Mem) (c0 : Int) (a1 : Int) (a2 : Int) (hI_M : Inv false M) (hk_c0 : kd c0 = 17) (hpre : -2147483648 ≤ a1 ∧ a1 ≤ 2147483647 ∧ -2147483648 ≤ a2 ∧ a2 ≤ 2147483647) : KC false G l yX1_standsNumber cX1_standsNumber 3 (some .boolean) (1, 22) [vR G c0, vI a1, vI a2] M (fun A => kQi false G A (fun (r : Int) (N : Mem) => Inv false N ∧ Fr f_c_X1_standsNumber M N ∧ ((r = 1 ∧ a1 ≤ (N c0 9) ∧ (N c0 9) ≤ a2) ∨ (r = 0)))) := by
  refine kx_met (lo := [some (vR G c0), some (vI a1), some (vI a2)]) (by decide) (Nat.le_of_ble_eq_true rfl) rfl ?_
  intro X F hQ
  have hF_M : Fr f_c_X1_standsNumber M M := Fr.rf _ _
  refine kx_aload_n 1 F 0 dX1_standsNumber_0 rfl rfl rfl ?_
  refine kx_geti 4 F fl_X1_61 hk_c0 rfl rfl (j := 6) rfl dX1_standsNumber_1 (v := (M c0 6)) rfl rfl ?_
  have h_1 := Inv.g hI_M hk_c0 rfl 6 (a := 0) (b := 5) rfl rfl
  refine kx_iconst 5 F dX1_standsNumber_4 rfl ?_
  refine kx_icmp_eq 8 F 14 dX1_standsNumber_5 (by decide) rfl (by omega) (by decide) (fun h_2 => ?_) (fun h_2 => ?_)
  · refine kx_aload_n 15 F 0 dX1_standsNumber_14 rfl rfl rfl ?_
    refine kx_geti 18 F fl_X1_127 hk_c0 rfl rfl (j := 9) rfl dX1_standsNumber_15 (v := (M c0 9)) rfl rfl ?_
    have h_3 := Inv.g hI_M hk_c0 rfl 9 (a := (-2147483648)) (b := 2147483647) rfl rfl
    refine kx_iload_n 19 F 1 dX1_standsNumber_18 rfl rfl rfl ?_
    refine kx_iload_n 20 F 2 dX1_standsNumber_19 rfl rfl rfl ?_
    refine kx_SNi 23 F (As := [vI (M c0 9), vI a1, vI a2]) (st := []) sn_X1_188 (c_X11_within G l M (M c0 9) a1 a2 hI_M (by omega)) ⟨by decide, by decide⟩ rfl rfl (Nat.le_of_ble_eq_true rfl) dX1_standsNumber_20 rfl ?_
    intro r_4 N_5 q_6
    obtain ⟨rfl, q_6c⟩ := q_6
    rcases q_6c with q_6c | q_6c
    · refine kx_if_ne 26 F 34 dX1_standsNumber_23 (by decide) rfl (by omega) (fun h_7 => ?_) (fun h_7 => (by exfalso; omega))
      refine kx_iconst 35 F dX1_standsNumber_34 rfl ?_
      refine kx_goto 39 F dX1_standsNumber_35 (by decide) ?_
      exact kx_zret F hQ (by omega) ⟨hI_M, hF_M, (by omega)⟩ dX1_standsNumber_39
    · refine kx_if_ne 26 F 34 dX1_standsNumber_23 (by decide) rfl (by omega) (fun h_8 => (by exfalso; omega)) (fun h_8 => ?_)
      refine kx_aload_n 27 F 0 dX1_standsNumber_26 rfl rfl rfl ?_
      refine kx_iconst 28 F dX1_standsNumber_27 rfl ?_
      refine kx_Vi 31 (ci := 0) F (As := [vI 4]) (st := []) vd_X1_89 (c_X1_fail G l M c0 4 hI_M hk_c0 (by omega)) hk_c0 rfl rfl rfl ⟨by decide, by decide⟩ rfl rfl (Nat.le_of_ble_eq_true rfl) dX1_standsNumber_28 rfl ?_
      intro r_9 N_10 q_11
      obtain ⟨hI_N_10, hG_N_10, q_11c⟩ := q_11
      have hF_N_10 : Fr f_c_X1_standsNumber M N_10 := Fr.c hF_M hG_N_10 rfl
      subst q_11c
      refine kx_if_eq 34 F 38 dX1_standsNumber_31 (by decide) rfl (by decide) (fun h_12 => ?_) (fun h_12 => ?_)
      · refine kx_iconst 39 F dX1_standsNumber_38 rfl ?_
        have e_13 : (N_10 c0 9) = (M c0 9) := by rw [Fr.e hG_N_10 hk_c0 _ rfl]
        have e_14 : (N_10 c0 9) = (M c0 9) := by rw [Fr.e hG_N_10 hk_c0 _ rfl]
        exact kx_zret F hQ (by omega) ⟨hI_N_10, hF_N_10, (by omega)⟩ dX1_standsNumber_39
      · refine kx_iconst 35 F dX1_standsNumber_34 rfl ?_
        refine kx_goto 39 F dX1_standsNumber_35 (by decide) ?_
        have e_15 : (N_10 c0 9) = (M c0 9) := by rw [Fr.e hG_N_10 hk_c0 _ rfl]
        have e_16 : (N_10 c0 9) = (M c0 9) := by rw [Fr.e hG_N_10 hk_c0 _ rfl]
        exact kx_zret F hQ (by omega) ⟨hI_N_10, hF_N_10, (by omega)⟩ dX1_standsNumber_39
  · refine kx_aload_n 9 F 0 dX1_standsNumber_8 rfl rfl rfl ?_
    refine kx_iconst 10 F dX1_standsNumber_9 rfl ?_
    refine kx_Vi 13 (ci := 0) F (As := [vI 2]) (st := []) vd_X1_89 (c_X1_fail G l M c0 2 hI_M hk_c0 (by omega)) hk_c0 rfl rfl rfl ⟨by decide, by decide⟩ rfl rfl (Nat.le_of_ble_eq_true rfl) dX1_standsNumber_10 rfl ?_
    intro r_17 N_18 q_19
    obtain ⟨hI_N_18, hG_N_18, q_19c⟩ := q_19
    have hF_N_18 : Fr f_c_X1_standsNumber M N_18 := Fr.c hF_M hG_N_18 rfl
    subst q_19c
    have e_20 : (N_18 c0 9) = (M c0 9) := by rw [Fr.e hG_N_18 hk_c0 _ rfl]
    have h_21 := Inv.g hI_M hk_c0 rfl 9 (a := (-2147483648)) (b := 2147483647) rfl rfl
    have e_22 : (N_18 c0 9) = (M c0 9) := by rw [Fr.e hG_N_18 hk_c0 _ rfl]
    exact kx_zret F hQ (by omega) ⟨hI_N_18, hF_N_18, (by omega)⟩ dX1_standsNumber_13
theorem dX1_takeLetter_0 : decode cX1_takeLetter 0 = .ok (.aload_n 0, 1) := by decide +kernel
theorem dX1_takeLetter_1 : decode cX1_takeLetter 1 = .ok (.getfield 12, 3) := by decide +kernel
theorem dX1_takeLetter_4 : decode cX1_takeLetter 4 = .ok (.getfield 86, 3) := by decide +kernel
theorem dX1_takeLetter_7 : decode cX1_takeLetter 7 = .ok (.ifCond .le 9, 3) := by decide +kernel
theorem dX1_takeLetter_10 : decode cX1_takeLetter 10 = .ok (.aload_n 0, 1) := by decide +kernel
theorem dX1_takeLetter_11 : decode cX1_takeLetter 11 = .ok (.iconst 5, 1) := by decide +kernel
theorem dX1_takeLetter_12 : decode cX1_takeLetter 12 = .ok (.invokevirtual 89, 3) := by decide +kernel
theorem dX1_takeLetter_15 : decode cX1_takeLetter 15 = .ok (.ireturn, 1) := by decide +kernel
theorem dX1_takeLetter_16 : decode cX1_takeLetter 16 = .ok (.aload_n 0, 1) := by decide +kernel
theorem dX1_takeLetter_17 : decode cX1_takeLetter 17 = .ok (.getfield 12, 3) := by decide +kernel
theorem dX1_takeLetter_20 : decode cX1_takeLetter 20 = .ok (.iload_n 1, 1) := by decide +kernel
theorem dX1_takeLetter_21 : decode cX1_takeLetter 21 = .ok (.invokevirtual 105, 3) := by decide +kernel
theorem dX1_takeLetter_24 : decode cX1_takeLetter 24 = .ok (.istore_n 2, 1) := by decide +kernel
theorem dX1_takeLetter_25 : decode cX1_takeLetter 25 = .ok (.iload_n 2, 1) := by decide +kernel
theorem dX1_takeLetter_26 : decode cX1_takeLetter 26 = .ok (.iconst 2, 1) := by decide +kernel
theorem dX1_takeLetter_27 : decode cX1_takeLetter 27 = .ok (.if_icmp .lt 10, 3) := by decide +kernel
theorem dX1_takeLetter_30 : decode cX1_takeLetter 30 = .ok (.aload_n 0, 1) := by decide +kernel
theorem dX1_takeLetter_31 : decode cX1_takeLetter 31 = .ok (.bipush 6, 2) := by decide +kernel
theorem dX1_takeLetter_33 : decode cX1_takeLetter 33 = .ok (.invokevirtual 89, 3) := by decide +kernel
theorem dX1_takeLetter_36 : decode cX1_takeLetter 36 = .ok (.ireturn, 1) := by decide +kernel
theorem dX1_takeLetter_37 : decode cX1_takeLetter 37 = .ok (.aload_n 0, 1) := by decide +kernel
theorem dX1_takeLetter_38 : decode cX1_takeLetter 38 = .ok (.invokevirtual 57, 3) := by decide +kernel
theorem dX1_takeLetter_41 : decode cX1_takeLetter 41 = .ok (.ifCond .eq 10, 3) := by decide +kernel
theorem dX1_takeLetter_44 : decode cX1_takeLetter 44 = .ok (.aload_n 0, 1) := by decide +kernel
theorem dX1_takeLetter_45 : decode cX1_takeLetter 45 = .ok (.invokevirtual 109, 3) := by decide +kernel
theorem dX1_takeLetter_48 : decode cX1_takeLetter 48 = .ok (.ifCond .ne 5, 3) := by decide +kernel
theorem dX1_takeLetter_51 : decode cX1_takeLetter 51 = .ok (.iconst 0, 1) := by decide +kernel
theorem dX1_takeLetter_52 : decode cX1_takeLetter 52 = .ok (.ireturn, 1) := by decide +kernel
theorem dX1_takeLetter_53 : decode cX1_takeLetter 53 = .ok (.aload_n 0, 1) := by decide +kernel
theorem dX1_takeLetter_54 : decode cX1_takeLetter 54 = .ok (.invokevirtual 112, 3) := by decide +kernel
theorem dX1_takeLetter_57 : decode cX1_takeLetter 57 = .ok (.iconst (-1), 1) := by decide +kernel
theorem dX1_takeLetter_58 : decode cX1_takeLetter 58 = .ok (.if_icmp .eq 9, 3) := by decide +kernel
theorem dX1_takeLetter_61 : decode cX1_takeLetter 61 = .ok (.aload_n 0, 1) := by decide +kernel
theorem dX1_takeLetter_62 : decode cX1_takeLetter 62 = .ok (.iconst 3, 1) := by decide +kernel
theorem dX1_takeLetter_63 : decode cX1_takeLetter 63 = .ok (.invokevirtual 89, 3) := by decide +kernel
theorem dX1_takeLetter_66 : decode cX1_takeLetter 66 = .ok (.ireturn, 1) := by decide +kernel
theorem dX1_takeLetter_67 : decode cX1_takeLetter 67 = .ok (.aload_n 0, 1) := by decide +kernel
theorem dX1_takeLetter_68 : decode cX1_takeLetter 68 = .ok (.getfield 29, 3) := by decide +kernel
theorem dX1_takeLetter_71 : decode cX1_takeLetter 71 = .ok (.iload_n 1, 1) := by decide +kernel
theorem dX1_takeLetter_72 : decode cX1_takeLetter 72 = .ok (.iconst 2, 1) := by decide +kernel
theorem dX1_takeLetter_73 : decode cX1_takeLetter 73 = .ok (.imul, 1) := by decide +kernel
theorem dX1_takeLetter_74 : decode cX1_takeLetter 74 = .ok (.iload_n 2, 1) := by decide +kernel
theorem dX1_takeLetter_75 : decode cX1_takeLetter 75 = .ok (.iadd, 1) := by decide +kernel
theorem dX1_takeLetter_76 : decode cX1_takeLetter 76 = .ok (.aload_n 0, 1) := by decide +kernel
theorem dX1_takeLetter_77 : decode cX1_takeLetter 77 = .ok (.getfield 51, 3) := by decide +kernel
theorem dX1_takeLetter_80 : decode cX1_takeLetter 80 = .ok (.iastore, 1) := by decide +kernel
theorem dX1_takeLetter_81 : decode cX1_takeLetter 81 = .ok (.aload_n 0, 1) := by decide +kernel
theorem dX1_takeLetter_82 : decode cX1_takeLetter 82 = .ok (.getfield 33, 3) := by decide +kernel
theorem dX1_takeLetter_85 : decode cX1_takeLetter 85 = .ok (.iload_n 1, 1) := by decide +kernel
theorem dX1_takeLetter_86 : decode cX1_takeLetter 86 = .ok (.iconst 2, 1) := by decide +kernel
theorem dX1_takeLetter_87 : decode cX1_takeLetter 87 = .ok (.imul, 1) := by decide +kernel
theorem dX1_takeLetter_88 : decode cX1_takeLetter 88 = .ok (.iload_n 2, 1) := by decide +kernel
theorem dX1_takeLetter_89 : decode cX1_takeLetter 89 = .ok (.iadd, 1) := by decide +kernel
theorem dX1_takeLetter_90 : decode cX1_takeLetter 90 = .ok (.aload_n 0, 1) := by decide +kernel
theorem dX1_takeLetter_91 : decode cX1_takeLetter 91 = .ok (.getfield 54, 3) := by decide +kernel
theorem dX1_takeLetter_94 : decode cX1_takeLetter 94 = .ok (.iastore, 1) := by decide +kernel
theorem dX1_takeLetter_95 : decode cX1_takeLetter 95 = .ok (.aload_n 0, 1) := by decide +kernel
theorem dX1_takeLetter_96 : decode cX1_takeLetter 96 = .ok (.getfield 12, 3) := by decide +kernel
theorem dX1_takeLetter_99 : decode cX1_takeLetter 99 = .ok (.iload_n 1, 1) := by decide +kernel
theorem dX1_takeLetter_100 : decode cX1_takeLetter 100 = .ok (.invokevirtual 116, 3) := by decide +kernel
theorem dX1_takeLetter_103 : decode cX1_takeLetter 103 = .ok (.aload_n 0, 1) := by decide +kernel
theorem dX1_takeLetter_104 : decode cX1_takeLetter 104 = .ok (.invokevirtual 57, 3) := by decide +kernel
theorem dX1_takeLetter_107 : decode cX1_takeLetter 107 = .ok (.ifCond .eq 14, 3) := by decide +kernel
theorem dX1_takeLetter_110 : decode cX1_takeLetter 110 = .ok (.aload_n 0, 1) := by decide +kernel
theorem dX1_takeLetter_111 : decode cX1_takeLetter 111 = .ok (.invokevirtual 120, 3) := by decide +kernel
theorem dX1_takeLetter_114 : decode cX1_takeLetter 114 = .ok (.ifCond .eq 7, 3) := by decide +kernel
theorem dX1_takeLetter_117 : decode cX1_takeLetter 117 = .ok (.iconst 1, 1) := by decide +kernel
theorem dX1_takeLetter_118 : decode cX1_takeLetter 118 = .ok (.goto 4, 3) := by decide +kernel
theorem dX1_takeLetter_121 : decode cX1_takeLetter 121 = .ok (.iconst 0, 1) := by decide +kernel
theorem dX1_takeLetter_122 : decode cX1_takeLetter 122 = .ok (.ireturn, 1) := by decide +kernel
abbrev f_c_X1_takeLetter : List (Nat × Int) := [(12, 0), (12, 1), (12, 2), (17, 2), (17, 3), (17, 6), (17, 7), (17, 8), (17, 9), (19, -1), (20, -1)]
set_option maxHeartbeats 4000000 in
set_option maxRecDepth 100000 in
theorem c_X1_takeLetter (G : KG) (l : Launch) (M : Mem) (c0 : Int) (a1 : Int) (hI_M : Inv false M) (hk_c0 : kd c0 = 17) (hpre : -2147483648 ≤ a1 ∧ a1 ≤ 2147483647 ∧ (M c0 7) + (M c0 8) ≤ 900 ∧ 0 ≤ a1 ∧ a1 ≤ 2) (hX_M : XX M) : KC false G l yX1_takeLetter cX1_takeLetter 3 (some .boolean) (7, 147) [vR G c0, vI a1] M (fun A => kQi false G A (fun (r : Int) (N : Mem) => Inv false N ∧ Fr f_c_X1_takeLetter M N ∧ ((N c0 7) + (N c0 8) ≤ 900 ∧ r ≥ 0 ∧ r ≤ 1) ∧ XX N)) := by
  refine kx_met (lo := [some (vR G c0), some (vI a1), none]) (by decide) (Nat.le_of_ble_eq_true rfl) rfl ?_
  intro X F hQ
  have hF_M : Fr f_c_X1_takeLetter M M := Fr.rf _ _
  have h_1 := Inv.g hI_M hk_c0 rfl 7 (a := 0) (b := 900) rfl rfl
  have h_2 := Inv.g hI_M hk_c0 rfl 8 (a := 0) (b := 900) rfl rfl
  have hk_3 : kd (M c0 0) = 12 := Inv.r hI_M hk_c0 rfl 0 rfl rfl
  have h_4 := hX_M.1 (M c0 0) hk_3
  have h_5 := Inv.g hI_M hk_3 rfl 0 (a := 0) (b := 2) rfl rfl
  have h_6 := Inv.g hI_M hk_3 rfl 1 (a := 0) (b := 4) rfl rfl
  have h_7 := Inv.g hI_M hk_3 rfl 2 (a := 0) (b := 6) rfl rfl
  refine kx_aload_n 1 F 0 dX1_takeLetter_0 rfl rfl rfl ?_
  refine kx_getr 4 F fl_X1_12 hk_c0 rfl rfl (j := 0) rfl dX1_takeLetter_1 (v := (M c0 0)) rfl rfl ?_
  refine kx_geti 7 F fl_X1_86 hk_3 rfl rfl (j := 3) rfl dX1_takeLetter_4 (v := (M (M c0 0) 3)) rfl rfl ?_
  have h_8 := Inv.g hI_M hk_3 rfl 3 (a := 0) (b := 2) rfl rfl
  refine kx_if_le 10 F 16 dX1_takeLetter_7 (by decide) rfl (by omega) (fun h_9 => ?_) (fun h_9 => ?_)
  · refine kx_aload_n 17 F 0 dX1_takeLetter_16 rfl rfl rfl ?_
    refine kx_getr 20 F fl_X1_12 hk_c0 rfl rfl (j := 0) rfl dX1_takeLetter_17 (v := (M c0 0)) rfl rfl ?_
    refine kx_iload_n 21 F 1 dX1_takeLetter_20 rfl rfl rfl ?_
    refine kx_Vi 24 (ci := 0) F (As := [vI a1]) (st := []) vd_X1_105 (c_X5_manyOf G l M (M c0 0) a1 hI_M hk_3 (by omega)) hk_3 rfl rfl rfl ⟨by decide, by decide⟩ rfl rfl (Nat.le_of_ble_eq_true rfl) dX1_takeLetter_21 rfl ?_
    intro r_10 N_11 q_12
    obtain ⟨rfl, q_12c⟩ := q_12
    rcases q_12c with q_12c | q_12c | q_12c
    · refine kx_istore_n 25 F 2 (lo' := [some (vR G c0), some (vI a1), some (vI r_10)]) dX1_takeLetter_24 rfl (by decide) rfl rfl rfl ?_
      refine kx_iload_n 26 F 2 dX1_takeLetter_25 rfl rfl rfl ?_
      refine kx_iconst 27 F dX1_takeLetter_26 rfl ?_
      refine kx_icmp_lt 30 F 37 dX1_takeLetter_27 (by decide) rfl (by omega) (by decide) (fun h_13 => ?_) (fun h_13 => ?_)
      · refine kx_aload_n 38 F 0 dX1_takeLetter_37 rfl rfl rfl ?_
        refine kx_Vi 41 (ci := 0) F (As := []) (st := []) vd_X1_57 (c_X1_advance G l M c0 hI_M hk_c0 (by omega)) hk_c0 rfl rfl rfl ⟨by decide, by decide⟩ rfl rfl (Nat.le_of_ble_eq_true rfl) dX1_takeLetter_38 rfl ?_
        intro r_14 N_15 q_16
        obtain ⟨hI_N_15, hG_N_15, q_16c⟩ := q_16
        have hF_N_15 : Fr f_c_X1_takeLetter M N_15 := Fr.c hF_M hG_N_15 rfl
        have hX_N_15 : XX N_15 := XX.fr hX_M hI_M hG_N_15 rfl
        have h_17 := Inv.g hI_N_15 hk_c0 rfl 7 (a := 0) (b := 900) rfl rfl
        have h_18 := Inv.g hI_N_15 hk_c0 rfl 8 (a := 0) (b := 900) rfl rfl
        refine kx_if_eq 44 F 51 dX1_takeLetter_41 (by decide) rfl (by omega) (fun h_19 => ?_) (fun h_19 => ?_)
        · refine kx_iconst 52 F dX1_takeLetter_51 rfl ?_
          exact kx_zret F hQ (by omega) ⟨hI_N_15, hF_N_15, (by omega), hX_N_15⟩ dX1_takeLetter_52
        · refine kx_aload_n 45 F 0 dX1_takeLetter_44 rfl rfl rfl ?_
          refine kx_Vi 48 (ci := 0) F (As := []) (st := []) vd_X1_109 (c_X1_standsName G l N_15 c0 hI_N_15 hk_c0) hk_c0 rfl rfl rfl ⟨by decide, by decide⟩ rfl rfl (Nat.le_of_ble_eq_true rfl) dX1_takeLetter_45 rfl ?_
          intro r_20 N_21 q_22
          obtain ⟨hI_N_21, hG_N_21, q_22c⟩ := q_22
          have hF_N_21 : Fr f_c_X1_takeLetter M N_21 := Fr.c hF_N_15 hG_N_21 rfl
          have hX_N_21 : XX N_21 := XX.fr hX_N_15 hI_N_15 hG_N_21 rfl
          refine kx_if_ne 51 F 53 dX1_takeLetter_48 (by decide) rfl (by omega) (fun h_23 => ?_) (fun h_23 => ?_)
          · refine kx_aload_n 54 F 0 dX1_takeLetter_53 rfl rfl rfl ?_
            refine kx_Vi 57 (ci := 0) F (As := []) (st := []) vd_X1_112 (c_X1_findName G l N_21 c0 hI_N_21 hk_c0) hk_c0 rfl rfl rfl ⟨by decide, by decide⟩ rfl rfl (Nat.le_of_ble_eq_true rfl) dX1_takeLetter_54 rfl ?_
            intro r_24 N_25 q_26
            obtain ⟨rfl, q_26c⟩ := q_26
            refine kx_iconst 58 F dX1_takeLetter_57 rfl ?_
            refine kx_icmp_eq 61 F 67 dX1_takeLetter_58 (by decide) rfl (by omega) (by decide) (fun h_27 => ?_) (fun h_27 => ?_)
            · refine kx_aload_n 68 F 0 dX1_takeLetter_67 rfl rfl rfl ?_
              refine kx_getr 71 F fl_X1_29 hk_c0 rfl rfl (j := 10) rfl dX1_takeLetter_68 (v := (M c0 10)) (by rw [Fr.e hG_N_21 hk_c0 _ rfl, Fr.e hG_N_15 hk_c0 _ rfl]) rfl ?_
              have hk_28 : kd (M c0 10) = 19 := Inv.r hI_M hk_c0 rfl 10 rfl rfl
              refine kx_iload_n 72 F 1 dX1_takeLetter_71 rfl rfl rfl ?_
              refine kx_iconst 73 F dX1_takeLetter_72 rfl ?_
              refine kx_imul 74 F (v := 2 * a1) dX1_takeLetter_73 (by omega) rfl ?_
              refine kx_iload_n 75 F 2 dX1_takeLetter_74 rfl rfl rfl ?_
              refine kx_iadd 76 F (v := 2 * a1 + r_10) dX1_takeLetter_75 rfl rfl ?_
              refine kx_aload_n 77 F 0 dX1_takeLetter_76 rfl rfl rfl ?_
              refine kx_geti 80 F fl_X1_51 hk_c0 rfl rfl (j := 7) rfl dX1_takeLetter_77 (v := (N_15 c0 7)) (by rw [Fr.e hG_N_21 hk_c0 _ rfl]) rfl ?_
              refine kx_iast 81 F hk_28 rfl rfl (by omega) (by decide) dX1_takeLetter_80 rfl ?_
              intro N_29 hM_N_29
              have hI_N_29 : Inv false N_29 := Inv.u hI_N_21 hM_N_29 hk_28 (a := 0) (b := 900) rfl rfl rfl (by omega)
              have hF_N_29 : Fr f_c_X1_takeLetter M N_29 := Fr.u hF_N_21 hM_N_29 hk_28 rfl
              have hX_N_29 : XX N_29 := XX.st hX_N_21 hI_N_21 hM_N_29 hk_28 rfl
              refine kx_aload_n 82 F 0 dX1_takeLetter_81 rfl rfl rfl ?_
              refine kx_getr 85 F fl_X1_33 hk_c0 rfl rfl (j := 11) rfl dX1_takeLetter_82 (v := (M c0 11)) (by rw [hM_N_29, mu_k hk_c0 hk_28 rfl, Fr.e hG_N_21 hk_c0 _ rfl, Fr.e hG_N_15 hk_c0 _ rfl]) rfl ?_
              have hk_30 : kd (M c0 11) = 20 := Inv.r hI_M hk_c0 rfl 11 rfl rfl
              refine kx_iload_n 86 F 1 dX1_takeLetter_85 rfl rfl rfl ?_
              refine kx_iconst 87 F dX1_takeLetter_86 rfl ?_
              refine kx_imul 88 F (v := 2 * a1) dX1_takeLetter_87 (by omega) rfl ?_
              refine kx_iload_n 89 F 2 dX1_takeLetter_88 rfl rfl rfl ?_
              refine kx_iadd 90 F (v := 2 * a1 + r_10) dX1_takeLetter_89 rfl rfl ?_
              refine kx_aload_n 91 F 0 dX1_takeLetter_90 rfl rfl rfl ?_
              refine kx_geti 94 F fl_X1_54 hk_c0 rfl rfl (j := 8) rfl dX1_takeLetter_91 (v := (N_15 c0 8)) (by rw [hM_N_29, mu_k hk_c0 hk_28 rfl, Fr.e hG_N_21 hk_c0 _ rfl]) rfl ?_
              refine kx_iast 95 F hk_30 rfl rfl (by omega) (by decide) dX1_takeLetter_94 rfl ?_
              intro N_31 hM_N_31
              have hI_N_31 : Inv false N_31 := Inv.u hI_N_29 hM_N_31 hk_30 (a := 0) (b := 900) rfl rfl rfl (by omega)
              have hF_N_31 : Fr f_c_X1_takeLetter M N_31 := Fr.u hF_N_29 hM_N_31 hk_30 rfl
              have hX_N_31 : XX N_31 := XX.st hX_N_29 hI_N_29 hM_N_31 hk_30 rfl
              refine kx_aload_n 96 F 0 dX1_takeLetter_95 rfl rfl rfl ?_
              refine kx_getr 99 F fl_X1_12 hk_c0 rfl rfl (j := 0) rfl dX1_takeLetter_96 (v := (M c0 0)) (by rw [hM_N_31, mu_k hk_c0 hk_30 rfl, hM_N_29, mu_k hk_c0 hk_28 rfl, Fr.e hG_N_21 hk_c0 _ rfl, Fr.e hG_N_15 hk_c0 _ rfl]) rfl ?_
              refine kx_iload_n 100 F 1 dX1_takeLetter_99 rfl rfl rfl ?_
              have e_32 : (N_31 (M c0 0) 0) = (M (M c0 0) 0) := by rw [hM_N_31, mu_k hk_3 hk_30 rfl, hM_N_29, mu_k hk_3 hk_28 rfl, Fr.e hG_N_21 hk_3 _ rfl, Fr.e hG_N_15 hk_3 _ rfl]
              have e_33 : (N_31 (M c0 0) 1) = (M (M c0 0) 1) := by rw [hM_N_31, mu_k hk_3 hk_30 rfl, hM_N_29, mu_k hk_3 hk_28 rfl, Fr.e hG_N_21 hk_3 _ rfl, Fr.e hG_N_15 hk_3 _ rfl]
              have e_34 : (N_31 (M c0 0) 2) = (M (M c0 0) 2) := by rw [hM_N_31, mu_k hk_3 hk_30 rfl, hM_N_29, mu_k hk_3 hk_28 rfl, Fr.e hG_N_21 hk_3 _ rfl, Fr.e hG_N_15 hk_3 _ rfl]
              have e_35 : (N_31 (M c0 0) 0) = (M (M c0 0) 0) := by rw [hM_N_31, mu_k hk_3 hk_30 rfl, hM_N_29, mu_k hk_3 hk_28 rfl, Fr.e hG_N_21 hk_3 _ rfl, Fr.e hG_N_15 hk_3 _ rfl]
              have e_36 : (N_31 (M c0 0) 1) = (M (M c0 0) 1) := by rw [hM_N_31, mu_k hk_3 hk_30 rfl, hM_N_29, mu_k hk_3 hk_28 rfl, Fr.e hG_N_21 hk_3 _ rfl, Fr.e hG_N_15 hk_3 _ rfl]
              have e_37 : (N_31 (M c0 0) 2) = (M (M c0 0) 2) := by rw [hM_N_31, mu_k hk_3 hk_30 rfl, hM_N_29, mu_k hk_3 hk_28 rfl, Fr.e hG_N_21 hk_3 _ rfl, Fr.e hG_N_15 hk_3 _ rfl]
              have e_38 : (N_31 (M c0 0) 0) = (M (M c0 0) 0) := by rw [hM_N_31, mu_k hk_3 hk_30 rfl, hM_N_29, mu_k hk_3 hk_28 rfl, Fr.e hG_N_21 hk_3 _ rfl, Fr.e hG_N_15 hk_3 _ rfl]
              have e_39 : (N_31 (M c0 0) 1) = (M (M c0 0) 1) := by rw [hM_N_31, mu_k hk_3 hk_30 rfl, hM_N_29, mu_k hk_3 hk_28 rfl, Fr.e hG_N_21 hk_3 _ rfl, Fr.e hG_N_15 hk_3 _ rfl]
              have e_40 : (N_31 (M c0 0) 2) = (M (M c0 0) 2) := by rw [hM_N_31, mu_k hk_3 hk_30 rfl, hM_N_29, mu_k hk_3 hk_28 rfl, Fr.e hG_N_21 hk_3 _ rfl, Fr.e hG_N_15 hk_3 _ rfl]
              have e_41 : (N_31 (M c0 0) 0) = (M (M c0 0) 0) := by rw [hM_N_31, mu_k hk_3 hk_30 rfl, hM_N_29, mu_k hk_3 hk_28 rfl, Fr.e hG_N_21 hk_3 _ rfl, Fr.e hG_N_15 hk_3 _ rfl]
              have e_42 : (N_31 (M c0 0) 1) = (M (M c0 0) 1) := by rw [hM_N_31, mu_k hk_3 hk_30 rfl, hM_N_29, mu_k hk_3 hk_28 rfl, Fr.e hG_N_21 hk_3 _ rfl, Fr.e hG_N_15 hk_3 _ rfl]
              have e_43 : (N_31 (M c0 0) 2) = (M (M c0 0) 2) := by rw [hM_N_31, mu_k hk_3 hk_30 rfl, hM_N_29, mu_k hk_3 hk_28 rfl, Fr.e hG_N_21 hk_3 _ rfl, Fr.e hG_N_15 hk_3 _ rfl]
              have e_44 : (N_31 (M c0 0) 0) = (M (M c0 0) 0) := by rw [hM_N_31, mu_k hk_3 hk_30 rfl, hM_N_29, mu_k hk_3 hk_28 rfl, Fr.e hG_N_21 hk_3 _ rfl, Fr.e hG_N_15 hk_3 _ rfl]
              have e_45 : (N_31 (M c0 0) 1) = (M (M c0 0) 1) := by rw [hM_N_31, mu_k hk_3 hk_30 rfl, hM_N_29, mu_k hk_3 hk_28 rfl, Fr.e hG_N_21 hk_3 _ rfl, Fr.e hG_N_15 hk_3 _ rfl]
              have e_46 : (N_31 (M c0 0) 2) = (M (M c0 0) 2) := by rw [hM_N_31, mu_k hk_3 hk_30 rfl, hM_N_29, mu_k hk_3 hk_28 rfl, Fr.e hG_N_21 hk_3 _ rfl, Fr.e hG_N_15 hk_3 _ rfl]
              refine kx_Vv 103 (ci := 0) F (As := [vI a1]) (st := []) vd_X1_116 (c_X5_addLetter G l N_31 (M c0 0) a1 hI_N_31 hk_3 (by omega) hX_N_31) hk_3 rfl rfl rfl ⟨by decide, by decide⟩ rfl rfl (Nat.le_of_ble_eq_true rfl) dX1_takeLetter_100 rfl ?_
              intro N_47 q_48
              obtain ⟨hI_N_47, hG_N_47, hX_N_47⟩ := q_48
              have hF_N_47 : Fr f_c_X1_takeLetter M N_47 := Fr.c hF_N_31 hG_N_47 rfl
              refine kx_aload_n 104 F 0 dX1_takeLetter_103 rfl rfl rfl ?_
              have e_49 : (N_47 c0 7) = (N_15 c0 7) := by rw [Fr.e hG_N_47 hk_c0 _ rfl, hM_N_31, mu_k hk_c0 hk_30 rfl, hM_N_29, mu_k hk_c0 hk_28 rfl, Fr.e hG_N_21 hk_c0 _ rfl]
              have e_50 : (N_47 c0 8) = (N_15 c0 8) := by rw [Fr.e hG_N_47 hk_c0 _ rfl, hM_N_31, mu_k hk_c0 hk_30 rfl, hM_N_29, mu_k hk_c0 hk_28 rfl, Fr.e hG_N_21 hk_c0 _ rfl]
              refine kx_Vi 107 (ci := 0) F (As := []) (st := []) vd_X1_57 (c_X1_advance G l N_47 c0 hI_N_47 hk_c0 (by omega)) hk_c0 rfl rfl rfl ⟨by decide, by decide⟩ rfl rfl (Nat.le_of_ble_eq_true rfl) dX1_takeLetter_104 rfl ?_
              intro r_51 N_52 q_53
              obtain ⟨hI_N_52, hG_N_52, q_53c⟩ := q_53
              have hF_N_52 : Fr f_c_X1_takeLetter M N_52 := Fr.c hF_N_47 hG_N_52 rfl
              have hX_N_52 : XX N_52 := XX.fr hX_N_47 hI_N_47 hG_N_52 rfl
              have h_54 := Inv.g hI_N_52 hk_c0 rfl 7 (a := 0) (b := 900) rfl rfl
              have h_55 := Inv.g hI_N_52 hk_c0 rfl 8 (a := 0) (b := 900) rfl rfl
              refine kx_if_eq 110 F 121 dX1_takeLetter_107 (by decide) rfl (by omega) (fun h_56 => ?_) (fun h_56 => ?_)
              · refine kx_iconst 122 F dX1_takeLetter_121 rfl ?_
                exact kx_zret F hQ (by omega) ⟨hI_N_52, hF_N_52, (by omega), hX_N_52⟩ dX1_takeLetter_122
              · refine kx_aload_n 111 F 0 dX1_takeLetter_110 rfl rfl rfl ?_
                refine kx_Vi 114 (ci := 0) F (As := []) (st := []) vd_X1_120 (c_X1_standsSign G l N_52 c0 hI_N_52 hk_c0) hk_c0 rfl rfl rfl ⟨by decide, by decide⟩ rfl rfl (Nat.le_of_ble_eq_true rfl) dX1_takeLetter_111 rfl ?_
                intro r_57 N_58 q_59
                obtain ⟨hI_N_58, hG_N_58, q_59c⟩ := q_59
                have hF_N_58 : Fr f_c_X1_takeLetter M N_58 := Fr.c hF_N_52 hG_N_58 rfl
                have hX_N_58 : XX N_58 := XX.fr hX_N_52 hI_N_52 hG_N_58 rfl
                refine kx_if_eq 117 F 121 dX1_takeLetter_114 (by decide) rfl (by omega) (fun h_60 => ?_) (fun h_60 => ?_)
                · refine kx_iconst 122 F dX1_takeLetter_121 rfl ?_
                  have e_61 : (N_58 c0 7) = (N_52 c0 7) := by rw [Fr.e hG_N_58 hk_c0 _ rfl]
                  have e_62 : (N_58 c0 8) = (N_52 c0 8) := by rw [Fr.e hG_N_58 hk_c0 _ rfl]
                  exact kx_zret F hQ (by omega) ⟨hI_N_58, hF_N_58, (by omega), hX_N_58⟩ dX1_takeLetter_122
                · refine kx_iconst 118 F dX1_takeLetter_117 rfl ?_
                  refine kx_goto 122 F dX1_takeLetter_118 (by decide) ?_
                  have e_63 : (N_58 c0 7) = (N_52 c0 7) := by rw [Fr.e hG_N_58 hk_c0 _ rfl]
                  have e_64 : (N_58 c0 8) = (N_52 c0 8) := by rw [Fr.e hG_N_58 hk_c0 _ rfl]
                  exact kx_zret F hQ (by omega) ⟨hI_N_58, hF_N_58, (by omega), hX_N_58⟩ dX1_takeLetter_122
            · refine kx_aload_n 62 F 0 dX1_takeLetter_61 rfl rfl rfl ?_
              refine kx_iconst 63 F dX1_takeLetter_62 rfl ?_
              refine kx_Vi 66 (ci := 0) F (As := [vI 3]) (st := []) vd_X1_89 (c_X1_fail G l N_21 c0 3 hI_N_21 hk_c0 (by omega)) hk_c0 rfl rfl rfl ⟨by decide, by decide⟩ rfl rfl (Nat.le_of_ble_eq_true rfl) dX1_takeLetter_63 rfl ?_
              intro r_65 N_66 q_67
              obtain ⟨hI_N_66, hG_N_66, q_67c⟩ := q_67
              have hF_N_66 : Fr f_c_X1_takeLetter M N_66 := Fr.c hF_N_21 hG_N_66 rfl
              have hX_N_66 : XX N_66 := XX.fr hX_N_21 hI_N_21 hG_N_66 rfl
              subst q_67c
              have e_68 : (N_66 c0 7) = (N_15 c0 7) := by rw [Fr.e hG_N_66 hk_c0 _ rfl, Fr.e hG_N_21 hk_c0 _ rfl]
              have e_69 : (N_66 c0 8) = (N_15 c0 8) := by rw [Fr.e hG_N_66 hk_c0 _ rfl, Fr.e hG_N_21 hk_c0 _ rfl]
              exact kx_zret F hQ (by omega) ⟨hI_N_66, hF_N_66, (by omega), hX_N_66⟩ dX1_takeLetter_66
          · refine kx_iconst 52 F dX1_takeLetter_51 rfl ?_
            have e_70 : (N_21 c0 7) = (N_15 c0 7) := by rw [Fr.e hG_N_21 hk_c0 _ rfl]
            have e_71 : (N_21 c0 8) = (N_15 c0 8) := by rw [Fr.e hG_N_21 hk_c0 _ rfl]
            exact kx_zret F hQ (by omega) ⟨hI_N_21, hF_N_21, (by omega), hX_N_21⟩ dX1_takeLetter_52
      · refine kx_aload_n 31 F 0 dX1_takeLetter_30 rfl rfl rfl ?_
        refine kx_bipush 33 F dX1_takeLetter_31 (by decide) rfl ?_
        refine kx_Vi 36 (ci := 0) F (As := [vI 6]) (st := []) vd_X1_89 (c_X1_fail G l M c0 6 hI_M hk_c0 (by omega)) hk_c0 rfl rfl rfl ⟨by decide, by decide⟩ rfl rfl (Nat.le_of_ble_eq_true rfl) dX1_takeLetter_33 rfl ?_
        intro r_72 N_73 q_74
        obtain ⟨hI_N_73, hG_N_73, q_74c⟩ := q_74
        have hF_N_73 : Fr f_c_X1_takeLetter M N_73 := Fr.c hF_M hG_N_73 rfl
        have hX_N_73 : XX N_73 := XX.fr hX_M hI_M hG_N_73 rfl
        subst q_74c
        have e_75 : (N_73 c0 7) = (M c0 7) := by rw [Fr.e hG_N_73 hk_c0 _ rfl]
        have e_76 : (N_73 c0 8) = (M c0 8) := by rw [Fr.e hG_N_73 hk_c0 _ rfl]
        exact kx_zret F hQ (by omega) ⟨hI_N_73, hF_N_73, (by omega), hX_N_73⟩ dX1_takeLetter_36
    · refine kx_istore_n 25 F 2 (lo' := [some (vR G c0), some (vI a1), some (vI r_10)]) dX1_takeLetter_24 rfl (by decide) rfl rfl rfl ?_
      refine kx_iload_n 26 F 2 dX1_takeLetter_25 rfl rfl rfl ?_
      refine kx_iconst 27 F dX1_takeLetter_26 rfl ?_
      refine kx_icmp_lt 30 F 37 dX1_takeLetter_27 (by decide) rfl (by omega) (by decide) (fun h_77 => ?_) (fun h_77 => ?_)
      · refine kx_aload_n 38 F 0 dX1_takeLetter_37 rfl rfl rfl ?_
        refine kx_Vi 41 (ci := 0) F (As := []) (st := []) vd_X1_57 (c_X1_advance G l M c0 hI_M hk_c0 (by omega)) hk_c0 rfl rfl rfl ⟨by decide, by decide⟩ rfl rfl (Nat.le_of_ble_eq_true rfl) dX1_takeLetter_38 rfl ?_
        intro r_78 N_79 q_80
        obtain ⟨hI_N_79, hG_N_79, q_80c⟩ := q_80
        have hF_N_79 : Fr f_c_X1_takeLetter M N_79 := Fr.c hF_M hG_N_79 rfl
        have hX_N_79 : XX N_79 := XX.fr hX_M hI_M hG_N_79 rfl
        have h_81 := Inv.g hI_N_79 hk_c0 rfl 7 (a := 0) (b := 900) rfl rfl
        have h_82 := Inv.g hI_N_79 hk_c0 rfl 8 (a := 0) (b := 900) rfl rfl
        refine kx_if_eq 44 F 51 dX1_takeLetter_41 (by decide) rfl (by omega) (fun h_83 => ?_) (fun h_83 => ?_)
        · refine kx_iconst 52 F dX1_takeLetter_51 rfl ?_
          exact kx_zret F hQ (by omega) ⟨hI_N_79, hF_N_79, (by omega), hX_N_79⟩ dX1_takeLetter_52
        · refine kx_aload_n 45 F 0 dX1_takeLetter_44 rfl rfl rfl ?_
          refine kx_Vi 48 (ci := 0) F (As := []) (st := []) vd_X1_109 (c_X1_standsName G l N_79 c0 hI_N_79 hk_c0) hk_c0 rfl rfl rfl ⟨by decide, by decide⟩ rfl rfl (Nat.le_of_ble_eq_true rfl) dX1_takeLetter_45 rfl ?_
          intro r_84 N_85 q_86
          obtain ⟨hI_N_85, hG_N_85, q_86c⟩ := q_86
          have hF_N_85 : Fr f_c_X1_takeLetter M N_85 := Fr.c hF_N_79 hG_N_85 rfl
          have hX_N_85 : XX N_85 := XX.fr hX_N_79 hI_N_79 hG_N_85 rfl
          refine kx_if_ne 51 F 53 dX1_takeLetter_48 (by decide) rfl (by omega) (fun h_87 => ?_) (fun h_87 => ?_)
          · refine kx_aload_n 54 F 0 dX1_takeLetter_53 rfl rfl rfl ?_
            refine kx_Vi 57 (ci := 0) F (As := []) (st := []) vd_X1_112 (c_X1_findName G l N_85 c0 hI_N_85 hk_c0) hk_c0 rfl rfl rfl ⟨by decide, by decide⟩ rfl rfl (Nat.le_of_ble_eq_true rfl) dX1_takeLetter_54 rfl ?_
            intro r_88 N_89 q_90
            obtain ⟨rfl, q_90c⟩ := q_90
            refine kx_iconst 58 F dX1_takeLetter_57 rfl ?_
            refine kx_icmp_eq 61 F 67 dX1_takeLetter_58 (by decide) rfl (by omega) (by decide) (fun h_91 => ?_) (fun h_91 => ?_)
            · refine kx_aload_n 68 F 0 dX1_takeLetter_67 rfl rfl rfl ?_
              refine kx_getr 71 F fl_X1_29 hk_c0 rfl rfl (j := 10) rfl dX1_takeLetter_68 (v := (M c0 10)) (by rw [Fr.e hG_N_85 hk_c0 _ rfl, Fr.e hG_N_79 hk_c0 _ rfl]) rfl ?_
              have hk_92 : kd (M c0 10) = 19 := Inv.r hI_M hk_c0 rfl 10 rfl rfl
              refine kx_iload_n 72 F 1 dX1_takeLetter_71 rfl rfl rfl ?_
              refine kx_iconst 73 F dX1_takeLetter_72 rfl ?_
              refine kx_imul 74 F (v := 2 * a1) dX1_takeLetter_73 (by omega) rfl ?_
              refine kx_iload_n 75 F 2 dX1_takeLetter_74 rfl rfl rfl ?_
              refine kx_iadd 76 F (v := 2 * a1 + r_10) dX1_takeLetter_75 rfl rfl ?_
              refine kx_aload_n 77 F 0 dX1_takeLetter_76 rfl rfl rfl ?_
              refine kx_geti 80 F fl_X1_51 hk_c0 rfl rfl (j := 7) rfl dX1_takeLetter_77 (v := (N_79 c0 7)) (by rw [Fr.e hG_N_85 hk_c0 _ rfl]) rfl ?_
              refine kx_iast 81 F hk_92 rfl rfl (by omega) (by decide) dX1_takeLetter_80 rfl ?_
              intro N_93 hM_N_93
              have hI_N_93 : Inv false N_93 := Inv.u hI_N_85 hM_N_93 hk_92 (a := 0) (b := 900) rfl rfl rfl (by omega)
              have hF_N_93 : Fr f_c_X1_takeLetter M N_93 := Fr.u hF_N_85 hM_N_93 hk_92 rfl
              have hX_N_93 : XX N_93 := XX.st hX_N_85 hI_N_85 hM_N_93 hk_92 rfl
              refine kx_aload_n 82 F 0 dX1_takeLetter_81 rfl rfl rfl ?_
              refine kx_getr 85 F fl_X1_33 hk_c0 rfl rfl (j := 11) rfl dX1_takeLetter_82 (v := (M c0 11)) (by rw [hM_N_93, mu_k hk_c0 hk_92 rfl, Fr.e hG_N_85 hk_c0 _ rfl, Fr.e hG_N_79 hk_c0 _ rfl]) rfl ?_
              have hk_94 : kd (M c0 11) = 20 := Inv.r hI_M hk_c0 rfl 11 rfl rfl
              refine kx_iload_n 86 F 1 dX1_takeLetter_85 rfl rfl rfl ?_
              refine kx_iconst 87 F dX1_takeLetter_86 rfl ?_
              refine kx_imul 88 F (v := 2 * a1) dX1_takeLetter_87 (by omega) rfl ?_
              refine kx_iload_n 89 F 2 dX1_takeLetter_88 rfl rfl rfl ?_
              refine kx_iadd 90 F (v := 2 * a1 + r_10) dX1_takeLetter_89 rfl rfl ?_
              refine kx_aload_n 91 F 0 dX1_takeLetter_90 rfl rfl rfl ?_
              refine kx_geti 94 F fl_X1_54 hk_c0 rfl rfl (j := 8) rfl dX1_takeLetter_91 (v := (N_79 c0 8)) (by rw [hM_N_93, mu_k hk_c0 hk_92 rfl, Fr.e hG_N_85 hk_c0 _ rfl]) rfl ?_
              refine kx_iast 95 F hk_94 rfl rfl (by omega) (by decide) dX1_takeLetter_94 rfl ?_
              intro N_95 hM_N_95
              have hI_N_95 : Inv false N_95 := Inv.u hI_N_93 hM_N_95 hk_94 (a := 0) (b := 900) rfl rfl rfl (by omega)
              have hF_N_95 : Fr f_c_X1_takeLetter M N_95 := Fr.u hF_N_93 hM_N_95 hk_94 rfl
              have hX_N_95 : XX N_95 := XX.st hX_N_93 hI_N_93 hM_N_95 hk_94 rfl
              refine kx_aload_n 96 F 0 dX1_takeLetter_95 rfl rfl rfl ?_
              refine kx_getr 99 F fl_X1_12 hk_c0 rfl rfl (j := 0) rfl dX1_takeLetter_96 (v := (M c0 0)) (by rw [hM_N_95, mu_k hk_c0 hk_94 rfl, hM_N_93, mu_k hk_c0 hk_92 rfl, Fr.e hG_N_85 hk_c0 _ rfl, Fr.e hG_N_79 hk_c0 _ rfl]) rfl ?_
              refine kx_iload_n 100 F 1 dX1_takeLetter_99 rfl rfl rfl ?_
              have e_96 : (N_95 (M c0 0) 0) = (M (M c0 0) 0) := by rw [hM_N_95, mu_k hk_3 hk_94 rfl, hM_N_93, mu_k hk_3 hk_92 rfl, Fr.e hG_N_85 hk_3 _ rfl, Fr.e hG_N_79 hk_3 _ rfl]
              have e_97 : (N_95 (M c0 0) 1) = (M (M c0 0) 1) := by rw [hM_N_95, mu_k hk_3 hk_94 rfl, hM_N_93, mu_k hk_3 hk_92 rfl, Fr.e hG_N_85 hk_3 _ rfl, Fr.e hG_N_79 hk_3 _ rfl]
              have e_98 : (N_95 (M c0 0) 2) = (M (M c0 0) 2) := by rw [hM_N_95, mu_k hk_3 hk_94 rfl, hM_N_93, mu_k hk_3 hk_92 rfl, Fr.e hG_N_85 hk_3 _ rfl, Fr.e hG_N_79 hk_3 _ rfl]
              have e_99 : (N_95 (M c0 0) 0) = (M (M c0 0) 0) := by rw [hM_N_95, mu_k hk_3 hk_94 rfl, hM_N_93, mu_k hk_3 hk_92 rfl, Fr.e hG_N_85 hk_3 _ rfl, Fr.e hG_N_79 hk_3 _ rfl]
              have e_100 : (N_95 (M c0 0) 1) = (M (M c0 0) 1) := by rw [hM_N_95, mu_k hk_3 hk_94 rfl, hM_N_93, mu_k hk_3 hk_92 rfl, Fr.e hG_N_85 hk_3 _ rfl, Fr.e hG_N_79 hk_3 _ rfl]
              have e_101 : (N_95 (M c0 0) 2) = (M (M c0 0) 2) := by rw [hM_N_95, mu_k hk_3 hk_94 rfl, hM_N_93, mu_k hk_3 hk_92 rfl, Fr.e hG_N_85 hk_3 _ rfl, Fr.e hG_N_79 hk_3 _ rfl]
              have e_102 : (N_95 (M c0 0) 0) = (M (M c0 0) 0) := by rw [hM_N_95, mu_k hk_3 hk_94 rfl, hM_N_93, mu_k hk_3 hk_92 rfl, Fr.e hG_N_85 hk_3 _ rfl, Fr.e hG_N_79 hk_3 _ rfl]
              have e_103 : (N_95 (M c0 0) 1) = (M (M c0 0) 1) := by rw [hM_N_95, mu_k hk_3 hk_94 rfl, hM_N_93, mu_k hk_3 hk_92 rfl, Fr.e hG_N_85 hk_3 _ rfl, Fr.e hG_N_79 hk_3 _ rfl]
              have e_104 : (N_95 (M c0 0) 2) = (M (M c0 0) 2) := by rw [hM_N_95, mu_k hk_3 hk_94 rfl, hM_N_93, mu_k hk_3 hk_92 rfl, Fr.e hG_N_85 hk_3 _ rfl, Fr.e hG_N_79 hk_3 _ rfl]
              have e_105 : (N_95 (M c0 0) 0) = (M (M c0 0) 0) := by rw [hM_N_95, mu_k hk_3 hk_94 rfl, hM_N_93, mu_k hk_3 hk_92 rfl, Fr.e hG_N_85 hk_3 _ rfl, Fr.e hG_N_79 hk_3 _ rfl]
              have e_106 : (N_95 (M c0 0) 1) = (M (M c0 0) 1) := by rw [hM_N_95, mu_k hk_3 hk_94 rfl, hM_N_93, mu_k hk_3 hk_92 rfl, Fr.e hG_N_85 hk_3 _ rfl, Fr.e hG_N_79 hk_3 _ rfl]
              have e_107 : (N_95 (M c0 0) 2) = (M (M c0 0) 2) := by rw [hM_N_95, mu_k hk_3 hk_94 rfl, hM_N_93, mu_k hk_3 hk_92 rfl, Fr.e hG_N_85 hk_3 _ rfl, Fr.e hG_N_79 hk_3 _ rfl]
              have e_108 : (N_95 (M c0 0) 0) = (M (M c0 0) 0) := by rw [hM_N_95, mu_k hk_3 hk_94 rfl, hM_N_93, mu_k hk_3 hk_92 rfl, Fr.e hG_N_85 hk_3 _ rfl, Fr.e hG_N_79 hk_3 _ rfl]
              have e_109 : (N_95 (M c0 0) 1) = (M (M c0 0) 1) := by rw [hM_N_95, mu_k hk_3 hk_94 rfl, hM_N_93, mu_k hk_3 hk_92 rfl, Fr.e hG_N_85 hk_3 _ rfl, Fr.e hG_N_79 hk_3 _ rfl]
              have e_110 : (N_95 (M c0 0) 2) = (M (M c0 0) 2) := by rw [hM_N_95, mu_k hk_3 hk_94 rfl, hM_N_93, mu_k hk_3 hk_92 rfl, Fr.e hG_N_85 hk_3 _ rfl, Fr.e hG_N_79 hk_3 _ rfl]
              refine kx_Vv 103 (ci := 0) F (As := [vI a1]) (st := []) vd_X1_116 (c_X5_addLetter G l N_95 (M c0 0) a1 hI_N_95 hk_3 (by omega) hX_N_95) hk_3 rfl rfl rfl ⟨by decide, by decide⟩ rfl rfl (Nat.le_of_ble_eq_true rfl) dX1_takeLetter_100 rfl ?_
              intro N_111 q_112
              obtain ⟨hI_N_111, hG_N_111, hX_N_111⟩ := q_112
              have hF_N_111 : Fr f_c_X1_takeLetter M N_111 := Fr.c hF_N_95 hG_N_111 rfl
              refine kx_aload_n 104 F 0 dX1_takeLetter_103 rfl rfl rfl ?_
              have e_113 : (N_111 c0 7) = (N_79 c0 7) := by rw [Fr.e hG_N_111 hk_c0 _ rfl, hM_N_95, mu_k hk_c0 hk_94 rfl, hM_N_93, mu_k hk_c0 hk_92 rfl, Fr.e hG_N_85 hk_c0 _ rfl]
              have e_114 : (N_111 c0 8) = (N_79 c0 8) := by rw [Fr.e hG_N_111 hk_c0 _ rfl, hM_N_95, mu_k hk_c0 hk_94 rfl, hM_N_93, mu_k hk_c0 hk_92 rfl, Fr.e hG_N_85 hk_c0 _ rfl]
              refine kx_Vi 107 (ci := 0) F (As := []) (st := []) vd_X1_57 (c_X1_advance G l N_111 c0 hI_N_111 hk_c0 (by omega)) hk_c0 rfl rfl rfl ⟨by decide, by decide⟩ rfl rfl (Nat.le_of_ble_eq_true rfl) dX1_takeLetter_104 rfl ?_
              intro r_115 N_116 q_117
              obtain ⟨hI_N_116, hG_N_116, q_117c⟩ := q_117
              have hF_N_116 : Fr f_c_X1_takeLetter M N_116 := Fr.c hF_N_111 hG_N_116 rfl
              have hX_N_116 : XX N_116 := XX.fr hX_N_111 hI_N_111 hG_N_116 rfl
              have h_118 := Inv.g hI_N_116 hk_c0 rfl 7 (a := 0) (b := 900) rfl rfl
              have h_119 := Inv.g hI_N_116 hk_c0 rfl 8 (a := 0) (b := 900) rfl rfl
              refine kx_if_eq 110 F 121 dX1_takeLetter_107 (by decide) rfl (by omega) (fun h_120 => ?_) (fun h_120 => ?_)
              · refine kx_iconst 122 F dX1_takeLetter_121 rfl ?_
                exact kx_zret F hQ (by omega) ⟨hI_N_116, hF_N_116, (by omega), hX_N_116⟩ dX1_takeLetter_122
              · refine kx_aload_n 111 F 0 dX1_takeLetter_110 rfl rfl rfl ?_
                refine kx_Vi 114 (ci := 0) F (As := []) (st := []) vd_X1_120 (c_X1_standsSign G l N_116 c0 hI_N_116 hk_c0) hk_c0 rfl rfl rfl ⟨by decide, by decide⟩ rfl rfl (Nat.le_of_ble_eq_true rfl) dX1_takeLetter_111 rfl ?_
                intro r_121 N_122 q_123
                obtain ⟨hI_N_122, hG_N_122, q_123c⟩ := q_123
                have hF_N_122 : Fr f_c_X1_takeLetter M N_122 := Fr.c hF_N_116 hG_N_122 rfl
                have hX_N_122 : XX N_122 := XX.fr hX_N_116 hI_N_116 hG_N_122 rfl
                refine kx_if_eq 117 F 121 dX1_takeLetter_114 (by decide) rfl (by omega) (fun h_124 => ?_) (fun h_124 => ?_)
                · refine kx_iconst 122 F dX1_takeLetter_121 rfl ?_
                  have e_125 : (N_122 c0 7) = (N_116 c0 7) := by rw [Fr.e hG_N_122 hk_c0 _ rfl]
                  have e_126 : (N_122 c0 8) = (N_116 c0 8) := by rw [Fr.e hG_N_122 hk_c0 _ rfl]
                  exact kx_zret F hQ (by omega) ⟨hI_N_122, hF_N_122, (by omega), hX_N_122⟩ dX1_takeLetter_122
                · refine kx_iconst 118 F dX1_takeLetter_117 rfl ?_
                  refine kx_goto 122 F dX1_takeLetter_118 (by decide) ?_
                  have e_127 : (N_122 c0 7) = (N_116 c0 7) := by rw [Fr.e hG_N_122 hk_c0 _ rfl]
                  have e_128 : (N_122 c0 8) = (N_116 c0 8) := by rw [Fr.e hG_N_122 hk_c0 _ rfl]
                  exact kx_zret F hQ (by omega) ⟨hI_N_122, hF_N_122, (by omega), hX_N_122⟩ dX1_takeLetter_122
            · refine kx_aload_n 62 F 0 dX1_takeLetter_61 rfl rfl rfl ?_
              refine kx_iconst 63 F dX1_takeLetter_62 rfl ?_
              refine kx_Vi 66 (ci := 0) F (As := [vI 3]) (st := []) vd_X1_89 (c_X1_fail G l N_85 c0 3 hI_N_85 hk_c0 (by omega)) hk_c0 rfl rfl rfl ⟨by decide, by decide⟩ rfl rfl (Nat.le_of_ble_eq_true rfl) dX1_takeLetter_63 rfl ?_
              intro r_129 N_130 q_131
              obtain ⟨hI_N_130, hG_N_130, q_131c⟩ := q_131
              have hF_N_130 : Fr f_c_X1_takeLetter M N_130 := Fr.c hF_N_85 hG_N_130 rfl
              have hX_N_130 : XX N_130 := XX.fr hX_N_85 hI_N_85 hG_N_130 rfl
              subst q_131c
              have e_132 : (N_130 c0 7) = (N_79 c0 7) := by rw [Fr.e hG_N_130 hk_c0 _ rfl, Fr.e hG_N_85 hk_c0 _ rfl]
              have e_133 : (N_130 c0 8) = (N_79 c0 8) := by rw [Fr.e hG_N_130 hk_c0 _ rfl, Fr.e hG_N_85 hk_c0 _ rfl]
              exact kx_zret F hQ (by omega) ⟨hI_N_130, hF_N_130, (by omega), hX_N_130⟩ dX1_takeLetter_66
          · refine kx_iconst 52 F dX1_takeLetter_51 rfl ?_
            have e_134 : (N_85 c0 7) = (N_79 c0 7) := by rw [Fr.e hG_N_85 hk_c0 _ rfl]
            have e_135 : (N_85 c0 8) = (N_79 c0 8) := by rw [Fr.e hG_N_85 hk_c0 _ rfl]
            exact kx_zret F hQ (by omega) ⟨hI_N_85, hF_N_85, (by omega), hX_N_85⟩ dX1_takeLetter_52
      · refine kx_aload_n 31 F 0 dX1_takeLetter_30 rfl rfl rfl ?_
        refine kx_bipush 33 F dX1_takeLetter_31 (by decide) rfl ?_
        refine kx_Vi 36 (ci := 0) F (As := [vI 6]) (st := []) vd_X1_89 (c_X1_fail G l M c0 6 hI_M hk_c0 (by omega)) hk_c0 rfl rfl rfl ⟨by decide, by decide⟩ rfl rfl (Nat.le_of_ble_eq_true rfl) dX1_takeLetter_33 rfl ?_
        intro r_136 N_137 q_138
        obtain ⟨hI_N_137, hG_N_137, q_138c⟩ := q_138
        have hF_N_137 : Fr f_c_X1_takeLetter M N_137 := Fr.c hF_M hG_N_137 rfl
        have hX_N_137 : XX N_137 := XX.fr hX_M hI_M hG_N_137 rfl
        subst q_138c
        have e_139 : (N_137 c0 7) = (M c0 7) := by rw [Fr.e hG_N_137 hk_c0 _ rfl]
        have e_140 : (N_137 c0 8) = (M c0 8) := by rw [Fr.e hG_N_137 hk_c0 _ rfl]
        exact kx_zret F hQ (by omega) ⟨hI_N_137, hF_N_137, (by omega), hX_N_137⟩ dX1_takeLetter_36
    · refine kx_istore_n 25 F 2 (lo' := [some (vR G c0), some (vI a1), some (vI r_10)]) dX1_takeLetter_24 rfl (by decide) rfl rfl rfl ?_
      refine kx_iload_n 26 F 2 dX1_takeLetter_25 rfl rfl rfl ?_
      refine kx_iconst 27 F dX1_takeLetter_26 rfl ?_
      refine kx_icmp_lt 30 F 37 dX1_takeLetter_27 (by decide) rfl (by omega) (by decide) (fun h_141 => ?_) (fun h_141 => ?_)
      · refine kx_aload_n 38 F 0 dX1_takeLetter_37 rfl rfl rfl ?_
        refine kx_Vi 41 (ci := 0) F (As := []) (st := []) vd_X1_57 (c_X1_advance G l M c0 hI_M hk_c0 (by omega)) hk_c0 rfl rfl rfl ⟨by decide, by decide⟩ rfl rfl (Nat.le_of_ble_eq_true rfl) dX1_takeLetter_38 rfl ?_
        intro r_142 N_143 q_144
        obtain ⟨hI_N_143, hG_N_143, q_144c⟩ := q_144
        have hF_N_143 : Fr f_c_X1_takeLetter M N_143 := Fr.c hF_M hG_N_143 rfl
        have hX_N_143 : XX N_143 := XX.fr hX_M hI_M hG_N_143 rfl
        have h_145 := Inv.g hI_N_143 hk_c0 rfl 7 (a := 0) (b := 900) rfl rfl
        have h_146 := Inv.g hI_N_143 hk_c0 rfl 8 (a := 0) (b := 900) rfl rfl
        refine kx_if_eq 44 F 51 dX1_takeLetter_41 (by decide) rfl (by omega) (fun h_147 => ?_) (fun h_147 => ?_)
        · refine kx_iconst 52 F dX1_takeLetter_51 rfl ?_
          exact kx_zret F hQ (by omega) ⟨hI_N_143, hF_N_143, (by omega), hX_N_143⟩ dX1_takeLetter_52
        · refine kx_aload_n 45 F 0 dX1_takeLetter_44 rfl rfl rfl ?_
          refine kx_Vi 48 (ci := 0) F (As := []) (st := []) vd_X1_109 (c_X1_standsName G l N_143 c0 hI_N_143 hk_c0) hk_c0 rfl rfl rfl ⟨by decide, by decide⟩ rfl rfl (Nat.le_of_ble_eq_true rfl) dX1_takeLetter_45 rfl ?_
          intro r_148 N_149 q_150
          obtain ⟨hI_N_149, hG_N_149, q_150c⟩ := q_150
          have hF_N_149 : Fr f_c_X1_takeLetter M N_149 := Fr.c hF_N_143 hG_N_149 rfl
          have hX_N_149 : XX N_149 := XX.fr hX_N_143 hI_N_143 hG_N_149 rfl
          refine kx_if_ne 51 F 53 dX1_takeLetter_48 (by decide) rfl (by omega) (fun h_151 => ?_) (fun h_151 => ?_)
          · refine kx_aload_n 54 F 0 dX1_takeLetter_53 rfl rfl rfl ?_
            refine kx_Vi 57 (ci := 0) F (As := []) (st := []) vd_X1_112 (c_X1_findName G l N_149 c0 hI_N_149 hk_c0) hk_c0 rfl rfl rfl ⟨by decide, by decide⟩ rfl rfl (Nat.le_of_ble_eq_true rfl) dX1_takeLetter_54 rfl ?_
            intro r_152 N_153 q_154
            obtain ⟨rfl, q_154c⟩ := q_154
            refine kx_iconst 58 F dX1_takeLetter_57 rfl ?_
            refine kx_icmp_eq 61 F 67 dX1_takeLetter_58 (by decide) rfl (by omega) (by decide) (fun h_155 => ?_) (fun h_155 => ?_)
            · refine kx_aload_n 68 F 0 dX1_takeLetter_67 rfl rfl rfl ?_
              refine kx_getr 71 F fl_X1_29 hk_c0 rfl rfl (j := 10) rfl dX1_takeLetter_68 (v := (M c0 10)) (by rw [Fr.e hG_N_149 hk_c0 _ rfl, Fr.e hG_N_143 hk_c0 _ rfl]) rfl ?_
              have hk_156 : kd (M c0 10) = 19 := Inv.r hI_M hk_c0 rfl 10 rfl rfl
              refine kx_iload_n 72 F 1 dX1_takeLetter_71 rfl rfl rfl ?_
              refine kx_iconst 73 F dX1_takeLetter_72 rfl ?_
              refine kx_imul 74 F (v := 2 * a1) dX1_takeLetter_73 (by omega) rfl ?_
              refine kx_iload_n 75 F 2 dX1_takeLetter_74 rfl rfl rfl ?_
              refine kx_iadd 76 F (v := 2 * a1 + r_10) dX1_takeLetter_75 rfl rfl ?_
              refine kx_aload_n 77 F 0 dX1_takeLetter_76 rfl rfl rfl ?_
              refine kx_geti 80 F fl_X1_51 hk_c0 rfl rfl (j := 7) rfl dX1_takeLetter_77 (v := (N_143 c0 7)) (by rw [Fr.e hG_N_149 hk_c0 _ rfl]) rfl ?_
              refine kx_iast 81 F hk_156 rfl rfl (by omega) (by decide) dX1_takeLetter_80 rfl ?_
              intro N_157 hM_N_157
              have hI_N_157 : Inv false N_157 := Inv.u hI_N_149 hM_N_157 hk_156 (a := 0) (b := 900) rfl rfl rfl (by omega)
              have hF_N_157 : Fr f_c_X1_takeLetter M N_157 := Fr.u hF_N_149 hM_N_157 hk_156 rfl
              have hX_N_157 : XX N_157 := XX.st hX_N_149 hI_N_149 hM_N_157 hk_156 rfl
              refine kx_aload_n 82 F 0 dX1_takeLetter_81 rfl rfl rfl ?_
              refine kx_getr 85 F fl_X1_33 hk_c0 rfl rfl (j := 11) rfl dX1_takeLetter_82 (v := (M c0 11)) (by rw [hM_N_157, mu_k hk_c0 hk_156 rfl, Fr.e hG_N_149 hk_c0 _ rfl, Fr.e hG_N_143 hk_c0 _ rfl]) rfl ?_
              have hk_158 : kd (M c0 11) = 20 := Inv.r hI_M hk_c0 rfl 11 rfl rfl
              refine kx_iload_n 86 F 1 dX1_takeLetter_85 rfl rfl rfl ?_
              refine kx_iconst 87 F dX1_takeLetter_86 rfl ?_
              refine kx_imul 88 F (v := 2 * a1) dX1_takeLetter_87 (by omega) rfl ?_
              refine kx_iload_n 89 F 2 dX1_takeLetter_88 rfl rfl rfl ?_
              refine kx_iadd 90 F (v := 2 * a1 + r_10) dX1_takeLetter_89 rfl rfl ?_
              refine kx_aload_n 91 F 0 dX1_takeLetter_90 rfl rfl rfl ?_
              refine kx_geti 94 F fl_X1_54 hk_c0 rfl rfl (j := 8) rfl dX1_takeLetter_91 (v := (N_143 c0 8)) (by rw [hM_N_157, mu_k hk_c0 hk_156 rfl, Fr.e hG_N_149 hk_c0 _ rfl]) rfl ?_
              refine kx_iast 95 F hk_158 rfl rfl (by omega) (by decide) dX1_takeLetter_94 rfl ?_
              intro N_159 hM_N_159
              have hI_N_159 : Inv false N_159 := Inv.u hI_N_157 hM_N_159 hk_158 (a := 0) (b := 900) rfl rfl rfl (by omega)
              have hF_N_159 : Fr f_c_X1_takeLetter M N_159 := Fr.u hF_N_157 hM_N_159 hk_158 rfl
              have hX_N_159 : XX N_159 := XX.st hX_N_157 hI_N_157 hM_N_159 hk_158 rfl
              refine kx_aload_n 96 F 0 dX1_takeLetter_95 rfl rfl rfl ?_
              refine kx_getr 99 F fl_X1_12 hk_c0 rfl rfl (j := 0) rfl dX1_takeLetter_96 (v := (M c0 0)) (by rw [hM_N_159, mu_k hk_c0 hk_158 rfl, hM_N_157, mu_k hk_c0 hk_156 rfl, Fr.e hG_N_149 hk_c0 _ rfl, Fr.e hG_N_143 hk_c0 _ rfl]) rfl ?_
              refine kx_iload_n 100 F 1 dX1_takeLetter_99 rfl rfl rfl ?_
              have e_160 : (N_159 (M c0 0) 0) = (M (M c0 0) 0) := by rw [hM_N_159, mu_k hk_3 hk_158 rfl, hM_N_157, mu_k hk_3 hk_156 rfl, Fr.e hG_N_149 hk_3 _ rfl, Fr.e hG_N_143 hk_3 _ rfl]
              have e_161 : (N_159 (M c0 0) 1) = (M (M c0 0) 1) := by rw [hM_N_159, mu_k hk_3 hk_158 rfl, hM_N_157, mu_k hk_3 hk_156 rfl, Fr.e hG_N_149 hk_3 _ rfl, Fr.e hG_N_143 hk_3 _ rfl]
              have e_162 : (N_159 (M c0 0) 2) = (M (M c0 0) 2) := by rw [hM_N_159, mu_k hk_3 hk_158 rfl, hM_N_157, mu_k hk_3 hk_156 rfl, Fr.e hG_N_149 hk_3 _ rfl, Fr.e hG_N_143 hk_3 _ rfl]
              have e_163 : (N_159 (M c0 0) 0) = (M (M c0 0) 0) := by rw [hM_N_159, mu_k hk_3 hk_158 rfl, hM_N_157, mu_k hk_3 hk_156 rfl, Fr.e hG_N_149 hk_3 _ rfl, Fr.e hG_N_143 hk_3 _ rfl]
              have e_164 : (N_159 (M c0 0) 1) = (M (M c0 0) 1) := by rw [hM_N_159, mu_k hk_3 hk_158 rfl, hM_N_157, mu_k hk_3 hk_156 rfl, Fr.e hG_N_149 hk_3 _ rfl, Fr.e hG_N_143 hk_3 _ rfl]
              have e_165 : (N_159 (M c0 0) 2) = (M (M c0 0) 2) := by rw [hM_N_159, mu_k hk_3 hk_158 rfl, hM_N_157, mu_k hk_3 hk_156 rfl, Fr.e hG_N_149 hk_3 _ rfl, Fr.e hG_N_143 hk_3 _ rfl]
              have e_166 : (N_159 (M c0 0) 0) = (M (M c0 0) 0) := by rw [hM_N_159, mu_k hk_3 hk_158 rfl, hM_N_157, mu_k hk_3 hk_156 rfl, Fr.e hG_N_149 hk_3 _ rfl, Fr.e hG_N_143 hk_3 _ rfl]
              have e_167 : (N_159 (M c0 0) 1) = (M (M c0 0) 1) := by rw [hM_N_159, mu_k hk_3 hk_158 rfl, hM_N_157, mu_k hk_3 hk_156 rfl, Fr.e hG_N_149 hk_3 _ rfl, Fr.e hG_N_143 hk_3 _ rfl]
              have e_168 : (N_159 (M c0 0) 2) = (M (M c0 0) 2) := by rw [hM_N_159, mu_k hk_3 hk_158 rfl, hM_N_157, mu_k hk_3 hk_156 rfl, Fr.e hG_N_149 hk_3 _ rfl, Fr.e hG_N_143 hk_3 _ rfl]
              have e_169 : (N_159 (M c0 0) 0) = (M (M c0 0) 0) := by rw [hM_N_159, mu_k hk_3 hk_158 rfl, hM_N_157, mu_k hk_3 hk_156 rfl, Fr.e hG_N_149 hk_3 _ rfl, Fr.e hG_N_143 hk_3 _ rfl]
              have e_170 : (N_159 (M c0 0) 1) = (M (M c0 0) 1) := by rw [hM_N_159, mu_k hk_3 hk_158 rfl, hM_N_157, mu_k hk_3 hk_156 rfl, Fr.e hG_N_149 hk_3 _ rfl, Fr.e hG_N_143 hk_3 _ rfl]
              have e_171 : (N_159 (M c0 0) 2) = (M (M c0 0) 2) := by rw [hM_N_159, mu_k hk_3 hk_158 rfl, hM_N_157, mu_k hk_3 hk_156 rfl, Fr.e hG_N_149 hk_3 _ rfl, Fr.e hG_N_143 hk_3 _ rfl]
              have e_172 : (N_159 (M c0 0) 0) = (M (M c0 0) 0) := by rw [hM_N_159, mu_k hk_3 hk_158 rfl, hM_N_157, mu_k hk_3 hk_156 rfl, Fr.e hG_N_149 hk_3 _ rfl, Fr.e hG_N_143 hk_3 _ rfl]
              have e_173 : (N_159 (M c0 0) 1) = (M (M c0 0) 1) := by rw [hM_N_159, mu_k hk_3 hk_158 rfl, hM_N_157, mu_k hk_3 hk_156 rfl, Fr.e hG_N_149 hk_3 _ rfl, Fr.e hG_N_143 hk_3 _ rfl]
              have e_174 : (N_159 (M c0 0) 2) = (M (M c0 0) 2) := by rw [hM_N_159, mu_k hk_3 hk_158 rfl, hM_N_157, mu_k hk_3 hk_156 rfl, Fr.e hG_N_149 hk_3 _ rfl, Fr.e hG_N_143 hk_3 _ rfl]
              refine kx_Vv 103 (ci := 0) F (As := [vI a1]) (st := []) vd_X1_116 (c_X5_addLetter G l N_159 (M c0 0) a1 hI_N_159 hk_3 (by omega) hX_N_159) hk_3 rfl rfl rfl ⟨by decide, by decide⟩ rfl rfl (Nat.le_of_ble_eq_true rfl) dX1_takeLetter_100 rfl ?_
              intro N_175 q_176
              obtain ⟨hI_N_175, hG_N_175, hX_N_175⟩ := q_176
              have hF_N_175 : Fr f_c_X1_takeLetter M N_175 := Fr.c hF_N_159 hG_N_175 rfl
              refine kx_aload_n 104 F 0 dX1_takeLetter_103 rfl rfl rfl ?_
              have e_177 : (N_175 c0 7) = (N_143 c0 7) := by rw [Fr.e hG_N_175 hk_c0 _ rfl, hM_N_159, mu_k hk_c0 hk_158 rfl, hM_N_157, mu_k hk_c0 hk_156 rfl, Fr.e hG_N_149 hk_c0 _ rfl]
              have e_178 : (N_175 c0 8) = (N_143 c0 8) := by rw [Fr.e hG_N_175 hk_c0 _ rfl, hM_N_159, mu_k hk_c0 hk_158 rfl, hM_N_157, mu_k hk_c0 hk_156 rfl, Fr.e hG_N_149 hk_c0 _ rfl]
              refine kx_Vi 107 (ci := 0) F (As := []) (st := []) vd_X1_57 (c_X1_advance G l N_175 c0 hI_N_175 hk_c0 (by omega)) hk_c0 rfl rfl rfl ⟨by decide, by decide⟩ rfl rfl (Nat.le_of_ble_eq_true rfl) dX1_takeLetter_104 rfl ?_
              intro r_179 N_180 q_181
              obtain ⟨hI_N_180, hG_N_180, q_181c⟩ := q_181
              have hF_N_180 : Fr f_c_X1_takeLetter M N_180 := Fr.c hF_N_175 hG_N_180 rfl
              have hX_N_180 : XX N_180 := XX.fr hX_N_175 hI_N_175 hG_N_180 rfl
              have h_182 := Inv.g hI_N_180 hk_c0 rfl 7 (a := 0) (b := 900) rfl rfl
              have h_183 := Inv.g hI_N_180 hk_c0 rfl 8 (a := 0) (b := 900) rfl rfl
              refine kx_if_eq 110 F 121 dX1_takeLetter_107 (by decide) rfl (by omega) (fun h_184 => ?_) (fun h_184 => ?_)
              · refine kx_iconst 122 F dX1_takeLetter_121 rfl ?_
                exact kx_zret F hQ (by omega) ⟨hI_N_180, hF_N_180, (by omega), hX_N_180⟩ dX1_takeLetter_122
              · refine kx_aload_n 111 F 0 dX1_takeLetter_110 rfl rfl rfl ?_
                refine kx_Vi 114 (ci := 0) F (As := []) (st := []) vd_X1_120 (c_X1_standsSign G l N_180 c0 hI_N_180 hk_c0) hk_c0 rfl rfl rfl ⟨by decide, by decide⟩ rfl rfl (Nat.le_of_ble_eq_true rfl) dX1_takeLetter_111 rfl ?_
                intro r_185 N_186 q_187
                obtain ⟨hI_N_186, hG_N_186, q_187c⟩ := q_187
                have hF_N_186 : Fr f_c_X1_takeLetter M N_186 := Fr.c hF_N_180 hG_N_186 rfl
                have hX_N_186 : XX N_186 := XX.fr hX_N_180 hI_N_180 hG_N_186 rfl
                refine kx_if_eq 117 F 121 dX1_takeLetter_114 (by decide) rfl (by omega) (fun h_188 => ?_) (fun h_188 => ?_)
                · refine kx_iconst 122 F dX1_takeLetter_121 rfl ?_
                  have e_189 : (N_186 c0 7) = (N_180 c0 7) := by rw [Fr.e hG_N_186 hk_c0 _ rfl]
                  have e_190 : (N_186 c0 8) = (N_180 c0 8) := by rw [Fr.e hG_N_186 hk_c0 _ rfl]
                  exact kx_zret F hQ (by omega) ⟨hI_N_186, hF_N_186, (by omega), hX_N_186⟩ dX1_takeLetter_122
                · refine kx_iconst 118 F dX1_takeLetter_117 rfl ?_
                  refine kx_goto 122 F dX1_takeLetter_118 (by decide) ?_
                  have e_191 : (N_186 c0 7) = (N_180 c0 7) := by rw [Fr.e hG_N_186 hk_c0 _ rfl]
                  have e_192 : (N_186 c0 8) = (N_180 c0 8) := by rw [Fr.e hG_N_186 hk_c0 _ rfl]
                  exact kx_zret F hQ (by omega) ⟨hI_N_186, hF_N_186, (by omega), hX_N_186⟩ dX1_takeLetter_122
            · refine kx_aload_n 62 F 0 dX1_takeLetter_61 rfl rfl rfl ?_
              refine kx_iconst 63 F dX1_takeLetter_62 rfl ?_
              refine kx_Vi 66 (ci := 0) F (As := [vI 3]) (st := []) vd_X1_89 (c_X1_fail G l N_149 c0 3 hI_N_149 hk_c0 (by omega)) hk_c0 rfl rfl rfl ⟨by decide, by decide⟩ rfl rfl (Nat.le_of_ble_eq_true rfl) dX1_takeLetter_63 rfl ?_
              intro r_193 N_194 q_195
              obtain ⟨hI_N_194, hG_N_194, q_195c⟩ := q_195
              have hF_N_194 : Fr f_c_X1_takeLetter M N_194 := Fr.c hF_N_149 hG_N_194 rfl
              have hX_N_194 : XX N_194 := XX.fr hX_N_149 hI_N_149 hG_N_194 rfl
              subst q_195c
              have e_196 : (N_194 c0 7) = (N_143 c0 7) := by rw [Fr.e hG_N_194 hk_c0 _ rfl, Fr.e hG_N_149 hk_c0 _ rfl]
              have e_197 : (N_194 c0 8) = (N_143 c0 8) := by rw [Fr.e hG_N_194 hk_c0 _ rfl, Fr.e hG_N_149 hk_c0 _ rfl]
              exact kx_zret F hQ (by omega) ⟨hI_N_194, hF_N_194, (by omega), hX_N_194⟩ dX1_takeLetter_66
          · refine kx_iconst 52 F dX1_takeLetter_51 rfl ?_
            have e_198 : (N_149 c0 7) = (N_143 c0 7) := by rw [Fr.e hG_N_149 hk_c0 _ rfl]
            have e_199 : (N_149 c0 8) = (N_143 c0 8) := by rw [Fr.e hG_N_149 hk_c0 _ rfl]
            exact kx_zret F hQ (by omega) ⟨hI_N_149, hF_N_149, (by omega), hX_N_149⟩ dX1_takeLetter_52
      · refine kx_aload_n 31 F 0 dX1_takeLetter_30 rfl rfl rfl ?_
        refine kx_bipush 33 F dX1_takeLetter_31 (by decide) rfl ?_
        refine kx_Vi 36 (ci := 0) F (As := [vI 6]) (st := []) vd_X1_89 (c_X1_fail G l M c0 6 hI_M hk_c0 (by omega)) hk_c0 rfl rfl rfl ⟨by decide, by decide⟩ rfl rfl (Nat.le_of_ble_eq_true rfl) dX1_takeLetter_33 rfl ?_
        intro r_200 N_201 q_202
        obtain ⟨hI_N_201, hG_N_201, q_202c⟩ := q_202
        have hF_N_201 : Fr f_c_X1_takeLetter M N_201 := Fr.c hF_M hG_N_201 rfl
        have hX_N_201 : XX N_201 := XX.fr hX_M hI_M hG_N_201 rfl
        subst q_202c
        have e_203 : (N_201 c0 7) = (M c0 7) := by rw [Fr.e hG_N_201 hk_c0 _ rfl]
        have e_204 : (N_201 c0 8) = (M c0 8) := by rw [Fr.e hG_N_201 hk_c0 _ rfl]
        exact kx_zret F hQ (by omega) ⟨hI_N_201, hF_N_201, (by omega), hX_N_201⟩ dX1_takeLetter_36
  · refine kx_aload_n 11 F 0 dX1_takeLetter_10 rfl rfl rfl ?_
    refine kx_iconst 12 F dX1_takeLetter_11 rfl ?_
    refine kx_Vi 15 (ci := 0) F (As := [vI 5]) (st := []) vd_X1_89 (c_X1_fail G l M c0 5 hI_M hk_c0 (by omega)) hk_c0 rfl rfl rfl ⟨by decide, by decide⟩ rfl rfl (Nat.le_of_ble_eq_true rfl) dX1_takeLetter_12 rfl ?_
    intro r_205 N_206 q_207
    obtain ⟨hI_N_206, hG_N_206, q_207c⟩ := q_207
    have hF_N_206 : Fr f_c_X1_takeLetter M N_206 := Fr.c hF_M hG_N_206 rfl
    have hX_N_206 : XX N_206 := XX.fr hX_M hI_M hG_N_206 rfl
    subst q_207c
    have e_208 : (N_206 c0 7) = (M c0 7) := by rw [Fr.e hG_N_206 hk_c0 _ rfl]
    have e_209 : (N_206 c0 8) = (M c0 8) := by rw [Fr.e hG_N_206 hk_c0 _ rfl]
    exact kx_zret F hQ (by omega) ⟨hI_N_206, hF_N_206, (by omega), hX_N_206⟩ dX1_takeLetter_15
