theorem dX2_image_0 : decode cX2_image 0 = .ok (.iload_n 0, 1) := by decide +kernel
theorem dX2_image_1 : decode cX2_image 1 = .ok (.iconst 1, 1) := by decide +kernel
theorem dX2_image_2 : decode cX2_image 2 = .ok (.iand, 1) := by decide +kernel
theorem dX2_image_3 : decode cX2_image 3 = .ok (.iload_n 1, 1) := by decide +kernel
theorem dX2_image_4 : decode cX2_image 4 = .ok (.bipush 7, 2) := by decide +kernel
theorem dX2_image_6 : decode cX2_image 6 = .ok (.iand, 1) := by decide +kernel
theorem dX2_image_7 : decode cX2_image 7 = .ok (.imul, 1) := by decide +kernel
theorem dX2_image_8 : decode cX2_image 8 = .ok (.iload_n 0, 1) := by decide +kernel
theorem dX2_image_9 : decode cX2_image 9 = .ok (.iconst 1, 1) := by decide +kernel
theorem dX2_image_10 : decode cX2_image 10 = .ok (.ishr, 1) := by decide +kernel
theorem dX2_image_11 : decode cX2_image 11 = .ok (.iconst 1, 1) := by decide +kernel
theorem dX2_image_12 : decode cX2_image 12 = .ok (.iand, 1) := by decide +kernel
theorem dX2_image_13 : decode cX2_image 13 = .ok (.iload_n 1, 1) := by decide +kernel
theorem dX2_image_14 : decode cX2_image 14 = .ok (.iconst 3, 1) := by decide +kernel
theorem dX2_image_15 : decode cX2_image 15 = .ok (.ishr, 1) := by decide +kernel
theorem dX2_image_16 : decode cX2_image 16 = .ok (.bipush 7, 2) := by decide +kernel
theorem dX2_image_18 : decode cX2_image 18 = .ok (.iand, 1) := by decide +kernel
theorem dX2_image_19 : decode cX2_image 19 = .ok (.imul, 1) := by decide +kernel
theorem dX2_image_20 : decode cX2_image 20 = .ok (.ior, 1) := by decide +kernel
theorem dX2_image_21 : decode cX2_image 21 = .ok (.iload_n 0, 1) := by decide +kernel
theorem dX2_image_22 : decode cX2_image 22 = .ok (.iconst 2, 1) := by decide +kernel
theorem dX2_image_23 : decode cX2_image 23 = .ok (.ishr, 1) := by decide +kernel
theorem dX2_image_24 : decode cX2_image 24 = .ok (.iconst 1, 1) := by decide +kernel
theorem dX2_image_25 : decode cX2_image 25 = .ok (.iand, 1) := by decide +kernel
theorem dX2_image_26 : decode cX2_image 26 = .ok (.iload_n 1, 1) := by decide +kernel
theorem dX2_image_27 : decode cX2_image 27 = .ok (.bipush 6, 2) := by decide +kernel
theorem dX2_image_29 : decode cX2_image 29 = .ok (.ishr, 1) := by decide +kernel
theorem dX2_image_30 : decode cX2_image 30 = .ok (.bipush 7, 2) := by decide +kernel
theorem dX2_image_32 : decode cX2_image 32 = .ok (.iand, 1) := by decide +kernel
theorem dX2_image_33 : decode cX2_image 33 = .ok (.imul, 1) := by decide +kernel
theorem dX2_image_34 : decode cX2_image 34 = .ok (.ior, 1) := by decide +kernel
theorem dX2_image_35 : decode cX2_image 35 = .ok (.ireturn, 1) := by decide +kernel
set_option maxHeartbeats 4000000 in
set_option maxRecDepth 100000 in
theorem c_X2_image (G : KG) (l : Launch) (M : Mem) (a0 a1 : Int) (hI_M : Inv false M) (hpre : -2147483648 ≤ a0 ∧ a0 ≤ 2147483647 ∧ -2147483648 ≤ a1 ∧ a1 ≤ 2147483647) : KC false G l yX2_image cX2_image 2 (some .int) (0, 0) [vI a0, vI a1] M (fun A => kQi false G A (fun (r : Int) (N : Mem) => M = N ∧ (0 ≤ r ∧ r ≤ 7))) := by
  refine kx_met (lo := [some (vI a0), some (vI a1)]) (by decide) (Nat.le_of_ble_eq_true rfl) rfl ?_
  intro X F hQ
  refine kx_iload_n 1 F 0 dX2_image_0 rfl rfl rfl ?_
  refine kx_iconst 2 F dX2_image_1 rfl ?_
  refine kx_iand 3 F (v := (zand a0 1)) dX2_image_2 rfl rfl ?_
  have h_1 := zand_r (a := a0) (b := 1) (by omega)
  refine kx_iload_n 4 F 1 dX2_image_3 rfl rfl rfl ?_
  refine kx_bipush 6 F dX2_image_4 (by decide) rfl ?_
  refine kx_iand 7 F (v := (zand a1 7)) dX2_image_6 rfl rfl ?_
  have h_2 := zand_r (a := a1) (b := 7) (by omega)
  refine kx_imul 8 F (v := ((zand a0 1) * (zand a1 7))) dX2_image_7 rfl rfl ?_
  have h_3 : 0 ≤ ((zand a0 1) * (zand a1 7)) ∧ ((zand a0 1) * (zand a1 7)) ≤ 7 := mul_rng (a := (zand a0 1)) (b := (zand a1 7)) 1 7 (by omega) (by omega) (by decide)
  refine kx_iload_n 9 F 0 dX2_image_8 rfl rfl rfl ?_
  refine kx_iconst 10 F dX2_image_9 rfl ?_
  refine kx_ishr 11 F (v := (zshr a0 1)) dX2_image_10 rfl rfl ?_
  have h_4 := zshr_rng a0 1
  refine kx_iconst 12 F dX2_image_11 rfl ?_
  refine kx_iand 13 F (v := (zand (zshr a0 1) 1)) dX2_image_12 rfl rfl ?_
  have h_5 := zand_r (a := (zshr a0 1)) (b := 1) (by omega)
  refine kx_iload_n 14 F 1 dX2_image_13 rfl rfl rfl ?_
  refine kx_iconst 15 F dX2_image_14 rfl ?_
  refine kx_ishr 16 F (v := (zshr a1 3)) dX2_image_15 rfl rfl ?_
  have h_6 := zshr_rng a1 3
  refine kx_bipush 18 F dX2_image_16 (by decide) rfl ?_
  refine kx_iand 19 F (v := (zand (zshr a1 3) 7)) dX2_image_18 rfl rfl ?_
  have h_7 := zand_r (a := (zshr a1 3)) (b := 7) (by omega)
  refine kx_imul 20 F (v := ((zand (zshr a0 1) 1) * (zand (zshr a1 3) 7))) dX2_image_19 rfl rfl ?_
  have h_8 : 0 ≤ ((zand (zshr a0 1) 1) * (zand (zshr a1 3) 7)) ∧ ((zand (zshr a0 1) 1) * (zand (zshr a1 3) 7)) ≤ 7 := mul_rng (a := (zand (zshr a0 1) 1)) (b := (zand (zshr a1 3) 7)) 1 7 (by omega) (by omega) (by decide)
  refine kx_ior 21 F (v := (zor ((zand a0 1) * (zand a1 7)) ((zand (zshr a0 1) 1) * (zand (zshr a1 3) 7)))) dX2_image_20 rfl rfl ?_
  have h_9 : 0 ≤ (zor ((zand a0 1) * (zand a1 7)) ((zand (zshr a0 1) 1) * (zand (zshr a1 3) 7))) ∧ (zor ((zand a0 1) * (zand a1 7)) ((zand (zshr a0 1) 1) * (zand (zshr a1 3) 7))) < 8 := zor_lt (a := ((zand a0 1) * (zand a1 7))) (b := ((zand (zshr a0 1) 1) * (zand (zshr a1 3) 7))) 3 (by decide) (by omega) (by omega)
  refine kx_iload_n 22 F 0 dX2_image_21 rfl rfl rfl ?_
  refine kx_iconst 23 F dX2_image_22 rfl ?_
  refine kx_ishr 24 F (v := (zshr a0 2)) dX2_image_23 rfl rfl ?_
  have h_10 := zshr_rng a0 2
  refine kx_iconst 25 F dX2_image_24 rfl ?_
  refine kx_iand 26 F (v := (zand (zshr a0 2) 1)) dX2_image_25 rfl rfl ?_
  have h_11 := zand_r (a := (zshr a0 2)) (b := 1) (by omega)
  refine kx_iload_n 27 F 1 dX2_image_26 rfl rfl rfl ?_
  refine kx_bipush 29 F dX2_image_27 (by decide) rfl ?_
  refine kx_ishr 30 F (v := (zshr a1 6)) dX2_image_29 rfl rfl ?_
  have h_12 := zshr_rng a1 6
  refine kx_bipush 32 F dX2_image_30 (by decide) rfl ?_
  refine kx_iand 33 F (v := (zand (zshr a1 6) 7)) dX2_image_32 rfl rfl ?_
  have h_13 := zand_r (a := (zshr a1 6)) (b := 7) (by omega)
  refine kx_imul 34 F (v := ((zand (zshr a0 2) 1) * (zand (zshr a1 6) 7))) dX2_image_33 rfl rfl ?_
  have h_14 : 0 ≤ ((zand (zshr a0 2) 1) * (zand (zshr a1 6) 7)) ∧ ((zand (zshr a0 2) 1) * (zand (zshr a1 6) 7)) ≤ 7 := mul_rng (a := (zand (zshr a0 2) 1)) (b := (zand (zshr a1 6) 7)) 1 7 (by omega) (by omega) (by decide)
  refine kx_ior 35 F (v := (zor (zor ((zand a0 1) * (zand a1 7)) ((zand (zshr a0 1) 1) * (zand (zshr a1 3) 7))) ((zand (zshr a0 2) 1) * (zand (zshr a1 6) 7)))) dX2_image_34 rfl rfl ?_
  have h_15 : 0 ≤ (zor (zor ((zand a0 1) * (zand a1 7)) ((zand (zshr a0 1) 1) * (zand (zshr a1 3) 7))) ((zand (zshr a0 2) 1) * (zand (zshr a1 6) 7))) ∧ (zor (zor ((zand a0 1) * (zand a1 7)) ((zand (zshr a0 1) 1) * (zand (zshr a1 3) 7))) ((zand (zshr a0 2) 1) * (zand (zshr a1 6) 7))) < 8 := zor_lt (a := (zor ((zand a0 1) * (zand a1 7)) ((zand (zshr a0 1) 1) * (zand (zshr a1 3) 7)))) (b := ((zand (zshr a0 2) 1) * (zand (zshr a1 6) 7))) 3 (by decide) (by omega) (by omega)
  exact kx_iret F hQ ⟨rfl, (by omega)⟩ dX2_image_35
theorem dX2_compose_0 : decode cX2_compose 0 = .ok (.iload_n 0, 1) := by decide +kernel
theorem dX2_compose_1 : decode cX2_compose 1 = .ok (.bipush 73, 2) := by decide +kernel
theorem dX2_compose_3 : decode cX2_compose 3 = .ok (.iand, 1) := by decide +kernel
theorem dX2_compose_4 : decode cX2_compose 4 = .ok (.iload_n 1, 1) := by decide +kernel
theorem dX2_compose_5 : decode cX2_compose 5 = .ok (.bipush 7, 2) := by decide +kernel
theorem dX2_compose_7 : decode cX2_compose 7 = .ok (.iand, 1) := by decide +kernel
theorem dX2_compose_8 : decode cX2_compose 8 = .ok (.imul, 1) := by decide +kernel
theorem dX2_compose_9 : decode cX2_compose 9 = .ok (.iload_n 0, 1) := by decide +kernel
theorem dX2_compose_10 : decode cX2_compose 10 = .ok (.iconst 1, 1) := by decide +kernel
theorem dX2_compose_11 : decode cX2_compose 11 = .ok (.ishr, 1) := by decide +kernel
theorem dX2_compose_12 : decode cX2_compose 12 = .ok (.bipush 73, 2) := by decide +kernel
theorem dX2_compose_14 : decode cX2_compose 14 = .ok (.iand, 1) := by decide +kernel
theorem dX2_compose_15 : decode cX2_compose 15 = .ok (.iload_n 1, 1) := by decide +kernel
theorem dX2_compose_16 : decode cX2_compose 16 = .ok (.iconst 3, 1) := by decide +kernel
theorem dX2_compose_17 : decode cX2_compose 17 = .ok (.ishr, 1) := by decide +kernel
theorem dX2_compose_18 : decode cX2_compose 18 = .ok (.bipush 7, 2) := by decide +kernel
theorem dX2_compose_20 : decode cX2_compose 20 = .ok (.iand, 1) := by decide +kernel
theorem dX2_compose_21 : decode cX2_compose 21 = .ok (.imul, 1) := by decide +kernel
theorem dX2_compose_22 : decode cX2_compose 22 = .ok (.ior, 1) := by decide +kernel
theorem dX2_compose_23 : decode cX2_compose 23 = .ok (.iload_n 0, 1) := by decide +kernel
theorem dX2_compose_24 : decode cX2_compose 24 = .ok (.iconst 2, 1) := by decide +kernel
theorem dX2_compose_25 : decode cX2_compose 25 = .ok (.ishr, 1) := by decide +kernel
theorem dX2_compose_26 : decode cX2_compose 26 = .ok (.bipush 73, 2) := by decide +kernel
theorem dX2_compose_28 : decode cX2_compose 28 = .ok (.iand, 1) := by decide +kernel
theorem dX2_compose_29 : decode cX2_compose 29 = .ok (.iload_n 1, 1) := by decide +kernel
theorem dX2_compose_30 : decode cX2_compose 30 = .ok (.bipush 6, 2) := by decide +kernel
theorem dX2_compose_32 : decode cX2_compose 32 = .ok (.ishr, 1) := by decide +kernel
theorem dX2_compose_33 : decode cX2_compose 33 = .ok (.bipush 7, 2) := by decide +kernel
theorem dX2_compose_35 : decode cX2_compose 35 = .ok (.iand, 1) := by decide +kernel
theorem dX2_compose_36 : decode cX2_compose 36 = .ok (.imul, 1) := by decide +kernel
theorem dX2_compose_37 : decode cX2_compose 37 = .ok (.ior, 1) := by decide +kernel
theorem dX2_compose_38 : decode cX2_compose 38 = .ok (.ireturn, 1) := by decide +kernel
set_option maxHeartbeats 4000000 in
set_option maxRecDepth 100000 in
theorem c_X2_compose (G : KG) (l : Launch) (M : Mem) (a0 a1 : Int) (hI_M : Inv false M) (hpre : -2147483648 ≤ a0 ∧ a0 ≤ 2147483647 ∧ -2147483648 ≤ a1 ∧ a1 ≤ 2147483647) : KC false G l yX2_compose cX2_compose 2 (some .int) (0, 0) [vI a0, vI a1] M (fun A => kQi false G A (fun (r : Int) (N : Mem) => M = N ∧ (0 ≤ r ∧ r ≤ 511))) := by
  refine kx_met (lo := [some (vI a0), some (vI a1)]) (by decide) (Nat.le_of_ble_eq_true rfl) rfl ?_
  intro X F hQ
  refine kx_iload_n 1 F 0 dX2_compose_0 rfl rfl rfl ?_
  refine kx_bipush 3 F dX2_compose_1 (by decide) rfl ?_
  refine kx_iand 4 F (v := (zand a0 73)) dX2_compose_3 rfl rfl ?_
  have h_1 := zand_r (a := a0) (b := 73) (by omega)
  refine kx_iload_n 5 F 1 dX2_compose_4 rfl rfl rfl ?_
  refine kx_bipush 7 F dX2_compose_5 (by decide) rfl ?_
  refine kx_iand 8 F (v := (zand a1 7)) dX2_compose_7 rfl rfl ?_
  have h_2 := zand_r (a := a1) (b := 7) (by omega)
  refine kx_imul 9 F (v := ((zand a0 73) * (zand a1 7))) dX2_compose_8 rfl rfl ?_
  have h_3 : 0 ≤ ((zand a0 73) * (zand a1 7)) ∧ ((zand a0 73) * (zand a1 7)) ≤ 511 := mul_rng (a := (zand a0 73)) (b := (zand a1 7)) 73 7 (by omega) (by omega) (by decide)
  refine kx_iload_n 10 F 0 dX2_compose_9 rfl rfl rfl ?_
  refine kx_iconst 11 F dX2_compose_10 rfl ?_
  refine kx_ishr 12 F (v := (zshr a0 1)) dX2_compose_11 rfl rfl ?_
  have h_4 := zshr_rng a0 1
  refine kx_bipush 14 F dX2_compose_12 (by decide) rfl ?_
  refine kx_iand 15 F (v := (zand (zshr a0 1) 73)) dX2_compose_14 rfl rfl ?_
  have h_5 := zand_r (a := (zshr a0 1)) (b := 73) (by omega)
  refine kx_iload_n 16 F 1 dX2_compose_15 rfl rfl rfl ?_
  refine kx_iconst 17 F dX2_compose_16 rfl ?_
  refine kx_ishr 18 F (v := (zshr a1 3)) dX2_compose_17 rfl rfl ?_
  have h_6 := zshr_rng a1 3
  refine kx_bipush 20 F dX2_compose_18 (by decide) rfl ?_
  refine kx_iand 21 F (v := (zand (zshr a1 3) 7)) dX2_compose_20 rfl rfl ?_
  have h_7 := zand_r (a := (zshr a1 3)) (b := 7) (by omega)
  refine kx_imul 22 F (v := ((zand (zshr a0 1) 73) * (zand (zshr a1 3) 7))) dX2_compose_21 rfl rfl ?_
  have h_8 : 0 ≤ ((zand (zshr a0 1) 73) * (zand (zshr a1 3) 7)) ∧ ((zand (zshr a0 1) 73) * (zand (zshr a1 3) 7)) ≤ 511 := mul_rng (a := (zand (zshr a0 1) 73)) (b := (zand (zshr a1 3) 7)) 73 7 (by omega) (by omega) (by decide)
  refine kx_ior 23 F (v := (zor ((zand a0 73) * (zand a1 7)) ((zand (zshr a0 1) 73) * (zand (zshr a1 3) 7)))) dX2_compose_22 rfl rfl ?_
  have h_9 : 0 ≤ (zor ((zand a0 73) * (zand a1 7)) ((zand (zshr a0 1) 73) * (zand (zshr a1 3) 7))) ∧ (zor ((zand a0 73) * (zand a1 7)) ((zand (zshr a0 1) 73) * (zand (zshr a1 3) 7))) < 512 := zor_lt (a := ((zand a0 73) * (zand a1 7))) (b := ((zand (zshr a0 1) 73) * (zand (zshr a1 3) 7))) 9 (by decide) (by omega) (by omega)
  refine kx_iload_n 24 F 0 dX2_compose_23 rfl rfl rfl ?_
  refine kx_iconst 25 F dX2_compose_24 rfl ?_
  refine kx_ishr 26 F (v := (zshr a0 2)) dX2_compose_25 rfl rfl ?_
  have h_10 := zshr_rng a0 2
  refine kx_bipush 28 F dX2_compose_26 (by decide) rfl ?_
  refine kx_iand 29 F (v := (zand (zshr a0 2) 73)) dX2_compose_28 rfl rfl ?_
  have h_11 := zand_r (a := (zshr a0 2)) (b := 73) (by omega)
  refine kx_iload_n 30 F 1 dX2_compose_29 rfl rfl rfl ?_
  refine kx_bipush 32 F dX2_compose_30 (by decide) rfl ?_
  refine kx_ishr 33 F (v := (zshr a1 6)) dX2_compose_32 rfl rfl ?_
  have h_12 := zshr_rng a1 6
  refine kx_bipush 35 F dX2_compose_33 (by decide) rfl ?_
  refine kx_iand 36 F (v := (zand (zshr a1 6) 7)) dX2_compose_35 rfl rfl ?_
  have h_13 := zand_r (a := (zshr a1 6)) (b := 7) (by omega)
  refine kx_imul 37 F (v := ((zand (zshr a0 2) 73) * (zand (zshr a1 6) 7))) dX2_compose_36 rfl rfl ?_
  have h_14 : 0 ≤ ((zand (zshr a0 2) 73) * (zand (zshr a1 6) 7)) ∧ ((zand (zshr a0 2) 73) * (zand (zshr a1 6) 7)) ≤ 511 := mul_rng (a := (zand (zshr a0 2) 73)) (b := (zand (zshr a1 6) 7)) 73 7 (by omega) (by omega) (by decide)
  refine kx_ior 38 F (v := (zor (zor ((zand a0 73) * (zand a1 7)) ((zand (zshr a0 1) 73) * (zand (zshr a1 3) 7))) ((zand (zshr a0 2) 73) * (zand (zshr a1 6) 7)))) dX2_compose_37 rfl rfl ?_
  have h_15 : 0 ≤ (zor (zor ((zand a0 73) * (zand a1 7)) ((zand (zshr a0 1) 73) * (zand (zshr a1 3) 7))) ((zand (zshr a0 2) 73) * (zand (zshr a1 6) 7))) ∧ (zor (zor ((zand a0 73) * (zand a1 7)) ((zand (zshr a0 1) 73) * (zand (zshr a1 3) 7))) ((zand (zshr a0 2) 73) * (zand (zshr a1 6) 7))) < 512 := zor_lt (a := (zor ((zand a0 73) * (zand a1 7)) ((zand (zshr a0 1) 73) * (zand (zshr a1 3) 7)))) (b := ((zand (zshr a0 2) 73) * (zand (zshr a1 6) 7))) 9 (by decide) (by omega) (by omega)
  exact kx_iret F hQ ⟨rfl, (by omega)⟩ dX2_compose_38
theorem dX2_identity_0 : decode cX2_identity 0 = .ok (.iconst 0, 1) := by decide +kernel
theorem dX2_identity_1 : decode cX2_identity 1 = .ok (.istore_n 1, 1) := by decide +kernel
theorem dX2_identity_2 : decode cX2_identity 2 = .ok (.iconst 0, 1) := by decide +kernel
theorem dX2_identity_3 : decode cX2_identity 3 = .ok (.istore_n 2, 1) := by decide +kernel
theorem dX2_identity_4 : decode cX2_identity 4 = .ok (.iload_n 2, 1) := by decide +kernel
theorem dX2_identity_5 : decode cX2_identity 5 = .ok (.iload_n 0, 1) := by decide +kernel
theorem dX2_identity_6 : decode cX2_identity 6 = .ok (.if_icmp .ge 22, 3) := by decide +kernel
theorem dX2_identity_9 : decode cX2_identity 9 = .ok (.iload_n 2, 1) := by decide +kernel
theorem dX2_identity_10 : decode cX2_identity 10 = .ok (.iconst 3, 1) := by decide +kernel
theorem dX2_identity_11 : decode cX2_identity 11 = .ok (.if_icmp .ge 17, 3) := by decide +kernel
theorem dX2_identity_14 : decode cX2_identity 14 = .ok (.iload_n 1, 1) := by decide +kernel
theorem dX2_identity_15 : decode cX2_identity 15 = .ok (.iconst 1, 1) := by decide +kernel
theorem dX2_identity_16 : decode cX2_identity 16 = .ok (.iconst 4, 1) := by decide +kernel
theorem dX2_identity_17 : decode cX2_identity 17 = .ok (.iload_n 2, 1) := by decide +kernel
theorem dX2_identity_18 : decode cX2_identity 18 = .ok (.imul, 1) := by decide +kernel
theorem dX2_identity_19 : decode cX2_identity 19 = .ok (.ishl, 1) := by decide +kernel
theorem dX2_identity_20 : decode cX2_identity 20 = .ok (.ior, 1) := by decide +kernel
theorem dX2_identity_21 : decode cX2_identity 21 = .ok (.istore_n 1, 1) := by decide +kernel
theorem dX2_identity_22 : decode cX2_identity 22 = .ok (.iinc 2 1, 3) := by decide +kernel
theorem dX2_identity_25 : decode cX2_identity 25 = .ok (.goto (-21), 3) := by decide +kernel
theorem dX2_identity_28 : decode cX2_identity 28 = .ok (.iload_n 1, 1) := by decide +kernel
theorem dX2_identity_29 : decode cX2_identity 29 = .ok (.ireturn, 1) := by decide +kernel
set_option maxHeartbeats 4000000 in
set_option maxRecDepth 100000 in
theorem c_X2_identity (G : KG) (l : Launch) (M : Mem) (a0 : Int) (hI_M : Inv false M) (hpre : -2147483648 ≤ a0 ∧ a0 ≤ 2147483647) : KC false G l yX2_identity cX2_identity 3 (some .int) (0, 0) [vI a0] M (fun A => kQi false G A (fun (r : Int) (N : Mem) => M = N ∧ (0 ≤ r ∧ r ≤ 511))) := by
  refine kx_met (lo := [some (vI a0), none, none]) (by decide) (Nat.le_of_ble_eq_true rfl) rfl ?_
  intro X F hQ
  refine kx_iconst 1 F dX2_identity_0 rfl ?_
  refine kx_istore_n 2 F 1 (lo' := [some (vI a0), some (vI 0), none]) dX2_identity_1 rfl (by decide) rfl rfl rfl ?_
  refine kx_iconst 3 F dX2_identity_2 rfl ?_
  refine kx_istore_n 4 F 2 (lo' := [some (vI a0), some (vI 0), some (vI 0)]) dX2_identity_3 rfl (by decide) rfl rfl rfl ?_
  have L_27 : ∀ (n_28 : Nat) (x1_25 : Int) (x2_26 : Int), 0 ≤ x1_25 ∧ x1_25 ≤ 511 ∧ 0 ≤ x2_26 ∧ x2_26 ≤ 3 → (3 - (x2_26)).toNat = n_28 → KJ false G X M 4 [some (vI a0), some (vI x1_25), some (vI x2_26)] [] := by
    intro n_28
    refine Nat.strongRecOn n_28 ?_
    intro n_28 ih_29 x1_25 x2_26 h_30 hm_31
    refine kx_iload_n 5 F 2 dX2_identity_4 rfl rfl rfl ?_
    refine kx_iload_n 6 F 0 dX2_identity_5 rfl rfl rfl ?_
    refine kx_icmp_ge 9 F 28 dX2_identity_6 (by decide) rfl (by omega) (by omega) (fun h_32 => ?_) (fun h_32 => ?_)
    · refine kx_iload_n 29 F 1 dX2_identity_28 rfl rfl rfl ?_
      exact kx_iret F hQ ⟨rfl, (by omega)⟩ dX2_identity_29
    · refine kx_iload_n 10 F 2 dX2_identity_9 rfl rfl rfl ?_
      refine kx_iconst 11 F dX2_identity_10 rfl ?_
      refine kx_icmp_ge 14 F 28 dX2_identity_11 (by decide) rfl (by omega) (by decide) (fun h_33 => ?_) (fun h_33 => ?_)
      · refine kx_iload_n 29 F 1 dX2_identity_28 rfl rfl rfl ?_
        exact kx_iret F hQ ⟨rfl, (by omega)⟩ dX2_identity_29
      · refine kx_iload_n 15 F 1 dX2_identity_14 rfl rfl rfl ?_
        refine kx_iconst 16 F dX2_identity_15 rfl ?_
        refine kx_iconst 17 F dX2_identity_16 rfl ?_
        refine kx_iload_n 18 F 2 dX2_identity_17 rfl rfl rfl ?_
        refine kx_imul 19 F (v := 4 * x2_26) dX2_identity_18 (by omega) rfl ?_
        refine kx_ishl 20 F (v := (zshl 1 (4 * x2_26))) dX2_identity_19 rfl rfl ?_
        have h_34 := zshl_1 (b := 4 * x2_26) 8 (by decide) (by omega)
        refine kx_ior 21 F (v := (zor x1_25 (zshl 1 (4 * x2_26)))) dX2_identity_20 rfl rfl ?_
        have h_35 : 0 ≤ (zor x1_25 (zshl 1 (4 * x2_26))) ∧ (zor x1_25 (zshl 1 (4 * x2_26))) < 512 := zor_lt (a := x1_25) (b := (zshl 1 (4 * x2_26))) 9 (by decide) (by omega) (by omega)
        refine kx_istore_n 22 F 1 (lo' := [some (vI a0), some (vI (zor x1_25 (zshl 1 (4 * x2_26)))), some (vI x2_26)]) dX2_identity_21 rfl (by decide) rfl rfl rfl ?_
        refine kx_iinc 25 F 2 (v := x2_26 + 1) (lo' := [some (vI a0), some (vI (zor x1_25 (zshl 1 (4 * x2_26)))), some (vI (x2_26 + 1))]) dX2_identity_22 rfl (by omega) (by decide) rfl rfl rfl ?_
        refine kx_goto 4 F dX2_identity_25 (by decide) ?_
        exact ih_29 _ (by omega) (zor x1_25 (zshl 1 (4 * x2_26))) (x2_26 + 1) (by omega) rfl
  exact L_27 _ 0 0 (by omega) rfl
theorem dX2_pair_0 : decode cX2_pair 0 = .ok (.iconst 1, 1) := by decide +kernel
theorem dX2_pair_1 : decode cX2_pair 1 = .ok (.iconst 3, 1) := by decide +kernel
theorem dX2_pair_2 : decode cX2_pair 2 = .ok (.iload_n 0, 1) := by decide +kernel
theorem dX2_pair_3 : decode cX2_pair 3 = .ok (.imul, 1) := by decide +kernel
theorem dX2_pair_4 : decode cX2_pair 4 = .ok (.iload_n 1, 1) := by decide +kernel
theorem dX2_pair_5 : decode cX2_pair 5 = .ok (.iadd, 1) := by decide +kernel
theorem dX2_pair_6 : decode cX2_pair 6 = .ok (.ishl, 1) := by decide +kernel
theorem dX2_pair_7 : decode cX2_pair 7 = .ok (.ireturn, 1) := by decide +kernel
set_option maxHeartbeats 4000000 in
set_option maxRecDepth 100000 in
theorem c_X2_pair (G : KG) (l : Launch) (M : Mem) (a0 a1 : Int) (hI_M : Inv false M) (hpre : -2147483648 ≤ a0 ∧ a0 ≤ 2147483647 ∧ -2147483648 ≤ a1 ∧ a1 ≤ 2147483647 ∧ 0 ≤ a0 ∧ a0 ≤ 2 ∧ 0 ≤ a1 ∧ a1 ≤ 2) : KC false G l yX2_pair cX2_pair 2 (some .int) (0, 0) [vI a0, vI a1] M (fun A => kQi false G A (fun (r : Int) (N : Mem) => M = N ∧ (1 ≤ r ∧ r ≤ 256))) := by
  refine kx_met (lo := [some (vI a0), some (vI a1)]) (by decide) (Nat.le_of_ble_eq_true rfl) rfl ?_
  intro X F hQ
  refine kx_iconst 1 F dX2_pair_0 rfl ?_
  refine kx_iconst 2 F dX2_pair_1 rfl ?_
  refine kx_iload_n 3 F 0 dX2_pair_2 rfl rfl rfl ?_
  refine kx_imul 4 F (v := 3 * a0) dX2_pair_3 (by omega) rfl ?_
  refine kx_iload_n 5 F 1 dX2_pair_4 rfl rfl rfl ?_
  refine kx_iadd 6 F (v := 3 * a0 + a1) dX2_pair_5 rfl rfl ?_
  refine kx_ishl 7 F (v := (zshl 1 (3 * a0 + a1))) dX2_pair_6 rfl rfl ?_
  have h_1 := zshl_1 (b := 3 * a0 + a1) 8 (by decide) (by omega)
  exact kx_iret F hQ ⟨rfl, (by omega)⟩ dX2_pair_7
theorem dX2_power_0 : decode cX2_power 0 = .ok (.iconst 1, 1) := by decide +kernel
theorem dX2_power_1 : decode cX2_power 1 = .ok (.istore_n 2, 1) := by decide +kernel
theorem dX2_power_2 : decode cX2_power 2 = .ok (.iconst 0, 1) := by decide +kernel
theorem dX2_power_3 : decode cX2_power 3 = .ok (.istore_n 3, 1) := by decide +kernel
theorem dX2_power_4 : decode cX2_power 4 = .ok (.iload_n 3, 1) := by decide +kernel
theorem dX2_power_5 : decode cX2_power 5 = .ok (.iload_n 1, 1) := by decide +kernel
theorem dX2_power_6 : decode cX2_power 6 = .ok (.if_icmp .ge 19, 3) := by decide +kernel
theorem dX2_power_9 : decode cX2_power 9 = .ok (.iload_n 3, 1) := by decide +kernel
theorem dX2_power_10 : decode cX2_power 10 = .ok (.bipush 6, 2) := by decide +kernel
theorem dX2_power_12 : decode cX2_power 12 = .ok (.if_icmp .ge 13, 3) := by decide +kernel
theorem dX2_power_15 : decode cX2_power 15 = .ok (.iload_n 2, 1) := by decide +kernel
theorem dX2_power_16 : decode cX2_power 16 = .ok (.iload_n 0, 1) := by decide +kernel
theorem dX2_power_17 : decode cX2_power 17 = .ok (.imul, 1) := by decide +kernel
theorem dX2_power_18 : decode cX2_power 18 = .ok (.istore_n 2, 1) := by decide +kernel
theorem dX2_power_19 : decode cX2_power 19 = .ok (.iinc 3 1, 3) := by decide +kernel
theorem dX2_power_22 : decode cX2_power 22 = .ok (.goto (-18), 3) := by decide +kernel
theorem dX2_power_25 : decode cX2_power 25 = .ok (.iload_n 2, 1) := by decide +kernel
theorem dX2_power_26 : decode cX2_power 26 = .ok (.ireturn, 1) := by decide +kernel
set_option maxHeartbeats 4000000 in
set_option maxRecDepth 100000 in
theorem c_X2_power (G : KG) (l : Launch) (M : Mem) (a0 a1 : Int) (hI_M : Inv false M) (hpre : -2147483648 ≤ a0 ∧ a0 ≤ 2147483647 ∧ -2147483648 ≤ a1 ∧ a1 ≤ 2147483647) : KC false G l yX2_power cX2_power 4 (some .int) (0, 0) [vI a0, vI a1] M (fun A => kQi false G A (fun (r : Int) (N : Mem) => M = N ∧ (r ≥ -2147483648 ∧ r ≤ 2147483647))) := by
  refine kx_met (lo := [some (vI a0), some (vI a1), none, none]) (by decide) (Nat.le_of_ble_eq_true rfl) rfl ?_
  intro X F hQ
  refine kx_iconst 1 F dX2_power_0 rfl ?_
  refine kx_istore_n 2 F 2 (lo' := [some (vI a0), some (vI a1), some (vI 1), none]) dX2_power_1 rfl (by decide) rfl rfl rfl ?_
  refine kx_iconst 3 F dX2_power_2 rfl ?_
  refine kx_istore_n 4 F 3 (lo' := [some (vI a0), some (vI a1), some (vI 1), some (vI 0)]) dX2_power_3 rfl (by decide) rfl rfl rfl ?_
  have L_43 : ∀ (n_44 : Nat) (x2_41 : Int) (x3_42 : Int), (-2147483648) ≤ x2_41 ∧ x2_41 ≤ 2147483647 ∧ 0 ≤ x3_42 ∧ x3_42 ≤ 6 → (6 - (x3_42)).toNat = n_44 → KJ false G X M 4 [some (vI a0), some (vI a1), some (vI x2_41), some (vI x3_42)] [] := by
    intro n_44
    refine Nat.strongRecOn n_44 ?_
    intro n_44 ih_45 x2_41 x3_42 h_46 hm_47
    refine kx_iload_n 5 F 3 dX2_power_4 rfl rfl rfl ?_
    refine kx_iload_n 6 F 1 dX2_power_5 rfl rfl rfl ?_
    refine kx_icmp_ge 9 F 25 dX2_power_6 (by decide) rfl (by omega) (by omega) (fun h_48 => ?_) (fun h_48 => ?_)
    · refine kx_iload_n 26 F 2 dX2_power_25 rfl rfl rfl ?_
      exact kx_iret F hQ ⟨rfl, (by omega)⟩ dX2_power_26
    · refine kx_iload_n 10 F 3 dX2_power_9 rfl rfl rfl ?_
      refine kx_bipush 12 F dX2_power_10 (by decide) rfl ?_
      refine kx_icmp_ge 15 F 25 dX2_power_12 (by decide) rfl (by omega) (by decide) (fun h_49 => ?_) (fun h_49 => ?_)
      · refine kx_iload_n 26 F 2 dX2_power_25 rfl rfl rfl ?_
        exact kx_iret F hQ ⟨rfl, (by omega)⟩ dX2_power_26
      · refine kx_iload_n 16 F 2 dX2_power_15 rfl rfl rfl ?_
        refine kx_iload_n 17 F 0 dX2_power_16 rfl rfl rfl ?_
        refine kx_imul 18 F (v := (x2_41 * a0)) dX2_power_17 rfl rfl ?_
        refine kx_wrapi (fun w_50 h_51 _ => ?_)
        refine kx_istore_n 19 F 2 (lo' := [some (vI a0), some (vI a1), some (vI w_50), some (vI x3_42)]) dX2_power_18 rfl (by decide) rfl rfl rfl ?_
        refine kx_iinc 22 F 3 (v := x3_42 + 1) (lo' := [some (vI a0), some (vI a1), some (vI w_50), some (vI (x3_42 + 1))]) dX2_power_19 rfl (by omega) (by decide) rfl rfl rfl ?_
        refine kx_goto 4 F dX2_power_22 (by decide) ?_
        exact ih_45 _ (by omega) w_50 (x3_42 + 1) (by omega) rfl
  exact L_43 _ 1 0 (by omega) rfl
theorem dX2_digit_0 : decode cX2_digit 0 = .ok (.iload_n 1, 1) := by decide +kernel
theorem dX2_digit_1 : decode cX2_digit 1 = .ok (.iload_n 2, 1) := by decide +kernel
theorem dX2_digit_2 : decode cX2_digit 2 = .ok (.invokestatic 11, 3) := by decide +kernel
theorem dX2_digit_5 : decode cX2_digit 5 = .ok (.istore_n 3, 1) := by decide +kernel
theorem dX2_digit_6 : decode cX2_digit 6 = .ok (.iload_n 1, 1) := by decide +kernel
theorem dX2_digit_7 : decode cX2_digit 7 = .ok (.ifCond .le 7, 3) := by decide +kernel
theorem dX2_digit_10 : decode cX2_digit 10 = .ok (.iload_n 3, 1) := by decide +kernel
theorem dX2_digit_11 : decode cX2_digit 11 = .ok (.ifCond .gt 5, 3) := by decide +kernel
theorem dX2_digit_14 : decode cX2_digit 14 = .ok (.iconst 0, 1) := by decide +kernel
theorem dX2_digit_15 : decode cX2_digit 15 = .ok (.ireturn, 1) := by decide +kernel
theorem dX2_digit_16 : decode cX2_digit 16 = .ok (.iload_n 0, 1) := by decide +kernel
theorem dX2_digit_17 : decode cX2_digit 17 = .ok (.iload_n 3, 1) := by decide +kernel
theorem dX2_digit_18 : decode cX2_digit 18 = .ok (.idiv, 1) := by decide +kernel
theorem dX2_digit_19 : decode cX2_digit 19 = .ok (.iload_n 1, 1) := by decide +kernel
theorem dX2_digit_20 : decode cX2_digit 20 = .ok (.irem, 1) := by decide +kernel
theorem dX2_digit_21 : decode cX2_digit 21 = .ok (.ireturn, 1) := by decide +kernel
set_option maxHeartbeats 4000000 in
set_option maxRecDepth 100000 in
theorem c_X2_digit (G : KG) (l : Launch) (M : Mem) (a0 a1 a2 : Int) (hI_M : Inv false M) (hpre : -2147483648 ≤ a0 ∧ a0 ≤ 2147483647 ∧ -2147483648 ≤ a1 ∧ a1 ≤ 2147483647 ∧ -2147483648 ≤ a2 ∧ a2 ≤ 2147483647) : KC false G l yX2_digit cX2_digit 4 (some .int) (1, 23) [vI a0, vI a1, vI a2] M (fun A => kQi false G A (fun (r : Int) (N : Mem) => M = N ∧ (r ≥ -2147483646 ∧ r ≤ 2147483646))) := by
  refine kx_met (lo := [some (vI a0), some (vI a1), some (vI a2), none]) (by decide) (Nat.le_of_ble_eq_true rfl) rfl ?_
  intro X F hQ
  refine kx_iload_n 1 F 1 dX2_digit_0 rfl rfl rfl ?_
  refine kx_iload_n 2 F 2 dX2_digit_1 rfl rfl rfl ?_
  refine kx_Si 5 F (As := [vI a1, vI a2]) (st := []) sd_X2_11 (c_X2_power G l M a1 a2 hI_M (by omega)) ⟨by decide, by decide⟩ rfl rfl (Nat.le_of_ble_eq_true rfl) dX2_digit_2 rfl ?_
  intro r_1 N_2 q_3
  obtain ⟨rfl, q_3c⟩ := q_3
  refine kx_istore_n 6 F 3 (lo' := [some (vI a0), some (vI a1), some (vI a2), some (vI r_1)]) dX2_digit_5 rfl (by decide) rfl rfl rfl ?_
  refine kx_iload_n 7 F 1 dX2_digit_6 rfl rfl rfl ?_
  refine kx_if_le 10 F 14 dX2_digit_7 (by decide) rfl (by omega) (fun h_4 => ?_) (fun h_4 => ?_)
  · refine kx_iconst 15 F dX2_digit_14 rfl ?_
    exact kx_iret F hQ ⟨rfl, (by omega)⟩ dX2_digit_15
  · refine kx_iload_n 11 F 3 dX2_digit_10 rfl rfl rfl ?_
    refine kx_if_gt 14 F 16 dX2_digit_11 (by decide) rfl (by omega) (fun h_5 => ?_) (fun h_5 => ?_)
    · refine kx_iload_n 17 F 0 dX2_digit_16 rfl rfl rfl ?_
      refine kx_iload_n 18 F 3 dX2_digit_17 rfl rfl rfl ?_
      refine kx_idivf 19 F dX2_digit_18 (by omega) rfl (fun w_6 h_7 => ?_)
      refine kx_iload_n 20 F 1 dX2_digit_19 rfl rfl rfl ?_
      refine kx_iremf 21 F dX2_digit_20 (by omega) rfl (fun w_8 h_9 => ?_)
      exact kx_iret F hQ ⟨rfl, (by omega)⟩ dX2_digit_21
    · refine kx_iconst 15 F dX2_digit_14 rfl ?_
      exact kx_iret F hQ ⟨rfl, (by omega)⟩ dX2_digit_15
theorem dX0_hasState_0 : decode cX0_hasState 0 = .ok (.iload_n 1, 1) := by decide +kernel
theorem dX0_hasState_1 : decode cX0_hasState 1 = .ok (.ifCond .lt 15, 3) := by decide +kernel
theorem dX0_hasState_4 : decode cX0_hasState 4 = .ok (.iload_n 1, 1) := by decide +kernel
theorem dX0_hasState_5 : decode cX0_hasState 5 = .ok (.aload_n 0, 1) := by decide +kernel
theorem dX0_hasState_6 : decode cX0_hasState 6 = .ok (.getfield 34, 3) := by decide +kernel
theorem dX0_hasState_9 : decode cX0_hasState 9 = .ok (.if_icmp .ge 7, 3) := by decide +kernel
theorem dX0_hasState_12 : decode cX0_hasState 12 = .ok (.iconst 1, 1) := by decide +kernel
theorem dX0_hasState_13 : decode cX0_hasState 13 = .ok (.goto 4, 3) := by decide +kernel
theorem dX0_hasState_16 : decode cX0_hasState 16 = .ok (.iconst 0, 1) := by decide +kernel
theorem dX0_hasState_17 : decode cX0_hasState 17 = .ok (.ireturn, 1) := by decide +kernel
set_option maxHeartbeats 4000000 in
set_option maxRecDepth 100000 in
theorem c_X0_hasState (G : KG) (l : Launch) (M : Mem) (c0 a1 : Int) (hI_M : Inv false M) (hk_c0 : kd c0 = 1) (hpre : -2147483648 ≤ a1 ∧ a1 ≤ 2147483647) : KC false G l yX0_hasState cX0_hasState 2 (some .boolean) (0, 0) [vR G c0, vI a1] M (fun A => kQi false G A (fun (r : Int) (N : Mem) => M = N ∧ ((r = 1 ∧ 0 ≤ a1 ∧ a1 < (M c0 0)) ∨ (r = 0)))) := by
  refine kx_met (lo := [some (vR G c0), some (vI a1)]) (by decide) (Nat.le_of_ble_eq_true rfl) rfl ?_
  intro X F hQ
  refine kx_iload_n 1 F 1 dX0_hasState_0 rfl rfl rfl ?_
  refine kx_if_lt 4 F 16 dX0_hasState_1 (by decide) rfl (by omega) (fun h_1 => ?_) (fun h_1 => ?_)
  · refine kx_iconst 17 F dX0_hasState_16 rfl ?_
    have h_2 := Inv.g hI_M hk_c0 rfl 0 (a := 0) (b := 3) rfl rfl
    exact kx_zret F hQ (by omega) ⟨rfl, (by omega)⟩ dX0_hasState_17
  · refine kx_iload_n 5 F 1 dX0_hasState_4 rfl rfl rfl ?_
    refine kx_aload_n 6 F 0 dX0_hasState_5 rfl rfl rfl ?_
    refine kx_geti 9 F fl_X0_34 hk_c0 rfl rfl (j := 0) rfl dX0_hasState_6 (v := (M c0 0)) rfl rfl ?_
    have h_3 := Inv.g hI_M hk_c0 rfl 0 (a := 0) (b := 3) rfl rfl
    refine kx_icmp_ge 12 F 16 dX0_hasState_9 (by decide) rfl (by omega) (by omega) (fun h_4 => ?_) (fun h_4 => ?_)
    · refine kx_iconst 17 F dX0_hasState_16 rfl ?_
      exact kx_zret F hQ (by omega) ⟨rfl, (by omega)⟩ dX0_hasState_17
    · refine kx_iconst 13 F dX0_hasState_12 rfl ?_
      refine kx_goto 17 F dX0_hasState_13 (by decide) ?_
      exact kx_zret F hQ (by omega) ⟨rfl, (by omega)⟩ dX0_hasState_17
theorem dX0_hasSymbol_0 : decode cX0_hasSymbol 0 = .ok (.iload_n 1, 1) := by decide +kernel
theorem dX0_hasSymbol_1 : decode cX0_hasSymbol 1 = .ok (.ifCond .lt 15, 3) := by decide +kernel
theorem dX0_hasSymbol_4 : decode cX0_hasSymbol 4 = .ok (.iload_n 1, 1) := by decide +kernel
theorem dX0_hasSymbol_5 : decode cX0_hasSymbol 5 = .ok (.aload_n 0, 1) := by decide +kernel
theorem dX0_hasSymbol_6 : decode cX0_hasSymbol 6 = .ok (.getfield 37, 3) := by decide +kernel
theorem dX0_hasSymbol_9 : decode cX0_hasSymbol 9 = .ok (.if_icmp .ge 7, 3) := by decide +kernel
theorem dX0_hasSymbol_12 : decode cX0_hasSymbol 12 = .ok (.iconst 1, 1) := by decide +kernel
theorem dX0_hasSymbol_13 : decode cX0_hasSymbol 13 = .ok (.goto 4, 3) := by decide +kernel
theorem dX0_hasSymbol_16 : decode cX0_hasSymbol 16 = .ok (.iconst 0, 1) := by decide +kernel
theorem dX0_hasSymbol_17 : decode cX0_hasSymbol 17 = .ok (.ireturn, 1) := by decide +kernel
set_option maxHeartbeats 4000000 in
set_option maxRecDepth 100000 in
theorem c_X0_hasSymbol (G : KG) (l : Launch) (M : Mem) (c0 a1 : Int) (hI_M : Inv false M) (hk_c0 : kd c0 = 1) (hpre : -2147483648 ≤ a1 ∧ a1 ≤ 2147483647) : KC false G l yX0_hasSymbol cX0_hasSymbol 2 (some .boolean) (0, 0) [vR G c0, vI a1] M (fun A => kQi false G A (fun (r : Int) (N : Mem) => M = N ∧ ((r = 1 ∧ 0 ≤ a1 ∧ a1 < (M c0 1)) ∨ (r = 0)))) := by
  refine kx_met (lo := [some (vR G c0), some (vI a1)]) (by decide) (Nat.le_of_ble_eq_true rfl) rfl ?_
  intro X F hQ
  refine kx_iload_n 1 F 1 dX0_hasSymbol_0 rfl rfl rfl ?_
  refine kx_if_lt 4 F 16 dX0_hasSymbol_1 (by decide) rfl (by omega) (fun h_1 => ?_) (fun h_1 => ?_)
  · refine kx_iconst 17 F dX0_hasSymbol_16 rfl ?_
    have h_2 := Inv.g hI_M hk_c0 rfl 1 (a := 0) (b := 3) rfl rfl
    exact kx_zret F hQ (by omega) ⟨rfl, (by omega)⟩ dX0_hasSymbol_17
  · refine kx_iload_n 5 F 1 dX0_hasSymbol_4 rfl rfl rfl ?_
    refine kx_aload_n 6 F 0 dX0_hasSymbol_5 rfl rfl rfl ?_
    refine kx_geti 9 F fl_X0_37 hk_c0 rfl rfl (j := 1) rfl dX0_hasSymbol_6 (v := (M c0 1)) rfl rfl ?_
    have h_3 := Inv.g hI_M hk_c0 rfl 1 (a := 0) (b := 3) rfl rfl
    refine kx_icmp_ge 12 F 16 dX0_hasSymbol_9 (by decide) rfl (by omega) (by omega) (fun h_4 => ?_) (fun h_4 => ?_)
    · refine kx_iconst 17 F dX0_hasSymbol_16 rfl ?_
      exact kx_zret F hQ (by omega) ⟨rfl, (by omega)⟩ dX0_hasSymbol_17
    · refine kx_iconst 13 F dX0_hasSymbol_12 rfl ?_
      refine kx_goto 17 F dX0_hasSymbol_13 (by decide) ?_
      exact kx_zret F hQ (by omega) ⟨rfl, (by omega)⟩ dX0_hasSymbol_17
theorem dX0_hasRule_0 : decode cX0_hasRule 0 = .ok (.iload_n 1, 1) := by decide +kernel
theorem dX0_hasRule_1 : decode cX0_hasRule 1 = .ok (.ifCond .lt 15, 3) := by decide +kernel
theorem dX0_hasRule_4 : decode cX0_hasRule 4 = .ok (.iload_n 1, 1) := by decide +kernel
theorem dX0_hasRule_5 : decode cX0_hasRule 5 = .ok (.aload_n 0, 1) := by decide +kernel
theorem dX0_hasRule_6 : decode cX0_hasRule 6 = .ok (.getfield 46, 3) := by decide +kernel
theorem dX0_hasRule_9 : decode cX0_hasRule 9 = .ok (.if_icmp .ge 7, 3) := by decide +kernel
theorem dX0_hasRule_12 : decode cX0_hasRule 12 = .ok (.iconst 1, 1) := by decide +kernel
theorem dX0_hasRule_13 : decode cX0_hasRule 13 = .ok (.goto 4, 3) := by decide +kernel
theorem dX0_hasRule_16 : decode cX0_hasRule 16 = .ok (.iconst 0, 1) := by decide +kernel
theorem dX0_hasRule_17 : decode cX0_hasRule 17 = .ok (.ireturn, 1) := by decide +kernel
set_option maxHeartbeats 4000000 in
set_option maxRecDepth 100000 in
theorem c_X0_hasRule (G : KG) (l : Launch) (M : Mem) (c0 a1 : Int) (hI_M : Inv false M) (hk_c0 : kd c0 = 1) (hpre : -2147483648 ≤ a1 ∧ a1 ≤ 2147483647) : KC false G l yX0_hasRule cX0_hasRule 2 (some .boolean) (0, 0) [vR G c0, vI a1] M (fun A => kQi false G A (fun (r : Int) (N : Mem) => M = N ∧ ((r = 1 ∧ 0 ≤ a1 ∧ a1 < (M c0 4)) ∨ (r = 0)))) := by
  refine kx_met (lo := [some (vR G c0), some (vI a1)]) (by decide) (Nat.le_of_ble_eq_true rfl) rfl ?_
  intro X F hQ
  refine kx_iload_n 1 F 1 dX0_hasRule_0 rfl rfl rfl ?_
  refine kx_if_lt 4 F 16 dX0_hasRule_1 (by decide) rfl (by omega) (fun h_1 => ?_) (fun h_1 => ?_)
  · refine kx_iconst 17 F dX0_hasRule_16 rfl ?_
    have h_2 := Inv.g hI_M hk_c0 rfl 4 (a := 0) (b := 20) rfl rfl
    exact kx_zret F hQ (by omega) ⟨rfl, (by omega)⟩ dX0_hasRule_17
  · refine kx_iload_n 5 F 1 dX0_hasRule_4 rfl rfl rfl ?_
    refine kx_aload_n 6 F 0 dX0_hasRule_5 rfl rfl rfl ?_
    refine kx_geti 9 F fl_X0_46 hk_c0 rfl rfl (j := 4) rfl dX0_hasRule_6 (v := (M c0 4)) rfl rfl ?_
    have h_3 := Inv.g hI_M hk_c0 rfl 4 (a := 0) (b := 20) rfl rfl
    refine kx_icmp_ge 12 F 16 dX0_hasRule_9 (by decide) rfl (by omega) (by omega) (fun h_4 => ?_) (fun h_4 => ?_)
    · refine kx_iconst 17 F dX0_hasRule_16 rfl ?_
      exact kx_zret F hQ (by omega) ⟨rfl, (by omega)⟩ dX0_hasRule_17
    · refine kx_iconst 13 F dX0_hasRule_12 rfl ?_
      refine kx_goto 17 F dX0_hasRule_13 (by decide) ?_
      exact kx_zret F hQ (by omega) ⟨rfl, (by omega)⟩ dX0_hasRule_17
theorem dX0_find_0 : decode cX0_find 0 = .ok (.iconst 0, 1) := by decide +kernel
theorem dX0_find_1 : decode cX0_find 1 = .ok (.istore 5, 2) := by decide +kernel
theorem dX0_find_3 : decode cX0_find 3 = .ok (.iload 5, 2) := by decide +kernel
theorem dX0_find_5 : decode cX0_find 5 = .ok (.aload_n 0, 1) := by decide +kernel
theorem dX0_find_6 : decode cX0_find 6 = .ok (.getfield 46, 3) := by decide +kernel
theorem dX0_find_9 : decode cX0_find 9 = .ok (.if_icmp .ge 57, 3) := by decide +kernel
theorem dX0_find_12 : decode cX0_find 12 = .ok (.aload_n 0, 1) := by decide +kernel
theorem dX0_find_13 : decode cX0_find 13 = .ok (.getfield 9, 3) := by decide +kernel
theorem dX0_find_16 : decode cX0_find 16 = .ok (.iload 5, 2) := by decide +kernel
theorem dX0_find_18 : decode cX0_find 18 = .ok (.iaload, 1) := by decide +kernel
theorem dX0_find_19 : decode cX0_find 19 = .ok (.iload_n 1, 1) := by decide +kernel
theorem dX0_find_20 : decode cX0_find 20 = .ok (.if_icmp .ne 40, 3) := by decide +kernel
theorem dX0_find_23 : decode cX0_find 23 = .ok (.aload_n 0, 1) := by decide +kernel
theorem dX0_find_24 : decode cX0_find 24 = .ok (.getfield 15, 3) := by decide +kernel
theorem dX0_find_27 : decode cX0_find 27 = .ok (.iload 5, 2) := by decide +kernel
theorem dX0_find_29 : decode cX0_find 29 = .ok (.iaload, 1) := by decide +kernel
theorem dX0_find_30 : decode cX0_find 30 = .ok (.iload_n 2, 1) := by decide +kernel
theorem dX0_find_31 : decode cX0_find 31 = .ok (.if_icmp .ne 29, 3) := by decide +kernel
theorem dX0_find_34 : decode cX0_find 34 = .ok (.aload_n 0, 1) := by decide +kernel
theorem dX0_find_35 : decode cX0_find 35 = .ok (.getfield 18, 3) := by decide +kernel
theorem dX0_find_38 : decode cX0_find 38 = .ok (.iload 5, 2) := by decide +kernel
theorem dX0_find_40 : decode cX0_find 40 = .ok (.iaload, 1) := by decide +kernel
theorem dX0_find_41 : decode cX0_find 41 = .ok (.iload_n 3, 1) := by decide +kernel
theorem dX0_find_42 : decode cX0_find 42 = .ok (.if_icmp .ne 18, 3) := by decide +kernel
theorem dX0_find_45 : decode cX0_find 45 = .ok (.aload_n 0, 1) := by decide +kernel
theorem dX0_find_46 : decode cX0_find 46 = .ok (.getfield 21, 3) := by decide +kernel
theorem dX0_find_49 : decode cX0_find 49 = .ok (.iload 5, 2) := by decide +kernel
theorem dX0_find_51 : decode cX0_find 51 = .ok (.iaload, 1) := by decide +kernel
theorem dX0_find_52 : decode cX0_find 52 = .ok (.iload 4, 2) := by decide +kernel
theorem dX0_find_54 : decode cX0_find 54 = .ok (.if_icmp .ne 6, 3) := by decide +kernel
theorem dX0_find_57 : decode cX0_find 57 = .ok (.iload 5, 2) := by decide +kernel
theorem dX0_find_59 : decode cX0_find 59 = .ok (.ireturn, 1) := by decide +kernel
theorem dX0_find_60 : decode cX0_find 60 = .ok (.iinc 5 1, 3) := by decide +kernel
theorem dX0_find_63 : decode cX0_find 63 = .ok (.goto (-60), 3) := by decide +kernel
theorem dX0_find_66 : decode cX0_find 66 = .ok (.iconst (-1), 1) := by decide +kernel
theorem dX0_find_67 : decode cX0_find 67 = .ok (.ireturn, 1) := by decide +kernel
set_option maxHeartbeats 4000000 in
set_option maxRecDepth 100000 in
theorem c_X0_find (G : KG) (l : Launch) (M : Mem) (c0 a1 a2 a3 a4 : Int) (hI_M : Inv false M) (hk_c0 : kd c0 = 1) (hpre : -2147483648 ≤ a1 ∧ a1 ≤ 2147483647 ∧ -2147483648 ≤ a2 ∧ a2 ≤ 2147483647 ∧ -2147483648 ≤ a3 ∧ a3 ≤ 2147483647 ∧ -2147483648 ≤ a4 ∧ a4 ≤ 2147483647) : KC false G l yX0_find cX0_find 6 (some .int) (0, 0) [vR G c0, vI a1, vI a2, vI a3, vI a4] M (fun A => kQi false G A (fun (r : Int) (N : Mem) => M = N ∧ (r ≥ -1 ∧ r ≤ 19))) := by
  refine kx_met (lo := [some (vR G c0), some (vI a1), some (vI a2), some (vI a3), some (vI a4), none]) (by decide) (Nat.le_of_ble_eq_true rfl) rfl ?_
  intro X F hQ
  refine kx_iconst 1 F dX0_find_0 rfl ?_
  refine kx_istore 3 F 5 (lo' := [some (vR G c0), some (vI a1), some (vI a2), some (vI a3), some (vI a4), some (vI 0)]) dX0_find_1 (by decide) rfl rfl rfl ?_
  have L_107 : ∀ (n_108 : Nat) (x5_106 : Int), 0 ≤ x5_106 ∧ x5_106 ≤ 20 → (20 - (x5_106)).toNat = n_108 → KJ false G X M 3 [some (vR G c0), some (vI a1), some (vI a2), some (vI a3), some (vI a4), some (vI x5_106)] [] := by
    intro n_108
    refine Nat.strongRecOn n_108 ?_
    intro n_108 ih_109 x5_106 h_110 hm_111
    refine kx_iload 5 F 5 dX0_find_3 rfl rfl ?_
    refine kx_aload_n 6 F 0 dX0_find_5 rfl rfl rfl ?_
    refine kx_geti 9 F fl_X0_46 hk_c0 rfl rfl (j := 4) rfl dX0_find_6 (v := (M c0 4)) rfl rfl ?_
    have h_112 := Inv.g hI_M hk_c0 rfl 4 (a := 0) (b := 20) rfl rfl
    refine kx_icmp_ge 12 F 66 dX0_find_9 (by decide) rfl (by omega) (by omega) (fun h_113 => ?_) (fun h_113 => ?_)
    · refine kx_iconst 67 F dX0_find_66 rfl ?_
      exact kx_iret F hQ ⟨rfl, (by omega)⟩ dX0_find_67
    · refine kx_aload_n 13 F 0 dX0_find_12 rfl rfl rfl ?_
      refine kx_getr 16 F fl_X0_9 hk_c0 rfl rfl (j := 6) rfl dX0_find_13 (v := (M c0 6)) rfl rfl ?_
      have hk_114 : kd (M c0 6) = 2 := Inv.r hI_M hk_c0 rfl 6 rfl rfl
      refine kx_iload 18 F 5 dX0_find_16 rfl rfl ?_
      refine kx_iald 19 F hk_114 rfl rfl (by omega) (by decide) dX0_find_18 (v := (M (M c0 6) x5_106)) rfl rfl ?_
      have h_115 := Inv.g hI_M hk_114 rfl x5_106 (a := 0) (b := 5) rfl rfl
      refine kx_iload_n 20 F 1 dX0_find_19 rfl rfl rfl ?_
      have J_126 : KJ false G X M 60 [some (vR G c0), some (vI a1), some (vI a2), some (vI a3), some (vI a4), some (vI x5_106)] [] := by
        refine kx_iinc 63 F 5 (v := x5_106 + 1) (lo' := [some (vR G c0), some (vI a1), some (vI a2), some (vI a3), some (vI a4), some (vI (x5_106 + 1))]) dX0_find_60 rfl (by omega) (by decide) rfl rfl rfl ?_
        refine kx_goto 3 F dX0_find_63 (by decide) ?_
        exact ih_109 _ (by omega) (x5_106 + 1) (by omega) rfl
      refine kx_icmp_ne 23 F 60 dX0_find_20 (by decide) rfl (by omega) (by omega) (fun h_128 => ?_) (fun h_128 => ?_)
      · exact J_126
      · refine kx_aload_n 24 F 0 dX0_find_23 rfl rfl rfl ?_
        refine kx_getr 27 F fl_X0_15 hk_c0 rfl rfl (j := 7) rfl dX0_find_24 (v := (M c0 7)) rfl rfl ?_
        have hk_129 : kd (M c0 7) = 3 := Inv.r hI_M hk_c0 rfl 7 rfl rfl
        refine kx_iload 29 F 5 dX0_find_27 rfl rfl ?_
        refine kx_iald 30 F hk_129 rfl rfl (by omega) (by decide) dX0_find_29 (v := (M (M c0 7) x5_106)) rfl rfl ?_
        have h_130 := Inv.g hI_M hk_129 rfl x5_106 (a := 0) (b := 2) rfl rfl
        refine kx_iload_n 31 F 2 dX0_find_30 rfl rfl rfl ?_
        refine kx_icmp_ne 34 F 60 dX0_find_31 (by decide) rfl (by omega) (by omega) (fun h_131 => ?_) (fun h_131 => ?_)
        · exact J_126
        · refine kx_aload_n 35 F 0 dX0_find_34 rfl rfl rfl ?_
          refine kx_getr 38 F fl_X0_18 hk_c0 rfl rfl (j := 8) rfl dX0_find_35 (v := (M c0 8)) rfl rfl ?_
          have hk_132 : kd (M c0 8) = 4 := Inv.r hI_M hk_c0 rfl 8 rfl rfl
          refine kx_iload 40 F 5 dX0_find_38 rfl rfl ?_
          refine kx_iald 41 F hk_132 rfl rfl (by omega) (by decide) dX0_find_40 (v := (M (M c0 8) x5_106)) rfl rfl ?_
          have h_133 := Inv.g hI_M hk_132 rfl x5_106 (a := 0) (b := 2) rfl rfl
          refine kx_iload_n 42 F 3 dX0_find_41 rfl rfl rfl ?_
          refine kx_icmp_ne 45 F 60 dX0_find_42 (by decide) rfl (by omega) (by omega) (fun h_134 => ?_) (fun h_134 => ?_)
          · exact J_126
          · refine kx_aload_n 46 F 0 dX0_find_45 rfl rfl rfl ?_
            refine kx_getr 49 F fl_X0_21 hk_c0 rfl rfl (j := 9) rfl dX0_find_46 (v := (M c0 9)) rfl rfl ?_
            have hk_135 : kd (M c0 9) = 5 := Inv.r hI_M hk_c0 rfl 9 rfl rfl
            refine kx_iload 51 F 5 dX0_find_49 rfl rfl ?_
            refine kx_iald 52 F hk_135 rfl rfl (by omega) (by decide) dX0_find_51 (v := (M (M c0 9) x5_106)) rfl rfl ?_
            have h_136 := Inv.g hI_M hk_135 rfl x5_106 (a := (-1)) (b := 2) rfl rfl
            refine kx_iload 54 F 4 dX0_find_52 rfl rfl ?_
            refine kx_icmp_ne 57 F 60 dX0_find_54 (by decide) rfl (by omega) (by omega) (fun h_137 => ?_) (fun h_137 => ?_)
            · exact J_126
            · refine kx_iload 59 F 5 dX0_find_57 rfl rfl ?_
              exact kx_iret F hQ ⟨rfl, (by omega)⟩ dX0_find_59
  exact L_107 _ 0 (by omega) rfl
theorem dX0_note_0 : decode cX0_note 0 = .ok (.aload_n 0, 1) := by decide +kernel
theorem dX0_note_1 : decode cX0_note 1 = .ok (.getfield 15, 3) := by decide +kernel
theorem dX0_note_4 : decode cX0_note 4 = .ok (.iload_n 1, 1) := by decide +kernel
theorem dX0_note_5 : decode cX0_note 5 = .ok (.iaload, 1) := by decide +kernel
theorem dX0_note_6 : decode cX0_note 6 = .ok (.aload_n 0, 1) := by decide +kernel
theorem dX0_note_7 : decode cX0_note 7 = .ok (.getfield 18, 3) := by decide +kernel
theorem dX0_note_10 : decode cX0_note 10 = .ok (.iload_n 1, 1) := by decide +kernel
theorem dX0_note_11 : decode cX0_note 11 = .ok (.iaload, 1) := by decide +kernel
theorem dX0_note_12 : decode cX0_note 12 = .ok (.invokestatic 72, 3) := by decide +kernel
theorem dX0_note_15 : decode cX0_note 15 = .ok (.istore_n 2, 1) := by decide +kernel
theorem dX0_note_16 : decode cX0_note 16 = .ok (.aload_n 0, 1) := by decide +kernel
theorem dX0_note_17 : decode cX0_note 17 = .ok (.getfield 21, 3) := by decide +kernel
theorem dX0_note_20 : decode cX0_note 20 = .ok (.iload_n 1, 1) := by decide +kernel
theorem dX0_note_21 : decode cX0_note 21 = .ok (.iaload, 1) := by decide +kernel
theorem dX0_note_22 : decode cX0_note 22 = .ok (.iconst (-1), 1) := by decide +kernel
theorem dX0_note_23 : decode cX0_note 23 = .ok (.if_icmp .eq 27, 3) := by decide +kernel
theorem dX0_note_26 : decode cX0_note 26 = .ok (.aload_n 0, 1) := by decide +kernel
theorem dX0_note_27 : decode cX0_note 27 = .ok (.getfield 27, 3) := by decide +kernel
theorem dX0_note_30 : decode cX0_note 30 = .ok (.aload_n 0, 1) := by decide +kernel
theorem dX0_note_31 : decode cX0_note 31 = .ok (.getfield 9, 3) := by decide +kernel
theorem dX0_note_34 : decode cX0_note 34 = .ok (.iload_n 1, 1) := by decide +kernel
theorem dX0_note_35 : decode cX0_note 35 = .ok (.iaload, 1) := by decide +kernel
theorem dX0_note_36 : decode cX0_note 36 = .ok (.iconst 3, 1) := by decide +kernel
theorem dX0_note_37 : decode cX0_note 37 = .ok (.imul, 1) := by decide +kernel
theorem dX0_note_38 : decode cX0_note 38 = .ok (.aload_n 0, 1) := by decide +kernel
theorem dX0_note_39 : decode cX0_note 39 = .ok (.getfield 21, 3) := by decide +kernel
theorem dX0_note_42 : decode cX0_note 42 = .ok (.iload_n 1, 1) := by decide +kernel
theorem dX0_note_43 : decode cX0_note 43 = .ok (.iaload, 1) := by decide +kernel
theorem dX0_note_44 : decode cX0_note 44 = .ok (.iadd, 1) := by decide +kernel
theorem dX0_note_45 : decode cX0_note 45 = .ok (.dup2, 1) := by decide +kernel
theorem dX0_note_46 : decode cX0_note 46 = .ok (.iaload, 1) := by decide +kernel
theorem dX0_note_47 : decode cX0_note 47 = .ok (.iload_n 2, 1) := by decide +kernel
theorem dX0_note_48 : decode cX0_note 48 = .ok (.ior, 1) := by decide +kernel
theorem dX0_note_49 : decode cX0_note 49 = .ok (.iastore, 1) := by decide +kernel
theorem dX0_note_50 : decode cX0_note 50 = .ok (.aload_n 0, 1) := by decide +kernel
theorem dX0_note_51 : decode cX0_note 51 = .ok (.getfield 21, 3) := by decide +kernel
theorem dX0_note_54 : decode cX0_note 54 = .ok (.iload_n 1, 1) := by decide +kernel
theorem dX0_note_55 : decode cX0_note 55 = .ok (.iaload, 1) := by decide +kernel
theorem dX0_note_56 : decode cX0_note 56 = .ok (.iconst (-1), 1) := by decide +kernel
theorem dX0_note_57 : decode cX0_note 57 = .ok (.if_icmp .eq 16, 3) := by decide +kernel
theorem dX0_note_60 : decode cX0_note 60 = .ok (.aload_n 0, 1) := by decide +kernel
theorem dX0_note_61 : decode cX0_note 61 = .ok (.getfield 9, 3) := by decide +kernel
theorem dX0_note_64 : decode cX0_note 64 = .ok (.iload_n 1, 1) := by decide +kernel
theorem dX0_note_65 : decode cX0_note 65 = .ok (.iaload, 1) := by decide +kernel
theorem dX0_note_66 : decode cX0_note 66 = .ok (.aload_n 0, 1) := by decide +kernel
theorem dX0_note_67 : decode cX0_note 67 = .ok (.getfield 30, 3) := by decide +kernel
theorem dX0_note_70 : decode cX0_note 70 = .ok (.if_icmp .ge 18, 3) := by decide +kernel
theorem dX0_note_73 : decode cX0_note 73 = .ok (.aload_n 0, 1) := by decide +kernel
theorem dX0_note_74 : decode cX0_note 74 = .ok (.getfield 24, 3) := by decide +kernel
theorem dX0_note_77 : decode cX0_note 77 = .ok (.aload_n 0, 1) := by decide +kernel
theorem dX0_note_78 : decode cX0_note 78 = .ok (.getfield 9, 3) := by decide +kernel
theorem dX0_note_81 : decode cX0_note 81 = .ok (.iload_n 1, 1) := by decide +kernel
theorem dX0_note_82 : decode cX0_note 82 = .ok (.iaload, 1) := by decide +kernel
theorem dX0_note_83 : decode cX0_note 83 = .ok (.dup2, 1) := by decide +kernel
theorem dX0_note_84 : decode cX0_note 84 = .ok (.iaload, 1) := by decide +kernel
theorem dX0_note_85 : decode cX0_note 85 = .ok (.iload_n 2, 1) := by decide +kernel
theorem dX0_note_86 : decode cX0_note 86 = .ok (.ior, 1) := by decide +kernel
theorem dX0_note_87 : decode cX0_note 87 = .ok (.iastore, 1) := by decide +kernel
theorem dX0_note_88 : decode cX0_note 88 = .ok (.return_, 1) := by decide +kernel
abbrev f_c_X0_note : List (Nat × Int) := [(6, -1), (7, -1)]
set_option maxHeartbeats 4000000 in
set_option maxRecDepth 100000 in
theorem c_X0_note (G : KG) (l : Launch) (M : Mem) (c0 a1 : Int) (hI_M : Inv false M) (hk_c0 : kd c0 = 1) (hpre : -2147483648 ≤ a1 ∧ a1 ≤ 2147483647 ∧ 0 ≤ a1 ∧ a1 ≤ 19) : KC false G l yX0_note cX0_note 3 none (1, 21) [vR G c0, vI a1] M (fun A => kQv false G A (fun (N : Mem) => Inv false N ∧ Fr f_c_X0_note M N)) := by
  refine kx_met (lo := [some (vR G c0), some (vI a1), none]) (by decide) (Nat.le_of_ble_eq_true rfl) rfl ?_
  intro X F hQ
  have hF_M : Fr f_c_X0_note M M := Fr.rf _ _
  refine kx_aload_n 1 F 0 dX0_note_0 rfl rfl rfl ?_
  refine kx_getr 4 F fl_X0_15 hk_c0 rfl rfl (j := 7) rfl dX0_note_1 (v := (M c0 7)) rfl rfl ?_
  have hk_1 : kd (M c0 7) = 3 := Inv.r hI_M hk_c0 rfl 7 rfl rfl
  refine kx_iload_n 5 F 1 dX0_note_4 rfl rfl rfl ?_
  refine kx_iald 6 F hk_1 rfl rfl (by omega) (by decide) dX0_note_5 (v := (M (M c0 7) a1)) rfl rfl ?_
  have h_2 := Inv.g hI_M hk_1 rfl a1 (a := 0) (b := 2) rfl rfl
  refine kx_aload_n 7 F 0 dX0_note_6 rfl rfl rfl ?_
  refine kx_getr 10 F fl_X0_18 hk_c0 rfl rfl (j := 8) rfl dX0_note_7 (v := (M c0 8)) rfl rfl ?_
  have hk_3 : kd (M c0 8) = 4 := Inv.r hI_M hk_c0 rfl 8 rfl rfl
  refine kx_iload_n 11 F 1 dX0_note_10 rfl rfl rfl ?_
  refine kx_iald 12 F hk_3 rfl rfl (by omega) (by decide) dX0_note_11 (v := (M (M c0 8) a1)) rfl rfl ?_
  have h_4 := Inv.g hI_M hk_3 rfl a1 (a := 0) (b := 2) rfl rfl
  refine kx_Si 15 F (As := [vI (M (M c0 7) a1), vI (M (M c0 8) a1)]) (st := []) sd_X0_72 (c_X2_pair G l M (M (M c0 7) a1) (M (M c0 8) a1) hI_M (by omega)) ⟨by decide, by decide⟩ rfl rfl (Nat.le_of_ble_eq_true rfl) dX0_note_12 rfl ?_
  intro r_5 N_6 q_7
  obtain ⟨rfl, q_7c⟩ := q_7
  refine kx_istore_n 16 F 2 (lo' := [some (vR G c0), some (vI a1), some (vI r_5)]) dX0_note_15 rfl (by decide) rfl rfl rfl ?_
  refine kx_aload_n 17 F 0 dX0_note_16 rfl rfl rfl ?_
  refine kx_getr 20 F fl_X0_21 hk_c0 rfl rfl (j := 9) rfl dX0_note_17 (v := (M c0 9)) rfl rfl ?_
  have hk_8 : kd (M c0 9) = 5 := Inv.r hI_M hk_c0 rfl 9 rfl rfl
  refine kx_iload_n 21 F 1 dX0_note_20 rfl rfl rfl ?_
  refine kx_iald 22 F hk_8 rfl rfl (by omega) (by decide) dX0_note_21 (v := (M (M c0 9) a1)) rfl rfl ?_
  have h_9 := Inv.g hI_M hk_8 rfl a1 (a := (-1)) (b := 2) rfl rfl
  refine kx_iconst 23 F dX0_note_22 rfl ?_
  have J_18 : ∀ (N_17 : Mem), Inv false N_17 → Fr f_c_X0_note M N_17 → KJ false G X N_17 50 [some (vR G c0), some (vI a1), some (vI r_5)] [] := by
    intro N_17 hI_N_17 hF_N_17
    refine kx_aload_n 51 F 0 dX0_note_50 rfl rfl rfl ?_
    refine kx_getr 54 F fl_X0_21 hk_c0 rfl rfl (j := 9) rfl dX0_note_51 (v := (N_17 c0 9)) rfl rfl ?_
    have hk_20 : kd (N_17 c0 9) = 5 := Inv.r hI_N_17 hk_c0 rfl 9 rfl rfl
    refine kx_iload_n 55 F 1 dX0_note_54 rfl rfl rfl ?_
    refine kx_iald 56 F hk_20 rfl rfl (by omega) (by decide) dX0_note_55 (v := (N_17 (N_17 c0 9) a1)) rfl rfl ?_
    have h_21 := Inv.g hI_N_17 hk_20 rfl a1 (a := (-1)) (b := 2) rfl rfl
    refine kx_iconst 57 F dX0_note_56 rfl ?_
    refine kx_icmp_eq 60 F 73 dX0_note_57 (by decide) rfl (by omega) (by decide) (fun h_22 => ?_) (fun h_22 => ?_)
    · refine kx_aload_n 74 F 0 dX0_note_73 rfl rfl rfl ?_
      refine kx_getr 77 F fl_X0_24 hk_c0 rfl rfl (j := 10) rfl dX0_note_74 (v := (N_17 c0 10)) rfl rfl ?_
      have hk_23 : kd (N_17 c0 10) = 6 := Inv.r hI_N_17 hk_c0 rfl 10 rfl rfl
      refine kx_aload_n 78 F 0 dX0_note_77 rfl rfl rfl ?_
      refine kx_getr 81 F fl_X0_9 hk_c0 rfl rfl (j := 6) rfl dX0_note_78 (v := (N_17 c0 6)) rfl rfl ?_
      have hk_24 : kd (N_17 c0 6) = 2 := Inv.r hI_N_17 hk_c0 rfl 6 rfl rfl
      refine kx_iload_n 82 F 1 dX0_note_81 rfl rfl rfl ?_
      refine kx_iald 83 F hk_24 rfl rfl (by omega) (by decide) dX0_note_82 (v := (N_17 (N_17 c0 6) a1)) rfl rfl ?_
      have h_25 := Inv.g hI_N_17 hk_24 rfl a1 (a := 0) (b := 5) rfl rfl
      refine kx_dup2 84 F dX0_note_83 rfl rfl rfl ?_
      refine kx_iald 85 F hk_23 rfl rfl (by omega) (by decide) dX0_note_84 (v := (N_17 (N_17 c0 10) (N_17 (N_17 c0 6) a1))) rfl rfl ?_
      have h_26 := Inv.g hI_N_17 hk_23 rfl (N_17 (N_17 c0 6) a1) (a := 0) (b := 511) rfl rfl
      refine kx_iload_n 86 F 2 dX0_note_85 rfl rfl rfl ?_
      refine kx_ior 87 F (v := (zor (N_17 (N_17 c0 10) (N_17 (N_17 c0 6) a1)) r_5)) dX0_note_86 rfl rfl ?_
      have h_27 : 0 ≤ (zor (N_17 (N_17 c0 10) (N_17 (N_17 c0 6) a1)) r_5) ∧ (zor (N_17 (N_17 c0 10) (N_17 (N_17 c0 6) a1)) r_5) < 512 := zor_lt (a := (N_17 (N_17 c0 10) (N_17 (N_17 c0 6) a1))) (b := r_5) 9 (by decide) (by omega) (by omega)
      refine kx_iast 88 F hk_23 rfl rfl (by omega) (by decide) dX0_note_87 rfl ?_
      intro N_28 hM_N_28
      have hI_N_28 : Inv false N_28 := Inv.u hI_N_17 hM_N_28 hk_23 (a := 0) (b := 511) rfl rfl rfl (by omega)
      have hF_N_28 : Fr f_c_X0_note M N_28 := Fr.u hF_N_17 hM_N_28 hk_23 rfl
      exact kx_vret F hQ ⟨hI_N_28, hF_N_28⟩ dX0_note_88
    · refine kx_aload_n 61 F 0 dX0_note_60 rfl rfl rfl ?_
      refine kx_getr 64 F fl_X0_9 hk_c0 rfl rfl (j := 6) rfl dX0_note_61 (v := (N_17 c0 6)) rfl rfl ?_
      have hk_29 : kd (N_17 c0 6) = 2 := Inv.r hI_N_17 hk_c0 rfl 6 rfl rfl
      refine kx_iload_n 65 F 1 dX0_note_64 rfl rfl rfl ?_
      refine kx_iald 66 F hk_29 rfl rfl (by omega) (by decide) dX0_note_65 (v := (N_17 (N_17 c0 6) a1)) rfl rfl ?_
      have h_30 := Inv.g hI_N_17 hk_29 rfl a1 (a := 0) (b := 5) rfl rfl
      refine kx_aload_n 67 F 0 dX0_note_66 rfl rfl rfl ?_
      refine kx_geti 70 F fl_X0_30 hk_c0 rfl rfl (j := 5) rfl dX0_note_67 (v := (N_17 c0 5)) rfl rfl ?_
      have h_31 := Inv.g hI_N_17 hk_c0 rfl 5 (a := 0) (b := 2) rfl rfl
      refine kx_icmp_ge 73 F 88 dX0_note_70 (by decide) rfl (by omega) (by omega) (fun h_32 => ?_) (fun h_32 => ?_)
      · exact kx_vret F hQ ⟨hI_N_17, hF_N_17⟩ dX0_note_88
      · refine kx_aload_n 74 F 0 dX0_note_73 rfl rfl rfl ?_
        refine kx_getr 77 F fl_X0_24 hk_c0 rfl rfl (j := 10) rfl dX0_note_74 (v := (N_17 c0 10)) rfl rfl ?_
        have hk_33 : kd (N_17 c0 10) = 6 := Inv.r hI_N_17 hk_c0 rfl 10 rfl rfl
        refine kx_aload_n 78 F 0 dX0_note_77 rfl rfl rfl ?_
        refine kx_getr 81 F fl_X0_9 hk_c0 rfl rfl (j := 6) rfl dX0_note_78 (v := (N_17 c0 6)) rfl rfl ?_
        refine kx_iload_n 82 F 1 dX0_note_81 rfl rfl rfl ?_
        refine kx_iald 83 F hk_29 rfl rfl (by omega) (by decide) dX0_note_82 (v := (N_17 (N_17 c0 6) a1)) rfl rfl ?_
        refine kx_dup2 84 F dX0_note_83 rfl rfl rfl ?_
        refine kx_iald 85 F hk_33 rfl rfl (by omega) (by decide) dX0_note_84 (v := (N_17 (N_17 c0 10) (N_17 (N_17 c0 6) a1))) rfl rfl ?_
        have h_34 := Inv.g hI_N_17 hk_33 rfl (N_17 (N_17 c0 6) a1) (a := 0) (b := 511) rfl rfl
        refine kx_iload_n 86 F 2 dX0_note_85 rfl rfl rfl ?_
        refine kx_ior 87 F (v := (zor (N_17 (N_17 c0 10) (N_17 (N_17 c0 6) a1)) r_5)) dX0_note_86 rfl rfl ?_
        have h_35 : 0 ≤ (zor (N_17 (N_17 c0 10) (N_17 (N_17 c0 6) a1)) r_5) ∧ (zor (N_17 (N_17 c0 10) (N_17 (N_17 c0 6) a1)) r_5) < 512 := zor_lt (a := (N_17 (N_17 c0 10) (N_17 (N_17 c0 6) a1))) (b := r_5) 9 (by decide) (by omega) (by omega)
        refine kx_iast 88 F hk_33 rfl rfl (by omega) (by decide) dX0_note_87 rfl ?_
        intro N_36 hM_N_36
        have hI_N_36 : Inv false N_36 := Inv.u hI_N_17 hM_N_36 hk_33 (a := 0) (b := 511) rfl rfl rfl (by omega)
        have hF_N_36 : Fr f_c_X0_note M N_36 := Fr.u hF_N_17 hM_N_36 hk_33 rfl
        exact kx_vret F hQ ⟨hI_N_36, hF_N_36⟩ dX0_note_88
  refine kx_icmp_eq 26 F 50 dX0_note_23 (by decide) rfl (by omega) (by decide) (fun h_37 => ?_) (fun h_37 => ?_)
  · exact J_18 M hI_M hF_M
  · refine kx_aload_n 27 F 0 dX0_note_26 rfl rfl rfl ?_
    refine kx_getr 30 F fl_X0_27 hk_c0 rfl rfl (j := 11) rfl dX0_note_27 (v := (M c0 11)) rfl rfl ?_
    have hk_38 : kd (M c0 11) = 7 := Inv.r hI_M hk_c0 rfl 11 rfl rfl
    refine kx_aload_n 31 F 0 dX0_note_30 rfl rfl rfl ?_
    refine kx_getr 34 F fl_X0_9 hk_c0 rfl rfl (j := 6) rfl dX0_note_31 (v := (M c0 6)) rfl rfl ?_
    have hk_39 : kd (M c0 6) = 2 := Inv.r hI_M hk_c0 rfl 6 rfl rfl
    refine kx_iload_n 35 F 1 dX0_note_34 rfl rfl rfl ?_
    refine kx_iald 36 F hk_39 rfl rfl (by omega) (by decide) dX0_note_35 (v := (M (M c0 6) a1)) rfl rfl ?_
    have h_40 := Inv.g hI_M hk_39 rfl a1 (a := 0) (b := 5) rfl rfl
    refine kx_iconst 37 F dX0_note_36 rfl ?_
    refine kx_imul 38 F (v := 3 * (M (M c0 6) a1)) dX0_note_37 (by omega) rfl ?_
    refine kx_aload_n 39 F 0 dX0_note_38 rfl rfl rfl ?_
    refine kx_getr 42 F fl_X0_21 hk_c0 rfl rfl (j := 9) rfl dX0_note_39 (v := (M c0 9)) rfl rfl ?_
    refine kx_iload_n 43 F 1 dX0_note_42 rfl rfl rfl ?_
    refine kx_iald 44 F hk_8 rfl rfl (by omega) (by decide) dX0_note_43 (v := (M (M c0 9) a1)) rfl rfl ?_
    refine kx_iadd 45 F (v := 3 * (M (M c0 6) a1) + (M (M c0 9) a1)) dX0_note_44 rfl rfl ?_
    refine kx_dup2 46 F dX0_note_45 rfl rfl rfl ?_
    refine kx_iald 47 F hk_38 rfl rfl (by omega) (by decide) dX0_note_46 (v := (M (M c0 11) (3 * (M (M c0 6) a1) + (M (M c0 9) a1)))) rfl rfl ?_
    have h_41 := Inv.g hI_M hk_38 rfl (3 * (M (M c0 6) a1) + (M (M c0 9) a1)) (a := 0) (b := 511) rfl rfl
    refine kx_iload_n 48 F 2 dX0_note_47 rfl rfl rfl ?_
    refine kx_ior 49 F (v := (zor (M (M c0 11) (3 * (M (M c0 6) a1) + (M (M c0 9) a1))) r_5)) dX0_note_48 rfl rfl ?_
    have h_42 : 0 ≤ (zor (M (M c0 11) (3 * (M (M c0 6) a1) + (M (M c0 9) a1))) r_5) ∧ (zor (M (M c0 11) (3 * (M (M c0 6) a1) + (M (M c0 9) a1))) r_5) < 512 := zor_lt (a := (M (M c0 11) (3 * (M (M c0 6) a1) + (M (M c0 9) a1)))) (b := r_5) 9 (by decide) (by omega) (by omega)
    refine kx_iast 50 F hk_38 rfl rfl (by omega) (by decide) dX0_note_49 rfl ?_
    intro N_43 hM_N_43
    have hI_N_43 : Inv false N_43 := Inv.u hI_M hM_N_43 hk_38 (a := 0) (b := 511) rfl rfl rfl (by omega)
    have hF_N_43 : Fr f_c_X0_note M N_43 := Fr.u hF_M hM_N_43 hk_38 rfl
    exact J_18 N_43 hI_N_43 hF_N_43
theorem dX0_append_0 : decode cX0_append 0 = .ok (.aload_n 0, 1) := by decide +kernel
theorem dX0_append_1 : decode cX0_append 1 = .ok (.getfield 46, 3) := by decide +kernel
theorem dX0_append_4 : decode cX0_append 4 = .ok (.bipush 20, 2) := by decide +kernel
theorem dX0_append_6 : decode cX0_append 6 = .ok (.if_icmp .lt 4, 3) := by decide +kernel
theorem dX0_append_9 : decode cX0_append 9 = .ok (.return_, 1) := by decide +kernel
theorem dX0_append_10 : decode cX0_append 10 = .ok (.aload_n 0, 1) := by decide +kernel
theorem dX0_append_11 : decode cX0_append 11 = .ok (.getfield 9, 3) := by decide +kernel
theorem dX0_append_14 : decode cX0_append 14 = .ok (.aload_n 0, 1) := by decide +kernel
theorem dX0_append_15 : decode cX0_append 15 = .ok (.getfield 46, 3) := by decide +kernel
theorem dX0_append_18 : decode cX0_append 18 = .ok (.iload_n 1, 1) := by decide +kernel
theorem dX0_append_19 : decode cX0_append 19 = .ok (.iastore, 1) := by decide +kernel
theorem dX0_append_20 : decode cX0_append 20 = .ok (.aload_n 0, 1) := by decide +kernel
theorem dX0_append_21 : decode cX0_append 21 = .ok (.getfield 15, 3) := by decide +kernel
theorem dX0_append_24 : decode cX0_append 24 = .ok (.aload_n 0, 1) := by decide +kernel
theorem dX0_append_25 : decode cX0_append 25 = .ok (.getfield 46, 3) := by decide +kernel
theorem dX0_append_28 : decode cX0_append 28 = .ok (.iload_n 2, 1) := by decide +kernel
theorem dX0_append_29 : decode cX0_append 29 = .ok (.iastore, 1) := by decide +kernel
theorem dX0_append_30 : decode cX0_append 30 = .ok (.aload_n 0, 1) := by decide +kernel
theorem dX0_append_31 : decode cX0_append 31 = .ok (.getfield 18, 3) := by decide +kernel
theorem dX0_append_34 : decode cX0_append 34 = .ok (.aload_n 0, 1) := by decide +kernel
theorem dX0_append_35 : decode cX0_append 35 = .ok (.getfield 46, 3) := by decide +kernel
theorem dX0_append_38 : decode cX0_append 38 = .ok (.iload_n 3, 1) := by decide +kernel
theorem dX0_append_39 : decode cX0_append 39 = .ok (.iastore, 1) := by decide +kernel
theorem dX0_append_40 : decode cX0_append 40 = .ok (.aload_n 0, 1) := by decide +kernel
theorem dX0_append_41 : decode cX0_append 41 = .ok (.getfield 21, 3) := by decide +kernel
theorem dX0_append_44 : decode cX0_append 44 = .ok (.aload_n 0, 1) := by decide +kernel
theorem dX0_append_45 : decode cX0_append 45 = .ok (.getfield 46, 3) := by decide +kernel
theorem dX0_append_48 : decode cX0_append 48 = .ok (.iload 4, 2) := by decide +kernel
theorem dX0_append_50 : decode cX0_append 50 = .ok (.iastore, 1) := by decide +kernel
theorem dX0_append_51 : decode cX0_append 51 = .ok (.aload_n 0, 1) := by decide +kernel
theorem dX0_append_52 : decode cX0_append 52 = .ok (.dup, 1) := by decide +kernel
theorem dX0_append_53 : decode cX0_append 53 = .ok (.getfield 46, 3) := by decide +kernel
theorem dX0_append_56 : decode cX0_append 56 = .ok (.iconst 1, 1) := by decide +kernel
theorem dX0_append_57 : decode cX0_append 57 = .ok (.iadd, 1) := by decide +kernel
theorem dX0_append_58 : decode cX0_append 58 = .ok (.putfield 46, 3) := by decide +kernel
theorem dX0_append_61 : decode cX0_append 61 = .ok (.aload_n 0, 1) := by decide +kernel
theorem dX0_append_62 : decode cX0_append 62 = .ok (.aload_n 0, 1) := by decide +kernel
theorem dX0_append_63 : decode cX0_append 63 = .ok (.getfield 46, 3) := by decide +kernel
theorem dX0_append_66 : decode cX0_append 66 = .ok (.iconst 1, 1) := by decide +kernel
theorem dX0_append_67 : decode cX0_append 67 = .ok (.isub, 1) := by decide +kernel
theorem dX0_append_68 : decode cX0_append 68 = .ok (.invokevirtual 68, 3) := by decide +kernel
theorem dX0_append_71 : decode cX0_append 71 = .ok (.return_, 1) := by decide +kernel
abbrev f_c_X0_append : List (Nat × Int) := [(1, 4), (2, -1), (3, -1), (4, -1), (5, -1), (6, -1), (7, -1)]
set_option maxHeartbeats 4000000 in
set_option maxRecDepth 100000 in
theorem c_X0_append (G : KG) (l : Launch) (M : Mem) (c0 a1 a2 a3 a4 : Int) (hI_M : Inv false M) (hk_c0 : kd c0 = 1) (hpre : -2147483648 ≤ a1 ∧ a1 ≤ 2147483647 ∧ -2147483648 ≤ a2 ∧ a2 ≤ 2147483647 ∧ -2147483648 ≤ a3 ∧ a3 ≤ 2147483647 ∧ -2147483648 ≤ a4 ∧ a4 ≤ 2147483647 ∧ 0 ≤ a1 ∧ a1 ≤ 5 ∧ 0 ≤ a2 ∧ a2 ≤ 2 ∧ 0 ≤ a3 ∧ a3 ≤ 2 ∧ -1 ≤ a4 ∧ a4 ≤ 2) : KC false G l yX0_append cX0_append 5 none (2, 43) [vR G c0, vI a1, vI a2, vI a3, vI a4] M (fun A => kQv false G A (fun (N : Mem) => Inv false N ∧ Fr f_c_X0_append M N)) := by
  refine kx_met (lo := [some (vR G c0), some (vI a1), some (vI a2), some (vI a3), some (vI a4)]) (by decide) (Nat.le_of_ble_eq_true rfl) rfl ?_
  intro X F hQ
  have hF_M : Fr f_c_X0_append M M := Fr.rf _ _
  refine kx_aload_n 1 F 0 dX0_append_0 rfl rfl rfl ?_
  refine kx_geti 4 F fl_X0_46 hk_c0 rfl rfl (j := 4) rfl dX0_append_1 (v := (M c0 4)) rfl rfl ?_
  have h_1 := Inv.g hI_M hk_c0 rfl 4 (a := 0) (b := 20) rfl rfl
  refine kx_bipush 6 F dX0_append_4 (by decide) rfl ?_
  refine kx_icmp_lt 9 F 10 dX0_append_6 (by decide) rfl (by omega) (by decide) (fun h_2 => ?_) (fun h_2 => ?_)
  · refine kx_aload_n 11 F 0 dX0_append_10 rfl rfl rfl ?_
    refine kx_getr 14 F fl_X0_9 hk_c0 rfl rfl (j := 6) rfl dX0_append_11 (v := (M c0 6)) rfl rfl ?_
    have hk_3 : kd (M c0 6) = 2 := Inv.r hI_M hk_c0 rfl 6 rfl rfl
    refine kx_aload_n 15 F 0 dX0_append_14 rfl rfl rfl ?_
    refine kx_geti 18 F fl_X0_46 hk_c0 rfl rfl (j := 4) rfl dX0_append_15 (v := (M c0 4)) rfl rfl ?_
    refine kx_iload_n 19 F 1 dX0_append_18 rfl rfl rfl ?_
    refine kx_iast 20 F hk_3 rfl rfl (by omega) (by decide) dX0_append_19 rfl ?_
    intro N_4 hM_N_4
    have hI_N_4 : Inv false N_4 := Inv.u hI_M hM_N_4 hk_3 (a := 0) (b := 5) rfl rfl rfl (by omega)
    have hF_N_4 : Fr f_c_X0_append M N_4 := Fr.u hF_M hM_N_4 hk_3 rfl
    refine kx_aload_n 21 F 0 dX0_append_20 rfl rfl rfl ?_
    refine kx_getr 24 F fl_X0_15 hk_c0 rfl rfl (j := 7) rfl dX0_append_21 (v := (M c0 7)) (by rw [hM_N_4, mu_k hk_c0 hk_3 rfl]) rfl ?_
    have hk_5 : kd (M c0 7) = 3 := Inv.r hI_M hk_c0 rfl 7 rfl rfl
    refine kx_aload_n 25 F 0 dX0_append_24 rfl rfl rfl ?_
    refine kx_geti 28 F fl_X0_46 hk_c0 rfl rfl (j := 4) rfl dX0_append_25 (v := (M c0 4)) (by rw [hM_N_4, mu_k hk_c0 hk_3 rfl]) rfl ?_
    refine kx_iload_n 29 F 2 dX0_append_28 rfl rfl rfl ?_
    refine kx_iast 30 F hk_5 rfl rfl (by omega) (by decide) dX0_append_29 rfl ?_
    intro N_6 hM_N_6
    have hI_N_6 : Inv false N_6 := Inv.u hI_N_4 hM_N_6 hk_5 (a := 0) (b := 2) rfl rfl rfl (by omega)
    have hF_N_6 : Fr f_c_X0_append M N_6 := Fr.u hF_N_4 hM_N_6 hk_5 rfl
    refine kx_aload_n 31 F 0 dX0_append_30 rfl rfl rfl ?_
    refine kx_getr 34 F fl_X0_18 hk_c0 rfl rfl (j := 8) rfl dX0_append_31 (v := (M c0 8)) (by rw [hM_N_6, mu_k hk_c0 hk_5 rfl, hM_N_4, mu_k hk_c0 hk_3 rfl]) rfl ?_
    have hk_7 : kd (M c0 8) = 4 := Inv.r hI_M hk_c0 rfl 8 rfl rfl
    refine kx_aload_n 35 F 0 dX0_append_34 rfl rfl rfl ?_
    refine kx_geti 38 F fl_X0_46 hk_c0 rfl rfl (j := 4) rfl dX0_append_35 (v := (M c0 4)) (by rw [hM_N_6, mu_k hk_c0 hk_5 rfl, hM_N_4, mu_k hk_c0 hk_3 rfl]) rfl ?_
    refine kx_iload_n 39 F 3 dX0_append_38 rfl rfl rfl ?_
    refine kx_iast 40 F hk_7 rfl rfl (by omega) (by decide) dX0_append_39 rfl ?_
    intro N_8 hM_N_8
    have hI_N_8 : Inv false N_8 := Inv.u hI_N_6 hM_N_8 hk_7 (a := 0) (b := 2) rfl rfl rfl (by omega)
    have hF_N_8 : Fr f_c_X0_append M N_8 := Fr.u hF_N_6 hM_N_8 hk_7 rfl
    refine kx_aload_n 41 F 0 dX0_append_40 rfl rfl rfl ?_
    refine kx_getr 44 F fl_X0_21 hk_c0 rfl rfl (j := 9) rfl dX0_append_41 (v := (M c0 9)) (by rw [hM_N_8, mu_k hk_c0 hk_7 rfl, hM_N_6, mu_k hk_c0 hk_5 rfl, hM_N_4, mu_k hk_c0 hk_3 rfl]) rfl ?_
    have hk_9 : kd (M c0 9) = 5 := Inv.r hI_M hk_c0 rfl 9 rfl rfl
    refine kx_aload_n 45 F 0 dX0_append_44 rfl rfl rfl ?_
    refine kx_geti 48 F fl_X0_46 hk_c0 rfl rfl (j := 4) rfl dX0_append_45 (v := (M c0 4)) (by rw [hM_N_8, mu_k hk_c0 hk_7 rfl, hM_N_6, mu_k hk_c0 hk_5 rfl, hM_N_4, mu_k hk_c0 hk_3 rfl]) rfl ?_
    refine kx_iload 50 F 4 dX0_append_48 rfl rfl ?_
    refine kx_iast 51 F hk_9 rfl rfl (by omega) (by decide) dX0_append_50 rfl ?_
    intro N_10 hM_N_10
    have hI_N_10 : Inv false N_10 := Inv.u hI_N_8 hM_N_10 hk_9 (a := (-1)) (b := 2) rfl rfl rfl (by omega)
    have hF_N_10 : Fr f_c_X0_append M N_10 := Fr.u hF_N_8 hM_N_10 hk_9 rfl
    refine kx_aload_n 52 F 0 dX0_append_51 rfl rfl rfl ?_
    refine kx_dup 53 F dX0_append_52 rfl rfl ?_
    refine kx_geti 56 F fl_X0_46 hk_c0 rfl rfl (j := 4) rfl dX0_append_53 (v := (M c0 4)) (by rw [hM_N_10, mu_k hk_c0 hk_9 rfl, hM_N_8, mu_k hk_c0 hk_7 rfl, hM_N_6, mu_k hk_c0 hk_5 rfl, hM_N_4, mu_k hk_c0 hk_3 rfl]) rfl ?_
    refine kx_iconst 57 F dX0_append_56 rfl ?_
    refine kx_iadd 58 F (v := (M c0 4) + 1) dX0_append_57 rfl rfl ?_
    refine kx_puti 61 F fw_X0_46 rfl hk_c0 rfl rfl (j := 4) rfl dX0_append_58 rfl ?_
    intro N_11 hM_N_11
    have hI_N_11 : Inv false N_11 := Inv.u hI_N_10 hM_N_11 hk_c0 (a := 0) (b := 20) rfl rfl rfl (by omega)
    have hF_N_11 : Fr f_c_X0_append M N_11 := Fr.u hF_N_10 hM_N_11 hk_c0 rfl
    refine kx_aload_n 62 F 0 dX0_append_61 rfl rfl rfl ?_
    refine kx_aload_n 63 F 0 dX0_append_62 rfl rfl rfl ?_
    refine kx_geti 66 F fl_X0_46 hk_c0 rfl rfl (j := 4) rfl dX0_append_63 (v := (M c0 4) + 1) (by rw [hM_N_11, mu_s]) rfl ?_
    refine kx_iconst 67 F dX0_append_66 rfl ?_
    refine kx_isub 68 F (v := (M c0 4)) dX0_append_67 (by omega) rfl ?_
    refine kx_Vv 71 (ci := 0) F (As := [vI (M c0 4)]) (st := []) vd_X0_68 (c_X0_note G l N_11 c0 (M c0 4) hI_N_11 hk_c0 (by omega)) hk_c0 rfl rfl rfl ⟨by decide, by decide⟩ rfl rfl (Nat.le_of_ble_eq_true rfl) dX0_append_68 rfl ?_
    intro N_12 q_13
    obtain ⟨hI_N_12, hG_N_12⟩ := q_13
    have hF_N_12 : Fr f_c_X0_append M N_12 := Fr.c hF_N_11 hG_N_12 rfl
    exact kx_vret F hQ ⟨hI_N_12, hF_N_12⟩ dX0_append_71
  · exact kx_vret F hQ ⟨hI_M, hF_M⟩ dX0_append_9
theorem dJ7_fill_53178_0 : decode cJ7_fill_53178 0 = .ok (.iconst 0, 1) := by decide +kernel
theorem dJ7_fill_53178_1 : decode cJ7_fill_53178 1 = .ok (.istore_n 2, 1) := by decide +kernel
theorem dJ7_fill_53178_2 : decode cJ7_fill_53178 2 = .ok (.aload_n 0, 1) := by decide +kernel
theorem dJ7_fill_53178_3 : decode cJ7_fill_53178 3 = .ok (.arraylength, 1) := by decide +kernel
theorem dJ7_fill_53178_4 : decode cJ7_fill_53178 4 = .ok (.istore_n 3, 1) := by decide +kernel
theorem dJ7_fill_53178_5 : decode cJ7_fill_53178 5 = .ok (.iload_n 2, 1) := by decide +kernel
theorem dJ7_fill_53178_6 : decode cJ7_fill_53178 6 = .ok (.iload_n 3, 1) := by decide +kernel
theorem dJ7_fill_53178_7 : decode cJ7_fill_53178 7 = .ok (.if_icmp .ge 13, 3) := by decide +kernel
theorem dJ7_fill_53178_10 : decode cJ7_fill_53178 10 = .ok (.aload_n 0, 1) := by decide +kernel
theorem dJ7_fill_53178_11 : decode cJ7_fill_53178 11 = .ok (.iload_n 2, 1) := by decide +kernel
theorem dJ7_fill_53178_12 : decode cJ7_fill_53178 12 = .ok (.iload_n 1, 1) := by decide +kernel
theorem dJ7_fill_53178_13 : decode cJ7_fill_53178 13 = .ok (.iastore, 1) := by decide +kernel
theorem dJ7_fill_53178_14 : decode cJ7_fill_53178 14 = .ok (.iinc 2 1, 3) := by decide +kernel
theorem dJ7_fill_53178_17 : decode cJ7_fill_53178 17 = .ok (.goto (-12), 3) := by decide +kernel
theorem dJ7_fill_53178_20 : decode cJ7_fill_53178 20 = .ok (.return_, 1) := by decide +kernel
abbrev f_c_fill_step : List (Nat × Int) := [(6, -1)]
set_option maxHeartbeats 4000000 in
set_option maxRecDepth 100000 in
theorem c_fill_step (G : KG) (l : Launch) (M : Mem) (c0 a1 : Int) (hI_M : Inv false M) (hk_c0 : kd c0 = 6) (hpre : -2147483648 ≤ a1 ∧ a1 ≤ 2147483647 ∧ 0 ≤ a1 ∧ a1 ≤ 511) : KC false G l yJ7_fill_53178 cJ7_fill_53178 4 none (0, 0) [vR G c0, vI a1] M (fun A => kQv false G A (fun (N : Mem) => Inv false N ∧ Fr f_c_fill_step M N)) := by
  refine kx_met (lo := [some (vR G c0), some (vI a1), none, none]) (by decide) (Nat.le_of_ble_eq_true rfl) rfl ?_
  intro X F hQ
  have hF_M : Fr f_c_fill_step M M := Fr.rf _ _
  refine kx_iconst 1 F dJ7_fill_53178_0 rfl ?_
  refine kx_istore_n 2 F 2 (lo' := [some (vR G c0), some (vI a1), some (vI 0), none]) dJ7_fill_53178_1 rfl (by decide) rfl rfl rfl ?_
  refine kx_aload_n 3 F 0 dJ7_fill_53178_2 rfl rfl rfl ?_
  refine kx_alen 4 F hk_c0 rfl rfl (z := 6) (by decide) dJ7_fill_53178_3 rfl ?_
  refine kx_istore_n 5 F 3 (lo' := [some (vR G c0), some (vI a1), some (vI 0), some (vI 6)]) dJ7_fill_53178_4 rfl (by decide) rfl rfl rfl ?_
  have L_31 : ∀ (n_32 : Nat) (x2_29 : Int) (N_30 : Mem), Inv false N_30 → Fr f_c_fill_step M N_30 → 0 ≤ x2_29 ∧ x2_29 ≤ 6 → (6 - (x2_29)).toNat = n_32 → KJ false G X N_30 5 [some (vR G c0), some (vI a1), some (vI x2_29), some (vI 6)] [] := by
    intro n_32
    refine Nat.strongRecOn n_32 ?_
    intro n_32 ih_33 x2_29 N_30 hI_N_30 hF_N_30 h_34 hm_35
    refine kx_iload_n 6 F 2 dJ7_fill_53178_5 rfl rfl rfl ?_
    refine kx_iload_n 7 F 3 dJ7_fill_53178_6 rfl rfl rfl ?_
    refine kx_icmp_ge 10 F 20 dJ7_fill_53178_7 (by decide) rfl (by omega) (by decide) (fun h_36 => ?_) (fun h_36 => ?_)
    · exact kx_vret F hQ ⟨hI_N_30, hF_N_30⟩ dJ7_fill_53178_20
    · refine kx_aload_n 11 F 0 dJ7_fill_53178_10 rfl rfl rfl ?_
      refine kx_iload_n 12 F 2 dJ7_fill_53178_11 rfl rfl rfl ?_
      refine kx_iload_n 13 F 1 dJ7_fill_53178_12 rfl rfl rfl ?_
      refine kx_iast 14 F hk_c0 rfl rfl (by omega) (by decide) dJ7_fill_53178_13 rfl ?_
      intro N_37 hM_N_37
      have hI_N_37 : Inv false N_37 := Inv.u hI_N_30 hM_N_37 hk_c0 (a := 0) (b := 511) rfl rfl rfl (by omega)
      have hF_N_37 : Fr f_c_fill_step M N_37 := Fr.u hF_N_30 hM_N_37 hk_c0 rfl
      refine kx_iinc 17 F 2 (v := x2_29 + 1) (lo' := [some (vR G c0), some (vI a1), some (vI (x2_29 + 1)), some (vI 6)]) dJ7_fill_53178_14 rfl (by omega) (by decide) rfl rfl rfl ?_
      refine kx_goto 5 F dJ7_fill_53178_17 (by decide) ?_
      exact ih_33 _ (by omega) (x2_29 + 1) N_37 hI_N_37 hF_N_37 (by omega) rfl
  exact L_31 _ 0 M hI_M hF_M (by omega) rfl
abbrev f_c_fill_stacked : List (Nat × Int) := [(7, -1)]
set_option maxHeartbeats 4000000 in
set_option maxRecDepth 100000 in
theorem c_fill_stacked (G : KG) (l : Launch) (M : Mem) (c0 a1 : Int) (hI_M : Inv false M) (hk_c0 : kd c0 = 7) (hpre : -2147483648 ≤ a1 ∧ a1 ≤ 2147483647 ∧ 0 ≤ a1 ∧ a1 ≤ 511) : KC false G l yJ7_fill_53178 cJ7_fill_53178 4 none (0, 0) [vR G c0, vI a1] M (fun A => kQv false G A (fun (N : Mem) => Inv false N ∧ Fr f_c_fill_stacked M N)) := by
  refine kx_met (lo := [some (vR G c0), some (vI a1), none, none]) (by decide) (Nat.le_of_ble_eq_true rfl) rfl ?_
  intro X F hQ
  have hF_M : Fr f_c_fill_stacked M M := Fr.rf _ _
  refine kx_iconst 1 F dJ7_fill_53178_0 rfl ?_
  refine kx_istore_n 2 F 2 (lo' := [some (vR G c0), some (vI a1), some (vI 0), none]) dJ7_fill_53178_1 rfl (by decide) rfl rfl rfl ?_
  refine kx_aload_n 3 F 0 dJ7_fill_53178_2 rfl rfl rfl ?_
  refine kx_alen 4 F hk_c0 rfl rfl (z := 18) (by decide) dJ7_fill_53178_3 rfl ?_
  refine kx_istore_n 5 F 3 (lo' := [some (vR G c0), some (vI a1), some (vI 0), some (vI 18)]) dJ7_fill_53178_4 rfl (by decide) rfl rfl rfl ?_
  have L_31 : ∀ (n_32 : Nat) (x2_29 : Int) (N_30 : Mem), Inv false N_30 → Fr f_c_fill_stacked M N_30 → 0 ≤ x2_29 ∧ x2_29 ≤ 18 → (18 - (x2_29)).toNat = n_32 → KJ false G X N_30 5 [some (vR G c0), some (vI a1), some (vI x2_29), some (vI 18)] [] := by
    intro n_32
    refine Nat.strongRecOn n_32 ?_
    intro n_32 ih_33 x2_29 N_30 hI_N_30 hF_N_30 h_34 hm_35
    refine kx_iload_n 6 F 2 dJ7_fill_53178_5 rfl rfl rfl ?_
    refine kx_iload_n 7 F 3 dJ7_fill_53178_6 rfl rfl rfl ?_
    refine kx_icmp_ge 10 F 20 dJ7_fill_53178_7 (by decide) rfl (by omega) (by decide) (fun h_36 => ?_) (fun h_36 => ?_)
    · exact kx_vret F hQ ⟨hI_N_30, hF_N_30⟩ dJ7_fill_53178_20
    · refine kx_aload_n 11 F 0 dJ7_fill_53178_10 rfl rfl rfl ?_
      refine kx_iload_n 12 F 2 dJ7_fill_53178_11 rfl rfl rfl ?_
      refine kx_iload_n 13 F 1 dJ7_fill_53178_12 rfl rfl rfl ?_
      refine kx_iast 14 F hk_c0 rfl rfl (by omega) (by decide) dJ7_fill_53178_13 rfl ?_
      intro N_37 hM_N_37
      have hI_N_37 : Inv false N_37 := Inv.u hI_N_30 hM_N_37 hk_c0 (a := 0) (b := 511) rfl rfl rfl (by omega)
      have hF_N_37 : Fr f_c_fill_stacked M N_37 := Fr.u hF_N_30 hM_N_37 hk_c0 rfl
      refine kx_iinc 17 F 2 (v := x2_29 + 1) (lo' := [some (vR G c0), some (vI a1), some (vI (x2_29 + 1)), some (vI 18)]) dJ7_fill_53178_14 rfl (by omega) (by decide) rfl rfl rfl ?_
      refine kx_goto 5 F dJ7_fill_53178_17 (by decide) ?_
      exact ih_33 _ (by omega) (x2_29 + 1) N_37 hI_N_37 hF_N_37 (by omega) rfl
  exact L_31 _ 0 M hI_M hF_M (by omega) rfl
abbrev f_c_fill_present : List (Nat × Int) := [(24, -1)]
set_option maxHeartbeats 4000000 in
set_option maxRecDepth 100000 in
theorem c_fill_present (G : KG) (l : Launch) (M : Mem) (c0 a1 : Int) (hI_M : Inv false M) (hk_c0 : kd c0 = 24) (hpre : -2147483648 ≤ a1 ∧ a1 ≤ 2147483647 ∧ a1 ≥ -2147483648 ∧ a1 ≤ 2147483647) : KC false G l yJ7_fill_53178 cJ7_fill_53178 4 none (0, 0) [vR G c0, vI a1] M (fun A => kQv false G A (fun (N : Mem) => Inv false N ∧ Fr f_c_fill_present M N)) := by
  refine kx_met (lo := [some (vR G c0), some (vI a1), none, none]) (by decide) (Nat.le_of_ble_eq_true rfl) rfl ?_
  intro X F hQ
  have hF_M : Fr f_c_fill_present M M := Fr.rf _ _
  refine kx_iconst 1 F dJ7_fill_53178_0 rfl ?_
  refine kx_istore_n 2 F 2 (lo' := [some (vR G c0), some (vI a1), some (vI 0), none]) dJ7_fill_53178_1 rfl (by decide) rfl rfl rfl ?_
  refine kx_aload_n 3 F 0 dJ7_fill_53178_2 rfl rfl rfl ?_
  refine kx_alen 4 F hk_c0 rfl rfl (z := 512) (by decide) dJ7_fill_53178_3 rfl ?_
  refine kx_istore_n 5 F 3 (lo' := [some (vR G c0), some (vI a1), some (vI 0), some (vI 512)]) dJ7_fill_53178_4 rfl (by decide) rfl rfl rfl ?_
  have L_31 : ∀ (n_32 : Nat) (x2_29 : Int) (N_30 : Mem), Inv false N_30 → Fr f_c_fill_present M N_30 → 0 ≤ x2_29 ∧ x2_29 ≤ 512 → (512 - (x2_29)).toNat = n_32 → KJ false G X N_30 5 [some (vR G c0), some (vI a1), some (vI x2_29), some (vI 512)] [] := by
    intro n_32
    refine Nat.strongRecOn n_32 ?_
    intro n_32 ih_33 x2_29 N_30 hI_N_30 hF_N_30 h_34 hm_35
    refine kx_iload_n 6 F 2 dJ7_fill_53178_5 rfl rfl rfl ?_
    refine kx_iload_n 7 F 3 dJ7_fill_53178_6 rfl rfl rfl ?_
    refine kx_icmp_ge 10 F 20 dJ7_fill_53178_7 (by decide) rfl (by omega) (by decide) (fun h_36 => ?_) (fun h_36 => ?_)
    · exact kx_vret F hQ ⟨hI_N_30, hF_N_30⟩ dJ7_fill_53178_20
    · refine kx_aload_n 11 F 0 dJ7_fill_53178_10 rfl rfl rfl ?_
      refine kx_iload_n 12 F 2 dJ7_fill_53178_11 rfl rfl rfl ?_
      refine kx_iload_n 13 F 1 dJ7_fill_53178_12 rfl rfl rfl ?_
      refine kx_iast 14 F hk_c0 rfl rfl (by omega) (by decide) dJ7_fill_53178_13 rfl ?_
      intro N_37 hM_N_37
      have hI_N_37 : Inv false N_37 := Inv.u hI_N_30 hM_N_37 hk_c0 (a := (-2147483648)) (b := 2147483647) rfl rfl rfl (by omega)
      have hF_N_37 : Fr f_c_fill_present M N_37 := Fr.u hF_N_30 hM_N_37 hk_c0 rfl
      refine kx_iinc 17 F 2 (v := x2_29 + 1) (lo' := [some (vR G c0), some (vI a1), some (vI (x2_29 + 1)), some (vI 512)]) dJ7_fill_53178_14 rfl (by omega) (by decide) rfl rfl rfl ?_
      refine kx_goto 5 F dJ7_fill_53178_17 (by decide) ?_
      exact ih_33 _ (by omega) (x2_29 + 1) N_37 hI_N_37 hF_N_37 (by omega) rfl
  exact L_31 _ 0 M hI_M hF_M (by omega) rfl
abbrev f_c_fill_many : List (Nat × Int) := [(49, -1)]
set_option maxHeartbeats 4000000 in
set_option maxRecDepth 100000 in
theorem c_fill_many (G : KG) (l : Launch) (M : Mem) (c0 a1 : Int) (hI_M : Inv false M) (hk_c0 : kd c0 = 49) (hpre : -2147483648 ≤ a1 ∧ a1 ≤ 2147483647 ∧ a1 ≥ -2147483648 ∧ a1 ≤ 2147483647) : KC false G l yJ7_fill_53178 cJ7_fill_53178 4 none (0, 0) [vR G c0, vI a1] M (fun A => kQv false G A (fun (N : Mem) => Inv false N ∧ Fr f_c_fill_many M N)) := by
  refine kx_met (lo := [some (vR G c0), some (vI a1), none, none]) (by decide) (Nat.le_of_ble_eq_true rfl) rfl ?_
  intro X F hQ
  have hF_M : Fr f_c_fill_many M M := Fr.rf _ _
  refine kx_iconst 1 F dJ7_fill_53178_0 rfl ?_
  refine kx_istore_n 2 F 2 (lo' := [some (vR G c0), some (vI a1), some (vI 0), none]) dJ7_fill_53178_1 rfl (by decide) rfl rfl rfl ?_
  refine kx_aload_n 3 F 0 dJ7_fill_53178_2 rfl rfl rfl ?_
  refine kx_alen 4 F hk_c0 rfl rfl (z := 112) (by decide) dJ7_fill_53178_3 rfl ?_
  refine kx_istore_n 5 F 3 (lo' := [some (vR G c0), some (vI a1), some (vI 0), some (vI 112)]) dJ7_fill_53178_4 rfl (by decide) rfl rfl rfl ?_
  have L_31 : ∀ (n_32 : Nat) (x2_29 : Int) (N_30 : Mem), Inv false N_30 → Fr f_c_fill_many M N_30 → 0 ≤ x2_29 ∧ x2_29 ≤ 112 → (112 - (x2_29)).toNat = n_32 → KJ false G X N_30 5 [some (vR G c0), some (vI a1), some (vI x2_29), some (vI 112)] [] := by
    intro n_32
    refine Nat.strongRecOn n_32 ?_
    intro n_32 ih_33 x2_29 N_30 hI_N_30 hF_N_30 h_34 hm_35
    refine kx_iload_n 6 F 2 dJ7_fill_53178_5 rfl rfl rfl ?_
    refine kx_iload_n 7 F 3 dJ7_fill_53178_6 rfl rfl rfl ?_
    refine kx_icmp_ge 10 F 20 dJ7_fill_53178_7 (by decide) rfl (by omega) (by decide) (fun h_36 => ?_) (fun h_36 => ?_)
    · exact kx_vret F hQ ⟨hI_N_30, hF_N_30⟩ dJ7_fill_53178_20
    · refine kx_aload_n 11 F 0 dJ7_fill_53178_10 rfl rfl rfl ?_
      refine kx_iload_n 12 F 2 dJ7_fill_53178_11 rfl rfl rfl ?_
      refine kx_iload_n 13 F 1 dJ7_fill_53178_12 rfl rfl rfl ?_
      refine kx_iast 14 F hk_c0 rfl rfl (by omega) (by decide) dJ7_fill_53178_13 rfl ?_
      intro N_37 hM_N_37
      have hI_N_37 : Inv false N_37 := Inv.u hI_N_30 hM_N_37 hk_c0 (a := (-2147483648)) (b := 2147483647) rfl rfl rfl (by omega)
      have hF_N_37 : Fr f_c_fill_many M N_37 := Fr.u hF_N_30 hM_N_37 hk_c0 rfl
      refine kx_iinc 17 F 2 (v := x2_29 + 1) (lo' := [some (vR G c0), some (vI a1), some (vI (x2_29 + 1)), some (vI 112)]) dJ7_fill_53178_14 rfl (by omega) (by decide) rfl rfl rfl ?_
      refine kx_goto 5 F dJ7_fill_53178_17 (by decide) ?_
      exact ih_33 _ (by omega) (x2_29 + 1) N_37 hI_N_37 hF_N_37 (by omega) rfl
  exact L_31 _ 0 M hI_M hF_M (by omega) rfl
abbrev f_c_fill_last : List (Nat × Int) := [(50, -1)]
set_option maxHeartbeats 4000000 in
set_option maxRecDepth 100000 in
theorem c_fill_last (G : KG) (l : Launch) (M : Mem) (c0 a1 : Int) (hI_M : Inv false M) (hk_c0 : kd c0 = 50) (hpre : -2147483648 ≤ a1 ∧ a1 ≤ 2147483647 ∧ a1 ≥ -2147483648 ∧ a1 ≤ 2147483647) : KC false G l yJ7_fill_53178 cJ7_fill_53178 4 none (0, 0) [vR G c0, vI a1] M (fun A => kQv false G A (fun (N : Mem) => Inv false N ∧ Fr f_c_fill_last M N)) := by
  refine kx_met (lo := [some (vR G c0), some (vI a1), none, none]) (by decide) (Nat.le_of_ble_eq_true rfl) rfl ?_
  intro X F hQ
  have hF_M : Fr f_c_fill_last M M := Fr.rf _ _
  refine kx_iconst 1 F dJ7_fill_53178_0 rfl ?_
  refine kx_istore_n 2 F 2 (lo' := [some (vR G c0), some (vI a1), some (vI 0), none]) dJ7_fill_53178_1 rfl (by decide) rfl rfl rfl ?_
  refine kx_aload_n 3 F 0 dJ7_fill_53178_2 rfl rfl rfl ?_
  refine kx_alen 4 F hk_c0 rfl rfl (z := 112) (by decide) dJ7_fill_53178_3 rfl ?_
  refine kx_istore_n 5 F 3 (lo' := [some (vR G c0), some (vI a1), some (vI 0), some (vI 112)]) dJ7_fill_53178_4 rfl (by decide) rfl rfl rfl ?_
  have L_31 : ∀ (n_32 : Nat) (x2_29 : Int) (N_30 : Mem), Inv false N_30 → Fr f_c_fill_last M N_30 → 0 ≤ x2_29 ∧ x2_29 ≤ 112 → (112 - (x2_29)).toNat = n_32 → KJ false G X N_30 5 [some (vR G c0), some (vI a1), some (vI x2_29), some (vI 112)] [] := by
    intro n_32
    refine Nat.strongRecOn n_32 ?_
    intro n_32 ih_33 x2_29 N_30 hI_N_30 hF_N_30 h_34 hm_35
    refine kx_iload_n 6 F 2 dJ7_fill_53178_5 rfl rfl rfl ?_
    refine kx_iload_n 7 F 3 dJ7_fill_53178_6 rfl rfl rfl ?_
    refine kx_icmp_ge 10 F 20 dJ7_fill_53178_7 (by decide) rfl (by omega) (by decide) (fun h_36 => ?_) (fun h_36 => ?_)
    · exact kx_vret F hQ ⟨hI_N_30, hF_N_30⟩ dJ7_fill_53178_20
    · refine kx_aload_n 11 F 0 dJ7_fill_53178_10 rfl rfl rfl ?_
      refine kx_iload_n 12 F 2 dJ7_fill_53178_11 rfl rfl rfl ?_
      refine kx_iload_n 13 F 1 dJ7_fill_53178_12 rfl rfl rfl ?_
      refine kx_iast 14 F hk_c0 rfl rfl (by omega) (by decide) dJ7_fill_53178_13 rfl ?_
      intro N_37 hM_N_37
      have hI_N_37 : Inv false N_37 := Inv.u hI_N_30 hM_N_37 hk_c0 (a := (-2147483648)) (b := 2147483647) rfl rfl rfl (by omega)
      have hF_N_37 : Fr f_c_fill_last M N_37 := Fr.u hF_N_30 hM_N_37 hk_c0 rfl
      refine kx_iinc 17 F 2 (v := x2_29 + 1) (lo' := [some (vR G c0), some (vI a1), some (vI (x2_29 + 1)), some (vI 112)]) dJ7_fill_53178_14 rfl (by omega) (by decide) rfl rfl rfl ?_
      refine kx_goto 5 F dJ7_fill_53178_17 (by decide) ?_
      exact ih_33 _ (by omega) (x2_29 + 1) N_37 hI_N_37 hF_N_37 (by omega) rfl
  exact L_31 _ 0 M hI_M hF_M (by omega) rfl
theorem dJ7_fill_d0a16_0 : decode cJ7_fill_d0a16 0 = .ok (.iconst 0, 1) := by decide +kernel
theorem dJ7_fill_d0a16_1 : decode cJ7_fill_d0a16 1 = .ok (.istore_n 3, 1) := by decide +kernel
theorem dJ7_fill_d0a16_2 : decode cJ7_fill_d0a16 2 = .ok (.aload_n 0, 1) := by decide +kernel
theorem dJ7_fill_d0a16_3 : decode cJ7_fill_d0a16 3 = .ok (.arraylength, 1) := by decide +kernel
theorem dJ7_fill_d0a16_4 : decode cJ7_fill_d0a16 4 = .ok (.istore 4, 2) := by decide +kernel
theorem dJ7_fill_d0a16_6 : decode cJ7_fill_d0a16 6 = .ok (.iload_n 3, 1) := by decide +kernel
theorem dJ7_fill_d0a16_7 : decode cJ7_fill_d0a16 7 = .ok (.iload 4, 2) := by decide +kernel
theorem dJ7_fill_d0a16_9 : decode cJ7_fill_d0a16 9 = .ok (.if_icmp .ge 13, 3) := by decide +kernel
theorem dJ7_fill_d0a16_12 : decode cJ7_fill_d0a16 12 = .ok (.aload_n 0, 1) := by decide +kernel
theorem dJ7_fill_d0a16_13 : decode cJ7_fill_d0a16 13 = .ok (.iload_n 3, 1) := by decide +kernel
theorem dJ7_fill_d0a16_14 : decode cJ7_fill_d0a16 14 = .ok (.lload_n 1, 1) := by decide +kernel
theorem dJ7_fill_d0a16_15 : decode cJ7_fill_d0a16 15 = .ok (.lastore, 1) := by decide +kernel
theorem dJ7_fill_d0a16_16 : decode cJ7_fill_d0a16 16 = .ok (.iinc 3 1, 3) := by decide +kernel
theorem dJ7_fill_d0a16_19 : decode cJ7_fill_d0a16 19 = .ok (.goto (-13), 3) := by decide +kernel
theorem dJ7_fill_d0a16_22 : decode cJ7_fill_d0a16 22 = .ok (.return_, 1) := by decide +kernel
abbrev f_c_fill_scratch : List (Nat × Int) := [(53, -1)]
set_option maxHeartbeats 4000000 in
set_option maxRecDepth 100000 in
theorem c_fill_scratch (G : KG) (l : Launch) (M : Mem) (c0 a1 : Int) (hI_M : Inv false M) (hk_c0 : kd c0 = 53) (hpre : -9223372036854775808 ≤ a1 ∧ a1 ≤ 9223372036854775807) : KC false G l yJ7_fill_d0a16 cJ7_fill_d0a16 5 none (0, 0) [vR G c0, vL a1] M (fun A => kQv false G A (fun (N : Mem) => Inv false N ∧ Fr f_c_fill_scratch M N)) := by
  refine kx_met (lo := [some (vR G c0), some (vL a1), none, none, none]) (by decide) (Nat.le_of_ble_eq_true rfl) rfl ?_
  intro X F hQ
  have hF_M : Fr f_c_fill_scratch M M := Fr.rf _ _
  refine kx_iconst 1 F dJ7_fill_d0a16_0 rfl ?_
  refine kx_istore_n 2 F 3 (lo' := [some (vR G c0), some (vL a1), none, some (vI 0), none]) dJ7_fill_d0a16_1 rfl (by decide) rfl rfl rfl ?_
  refine kx_aload_n 3 F 0 dJ7_fill_d0a16_2 rfl rfl rfl ?_
  refine kx_alen 4 F hk_c0 rfl rfl (z := 9) (by decide) dJ7_fill_d0a16_3 rfl ?_
  refine kx_istore 6 F 4 (lo' := [some (vR G c0), some (vL a1), none, some (vI 0), some (vI 9)]) dJ7_fill_d0a16_4 (by decide) rfl rfl rfl ?_
  have L_31 : ∀ (n_32 : Nat) (x3_29 : Int) (N_30 : Mem), Inv false N_30 → Fr f_c_fill_scratch M N_30 → 0 ≤ x3_29 ∧ x3_29 ≤ 9 → (9 - (x3_29)).toNat = n_32 → KJ false G X N_30 6 [some (vR G c0), some (vL a1), none, some (vI x3_29), some (vI 9)] [] := by
    intro n_32
    refine Nat.strongRecOn n_32 ?_
    intro n_32 ih_33 x3_29 N_30 hI_N_30 hF_N_30 h_34 hm_35
    refine kx_iload_n 7 F 3 dJ7_fill_d0a16_6 rfl rfl rfl ?_
    refine kx_iload 9 F 4 dJ7_fill_d0a16_7 rfl rfl ?_
    refine kx_icmp_ge 12 F 22 dJ7_fill_d0a16_9 (by decide) rfl (by omega) (by decide) (fun h_36 => ?_) (fun h_36 => ?_)
    · exact kx_vret F hQ ⟨hI_N_30, hF_N_30⟩ dJ7_fill_d0a16_22
    · refine kx_aload_n 13 F 0 dJ7_fill_d0a16_12 rfl rfl rfl ?_
      refine kx_iload_n 14 F 3 dJ7_fill_d0a16_13 rfl rfl rfl ?_
      refine kx_lload_n 15 F 1 dJ7_fill_d0a16_14 rfl rfl rfl ?_
      refine kx_last 16 F hk_c0 rfl rfl (by omega) (by decide) dJ7_fill_d0a16_15 rfl ?_
      intro N_37 hM_N_37
      have hI_N_37 : Inv false N_37 := Inv.u hI_N_30 hM_N_37 hk_c0 (a := (-9223372036854775808)) (b := 9223372036854775807) rfl rfl rfl (by omega)
      have hF_N_37 : Fr f_c_fill_scratch M N_37 := Fr.u hF_N_30 hM_N_37 hk_c0 rfl
      refine kx_iinc 19 F 3 (v := x3_29 + 1) (lo' := [some (vR G c0), some (vL a1), none, some (vI (x3_29 + 1)), some (vI 9)]) dJ7_fill_d0a16_16 rfl (by omega) (by decide) rfl rfl rfl ?_
      refine kx_goto 6 F dJ7_fill_d0a16_19 (by decide) ?_
      exact ih_33 _ (by omega) (x3_29 + 1) N_37 hI_N_37 hF_N_37 (by omega) rfl
  exact L_31 _ 0 M hI_M hF_M (by omega) rfl
abbrev f_c_fill_ends : List (Nat × Int) := [(56, -1)]
set_option maxHeartbeats 4000000 in
set_option maxRecDepth 100000 in
theorem c_fill_ends (G : KG) (l : Launch) (M : Mem) (c0 a1 : Int) (hI_M : Inv false M) (hk_c0 : kd c0 = 56) (hpre : -9223372036854775808 ≤ a1 ∧ a1 ≤ 9223372036854775807) : KC false G l yJ7_fill_d0a16 cJ7_fill_d0a16 5 none (0, 0) [vR G c0, vL a1] M (fun A => kQv false G A (fun (N : Mem) => Inv false N ∧ Fr f_c_fill_ends M N)) := by
  refine kx_met (lo := [some (vR G c0), some (vL a1), none, none, none]) (by decide) (Nat.le_of_ble_eq_true rfl) rfl ?_
  intro X F hQ
  have hF_M : Fr f_c_fill_ends M M := Fr.rf _ _
  refine kx_iconst 1 F dJ7_fill_d0a16_0 rfl ?_
  refine kx_istore_n 2 F 3 (lo' := [some (vR G c0), some (vL a1), none, some (vI 0), none]) dJ7_fill_d0a16_1 rfl (by decide) rfl rfl rfl ?_
  refine kx_aload_n 3 F 0 dJ7_fill_d0a16_2 rfl rfl rfl ?_
  refine kx_alen 4 F hk_c0 rfl rfl (z := 3) (by decide) dJ7_fill_d0a16_3 rfl ?_
  refine kx_istore 6 F 4 (lo' := [some (vR G c0), some (vL a1), none, some (vI 0), some (vI 3)]) dJ7_fill_d0a16_4 (by decide) rfl rfl rfl ?_
  have L_19 : ∀ (n_20 : Nat) (x3_17 : Int) (N_18 : Mem), Inv false N_18 → Fr f_c_fill_ends M N_18 → 0 ≤ x3_17 ∧ x3_17 ≤ 3 → (3 - (x3_17)).toNat = n_20 → KJ false G X N_18 6 [some (vR G c0), some (vL a1), none, some (vI x3_17), some (vI 3)] [] := by
    intro n_20
    refine Nat.strongRecOn n_20 ?_
    intro n_20 ih_21 x3_17 N_18 hI_N_18 hF_N_18 h_22 hm_23
    refine kx_iload_n 7 F 3 dJ7_fill_d0a16_6 rfl rfl rfl ?_
    refine kx_iload 9 F 4 dJ7_fill_d0a16_7 rfl rfl ?_
    refine kx_icmp_ge 12 F 22 dJ7_fill_d0a16_9 (by decide) rfl (by omega) (by decide) (fun h_24 => ?_) (fun h_24 => ?_)
    · exact kx_vret F hQ ⟨hI_N_18, hF_N_18⟩ dJ7_fill_d0a16_22
    · refine kx_aload_n 13 F 0 dJ7_fill_d0a16_12 rfl rfl rfl ?_
      refine kx_iload_n 14 F 3 dJ7_fill_d0a16_13 rfl rfl rfl ?_
      refine kx_lload_n 15 F 1 dJ7_fill_d0a16_14 rfl rfl rfl ?_
      refine kx_last 16 F hk_c0 rfl rfl (by omega) (by decide) dJ7_fill_d0a16_15 rfl ?_
      intro N_25 hM_N_25
      have hI_N_25 : Inv false N_25 := Inv.u hI_N_18 hM_N_25 hk_c0 (a := (-9223372036854775808)) (b := 9223372036854775807) rfl rfl rfl (by omega)
      have hF_N_25 : Fr f_c_fill_ends M N_25 := Fr.u hF_N_18 hM_N_25 hk_c0 rfl
      refine kx_iinc 19 F 3 (v := x3_17 + 1) (lo' := [some (vR G c0), some (vL a1), none, some (vI (x3_17 + 1)), some (vI 3)]) dJ7_fill_d0a16_16 rfl (by omega) (by decide) rfl rfl rfl ?_
      refine kx_goto 6 F dJ7_fill_d0a16_19 (by decide) ?_
      exact ih_21 _ (by omega) (x3_17 + 1) N_25 hI_N_25 hF_N_25 (by omega) rfl
  exact L_19 _ 0 M hI_M hF_M (by omega) rfl
theorem dX0_renew_0 : decode cX0_renew 0 = .ok (.aload_n 0, 1) := by decide +kernel
theorem dX0_renew_1 : decode cX0_renew 1 = .ok (.getfield 24, 3) := by decide +kernel
theorem dX0_renew_4 : decode cX0_renew 4 = .ok (.iconst 0, 1) := by decide +kernel
theorem dX0_renew_5 : decode cX0_renew 5 = .ok (.invokestatic 56, 3) := by decide +kernel
theorem dX0_renew_8 : decode cX0_renew 8 = .ok (.aload_n 0, 1) := by decide +kernel
theorem dX0_renew_9 : decode cX0_renew 9 = .ok (.getfield 27, 3) := by decide +kernel
theorem dX0_renew_12 : decode cX0_renew 12 = .ok (.iconst 0, 1) := by decide +kernel
theorem dX0_renew_13 : decode cX0_renew 13 = .ok (.invokestatic 56, 3) := by decide +kernel
theorem dX0_renew_16 : decode cX0_renew 16 = .ok (.iconst 0, 1) := by decide +kernel
theorem dX0_renew_17 : decode cX0_renew 17 = .ok (.istore_n 1, 1) := by decide +kernel
theorem dX0_renew_18 : decode cX0_renew 18 = .ok (.iload_n 1, 1) := by decide +kernel
theorem dX0_renew_19 : decode cX0_renew 19 = .ok (.aload_n 0, 1) := by decide +kernel
theorem dX0_renew_20 : decode cX0_renew 20 = .ok (.getfield 46, 3) := by decide +kernel
theorem dX0_renew_23 : decode cX0_renew 23 = .ok (.if_icmp .ge 14, 3) := by decide +kernel
theorem dX0_renew_26 : decode cX0_renew 26 = .ok (.aload_n 0, 1) := by decide +kernel
theorem dX0_renew_27 : decode cX0_renew 27 = .ok (.iload_n 1, 1) := by decide +kernel
theorem dX0_renew_28 : decode cX0_renew 28 = .ok (.invokevirtual 68, 3) := by decide +kernel
theorem dX0_renew_31 : decode cX0_renew 31 = .ok (.iinc 1 1, 3) := by decide +kernel
theorem dX0_renew_34 : decode cX0_renew 34 = .ok (.goto (-16), 3) := by decide +kernel
theorem dX0_renew_37 : decode cX0_renew 37 = .ok (.return_, 1) := by decide +kernel
abbrev f_c_X0_renew : List (Nat × Int) := [(6, -1), (7, -1)]
set_option maxHeartbeats 4000000 in
set_option maxRecDepth 100000 in
theorem c_X0_renew (G : KG) (l : Launch) (M : Mem) (c0 : Int) (hI_M : Inv false M) (hk_c0 : kd c0 = 1) : KC false G l yX0_renew cX0_renew 2 none (2, 43) [vR G c0] M (fun A => kQv false G A (fun (N : Mem) => Inv false N ∧ Fr f_c_X0_renew M N)) := by
  refine kx_met (lo := [some (vR G c0), none]) (by decide) (Nat.le_of_ble_eq_true rfl) rfl ?_
  intro X F hQ
  have hF_M : Fr f_c_X0_renew M M := Fr.rf _ _
  refine kx_aload_n 1 F 0 dX0_renew_0 rfl rfl rfl ?_
  refine kx_getr 4 F fl_X0_24 hk_c0 rfl rfl (j := 10) rfl dX0_renew_1 (v := (M c0 10)) rfl rfl ?_
  have hk_1 : kd (M c0 10) = 6 := Inv.r hI_M hk_c0 rfl 10 rfl rfl
  refine kx_iconst 5 F dX0_renew_4 rfl ?_
  refine kx_Sv 8 F (As := [vR G (M c0 10), vI 0]) (st := []) sd_X0_56 (c_fill_step G l M (M c0 10) 0 hI_M hk_1 (by omega)) ⟨by decide, by decide⟩ rfl rfl (Nat.le_of_ble_eq_true rfl) dX0_renew_5 rfl ?_
  intro N_2 q_3
  obtain ⟨hI_N_2, hG_N_2⟩ := q_3
  have hF_N_2 : Fr f_c_X0_renew M N_2 := Fr.c hF_M hG_N_2 rfl
  refine kx_aload_n 9 F 0 dX0_renew_8 rfl rfl rfl ?_
  refine kx_getr 12 F fl_X0_27 hk_c0 rfl rfl (j := 11) rfl dX0_renew_9 (v := (M c0 11)) (by rw [Fr.e hG_N_2 hk_c0 _ rfl]) rfl ?_
  have hk_4 : kd (M c0 11) = 7 := Inv.r hI_M hk_c0 rfl 11 rfl rfl
  refine kx_iconst 13 F dX0_renew_12 rfl ?_
  refine kx_Sv 16 F (As := [vR G (M c0 11), vI 0]) (st := []) sd_X0_56 (c_fill_stacked G l N_2 (M c0 11) 0 hI_N_2 hk_4 (by omega)) ⟨by decide, by decide⟩ rfl rfl (Nat.le_of_ble_eq_true rfl) dX0_renew_13 rfl ?_
  intro N_5 q_6
  obtain ⟨hI_N_5, hG_N_5⟩ := q_6
  have hF_N_5 : Fr f_c_X0_renew M N_5 := Fr.c hF_N_2 hG_N_5 rfl
  refine kx_iconst 17 F dX0_renew_16 rfl ?_
  refine kx_istore_n 18 F 1 (lo' := [some (vR G c0), some (vI 0)]) dX0_renew_17 rfl (by decide) rfl rfl rfl ?_
  have L_51 : ∀ (n_52 : Nat) (x1_49 : Int) (N_50 : Mem), Inv false N_50 → Fr f_c_X0_renew M N_50 → 0 ≤ x1_49 ∧ x1_49 ≤ 20 → (20 - (x1_49)).toNat = n_52 → KJ false G X N_50 18 [some (vR G c0), some (vI x1_49)] [] := by
    intro n_52
    refine Nat.strongRecOn n_52 ?_
    intro n_52 ih_53 x1_49 N_50 hI_N_50 hF_N_50 h_54 hm_55
    refine kx_iload_n 19 F 1 dX0_renew_18 rfl rfl rfl ?_
    refine kx_aload_n 20 F 0 dX0_renew_19 rfl rfl rfl ?_
    refine kx_geti 23 F fl_X0_46 hk_c0 rfl rfl (j := 4) rfl dX0_renew_20 (v := (N_50 c0 4)) rfl rfl ?_
    have h_56 := Inv.g hI_N_50 hk_c0 rfl 4 (a := 0) (b := 20) rfl rfl
    refine kx_icmp_ge 26 F 37 dX0_renew_23 (by decide) rfl (by omega) (by omega) (fun h_57 => ?_) (fun h_57 => ?_)
    · exact kx_vret F hQ ⟨hI_N_50, hF_N_50⟩ dX0_renew_37
    · refine kx_aload_n 27 F 0 dX0_renew_26 rfl rfl rfl ?_
      refine kx_iload_n 28 F 1 dX0_renew_27 rfl rfl rfl ?_
      refine kx_Vv 31 (ci := 0) F (As := [vI x1_49]) (st := []) vd_X0_68 (c_X0_note G l N_50 c0 x1_49 hI_N_50 hk_c0 (by omega)) hk_c0 rfl rfl rfl ⟨by decide, by decide⟩ rfl rfl (Nat.le_of_ble_eq_true rfl) dX0_renew_28 rfl ?_
      intro N_58 q_59
      obtain ⟨hI_N_58, hG_N_58⟩ := q_59
      have hF_N_58 : Fr f_c_X0_renew M N_58 := Fr.c hF_N_50 hG_N_58 rfl
      refine kx_iinc 34 F 1 (v := x1_49 + 1) (lo' := [some (vR G c0), some (vI (x1_49 + 1))]) dX0_renew_31 rfl (by omega) (by decide) rfl rfl rfl ?_
      refine kx_goto 18 F dX0_renew_34 (by decide) ?_
      exact ih_53 _ (by omega) (x1_49 + 1) N_58 hI_N_58 hF_N_58 (by omega) rfl
  exact L_51 _ 0 N_5 hI_N_5 hF_N_5 (by omega) rfl
theorem dX0_remove_0 : decode cX0_remove 0 = .ok (.iload_n 1, 1) := by decide +kernel
theorem dX0_remove_1 : decode cX0_remove 1 = .ok (.istore_n 2, 1) := by decide +kernel
theorem dX0_remove_2 : decode cX0_remove 2 = .ok (.iload_n 2, 1) := by decide +kernel
theorem dX0_remove_3 : decode cX0_remove 3 = .ok (.iconst 1, 1) := by decide +kernel
theorem dX0_remove_4 : decode cX0_remove 4 = .ok (.iadd, 1) := by decide +kernel
theorem dX0_remove_5 : decode cX0_remove 5 = .ok (.aload_n 0, 1) := by decide +kernel
theorem dX0_remove_6 : decode cX0_remove 6 = .ok (.getfield 46, 3) := by decide +kernel
theorem dX0_remove_9 : decode cX0_remove 9 = .ok (.if_icmp .ge 65, 3) := by decide +kernel
theorem dX0_remove_12 : decode cX0_remove 12 = .ok (.aload_n 0, 1) := by decide +kernel
theorem dX0_remove_13 : decode cX0_remove 13 = .ok (.getfield 9, 3) := by decide +kernel
theorem dX0_remove_16 : decode cX0_remove 16 = .ok (.iload_n 2, 1) := by decide +kernel
theorem dX0_remove_17 : decode cX0_remove 17 = .ok (.aload_n 0, 1) := by decide +kernel
theorem dX0_remove_18 : decode cX0_remove 18 = .ok (.getfield 9, 3) := by decide +kernel
theorem dX0_remove_21 : decode cX0_remove 21 = .ok (.iload_n 2, 1) := by decide +kernel
theorem dX0_remove_22 : decode cX0_remove 22 = .ok (.iconst 1, 1) := by decide +kernel
theorem dX0_remove_23 : decode cX0_remove 23 = .ok (.iadd, 1) := by decide +kernel
theorem dX0_remove_24 : decode cX0_remove 24 = .ok (.iaload, 1) := by decide +kernel
theorem dX0_remove_25 : decode cX0_remove 25 = .ok (.iastore, 1) := by decide +kernel
theorem dX0_remove_26 : decode cX0_remove 26 = .ok (.aload_n 0, 1) := by decide +kernel
theorem dX0_remove_27 : decode cX0_remove 27 = .ok (.getfield 15, 3) := by decide +kernel
theorem dX0_remove_30 : decode cX0_remove 30 = .ok (.iload_n 2, 1) := by decide +kernel
theorem dX0_remove_31 : decode cX0_remove 31 = .ok (.aload_n 0, 1) := by decide +kernel
theorem dX0_remove_32 : decode cX0_remove 32 = .ok (.getfield 15, 3) := by decide +kernel
theorem dX0_remove_35 : decode cX0_remove 35 = .ok (.iload_n 2, 1) := by decide +kernel
theorem dX0_remove_36 : decode cX0_remove 36 = .ok (.iconst 1, 1) := by decide +kernel
theorem dX0_remove_37 : decode cX0_remove 37 = .ok (.iadd, 1) := by decide +kernel
theorem dX0_remove_38 : decode cX0_remove 38 = .ok (.iaload, 1) := by decide +kernel
theorem dX0_remove_39 : decode cX0_remove 39 = .ok (.iastore, 1) := by decide +kernel
theorem dX0_remove_40 : decode cX0_remove 40 = .ok (.aload_n 0, 1) := by decide +kernel
theorem dX0_remove_41 : decode cX0_remove 41 = .ok (.getfield 18, 3) := by decide +kernel
theorem dX0_remove_44 : decode cX0_remove 44 = .ok (.iload_n 2, 1) := by decide +kernel
theorem dX0_remove_45 : decode cX0_remove 45 = .ok (.aload_n 0, 1) := by decide +kernel
theorem dX0_remove_46 : decode cX0_remove 46 = .ok (.getfield 18, 3) := by decide +kernel
theorem dX0_remove_49 : decode cX0_remove 49 = .ok (.iload_n 2, 1) := by decide +kernel
theorem dX0_remove_50 : decode cX0_remove 50 = .ok (.iconst 1, 1) := by decide +kernel
theorem dX0_remove_51 : decode cX0_remove 51 = .ok (.iadd, 1) := by decide +kernel
theorem dX0_remove_52 : decode cX0_remove 52 = .ok (.iaload, 1) := by decide +kernel
theorem dX0_remove_53 : decode cX0_remove 53 = .ok (.iastore, 1) := by decide +kernel
theorem dX0_remove_54 : decode cX0_remove 54 = .ok (.aload_n 0, 1) := by decide +kernel
theorem dX0_remove_55 : decode cX0_remove 55 = .ok (.getfield 21, 3) := by decide +kernel
theorem dX0_remove_58 : decode cX0_remove 58 = .ok (.iload_n 2, 1) := by decide +kernel
theorem dX0_remove_59 : decode cX0_remove 59 = .ok (.aload_n 0, 1) := by decide +kernel
theorem dX0_remove_60 : decode cX0_remove 60 = .ok (.getfield 21, 3) := by decide +kernel
theorem dX0_remove_63 : decode cX0_remove 63 = .ok (.iload_n 2, 1) := by decide +kernel
theorem dX0_remove_64 : decode cX0_remove 64 = .ok (.iconst 1, 1) := by decide +kernel
theorem dX0_remove_65 : decode cX0_remove 65 = .ok (.iadd, 1) := by decide +kernel
theorem dX0_remove_66 : decode cX0_remove 66 = .ok (.iaload, 1) := by decide +kernel
theorem dX0_remove_67 : decode cX0_remove 67 = .ok (.iastore, 1) := by decide +kernel
theorem dX0_remove_68 : decode cX0_remove 68 = .ok (.iinc 2 1, 3) := by decide +kernel
theorem dX0_remove_71 : decode cX0_remove 71 = .ok (.goto (-69), 3) := by decide +kernel
theorem dX0_remove_74 : decode cX0_remove 74 = .ok (.aload_n 0, 1) := by decide +kernel
theorem dX0_remove_75 : decode cX0_remove 75 = .ok (.dup, 1) := by decide +kernel
theorem dX0_remove_76 : decode cX0_remove 76 = .ok (.getfield 46, 3) := by decide +kernel
theorem dX0_remove_79 : decode cX0_remove 79 = .ok (.iconst 1, 1) := by decide +kernel
theorem dX0_remove_80 : decode cX0_remove 80 = .ok (.isub, 1) := by decide +kernel
theorem dX0_remove_81 : decode cX0_remove 81 = .ok (.putfield 46, 3) := by decide +kernel
theorem dX0_remove_84 : decode cX0_remove 84 = .ok (.aload_n 0, 1) := by decide +kernel
theorem dX0_remove_85 : decode cX0_remove 85 = .ok (.invokevirtual 49, 3) := by decide +kernel
theorem dX0_remove_88 : decode cX0_remove 88 = .ok (.return_, 1) := by decide +kernel
abbrev f_c_X0_remove : List (Nat × Int) := [(1, 4), (2, -1), (3, -1), (4, -1), (5, -1), (6, -1), (7, -1)]
set_option maxHeartbeats 4000000 in
set_option maxRecDepth 100000 in
theorem c_X0_remove (G : KG) (l : Launch) (M : Mem) (c0 a1 : Int) (hI_M : Inv false M) (hk_c0 : kd c0 = 1) (hpre : -2147483648 ≤ a1 ∧ a1 ≤ 2147483647 ∧ 0 ≤ a1 ∧ a1 < (M c0 4)) : KC false G l yX0_remove cX0_remove 3 none (3, 64) [vR G c0, vI a1] M (fun A => kQv false G A (fun (N : Mem) => Inv false N ∧ Fr f_c_X0_remove M N)) := by
  refine kx_met (lo := [some (vR G c0), some (vI a1), none]) (by decide) (Nat.le_of_ble_eq_true rfl) rfl ?_
  intro X F hQ
  have hF_M : Fr f_c_X0_remove M M := Fr.rf _ _
  have h_1 := Inv.g hI_M hk_c0 rfl 4 (a := 0) (b := 20) rfl rfl
  refine kx_iload_n 1 F 1 dX0_remove_0 rfl rfl rfl ?_
  refine kx_istore_n 2 F 2 (lo' := [some (vR G c0), some (vI a1), some (vI a1)]) dX0_remove_1 rfl (by decide) rfl rfl rfl ?_
  have L_23 : ∀ (n_24 : Nat) (x2_21 : Int) (N_22 : Mem), Inv false N_22 → Fr f_c_X0_remove M N_22 → 0 ≤ x2_21 ∧ x2_21 ≤ 19 ∧ (N_22 c0 4) = (M c0 4) → (19 - (x2_21)).toNat = n_24 → KJ false G X N_22 2 [some (vR G c0), none, some (vI x2_21)] [] := by
    intro n_24
    refine Nat.strongRecOn n_24 ?_
    intro n_24 ih_25 x2_21 N_22 hI_N_22 hF_N_22 h_26 hm_27
    refine kx_iload_n 3 F 2 dX0_remove_2 rfl rfl rfl ?_
    refine kx_iconst 4 F dX0_remove_3 rfl ?_
    refine kx_iadd 5 F (v := x2_21 + 1) dX0_remove_4 rfl rfl ?_
    refine kx_aload_n 6 F 0 dX0_remove_5 rfl rfl rfl ?_
    refine kx_geti 9 F fl_X0_46 hk_c0 rfl rfl (j := 4) rfl dX0_remove_6 (v := (N_22 c0 4)) rfl rfl ?_
    have h_28 := Inv.g hI_N_22 hk_c0 rfl 4 (a := 0) (b := 20) rfl rfl
    refine kx_icmp_ge 12 F 74 dX0_remove_9 (by decide) rfl (by omega) (by omega) (fun h_29 => ?_) (fun h_29 => ?_)
    · refine kx_aload_n 75 F 0 dX0_remove_74 rfl rfl rfl ?_
      refine kx_dup 76 F dX0_remove_75 rfl rfl ?_
      refine kx_geti 79 F fl_X0_46 hk_c0 rfl rfl (j := 4) rfl dX0_remove_76 (v := (N_22 c0 4)) rfl rfl ?_
      refine kx_iconst 80 F dX0_remove_79 rfl ?_
      refine kx_isub 81 F (v := (N_22 c0 4) - 1) dX0_remove_80 rfl rfl ?_
      refine kx_puti 84 F fw_X0_46 rfl hk_c0 rfl rfl (j := 4) rfl dX0_remove_81 rfl ?_
      intro N_30 hM_N_30
      have hI_N_30 : Inv false N_30 := Inv.u hI_N_22 hM_N_30 hk_c0 (a := 0) (b := 20) rfl rfl rfl (by omega)
      have hF_N_30 : Fr f_c_X0_remove M N_30 := Fr.u hF_N_22 hM_N_30 hk_c0 rfl
      refine kx_aload_n 85 F 0 dX0_remove_84 rfl rfl rfl ?_
      refine kx_Vv 88 (ci := 0) F (As := []) (st := []) vd_X0_49 (c_X0_renew G l N_30 c0 hI_N_30 hk_c0) hk_c0 rfl rfl rfl ⟨by decide, by decide⟩ rfl rfl (Nat.le_of_ble_eq_true rfl) dX0_remove_85 rfl ?_
      intro N_31 q_32
      obtain ⟨hI_N_31, hG_N_31⟩ := q_32
      have hF_N_31 : Fr f_c_X0_remove M N_31 := Fr.c hF_N_30 hG_N_31 rfl
      exact kx_vret F hQ ⟨hI_N_31, hF_N_31⟩ dX0_remove_88
    · refine kx_aload_n 13 F 0 dX0_remove_12 rfl rfl rfl ?_
      refine kx_getr 16 F fl_X0_9 hk_c0 rfl rfl (j := 6) rfl dX0_remove_13 (v := (N_22 c0 6)) rfl rfl ?_
      have hk_33 : kd (N_22 c0 6) = 2 := Inv.r hI_N_22 hk_c0 rfl 6 rfl rfl
      refine kx_iload_n 17 F 2 dX0_remove_16 rfl rfl rfl ?_
      refine kx_aload_n 18 F 0 dX0_remove_17 rfl rfl rfl ?_
      refine kx_getr 21 F fl_X0_9 hk_c0 rfl rfl (j := 6) rfl dX0_remove_18 (v := (N_22 c0 6)) rfl rfl ?_
      refine kx_iload_n 22 F 2 dX0_remove_21 rfl rfl rfl ?_
      refine kx_iconst 23 F dX0_remove_22 rfl ?_
      refine kx_iadd 24 F (v := x2_21 + 1) dX0_remove_23 rfl rfl ?_
      refine kx_iald 25 F hk_33 rfl rfl (by omega) (by decide) dX0_remove_24 (v := (N_22 (N_22 c0 6) (x2_21 + 1))) rfl rfl ?_
      have h_34 := Inv.g hI_N_22 hk_33 rfl (x2_21 + 1) (a := 0) (b := 5) rfl rfl
      refine kx_iast 26 F hk_33 rfl rfl (by omega) (by decide) dX0_remove_25 rfl ?_
      intro N_35 hM_N_35
      have hI_N_35 : Inv false N_35 := Inv.u hI_N_22 hM_N_35 hk_33 (a := 0) (b := 5) rfl rfl rfl (by omega)
      have hF_N_35 : Fr f_c_X0_remove M N_35 := Fr.u hF_N_22 hM_N_35 hk_33 rfl
      refine kx_aload_n 27 F 0 dX0_remove_26 rfl rfl rfl ?_
      refine kx_getr 30 F fl_X0_15 hk_c0 rfl rfl (j := 7) rfl dX0_remove_27 (v := (N_22 c0 7)) (by rw [hM_N_35, mu_k hk_c0 hk_33 rfl]) rfl ?_
      have hk_36 : kd (N_22 c0 7) = 3 := Inv.r hI_N_22 hk_c0 rfl 7 rfl rfl
      refine kx_iload_n 31 F 2 dX0_remove_30 rfl rfl rfl ?_
      refine kx_aload_n 32 F 0 dX0_remove_31 rfl rfl rfl ?_
      refine kx_getr 35 F fl_X0_15 hk_c0 rfl rfl (j := 7) rfl dX0_remove_32 (v := (N_22 c0 7)) (by rw [hM_N_35, mu_k hk_c0 hk_33 rfl]) rfl ?_
      refine kx_iload_n 36 F 2 dX0_remove_35 rfl rfl rfl ?_
      refine kx_iconst 37 F dX0_remove_36 rfl ?_
      refine kx_iadd 38 F (v := x2_21 + 1) dX0_remove_37 rfl rfl ?_
      refine kx_iald 39 F hk_36 rfl rfl (by omega) (by decide) dX0_remove_38 (v := (N_22 (N_22 c0 7) (x2_21 + 1))) (by rw [hM_N_35, mu_k hk_36 hk_33 rfl]) rfl ?_
      have h_37 := Inv.g hI_N_22 hk_36 rfl (x2_21 + 1) (a := 0) (b := 2) rfl rfl
      refine kx_iast 40 F hk_36 rfl rfl (by omega) (by decide) dX0_remove_39 rfl ?_
      intro N_38 hM_N_38
      have hI_N_38 : Inv false N_38 := Inv.u hI_N_35 hM_N_38 hk_36 (a := 0) (b := 2) rfl rfl rfl (by omega)
      have hF_N_38 : Fr f_c_X0_remove M N_38 := Fr.u hF_N_35 hM_N_38 hk_36 rfl
      refine kx_aload_n 41 F 0 dX0_remove_40 rfl rfl rfl ?_
      refine kx_getr 44 F fl_X0_18 hk_c0 rfl rfl (j := 8) rfl dX0_remove_41 (v := (N_22 c0 8)) (by rw [hM_N_38, mu_k hk_c0 hk_36 rfl, hM_N_35, mu_k hk_c0 hk_33 rfl]) rfl ?_
      have hk_39 : kd (N_22 c0 8) = 4 := Inv.r hI_N_22 hk_c0 rfl 8 rfl rfl
      refine kx_iload_n 45 F 2 dX0_remove_44 rfl rfl rfl ?_
      refine kx_aload_n 46 F 0 dX0_remove_45 rfl rfl rfl ?_
      refine kx_getr 49 F fl_X0_18 hk_c0 rfl rfl (j := 8) rfl dX0_remove_46 (v := (N_22 c0 8)) (by rw [hM_N_38, mu_k hk_c0 hk_36 rfl, hM_N_35, mu_k hk_c0 hk_33 rfl]) rfl ?_
      refine kx_iload_n 50 F 2 dX0_remove_49 rfl rfl rfl ?_
      refine kx_iconst 51 F dX0_remove_50 rfl ?_
      refine kx_iadd 52 F (v := x2_21 + 1) dX0_remove_51 rfl rfl ?_
      refine kx_iald 53 F hk_39 rfl rfl (by omega) (by decide) dX0_remove_52 (v := (N_22 (N_22 c0 8) (x2_21 + 1))) (by rw [hM_N_38, mu_k hk_39 hk_36 rfl, hM_N_35, mu_k hk_39 hk_33 rfl]) rfl ?_
      have h_40 := Inv.g hI_N_22 hk_39 rfl (x2_21 + 1) (a := 0) (b := 2) rfl rfl
      refine kx_iast 54 F hk_39 rfl rfl (by omega) (by decide) dX0_remove_53 rfl ?_
      intro N_41 hM_N_41
      have hI_N_41 : Inv false N_41 := Inv.u hI_N_38 hM_N_41 hk_39 (a := 0) (b := 2) rfl rfl rfl (by omega)
      have hF_N_41 : Fr f_c_X0_remove M N_41 := Fr.u hF_N_38 hM_N_41 hk_39 rfl
      refine kx_aload_n 55 F 0 dX0_remove_54 rfl rfl rfl ?_
      refine kx_getr 58 F fl_X0_21 hk_c0 rfl rfl (j := 9) rfl dX0_remove_55 (v := (N_22 c0 9)) (by rw [hM_N_41, mu_k hk_c0 hk_39 rfl, hM_N_38, mu_k hk_c0 hk_36 rfl, hM_N_35, mu_k hk_c0 hk_33 rfl]) rfl ?_
      have hk_42 : kd (N_22 c0 9) = 5 := Inv.r hI_N_22 hk_c0 rfl 9 rfl rfl
      refine kx_iload_n 59 F 2 dX0_remove_58 rfl rfl rfl ?_
      refine kx_aload_n 60 F 0 dX0_remove_59 rfl rfl rfl ?_
      refine kx_getr 63 F fl_X0_21 hk_c0 rfl rfl (j := 9) rfl dX0_remove_60 (v := (N_22 c0 9)) (by rw [hM_N_41, mu_k hk_c0 hk_39 rfl, hM_N_38, mu_k hk_c0 hk_36 rfl, hM_N_35, mu_k hk_c0 hk_33 rfl]) rfl ?_
      refine kx_iload_n 64 F 2 dX0_remove_63 rfl rfl rfl ?_
      refine kx_iconst 65 F dX0_remove_64 rfl ?_
      refine kx_iadd 66 F (v := x2_21 + 1) dX0_remove_65 rfl rfl ?_
      refine kx_iald 67 F hk_42 rfl rfl (by omega) (by decide) dX0_remove_66 (v := (N_22 (N_22 c0 9) (x2_21 + 1))) (by rw [hM_N_41, mu_k hk_42 hk_39 rfl, hM_N_38, mu_k hk_42 hk_36 rfl, hM_N_35, mu_k hk_42 hk_33 rfl]) rfl ?_
      have h_43 := Inv.g hI_N_22 hk_42 rfl (x2_21 + 1) (a := (-1)) (b := 2) rfl rfl
      refine kx_iast 68 F hk_42 rfl rfl (by omega) (by decide) dX0_remove_67 rfl ?_
      intro N_44 hM_N_44
      have hI_N_44 : Inv false N_44 := Inv.u hI_N_41 hM_N_44 hk_42 (a := (-1)) (b := 2) rfl rfl rfl (by omega)
      have hF_N_44 : Fr f_c_X0_remove M N_44 := Fr.u hF_N_41 hM_N_44 hk_42 rfl
      refine kx_iinc 71 F 2 (v := x2_21 + 1) (lo' := [some (vR G c0), none, some (vI (x2_21 + 1))]) dX0_remove_68 rfl (by omega) (by decide) rfl rfl rfl ?_
      refine kx_goto 2 F dX0_remove_71 (by decide) ?_
      have e_45 : (N_44 c0 4) = (N_22 c0 4) := by rw [hM_N_44, mu_k hk_c0 hk_42 rfl, hM_N_41, mu_k hk_c0 hk_39 rfl, hM_N_38, mu_k hk_c0 hk_36 rfl, hM_N_35, mu_k hk_c0 hk_33 rfl]
      exact ih_25 _ (by omega) (x2_21 + 1) N_44 hI_N_44 hF_N_44 (by omega) rfl
  refine kx_drop 1 (lo' := [some (vR G c0), none, some (vI a1)]) rfl ?_
  exact L_23 _ a1 M hI_M hF_M (by omega) rfl
theorem dX0_clear_0 : decode cX0_clear 0 = .ok (.aload_n 0, 1) := by decide +kernel
theorem dX0_clear_1 : decode cX0_clear 1 = .ok (.iload_n 1, 1) := by decide +kernel
theorem dX0_clear_2 : decode cX0_clear 2 = .ok (.putfield 30, 3) := by decide +kernel
theorem dX0_clear_5 : decode cX0_clear 5 = .ok (.aload_n 0, 1) := by decide +kernel
theorem dX0_clear_6 : decode cX0_clear 6 = .ok (.iload_n 2, 1) := by decide +kernel
theorem dX0_clear_7 : decode cX0_clear 7 = .ok (.putfield 34, 3) := by decide +kernel
theorem dX0_clear_10 : decode cX0_clear 10 = .ok (.aload_n 0, 1) := by decide +kernel
theorem dX0_clear_11 : decode cX0_clear 11 = .ok (.iload_n 3, 1) := by decide +kernel
theorem dX0_clear_12 : decode cX0_clear 12 = .ok (.putfield 37, 3) := by decide +kernel
theorem dX0_clear_15 : decode cX0_clear 15 = .ok (.aload_n 0, 1) := by decide +kernel
theorem dX0_clear_16 : decode cX0_clear 16 = .ok (.iconst 0, 1) := by decide +kernel
theorem dX0_clear_17 : decode cX0_clear 17 = .ok (.putfield 40, 3) := by decide +kernel
theorem dX0_clear_20 : decode cX0_clear 20 = .ok (.aload_n 0, 1) := by decide +kernel
theorem dX0_clear_21 : decode cX0_clear 21 = .ok (.iconst 0, 1) := by decide +kernel
theorem dX0_clear_22 : decode cX0_clear 22 = .ok (.putfield 43, 3) := by decide +kernel
theorem dX0_clear_25 : decode cX0_clear 25 = .ok (.aload_n 0, 1) := by decide +kernel
theorem dX0_clear_26 : decode cX0_clear 26 = .ok (.iconst 0, 1) := by decide +kernel
theorem dX0_clear_27 : decode cX0_clear 27 = .ok (.putfield 46, 3) := by decide +kernel
theorem dX0_clear_30 : decode cX0_clear 30 = .ok (.aload_n 0, 1) := by decide +kernel
theorem dX0_clear_31 : decode cX0_clear 31 = .ok (.invokevirtual 49, 3) := by decide +kernel
theorem dX0_clear_34 : decode cX0_clear 34 = .ok (.return_, 1) := by decide +kernel
abbrev f_c_X0_clear : List (Nat × Int) := [(1, 0), (1, 1), (1, 2), (1, 3), (1, 4), (1, 5), (6, -1), (7, -1)]
set_option maxHeartbeats 4000000 in
set_option maxRecDepth 100000 in
theorem c_X0_clear (G : KG) (l : Launch) (M : Mem) (c0 a1 a2 a3 : Int) (hI_M : Inv false M) (hk_c0 : kd c0 = 1) (hpre : -2147483648 ≤ a1 ∧ a1 ≤ 2147483647 ∧ -2147483648 ≤ a2 ∧ a2 ≤ 2147483647 ∧ -2147483648 ≤ a3 ∧ a3 ≤ 2147483647 ∧ 0 ≤ a1 ∧ a1 ≤ 2 ∧ 1 ≤ a2 ∧ a2 ≤ 3 ∧ 1 ≤ a3 ∧ a3 ≤ 3) : KC false G l yX0_clear cX0_clear 4 none (3, 64) [vR G c0, vI a1, vI a2, vI a3] M (fun A => kQv false G A (fun (N : Mem) => Inv false N ∧ Fr f_c_X0_clear M N)) := by
  refine kx_met (lo := [some (vR G c0), some (vI a1), some (vI a2), some (vI a3)]) (by decide) (Nat.le_of_ble_eq_true rfl) rfl ?_
  intro X F hQ
  have hF_M : Fr f_c_X0_clear M M := Fr.rf _ _
  refine kx_aload_n 1 F 0 dX0_clear_0 rfl rfl rfl ?_
  refine kx_iload_n 2 F 1 dX0_clear_1 rfl rfl rfl ?_
  refine kx_puti 5 F fw_X0_30 rfl hk_c0 rfl rfl (j := 5) rfl dX0_clear_2 rfl ?_
  intro N_1 hM_N_1
  have hI_N_1 : Inv false N_1 := Inv.u hI_M hM_N_1 hk_c0 (a := 0) (b := 2) rfl rfl rfl (by omega)
  have hF_N_1 : Fr f_c_X0_clear M N_1 := Fr.u hF_M hM_N_1 hk_c0 rfl
  refine kx_aload_n 6 F 0 dX0_clear_5 rfl rfl rfl ?_
  refine kx_iload_n 7 F 2 dX0_clear_6 rfl rfl rfl ?_
  refine kx_puti 10 F fw_X0_34 rfl hk_c0 rfl rfl (j := 0) rfl dX0_clear_7 rfl ?_
  intro N_2 hM_N_2
  have hI_N_2 : Inv false N_2 := Inv.u hI_N_1 hM_N_2 hk_c0 (a := 0) (b := 3) rfl rfl rfl (by omega)
  have hF_N_2 : Fr f_c_X0_clear M N_2 := Fr.u hF_N_1 hM_N_2 hk_c0 rfl
  refine kx_aload_n 11 F 0 dX0_clear_10 rfl rfl rfl ?_
  refine kx_iload_n 12 F 3 dX0_clear_11 rfl rfl rfl ?_
  refine kx_puti 15 F fw_X0_37 rfl hk_c0 rfl rfl (j := 1) rfl dX0_clear_12 rfl ?_
  intro N_3 hM_N_3
  have hI_N_3 : Inv false N_3 := Inv.u hI_N_2 hM_N_3 hk_c0 (a := 0) (b := 3) rfl rfl rfl (by omega)
  have hF_N_3 : Fr f_c_X0_clear M N_3 := Fr.u hF_N_2 hM_N_3 hk_c0 rfl
  refine kx_aload_n 16 F 0 dX0_clear_15 rfl rfl rfl ?_
  refine kx_iconst 17 F dX0_clear_16 rfl ?_
  refine kx_puti 20 F fw_X0_40 rfl hk_c0 rfl rfl (j := 2) rfl dX0_clear_17 rfl ?_
  intro N_4 hM_N_4
  have hI_N_4 : Inv false N_4 := Inv.u hI_N_3 hM_N_4 hk_c0 (a := 0) (b := 7) rfl rfl rfl (by omega)
  have hF_N_4 : Fr f_c_X0_clear M N_4 := Fr.u hF_N_3 hM_N_4 hk_c0 rfl
  refine kx_aload_n 21 F 0 dX0_clear_20 rfl rfl rfl ?_
  refine kx_iconst 22 F dX0_clear_21 rfl ?_
  refine kx_puti 25 F fw_X0_43 rfl hk_c0 rfl rfl (j := 3) rfl dX0_clear_22 rfl ?_
  intro N_5 hM_N_5
  have hI_N_5 : Inv false N_5 := Inv.u hI_N_4 hM_N_5 hk_c0 (a := 0) (b := 7) rfl rfl rfl (by omega)
  have hF_N_5 : Fr f_c_X0_clear M N_5 := Fr.u hF_N_4 hM_N_5 hk_c0 rfl
  refine kx_aload_n 26 F 0 dX0_clear_25 rfl rfl rfl ?_
  refine kx_iconst 27 F dX0_clear_26 rfl ?_
  refine kx_puti 30 F fw_X0_46 rfl hk_c0 rfl rfl (j := 4) rfl dX0_clear_27 rfl ?_
  intro N_6 hM_N_6
  have hI_N_6 : Inv false N_6 := Inv.u hI_N_5 hM_N_6 hk_c0 (a := 0) (b := 20) rfl rfl rfl (by omega)
  have hF_N_6 : Fr f_c_X0_clear M N_6 := Fr.u hF_N_5 hM_N_6 hk_c0 rfl
  refine kx_aload_n 31 F 0 dX0_clear_30 rfl rfl rfl ?_
  refine kx_Vv 34 (ci := 0) F (As := []) (st := []) vd_X0_49 (c_X0_renew G l N_6 c0 hI_N_6 hk_c0) hk_c0 rfl rfl rfl ⟨by decide, by decide⟩ rfl rfl (Nat.le_of_ble_eq_true rfl) dX0_clear_31 rfl ?_
  intro N_7 q_8
  obtain ⟨hI_N_7, hG_N_7⟩ := q_8
  have hF_N_7 : Fr f_c_X0_clear M N_7 := Fr.c hF_N_6 hG_N_7 rfl
  exact kx_vret F hQ ⟨hI_N_7, hF_N_7⟩ dX0_clear_34
theorem dX0_takeAll_0 : decode cX0_takeAll 0 = .ok (.aload_n 0, 1) := by decide +kernel
theorem dX0_takeAll_1 : decode cX0_takeAll 1 = .ok (.iconst 0, 1) := by decide +kernel
theorem dX0_takeAll_2 : decode cX0_takeAll 2 = .ok (.iconst 1, 1) := by decide +kernel
theorem dX0_takeAll_3 : decode cX0_takeAll 3 = .ok (.iconst 1, 1) := by decide +kernel
theorem dX0_takeAll_4 : decode cX0_takeAll 4 = .ok (.invokevirtual 52, 3) := by decide +kernel
theorem dX0_takeAll_7 : decode cX0_takeAll 7 = .ok (.aload_n 0, 1) := by decide +kernel
theorem dX0_takeAll_8 : decode cX0_takeAll 8 = .ok (.iconst 1, 1) := by decide +kernel
theorem dX0_takeAll_9 : decode cX0_takeAll 9 = .ok (.putfield 40, 3) := by decide +kernel
theorem dX0_takeAll_12 : decode cX0_takeAll 12 = .ok (.aload_n 0, 1) := by decide +kernel
theorem dX0_takeAll_13 : decode cX0_takeAll 13 = .ok (.iconst 1, 1) := by decide +kernel
theorem dX0_takeAll_14 : decode cX0_takeAll 14 = .ok (.putfield 43, 3) := by decide +kernel
theorem dX0_takeAll_17 : decode cX0_takeAll 17 = .ok (.aload_n 0, 1) := by decide +kernel
theorem dX0_takeAll_18 : decode cX0_takeAll 18 = .ok (.getfield 24, 3) := by decide +kernel
theorem dX0_takeAll_21 : decode cX0_takeAll 21 = .ok (.iconst 1, 1) := by decide +kernel
theorem dX0_takeAll_22 : decode cX0_takeAll 22 = .ok (.invokestatic 56, 3) := by decide +kernel
theorem dX0_takeAll_25 : decode cX0_takeAll 25 = .ok (.iconst 0, 1) := by decide +kernel
theorem dX0_takeAll_26 : decode cX0_takeAll 26 = .ok (.istore_n 1, 1) := by decide +kernel
theorem dX0_takeAll_27 : decode cX0_takeAll 27 = .ok (.iload_n 1, 1) := by decide +kernel
theorem dX0_takeAll_28 : decode cX0_takeAll 28 = .ok (.bipush 6, 2) := by decide +kernel
theorem dX0_takeAll_30 : decode cX0_takeAll 30 = .ok (.if_icmp .ge 18, 3) := by decide +kernel
theorem dX0_takeAll_33 : decode cX0_takeAll 33 = .ok (.aload_n 0, 1) := by decide +kernel
theorem dX0_takeAll_34 : decode cX0_takeAll 34 = .ok (.getfield 27, 3) := by decide +kernel
theorem dX0_takeAll_37 : decode cX0_takeAll 37 = .ok (.iload_n 1, 1) := by decide +kernel
theorem dX0_takeAll_38 : decode cX0_takeAll 38 = .ok (.iconst 3, 1) := by decide +kernel
theorem dX0_takeAll_39 : decode cX0_takeAll 39 = .ok (.imul, 1) := by decide +kernel
theorem dX0_takeAll_40 : decode cX0_takeAll 40 = .ok (.iconst 1, 1) := by decide +kernel
theorem dX0_takeAll_41 : decode cX0_takeAll 41 = .ok (.iastore, 1) := by decide +kernel
theorem dX0_takeAll_42 : decode cX0_takeAll 42 = .ok (.iinc 1 1, 3) := by decide +kernel
theorem dX0_takeAll_45 : decode cX0_takeAll 45 = .ok (.goto (-18), 3) := by decide +kernel
theorem dX0_takeAll_48 : decode cX0_takeAll 48 = .ok (.return_, 1) := by decide +kernel
abbrev f_c_X0_takeAll : List (Nat × Int) := [(1, 0), (1, 1), (1, 2), (1, 3), (1, 4), (1, 5), (6, -1), (7, -1)]
set_option maxHeartbeats 4000000 in
set_option maxRecDepth 100000 in
theorem c_X0_takeAll (G : KG) (l : Launch) (M : Mem) (c0 : Int) (hI_M : Inv false M) (hk_c0 : kd c0 = 1) : KC false G l yX0_takeAll cX0_takeAll 2 none (4, 87) [vR G c0] M (fun A => kQv false G A (fun (N : Mem) => Inv false N ∧ Fr f_c_X0_takeAll M N)) := by
  refine kx_met (lo := [some (vR G c0), none]) (by decide) (Nat.le_of_ble_eq_true rfl) rfl ?_
  intro X F hQ
  have hF_M : Fr f_c_X0_takeAll M M := Fr.rf _ _
  refine kx_aload_n 1 F 0 dX0_takeAll_0 rfl rfl rfl ?_
  refine kx_iconst 2 F dX0_takeAll_1 rfl ?_
  refine kx_iconst 3 F dX0_takeAll_2 rfl ?_
  refine kx_iconst 4 F dX0_takeAll_3 rfl ?_
  refine kx_Vv 7 (ci := 0) F (As := [vI 0, vI 1, vI 1]) (st := []) vd_X0_52 (c_X0_clear G l M c0 0 1 1 hI_M hk_c0 (by omega)) hk_c0 rfl rfl rfl ⟨by decide, by decide⟩ rfl rfl (Nat.le_of_ble_eq_true rfl) dX0_takeAll_4 rfl ?_
  intro N_1 q_2
  obtain ⟨hI_N_1, hG_N_1⟩ := q_2
  have hF_N_1 : Fr f_c_X0_takeAll M N_1 := Fr.c hF_M hG_N_1 rfl
  refine kx_aload_n 8 F 0 dX0_takeAll_7 rfl rfl rfl ?_
  refine kx_iconst 9 F dX0_takeAll_8 rfl ?_
  refine kx_puti 12 F fw_X0_40 rfl hk_c0 rfl rfl (j := 2) rfl dX0_takeAll_9 rfl ?_
  intro N_3 hM_N_3
  have hI_N_3 : Inv false N_3 := Inv.u hI_N_1 hM_N_3 hk_c0 (a := 0) (b := 7) rfl rfl rfl (by omega)
  have hF_N_3 : Fr f_c_X0_takeAll M N_3 := Fr.u hF_N_1 hM_N_3 hk_c0 rfl
  refine kx_aload_n 13 F 0 dX0_takeAll_12 rfl rfl rfl ?_
  refine kx_iconst 14 F dX0_takeAll_13 rfl ?_
  refine kx_puti 17 F fw_X0_43 rfl hk_c0 rfl rfl (j := 3) rfl dX0_takeAll_14 rfl ?_
  intro N_4 hM_N_4
  have hI_N_4 : Inv false N_4 := Inv.u hI_N_3 hM_N_4 hk_c0 (a := 0) (b := 7) rfl rfl rfl (by omega)
  have hF_N_4 : Fr f_c_X0_takeAll M N_4 := Fr.u hF_N_3 hM_N_4 hk_c0 rfl
  refine kx_aload_n 18 F 0 dX0_takeAll_17 rfl rfl rfl ?_
  refine kx_getr 21 F fl_X0_24 hk_c0 rfl rfl (j := 10) rfl dX0_takeAll_18 (v := (M c0 10)) (by rw [hM_N_4, mu_i (by omega), hM_N_3, mu_i (by omega), Fr.e hG_N_1 hk_c0 _ rfl]) rfl ?_
  have hk_5 : kd (M c0 10) = 6 := Inv.r hI_M hk_c0 rfl 10 rfl rfl
  refine kx_iconst 22 F dX0_takeAll_21 rfl ?_
  refine kx_Sv 25 F (As := [vR G (M c0 10), vI 1]) (st := []) sd_X0_56 (c_fill_step G l N_4 (M c0 10) 1 hI_N_4 hk_5 (by omega)) ⟨by decide, by decide⟩ rfl rfl (Nat.le_of_ble_eq_true rfl) dX0_takeAll_22 rfl ?_
  intro N_6 q_7
  obtain ⟨hI_N_6, hG_N_6⟩ := q_7
  have hF_N_6 : Fr f_c_X0_takeAll M N_6 := Fr.c hF_N_4 hG_N_6 rfl
  refine kx_iconst 26 F dX0_takeAll_25 rfl ?_
  refine kx_istore_n 27 F 1 (lo' := [some (vR G c0), some (vI 0)]) dX0_takeAll_26 rfl (by decide) rfl rfl rfl ?_
  have L_45 : ∀ (n_46 : Nat) (x1_43 : Int) (N_44 : Mem), Inv false N_44 → Fr f_c_X0_takeAll M N_44 → 0 ≤ x1_43 ∧ x1_43 ≤ 6 → (6 - (x1_43)).toNat = n_46 → KJ false G X N_44 27 [some (vR G c0), some (vI x1_43)] [] := by
    intro n_46
    refine Nat.strongRecOn n_46 ?_
    intro n_46 ih_47 x1_43 N_44 hI_N_44 hF_N_44 h_48 hm_49
    refine kx_iload_n 28 F 1 dX0_takeAll_27 rfl rfl rfl ?_
    refine kx_bipush 30 F dX0_takeAll_28 (by decide) rfl ?_
    refine kx_icmp_ge 33 F 48 dX0_takeAll_30 (by decide) rfl (by omega) (by decide) (fun h_50 => ?_) (fun h_50 => ?_)
    · exact kx_vret F hQ ⟨hI_N_44, hF_N_44⟩ dX0_takeAll_48
    · refine kx_aload_n 34 F 0 dX0_takeAll_33 rfl rfl rfl ?_
      refine kx_getr 37 F fl_X0_27 hk_c0 rfl rfl (j := 11) rfl dX0_takeAll_34 (v := (N_44 c0 11)) rfl rfl ?_
      have hk_51 : kd (N_44 c0 11) = 7 := Inv.r hI_N_44 hk_c0 rfl 11 rfl rfl
      refine kx_iload_n 38 F 1 dX0_takeAll_37 rfl rfl rfl ?_
      refine kx_iconst 39 F dX0_takeAll_38 rfl ?_
      refine kx_imul 40 F (v := 3 * x1_43) dX0_takeAll_39 (by omega) rfl ?_
      refine kx_iconst 41 F dX0_takeAll_40 rfl ?_
      refine kx_iast 42 F hk_51 rfl rfl (by omega) (by decide) dX0_takeAll_41 rfl ?_
      intro N_52 hM_N_52
      have hI_N_52 : Inv false N_52 := Inv.u hI_N_44 hM_N_52 hk_51 (a := 0) (b := 511) rfl rfl rfl (by omega)
      have hF_N_52 : Fr f_c_X0_takeAll M N_52 := Fr.u hF_N_44 hM_N_52 hk_51 rfl
      refine kx_iinc 45 F 1 (v := x1_43 + 1) (lo' := [some (vR G c0), some (vI (x1_43 + 1))]) dX0_takeAll_42 rfl (by omega) (by decide) rfl rfl rfl ?_
      refine kx_goto 27 F dX0_takeAll_45 (by decide) ?_
      exact ih_47 _ (by omega) (x1_43 + 1) N_52 hI_N_52 hF_N_52 (by omega) rfl
  exact L_45 _ 0 N_6 hI_N_6 hF_N_6 (by omega) rfl
theorem dX0_over_0 : decode cX0_over 0 = .ok (.iconst 0, 1) := by decide +kernel
theorem dX0_over_1 : decode cX0_over 1 = .ok (.istore 4, 2) := by decide +kernel
theorem dX0_over_3 : decode cX0_over 3 = .ok (.iconst 0, 1) := by decide +kernel
theorem dX0_over_4 : decode cX0_over 4 = .ok (.istore 5, 2) := by decide +kernel
theorem dX0_over_6 : decode cX0_over 6 = .ok (.iload 5, 2) := by decide +kernel
theorem dX0_over_8 : decode cX0_over 8 = .ok (.iconst 3, 1) := by decide +kernel
theorem dX0_over_9 : decode cX0_over 9 = .ok (.if_icmp .ge 61, 3) := by decide +kernel
theorem dX0_over_12 : decode cX0_over 12 = .ok (.aload_n 0, 1) := by decide +kernel
theorem dX0_over_13 : decode cX0_over 13 = .ok (.getfield 27, 3) := by decide +kernel
theorem dX0_over_16 : decode cX0_over 16 = .ok (.iload_n 1, 1) := by decide +kernel
theorem dX0_over_17 : decode cX0_over 17 = .ok (.iconst 3, 1) := by decide +kernel
theorem dX0_over_18 : decode cX0_over 18 = .ok (.imul, 1) := by decide +kernel
theorem dX0_over_19 : decode cX0_over 19 = .ok (.iload 5, 2) := by decide +kernel
theorem dX0_over_21 : decode cX0_over 21 = .ok (.iadd, 1) := by decide +kernel
theorem dX0_over_22 : decode cX0_over 22 = .ok (.iaload, 1) := by decide +kernel
theorem dX0_over_23 : decode cX0_over 23 = .ok (.istore 6, 2) := by decide +kernel
theorem dX0_over_25 : decode cX0_over 25 = .ok (.aload_n 0, 1) := by decide +kernel
theorem dX0_over_26 : decode cX0_over 26 = .ok (.getfield 27, 3) := by decide +kernel
theorem dX0_over_29 : decode cX0_over 29 = .ok (.iload_n 2, 1) := by decide +kernel
theorem dX0_over_30 : decode cX0_over 30 = .ok (.iconst 3, 1) := by decide +kernel
theorem dX0_over_31 : decode cX0_over 31 = .ok (.imul, 1) := by decide +kernel
theorem dX0_over_32 : decode cX0_over 32 = .ok (.iload 5, 2) := by decide +kernel
theorem dX0_over_34 : decode cX0_over 34 = .ok (.iadd, 1) := by decide +kernel
theorem dX0_over_35 : decode cX0_over 35 = .ok (.iaload, 1) := by decide +kernel
theorem dX0_over_36 : decode cX0_over 36 = .ok (.istore 7, 2) := by decide +kernel
theorem dX0_over_38 : decode cX0_over 38 = .ok (.iload 6, 2) := by decide +kernel
theorem dX0_over_40 : decode cX0_over 40 = .ok (.ifCond .eq 24, 3) := by decide +kernel
theorem dX0_over_43 : decode cX0_over 43 = .ok (.iload 7, 2) := by decide +kernel
theorem dX0_over_45 : decode cX0_over 45 = .ok (.ifCond .eq 19, 3) := by decide +kernel
theorem dX0_over_48 : decode cX0_over 48 = .ok (.iload 4, 2) := by decide +kernel
theorem dX0_over_50 : decode cX0_over 50 = .ok (.iload 6, 2) := by decide +kernel
theorem dX0_over_52 : decode cX0_over 52 = .ok (.iload_n 3, 1) := by decide +kernel
theorem dX0_over_53 : decode cX0_over 53 = .ok (.invokestatic 78, 3) := by decide +kernel
theorem dX0_over_56 : decode cX0_over 56 = .ok (.iload 7, 2) := by decide +kernel
theorem dX0_over_58 : decode cX0_over 58 = .ok (.invokestatic 78, 3) := by decide +kernel
theorem dX0_over_61 : decode cX0_over 61 = .ok (.ior, 1) := by decide +kernel
theorem dX0_over_62 : decode cX0_over 62 = .ok (.istore 4, 2) := by decide +kernel
theorem dX0_over_64 : decode cX0_over 64 = .ok (.iinc 5 1, 3) := by decide +kernel
theorem dX0_over_67 : decode cX0_over 67 = .ok (.goto (-61), 3) := by decide +kernel
theorem dX0_over_70 : decode cX0_over 70 = .ok (.iload 4, 2) := by decide +kernel
theorem dX0_over_72 : decode cX0_over 72 = .ok (.ireturn, 1) := by decide +kernel
set_option maxHeartbeats 4000000 in
set_option maxRecDepth 100000 in
theorem c_X0_over (G : KG) (l : Launch) (M : Mem) (c0 a1 a2 a3 : Int) (hI_M : Inv false M) (hk_c0 : kd c0 = 1) (hpre : -2147483648 ≤ a1 ∧ a1 ≤ 2147483647 ∧ -2147483648 ≤ a2 ∧ a2 ≤ 2147483647 ∧ -2147483648 ≤ a3 ∧ a3 ≤ 2147483647 ∧ 0 ≤ a1 ∧ a1 ≤ 5 ∧ 0 ≤ a2 ∧ a2 ≤ 5) : KC false G l yX0_over cX0_over 8 (some .int) (1, 21) [vR G c0, vI a1, vI a2, vI a3] M (fun A => kQi false G A (fun (r : Int) (N : Mem) => M = N ∧ (0 ≤ r ∧ r ≤ 511))) := by
  refine kx_met (lo := [some (vR G c0), some (vI a1), some (vI a2), some (vI a3), none, none, none, none]) (by decide) (Nat.le_of_ble_eq_true rfl) rfl ?_
  intro X F hQ
  refine kx_iconst 1 F dX0_over_0 rfl ?_
  refine kx_istore 3 F 4 (lo' := [some (vR G c0), some (vI a1), some (vI a2), some (vI a3), some (vI 0), none, none, none]) dX0_over_1 (by decide) rfl rfl rfl ?_
  refine kx_iconst 4 F dX0_over_3 rfl ?_
  refine kx_istore 6 F 5 (lo' := [some (vR G c0), some (vI a1), some (vI a2), some (vI a3), some (vI 0), some (vI 0), none, none]) dX0_over_4 (by decide) rfl rfl rfl ?_
  have L_63 : ∀ (n_64 : Nat) (x4_61 : Int) (x5_62 : Int), 0 ≤ x4_61 ∧ x4_61 ≤ 511 ∧ 0 ≤ x5_62 ∧ x5_62 ≤ 3 → (3 - (x5_62)).toNat = n_64 → KJ false G X M 6 [some (vR G c0), some (vI a1), some (vI a2), some (vI a3), some (vI x4_61), some (vI x5_62), none, none] [] := by
    intro n_64
    refine Nat.strongRecOn n_64 ?_
    intro n_64 ih_65 x4_61 x5_62 h_66 hm_67
    refine kx_iload 8 F 5 dX0_over_6 rfl rfl ?_
    refine kx_iconst 9 F dX0_over_8 rfl ?_
    refine kx_icmp_ge 12 F 70 dX0_over_9 (by decide) rfl (by omega) (by decide) (fun h_68 => ?_) (fun h_68 => ?_)
    · refine kx_iload 72 F 4 dX0_over_70 rfl rfl ?_
      exact kx_iret F hQ ⟨rfl, (by omega)⟩ dX0_over_72
    · refine kx_aload_n 13 F 0 dX0_over_12 rfl rfl rfl ?_
      refine kx_getr 16 F fl_X0_27 hk_c0 rfl rfl (j := 11) rfl dX0_over_13 (v := (M c0 11)) rfl rfl ?_
      have hk_69 : kd (M c0 11) = 7 := Inv.r hI_M hk_c0 rfl 11 rfl rfl
      refine kx_iload_n 17 F 1 dX0_over_16 rfl rfl rfl ?_
      refine kx_iconst 18 F dX0_over_17 rfl ?_
      refine kx_imul 19 F (v := 3 * a1) dX0_over_18 (by omega) rfl ?_
      refine kx_iload 21 F 5 dX0_over_19 rfl rfl ?_
      refine kx_iadd 22 F (v := 3 * a1 + x5_62) dX0_over_21 rfl rfl ?_
      refine kx_iald 23 F hk_69 rfl rfl (by omega) (by decide) dX0_over_22 (v := (M (M c0 11) (3 * a1 + x5_62))) rfl rfl ?_
      have h_70 := Inv.g hI_M hk_69 rfl (3 * a1 + x5_62) (a := 0) (b := 511) rfl rfl
      refine kx_istore 25 F 6 (lo' := [some (vR G c0), some (vI a1), some (vI a2), some (vI a3), some (vI x4_61), some (vI x5_62), some (vI (M (M c0 11) (3 * a1 + x5_62))), none]) dX0_over_23 (by decide) rfl rfl rfl ?_
      refine kx_aload_n 26 F 0 dX0_over_25 rfl rfl rfl ?_
      refine kx_getr 29 F fl_X0_27 hk_c0 rfl rfl (j := 11) rfl dX0_over_26 (v := (M c0 11)) rfl rfl ?_
      refine kx_iload_n 30 F 2 dX0_over_29 rfl rfl rfl ?_
      refine kx_iconst 31 F dX0_over_30 rfl ?_
      refine kx_imul 32 F (v := 3 * a2) dX0_over_31 (by omega) rfl ?_
      refine kx_iload 34 F 5 dX0_over_32 rfl rfl ?_
      refine kx_iadd 35 F (v := 3 * a2 + x5_62) dX0_over_34 rfl rfl ?_
      refine kx_iald 36 F hk_69 rfl rfl (by omega) (by decide) dX0_over_35 (v := (M (M c0 11) (3 * a2 + x5_62))) rfl rfl ?_
      have h_71 := Inv.g hI_M hk_69 rfl (3 * a2 + x5_62) (a := 0) (b := 511) rfl rfl
      refine kx_istore 38 F 7 (lo' := [some (vR G c0), some (vI a1), some (vI a2), some (vI a3), some (vI x4_61), some (vI x5_62), some (vI (M (M c0 11) (3 * a1 + x5_62))), some (vI (M (M c0 11) (3 * a2 + x5_62)))]) dX0_over_36 (by decide) rfl rfl rfl ?_
      refine kx_iload 40 F 6 dX0_over_38 rfl rfl ?_
      have J_82 : ∀ (x4_81 : Int), 0 ≤ x4_81 ∧ x4_81 ≤ 511 → KJ false G X M 64 [some (vR G c0), some (vI a1), some (vI a2), some (vI a3), some (vI x4_81), some (vI x5_62), none, none] [] := by
        intro x4_81 h_83
        refine kx_iinc 67 F 5 (v := x5_62 + 1) (lo' := [some (vR G c0), some (vI a1), some (vI a2), some (vI a3), some (vI x4_81), some (vI (x5_62 + 1)), none, none]) dX0_over_64 rfl (by omega) (by decide) rfl rfl rfl ?_
        refine kx_goto 6 F dX0_over_67 (by decide) ?_
        exact ih_65 _ (by omega) x4_81 (x5_62 + 1) (by omega) rfl
      refine kx_if_eq 43 F 64 dX0_over_40 (by decide) rfl (by omega) (fun h_84 => ?_) (fun h_84 => ?_)
      · refine kx_drop 6 (lo' := [some (vR G c0), some (vI a1), some (vI a2), some (vI a3), some (vI x4_61), some (vI x5_62), none, some (vI (M (M c0 11) (3 * a2 + x5_62)))]) rfl ?_
        refine kx_drop 7 (lo' := [some (vR G c0), some (vI a1), some (vI a2), some (vI a3), some (vI x4_61), some (vI x5_62), none, none]) rfl ?_
        exact J_82 x4_61 (by omega)
      · refine kx_iload 45 F 7 dX0_over_43 rfl rfl ?_
        refine kx_if_eq 48 F 64 dX0_over_45 (by decide) rfl (by omega) (fun h_85 => ?_) (fun h_85 => ?_)
        · refine kx_drop 6 (lo' := [some (vR G c0), some (vI a1), some (vI a2), some (vI a3), some (vI x4_61), some (vI x5_62), none, some (vI (M (M c0 11) (3 * a2 + x5_62)))]) rfl ?_
          refine kx_drop 7 (lo' := [some (vR G c0), some (vI a1), some (vI a2), some (vI a3), some (vI x4_61), some (vI x5_62), none, none]) rfl ?_
          exact J_82 x4_61 (by omega)
        · refine kx_iload 50 F 4 dX0_over_48 rfl rfl ?_
          refine kx_iload 52 F 6 dX0_over_50 rfl rfl ?_
          refine kx_iload_n 53 F 3 dX0_over_52 rfl rfl rfl ?_
          refine kx_Si 56 F (As := [vI (M (M c0 11) (3 * a1 + x5_62)), vI a3]) (st := [vI x4_61]) sd_X0_78 (c_X2_compose G l M (M (M c0 11) (3 * a1 + x5_62)) a3 hI_M (by omega)) ⟨by decide, by decide⟩ rfl rfl (Nat.le_of_ble_eq_true rfl) dX0_over_53 rfl ?_
          intro r_86 N_87 q_88
          obtain ⟨rfl, q_88c⟩ := q_88
          refine kx_iload 58 F 7 dX0_over_56 rfl rfl ?_
          refine kx_Si 61 F (As := [vI r_86, vI (M (M c0 11) (3 * a2 + x5_62))]) (st := [vI x4_61]) sd_X0_78 (c_X2_compose G l M r_86 (M (M c0 11) (3 * a2 + x5_62)) hI_M (by omega)) ⟨by decide, by decide⟩ rfl rfl (Nat.le_of_ble_eq_true rfl) dX0_over_58 rfl ?_
          intro r_89 N_90 q_91
          obtain ⟨rfl, q_91c⟩ := q_91
          refine kx_ior 62 F (v := (zor x4_61 r_89)) dX0_over_61 rfl rfl ?_
          have h_92 : 0 ≤ (zor x4_61 r_89) ∧ (zor x4_61 r_89) < 512 := zor_lt (a := x4_61) (b := r_89) 9 (by decide) (by omega) (by omega)
          refine kx_istore 64 F 4 (lo' := [some (vR G c0), some (vI a1), some (vI a2), some (vI a3), some (vI (zor x4_61 r_89)), some (vI x5_62), some (vI (M (M c0 11) (3 * a1 + x5_62))), some (vI (M (M c0 11) (3 * a2 + x5_62)))]) dX0_over_62 (by decide) rfl rfl rfl ?_
          refine kx_drop 6 (lo' := [some (vR G c0), some (vI a1), some (vI a2), some (vI a3), some (vI (zor x4_61 r_89)), some (vI x5_62), none, some (vI (M (M c0 11) (3 * a2 + x5_62)))]) rfl ?_
          refine kx_drop 7 (lo' := [some (vR G c0), some (vI a1), some (vI a2), some (vI a3), some (vI (zor x4_61 r_89)), some (vI x5_62), none, none]) rfl ?_
          exact J_82 (zor x4_61 r_89) (by omega)
  exact L_63 _ 0 0 (by omega) rfl
