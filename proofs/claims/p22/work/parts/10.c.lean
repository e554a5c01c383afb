theorem dX2_image_0 : decode cX2_image 0 = .ok (.iload_n 0, 1) := by decide +kernel
theorem dX2_image_1 : decode cX2_image 1 = .ok (.iconst 1, 1) := by decide +kernel
theorem dX2_image_2 : decode cX2_image 2 = .ok (.iand, 1) := by decide +kernel
theorem dX2_image_3 : decode cX2_image 3 = .ok (.iload_n 1, 1) := by decide +kernel
theorem dX2_image_4 : decode cX2_image 4 = .ok (.bipush 7, 2) := by decide +kernel
theorem dX2_image_6 : decode cX2_image 6 = .ok (.iand, 1) := by decide +kernel
theorem dX2_image_7 : decode cX2_image 7 = .ok (.imul, 1) := by decide +kernel
theorem dX2_image_8 : decode cX2_image 8 = .ok (.iload_n 0, 1) := by decide +kernel
theorem dX2_image_9 : decode cX2_image 9 = .ok (.iconst 1, 1) := by decide +kernel
theorem dX2_image_10 : decode cX2_image 10 = .ok (.ishr, 1) := by decide +kernel
theorem dX2_image_11 : decode cX2_image 11 = .ok (.iconst 1, 1) := by decide +kernel
theorem dX2_image_12 : decode cX2_image 12 = .ok (.iand, 1) := by decide +kernel
theorem dX2_image_13 : decode cX2_image 13 = .ok (.iload_n 1, 1) := by decide +kernel
theorem dX2_image_14 : decode cX2_image 14 = .ok (.iconst 3, 1) := by decide +kernel
theorem dX2_image_15 : decode cX2_image 15 = .ok (.ishr, 1) := by decide +kernel
theorem dX2_image_16 : decode cX2_image 16 = .ok (.bipush 7, 2) := by decide +kernel
theorem dX2_image_18 : decode cX2_image 18 = .ok (.iand, 1) := by decide +kernel
theorem dX2_image_19 : decode cX2_image 19 = .ok (.imul, 1) := by decide +kernel
theorem dX2_image_20 : decode cX2_image 20 = .ok (.ior, 1) := by decide +kernel
theorem dX2_image_21 : decode cX2_image 21 = .ok (.iload_n 0, 1) := by decide +kernel
theorem dX2_image_22 : decode cX2_image 22 = .ok (.iconst 2, 1) := by decide +kernel
theorem dX2_image_23 : decode cX2_image 23 = .ok (.ishr, 1) := by decide +kernel
theorem dX2_image_24 : decode cX2_image 24 = .ok (.iconst 1, 1) := by decide +kernel
theorem dX2_image_25 : decode cX2_image 25 = .ok (.iand, 1) := by decide +kernel
theorem dX2_image_26 : decode cX2_image 26 = .ok (.iload_n 1, 1) := by decide +kernel
theorem dX2_image_27 : decode cX2_image 27 = .ok (.bipush 6, 2) := by decide +kernel
theorem dX2_image_29 : decode cX2_image 29 = .ok (.ishr, 1) := by decide +kernel
theorem dX2_image_30 : decode cX2_image 30 = .ok (.bipush 7, 2) := by decide +kernel
theorem dX2_image_32 : decode cX2_image 32 = .ok (.iand, 1) := by decide +kernel
theorem dX2_image_33 : decode cX2_image 33 = .ok (.imul, 1) := by decide +kernel
theorem dX2_image_34 : decode cX2_image 34 = .ok (.ior, 1) := by decide +kernel
theorem dX2_image_35 : decode cX2_image 35 = .ok (.ireturn, 1) := by decide +kernel
set_option maxHeartbeats 4000000 in
set_option maxRecDepth 100000 in
theorem c_X2_image (G : KG) (l : Launch) (M : Mem) (a0 : Int) (a1 : Int) (hI_M : Inv false M) (hpre : -2147483648 ≤ a0 ∧ a0 ≤ 2147483647 ∧ -2147483648 ≤ a1 ∧ a1 ≤ 2147483647) : KC false G l yX2_image cX2_image 2 (some .int) (0, 0) [vI a0, vI a1] M (fun A => kQi false G A (fun (r : Int) (N : Mem) => M = N ∧ (0 ≤ r ∧ r ≤ 7))) := by
  refine kx_met (lo := [some (vI a0), some (vI a1)]) (by decide) (Nat.le_of_ble_eq_true rfl) rfl ?_
  intro X F hQ
  refine kx_iload_n 1 F 0 dX2_image_0 rfl rfl rfl ?_
  refine kx_iconst 2 F dX2_image_1 rfl ?_
  refine kx_iand 3 F (v := (zand a0 1)) dX2_image_2 rfl rfl ?_
  have h_1 := zand_r (a := a0) (b := 1) (by omega)
  refine kx_iload_n 4 F 1 dX2_image_3 rfl rfl rfl ?_
  refine kx_bipush 6 F dX2_image_4 (by decide) rfl ?_
  refine kx_iand 7 F (v := (zand a1 7)) dX2_image_6 rfl rfl ?_
  have h_2 := zand_r (a := a1) (b := 7) (by omega)
  refine kx_imul 8 F (v := ((zand a0 1) * (zand a1 7))) dX2_image_7 rfl rfl ?_
  have h_3 : 0 ≤ ((zand a0 1) * (zand a1 7)) ∧ ((zand a0 1) * (zand a1 7)) ≤ 7 := mul_rng (a := (zand a0 1)) (b := (zand a1 7)) 1 7 (by omega) (by omega) (by decide)
  refine kx_iload_n 9 F 0 dX2_image_8 rfl rfl rfl ?_
  refine kx_iconst 10 F dX2_image_9 rfl ?_
  refine kx_ishr 11 F (v := (zshr a0 1)) dX2_image_10 rfl rfl ?_
  have h_4 := zshr_rng a0 1
  refine kx_iconst 12 F dX2_image_11 rfl ?_
  refine kx_iand 13 F (v := (zand (zshr a0 1) 1)) dX2_image_12 rfl rfl ?_
  have h_5 := zand_r (a := (zshr a0 1)) (b := 1) (by omega)
  refine kx_iload_n 14 F 1 dX2_image_13 rfl rfl rfl ?_
  refine kx_iconst 15 F dX2_image_14 rfl ?_
  refine kx_ishr 16 F (v := (zshr a1 3)) dX2_image_15 rfl rfl ?_
  have h_6 := zshr_rng a1 3
  refine kx_bipush 18 F dX2_image_16 (by decide) rfl ?_
  refine kx_iand 19 F (v := (zand (zshr a1 3) 7)) dX2_image_18 rfl rfl ?_
  have h_7 := zand_r (a := (zshr a1 3)) (b := 7) (by omega)
  refine kx_imul 20 F (v := ((zand (zshr a0 1) 1) * (zand (zshr a1 3) 7))) dX2_image_19 rfl rfl ?_
  have h_8 : 0 ≤ ((zand (zshr a0 1) 1) * (zand (zshr a1 3) 7)) ∧ ((zand (zshr a0 1) 1) * (zand (zshr a1 3) 7)) ≤ 7 := mul_rng (a := (zand (zshr a0 1) 1)) (b := (zand (zshr a1 3) 7)) 1 7 (by omega) (by omega) (by decide)
  refine kx_ior 21 F (v := (zor ((zand a0 1) * (zand a1 7)) ((zand (zshr a0 1) 1) * (zand (zshr a1 3) 7)))) dX2_image_20 rfl rfl ?_
  have h_9 : 0 ≤ (zor ((zand a0 1) * (zand a1 7)) ((zand (zshr a0 1) 1) * (zand (zshr a1 3) 7))) ∧ (zor ((zand a0 1) * (zand a1 7)) ((zand (zshr a0 1) 1) * (zand (zshr a1 3) 7))) < 8 := zor_lt (a := ((zand a0 1) * (zand a1 7))) (b := ((zand (zshr a0 1) 1) * (zand (zshr a1 3) 7))) 3 (by decide) (by omega) (by omega)
  refine kx_iload_n 22 F 0 dX2_image_21 rfl rfl rfl ?_
  refine kx_iconst 23 F dX2_image_22 rfl ?_
  refine kx_ishr 24 F (v := (zshr a0 2)) dX2_image_23 rfl rfl ?_
  have h_10 := zshr_rng a0 2
  refine kx_iconst 25 F dX2_image_24 rfl ?_
  refine kx_iand 26 F (v := (zand (zshr a0 2) 1)) dX2_image_25 rfl rfl ?_
  have h_11 := zand_r (a := (zshr a0 2)) (b := 1) (by omega)
  refine kx_iload_n 27 F 1 dX2_image_26 rfl rfl rfl ?_
  refine kx_bipush 29 F dX2_image_27 (by decide) rfl ?_
  refine kx_ishr 30 F (v := (zshr a1 6)) dX2_image_29 rfl rfl ?_
  have h_12 := zshr_rng a1 6
  refine kx_bipush 32 F dX2_image_30 (by decide) rfl ?_
  refine kx_iand 33 F (v := (zand (zshr a1 6) 7)) dX2_image_32 rfl rfl ?_
  have h_13 := zand_r (a := (zshr a1 6)) (b := 7) (by omega)
  refine kx_imul 34 F (v := ((zand (zshr a0 2) 1) * (zand (zshr a1 6) 7))) dX2_image_33 rfl rfl ?_
  have h_14 : 0 ≤ ((zand (zshr a0 2) 1) * (zand (zshr a1 6) 7)) ∧ ((zand (zshr a0 2) 1) * (zand (zshr a1 6) 7)) ≤ 7 := mul_rng (a := (zand (zshr a0 2) 1)) (b := (zand (zshr a1 6) 7)) 1 7 (by omega) (by omega) (by decide)
  refine kx_ior 35 F (v := (zor (zor ((zand a0 1) * (zand a1 7)) ((zand (zshr a0 1) 1) * (zand (zshr a1 3) 7))) ((zand (zshr a0 2) 1) * (zand (zshr a1 6) 7)))) dX2_image_34 rfl rfl ?_
  have h_15 : 0 ≤ (zor (zor ((zand a0 1) * (zand a1 7)) ((zand (zshr a0 1) 1) * (zand (zshr a1 3) 7))) ((zand (zshr a0 2) 1) * (zand (zshr a1 6) 7))) ∧ (zor (zor ((zand a0 1) * (zand a1 7)) ((zand (zshr a0 1) 1) * (zand (zshr a1 3) 7))) ((zand (zshr a0 2) 1) * (zand (zshr a1 6) 7))) < 8 := zor_lt (a := (zor ((zand a0 1) * (zand a1 7)) ((zand (zshr a0 1) 1) * (zand (zshr a1 3) 7)))) (b := ((zand (zshr a0 2) 1) * (zand (zshr a1 6) 7))) 3 (by decide) (by omega) (by omega)
  exact kx_iret F hQ ⟨rfl, (by omega)⟩ dX2_image_35
theorem dX2_compose_0 : decode cX2_compose 0 = .ok (.iload_n 0, 1) := by decide +kernel
theorem dX2_compose_1 : decode cX2_compose 1 = .ok (.bipush 73, 2) := by decide +kernel
theorem dX2_compose_3 : decode cX2_compose 3 = .ok (.iand, 1) := by decide +kernel
theorem dX2_compose_4 : decode cX2_compose 4 = .ok (.iload_n 1, 1) := by decide +kernel
theorem dX2_compose_5 : decode cX2_compose 5 = .ok (.bipush 7, 2) := by decide +kernel
theorem dX2_compose_7 : decode cX2_compose 7 = .ok (.iand, 1) := by decide +kernel
theorem dX2_compose_8 : decode cX2_compose 8 = .ok (.imul, 1) := by decide +kernel
theorem dX2_compose_9 : decode cX2_compose 9 = .ok (.iload_n 0, 1) := by decide +kernel
theorem dX2_compose_10 : decode cX2_compose 10 = .ok (.iconst 1, 1) := by decide +kernel
theorem dX2_compose_11 : decode cX2_compose 11 = .ok (.ishr, 1) := by decide +kernel
theorem dX2_compose_12 : decode cX2_compose 12 = .ok (.bipush 73, 2) := by decide +kernel
theorem dX2_compose_14 : decode cX2_compose 14 = .ok (.iand, 1) := by decide +kernel
theorem dX2_compose_15 : decode cX2_compose 15 = .ok (.iload_n 1, 1) := by decide +kernel
theorem dX2_compose_16 : decode cX2_compose 16 = .ok (.iconst 3, 1) := by decide +kernel
theorem dX2_compose_17 : decode cX2_compose 17 = .ok (.ishr, 1) := by decide +kernel
theorem dX2_compose_18 : decode cX2_compose 18 = .ok (.bipush 7, 2) := by decide +kernel
theorem dX2_compose_20 : decode cX2_compose 20 = .ok (.iand, 1) := by decide +kernel
theorem dX2_compose_21 : decode cX2_compose 21 = .ok (.imul, 1) := by decide +kernel
theorem dX2_compose_22 : decode cX2_compose 22 = .ok (.ior, 1) := by decide +kernel
theorem dX2_compose_23 : decode cX2_compose 23 = .ok (.iload_n 0, 1) := by decide +kernel
theorem dX2_compose_24 : decode cX2_compose 24 = .ok (.iconst 2, 1) := by decide +kernel
theorem dX2_compose_25 : decode cX2_compose 25 = .ok (.ishr, 1) := by decide +kernel
theorem dX2_compose_26 : decode cX2_compose 26 = .ok (.bipush 73, 2) := by decide +kernel
theorem dX2_compose_28 : decode cX2_compose 28 = .ok (.iand, 1) := by decide +kernel
theorem dX2_compose_29 : decode cX2_compose 29 = .ok (.iload_n 1, 1) := by decide +kernel
theorem dX2_compose_30 : decode cX2_compose 30 = .ok (.bipush 6, 2) := by decide +kernel
theorem dX2_compose_32 : decode cX2_compose 32 = .ok (.ishr, 1) := by decide +kernel
theorem dX2_compose_33 : decode cX2_compose 33 = .ok (.bipush 7, 2) := by decide +kernel
theorem dX2_compose_35 : decode cX2_compose 35 = .ok (.iand, 1) := by decide +kernel
theorem dX2_compose_36 : decode cX2_compose 36 = .ok (.imul, 1) := by decide +kernel
theorem dX2_compose_37 : decode cX2_compose 37 = .ok (.ior, 1) := by decide +kernel
theorem dX2_compose_38 : decode cX2_compose 38 = .ok (.ireturn, 1) := by decide +kernel
set_option maxHeartbeats 4000000 in
set_option maxRecDepth 100000 in
theorem c_X2_compose (G : KG) (l : Launch) (M : Mem) (a0 : Int) (a1 : Int) (hI_M : Inv false M) (hpre : -2147483648 ≤ a0 ∧ a0 ≤ 2147483647 ∧ -2147483648 ≤ a1 ∧ a1 ≤ 2147483647) : KC false G l yX2_compose cX2_compose 2 (some .int) (0, 0) [vI a0, vI a1] M (fun A => kQi false G A (fun (r : Int) (N : Mem) => M = N ∧ (0 ≤ r ∧ r ≤ 511))) := by
  refine kx_met (lo := [some (vI a0), some (vI a1)]) (by decide) (Nat.le_of_ble_eq_true rfl) rfl ?_
  intro X F hQ
  refine kx_iload_n 1 F 0 dX2_compose_0 rfl rfl rfl ?_
  refine kx_bipush 3 F dX2_compose_1 (by decide) rfl ?_
  refine kx_iand 4 F (v := (zand a0 73)) dX2_compose_3 rfl rfl ?_
  have h_1 := zand_r (a := a0) (b := 73) (by omega)
  refine kx_iload_n 5 F 1 dX2_compose_4 rfl rfl rfl ?_
  refine kx_bipush 7 F dX2_compose_5 (by decide) rfl ?_
  refine kx_iand 8 F (v := (zand a1 7)) dX2_compose_7 rfl rfl ?_
  have h_2 := zand_r (a := a1) (b := 7) (by omega)
  refine kx_imul 9 F (v := ((zand a0 73) * (zand a1 7))) dX2_compose_8 rfl rfl ?_
  have h_3 : 0 ≤ ((zand a0 73) * (zand a1 7)) ∧ ((zand a0 73) * (zand a1 7)) ≤ 511 := mul_rng (a := (zand a0 73)) (b := (zand a1 7)) 73 7 (by omega) (by omega) (by decide)
  refine kx_iload_n 10 F 0 dX2_compose_9 rfl rfl rfl ?_
  refine kx_iconst 11 F dX2_compose_10 rfl ?_
  refine kx_ishr 12 F (v := (zshr a0 1)) dX2_compose_11 rfl rfl ?_
  have h_4 := zshr_rng a0 1
  refine kx_bipush 14 F dX2_compose_12 (by decide) rfl ?_
  refine kx_iand 15 F (v := (zand (zshr a0 1) 73)) dX2_compose_14 rfl rfl ?_
  have h_5 := zand_r (a := (zshr a0 1)) (b := 73) (by omega)
  refine kx_iload_n 16 F 1 dX2_compose_15 rfl rfl rfl ?_
  refine kx_iconst 17 F dX2_compose_16 rfl ?_
  refine kx_ishr 18 F (v := (zshr a1 3)) dX2_compose_17 rfl rfl ?_
  have h_6 := zshr_rng a1 3
  refine kx_bipush 20 F dX2_compose_18 (by decide) rfl ?_
  refine kx_iand 21 F (v := (zand (zshr a1 3) 7)) dX2_compose_20 rfl rfl ?_
  have h_7 := zand_r (a := (zshr a1 3)) (b := 7) (by omega)
  refine kx_imul 22 F (v := ((zand (zshr a0 1) 73) * (zand (zshr a1 3) 7))) dX2_compose_21 rfl rfl ?_
  have h_8 : 0 ≤ ((zand (zshr a0 1) 73) * (zand (zshr a1 3) 7)) ∧ ((zand (zshr a0 1) 73) * (zand (zshr a1 3) 7)) ≤ 511 := mul_rng (a := (zand (zshr a0 1) 73)) (b := (zand (zshr a1 3) 7)) 73 7 (by omega) (by omega) (by decide)
  refine kx_ior 23 F (v := (zor ((zand a0 73) * (zand a1 7)) ((zand (zshr a0 1) 73) * (zand (zshr a1 3) 7)))) dX2_compose_22 rfl rfl ?_
  have h_9 : 0 ≤ (zor ((zand a0 73) * (zand a1 7)) ((zand (zshr a0 1) 73) * (zand (zshr a1 3) 7))) ∧ (zor ((zand a0 73) * (zand a1 7)) ((zand (zshr a0 1) 73) * (zand (zshr a1 3) 7))) < 512 := zor_lt (a := ((zand a0 73) * (zand a1 7))) (b := ((zand (zshr a0 1) 73) * (zand (zshr a1 3) 7))) 9 (by decide) (by omega) (by omega)
  refine kx_iload_n 24 F 0 dX2_compose_23 rfl rfl rfl ?_
  refine kx_iconst 25 F dX2_compose_24 rfl ?_
  refine kx_ishr 26 F (v := (zshr a0 2)) dX2_compose_25 rfl rfl ?_
  have h_10 := zshr_rng a0 2
  refine kx_bipush 28 F dX2_compose_26 (by decide) rfl ?_
  refine kx_iand 29 F (v := (zand (zshr a0 2) 73)) dX2_compose_28 rfl rfl ?_
  have h_11 := zand_r (a := (zshr a0 2)) (b := 73) (by omega)
  refine kx_iload_n 30 F 1 dX2_compose_29 rfl rfl rfl ?_
  refine kx_bipush 32 F dX2_compose_30 (by decide) rfl ?_
  refine kx_ishr 33 F (v := (zshr a1 6)) dX2_compose_32 rfl rfl ?_
  have h_12 := zshr_rng a1 6
  refine kx_bipush 35 F dX2_compose_33 (by decide) rfl ?_
  refine kx_iand 36 F (v := (zand (zshr a1 6) 7)) dX2_compose_35 rfl rfl ?_
  have h_13 := zand_r (a := (zshr a1 6)) (b := 7) (by omega)
  refine kx_imul 37 F (v := ((zand (zshr a0 2) 73) * (zand (zshr a1 6) 7))) dX2_compose_36 rfl rfl ?_
  have h_14 : 0 ≤ ((zand (zshr a0 2) 73) * (zand (zshr a1 6) 7)) ∧ ((zand (zshr a0 2) 73) * (zand (zshr a1 6) 7)) ≤ 511 := mul_rng (a := (zand (zshr a0 2) 73)) (b := (zand (zshr a1 6) 7)) 73 7 (by omega) (by omega) (by decide)
  refine kx_ior 38 F (v := (zor (zor ((zand a0 73) * (zand a1 7)) ((zand (zshr a0 1) 73) * (zand (zshr a1 3) 7))) ((zand (zshr a0 2) 73) * (zand (zshr a1 6) 7)))) dX2_compose_37 rfl rfl ?_
  have h_15 : 0 ≤ (zor (zor ((zand a0 73) * (zand a1 7)) ((zand (zshr a0 1) 73) * (zand (zshr a1 3) 7))) ((zand (zshr a0 2) 73) * (zand (zshr a1 6) 7))) ∧ (zor (zor ((zand a0 73) * (zand a1 7)) ((zand (zshr a0 1) 73) * (zand (zshr a1 3) 7))) ((zand (zshr a0 2) 73) * (zand (zshr a1 6) 7))) < 512 := zor_lt (a := (zor ((zand a0 73) * (zand a1 7)) ((zand (zshr a0 1) 73) * (zand (zshr a1 3) 7)))) (b := ((zand (zshr a0 2) 73) * (zand (zshr a1 6) 7))) 9 (by decide) (by omega) (by omega)
  exact kx_iret F hQ ⟨rfl, (by omega)⟩ dX2_compose_38
theorem dX2_identity_0 : decode cX2_identity 0 = .ok (.iconst 0, 1) := by decide +kernel
theorem dX2_identity_1 : decode cX2_identity 1 = .ok (.istore_n 1, 1) := by decide +kernel
theorem dX2_identity_2 : decode cX2_identity 2 = .ok (.iconst 0, 1) := by decide +kernel
theorem dX2_identity_3 : decode cX2_identity 3 = .ok (.istore_n 2, 1) := by decide +kernel
theorem dX2_identity_4 : decode cX2_identity 4 = .ok (.iload_n 2, 1) := by decide +kernel
theorem dX2_identity_5 : decode cX2_identity 5 = .ok (.iload_n 0, 1) := by decide +kernel
theorem dX2_identity_6 : decode cX2_identity 6 = .ok (.if_icmp .ge 22, 3) := by decide +kernel
theorem dX2_identity_9 : decode cX2_identity 9 = .ok (.iload_n 2, 1) := by decide +kernel
theorem dX2_identity_10 : decode cX2_identity 10 = .ok (.iconst 3, 1) := by decide +kernel
theorem dX2_identity_11 : decode cX2_identity 11 = .ok (.if_icmp .ge 17, 3) := by decide +kernel
theorem dX2_identity_14 : decode cX2_identity 14 = .ok (.iload_n 1, 1) := by decide +kernel
theorem dX2_identity_15 : decode cX2_identity 15 = .ok (.iconst 1, 1) := by decide +kernel
theorem dX2_identity_16 : decode cX2_identity 16 = .ok (.iconst 4, 1) := by decide +kernel
theorem dX2_identity_17 : decode cX2_identity 17 = .ok (.iload_n 2, 1) := by decide +kernel
theorem dX2_identity_18 : decode cX2_identity 18 = .ok (.imul, 1) := by decide +kernel
theorem dX2_identity_19 : decode cX2_identity 19 = .ok (.ishl, 1) := by decide +kernel
theorem dX2_identity_20 : decode cX2_identity 20 = .ok (.ior, 1) := by decide +kernel
theorem dX2_identity_21 : decode cX2_identity 21 = .ok (.istore_n 1, 1) := by decide +kernel
theorem dX2_identity_22 : decode cX2_identity 22 = .ok (.iinc 2 1, 3) := by decide +kernel
theorem dX2_identity_25 : decode cX2_identity 25 = .ok (.goto (-21), 3) := by decide +kernel
theorem dX2_identity_28 : decode cX2_identity 28 = .ok (.iload_n 1, 1) := by decide +kernel
theorem dX2_identity_29 : decode cX2_identity 29 = .ok (.ireturn, 1) := by decide +kernel
set_option maxHeartbeats 4000000 in
set_option maxRecDepth 100000 in
theorem c_X2_identity (G : KG) (l : Launch) (M : Mem) (a0 : Int) (hI_M : Inv false M) (hpre : -2147483648 ≤ a0 ∧ a0 ≤ 2147483647) : KC false G l yX2_identity cX2_identity 3 (some .int) (0, 0) [vI a0] M (fun A => kQi false G A (fun (r : Int) (N : Mem) => M = N ∧ (0 ≤ r ∧ r ≤ 511))) := by
  refine kx_met (lo := [some (vI a0), none, none]) (by decide) (Nat.le_of_ble_eq_true rfl) rfl ?_
  intro X F hQ
  refine kx_iconst 1 F dX2_identity_0 rfl ?_
  refine kx_istore_n 2 F 1 (lo' := [some (vI a0), some (vI 0), none]) dX2_identity_1 rfl (by decide) rfl rfl rfl ?_
  refine kx_iconst 3 F dX2_identity_2 rfl ?_
  refine kx_istore_n 4 F 2 (lo' := [some (vI a0), some (vI 0), some (vI 0)]) dX2_identity_3 rfl (by decide) rfl rfl rfl ?_
  have L_27 : ∀ (n_28 : Nat) (x1_25 : Int) (x2_26 : Int), 0 ≤ x1_25 ∧ x1_25 ≤ 511 ∧ 0 ≤ x2_26 ∧ x2_26 ≤ 3 → (3 - (x2_26)).toNat = n_28 → KJ false G X M 4 [some (vI a0), some (vI x1_25), some (vI x2_26)] [] := by
    intro n_28
    refine Nat.strongRecOn n_28 ?_
    intro n_28 ih_29 x1_25 x2_26 h_30 hm_31
    refine kx_iload_n 5 F 2 dX2_identity_4 rfl rfl rfl ?_
    refine kx_iload_n 6 F 0 dX2_identity_5 rfl rfl rfl ?_
    refine kx_icmp_ge 9 F 28 dX2_identity_6 (by decide) rfl (by omega) (by omega) (fun h_32 => ?_) (fun h_32 => ?_)
    · refine kx_iload_n 29 F 1 dX2_identity_28 rfl rfl rfl ?_
      exact kx_iret F hQ ⟨rfl, (by omega)⟩ dX2_identity_29
    · refine kx_iload_n 10 F 2 dX2_identity_9 rfl rfl rfl ?_
      refine kx_iconst 11 F dX2_identity_10 rfl ?_
      refine kx_icmp_ge 14 F 28 dX2_identity_11 (by decide) rfl (by omega) (by decide) (fun h_33 => ?_) (fun h_33 => ?_)
      · refine kx_iload_n 29 F 1 dX2_identity_28 rfl rfl rfl ?_
        exact kx_iret F hQ ⟨rfl, (by omega)⟩ dX2_identity_29
      · refine kx_iload_n 15 F 1 dX2_identity_14 rfl rfl rfl ?_
        refine kx_iconst 16 F dX2_identity_15 rfl ?_
        refine kx_iconst 17 F dX2_identity_16 rfl ?_
        refine kx_iload_n 18 F 2 dX2_identity_17 rfl rfl rfl ?_
        refine kx_imul 19 F (v := 4 * x2_26) dX2_identity_18 (by omega) rfl ?_
        refine kx_ishl 20 F (v := (zshl 1 (4 * x2_26))) dX2_identity_19 rfl rfl ?_
        have h_34 := zshl_1 (b := 4 * x2_26) 8 (by decide) (by omega)
        refine kx_ior 21 F (v := (zor x1_25 (zshl 1 (4 * x2_26)))) dX2_identity_20 rfl rfl ?_
        have h_35 : 0 ≤ (zor x1_25 (zshl 1 (4 * x2_26))) ∧ (zor x1_25 (zshl 1 (4 * x2_26))) < 512 := zor_lt (a := x1_25) (b := (zshl 1 (4 * x2_26))) 9 (by decide) (by omega) (by omega)
        refine kx_istore_n 22 F 1 (lo' := [some (vI a0), some (vI (zor x1_25 (zshl 1 (4 * x2_26)))), some (vI x2_26)]) dX2_identity_21 rfl (by decide) rfl rfl rfl ?_
        refine kx_iinc 25 F 2 (v := x2_26 + 1) (lo' := [some (vI a0), some (vI (zor x1_25 (zshl 1 (4 * x2_26)))), some (vI (x2_26 + 1))]) dX2_identity_22 rfl (by omega) (by decide) rfl rfl rfl ?_
        refine kx_goto 4 F dX2_identity_25 (by decide) ?_
        exact ih_29 _ (by omega) (zor x1_25 (zshl 1 (4 * x2_26))) (x2_26 + 1) (by omega) rfl
  exact L_27 _ 0 0 (by omega) rfl
theorem dX2_pair_0 : decode cX2_pair 0 = .ok (.iconst 1, 1) := by decide +kernel
theorem dX2_pair_1 : decode cX2_pair 1 = .ok (.iconst 3, 1) := by decide +kernel
theorem dX2_pair_2 : decode cX2_pair 2 = .ok (.iload_n 0, 1) := by decide +kernel
theorem dX2_pair_3 : decode cX2_pair 3 = .ok (.imul, 1) := by decide +kernel
theorem dX2_pair_4 : decode cX2_pair 4 = .ok (.iload_n 1, 1) := by decide +kernel
theorem dX2_pair_5 : decode cX2_pair 5 = .ok (.iadd, 1) := by decide +kernel
theorem dX2_pair_6 : decode cX2_pair 6 = .ok (.ishl, 1) := by decide +kernel
theorem dX2_pair_7 : decode cX2_pair 7 = .ok (.ireturn, 1) := by decide +kernel
set_option maxHeartbeats 4000000 in
set_option maxRecDepth 100000 in
theorem c_X2_pair (G : KG) (l : Launch) (M : Mem) (a0 : Int) (a1 : Int) (hI_M : Inv false M) (hpre : -2147483648 ≤ a0 ∧ a0 ≤ 2147483647 ∧ -2147483648 ≤ a1 ∧ a1 ≤ 2147483647 ∧ 0 ≤ a0 ∧ a0 ≤ 2 ∧ 0 ≤ a1 ∧ a1 ≤ 2) : KC false G l yX2_pair cX2_pair 2 (some .int) (0, 0) [vI a0, vI a1] M (fun A => kQi false G A (fun (r : Int) (N : Mem) => M = N ∧ (1 ≤ r ∧ r ≤ 256))) := by
  refine kx_met (lo := [some (vI a0), some (vI a1)]) (by decide) (Nat.le_of_ble_eq_true rfl) rfl ?_
  intro X F hQ
  refine kx_iconst 1 F dX2_pair_0 rfl ?_
  refine kx_iconst 2 F dX2_pair_1 rfl ?_
  refine kx_iload_n 3 F 0 dX2_pair_2 rfl rfl rfl ?_
  refine kx_imul 4 F (v := 3 * a0) dX2_pair_3 (by omega) rfl ?_
  refine kx_iload_n 5 F 1 dX2_pair_4 rfl rfl rfl ?_
  refine kx_iadd 6 F (v := 3 * a0 + a1) dX2_pair_5 rfl rfl ?_
  refine kx_ishl 7 F (v := (zshl 1 (3 * a0 + a1))) dX2_pair_6 rfl rfl ?_
  have h_1 := zshl_1 (b := 3 * a0 + a1) 8 (by decide) (by omega)
  exact kx_iret F hQ ⟨rfl, (by omega)⟩ dX2_pair_7
theorem dX2_power_0 : decode cX2_power 0 = .ok (.iconst 1, 1) := by decide +kernel
theorem dX2_power_1 : decode cX2_power 1 = .ok (.istore_n 2, 1) := by decide +kernel
theorem dX2_power_2 : decode cX2_power 2 = .ok (.iconst 0, 1) := by decide +kernel
theorem dX2_power_3 : decode cX2_power 3 = .ok (.istore_n 3, 1) := by decide +kernel
theorem dX2_power_4 : decode cX2_power 4 = .ok (.iload_n 3, 1) := by decide +kernel
theorem dX2_power_5 : decode cX2_power 5 = .ok (.iload_n 1, 1) := by decide +kernel
theorem dX2_power_6 : decode cX2_power 6 = .ok (.if_icmp .ge 19, 3) := by decide +kernel
theorem dX2_power_9 : decode cX2_power 9 = .ok (.iload_n 3, 1) := by decide +kernel
theorem dX2_power_10 : decode cX2_power 10 = .ok (.bipush 6, 2) := by decide +kernel
theorem dX2_power_12 : decode cX2_power 12 = .ok (.if_icmp .ge 13, 3) := by decide +kernel
theorem dX2_power_15 : decode cX2_power 15 = .ok (.iload_n 2, 1) := by decide +kernel
theorem dX2_power_16 : decode cX2_power 16 = .ok (.iload_n 0, 1) := by decide +kernel
theorem dX2_power_17 : decode cX2_power 17 = .ok (.imul, 1) := by decide +kernel
theorem dX2_power_18 : decode cX2_power 18 = .ok (.istore_n 2, 1) := by decide +kernel
theorem dX2_power_19 : decode cX2_power 19 = .ok (.iinc 3 1, 3) := by decide +kernel
theorem dX2_power_22 : decode cX2_power 22 = .ok (.goto (-18), 3) := by decide +kernel
theorem dX2_power_25 : decode cX2_power 25 = .ok (.iload_n 2, 1) := by decide +kernel
theorem dX2_power_26 : decode cX2_power 26 = .ok (.ireturn, 1) := by decide +kernel
set_option maxHeartbeats 4000000 in
set_option maxRecDepth 100000 in
theorem c_X2_power (G : KG) (l : Launch) (M : Mem) (a0 : Int) (a1 : Int) (hI_M : Inv false M) (hpre : -2147483648 ≤ a0 ∧ a0 ≤ 2147483647 ∧ -2147483648 ≤ a1 ∧ a1 ≤ 2147483647) : KC false G l yX2_power cX2_power 4 (some .int) (0, 0) [vI a0, vI a1] M (fun A => kQi false G A (fun (r : Int) (N : Mem) => M = N ∧ (r ≥ -2147483648 ∧ r ≤ 2147483647))) := by
  refine kx_met (lo := [some (vI a0), some (vI a1), none, none]) (by decide) (Nat.le_of_ble_eq_true rfl) rfl ?_
  intro X F hQ
  refine kx_iconst 1 F dX2_power_0 rfl ?_
  refine kx_istore_n 2 F 2 (lo' := [some (vI a0), some (vI a1), some (vI 1), none]) dX2_power_1 rfl (by decide) rfl rfl rfl ?_
  refine kx_iconst 3 F dX2_power_2 rfl ?_
  refine kx_istore_n 4 F 3 (lo' := [some (vI a0), some (vI a1), some (vI 1), some (vI 0)]) dX2_power_3 rfl (by decide) rfl rfl rfl ?_
  have L_43 : ∀ (n_44 : Nat) (x2_41 : Int) (x3_42 : Int), (-2147483648) ≤ x2_41 ∧ x2_41 ≤ 2147483647 ∧ 0 ≤ x3_42 ∧ x3_42 ≤ 6 → (6 - (x3_42)).toNat = n_44 → KJ false G X M 4 [some (vI a0), some (vI a1), some (vI x2_41), some (vI x3_42)] [] := by
    intro n_44
    refine Nat.strongRecOn n_44 ?_
    intro n_44 ih_45 x2_41 x3_42 h_46 hm_47
    refine kx_iload_n 5 F 3 dX2_power_4 rfl rfl rfl ?_
    refine kx_iload_n 6 F 1 dX2_power_5 rfl rfl rfl ?_
    refine kx_icmp_ge 9 F 25 dX2_power_6 (by decide) rfl (by omega) (by omega) (fun h_48 => ?_) (fun h_48 => ?_)
    · refine kx_iload_n 26 F 2 dX2_power_25 rfl rfl rfl ?_
      exact kx_iret F hQ ⟨rfl, (by omega)⟩ dX2_power_26
    · refine kx_iload_n 10 F 3 dX2_power_9 rfl rfl rfl ?_
      refine kx_bipush 12 F dX2_power_10 (by decide) rfl ?_
      refine kx_icmp_ge 15 F 25 dX2_power_12 (by decide) rfl (by omega) (by decide) (fun h_49 => ?_) (fun h_49 => ?_)
      · refine kx_iload_n 26 F 2 dX2_power_25 rfl rfl rfl ?_
        exact kx_iret F hQ ⟨rfl, (by omega)⟩ dX2_power_26
      · refine kx_iload_n 16 F 2 dX2_power_15 rfl rfl rfl ?_
        refine kx_iload_n 17 F 0 dX2_power_16 rfl rfl rfl ?_
        refine kx_imul 18 F (v := (x2_41 * a0)) dX2_power_17 rfl rfl ?_
        refine kx_wrapi (fun w_50 h_51 _ => ?_)
        refine kx_istore_n 19 F 2 (lo' := [some (vI a0), some (vI a1), some (vI w_50), some (vI x3_42)]) dX2_power_18 rfl (by decide) rfl rfl rfl ?_
        refine kx_iinc 22 F 3 (v := x3_42 + 1) (lo' := [some (vI a0), some (vI a1), some (vI w_50), some (vI (x3_42 + 1))]) dX2_power_19 rfl (by omega) (by decide) rfl rfl rfl ?_
        refine kx_goto 4 F dX2_power_22 (by decide) ?_
        exact ih_45 _ (by omega) w_50 (x3_42 + 1) (by omega) rfl
  exact L_43 _ 1 0 (by omega) rfl
theorem dX2_digit_0 : decode cX2_digit 0 = .ok (.iload_n 1, 1) := by decide +kernel
theorem dX2_digit_1 : decode cX2_digit 1 = .ok (.iload_n 2, 1) := by decide +kernel
theorem dX2_digit_2 : decode cX2_digit 2 = .ok (.invokestatic 11, 3) := by decide +kernel
theorem dX2_digit_5 : decode cX2_digit 5 = .ok (.istore_n 3, 1) := by decide +kernel
theorem dX2_digit_6 : decode cX2_digit 6 = .ok (.iload_n 1, 1) := by decide +kernel
theorem dX2_digit_7 : decode cX2_digit 7 = .ok (.ifCond .le 7, 3) := by decide +kernel
theorem dX2_digit_10 : decode cX2_digit 10 = .ok (.iload_n 3, 1) := by decide +kernel
theorem dX2_digit_11 : decode cX2_digit 11 = .ok (.ifCond .gt 5, 3) := by decide +kernel
theorem dX2_digit_14 : decode cX2_digit 14 = .ok (.iconst 0, 1) := by decide +kernel
theorem dX2_digit_15 : decode cX2_digit 15 = .ok (.ireturn, 1) := by decide +kernel
theorem dX2_digit_16 : decode cX2_digit 16 = .ok (.iload_n 0, 1) := by decide +kernel
theorem dX2_digit_17 : decode cX2_digit 17 = .ok (.iload_n 3, 1) := by decide +kernel
theorem dX2_digit_18 : decode cX2_digit 18 = .ok (.idiv, 1) := by decide +kernel
theorem dX2_digit_19 : decode cX2_digit 19 = .ok (.iload_n 1, 1) := by decide +kernel
theorem dX2_digit_20 : decode cX2_digit 20 = .ok (.irem, 1) := by decide +kernel
theorem dX2_digit_21 : decode cX2_digit 21 = .ok (.ireturn, 1) := by decide +kernel
set_option maxHeartbeats 4000000 in
set_option maxRecDepth 100000 in
theorem c_X2_digit (G : KG) (l : Launch) (M : Mem) (a0 : Int) (a1 : Int) (a2 : Int) (hI_M : Inv false M) (hpre : -2147483648 ≤ a0 ∧ a0 ≤ 2147483647 ∧ -2147483648 ≤ a1 ∧ a1 ≤ 2147483647 ∧ -2147483648 ≤ a2 ∧ a2 ≤ 2147483647) : KC false G l yX2_digit cX2_digit 4 (some .int) (1, 23) [vI a0, vI a1, vI a2] M (fun A => kQi false G A (fun (r : Int) (N : Mem) => M = N ∧ (r ≥ -2147483646 ∧ r ≤ 2147483646))) := by
  refine kx_met (lo := [some (vI a0), some (vI a1), some (vI a2), none]) (by decide) (Nat.le_of_ble_eq_true rfl) rfl ?_
  intro X F hQ
  refine kx_iload_n 1 F 1 dX2_digit_0 rfl rfl rfl ?_
  refine kx_iload_n 2 F 2 dX2_digit_1 rfl rfl rfl ?_
  refine kx_Si 5 F (As := [vI a1, vI a2]) (st := []) sd_X2_11 (c_X2_power G l M a1 a2 hI_M (by omega)) ⟨by decide, by decide⟩ rfl rfl (Nat.le_of_ble_eq_true rfl) dX2_digit_2 rfl ?_
  intro r_1 N_2 q_3
  obtain ⟨rfl, q_3c⟩ := q_3
  refine kx_istore_n 6 F 3 (lo' := [some (vI a0), some (vI a1), some (vI a2), some (vI r_1)]) dX2_digit_5 rfl (by decide) rfl rfl rfl ?_
  refine kx_iload_n 7 F 1 dX2_digit_6 rfl rfl rfl ?_
  refine kx_if_le 10 F 14 dX2_digit_7 (by decide) rfl (by omega) (fun h_4 => ?_) (fun h_4 => ?_)
  · refine kx_iconst 15 F dX2_digit_14 rfl ?_
    exact kx_iret F hQ ⟨rfl, (by omega)⟩ dX2_digit_15
  · refine kx_iload_n 11 F 3 dX2_digit_10 rfl rfl rfl ?_
    refine kx_if_gt 14 F 16 dX2_digit_11 (by decide) rfl (by omega) (fun h_5 => ?_) (fun h_5 => ?_)
    · refine kx_iload_n 17 F 0 dX2_digit_16 rfl rfl rfl ?_
      refine kx_iload_n 18 F 3 dX2_digit_17 rfl rfl rfl ?_
      refine kx_idivf 19 F dX2_digit_18 (by omega) rfl (fun w_6 h_7 => ?_)
      refine kx_iload_n 20 F 1 dX2_digit_19 rfl rfl rfl ?_
      refine kx_iremf 21 F dX2_digit_20 (by omega) rfl (fun w_8 h_9 => ?_)
      exact kx_iret F hQ ⟨rfl, (by omega)⟩ dX2_digit_21
    · refine kx_iconst 15 F dX2_digit_14 rfl ?_
      exact kx_iret F hQ ⟨rfl, (by omega)⟩ dX2_digit_15
theorem dX0_hasState_0 : decode cX0_hasState 0 = .ok (.iload_n 1, 1) := by decide +kernel
theorem dX0_hasState_1 : decode cX0_hasState 1 = .ok (.ifCond .lt 15, 3) := by decide +kernel
theorem dX0_hasState_4 : decode cX0_hasState 4 = .ok (.iload_n 1, 1) := by decide +kernel
theorem dX0_hasState_5 : decode cX0_hasState 5 = .ok (.aload_n 0, 1) := by decide +kernel
theorem dX0_hasState_6 : decode cX0_hasState 6 = .ok (.getfield 34, 3) := by decide +kernel
theorem dX0_hasState_9 : decode cX0_hasState 9 = .ok (.if_icmp .ge 7, 3) := by decide +kernel
theorem dX0_hasState_12 : decode cX0_hasState 12 = .ok (.iconst 1, 1) := by decide +kernel
theorem dX0_hasState_13 : decode cX0_hasState 13 = .ok (.goto 4, 3) := by decide +kernel
theorem dX0_hasState_16 : decode cX0_hasState 16 = .ok (.iconst 0, 1) := by decide +kernel
theorem dX0_hasState_17 : decode cX0_hasState 17 = .ok (.ireturn, 1) := by decide +kernel
set_option maxHeartbeats 4000000 in
set_option maxRecDepth 100000 in
theorem c_X0_hasState (G : KG) (l : Launch) (M : Mem) (c0 : Int) (a1 : Int) (hI_M : Inv false M) (hk_c0 : kd c0 = 1) (hpre : -2147483648 ≤ a1 ∧ a1 ≤ 2147483647) : KC false G l yX0_hasState cX0_hasState 2 (some .boolean) (0, 0) [vR G c0, vI a1] M (fun A => kQi false G A (fun (r : Int) (N : Mem) => M = N ∧ ((r = 1 ∧ 0 ≤ a1 ∧ a1 < (M c0 0)) ∨ (r = 0)))) := by
  refine kx_met (lo := [some (vR G c0), some (vI a1)]) (by decide) (Nat.le_of_ble_eq_true rfl) rfl ?_
  intro X F hQ
  refine kx_iload_n 1 F 1 dX0_hasState_0 rfl rfl rfl ?_
  refine kx_if_lt 4 F 16 dX0_hasState_1 (by decide) rfl (by omega) (fun h_1 => ?_) (fun h_1 => ?_)
  · refine kx_iconst 17 F dX0_hasState_16 rfl ?_
    have h_2 := Inv.g hI_M hk_c0 rfl 0 (a := 0) (b := 3) rfl rfl
    exact kx_zret F hQ (by omega) ⟨rfl, (by omega)⟩ dX0_hasState_17
  · refine kx_iload_n 5 F 1 dX0_hasState_4 rfl rfl rfl ?_
    refine kx_aload_n 6 F 0 dX0_hasState_5 rfl rfl rfl ?_
    refine kx_geti 9 F fl_X0_34 hk_c0 rfl rfl (j := 0) rfl dX0_hasState_6 (v := (M c0 0)) rfl rfl ?_
    have h_3 := Inv.g hI_M hk_c0 rfl 0 (a := 0) (b := 3) rfl rfl
    refine kx_icmp_ge 12 F 16 dX0_hasState_9 (by decide) rfl (by omega) (by omega) (fun h_4 => ?_) (fun h_4 => ?_)
    · refine kx_iconst 17 F dX0_hasState_16 rfl ?_
      exact kx_zret F hQ (by omega) ⟨rfl, (by omega)⟩ dX0_hasState_17
    · refine kx_iconst 13 F dX0_hasState_12 rfl ?_
      refine kx_goto 17 F dX0_hasState_13 (by decide) ?_
      exact kx_zret F hQ (by omega) ⟨rfl, (by omega)⟩ dX0_hasState_17
theorem dX0_hasSymbol_0 : decode cX0_hasSymbol 0 = .ok (.iload_n 1, 1) := by decide +kernel
theorem dX0_hasSymbol_1 : decode cX0_hasSymbol 1 = .ok (.ifCond .lt 15, 3) := by decide +kernel
theorem dX0_hasSymbol_4 : decode cX0_hasSymbol 4 = .ok (.iload_n 1, 1) := by decide +kernel
theorem dX0_hasSymbol_5 : decode cX0_hasSymbol 5 = .ok (.aload_n 0, 1) := by decide +kernel
theorem dX0_hasSymbol_6 : decode cX0_hasSymbol 6 = .ok (.getfield 37, 3) := by decide +kernel
theorem dX0_hasSymbol_9 : decode cX0_hasSymbol 9 = .ok (.if_icmp .ge 7, 3) := by decide +kernel
theorem dX0_hasSymbol_12 : decode cX0_hasSymbol 12 = .ok (.iconst 1, 1) := by decide +kernel
theorem dX0_hasSymbol_13 : decode cX0_hasSymbol 13 = .ok (.goto 4, 3) := by decide +kernel
theorem dX0_hasSymbol_16 : decode cX0_hasSymbol 16 = .ok (.iconst 0, 1) := by decide +kernel
theorem dX0_hasSymbol_17 : decode cX0_hasSymbol 17 = .ok (.ireturn, 1) := by decide +kernel
set_option maxHeartbeats 4000000 in
set_option maxRecDepth 100000 in
theorem c_X0_hasSymbol (G : KG) (l : Launch) (M : Mem) (c0 : Int) (a1 : Int) (hI_M : Inv false M) (hk_c0 : kd c0 = 1) (hpre : -2147483648 ≤ a1 ∧ a1 ≤ 2147483647) : KC false G l yX0_hasSymbol cX0_hasSymbol 2 (some .boolean) (0, 0) [vR G c0, vI a1] M (fun A => kQi false G A (fun (r : Int) (N : Mem) => M = N ∧ ((r = 1 ∧ 0 ≤ a1 ∧ a1 < (M c0 1)) ∨ (r = 0)))) := by
  refine kx_met (lo := [some (vR G c0), some (vI a1)]) (by decide) (Nat.le_of_ble_eq_true rfl) rfl ?_
  intro X F hQ
  refine kx_iload_n 1 F 1 dX0_hasSymbol_0 rfl rfl rfl ?_
  refine kx_if_lt 4 F 16 dX0_hasSymbol_1 (by decide) rfl (by omega) (fun h_1 => ?_) (fun h_1 => ?_)
  · refine kx_iconst 17 F dX0_hasSymbol_16 rfl ?_
    have h_2 := Inv.g hI_M hk_c0 rfl 1 (a := 0) (b := 3) rfl rfl
    exact kx_zret F hQ (by omega) ⟨rfl, (by omega)⟩ dX0_hasSymbol_17
  · refine kx_iload_n 5 F 1 dX0_hasSymbol_4 rfl rfl rfl ?_
    refine kx_aload_n 6 F 0 dX0_hasSymbol_5 rfl rfl rfl ?_
    refine kx_geti 9 F fl_X0_37 hk_c0 rfl rfl (j := 1) rfl dX0_hasSymbol_6 (v := (M c0 1)) rfl rfl ?_
    have h_3 := Inv.g hI_M hk_c0 rfl 1 (a := 0) (b := 3) rfl rfl
    refine kx_icmp_ge 12 F 16 dX0_hasSymbol_9 (by decide) rfl (by omega) (by omega) (fun h_4 => ?_) (fun h_4 => ?_)
    · refine kx_iconst 17 F dX0_hasSymbol_16 rfl ?_
      exact kx_zret F hQ (by omega) ⟨rfl, (by omega)⟩ dX0_hasSymbol_17
    · refine kx_iconst 13 F dX0_hasSymbol_12 rfl ?_
      refine kx_goto 17 F dX0_hasSymbol_13 (by decide) ?_
      exact kx_zret F hQ (by omega) ⟨rfl, (by omega)⟩ dX0_hasSymbol_17
theorem dX0_hasRule_0 : decode cX0_hasRule 0 = .ok (.iload_n 1, 1) := by decide +kernel
theorem dX0_hasRule_1 : decode cX0_hasRule 1 = .ok (.ifCond .lt 15, 3) := by decide +kernel
theorem dX0_hasRule_4 : decode cX0_hasRule 4 = .ok (.iload_n 1, 1) := by decide +kernel
theorem dX0_hasRule_5 : decode cX0_hasRule 5 = .ok (.aload_n 0, 1) := by decide +kernel
theorem dX0_hasRule_6 : decode cX0_hasRule 6 = .ok (.getfield 46, 3) := by decide +kernel
theorem dX0_hasRule_9 : decode cX0_hasRule 9 = .ok (.if_icmp .ge 7, 3) := by decide +kernel
theorem dX0_hasRule_12 : decode cX0_hasRule 12 = .ok (.iconst 1, 1) := by decide +kernel
theorem dX0_hasRule_13 : decode cX0_hasRule 13 = .ok (.goto 4, 3) := by decide +kernel
theorem dX0_hasRule_16 : decode cX0_hasRule 16 = .ok (.iconst 0, 1) := by decide +kernel
theorem dX0_hasRule_17 : decode cX0_hasRule 17 = .ok (.ireturn, 1) := by decide +kernel
set_option maxHeartbeats 4000000 in
set_option maxRecDepth 100000 in
theorem c_X0_hasRule (G : KG) (l : Launch) (M : Mem) (c0 : Int) (a1 : Int) (hI_M : Inv false M) (hk_c0 : kd c0 = 1) (hpre : -2147483648 ≤ a1 ∧ a1 ≤ 2147483647) : KC false G l yX0_hasRule cX0_hasRule 2 (some .boolean) (0, 0) [vR G c0, vI a1] M (fun A => kQi false G A (fun (r : Int) (N : Mem) => M = N ∧ ((r = 1 ∧ 0 ≤ a1 ∧ a1 < (M c0 4)) ∨ (r = 0)))) := by
  refine kx_met (lo := [some (vR G c0), some (vI a1)]) (by decide) (Nat.le_of_ble_eq_true rfl) rfl ?_
  intro X F hQ
  refine kx_iload_n 1 F 1 dX0_hasRule_0 rfl rfl rfl ?_
  refine kx_if_lt 4 F 16 dX0_hasRule_1 (by decide) rfl (by omega) (fun h_1 => ?_) (fun h_1 => ?_)
  · refine kx_iconst 17 F dX0_hasRule_16 rfl ?_
    have h_2 := Inv.g hI_M hk_c0 rfl 4 (a := 0) (b := 20) rfl rfl
    exact kx_zret F hQ (by omega) ⟨rfl, (by omega)⟩ dX0_hasRule_17
  · refine kx_iload_n 5 F 1 dX0_hasRule_4 rfl rfl rfl ?_
    refine kx_aload_n 6 F 0 dX0_hasRule_5 rfl rfl rfl ?_
    refine kx_geti 9 F fl_X0_46 hk_c0 rfl rfl (j := 4) rfl dX0_hasRule_6 (v := (M c0 4)) rfl rfl ?_
    have h_3 := Inv.g hI_M hk_c0 rfl 4 (a := 0) (b := 20) rfl rfl
    refine kx_icmp_ge 12 F 16 dX0_hasRule_9 (by decide) rfl (by omega) (by omega) (fun h_4 => ?_) (fun h_4 => ?_)
    · refine kx_iconst 17 F dX0_hasRule_16 rfl ?_
      exact kx_zret F hQ (by omega) ⟨rfl, (by omega)⟩ dX0_hasRule_17
    · refine kx_iconst 13 F dX0_hasRule_12 rfl ?_
      refine kx_goto 17 F dX0_hasRule_13 (by decide) ?_
      exact kx_zret F hQ (by omega) ⟨rfl, (by omega)⟩ dX0_hasRule_17
theorem dX0_find_0 : decode cX0_find 0 = .ok (.iconst 0, 1) := by decide +kernel
theorem dX0_find_1 : decode cX0_find 1 = .ok (.istore 5, 2) := by decide +kernel
theorem dX0_find_3 : decode cX0_find 3 = .ok (.iload 5, 2) := by decide +kernel
theorem dX0_find_5 : decode cX0_find 5 = .ok (.aload_n 0, 1) := by decide +kernel
theorem dX0_find_6 : decode cX0_find 6 = .ok (.getfield 46, 3) := by decide +kernel
theorem dX0_find_9 : decode cX0_find 9 = .ok (.if_icmp .ge 57, 3) := by decide +kernel
theorem dX0_find_12 : decode cX0_find 12 = .ok (.aload_n 0, 1) := by decide +kernel
theorem dX0_find_13 : decode cX0_find 13 = .ok (.getfield 9, 3) := by decide +kernel
theorem dX0_find_16 : decode cX0_find 16 = .ok (.iload 5, 2) := by decide +kernel
theorem dX0_find_18 : decode cX0_find 18 = .ok (.iaload, 1) := by decide +kernel
theorem dX0_find_19 : decode cX0_find 19 = .ok (.iload_n 1, 1) := by decide +kernel
theorem dX0_find_20 : decode cX0_find 20 = .ok (.if_icmp .ne 40, 3) := by decide +kernel
theorem dX0_find_23 : decode cX0_find 23 = .ok (.aload_n 0, 1) := by decide +kernel
theorem dX0_find_24 : decode cX0_find 24 = .ok (.getfield 15, 3) := by decide +kernel
theorem dX0_find_27 : decode cX0_find 27 = .ok (.iload 5, 2) := by decide +kernel
theorem dX0_find_29 : decode cX0_find 29 = .ok (.iaload, 1) := by decide +kernel
theorem dX0_find_30 : decode cX0_find 30 = .ok (.iload_n 2, 1) := by decide +kernel
theorem dX0_find_31 : decode cX0_find 31 = .ok (.if_icmp .ne 29, 3) := by decide +kernel
theorem dX0_find_34 : decode cX0_find 34 = .ok (.aload_n 0, 1) := by decide +kernel
theorem dX0_find_35 : decode cX0_find 35 = .ok (.getfield 18, 3) := by decide +kernel
theorem dX0_find_38 : decode cX0_find 38 = .ok (.iload 5, 2) := by decide +kernel
theorem dX0_find_40 : decode cX0_find 40 = .ok (.iaload, 1) := by decide +kernel
theorem dX0_find_41 : decode cX0_find 41 = .ok (.iload_n 3, 1) := by decide +kernel
theorem dX0_find_42 : decode cX0_find 42 = .ok (.if_icmp .ne 18, 3) := by decide +kernel
theorem dX0_find_45 : decode cX0_find 45 = .ok (.aload_n 0, 1) := by decide +kernel
theorem dX0_find_46 : decode cX0_find 46 = .ok (.getfield 21, 3) := by decide +kernel
theorem dX0_find_49 : decode cX0_find 49 = .ok (.iload 5, 2) := by decide +kernel
theorem dX0_find_51 : decode cX0_find 51 = .ok (.iaload, 1) := by decide +kernel
theorem dX0_find_52 : decode cX0_find 52 = .ok (.iload 4, 2) := by decide +kernel
theorem dX0_find_54 : decode cX0_find 54 = .ok (.if_icmp .ne 6, 3) := by decide +kernel
theorem dX0_find_57 : decode cX0_find 57 = .ok (.iload 5, 2) := by decide +kernel
theorem dX0_find_59 : decode cX0_find 59 = .ok (.ireturn, 1) := by decide +kernel
theorem dX0_find_60 : decode cX0_find 60 = .ok (.iinc 5 1, 3) := by decide +kernel
theorem dX0_find_63 : decode cX0_find 63 = .ok (.goto (-60), 3) := by decide +kernel
theorem dX0_find_66 : decode cX0_find 66 = .ok (.iconst (-1), 1) := by decide +kernel
theorem dX0_find_67 : decode cX0_find 67 = .ok (.ireturn, 1) := by decide +kernel
set_option maxHeartbeats 4000000 in
set_option maxRecDepth 100000 in
theorem c_X0_find (G : KG) (l : Launch) (M : Mem) (c0 : Int) (a1 : Int) (a2 : Int) (a3 : Int) (a4 : Int) (hI_M : Inv false M) (hk_c0 : kd c0 = 1) (hpre : -2147483648 ≤ a1 ∧ a1 ≤ 2147483647 ∧ -2147483648 ≤ a2 ∧ a2 ≤ 2147483647 ∧ -2147483648 ≤ a3 ∧ a3 ≤ 2147483647 ∧ -2147483648 ≤ a4 ∧ a4 ≤ 2147483647) : KC false G l yX0_find cX0_find 6 (some .int) (0, 0) [vR G c0, vI a1, vI a2, vI a3, vI a4] M (fun A => kQi false G A (fun (r : Int) (N : Mem) => M = N ∧ (r ≥ -1 ∧ r ≤ 19))) := by
  refine kx_met (lo := [some (vR G c0), some (vI a1), some (vI a2), some (vI a3), some (vI a4), none]) (by decide) (Nat.le_of_ble_eq_true rfl) rfl ?_
  intro X F hQ
  refine kx_iconst 1 F dX0_find_0 rfl ?_
  refine kx_istore 3 F 5 (lo' := [some (vR G c0), some (vI a1), some (vI a2), some (vI a3), some (vI a4), some (vI 0)]) dX0_find_1 (by decide) rfl rfl rfl ?_
  have L_107 : ∀ (n_108 : Nat) (x5_106 : Int), 0 ≤ x5_106 ∧ x5_106 ≤ 20 → (20 - (x5_106)).toNat = n_108 → KJ false G X M 3 [some (vR G c0), some (vI a1), some (vI a2), some (vI a3), some (vI a4), some (vI x5_106)] [] := by
    intro n_108
    refine Nat.strongRecOn n_108 ?_
    intro n_108 ih_109 x5_106 h_110 hm_111
    refine kx_iload 5 F 5 dX0_find_3 rfl rfl ?_
    refine kx_aload_n 6 F 0 dX0_find_5 rfl rfl rfl ?_
    refine kx_geti 9 F fl_X0_46 hk_c0 rfl rfl (j := 4) rfl dX0_find_6 (v := (M c0 4)) rfl rfl ?_
    have h_112 := Inv.g hI_M hk_c0 rfl 4 (a := 0) (b := 20) rfl rfl
    refine kx_icmp_ge 12 F 66 dX0_find_9 (by decide) rfl (by omega) (by omega) (fun h_113 => ?_) (fun h_113 => ?_)
    · refine kx_iconst 67 F dX0_find_66 rfl ?_
      exact kx_iret F hQ ⟨rfl, (by omega)⟩ dX0_find_67
    · refine kx_aload_n 13 F 0 dX0_find_12 rfl rfl rfl ?_
      refine kx_getr 16 F fl_X0_9 hk_c0 rfl rfl (j := 6) rfl dX0_find_13 (v := (M c0 6)) rfl rfl ?_
      have hk_114 : kd (M c0 6) = 2 := Inv.r hI_M hk_c0 rfl 6 rfl rfl
      refine kx_iload 18 F 5 dX0_find_16 rfl rfl ?_
      refine kx_iald 19 F hk_114 rfl rfl (by omega) (by decide) dX0_find_18 (v := (M (M c0 6) x5_106)) rfl rfl ?_
      have h_115 := Inv.g hI_M hk_114 rfl x5_106 (a := 0) (b := 5) rfl rfl
      refine kx_iload_n 20 F 1 dX0_find_19 rfl rfl rfl ?_
      have J_126 : KJ false G X M 60 [some (vR G c0), some (vI a1), some (vI a2), some (vI a3), some (vI a4), some (vI x5_106)] [] := by
        refine kx_iinc 63 F 5 (v := x5_106 + 1) (lo' := [some (vR G c0), some (vI a1), some (vI a2), some (vI a3), some (vI a4), some (vI (x5_106 + 1))]) dX0_find_60 rfl (by omega) (by decide) rfl rfl rfl ?_
        refine kx_goto 3 F dX0_find_63 (by decide) ?_
        exact ih_109 _ (by omega) (x5_106 + 1) (by omega) rfl
      refine kx_icmp_ne 23 F 60 dX0_find_20 (by decide) rfl (by omega) (by omega) (fun h_128 => ?_) (fun h_128 => ?_)
      · exact J_126
      · refine kx_aload_n 24 F 0 dX0_find_23 rfl rfl rfl ?_
        refine kx_getr 27 F fl_X0_15 hk_c0 rfl rfl (j := 7) rfl dX0_find_24 (v := (M c0 7)) rfl rfl ?_
        have hk_129 : kd (M c0 7) = 3 := Inv.r hI_M hk_c0 rfl 7 rfl rfl
        refine kx_iload 29 F 5 dX0_find_27 rfl rfl ?_
        refine kx_iald 30 F hk_129 rfl rfl (by omega) (by decide) dX0_find_29 (v := (M (M c0 7) x5_106)) rfl rfl ?_
        have h_130 := Inv.g hI_M hk_129 rfl x5_106 (a := 0) (b := 2) rfl rfl
        refine kx_iload_n 31 F 2 dX0_find_30 rfl rfl rfl ?_
        refine kx_icmp_ne 34 F 60 dX0_find_31 (by decide) rfl (by omega) (by omega) (fun h_131 => ?_) (fun h_131 => ?_)
        · exact J_126
        · refine kx_aload_n 35 F 0 dX0_find_34 rfl rfl rfl ?_
          refine kx_getr 38 F fl_X0_18 hk_c0 rfl rfl (j := 8) rfl dX0_find_35 (v := (M c0 8)) rfl rfl ?_
          have hk_132 : kd (M c0 8) = 4 := Inv.r hI_M hk_c0 rfl 8 rfl rfl
          refine kx_iload 40 F 5 dX0_find_38 rfl rfl ?_
          refine kx_iald 41 F hk_132 rfl rfl (by omega) (by decide) dX0_find_40 (v := (M (M c0 8) x5_106)) rfl rfl ?_
          have h_133 := Inv.g hI_M hk_132 rfl x5_106 (a := 0) (b := 2) rfl rfl
          refine kx_iload_n 42 F 3 dX0_find_41 rfl rfl rfl ?_
          refine kx_icmp_ne 45 F 60 dX0_find_42 (by decide) rfl (by omega) (by omega) (fun h_134 => ?_) (fun h_134 => ?_)
          · exact J_126
          · refine kx_aload_n 46 F 0 dX0_find_45 rfl rfl rfl ?_
            refine kx_getr 49 F fl_X0_21 hk_c0 rfl rfl (j := 9) rfl dX0_find_46 (v := (M c0 9)) rfl rfl ?_
            have hk_135 : kd (M c0 9) = 5 := Inv.r hI_M hk_c0 rfl 9 rfl rfl
            refine kx_iload 51 F 5 dX0_find_49 rfl rfl ?_
            refine kx_iald 52 F hk_135 rfl rfl (by omega) (by decide) dX0_find_51 (v := (M (M c0 9) x5_106)) rfl rfl ?_
            have h_136 := Inv.g hI_M hk_135 rfl x5_106 (a := (-1)) (b := 2) rfl rfl
            refine kx_iload 54 F 4 dX0_find_52 rfl rfl ?_
            refine kx_icmp_ne 57 F 60 dX0_find_54 (by decide) rfl (by omega) (by omega) (fun h_137 => ?_) (fun h_137 => ?_)
            · exact J_126
            · refine kx_iload 59 F 5 dX0_find_57 rfl rfl ?_
              exact kx_iret F hQ ⟨rfl, (by omega)⟩ dX0_find_59
  exact L_107 _ 0 (by omega) rfl
theorem dX0_note_0 : decode cX0_note 0 = .ok (.aload_n 0, 1) := by decide +kernel
theorem dX0_note_1 : decode cX0_note 1 = .ok (.getfield 15, 3) := by decide +kernel
theorem dX0_note_4 : decode cX0_note 4 = .ok (.iload_n 1, 1) := by decide +kernel
theorem dX0_note_5 : decode cX0_note 5 = .ok (.iaload, 1) := by decide +kernel
theorem dX0_note_6 : decode cX0_note 6 = .ok (.aload_n 0, 1) := by decide +kernel
theorem dX0_note_7 : decode cX0_note 7 = .ok (.getfield 18, 3) := by decide +kernel
theorem dX0_note_10 : decode cX0_note 10 = .ok (.iload_n 1, 1) := by decide +kernel
theorem dX0_note_11 : decode cX0_note 11 = .ok (.iaload, 1) := by decide +kernel
theorem dX0_note_12 : decode cX0_note 12 = .ok (.invokestatic 72, 3) := by decide +kernel
theorem dX0_note_15 : decode cX0_note 15 = .ok (.istore_n 2, 1) := by decide +kernel
theorem dX0_note_16 : decode cX0_note 16 = .ok (.aload_n 0, 1) := by decide +kernel
theorem dX0_note_17 : decode cX0_note 17 = .ok (.getfield 21, 3) := by decide +kernel
theorem dX0_note_20 : decode cX0_note 20 = .ok (.iload_n 1, 1) := by decide +kernel
theorem dX0_note_21 : decode cX0_note 21 = .ok (.iaload, 1) := by decide +kernel
theorem dX0_note_22 : decode cX0_note 22 = .ok (.iconst (-1), 1) := by decide +kernel
theorem dX0_note_23 : decode cX0_note 23 = .ok (.if_icmp .eq 27, 3) := by decide +kernel
theorem dX0_note_26 : decode cX0_note 26 = .ok (.aload_n 0, 1) := by decide +kernel
theorem dX0_note_27 : decode cX0_note 27 = .ok (.getfield 27, 3) := by decide +kernel
theorem dX0_note_30 : decode cX0_note 30 = .ok (.aload_n 0, 1) := by decide +kernel
theorem dX0_note_31 : decode cX0_note 31 = .ok (.getfield 9, 3) := by decide +kernel
theorem dX0_note_34 : decode cX0_note 34 = .ok (.iload_n 1, 1) := by decide +kernel
theorem dX0_note_35 : decode cX0_note 35 = .ok (.iaload, 1) := by decide +kernel
theorem dX0_note_36 : decode cX0_note 36 = .ok (.iconst 3, 1) := by decide +kernel
theorem dX0_note_37 : decode cX0_note 37 = .ok (.imul, 1) := by decide +kernel
theorem dX0_note_38 : decode cX0_note 38 = .ok (.aload_n 0, 1) := by decide +kernel
theorem dX0_note_39 : decode cX0_note 39 = .ok (.getfield 21, 3) := by decide +kernel
theorem dX0_note_42 : decode cX0_note 42 = .ok (.iload_n 1, 1) := by decide +kernel
theorem dX0_note_43 : decode cX0_note 43 = .ok (.iaload, 1) := by decide +kernel
theorem dX0_note_44 : decode cX0_note 44 = .ok (.iadd, 1) := by decide +kernel
theorem dX0_note_45 : decode cX0_note 45 = .ok (.dup2, 1) := by decide +kernel
theorem dX0_note_46 : decode cX0_note 46 = .ok (.iaload, 1) := by decide +kernel
theorem dX0_note_47 : decode cX0_note 47 = .ok (.iload_n 2, 1) := by decide +kernel
theorem dX0_note_48 : decode cX0_note 48 = .ok (.ior, 1) := by decide +kernel
theorem dX0_note_49 : decode cX0_note 49 = .ok (.iastore, 1) := by decide +kernel
theorem dX0_note_50 : decode cX0_note 50 = .ok (.aload_n 0, 1) := by decide +kernel
theorem dX0_note_51 : decode cX0_note 51 = .ok (.getfield 21, 3) := by decide +kernel
theorem dX0_note_54 : decode cX0_note 54 = .ok (.iload_n 1, 1) := by decide +kernel
theorem dX0_note_55 : decode cX0_note 55 = .ok (.iaload, 1) := by decide +kernel
theorem dX0_note_56 : decode cX0_note 56 = .ok (.iconst (-1), 1) := by decide +kernel
theorem dX0_note_57 : decode cX0_note 57 = .ok (.if_icmp .eq 16, 3) := by decide +kernel
theorem dX0_note_60 : decode cX0_note 60 = .ok (.aload_n 0, 1) := by decide +kernel
theorem dX0_note_61 : decode cX0_note 61 = .ok (.getfield 9, 3) := by decide +kernel
theorem dX0_note_64 : decode cX0_note 64 = .ok (.iload_n 1, 1) := by decide +kernel
theorem dX0_note_65 : decode cX0_note 65 = .ok (.iaload, 1) := by decide +kernel
theorem dX0_note_66 : decode cX0_note 66 = .ok (.aload_n 0, 1) := by decide +kernel
theorem dX0_note_67 : decode cX0_note 67 = .ok (.getfield 30, 3) := by decide +kernel
theorem dX0_note_70 : decode cX0_note 70 = .ok (.if_icmp .ge 18, 3) := by decide +kernel
theorem dX0_note_73 : decode cX0_note 73 = .ok (.aload_n 0, 1) := by decide +kernel
theorem dX0_note_74 : decode cX0_note 74 = .ok (.getfield 24, 3) := by decide +kernel
theorem dX0_note_77 : decode cX0_note 77 = .ok (.aload_n 0, 1) := by decide +kernel
theorem dX0_note_78 : decode cX0_note 78 = .ok (.getfield 9, 3) := by decide +kernel
theorem dX0_note_81 : decode cX0_note 81 = .ok (.iload_n 1, 1) := by decide +kernel
theorem dX0_note_82 : decode cX0_note 82 = .ok (.iaload, 1) := by decide +kernel
theorem dX0_note_83 : decode cX0_note 83 = .ok (.dup2, 1) := by decide +kernel
theorem dX0_note_84 : decode cX0_note 84 = .ok (.iaload, 1) := by decide +kernel
theorem dX0_note_85 : decode cX0_note 85 = .ok (.iload_n 2, 1) := by decide +kernel
theorem dX0_note_86 : decode cX0_note 86 = .ok (.ior, 1) := by decide +kernel
theorem dX0_note_87 : decode cX0_note 87 = .ok (.iastore, 1) := by decide +kernel
theorem dX0_note_88 : decode cX0_note 88 = .ok (.return_, 1) := by decide +kernel
abbrev f_c_X0_note : List (Nat × Int) := [(6, -1), (7, -1)]
set_option maxHeartbeats 4000000 in
set_option maxRecDepth 100000 in
theorem c_X0_note (G : KG) (l : Launch) (M : Mem) (c0 : Int) (a1 : Int) (hI_M : Inv false M) (hk_c0 : kd c0 = 1) (hpre : -2147483648 ≤ a1 ∧ a1 ≤ 2147483647 ∧ 0 ≤ a1 ∧ a1 ≤ 19) : KC false G l yX0_note cX0_note 3 none (1, 21) [vR G c0, vI a1] M (fun A => kQv false G A (fun (N : Mem) => Inv false N ∧ Fr f_c_X0_note M N)) := by
  refine kx_met (lo := [some (vR G c0), some (vI a1), none]) (by decide) (Nat.le_of_ble_eq_true rfl) rfl ?_
  intro X F hQ
  have hF_M : Fr f_c_X0_note M M := Fr.rf _ _
  refine kx_aload_n 1 F 0 dX0_note_0 rfl rfl rfl ?_
  refine kx_getr 4 F fl_X0_15 hk_c0 rfl rfl (j := 7) rfl dX0_note_1 (v := (M c0 7)) rfl rfl ?_
  have hk_1 : kd (M c0 7) = 3 := Inv.r hI_M hk_c0 rfl 7 rfl rfl
  refine kx_iload_n 5 F 1 dX0_note_4 rfl rfl rfl ?_
  refine kx_iald 6 F hk_1 rfl rfl (by omega) (by decide) dX0_note_5 (v := (M (M c0 7) a1)) rfl rfl ?_
  have h_2 := Inv.g hI_M hk_1 rfl a1 (a := 0) (b := 2) rfl rfl
  refine kx_aload_n 7 F 0 dX0_note_6 rfl rfl rfl ?_
  refine kx_getr 10 F fl_X0_18 hk_c0 rfl rfl (j := 8) rfl dX0_note_7 (v := (M c0 8)) rfl rfl ?_
  have hk_3 : kd (M c0 8) = 4 := Inv.r hI_M hk_c0 rfl 8 rfl rfl
  refine kx_iload_n 11 F 1 dX0_note_10 rfl rfl rfl ?_
  refine kx_iald 12 F hk_3 rfl rfl (by omega) (by decide) dX0_note_11 (v := (M (M c0 8) a1)) rfl rfl ?_
  have h_4 := Inv.g hI_M hk_3 rfl a1 (a := 0) (b := 2) rfl rfl
  refine kx_Si 15 F (As := [vI (M (M c0 7) a1), vI (M (M c0 8) a1)]) (st := []) sd_X0_72 (c_X2_pair G l M (M (M c0 7) a1) (M (M c0 8) a1) hI_M (by omega)) ⟨by decide, by decide⟩ rfl rfl (Nat.le_of_ble_eq_true rfl) dX0_note_12 rfl ?_
  intro r_5 N_6 q_7
  obtain ⟨rfl, q_7c⟩ := q_7
  refine kx_istore_n 16 F 2 (lo' := [some (vR G c0), some (vI a1), some (vI r_5)]) dX0_note_15 rfl (by decide) rfl rfl rfl ?_
  refine kx_aload_n 17 F 0 dX0_note_16 rfl rfl rfl ?_
  refine kx_getr 20 F fl_X0_21 hk_c0 rfl rfl (j := 9) rfl dX0_note_17 (v := (M c0 9)) rfl rfl ?_
  have hk_8 : kd (M c0 9) = 5 := Inv.r hI_M hk_c0 rfl 9 rfl rfl
  refine kx_iload_n 21 F 1 dX0_note_20 rfl rfl rfl ?_
  refine kx_iald 22 F hk_8 rfl rfl (by omega) (by decide) dX0_note_21 (v := (M (M c0 9) a1)) rfl rfl ?_
  have h_9 := Inv.g hI_M hk_8 rfl a1 (a := (-1)) (b := 2) rfl rfl
  refine kx_iconst 23 F dX0_note_22 rfl ?_
  have J_18 : ∀ (N_17 : Mem), Inv false N_17 → Fr f_c_X0_note M N_17 → KJ false G X N_17 50 [some (vR G c0), some (vI a1), some (vI r_5)] [] := by
    intro N_17 hI_N_17 hF_N_17
    refine kx_aload_n 51 F 0 dX0_note_50 rfl rfl rfl ?_
    refine kx_getr 54 F fl_X0_21 hk_c0 rfl rfl (j := 9) rfl dX0_note_51 (v := (M c0 9)) (by rw [Fr.e hF_N_17 hk_c0 _ rfl]) rfl ?_
    refine kx_iload_n 55 F 1 dX0_note_54 rfl rfl rfl ?_
    refine kx_iald 56 F hk_8 rfl rfl (by omega) (by decide) dX0_note_55 (v := (M (M c0 9) a1)) (by rw [Fr.e hF_N_17 hk_8 _ rfl]) rfl ?_
    refine kx_iconst 57 F dX0_note_56 rfl ?_
    refine kx_icmp_eq 60 F 73 dX0_note_57 (by decide) rfl (by omega) (by decide) (fun h_20 => ?_) (fun h_20 => ?_)
    · refine kx_aload_n 74 F 0 dX0_note_73 rfl rfl rfl ?_
      refine kx_getr 77 F fl_X0_24 hk_c0 rfl rfl (j := 10) rfl dX0_note_74 (v := (M c0 10)) (by rw [Fr.e hF_N_17 hk_c0 _ rfl]) rfl ?_
      have hk_21 : kd (M c0 10) = 6 := Inv.r hI_M hk_c0 rfl 10 rfl rfl
      refine kx_aload_n 78 F 0 dX0_note_77 rfl rfl rfl ?_
      refine kx_getr 81 F fl_X0_9 hk_c0 rfl rfl (j := 6) rfl dX0_note_78 (v := (M c0 6)) (by rw [Fr.e hF_N_17 hk_c0 _ rfl]) rfl ?_
      have hk_22 : kd (M c0 6) = 2 := Inv.r hI_M hk_c0 rfl 6 rfl rfl
      refine kx_iload_n 82 F 1 dX0_note_81 rfl rfl rfl ?_
      refine kx_iald 83 F hk_22 rfl rfl (by omega) (by decide) dX0_note_82 (v := (M (M c0 6) a1)) (by rw [Fr.e hF_N_17 hk_22 _ rfl]) rfl ?_
      have h_23 := Inv.g hI_M hk_22 rfl a1 (a := 0) (b := 5) rfl rfl
      refine kx_dup2 84 F dX0_note_83 rfl rfl rfl ?_
      refine kx_iald 85 F hk_21 rfl rfl (by omega) (by decide) dX0_note_84 (v := (N_17 (M c0 10) (M (M c0 6) a1))) rfl rfl ?_
      have h_24 := Inv.g hI_N_17 hk_21 rfl (M (M c0 6) a1) (a := 0) (b := 511) rfl rfl
      refine kx_iload_n 86 F 2 dX0_note_85 rfl rfl rfl ?_
      refine kx_ior 87 F (v := (zor (N_17 (M c0 10) (M (M c0 6) a1)) r_5)) dX0_note_86 rfl rfl ?_
      have h_25 : 0 ≤ (zor (N_17 (M c0 10) (M (M c0 6) a1)) r_5) ∧ (zor (N_17 (M c0 10) (M (M c0 6) a1)) r_5) < 512 := zor_lt (a := (N_17 (M c0 10) (M (M c0 6) a1))) (b := r_5) 9 (by decide) (by omega) (by omega)
      refine kx_iast 88 F hk_21 rfl rfl (by omega) (by decide) dX0_note_87 rfl ?_
      intro N_26 hM_N_26
      have hI_N_26 : Inv false N_26 := Inv.u hI_N_17 hM_N_26 hk_21 (a := 0) (b := 511) rfl rfl rfl (by omega)
      have hF_N_26 : Fr f_c_X0_note M N_26 := Fr.u hF_N_17 hM_N_26 hk_21 rfl
      exact kx_vret F hQ ⟨hI_N_26, hF_N_26⟩ dX0_note_88
    · refine kx_aload_n 61 F 0 dX0_note_60 rfl rfl rfl ?_
      refine kx_getr 64 F fl_X0_9 hk_c0 rfl rfl (j := 6) rfl dX0_note_61 (v := (M c0 6)) (by rw [Fr.e hF_N_17 hk_c0 _ rfl]) rfl ?_
      have hk_27 : kd (M c0 6) = 2 := Inv.r hI_M hk_c0 rfl 6 rfl rfl
      refine kx_iload_n 65 F 1 dX0_note_64 rfl rfl rfl ?_
      refine kx_iald 66 F hk_27 rfl rfl (by omega) (by decide) dX0_note_65 (v := (M (M c0 6) a1)) (by rw [Fr.e hF_N_17 hk_27 _ rfl]) rfl ?_
      have h_28 := Inv.g hI_M hk_27 rfl a1 (a := 0) (b := 5) rfl rfl
      refine kx_aload_n 67 F 0 dX0_note_66 rfl rfl rfl ?_
      refine kx_geti 70 F fl_X0_30 hk_c0 rfl rfl (j := 5) rfl dX0_note_67 (v := (M c0 5)) (by rw [Fr.e hF_N_17 hk_c0 _ rfl]) rfl ?_
      have h_29 := Inv.g hI_M hk_c0 rfl 5 (a := 0) (b := 2) rfl rfl
      refine kx_icmp_ge 73 F 88 dX0_note_70 (by decide) rfl (by omega) (by omega) (fun h_30 => ?_) (fun h_30 => ?_)
      · exact kx_vret F hQ ⟨hI_N_17, hF_N_17⟩ dX0_note_88
      · refine kx_aload_n 74 F 0 dX0_note_73 rfl rfl rfl ?_
        refine kx_getr 77 F fl_X0_24 hk_c0 rfl rfl (j := 10) rfl dX0_note_74 (v := (M c0 10)) (by rw [Fr.e hF_N_17 hk_c0 _ rfl]) rfl ?_
        have hk_31 : kd (M c0 10) = 6 := Inv.r hI_M hk_c0 rfl 10 rfl rfl
        refine kx_aload_n 78 F 0 dX0_note_77 rfl rfl rfl ?_
        refine kx_getr 81 F fl_X0_9 hk_c0 rfl rfl (j := 6) rfl dX0_note_78 (v := (M c0 6)) (by rw [Fr.e hF_N_17 hk_c0 _ rfl]) rfl ?_
        refine kx_iload_n 82 F 1 dX0_note_81 rfl rfl rfl ?_
        refine kx_iald 83 F hk_27 rfl rfl (by omega) (by decide) dX0_note_82 (v := (M (M c0 6) a1)) (by rw [Fr.e hF_N_17 hk_27 _ rfl]) rfl ?_
        refine kx_dup2 84 F dX0_note_83 rfl rfl rfl ?_
        refine kx_iald 85 F hk_31 rfl rfl (by omega) (by decide) dX0_note_84 (v := (N_17 (M c0 10) (M (M c0 6) a1))) rfl rfl ?_
        have h_32 := Inv.g hI_N_17 hk_31 rfl (M (M c0 6) a1) (a := 0) (b := 511) rfl rfl
        refine kx_iload_n 86 F 2 dX0_note_85 rfl rfl rfl ?_
        refine kx_ior 87 F (v := (zor (N_17 (M c0 10) (M (M c0 6) a1)) r_5)) dX0_note_86 rfl rfl ?_
        have h_33 : 0 ≤ (zor (N_17 (M c0 10) (M (M c0 6) a1)) r_5) ∧ (zor (N_17 (M c0 10) (M (M c0 6) a1)) r_5) < 512 := zor_lt (a := (N_17 (M c0 10) (M (M c0 6) a1))) (b := r_5) 9 (by decide) (by omega) (by omega)
        refine kx_iast 88 F hk_31 rfl rfl (by omega) (by decide) dX0_note_87 rfl ?_
        intro N_34 hM_N_34
        have hI_N_34 : Inv false N_34 := Inv.u hI_N_17 hM_N_34 hk_31 (a := 0) (b := 511) rfl rfl rfl (by omega)
        have hF_N_34 : Fr f_c_X0_note M N_34 := Fr.u hF_N_17 hM_N_34 hk_31 rfl
        exact kx_vret F hQ ⟨hI_N_34, hF_N_34⟩ dX0_note_88
  refine kx_icmp_eq 26 F 50 dX0_note_23 (by decide) rfl (by omega) (by decide) (fun h_35 => ?_) (fun h_35 => ?_)
  · exact J_18 M hI_M hF_M
  · refine kx_aload_n 27 F 0 dX0_note_26 rfl rfl rfl ?_
    refine kx_getr 30 F fl_X0_27 hk_c0 rfl rfl (j := 11) rfl dX0_note_27 (v := (M c0 11)) rfl rfl ?_
    have hk_36 : kd (M c0 11) = 7 := Inv.r hI_M hk_c0 rfl 11 rfl rfl
    refine kx_aload_n 31 F 0 dX0_note_30 rfl rfl rfl ?_
    refine kx_getr 34 F fl_X0_9 hk_c0 rfl rfl (j := 6) rfl dX0_note_31 (v := (M c0 6)) rfl rfl ?_
    have hk_37 : kd (M c0 6) = 2 := Inv.r hI_M hk_c0 rfl 6 rfl rfl
    refine kx_iload_n 35 F 1 dX0_note_34 rfl rfl rfl ?_
    refine kx_iald 36 F hk_37 rfl rfl (by omega) (by decide) dX0_note_35 (v := (M (M c0 6) a1)) rfl rfl ?_
    have h_38 := Inv.g hI_M hk_37 rfl a1 (a := 0) (b := 5) rfl rfl
    refine kx_iconst 37 F dX0_note_36 rfl ?_
    refine kx_imul 38 F (v := 3 * (M (M c0 6) a1)) dX0_note_37 (by omega) rfl ?_
    refine kx_aload_n 39 F 0 dX0_note_38 rfl rfl rfl ?_
    refine kx_getr 42 F fl_X0_21 hk_c0 rfl rfl (j := 9) rfl dX0_note_39 (v := (M c0 9)) rfl rfl ?_
    refine kx_iload_n 43 F 1 dX0_note_42 rfl rfl rfl ?_
    refine kx_iald 44 F hk_8 rfl rfl (by omega) (by decide) dX0_note_43 (v := (M (M c0 9) a1)) rfl rfl ?_
    refine kx_iadd 45 F (v := 3 * (M (M c0 6) a1) + (M (M c0 9) a1)) dX0_note_44 rfl rfl ?_
    refine kx_dup2 46 F dX0_note_45 rfl rfl rfl ?_
    refine kx_iald 47 F hk_36 rfl rfl (by omega) (by decide) dX0_note_46 (v := (M (M c0 11) (3 * (M (M c0 6) a1) + (M (M c0 9) a1)))) rfl rfl ?_
    have h_39 := Inv.g hI_M hk_36 rfl (3 * (M (M c0 6) a1) + (M (M c0 9) a1)) (a := 0) (b := 511) rfl rfl
    refine kx_iload_n 48 F 2 dX0_note_47 rfl rfl rfl ?_
    refine kx_ior 49 F (v := (zor (M (M c0 11) (3 * (M (M c0 6) a1) + (M (M c0 9) a1))) r_5)) dX0_note_48 rfl rfl ?_
    have h_40 : 0 ≤ (zor (M (M c0 11) (3 * (M (M c0 6) a1) + (M (M c0 9) a1))) r_5) ∧ (zor (M (M c0 11) (3 * (M (M c0 6) a1) + (M (M c0 9) a1))) r_5) < 512 := zor_lt (a := (M (M c0 11) (3 * (M (M c0 6) a1) + (M (M c0 9) a1)))) (b := r_5) 9 (by decide) (by omega) (by omega)
    refine kx_iast 50 F hk_36 rfl rfl (by omega) (by decide) dX0_note_49 rfl ?_
    intro N_41 hM_N_41
    have hI_N_41 : Inv false N_41 := Inv.u hI_M hM_N_41 hk_36 (a := 0) (b := 511) rfl rfl rfl (by omega)
    have hF_N_41 : Fr f_c_X0_note M N_41 := Fr.u hF_M hM_N_41 hk_36 rfl
    exact J_18 N_41 hI_N_41 hF_N_41
theorem dX0_append_0 : decode cX0_append 0 = .ok (.aload_n 0, 1) := by decide +kernel
theorem dX0_append_1 : decode cX0_append 1 = .ok (.getfield 46, 3) := by decide +kernel
theorem dX0_append_4 : decode cX0_append 4 = .ok (.bipush 20, 2) := by decide +kernel
theorem dX0_append_6 : decode cX0_append 6 = .ok (.if_icmp .lt 4, 3) := by decide +kernel
theorem dX0_append_9 : decode cX0_append 9 = .ok (.return_, 1) := by decide +kernel
theorem dX0_append_10 : decode cX0_append 10 = .ok (.aload_n 0, 1) := by decide +kernel
theorem dX0_append_11 : decode cX0_append 11 = .ok (.getfield 9, 3) := by decide +kernel
theorem dX0_append_14 : decode cX0_append 14 = .ok (.aload_n 0, 1) := by decide +kernel
theorem dX0_append_15 : decode cX0_append 15 = .ok (.getfield 46, 3) := by decide +kernel
theorem dX0_append_18 : decode cX0_append 18 = .ok (.iload_n 1, 1) := by decide +kernel
theorem dX0_append_19 : decode cX0_append 19 = .ok (.iastore, 1) := by decide +kernel
theorem dX0_append_20 : decode cX0_append 20 = .ok (.aload_n 0, 1) := by decide +kernel
theorem dX0_append_21 : decode cX0_append 21 = .ok (.getfield 15, 3) := by decide +kernel
theorem dX0_append_24 : decode cX0_append 24 = .ok (.aload_n 0, 1) := by decide +kernel
theorem dX0_append_25 : decode cX0_append 25 = .ok (.getfield 46, 3) := by decide +kernel
theorem dX0_append_28 : decode cX0_append 28 = .ok (.iload_n 2, 1) := by decide +kernel
theorem dX0_append_29 : decode cX0_append 29 = .ok (.iastore, 1) := by decide +kernel
theorem dX0_append_30 : decode cX0_append 30 = .ok (.aload_n 0, 1) := by decide +kernel
theorem dX0_append_31 : decode cX0_append 31 = .ok (.getfield 18, 3) := by decide +kernel
theorem dX0_append_34 : decode cX0_append 34 = .ok (.aload_n 0, 1) := by decide +kernel
theorem dX0_append_35 : decode cX0_append 35 = .ok (.getfield 46, 3) := by decide +kernel
theorem dX0_append_38 : decode cX0_append 38 = .ok (.iload_n 3, 1) := by decide +kernel
theorem dX0_append_39 : decode cX0_append 39 = .ok (.iastore, 1) := by decide +kernel
theorem dX0_append_40 : decode cX0_append 40 = .ok (.aload_n 0, 1) := by decide +kernel
theorem dX0_append_41 : decode cX0_append 41 = .ok (.getfield 21, 3) := by decide +kernel
theorem dX0_append_44 : decode cX0_append 44 = .ok (.aload_n 0, 1) := by decide +kernel
theorem dX0_append_45 : decode cX0_append 45 = .ok (.getfield 46, 3) := by decide +kernel
theorem dX0_append_48 : decode cX0_append 48 = .ok (.iload 4, 2) := by decide +kernel
theorem dX0_append_50 : decode cX0_append 50 = .ok (.iastore, 1) := by decide +kernel
theorem dX0_append_51 : decode cX0_append 51 = .ok (.aload_n 0, 1) := by decide +kernel
theorem dX0_append_52 : decode cX0_append 52 = .ok (.dup, 1) := by decide +kernel
theorem dX0_append_53 : decode cX0_append 53 = .ok (.getfield 46, 3) := by decide +kernel
theorem dX0_append_56 : decode cX0_append 56 = .ok (.iconst 1, 1) := by decide +kernel
theorem dX0_append_57 : decode cX0_append 57 = .ok (.iadd, 1) := by decide +kernel
theorem dX0_append_58 : decode cX0_append 58 = .ok (.putfield 46, 3) := by decide +kernel
theorem dX0_append_61 : decode cX0_append 61 = .ok (.aload_n 0, 1) := by decide +kernel
theorem dX0_append_62 : decode cX0_append 62 = .ok (.aload_n 0, 1) := by decide +kernel
theorem dX0_append_63 : decode cX0_append 63 = .ok (.getfield 46, 3) := by decide +kernel
theorem dX0_append_66 : decode cX0_append 66 = .ok (.iconst 1, 1) := by decide +kernel
theorem dX0_append_67 : decode cX0_append 67 = .ok (.isub, 1) := by decide +kernel
theorem dX0_append_68 : decode cX0_append 68 = .ok (.invokevirtual 68, 3) := by decide +kernel
theorem dX0_append_71 : decode cX0_append 71 = .ok (.return_, 1) := by decide +kernel
abbrev f_c_X0_append : List (Nat × Int) := [(1, 4), (2, -1), (3, -1), (4, -1), (5, -1), (6, -1), (7, -1)]
set_option maxHeartbeats 4000000 in
set_option maxRecDepth 100000 in
theorem c_X0_append (G : KG) (l : Launch) (M : Mem) (c0 : Int) (a1 : Int) (a2 : Int) (a3 : Int) (a4 : Int) (hI_M : Inv false M) (hk_c0 : kd c0 = 1) (hpre : -2147483648 ≤ a1 ∧ a1 ≤ 2147483647 ∧ -2147483648 ≤ a2 ∧ a2 ≤ 2147483647 ∧ -2147483648 ≤ a3 ∧ a3 ≤ 2147483647 ∧ -2147483648 ≤ a4 ∧ a4 ≤ 2147483647 ∧ 0 ≤ a1 ∧ a1 ≤ 5 ∧ 0 ≤ a2 ∧ a2 ≤ 2 ∧ 0 ≤ a3 ∧ a3 ≤ 2 ∧ -1 ≤ a4 ∧ a4 ≤ 2) : KC false G l yX0_append cX0_append 5 none (2, 43) [vR G c0, vI a1, vI a2, vI a3, vI a4] M (fun A => kQv false G A (fun (N : Mem) => Inv false N ∧ Fr f_c_X0_append M N)) := by
  refine kx_met (lo := [some (vR G c0), some (vI a1), some (vI a2), some (vI a3), some (vI a4)]) (by decide) (Nat.le_of_ble_eq_true rfl) rfl ?_
  intro X F hQ
  have hF_M : Fr f_c_X0_append M M := Fr.rf _ _
  refine kx_aload_n 1 F 0 dX0_append_0 rfl rfl rfl ?_
  refine kx_geti 4 F fl_X0_46 hk_c0 rfl rfl (j := 4) rfl dX0_append_1 (v := (M c0 4)) rfl rfl ?_
  have h_1 := Inv.g hI_M hk_c0 rfl 4 (a := 0) (b := 20) rfl rfl
  refine kx_bipush 6 F dX0_append_4 (by decide) rfl ?_
  refine kx_icmp_lt 9 F 10 dX0_append_6 (by decide) rfl (by omega) (by decide) (fun h_2 => ?_) (fun h_2 => ?_)
  · refine kx_aload_n 11 F 0 dX0_append_10 rfl rfl rfl ?_
    refine kx_getr 14 F fl_X0_9 hk_c0 rfl rfl (j := 6) rfl dX0_append_11 (v := (M c0 6)) rfl rfl ?_
    have hk_3 : kd (M c0 6) = 2 := Inv.r hI_M hk_c0 rfl 6 rfl rfl
    refine kx_aload_n 15 F 0 dX0_append_14 rfl rfl rfl ?_
    refine kx_geti 18 F fl_X0_46 hk_c0 rfl rfl (j := 4) rfl dX0_append_15 (v := (M c0 4)) rfl rfl ?_
    refine kx_iload_n 19 F 1 dX0_append_18 rfl rfl rfl ?_
    refine kx_iast 20 F hk_3 rfl rfl (by omega) (by decide) dX0_append_19 rfl ?_
    intro N_4 hM_N_4
    have hI_N_4 : Inv false N_4 := Inv.u hI_M hM_N_4 hk_3 (a := 0) (b := 5) rfl rfl rfl (by omega)
    have hF_N_4 : Fr f_c_X0_append M N_4 := Fr.u hF_M hM_N_4 hk_3 rfl
    refine kx_aload_n 21 F 0 dX0_append_20 rfl rfl rfl ?_
    refine kx_getr 24 F fl_X0_15 hk_c0 rfl rfl (j := 7) rfl dX0_append_21 (v := (M c0 7)) (by rw [hM_N_4, mu_k hk_c0 hk_3 rfl]) rfl ?_
    have hk_5 : kd (M c0 7) = 3 := Inv.r hI_M hk_c0 rfl 7 rfl rfl
    refine kx_aload_n 25 F 0 dX0_append_24 rfl rfl rfl ?_
    refine kx_geti 28 F fl_X0_46 hk_c0 rfl rfl (j := 4) rfl dX0_append_25 (v := (M c0 4)) (by rw [hM_N_4, mu_k hk_c0 hk_3 rfl]) rfl ?_
    refine kx_iload_n 29 F 2 dX0_append_28 rfl rfl rfl ?_
    refine kx_iast 30 F hk_5 rfl rfl (by omega) (by decide) dX0_append_29 rfl ?_
    intro N_6 hM_N_6
    have hI_N_6 : Inv false N_6 := Inv.u hI_N_4 hM_N_6 hk_5 (a := 0) (b := 2) rfl rfl rfl (by omega)
    have hF_N_6 : Fr f_c_X0_append M N_6 := Fr.u hF_N_4 hM_N_6 hk_5 rfl
    refine kx_aload_n 31 F 0 dX0_append_30 rfl rfl rfl ?_
    refine kx_getr 34 F fl_X0_18 hk_c0 rfl rfl (j := 8) rfl dX0_append_31 (v := (M c0 8)) (by rw [hM_N_6, mu_k hk_c0 hk_5 rfl, hM_N_4, mu_k hk_c0 hk_3 rfl]) rfl ?_
    have hk_7 : kd (M c0 8) = 4 := Inv.r hI_M hk_c0 rfl 8 rfl rfl
    refine kx_aload_n 35 F 0 dX0_append_34 rfl rfl rfl ?_
    refine kx_geti 38 F fl_X0_46 hk_c0 rfl rfl (j := 4) rfl dX0_append_35 (v := (M c0 4)) (by rw [hM_N_6, mu_k hk_c0 hk_5 rfl, hM_N_4, mu_k hk_c0 hk_3 rfl]) rfl ?_
    refine kx_iload_n 39 F 3 dX0_append_38 rfl rfl rfl ?_
    refine kx_iast 40 F hk_7 rfl rfl (by omega) (by decide) dX0_append_39 rfl ?_
    intro N_8 hM_N_8
    have hI_N_8 : Inv false N_8 := Inv.u hI_N_6 hM_N_8 hk_7 (a := 0) (b := 2) rfl rfl rfl (by omega)
    have hF_N_8 : Fr f_c_X0_append M N_8 := Fr.u hF_N_6 hM_N_8 hk_7 rfl
    refine kx_aload_n 41 F 0 dX0_append_40 rfl rfl rfl ?_
    refine kx_getr 44 F fl_X0_21 hk_c0 rfl rfl (j := 9) rfl dX0_append_41 (v := (M c0 9)) (by rw [hM_N_8, mu_k hk_c0 hk_7 rfl, hM_N_6, mu_k hk_c0 hk_5 rfl, hM_N_4, mu_k hk_c0 hk_3 rfl]) rfl ?_
    have hk_9 : kd (M c0 9) = 5 := Inv.r hI_M hk_c0 rfl 9 rfl rfl
    refine kx_aload_n 45 F 0 dX0_append_44 rfl rfl rfl ?_
    refine kx_geti 48 F fl_X0_46 hk_c0 rfl rfl (j := 4) rfl dX0_append_45 (v := (M c0 4)) (by rw [hM_N_8, mu_k hk_c0 hk_7 rfl, hM_N_6, mu_k hk_c0 hk_5 rfl, hM_N_4, mu_k hk_c0 hk_3 rfl]) rfl ?_
    refine kx_iload 50 F 4 dX0_append_48 rfl rfl ?_
    refine kx_iast 51 F hk_9 rfl rfl (by omega) (by decide) dX0_append_50 rfl ?_
    intro N_10 hM_N_10
    have hI_N_10 : Inv false N_10 := Inv.u hI_N_8 hM_N_10 hk_9 (a := (-1)) (b := 2) rfl rfl rfl (by omega)
    have hF_N_10 : Fr f_c_X0_append M N_10 := Fr.u hF_N_8 hM_N_10 hk_9 rfl
    refine kx_aload_n 52 F 0 dX0_append_51 rfl rfl rfl ?_
    refine kx_dup 53 F dX0_append_52 rfl rfl ?_
    refine kx_geti 56 F fl_X0_46 hk_c0 rfl rfl (j := 4) rfl dX0_append_53 (v := (M c0 4)) (by rw [hM_N_10, mu_k hk_c0 hk_9 rfl, hM_N_8, mu_k hk_c0 hk_7 rfl, hM_N_6, mu_k hk_c0 hk_5 rfl, hM_N_4, mu_k hk_c0 hk_3 rfl]) rfl ?_
    refine kx_iconst 57 F dX0_append_56 rfl ?_
    refine kx_iadd 58 F (v := (M c0 4) + 1) dX0_append_57 rfl rfl ?_
    refine kx_puti 61 F fw_X0_46 rfl hk_c0 rfl rfl (j := 4) rfl dX0_append_58 rfl ?_
    intro N_11 hM_N_11
    have hI_N_11 : Inv false N_11 := Inv.u hI_N_10 hM_N_11 hk_c0 (a := 0) (b := 20) rfl rfl rfl (by omega)
    have hF_N_11 : Fr f_c_X0_append M N_11 := Fr.u hF_N_10 hM_N_11 hk_c0 rfl
    refine kx_aload_n 62 F 0 dX0_append_61 rfl rfl rfl ?_
    refine kx_aload_n 63 F 0 dX0_append_62 rfl rfl rfl ?_
    refine kx_geti 66 F fl_X0_46 hk_c0 rfl rfl (j := 4) rfl dX0_append_63 (v := (M c0 4) + 1) (by rw [hM_N_11, mu_s]) rfl ?_
    refine kx_iconst 67 F dX0_append_66 rfl ?_
    refine kx_isub 68 F (v := (M c0 4)) dX0_append_67 (by omega) rfl ?_
    refine kx_Vv 71 (ci := 0) F (As := [vI (M c0 4)]) (st := []) vd_X0_68 (c_X0_note G l N_11 c0 (M c0 4) hI_N_11 hk_c0 (by omega)) hk_c0 rfl rfl rfl ⟨by decide, by decide⟩ rfl rfl (Nat.le_of_ble_eq_true rfl) dX0_append_68 rfl ?_
    intro N_12 q_13
    obtain ⟨hI_N_12, hG_N_12⟩ := q_13
    have hF_N_12 : Fr f_c_X0_append M N_12 := Fr.c hF_N_11 hG_N_12 rfl
    exact kx_vret F hQ ⟨hI_N_12, hF_N_12⟩ dX0_append_71
  · exact kx_vret F hQ ⟨hI_M, hF_M⟩ dX0_append_9
theorem dJ7_fill_53178_0 : decode cJ7_fill_53178 0 = .ok (.iconst 0, 1) := by decide +kernel
theorem dJ7_fill_53178_1 : decode cJ7_fill_53178 1 = .ok (.istore_n 2, 1) := by decide +kernel
theorem dJ7_fill_53178_2 : decode cJ7_fill_53178 2 = .ok (.aload_n 0, 1) := by decide +kernel
theorem dJ7_fill_53178_3 : decode cJ7_fill_53178 3 = .ok (.arraylength, 1) := by decide +kernel
theorem dJ7_fill_53178_4 : decode cJ7_fill_53178 4 = .ok (.istore_n 3, 1) := by decide +kernel
theorem dJ7_fill_53178_5 : decode cJ7_fill_53178 5 = .ok (.iload_n 2, 1) := by decide +kernel
theorem dJ7_fill_53178_6 : decode cJ7_fill_53178 6 = .ok (.iload_n 3, 1) := by decide +kernel
theorem dJ7_fill_53178_7 : decode cJ7_fill_53178 7 = .ok (.if_icmp .ge 13, 3) := by decide +kernel
theorem dJ7_fill_53178_10 : decode cJ7_fill_53178 10 = .ok (.aload_n 0, 1) := by decide +kernel
theorem dJ7_fill_53178_11 : decode cJ7_fill_53178 11 = .ok (.iload_n 2, 1) := by decide +kernel
theorem dJ7_fill_53178_12 : decode cJ7_fill_53178 12 = .ok (.iload_n 1, 1) := by decide +kernel
theorem dJ7_fill_53178_13 : decode cJ7_fill_53178 13 = .ok (.iastore, 1) := by decide +kernel
theorem dJ7_fill_53178_14 : decode cJ7_fill_53178 14 = .ok (.iinc 2 1, 3) := by decide +kernel
theorem dJ7_fill_53178_17 : decode cJ7_fill_53178 17 = .ok (.goto (-12), 3) := by decide +kernel
theorem dJ7_fill_53178_20 : decode cJ7_fill_53178 20 = .ok (.return_, 1) := by decide +kernel
abbrev f_c_fill_step : List (Nat × Int) := [(6, -1)]
set_option maxHeartbeats 4000000 in
set_option maxRecDepth 100000 in
theorem c_fill_step (G : KG) (l : Launch) (M : Mem) (c0 : Int) (a1 : Int) (hI_M : Inv false M) (hk_c0 : kd c0 = 6) (hpre : -2147483648 ≤ a1 ∧ a1 ≤ 2147483647 ∧ 0 ≤ a1 ∧ a1 ≤ 511) : KC false G l yJ7_fill_53178 cJ7_fill_53178 4 none (0, 0) [vR G c0, vI a1] M (fun A => kQv false G A (fun (N : Mem) => Inv false N ∧ Fr f_c_fill_step M N)) := by
  refine kx_met (lo := [some (vR G c0), some (vI a1), none, none]) (by decide) (Nat.le_of_ble_eq_true rfl) rfl ?_
  intro X F hQ
  have hF_M : Fr f_c_fill_step M M := Fr.rf _ _
  refine kx_iconst 1 F dJ7_fill_53178_0 rfl ?_
  refine kx_istore_n 2 F 2 (lo' := [some (vR G c0), some (vI a1), some (vI 0), none]) dJ7_fill_53178_1 rfl (by decide) rfl rfl rfl ?_
  refine kx_aload_n 3 F 0 dJ7_fill_53178_2 rfl rfl rfl ?_
  refine kx_alen 4 F hk_c0 rfl rfl (z := 6) (by decide) dJ7_fill_53178_3 rfl ?_
  refine kx_istore_n 5 F 3 (lo' := [some (vR G c0), some (vI a1), some (vI 0), some (vI 6)]) dJ7_fill_53178_4 rfl (by decide) rfl rfl rfl ?_
  have L_31 : ∀ (n_32 : Nat) (x2_29 : Int) (N_30 : Mem), Inv false N_30 → Fr f_c_fill_step M N_30 → 0 ≤ x2_29 ∧ x2_29 ≤ 6 → (6 - (x2_29)).toNat = n_32 → KJ false G X N_30 5 [some (vR G c0), some (vI a1), some (vI x2_29), some (vI 6)] [] := by
    intro n_32
    refine Nat.strongRecOn n_32 ?_
    intro n_32 ih_33 x2_29 N_30 hI_N_30 hF_N_30 h_34 hm_35
    refine kx_iload_n 6 F 2 dJ7_fill_53178_5 rfl rfl rfl ?_
    refine kx_iload_n 7 F 3 dJ7_fill_53178_6 rfl rfl rfl ?_
    refine kx_icmp_ge 10 F 20 dJ7_fill_53178_7 (by decide) rfl (by omega) (by decide) (fun h_36 => ?_) (fun h_36 => ?_)
    · exact kx_vret F hQ ⟨hI_N_30, hF_N_30⟩ dJ7_fill_53178_20
    · refine kx_aload_n 11 F 0 dJ7_fill_53178_10 rfl rfl rfl ?_
      refine kx_iload_n 12 F 2 dJ7_fill_53178_11 rfl rfl rfl ?_
      refine kx_iload_n 13 F 1 dJ7_fill_53178_12 rfl rfl rfl ?_
      refine kx_iast 14 F hk_c0 rfl rfl (by omega) (by decide) dJ7_fill_53178_13 rfl ?_
      intro N_37 hM_N_37
      have hI_N_37 : Inv false N_37 := Inv.u hI_N_30 hM_N_37 hk_c0 (a := 0) (b := 511) rfl rfl rfl (by omega)
      have hF_N_37 : Fr f_c_fill_step M N_37 := Fr.u hF_N_30 hM_N_37 hk_c0 rfl
      refine kx_iinc 17 F 2 (v := x2_29 + 1) (lo' := [some (vR G c0), some (vI a1), some (vI (x2_29 + 1)), some (vI 6)]) dJ7_fill_53178_14 rfl (by omega) (by decide) rfl rfl rfl ?_
      refine kx_goto 5 F dJ7_fill_53178_17 (by decide) ?_
      exact ih_33 _ (by omega) (x2_29 + 1) N_37 hI_N_37 hF_N_37 (by omega) rfl
  exact L_31 _ 0 M hI_M hF_M (by omega) rfl
abbrev f_c_fill_stacked : List (Nat × Int) := [(7, -1)]
set_option maxHeartbeats 4000000 in
set_option maxRecDepth 100000 in
theorem c_fill_stacked (G : KG) (l : Launch) (M : Mem) (c0 : Int) (a1 : Int) (hI_M : Inv false M) (hk_c0 : kd c0 = 7) (hpre : -2147483648 ≤ a1 ∧ a1 ≤ 2147483647 ∧ 0 ≤ a1 ∧ a1 ≤ 511) : KC false G l yJ7_fill_53178 cJ7_fill_53178 4 none (0, 0) [vR G c0, vI a1] M (fun A => kQv false G A (fun (N : Mem) => Inv false N ∧ Fr f_c_fill_stacked M N)) := by
  refine kx_met (lo := [some (vR G c0), some (vI a1), none, none]) (by decide) (Nat.le_of_ble_eq_true rfl) rfl ?_
  intro X F hQ
  have hF_M : Fr f_c_fill_stacked M M := Fr.rf _ _
  refine kx_iconst 1 F dJ7_fill_53178_0 rfl ?_
  refine kx_istore_n 2 F 2 (lo' := [some (vR G c0), some (vI a1), some (vI 0), none]) dJ7_fill_53178_1 rfl (by decide) rfl rfl rfl ?_
  refine kx_aload_n 3 F 0 dJ7_fill_53178_2 rfl rfl rfl ?_
  refine kx_alen 4 F hk_c0 rfl rfl (z := 18) (by decide) dJ7_fill_53178_3 rfl ?_
  refine kx_istore_n 5 F 3 (lo' := [some (vR G c0), some (vI a1), some (vI 0), some (vI 18)]) dJ7_fill_53178_4 rfl (by decide) rfl rfl rfl ?_
  have L_31 : ∀ (n_32 : Nat) (x2_29 : Int) (N_30 : Mem), Inv false N_30 → Fr f_c_fill_stacked M N_30 → 0 ≤ x2_29 ∧ x2_29 ≤ 18 → (18 - (x2_29)).toNat = n_32 → KJ false G X N_30 5 [some (vR G c0), some (vI a1), some (vI x2_29), some (vI 18)] [] := by
    intro n_32
    refine Nat.strongRecOn n_32 ?_
    intro n_32 ih_33 x2_29 N_30 hI_N_30 hF_N_30 h_34 hm_35
    refine kx_iload_n 6 F 2 dJ7_fill_53178_5 rfl rfl rfl ?_
    refine kx_iload_n 7 F 3 dJ7_fill_53178_6 rfl rfl rfl ?_
    refine kx_icmp_ge 10 F 20 dJ7_fill_53178_7 (by decide) rfl (by omega) (by decide) (fun h_36 => ?_) (fun h_36 => ?_)
    · exact kx_vret F hQ ⟨hI_N_30, hF_N_30⟩ dJ7_fill_53178_20
    · refine kx_aload_n 11 F 0 dJ7_fill_53178_10 rfl rfl rfl ?_
      refine kx_iload_n 12 F 2 dJ7_fill_53178_11 rfl rfl rfl ?_
      refine kx_iload_n 13 F 1 dJ7_fill_53178_12 rfl rfl rfl ?_
      refine kx_iast 14 F hk_c0 rfl rfl (by omega) (by decide) dJ7_fill_53178_13 rfl ?_
      intro N_37 hM_N_37
      have hI_N_37 : Inv false N_37 := Inv.u hI_N_30 hM_N_37 hk_c0 (a := 0) (b := 511) rfl rfl rfl (by omega)
      have hF_N_37 : Fr f_c_fill_stacked M N_37 := Fr.u hF_N_30 hM_N_37 hk_c0 rfl
      refine kx_iinc 17 F 2 (v := x2_29 + 1) (lo' := [some (vR G c0), some (vI a1), some (vI (x2_29 + 1)), some (vI 18)]) dJ7_fill_53178_14 rfl (by omega) (by decide) rfl rfl rfl ?_
      refine kx_goto 5 F dJ7_fill_53178_17 (by decide) ?_
      exact ih_33 _ (by omega) (x2_29 + 1) N_37 hI_N_37 hF_N_37 (by omega) rfl
  exact L_31 _ 0 M hI_M hF_M (by omega) rfl
abbrev f_c_fill_present : List (Nat × Int) := [(24, -1)]
set_option maxHeartbeats 4000000 in
set_option maxRecDepth 100000 in
theorem c_fill_present (G : KG) (l : Launch) (M : Mem) (c0 : Int) (a1 : Int) (hI_M : Inv false M) (hk_c0 : kd c0 = 24) (hpre : -2147483648 ≤ a1 ∧ a1 ≤ 2147483647 ∧ a1 ≥ -2147483648 ∧ a1 ≤ 2147483647) : KC false G l yJ7_fill_53178 cJ7_fill_53178 4 none (0, 0) [vR G c0, vI a1] M (fun A => kQv false G A (fun (N : Mem) => Inv false N ∧ Fr f_c_fill_present M N)) := by
  refine kx_met (lo := [some (vR G c0), some (vI a1), none, none]) (by decide) (Nat.le_of_ble_eq_true rfl) rfl ?_
  intro X F hQ
  have hF_M : Fr f_c_fill_present M M := Fr.rf _ _
  refine kx_iconst 1 F dJ7_fill_53178_0 rfl ?_
  refine kx_istore_n 2 F 2 (lo' := [some (vR G c0), some (vI a1), some (vI 0), none]) dJ7_fill_53178_1 rfl (by decide) rfl rfl rfl ?_
  refine kx_aload_n 3 F 0 dJ7_fill_53178_2 rfl rfl rfl ?_
  refine kx_alen 4 F hk_c0 rfl rfl (z := 512) (by decide) dJ7_fill_53178_3 rfl ?_
  refine kx_istore_n 5 F 3 (lo' := [some (vR G c0), some (vI a1), some (vI 0), some (vI 512)]) dJ7_fill_53178_4 rfl (by decide) rfl rfl rfl ?_
  have L_31 : ∀ (n_32 : Nat) (x2_29 : Int) (N_30 : Mem), Inv false N_30 → Fr f_c_fill_present M N_30 → 0 ≤ x2_29 ∧ x2_29 ≤ 512 → (512 - (x2_29)).toNat = n_32 → KJ false G X N_30 5 [some (vR G c0), some (vI a1), some (vI x2_29), some (vI 512)] [] := by
    intro n_32
    refine Nat.strongRecOn n_32 ?_
    intro n_32 ih_33 x2_29 N_30 hI_N_30 hF_N_30 h_34 hm_35
    refine kx_iload_n 6 F 2 dJ7_fill_53178_5 rfl rfl rfl ?_
    refine kx_iload_n 7 F 3 dJ7_fill_53178_6 rfl rfl rfl ?_
    refine kx_icmp_ge 10 F 20 dJ7_fill_53178_7 (by decide) rfl (by omega) (by decide) (fun h_36 => ?_) (fun h_36 => ?_)
    · exact kx_vret F hQ ⟨hI_N_30, hF_N_30⟩ dJ7_fill_53178_20
    · refine kx_aload_n 11 F 0 dJ7_fill_53178_10 rfl rfl rfl ?_
      refine kx_iload_n 12 F 2 dJ7_fill_53178_11 rfl rfl rfl ?_
      refine kx_iload_n 13 F 1 dJ7_fill_53178_12 rfl rfl rfl ?_
      refine kx_iast 14 F hk_c0 rfl rfl (by omega) (by decide) dJ7_fill_53178_13 rfl ?_
      intro N_37 hM_N_37
      have hI_N_37 : Inv false N_37 := Inv.u hI_N_30 hM_N_37 hk_c0 (a := (-2147483648)) (b := 2147483647) rfl rfl rfl (by omega)
      have hF_N_37 : Fr f_c_fill_present M N_37 := Fr.u hF_N_30 hM_N_37 hk_c0 rfl
      refine kx_iinc 17 F 2 (v := x2_29 + 1) (lo' := [some (vR G c0), some (vI a1), some (vI (x2_29 + 1)), some (vI 512)]) dJ7_fill_53178_14 rfl (by omega) (by decide) rfl rfl rfl ?_
      refine kx_goto 5 F dJ7_fill_53178_17 (by decide) ?_
      exact ih_33 _ (by omega) (x2_29 + 1) N_37 hI_N_37 hF_N_37 (by omega) rfl
  exact L_31 _ 0 M hI_M hF_M (by omega) rfl
abbrev f_c_fill_many : List (Nat × Int) := [(54, -1)]
set_option maxHeartbeats 4000000 in
set_option maxRecDepth 100000 in
theorem c_fill_many (G : KG) (l : Launch) (M : Mem) (c0 : Int) (a1 : Int) (hI_M : Inv false M) (hk_c0 : kd c0 = 54) (hpre : -2147483648 ≤ a1 ∧ a1 ≤ 2147483647 ∧ a1 ≥ -2147483648 ∧ a1 ≤ 2147483647) : KC false G l yJ7_fill_53178 cJ7_fill_53178 4 none (0, 0) [vR G c0, vI a1] M (fun A => kQv false G A (fun (N : Mem) => Inv false N ∧ Fr f_c_fill_many M N)) := by
  refine kx_met (lo := [some (vR G c0), some (vI a1), none, none]) (by decide) (Nat.le_of_ble_eq_true rfl) rfl ?_
  intro X F hQ
  have hF_M : Fr f_c_fill_many M M := Fr.rf _ _
  refine kx_iconst 1 F dJ7_fill_53178_0 rfl ?_
  refine kx_istore_n 2 F 2 (lo' := [some (vR G c0), some (vI a1), some (vI 0), none]) dJ7_fill_53178_1 rfl (by decide) rfl rfl rfl ?_
  refine kx_aload_n 3 F 0 dJ7_fill_53178_2 rfl rfl rfl ?_
  refine kx_alen 4 F hk_c0 rfl rfl (z := 112) (by decide) dJ7_fill_53178_3 rfl ?_
  refine kx_istore_n 5 F 3 (lo' := [some (vR G c0), some (vI a1), some (vI 0), some (vI 112)]) dJ7_fill_53178_4 rfl (by decide) rfl rfl rfl ?_
  have L_31 : ∀ (n_32 : Nat) (x2_29 : Int) (N_30 : Mem), Inv false N_30 → Fr f_c_fill_many M N_30 → 0 ≤ x2_29 ∧ x2_29 ≤ 112 → (112 - (x2_29)).toNat = n_32 → KJ false G X N_30 5 [some (vR G c0), some (vI a1), some (vI x2_29), some (vI 112)] [] := by
    intro n_32
    refine Nat.strongRecOn n_32 ?_
    intro n_32 ih_33 x2_29 N_30 hI_N_30 hF_N_30 h_34 hm_35
    refine kx_iload_n 6 F 2 dJ7_fill_53178_5 rfl rfl rfl ?_
    refine kx_iload_n 7 F 3 dJ7_fill_53178_6 rfl rfl rfl ?_
    refine kx_icmp_ge 10 F 20 dJ7_fill_53178_7 (by decide) rfl (by omega) (by decide) (fun h_36 => ?_) (fun h_36 => ?_)
    · exact kx_vret F hQ ⟨hI_N_30, hF_N_30⟩ dJ7_fill_53178_20
    · refine kx_aload_n 11 F 0 dJ7_fill_53178_10 rfl rfl rfl ?_
      refine kx_iload_n 12 F 2 dJ7_fill_53178_11 rfl rfl rfl ?_
      refine kx_iload_n 13 F 1 dJ7_fill_53178_12 rfl rfl rfl ?_
      refine kx_iast 14 F hk_c0 rfl rfl (by omega) (by decide) dJ7_fill_53178_13 rfl ?_
      intro N_37 hM_N_37
      have hI_N_37 : Inv false N_37 := Inv.u hI_N_30 hM_N_37 hk_c0 (a := (-2147483648)) (b := 2147483647) rfl rfl rfl (by omega)
      have hF_N_37 : Fr f_c_fill_many M N_37 := Fr.u hF_N_30 hM_N_37 hk_c0 rfl
      refine kx_iinc 17 F 2 (v := x2_29 + 1) (lo' := [some (vR G c0), some (vI a1), some (vI (x2_29 + 1)), some (vI 112)]) dJ7_fill_53178_14 rfl (by omega) (by decide) rfl rfl rfl ?_
      refine kx_goto 5 F dJ7_fill_53178_17 (by decide) ?_
      exact ih_33 _ (by omega) (x2_29 + 1) N_37 hI_N_37 hF_N_37 (by omega) rfl
  exact L_31 _ 0 M hI_M hF_M (by omega) rfl
abbrev f_c_fill_last : List (Nat × Int) := [(55, -1)]
set_option maxHeartbeats 4000000 in
set_option maxRecDepth 100000 in
theorem c_fill_last (G : KG) (l : Launch) (M : Mem) (c0 : Int) (a1 : Int) (hI_M : Inv false M) (hk_c0 : kd c0 = 55) (hpre : -2147483648 ≤ a1 ∧ a1 ≤ 2147483647 ∧ a1 ≥ -2147483648 ∧ a1 ≤ 2147483647) : KC false G l yJ7_fill_53178 cJ7_fill_53178 4 none (0, 0) [vR G c0, vI a1] M (fun A => kQv false G A (fun (N : Mem) => Inv false N ∧ Fr f_c_fill_last M N)) := by
  refine kx_met (lo := [some (vR G c0), some (vI a1), none, none]) (by decide) (Nat.le_of_ble_eq_true rfl) rfl ?_
  intro X F hQ
  have hF_M : Fr f_c_fill_last M M := Fr.rf _ _
  refine kx_iconst 1 F dJ7_fill_53178_0 rfl ?_
  refine kx_istore_n 2 F 2 (lo' := [some (vR G c0), some (vI a1), some (vI 0), none]) dJ7_fill_53178_1 rfl (by decide) rfl rfl rfl ?_
  refine kx_aload_n 3 F 0 dJ7_fill_53178_2 rfl rfl rfl ?_
  refine kx_alen 4 F hk_c0 rfl rfl (z := 112) (by decide) dJ7_fill_53178_3 rfl ?_
  refine kx_istore_n 5 F 3 (lo' := [some (vR G c0), some (vI a1), some (vI 0), some (vI 112)]) dJ7_fill_53178_4 rfl (by decide) rfl rfl rfl ?_
  have L_31 : ∀ (n_32 : Nat) (x2_29 : Int) (N_30 : Mem), Inv false N_30 → Fr f_c_fill_last M N_30 → 0 ≤ x2_29 ∧ x2_29 ≤ 112 → (112 - (x2_29)).toNat = n_32 → KJ false G X N_30 5 [some (vR G c0), some (vI a1), some (vI x2_29), some (vI 112)] [] := by
    intro n_32
    refine Nat.strongRecOn n_32 ?_
    intro n_32 ih_33 x2_29 N_30 hI_N_30 hF_N_30 h_34 hm_35
    refine kx_iload_n 6 F 2 dJ7_fill_53178_5 rfl rfl rfl ?_
    refine kx_iload_n 7 F 3 dJ7_fill_53178_6 rfl rfl rfl ?_
    refine kx_icmp_ge 10 F 20 dJ7_fill_53178_7 (by decide) rfl (by omega) (by decide) (fun h_36 => ?_) (fun h_36 => ?_)
    · exact kx_vret F hQ ⟨hI_N_30, hF_N_30⟩ dJ7_fill_53178_20
    · refine kx_aload_n 11 F 0 dJ7_fill_53178_10 rfl rfl rfl ?_
      refine kx_iload_n 12 F 2 dJ7_fill_53178_11 rfl rfl rfl ?_
      refine kx_iload_n 13 F 1 dJ7_fill_53178_12 rfl rfl rfl ?_
      refine kx_iast 14 F hk_c0 rfl rfl (by omega) (by decide) dJ7_fill_53178_13 rfl ?_
      intro N_37 hM_N_37
      have hI_N_37 : Inv false N_37 := Inv.u hI_N_30 hM_N_37 hk_c0 (a := (-2147483648)) (b := 2147483647) rfl rfl rfl (by omega)
      have hF_N_37 : Fr f_c_fill_last M N_37 := Fr.u hF_N_30 hM_N_37 hk_c0 rfl
      refine kx_iinc 17 F 2 (v := x2_29 + 1) (lo' := [some (vR G c0), some (vI a1), some (vI (x2_29 + 1)), some (vI 112)]) dJ7_fill_53178_14 rfl (by omega) (by decide) rfl rfl rfl ?_
      refine kx_goto 5 F dJ7_fill_53178_17 (by decide) ?_
      exact ih_33 _ (by omega) (x2_29 + 1) N_37 hI_N_37 hF_N_37 (by omega) rfl
  exact L_31 _ 0 M hI_M hF_M (by omega) rfl
theorem dJ7_fill_d0a16_0 : decode cJ7_fill_d0a16 0 = .ok (.iconst 0, 1) := by decide +kernel
theorem dJ7_fill_d0a16_1 : decode cJ7_fill_d0a16 1 = .ok (.istore_n 3, 1) := by decide +kernel
theorem dJ7_fill_d0a16_2 : decode cJ7_fill_d0a16 2 = .ok (.aload_n 0, 1) := by decide +kernel
theorem dJ7_fill_d0a16_3 : decode cJ7_fill_d0a16 3 = .ok (.arraylength, 1) := by decide +kernel
theorem dJ7_fill_d0a16_4 : decode cJ7_fill_d0a16 4 = .ok (.istore 4, 2) := by decide +kernel
theorem dJ7_fill_d0a16_6 : decode cJ7_fill_d0a16 6 = .ok (.iload_n 3, 1) := by decide +kernel
theorem dJ7_fill_d0a16_7 : decode cJ7_fill_d0a16 7 = .ok (.iload 4, 2) := by decide +kernel
theorem dJ7_fill_d0a16_9 : decode cJ7_fill_d0a16 9 = .ok (.if_icmp .ge 13, 3) := by decide +kernel
theorem dJ7_fill_d0a16_12 : decode cJ7_fill_d0a16 12 = .ok (.aload_n 0, 1) := by decide +kernel
theorem dJ7_fill_d0a16_13 : decode cJ7_fill_d0a16 13 = .ok (.iload_n 3, 1) := by decide +kernel
theorem dJ7_fill_d0a16_14 : decode cJ7_fill_d0a16 14 = .ok (.lload_n 1, 1) := by decide +kernel
theorem dJ7_fill_d0a16_15 : decode cJ7_fill_d0a16 15 = .ok (.lastore, 1) := by decide +kernel
theorem dJ7_fill_d0a16_16 : decode cJ7_fill_d0a16 16 = .ok (.iinc 3 1, 3) := by decide +kernel
theorem dJ7_fill_d0a16_19 : decode cJ7_fill_d0a16 19 = .ok (.goto (-13), 3) := by decide +kernel
theorem dJ7_fill_d0a16_22 : decode cJ7_fill_d0a16 22 = .ok (.return_, 1) := by decide +kernel
abbrev f_c_fill_scratch : List (Nat × Int) := [(58, -1)]
set_option maxHeartbeats 4000000 in
set_option maxRecDepth 100000 in
theorem c_fill_scratch (G : KG) (l : Launch) (M : Mem) (c0 : Int) (a1 : Int) (hI_M : Inv false M) (hk_c0 : kd c0 = 58) (hpre : -9223372036854775808 ≤ a1 ∧ a1 ≤ 9223372036854775807) : KC false G l yJ7_fill_d0a16 cJ7_fill_d0a16 5 none (0, 0) [vR G c0, vL a1] M (fun A => kQv false G A (fun (N : Mem) => Inv false N ∧ Fr f_c_fill_scratch M N)) := by
  refine kx_met (lo := [some (vR G c0), some (vL a1), none, none, none]) (by decide) (Nat.le_of_ble_eq_true rfl) rfl ?_
  intro X F hQ
  have hF_M : Fr f_c_fill_scratch M M := Fr.rf _ _
  refine kx_iconst 1 F dJ7_fill_d0a16_0 rfl ?_
  refine kx_istore_n 2 F 3 (lo' := [some (vR G c0), some (vL a1), none, some (vI 0), none]) dJ7_fill_d0a16_1 rfl (by decide) rfl rfl rfl ?_
  refine kx_aload_n 3 F 0 dJ7_fill_d0a16_2 rfl rfl rfl ?_
  refine kx_alen 4 F hk_c0 rfl rfl (z := 9) (by decide) dJ7_fill_d0a16_3 rfl ?_
  refine kx_istore 6 F 4 (lo' := [some (vR G c0), some (vL a1), none, some (vI 0), some (vI 9)]) dJ7_fill_d0a16_4 (by decide) rfl rfl rfl ?_
  have L_31 : ∀ (n_32 : Nat) (x3_29 : Int) (N_30 : Mem), Inv false N_30 → Fr f_c_fill_scratch M N_30 → 0 ≤ x3_29 ∧ x3_29 ≤ 9 → (9 - (x3_29)).toNat = n_32 → KJ false G X N_30 6 [some (vR G c0), some (vL a1), none, some (vI x3_29), some (vI 9)] [] := by
    intro n_32
    refine Nat.strongRecOn n_32 ?_
    intro n_32 ih_33 x3_29 N_30 hI_N_30 hF_N_30 h_34 hm_35
    refine kx_iload_n 7 F 3 dJ7_fill_d0a16_6 rfl rfl rfl ?_
    refine kx_iload 9 F 4 dJ7_fill_d0a16_7 rfl rfl ?_
    refine kx_icmp_ge 12 F 22 dJ7_fill_d0a16_9 (by decide) rfl (by omega) (by decide) (fun h_36 => ?_) (fun h_36 => ?_)
    · exact kx_vret F hQ ⟨hI_N_30, hF_N_30⟩ dJ7_fill_d0a16_22
    · refine kx_aload_n 13 F 0 dJ7_fill_d0a16_12 rfl rfl rfl ?_
      refine kx_iload_n 14 F 3 dJ7_fill_d0a16_13 rfl rfl rfl ?_
      refine kx_lload_n 15 F 1 dJ7_fill_d0a16_14 rfl rfl rfl ?_
      refine kx_last 16 F hk_c0 rfl rfl (by omega) (by decide) dJ7_fill_d0a16_15 rfl ?_
      intro N_37 hM_N_37
      have hI_N_37 : Inv false N_37 := Inv.u hI_N_30 hM_N_37 hk_c0 (a := (-9223372036854775808)) (b := 9223372036854775807) rfl rfl rfl (by omega)
      have hF_N_37 : Fr f_c_fill_scratch M N_37 := Fr.u hF_N_30 hM_N_37 hk_c0 rfl
      refine kx_iinc 19 F 3 (v := x3_29 + 1) (lo' := [some (vR G c0), some (vL a1), none, some (vI (x3_29 + 1)), some (vI 9)]) dJ7_fill_d0a16_16 rfl (by omega) (by decide) rfl rfl rfl ?_
      refine kx_goto 6 F dJ7_fill_d0a16_19 (by decide) ?_
      exact ih_33 _ (by omega) (x3_29 + 1) N_37 hI_N_37 hF_N_37 (by omega) rfl
  exact L_31 _ 0 M hI_M hF_M (by omega) rfl
abbrev f_c_fill_ends : List (Nat × Int) := [(61, -1)]
set_option maxHeartbeats 4000000 in
set_option maxRecDepth 100000 in
theorem c_fill_ends (G : KG) (l : Launch) (M : Mem) (c0 : Int) (a1 : Int) (hI_M : Inv false M) (hk_c0 : kd c0 = 61) (hpre : -9223372036854775808 ≤ a1 ∧ a1 ≤ 9223372036854775807) : KC false G l yJ7_fill_d0a16 cJ7_fill_d0a16 5 none (0, 0) [vR G c0, vL a1] M (fun A => kQv false G A (fun (N : Mem) => Inv false N ∧ Fr f_c_fill_ends M N)) := by
  refine kx_met (lo := [some (vR G c0), some (vL a1), none, none, none]) (by decide) (Nat.le_of_ble_eq_true rfl) rfl ?_
  intro X F hQ
  have hF_M : Fr f_c_fill_ends M M := Fr.rf _ _
  refine kx_iconst 1 F dJ7_fill_d0a16_0 rfl ?_
  refine kx_istore_n 2 F 3 (lo' := [some (vR G c0), some (vL a1), none, some (vI 0), none]) dJ7_fill_d0a16_1 rfl (by decide) rfl rfl rfl ?_
  refine kx_aload_n 3 F 0 dJ7_fill_d0a16_2 rfl rfl rfl ?_
  refine kx_alen 4 F hk_c0 rfl rfl (z := 3) (by decide) dJ7_fill_d0a16_3 rfl ?_
  refine kx_istore 6 F 4 (lo' := [some (vR G c0), some (vL a1), none, some (vI 0), some (vI 3)]) dJ7_fill_d0a16_4 (by decide) rfl rfl rfl ?_
  have L_19 : ∀ (n_20 : Nat) (x3_17 : Int) (N_18 : Mem), Inv false N_18 → Fr f_c_fill_ends M N_18 → 0 ≤ x3_17 ∧ x3_17 ≤ 3 → (3 - (x3_17)).toNat = n_20 → KJ false G X N_18 6 [some (vR G c0), some (vL a1), none, some (vI x3_17), some (vI 3)] [] := by
    intro n_20
    refine Nat.strongRecOn n_20 ?_
    intro n_20 ih_21 x3_17 N_18 hI_N_18 hF_N_18 h_22 hm_23
    refine kx_iload_n 7 F 3 dJ7_fill_d0a16_6 rfl rfl rfl ?_
    refine kx_iload 9 F 4 dJ7_fill_d0a16_7 rfl rfl ?_
    refine kx_icmp_ge 12 F 22 dJ7_fill_d0a16_9 (by decide) rfl (by omega) (by decide) (fun h_24 => ?_) (fun h_24 => ?_)
    · exact kx_vret F hQ ⟨hI_N_18, hF_N_18⟩ dJ7_fill_d0a16_22
    · refine kx_aload_n 13 F 0 dJ7_fill_d0a16_12 rfl rfl rfl ?_
      refine kx_iload_n 14 F 3 dJ7_fill_d0a16_13 rfl rfl rfl ?_
      refine kx_lload_n 15 F 1 dJ7_fill_d0a16_14 rfl rfl rfl ?_
      refine kx_last 16 F hk_c0 rfl rfl (by omega) (by decide) dJ7_fill_d0a16_15 rfl ?_
      intro N_25 hM_N_25
      have hI_N_25 : Inv false N_25 := Inv.u hI_N_18 hM_N_25 hk_c0 (a := (-9223372036854775808)) (b := 9223372036854775807) rfl rfl rfl (by omega)
      have hF_N_25 : Fr f_c_fill_ends M N_25 := Fr.u hF_N_18 hM_N_25 hk_c0 rfl
      refine kx_iinc 19 F 3 (v := x3_17 + 1) (lo' := [some (vR G c0), some (vL a1), none, some (vI (x3_17 + 1)), some (vI 3)]) dJ7_fill_d0a16_16 rfl (by omega) (by decide) rfl rfl rfl ?_
      refine kx_goto 6 F dJ7_fill_d0a16_19 (by decide) ?_
      exact ih_21 _ (by omega) (x3_17 + 1) N_25 hI_N_25 hF_N_25 (by omega) rfl
  exact L_19 _ 0 M hI_M hF_M (by omega) rfl
theorem dX0_renew_0 : decode cX0_renew 0 = .ok (.aload_n 0, 1) := by decide +kernel
theorem dX0_renew_1 : decode cX0_renew 1 = .ok (.getfield 24, 3) := by decide +kernel
theorem dX0_renew_4 : decode cX0_renew 4 = .ok (.iconst 0, 1) := by decide +kernel
theorem dX0_renew_5 : decode cX0_renew 5 = .ok (.invokestatic 56, 3) := by decide +kernel
theorem dX0_renew_8 : decode cX0_renew 8 = .ok (.aload_n 0, 1) := by decide +kernel
theorem dX0_renew_9 : decode cX0_renew 9 = .ok (.getfield 27, 3) := by decide +kernel
theorem dX0_renew_12 : decode cX0_renew 12 = .ok (.iconst 0, 1) := by decide +kernel
theorem dX0_renew_13 : decode cX0_renew 13 = .ok (.invokestatic 56, 3) := by decide +kernel
theorem dX0_renew_16 : decode cX0_renew 16 = .ok (.iconst 0, 1) := by decide +kernel
theorem dX0_renew_17 : decode cX0_renew 17 = .ok (.istore_n 1, 1) := by decide +kernel
theorem dX0_renew_18 : decode cX0_renew 18 = .ok (.iload_n 1, 1) := by decide +kernel
theorem dX0_renew_19 : decode cX0_renew 19 = .ok (.aload_n 0, 1) := by decide +kernel
theorem dX0_renew_20 : decode cX0_renew 20 = .ok (.getfield 46, 3) := by decide +kernel
theorem dX0_renew_23 : decode cX0_renew 23 = .ok (.if_icmp .ge 14, 3) := by decide +kernel
theorem dX0_renew_26 : decode cX0_renew 26 = .ok (.aload_n 0, 1) := by decide +kernel
theorem dX0_renew_27 : decode cX0_renew 27 = .ok (.iload_n 1, 1) := by decide +kernel
theorem dX0_renew_28 : decode cX0_renew 28 = .ok (.invokevirtual 68, 3) := by decide +kernel
theorem dX0_renew_31 : decode cX0_renew 31 = .ok (.iinc 1 1, 3) := by decide +kernel
theorem dX0_renew_34 : decode cX0_renew 34 = .ok (.goto (-16), 3) := by decide +kernel
theorem dX0_renew_37 : decode cX0_renew 37 = .ok (.return_, 1) := by decide +kernel
abbrev f_c_X0_renew : List (Nat × Int) := [(6, -1), (7, -1)]
set_option maxHeartbeats 4000000 in
set_option maxRecDepth 100000 in
theorem c_X0_renew (G : KG) (l : Launch) (M : Mem) (c0 : Int) (hI_M : Inv false M) (hk_c0 : kd c0 = 1) : KC false G l yX0_renew cX0_renew 2 none (2, 43) [vR G c0] M (fun A => kQv false G A (fun (N : Mem) => Inv false N ∧ Fr f_c_X0_renew M N)) := by
  refine kx_met (lo := [some (vR G c0), none]) (by decide) (Nat.le_of_ble_eq_true rfl) rfl ?_
  intro X F hQ
  have hF_M : Fr f_c_X0_renew M M := Fr.rf _ _
  refine kx_aload_n 1 F 0 dX0_renew_0 rfl rfl rfl ?_
  refine kx_getr 4 F fl_X0_24 hk_c0 rfl rfl (j := 10) rfl dX0_renew_1 (v := (M c0 10)) rfl rfl ?_
  have hk_1 : kd (M c0 10) = 6 := Inv.r hI_M hk_c0 rfl 10 rfl rfl
  refine kx_iconst 5 F dX0_renew_4 rfl ?_
  refine kx_Sv 8 F (As := [vR G (M c0 10), vI 0]) (st := []) sd_X0_56 (c_fill_step G l M (M c0 10) 0 hI_M hk_1 (by omega)) ⟨by decide, by decide⟩ rfl rfl (Nat.le_of_ble_eq_true rfl) dX0_renew_5 rfl ?_
  intro N_2 q_3
  obtain ⟨hI_N_2, hG_N_2⟩ := q_3
  have hF_N_2 : Fr f_c_X0_renew M N_2 := Fr.c hF_M hG_N_2 rfl
  refine kx_aload_n 9 F 0 dX0_renew_8 rfl rfl rfl ?_
  refine kx_getr 12 F fl_X0_27 hk_c0 rfl rfl (j := 11) rfl dX0_renew_9 (v := (M c0 11)) (by rw [Fr.e hG_N_2 hk_c0 _ rfl]) rfl ?_
  have hk_4 : kd (M c0 11) = 7 := Inv.r hI_M hk_c0 rfl 11 rfl rfl
  refine kx_iconst 13 F dX0_renew_12 rfl ?_
  refine kx_Sv 16 F (As := [vR G (M c0 11), vI 0]) (st := []) sd_X0_56 (c_fill_stacked G l N_2 (M c0 11) 0 hI_N_2 hk_4 (by omega)) ⟨by decide, by decide⟩ rfl rfl (Nat.le_of_ble_eq_true rfl) dX0_renew_13 rfl ?_
  intro N_5 q_6
  obtain ⟨hI_N_5, hG_N_5⟩ := q_6
  have hF_N_5 : Fr f_c_X0_renew M N_5 := Fr.c hF_N_2 hG_N_5 rfl
  refine kx_iconst 17 F dX0_renew_16 rfl ?_
  refine kx_istore_n 18 F 1 (lo' := [some (vR G c0), some (vI 0)]) dX0_renew_17 rfl (by decide) rfl rfl rfl ?_
  have L_51 : ∀ (n_52 : Nat) (x1_49 : Int) (N_50 : Mem), Inv false N_50 → Fr f_c_X0_renew M N_50 → 0 ≤ x1_49 ∧ x1_49 ≤ 20 → (20 - (x1_49)).toNat = n_52 → KJ false G X N_50 18 [some (vR G c0), some (vI x1_49)] [] := by
    intro n_52
    refine Nat.strongRecOn n_52 ?_
    intro n_52 ih_53 x1_49 N_50 hI_N_50 hF_N_50 h_54 hm_55
    refine kx_iload_n 19 F 1 dX0_renew_18 rfl rfl rfl ?_
    refine kx_aload_n 20 F 0 dX0_renew_19 rfl rfl rfl ?_
    refine kx_geti 23 F fl_X0_46 hk_c0 rfl rfl (j := 4) rfl dX0_renew_20 (v := (M c0 4)) (by rw [Fr.e hF_N_50 hk_c0 _ rfl]) rfl ?_
    have h_56 := Inv.g hI_M hk_c0 rfl 4 (a := 0) (b := 20) rfl rfl
    refine kx_icmp_ge 26 F 37 dX0_renew_23 (by decide) rfl (by omega) (by omega) (fun h_57 => ?_) (fun h_57 => ?_)
    · exact kx_vret F hQ ⟨hI_N_50, hF_N_50⟩ dX0_renew_37
    · refine kx_aload_n 27 F 0 dX0_renew_26 rfl rfl rfl ?_
      refine kx_iload_n 28 F 1 dX0_renew_27 rfl rfl rfl ?_
      refine kx_Vv 31 (ci := 0) F (As := [vI x1_49]) (st := []) vd_X0_68 (c_X0_note G l N_50 c0 x1_49 hI_N_50 hk_c0 (by omega)) hk_c0 rfl rfl rfl ⟨by decide, by decide⟩ rfl rfl (Nat.le_of_ble_eq_true rfl) dX0_renew_28 rfl ?_
      intro N_58 q_59
      obtain ⟨hI_N_58, hG_N_58⟩ := q_59
      have hF_N_58 : Fr f_c_X0_renew M N_58 := Fr.c hF_N_50 hG_N_58 rfl
      refine kx_iinc 34 F 1 (v := x1_49 + 1) (lo' := [some (vR G c0), some (vI (x1_49 + 1))]) dX0_renew_31 rfl (by omega) (by decide) rfl rfl rfl ?_
      refine kx_goto 18 F dX0_renew_34 (by decide) ?_
      exact ih_53 _ (by omega) (x1_49 + 1) N_58 hI_N_58 hF_N_58 (by omega) rfl
  exact L_51 _ 0 N_5 hI_N_5 hF_N_5 (by omega) rfl
theorem dX0_remove_0 : decode cX0_remove 0 = .ok (.iload_n 1, 1) := by decide +kernel
theorem dX0_remove_1 : decode cX0_remove 1 = .ok (.istore_n 2, 1) := by decide +kernel
theorem dX0_remove_2 : decode cX0_remove 2 = .ok (.iload_n 2, 1) := by decide +kernel
theorem dX0_remove_3 : decode cX0_remove 3 = .ok (.iconst 1, 1) := by decide +kernel
theorem dX0_remove_4 : decode cX0_remove 4 = .ok (.iadd, 1) := by decide +kernel
theorem dX0_remove_5 : decode cX0_remove 5 = .ok (.aload_n 0, 1) := by decide +kernel
theorem dX0_remove_6 : decode cX0_remove 6 = .ok (.getfield 46, 3) := by decide +kernel
theorem dX0_remove_9 : decode cX0_remove 9 = .ok (.if_icmp .ge 65, 3) := by decide +kernel
theorem dX0_remove_12 : decode cX0_remove 12 = .ok (.aload_n 0, 1) := by decide +kernel
theorem dX0_remove_13 : decode cX0_remove 13 = .ok (.getfield 9, 3) := by decide +kernel
theorem dX0_remove_16 : decode cX0_remove 16 = .ok (.iload_n 2, 1) := by decide +kernel
theorem dX0_remove_17 : decode cX0_remove 17 = .ok (.aload_n 0, 1) := by decide +kernel
theorem dX0_remove_18 : decode cX0_remove 18 = .ok (.getfield 9, 3) := by decide +kernel
theorem dX0_remove_21 : decode cX0_remove 21 = .ok (.iload_n 2, 1) := by decide +kernel
theorem dX0_remove_22 : decode cX0_remove 22 = .ok (.iconst 1, 1) := by decide +kernel
theorem dX0_remove_23 : decode cX0_remove 23 = .ok (.iadd, 1) := by decide +kernel
theorem dX0_remove_24 : decode cX0_remove 24 = .ok (.iaload, 1) := by decide +kernel
theorem dX0_remove_25 : decode cX0_remove 25 = .ok (.iastore, 1) := by decide +kernel
theorem dX0_remove_26 : decode cX0_remove 26 = .ok (.aload_n 0, 1) := by decide +kernel
theorem dX0_remove_27 : decode cX0_remove 27 = .ok (.getfield 15, 3) := by decide +kernel
theorem dX0_remove_30 : decode cX0_remove 30 = .ok (.iload_n 2, 1) := by decide +kernel
theorem dX0_remove_31 : decode cX0_remove 31 = .ok (.aload_n 0, 1) := by decide +kernel
theorem dX0_remove_32 : decode cX0_remove 32 = .ok (.getfield 15, 3) := by decide +kernel
theorem dX0_remove_35 : decode cX0_remove 35 = .ok (.iload_n 2, 1) := by decide +kernel
theorem dX0_remove_36 : decode cX0_remove 36 = .ok (.iconst 1, 1) := by decide +kernel
theorem dX0_remove_37 : decode cX0_remove 37 = .ok (.iadd, 1) := by decide +kernel
theorem dX0_remove_38 : decode cX0_remove 38 = .ok (.iaload, 1) := by decide +kernel
theorem dX0_remove_39 : decode cX0_remove 39 = .ok (.iastore, 1) := by decide +kernel
theorem dX0_remove_40 : decode cX0_remove 40 = .ok (.aload_n 0, 1) := by decide +kernel
theorem dX0_remove_41 : decode cX0_remove 41 = .ok (.getfield 18, 3) := by decide +kernel
theorem dX0_remove_44 : decode cX0_remove 44 = .ok (.iload_n 2, 1) := by decide +kernel
theorem dX0_remove_45 : decode cX0_remove 45 = .ok (.aload_n 0, 1) := by decide +kernel
theorem dX0_remove_46 : decode cX0_remove 46 = .ok (.getfield 18, 3) := by decide +kernel
theorem dX0_remove_49 : decode cX0_remove 49 = .ok (.iload_n 2, 1) := by decide +kernel
theorem dX0_remove_50 : decode cX0_remove 50 = .ok (.iconst 1, 1) := by decide +kernel
theorem dX0_remove_51 : decode cX0_remove 51 = .ok (.iadd, 1) := by decide +kernel
theorem dX0_remove_52 : decode cX0_remove 52 = .ok (.iaload, 1) := by decide +kernel
theorem dX0_remove_53 : decode cX0_remove 53 = .ok (.iastore, 1) := by decide +kernel
theorem dX0_remove_54 : decode cX0_remove 54 = .ok (.aload_n 0, 1) := by decide +kernel
theorem dX0_remove_55 : decode cX0_remove 55 = .ok (.getfield 21, 3) := by decide +kernel
theorem dX0_remove_58 : decode cX0_remove 58 = .ok (.iload_n 2, 1) := by decide +kernel
theorem dX0_remove_59 : decode cX0_remove 59 = .ok (.aload_n 0, 1) := by decide +kernel
theorem dX0_remove_60 : decode cX0_remove 60 = .ok (.getfield 21, 3) := by decide +kernel
theorem dX0_remove_63 : decode cX0_remove 63 = .ok (.iload_n 2, 1) := by decide +kernel
theorem dX0_remove_64 : decode cX0_remove 64 = .ok (.iconst 1, 1) := by decide +kernel
theorem dX0_remove_65 : decode cX0_remove 65 = .ok (.iadd, 1) := by decide +kernel
theorem dX0_remove_66 : decode cX0_remove 66 = .ok (.iaload, 1) := by decide +kernel
theorem dX0_remove_67 : decode cX0_remove 67 = .ok (.iastore, 1) := by decide +kernel
theorem dX0_remove_68 : decode cX0_remove 68 = .ok (.iinc 2 1, 3) := by decide +kernel
theorem dX0_remove_71 : decode cX0_remove 71 = .ok (.goto (-69), 3) := by decide +kernel
theorem dX0_remove_74 : decode cX0_remove 74 = .ok (.aload_n 0, 1) := by decide +kernel
theorem dX0_remove_75 : decode cX0_remove 75 = .ok (.dup, 1) := by decide +kernel
theorem dX0_remove_76 : decode cX0_remove 76 = .ok (.getfield 46, 3) := by decide +kernel
theorem dX0_remove_79 : decode cX0_remove 79 = .ok (.iconst 1, 1) := by decide +kernel
theorem dX0_remove_80 : decode cX0_remove 80 = .ok (.isub, 1) := by decide +kernel
theorem dX0_remove_81 : decode cX0_remove 81 = .ok (.putfield 46, 3) := by decide +kernel
theorem dX0_remove_84 : decode cX0_remove 84 = .ok (.aload_n 0, 1) := by decide +kernel
theorem dX0_remove_85 : decode cX0_remove 85 = .ok (.invokevirtual 49, 3) := by decide +kernel
theorem dX0_remove_88 : decode cX0_remove 88 = .ok (.return_, 1) := by decide +kernel
abbrev f_c_X0_remove : List (Nat × Int) := [(1, 4), (2, -1), (3, -1), (4, -1), (5, -1), (6, -1), (7, -1)]
set_option maxHeartbeats 4000000 in
set_option maxRecDepth 100000 in
theorem c_X0_remove (G : KG) (l : Launch) (M : Mem) (c0 : Int) (a1 : Int) (hI_M : Inv false M) (hk_c0 : kd c0 = 1) (hpre : -2147483648 ≤ a1 ∧ a1 ≤ 2147483647 ∧ 0 ≤ a1 ∧ a1 < (M c0 4)) : KC false G l yX0_remove cX0_remove 3 none (3, 64) [vR G c0, vI a1] M (fun A => kQv false G A (fun (N : Mem) => Inv false N ∧ Fr f_c_X0_remove M N)) := by
  refine kx_met (lo := [some (vR G c0), some (vI a1), none]) (by decide) (Nat.le_of_ble_eq_true rfl) rfl ?_
  intro X F hQ
  have hF_M : Fr f_c_X0_remove M M := Fr.rf _ _
  have h_1 := Inv.g hI_M hk_c0 rfl 4 (a := 0) (b := 20) rfl rfl
  refine kx_iload_n 1 F 1 dX0_remove_0 rfl rfl rfl ?_
  refine kx_istore_n 2 F 2 (lo' := [some (vR G c0), some (vI a1), some (vI a1)]) dX0_remove_1 rfl (by decide) rfl rfl rfl ?_
  have L_23 : ∀ (n_24 : Nat) (x2_21 : Int) (N_22 : Mem), Inv false N_22 → Fr f_c_X0_remove M N_22 → 0 ≤ x2_21 ∧ x2_21 ≤ 19 ∧ (N_22 c0 4) = (M c0 4) ∧ a1 ≤ x2_21 → (19 - (x2_21)).toNat = n_24 → KJ false G X N_22 2 [some (vR G c0), none, some (vI x2_21)] [] := by
    intro n_24
    refine Nat.strongRecOn n_24 ?_
    intro n_24 ih_25 x2_21 N_22 hI_N_22 hF_N_22 h_26 hm_27
    refine kx_iload_n 3 F 2 dX0_remove_2 rfl rfl rfl ?_
    refine kx_iconst 4 F dX0_remove_3 rfl ?_
    refine kx_iadd 5 F (v := x2_21 + 1) dX0_remove_4 rfl rfl ?_
    refine kx_aload_n 6 F 0 dX0_remove_5 rfl rfl rfl ?_
    refine kx_geti 9 F fl_X0_46 hk_c0 rfl rfl (j := 4) rfl dX0_remove_6 (v := (N_22 c0 4)) rfl rfl ?_
    have h_28 := Inv.g hI_N_22 hk_c0 rfl 4 (a := 0) (b := 20) rfl rfl
    refine kx_icmp_ge 12 F 74 dX0_remove_9 (by decide) rfl (by omega) (by omega) (fun h_29 => ?_) (fun h_29 => ?_)
    · refine kx_aload_n 75 F 0 dX0_remove_74 rfl rfl rfl ?_
      refine kx_dup 76 F dX0_remove_75 rfl rfl ?_
      refine kx_geti 79 F fl_X0_46 hk_c0 rfl rfl (j := 4) rfl dX0_remove_76 (v := (N_22 c0 4)) rfl rfl ?_
      refine kx_iconst 80 F dX0_remove_79 rfl ?_
      refine kx_isub 81 F (v := (N_22 c0 4) - 1) dX0_remove_80 rfl rfl ?_
      refine kx_puti 84 F fw_X0_46 rfl hk_c0 rfl rfl (j := 4) rfl dX0_remove_81 rfl ?_
      intro N_30 hM_N_30
      have hI_N_30 : Inv false N_30 := Inv.u hI_N_22 hM_N_30 hk_c0 (a := 0) (b := 20) rfl rfl rfl (by omega)
      have hF_N_30 : Fr f_c_X0_remove M N_30 := Fr.u hF_N_22 hM_N_30 hk_c0 rfl
      refine kx_aload_n 85 F 0 dX0_remove_84 rfl rfl rfl ?_
      refine kx_Vv 88 (ci := 0) F (As := []) (st := []) vd_X0_49 (c_X0_renew G l N_30 c0 hI_N_30 hk_c0) hk_c0 rfl rfl rfl ⟨by decide, by decide⟩ rfl rfl (Nat.le_of_ble_eq_true rfl) dX0_remove_85 rfl ?_
      intro N_31 q_32
      obtain ⟨hI_N_31, hG_N_31⟩ := q_32
      have hF_N_31 : Fr f_c_X0_remove M N_31 := Fr.c hF_N_30 hG_N_31 rfl
      exact kx_vret F hQ ⟨hI_N_31, hF_N_31⟩ dX0_remove_88
    · refine kx_aload_n 13 F 0 dX0_remove_12 rfl rfl rfl ?_
      refine kx_getr 16 F fl_X0_9 hk_c0 rfl rfl (j := 6) rfl dX0_remove_13 (v := (M c0 6)) (by rw [Fr.e hF_N_22 hk_c0 _ rfl]) rfl ?_
      have hk_33 : kd (M c0 6) = 2 := Inv.r hI_M hk_c0 rfl 6 rfl rfl
      refine kx_iload_n 17 F 2 dX0_remove_16 rfl rfl rfl ?_
      refine kx_aload_n 18 F 0 dX0_remove_17 rfl rfl rfl ?_
      refine kx_getr 21 F fl_X0_9 hk_c0 rfl rfl (j := 6) rfl dX0_remove_18 (v := (M c0 6)) (by rw [Fr.e hF_N_22 hk_c0 _ rfl]) rfl ?_
      refine kx_iload_n 22 F 2 dX0_remove_21 rfl rfl rfl ?_
      refine kx_iconst 23 F dX0_remove_22 rfl ?_
      refine kx_iadd 24 F (v := x2_21 + 1) dX0_remove_23 rfl rfl ?_
      refine kx_iald 25 F hk_33 rfl rfl (by omega) (by decide) dX0_remove_24 (v := (N_22 (M c0 6) (x2_21 + 1))) rfl rfl ?_
      have h_34 := Inv.g hI_N_22 hk_33 rfl (x2_21 + 1) (a := 0) (b := 5) rfl rfl
      refine kx_iast 26 F hk_33 rfl rfl (by omega) (by decide) dX0_remove_25 rfl ?_
      intro N_35 hM_N_35
      have hI_N_35 : Inv false N_35 := Inv.u hI_N_22 hM_N_35 hk_33 (a := 0) (b := 5) rfl rfl rfl (by omega)
      have hF_N_35 : Fr f_c_X0_remove M N_35 := Fr.u hF_N_22 hM_N_35 hk_33 rfl
      refine kx_aload_n 27 F 0 dX0_remove_26 rfl rfl rfl ?_
      refine kx_getr 30 F fl_X0_15 hk_c0 rfl rfl (j := 7) rfl dX0_remove_27 (v := (M c0 7)) (by rw [hM_N_35, mu_k hk_c0 hk_33 rfl, Fr.e hF_N_22 hk_c0 _ rfl]) rfl ?_
      have hk_36 : kd (M c0 7) = 3 := Inv.r hI_M hk_c0 rfl 7 rfl rfl
      refine kx_iload_n 31 F 2 dX0_remove_30 rfl rfl rfl ?_
      refine kx_aload_n 32 F 0 dX0_remove_31 rfl rfl rfl ?_
      refine kx_getr 35 F fl_X0_15 hk_c0 rfl rfl (j := 7) rfl dX0_remove_32 (v := (M c0 7)) (by rw [hM_N_35, mu_k hk_c0 hk_33 rfl, Fr.e hF_N_22 hk_c0 _ rfl]) rfl ?_
      refine kx_iload_n 36 F 2 dX0_remove_35 rfl rfl rfl ?_
      refine kx_iconst 37 F dX0_remove_36 rfl ?_
      refine kx_iadd 38 F (v := x2_21 + 1) dX0_remove_37 rfl rfl ?_
      refine kx_iald 39 F hk_36 rfl rfl (by omega) (by decide) dX0_remove_38 (v := (N_22 (M c0 7) (x2_21 + 1))) (by rw [hM_N_35, mu_k hk_36 hk_33 rfl]) rfl ?_
      have h_37 := Inv.g hI_N_22 hk_36 rfl (x2_21 + 1) (a := 0) (b := 2) rfl rfl
      refine kx_iast 40 F hk_36 rfl rfl (by omega) (by decide) dX0_remove_39 rfl ?_
      intro N_38 hM_N_38
      have hI_N_38 : Inv false N_38 := Inv.u hI_N_35 hM_N_38 hk_36 (a := 0) (b := 2) rfl rfl rfl (by omega)
      have hF_N_38 : Fr f_c_X0_remove M N_38 := Fr.u hF_N_35 hM_N_38 hk_36 rfl
      refine kx_aload_n 41 F 0 dX0_remove_40 rfl rfl rfl ?_
      refine kx_getr 44 F fl_X0_18 hk_c0 rfl rfl (j := 8) rfl dX0_remove_41 (v := (M c0 8)) (by rw [hM_N_38, mu_k hk_c0 hk_36 rfl, hM_N_35, mu_k hk_c0 hk_33 rfl, Fr.e hF_N_22 hk_c0 _ rfl]) rfl ?_
      have hk_39 : kd (M c0 8) = 4 := Inv.r hI_M hk_c0 rfl 8 rfl rfl
      refine kx_iload_n 45 F 2 dX0_remove_44 rfl rfl rfl ?_
      refine kx_aload_n 46 F 0 dX0_remove_45 rfl rfl rfl ?_
      refine kx_getr 49 F fl_X0_18 hk_c0 rfl rfl (j := 8) rfl dX0_remove_46 (v := (M c0 8)) (by rw [hM_N_38, mu_k hk_c0 hk_36 rfl, hM_N_35, mu_k hk_c0 hk_33 rfl, Fr.e hF_N_22 hk_c0 _ rfl]) rfl ?_
      refine kx_iload_n 50 F 2 dX0_remove_49 rfl rfl rfl ?_
      refine kx_iconst 51 F dX0_remove_50 rfl ?_
      refine kx_iadd 52 F (v := x2_21 + 1) dX0_remove_51 rfl rfl ?_
      refine kx_iald 53 F hk_39 rfl rfl (by omega) (by decide) dX0_remove_52 (v := (N_22 (M c0 8) (x2_21 + 1))) (by rw [hM_N_38, mu_k hk_39 hk_36 rfl, hM_N_35, mu_k hk_39 hk_33 rfl]) rfl ?_
      have h_40 := Inv.g hI_N_22 hk_39 rfl (x2_21 + 1) (a := 0) (b := 2) rfl rfl
      refine kx_iast 54 F hk_39 rfl rfl (by omega) (by decide) dX0_remove_53 rfl ?_
      intro N_41 hM_N_41
      have hI_N_41 : Inv false N_41 := Inv.u hI_N_38 hM_N_41 hk_39 (a := 0) (b := 2) rfl rfl rfl (by omega)
      have hF_N_41 : Fr f_c_X0_remove M N_41 := Fr.u hF_N_38 hM_N_41 hk_39 rfl
      refine kx_aload_n 55 F 0 dX0_remove_54 rfl rfl rfl ?_
      refine kx_getr 58 F fl_X0_21 hk_c0 rfl rfl (j := 9) rfl dX0_remove_55 (v := (M c0 9)) (by rw [hM_N_41, mu_k hk_c0 hk_39 rfl, hM_N_38, mu_k hk_c0 hk_36 rfl, hM_N_35, mu_k hk_c0 hk_33 rfl, Fr.e hF_N_22 hk_c0 _ rfl]) rfl ?_
      have hk_42 : kd (M c0 9) = 5 := Inv.r hI_M hk_c0 rfl 9 rfl rfl
      refine kx_iload_n 59 F 2 dX0_remove_58 rfl rfl rfl ?_
      refine kx_aload_n 60 F 0 dX0_remove_59 rfl rfl rfl ?_
      refine kx_getr 63 F fl_X0_21 hk_c0 rfl rfl (j := 9) rfl dX0_remove_60 (v := (M c0 9)) (by rw [hM_N_41, mu_k hk_c0 hk_39 rfl, hM_N_38, mu_k hk_c0 hk_36 rfl, hM_N_35, mu_k hk_c0 hk_33 rfl, Fr.e hF_N_22 hk_c0 _ rfl]) rfl ?_
      refine kx_iload_n 64 F 2 dX0_remove_63 rfl rfl rfl ?_
      refine kx_iconst 65 F dX0_remove_64 rfl ?_
      refine kx_iadd 66 F (v := x2_21 + 1) dX0_remove_65 rfl rfl ?_
      refine kx_iald 67 F hk_42 rfl rfl (by omega) (by decide) dX0_remove_66 (v := (N_22 (M c0 9) (x2_21 + 1))) (by rw [hM_N_41, mu_k hk_42 hk_39 rfl, hM_N_38, mu_k hk_42 hk_36 rfl, hM_N_35, mu_k hk_42 hk_33 rfl]) rfl ?_
      have h_43 := Inv.g hI_N_22 hk_42 rfl (x2_21 + 1) (a := (-1)) (b := 2) rfl rfl
      refine kx_iast 68 F hk_42 rfl rfl (by omega) (by decide) dX0_remove_67 rfl ?_
      intro N_44 hM_N_44
      have hI_N_44 : Inv false N_44 := Inv.u hI_N_41 hM_N_44 hk_42 (a := (-1)) (b := 2) rfl rfl rfl (by omega)
      have hF_N_44 : Fr f_c_X0_remove M N_44 := Fr.u hF_N_41 hM_N_44 hk_42 rfl
      refine kx_iinc 71 F 2 (v := x2_21 + 1) (lo' := [some (vR G c0), none, some (vI (x2_21 + 1))]) dX0_remove_68 rfl (by omega) (by decide) rfl rfl rfl ?_
      refine kx_goto 2 F dX0_remove_71 (by decide) ?_
      have e_45 : (N_44 c0 4) = (N_22 c0 4) := by rw [hM_N_44, mu_k hk_c0 hk_42 rfl, hM_N_41, mu_k hk_c0 hk_39 rfl, hM_N_38, mu_k hk_c0 hk_36 rfl, hM_N_35, mu_k hk_c0 hk_33 rfl]
      exact ih_25 _ (by omega) (x2_21 + 1) N_44 hI_N_44 hF_N_44 (by omega) rfl
  refine kx_drop 1 (lo' := [some (vR G c0), none, some (vI a1)]) rfl ?_
  exact L_23 _ a1 M hI_M hF_M (by omega) rfl
theorem dX0_clear_0 : decode cX0_clear 0 = .ok (.aload_n 0, 1) := by decide +kernel
theorem dX0_clear_1 : decode cX0_clear 1 = .ok (.iload_n 1, 1) := by decide +kernel
theorem dX0_clear_2 : decode cX0_clear 2 = .ok (.putfield 30, 3) := by decide +kernel
theorem dX0_clear_5 : decode cX0_clear 5 = .ok (.aload_n 0, 1) := by decide +kernel
theorem dX0_clear_6 : decode cX0_clear 6 = .ok (.iload_n 2, 1) := by decide +kernel
theorem dX0_clear_7 : decode cX0_clear 7 = .ok (.putfield 34, 3) := by decide +kernel
theorem dX0_clear_10 : decode cX0_clear 10 = .ok (.aload_n 0, 1) := by decide +kernel
theorem dX0_clear_11 : decode cX0_clear 11 = .ok (.iload_n 3, 1) := by decide +kernel
theorem dX0_clear_12 : decode cX0_clear 12 = .ok (.putfield 37, 3) := by decide +kernel
theorem dX0_clear_15 : decode cX0_clear 15 = .ok (.aload_n 0, 1) := by decide +kernel
theorem dX0_clear_16 : decode cX0_clear 16 = .ok (.iconst 0, 1) := by decide +kernel
theorem dX0_clear_17 : decode cX0_clear 17 = .ok (.putfield 40, 3) := by decide +kernel
theorem dX0_clear_20 : decode cX0_clear 20 = .ok (.aload_n 0, 1) := by decide +kernel
theorem dX0_clear_21 : decode cX0_clear 21 = .ok (.iconst 0, 1) := by decide +kernel
theorem dX0_clear_22 : decode cX0_clear 22 = .ok (.putfield 43, 3) := by decide +kernel
theorem dX0_clear_25 : decode cX0_clear 25 = .ok (.aload_n 0, 1) := by decide +kernel
theorem dX0_clear_26 : decode cX0_clear 26 = .ok (.iconst 0, 1) := by decide +kernel
theorem dX0_clear_27 : decode cX0_clear 27 = .ok (.putfield 46, 3) := by decide +kernel
theorem dX0_clear_30 : decode cX0_clear 30 = .ok (.aload_n 0, 1) := by decide +kernel
theorem dX0_clear_31 : decode cX0_clear 31 = .ok (.invokevirtual 49, 3) := by decide +kernel
theorem dX0_clear_34 : decode cX0_clear 34 = .ok (.return_, 1) := by decide +kernel
abbrev f_c_X0_clear : List (Nat × Int) := [(1, 0), (1, 1), (1, 2), (1, 3), (1, 4), (1, 5), (6, -1), (7, -1)]
set_option maxHeartbeats 4000000 in
set_option maxRecDepth 100000 in
theorem c_X0_clear (G : KG) (l : Launch) (M : Mem) (c0 : Int) (a1 : Int) (a2 : Int) (a3 : Int) (hI_M : Inv false M) (hk_c0 : kd c0 = 1) (hpre : -2147483648 ≤ a1 ∧ a1 ≤ 2147483647 ∧ -2147483648 ≤ a2 ∧ a2 ≤ 2147483647 ∧ -2147483648 ≤ a3 ∧ a3 ≤ 2147483647 ∧ 0 ≤ a1 ∧ a1 ≤ 2 ∧ 1 ≤ a2 ∧ a2 ≤ 3 ∧ 1 ≤ a3 ∧ a3 ≤ 3) : KC false G l yX0_clear cX0_clear 4 none (3, 64) [vR G c0, vI a1, vI a2, vI a3] M (fun A => kQv false G A (fun (N : Mem) => Inv false N ∧ Fr f_c_X0_clear M N)) := by
  refine kx_met (lo := [some (vR G c0), some (vI a1), some (vI a2), some (vI a3)]) (by decide) (Nat.le_of_ble_eq_true rfl) rfl ?_
  intro X F hQ
  have hF_M : Fr f_c_X0_clear M M := Fr.rf _ _
  refine kx_aload_n 1 F 0 dX0_clear_0 rfl rfl rfl ?_
  refine kx_iload_n 2 F 1 dX0_clear_1 rfl rfl rfl ?_
  refine kx_puti 5 F fw_X0_30 rfl hk_c0 rfl rfl (j := 5) rfl dX0_clear_2 rfl ?_
  intro N_1 hM_N_1
  have hI_N_1 : Inv false N_1 := Inv.u hI_M hM_N_1 hk_c0 (a := 0) (b := 2) rfl rfl rfl (by omega)
  have hF_N_1 : Fr f_c_X0_clear M N_1 := Fr.u hF_M hM_N_1 hk_c0 rfl
  refine kx_aload_n 6 F 0 dX0_clear_5 rfl rfl rfl ?_
  refine kx_iload_n 7 F 2 dX0_clear_6 rfl rfl rfl ?_
  refine kx_puti 10 F fw_X0_34 rfl hk_c0 rfl rfl (j := 0) rfl dX0_clear_7 rfl ?_
  intro N_2 hM_N_2
  have hI_N_2 : Inv false N_2 := Inv.u hI_N_1 hM_N_2 hk_c0 (a := 0) (b := 3) rfl rfl rfl (by omega)
  have hF_N_2 : Fr f_c_X0_clear M N_2 := Fr.u hF_N_1 hM_N_2 hk_c0 rfl
  refine kx_aload_n 11 F 0 dX0_clear_10 rfl rfl rfl ?_
  refine kx_iload_n 12 F 3 dX0_clear_11 rfl rfl rfl ?_
  refine kx_puti 15 F fw_X0_37 rfl hk_c0 rfl rfl (j := 1) rfl dX0_clear_12 rfl ?_
  intro N_3 hM_N_3
  have hI_N_3 : Inv false N_3 := Inv.u hI_N_2 hM_N_3 hk_c0 (a := 0) (b := 3) rfl rfl rfl (by omega)
  have hF_N_3 : Fr f_c_X0_clear M N_3 := Fr.u hF_N_2 hM_N_3 hk_c0 rfl
  refine kx_aload_n 16 F 0 dX0_clear_15 rfl rfl rfl ?_
  refine kx_iconst 17 F dX0_clear_16 rfl ?_
  refine kx_puti 20 F fw_X0_40 rfl hk_c0 rfl rfl (j := 2) rfl dX0_clear_17 rfl ?_
  intro N_4 hM_N_4
  have hI_N_4 : Inv false N_4 := Inv.u hI_N_3 hM_N_4 hk_c0 (a := 0) (b := 7) rfl rfl rfl (by omega)
  have hF_N_4 : Fr f_c_X0_clear M N_4 := Fr.u hF_N_3 hM_N_4 hk_c0 rfl
  refine kx_aload_n 21 F 0 dX0_clear_20 rfl rfl rfl ?_
  refine kx_iconst 22 F dX0_clear_21 rfl ?_
  refine kx_puti 25 F fw_X0_43 rfl hk_c0 rfl rfl (j := 3) rfl dX0_clear_22 rfl ?_
  intro N_5 hM_N_5
  have hI_N_5 : Inv false N_5 := Inv.u hI_N_4 hM_N_5 hk_c0 (a := 0) (b := 7) rfl rfl rfl (by omega)
  have hF_N_5 : Fr f_c_X0_clear M N_5 := Fr.u hF_N_4 hM_N_5 hk_c0 rfl
  refine kx_aload_n 26 F 0 dX0_clear_25 rfl rfl rfl ?_
  refine kx_iconst 27 F dX0_clear_26 rfl ?_
  refine kx_puti 30 F fw_X0_46 rfl hk_c0 rfl rfl (j := 4) rfl dX0_clear_27 rfl ?_
  intro N_6 hM_N_6
  have hI_N_6 : Inv false N_6 := Inv.u hI_N_5 hM_N_6 hk_c0 (a := 0) (b := 20) rfl rfl rfl (by omega)
  have hF_N_6 : Fr f_c_X0_clear M N_6 := Fr.u hF_N_5 hM_N_6 hk_c0 rfl
  refine kx_aload_n 31 F 0 dX0_clear_30 rfl rfl rfl ?_
  refine kx_Vv 34 (ci := 0) F (As := []) (st := []) vd_X0_49 (c_X0_renew G l N_6 c0 hI_N_6 hk_c0) hk_c0 rfl rfl rfl ⟨by decide, by decide⟩ rfl rfl (Nat.le_of_ble_eq_true rfl) dX0_clear_31 rfl ?_
  intro N_7 q_8
  obtain ⟨hI_N_7, hG_N_7⟩ := q_8
  have hF_N_7 : Fr f_c_X0_clear M N_7 := Fr.c hF_N_6 hG_N_7 rfl
  exact kx_vret F hQ ⟨hI_N_7, hF_N_7⟩ dX0_clear_34
theorem dX0_takeAll_0 : decode cX0_takeAll 0 = .ok (.aload_n 0, 1) := by decide +kernel
theorem dX0_takeAll_1 : decode cX0_takeAll 1 = .ok (.iconst 0, 1) := by decide +kernel
theorem dX0_takeAll_2 : decode cX0_takeAll 2 = .ok (.iconst 1, 1) := by decide +kernel
theorem dX0_takeAll_3 : decode cX0_takeAll 3 = .ok (.iconst 1, 1) := by decide +kernel
theorem dX0_takeAll_4 : decode cX0_takeAll 4 = .ok (.invokevirtual 52, 3) := by decide +kernel
theorem dX0_takeAll_7 : decode cX0_takeAll 7 = .ok (.aload_n 0, 1) := by decide +kernel
theorem dX0_takeAll_8 : decode cX0_takeAll 8 = .ok (.iconst 1, 1) := by decide +kernel
theorem dX0_takeAll_9 : decode cX0_takeAll 9 = .ok (.putfield 40, 3) := by decide +kernel
theorem dX0_takeAll_12 : decode cX0_takeAll 12 = .ok (.aload_n 0, 1) := by decide +kernel
theorem dX0_takeAll_13 : decode cX0_takeAll 13 = .ok (.iconst 1, 1) := by decide +kernel
theorem dX0_takeAll_14 : decode cX0_takeAll 14 = .ok (.putfield 43, 3) := by decide +kernel
theorem dX0_takeAll_17 : decode cX0_takeAll 17 = .ok (.aload_n 0, 1) := by decide +kernel
theorem dX0_takeAll_18 : decode cX0_takeAll 18 = .ok (.getfield 24, 3) := by decide +kernel
theorem dX0_takeAll_21 : decode cX0_takeAll 21 = .ok (.iconst 1, 1) := by decide +kernel
theorem dX0_takeAll_22 : decode cX0_takeAll 22 = .ok (.invokestatic 56, 3) := by decide +kernel
theorem dX0_takeAll_25 : decode cX0_takeAll 25 = .ok (.iconst 0, 1) := by decide +kernel
theorem dX0_takeAll_26 : decode cX0_takeAll 26 = .ok (.istore_n 1, 1) := by decide +kernel
theorem dX0_takeAll_27 : decode cX0_takeAll 27 = .ok (.iload_n 1, 1) := by decide +kernel
theorem dX0_takeAll_28 : decode cX0_takeAll 28 = .ok (.bipush 6, 2) := by decide +kernel
theorem dX0_takeAll_30 : decode cX0_takeAll 30 = .ok (.if_icmp .ge 18, 3) := by decide +kernel
theorem dX0_takeAll_33 : decode cX0_takeAll 33 = .ok (.aload_n 0, 1) := by decide +kernel
theorem dX0_takeAll_34 : decode cX0_takeAll 34 = .ok (.getfield 27, 3) := by decide +kernel
theorem dX0_takeAll_37 : decode cX0_takeAll 37 = .ok (.iload_n 1, 1) := by decide +kernel
theorem dX0_takeAll_38 : decode cX0_takeAll 38 = .ok (.iconst 3, 1) := by decide +kernel
theorem dX0_takeAll_39 : decode cX0_takeAll 39 = .ok (.imul, 1) := by decide +kernel
theorem dX0_takeAll_40 : decode cX0_takeAll 40 = .ok (.iconst 1, 1) := by decide +kernel
theorem dX0_takeAll_41 : decode cX0_takeAll 41 = .ok (.iastore, 1) := by decide +kernel
theorem dX0_takeAll_42 : decode cX0_takeAll 42 = .ok (.iinc 1 1, 3) := by decide +kernel
theorem dX0_takeAll_45 : decode cX0_takeAll 45 = .ok (.goto (-18), 3) := by decide +kernel
theorem dX0_takeAll_48 : decode cX0_takeAll 48 = .ok (.return_, 1) := by decide +kernel
abbrev f_c_X0_takeAll : List (Nat × Int) := [(1, 0), (1, 1), (1, 2), (1, 3), (1, 4), (1, 5), (6, -1), (7, -1)]
set_option maxHeartbeats 4000000 in
set_option maxRecDepth 100000 in
theorem c_X0_takeAll (G : KG) (l : Launch) (M : Mem) (c0 : Int) (hI_M : Inv false M) (hk_c0 : kd c0 = 1) : KC false G l yX0_takeAll cX0_takeAll 2 none (4, 87) [vR G c0] M (fun A => kQv false G A (fun (N : Mem) => Inv false N ∧ Fr f_c_X0_takeAll M N)) := by
  refine kx_met (lo := [some (vR G c0), none]) (by decide) (Nat.le_of_ble_eq_true rfl) rfl ?_
  intro X F hQ
  have hF_M : Fr f_c_X0_takeAll M M := Fr.rf _ _
  refine kx_aload_n 1 F 0 dX0_takeAll_0 rfl rfl rfl ?_
  refine kx_iconst 2 F dX0_takeAll_1 rfl ?_
  refine kx_iconst 3 F dX0_takeAll_2 rfl ?_
  refine kx_iconst 4 F dX0_takeAll_3 rfl ?_
  refine kx_Vv 7 (ci := 0) F (As := [vI 0, vI 1, vI 1]) (st := []) vd_X0_52 (c_X0_clear G l M c0 0 1 1 hI_M hk_c0 (by omega)) hk_c0 rfl rfl rfl ⟨by decide, by decide⟩ rfl rfl (Nat.le_of_ble_eq_true rfl) dX0_takeAll_4 rfl ?_
  intro N_1 q_2
  obtain ⟨hI_N_1, hG_N_1⟩ := q_2
  have hF_N_1 : Fr f_c_X0_takeAll M N_1 := Fr.c hF_M hG_N_1 rfl
  refine kx_aload_n 8 F 0 dX0_takeAll_7 rfl rfl rfl ?_
  refine kx_iconst 9 F dX0_takeAll_8 rfl ?_
  refine kx_puti 12 F fw_X0_40 rfl hk_c0 rfl rfl (j := 2) rfl dX0_takeAll_9 rfl ?_
  intro N_3 hM_N_3
  have hI_N_3 : Inv false N_3 := Inv.u hI_N_1 hM_N_3 hk_c0 (a := 0) (b := 7) rfl rfl rfl (by omega)
  have hF_N_3 : Fr f_c_X0_takeAll M N_3 := Fr.u hF_N_1 hM_N_3 hk_c0 rfl
  refine kx_aload_n 13 F 0 dX0_takeAll_12 rfl rfl rfl ?_
  refine kx_iconst 14 F dX0_takeAll_13 rfl ?_
  refine kx_puti 17 F fw_X0_43 rfl hk_c0 rfl rfl (j := 3) rfl dX0_takeAll_14 rfl ?_
  intro N_4 hM_N_4
  have hI_N_4 : Inv false N_4 := Inv.u hI_N_3 hM_N_4 hk_c0 (a := 0) (b := 7) rfl rfl rfl (by omega)
  have hF_N_4 : Fr f_c_X0_takeAll M N_4 := Fr.u hF_N_3 hM_N_4 hk_c0 rfl
  refine kx_aload_n 18 F 0 dX0_takeAll_17 rfl rfl rfl ?_
  refine kx_getr 21 F fl_X0_24 hk_c0 rfl rfl (j := 10) rfl dX0_takeAll_18 (v := (M c0 10)) (by rw [hM_N_4, mu_i (by omega), hM_N_3, mu_i (by omega), Fr.e hG_N_1 hk_c0 _ rfl]) rfl ?_
  have hk_5 : kd (M c0 10) = 6 := Inv.r hI_M hk_c0 rfl 10 rfl rfl
  refine kx_iconst 22 F dX0_takeAll_21 rfl ?_
  refine kx_Sv 25 F (As := [vR G (M c0 10), vI 1]) (st := []) sd_X0_56 (c_fill_step G l N_4 (M c0 10) 1 hI_N_4 hk_5 (by omega)) ⟨by decide, by decide⟩ rfl rfl (Nat.le_of_ble_eq_true rfl) dX0_takeAll_22 rfl ?_
  intro N_6 q_7
  obtain ⟨hI_N_6, hG_N_6⟩ := q_7
  have hF_N_6 : Fr f_c_X0_takeAll M N_6 := Fr.c hF_N_4 hG_N_6 rfl
  refine kx_iconst 26 F dX0_takeAll_25 rfl ?_
  refine kx_istore_n 27 F 1 (lo' := [some (vR G c0), some (vI 0)]) dX0_takeAll_26 rfl (by decide) rfl rfl rfl ?_
  have L_45 : ∀ (n_46 : Nat) (x1_43 : Int) (N_44 : Mem), Inv false N_44 → Fr f_c_X0_takeAll M N_44 → 0 ≤ x1_43 ∧ x1_43 ≤ 6 → (6 - (x1_43)).toNat = n_46 → KJ false G X N_44 27 [some (vR G c0), some (vI x1_43)] [] := by
    intro n_46
    refine Nat.strongRecOn n_46 ?_
    intro n_46 ih_47 x1_43 N_44 hI_N_44 hF_N_44 h_48 hm_49
    refine kx_iload_n 28 F 1 dX0_takeAll_27 rfl rfl rfl ?_
    refine kx_bipush 30 F dX0_takeAll_28 (by decide) rfl ?_
    refine kx_icmp_ge 33 F 48 dX0_takeAll_30 (by decide) rfl (by omega) (by decide) (fun h_50 => ?_) (fun h_50 => ?_)
    · exact kx_vret F hQ ⟨hI_N_44, hF_N_44⟩ dX0_takeAll_48
    · refine kx_aload_n 34 F 0 dX0_takeAll_33 rfl rfl rfl ?_
      refine kx_getr 37 F fl_X0_27 hk_c0 rfl rfl (j := 11) rfl dX0_takeAll_34 (v := (M c0 11)) (by rw [Fr.e hF_N_44 hk_c0 _ rfl]) rfl ?_
      have hk_51 : kd (M c0 11) = 7 := Inv.r hI_M hk_c0 rfl 11 rfl rfl
      refine kx_iload_n 38 F 1 dX0_takeAll_37 rfl rfl rfl ?_
      refine kx_iconst 39 F dX0_takeAll_38 rfl ?_
      refine kx_imul 40 F (v := 3 * x1_43) dX0_takeAll_39 (by omega) rfl ?_
      refine kx_iconst 41 F dX0_takeAll_40 rfl ?_
      refine kx_iast 42 F hk_51 rfl rfl (by omega) (by decide) dX0_takeAll_41 rfl ?_
      intro N_52 hM_N_52
      have hI_N_52 : Inv false N_52 := Inv.u hI_N_44 hM_N_52 hk_51 (a := 0) (b := 511) rfl rfl rfl (by omega)
      have hF_N_52 : Fr f_c_X0_takeAll M N_52 := Fr.u hF_N_44 hM_N_52 hk_51 rfl
      refine kx_iinc 45 F 1 (v := x1_43 + 1) (lo' := [some (vR G c0), some (vI (x1_43 + 1))]) dX0_takeAll_42 rfl (by omega) (by decide) rfl rfl rfl ?_
      refine kx_goto 27 F dX0_takeAll_45 (by decide) ?_
      exact ih_47 _ (by omega) (x1_43 + 1) N_52 hI_N_52 hF_N_52 (by omega) rfl
  exact L_45 _ 0 N_6 hI_N_6 hF_N_6 (by omega) rfl
theorem dX0_over_0 : decode cX0_over 0 = .ok (.iconst 0, 1) := by decide +kernel
theorem dX0_over_1 : decode cX0_over 1 = .ok (.istore 4, 2) := by decide +kernel
theorem dX0_over_3 : decode cX0_over 3 = .ok (.iconst 0, 1) := by decide +kernel
theorem dX0_over_4 : decode cX0_over 4 = .ok (.istore 5, 2) := by decide +kernel
theorem dX0_over_6 : decode cX0_over 6 = .ok (.iload 5, 2) := by decide +kernel
theorem dX0_over_8 : decode cX0_over 8 = .ok (.iconst 3, 1) := by decide +kernel
theorem dX0_over_9 : decode cX0_over 9 = .ok (.if_icmp .ge 61, 3) := by decide +kernel
theorem dX0_over_12 : decode cX0_over 12 = .ok (.aload_n 0, 1) := by decide +kernel
theorem dX0_over_13 : decode cX0_over 13 = .ok (.getfield 27, 3) := by decide +kernel
theorem dX0_over_16 : decode cX0_over 16 = .ok (.iload_n 1, 1) := by decide +kernel
theorem dX0_over_17 : decode cX0_over 17 = .ok (.iconst 3, 1) := by decide +kernel
theorem dX0_over_18 : decode cX0_over 18 = .ok (.imul, 1) := by decide +kernel
theorem dX0_over_19 : decode cX0_over 19 = .ok (.iload 5, 2) := by decide +kernel
theorem dX0_over_21 : decode cX0_over 21 = .ok (.iadd, 1) := by decide +kernel
theorem dX0_over_22 : decode cX0_over 22 = .ok (.iaload, 1) := by decide +kernel
theorem dX0_over_23 : decode cX0_over 23 = .ok (.istore 6, 2) := by decide +kernel
theorem dX0_over_25 : decode cX0_over 25 = .ok (.aload_n 0, 1) := by decide +kernel
theorem dX0_over_26 : decode cX0_over 26 = .ok (.getfield 27, 3) := by decide +kernel
theorem dX0_over_29 : decode cX0_over 29 = .ok (.iload_n 2, 1) := by decide +kernel
theorem dX0_over_30 : decode cX0_over 30 = .ok (.iconst 3, 1) := by decide +kernel
theorem dX0_over_31 : decode cX0_over 31 = .ok (.imul, 1) := by decide +kernel
theorem dX0_over_32 : decode cX0_over 32 = .ok (.iload 5, 2) := by decide +kernel
theorem dX0_over_34 : decode cX0_over 34 = .ok (.iadd, 1) := by decide +kernel
theorem dX0_over_35 : decode cX0_over 35 = .ok (.iaload, 1) := by decide +kernel
theorem dX0_over_36 : decode cX0_over 36 = .ok (.istore 7, 2) := by decide +kernel
theorem dX0_over_38 : decode cX0_over 38 = .ok (.iload 6, 2) := by decide +kernel
theorem dX0_over_40 : decode cX0_over 40 = .ok (.ifCond .eq 24, 3) := by decide +kernel
theorem dX0_over_43 : decode cX0_over 43 = .ok (.iload 7, 2) := by decide +kernel
theorem dX0_over_45 : decode cX0_over 45 = .ok (.ifCond .eq 19, 3) := by decide +kernel
theorem dX0_over_48 : decode cX0_over 48 = .ok (.iload 4, 2) := by decide +kernel
theorem dX0_over_50 : decode cX0_over 50 = .ok (.iload 6, 2) := by decide +kernel
theorem dX0_over_52 : decode cX0_over 52 = .ok (.iload_n 3, 1) := by decide +kernel
theorem dX0_over_53 : decode cX0_over 53 = .ok (.invokestatic 78, 3) := by decide +kernel
theorem dX0_over_56 : decode cX0_over 56 = .ok (.iload 7, 2) := by decide +kernel
theorem dX0_over_58 : decode cX0_over 58 = .ok (.invokestatic 78, 3) := by decide +kernel
theorem dX0_over_61 : decode cX0_over 61 = .ok (.ior, 1) := by decide +kernel
theorem dX0_over_62 : decode cX0_over 62 = .ok (.istore 4, 2) := by decide +kernel
theorem dX0_over_64 : decode cX0_over 64 = .ok (.iinc 5 1, 3) := by decide +kernel
theorem dX0_over_67 : decode cX0_over 67 = .ok (.goto (-61), 3) := by decide +kernel
theorem dX0_over_70 : decode cX0_over 70 = .ok (.iload 4, 2) := by decide +kernel
theorem dX0_over_72 : decode cX0_over 72 = .ok (.ireturn, 1) := by decide +kernel
set_option maxHeartbeats 4000000 in
set_option maxRecDepth 100000 in
theorem c_X0_over (G : KG) (l : Launch) (M : Mem) (c0 : Int) (a1 : Int) (a2 : Int) (a3 : Int) (hI_M : Inv false M) (hk_c0 : kd c0 = 1) (hpre : -2147483648 ≤ a1 ∧ a1 ≤ 2147483647 ∧ -2147483648 ≤ a2 ∧ a2 ≤ 2147483647 ∧ -2147483648 ≤ a3 ∧ a3 ≤ 2147483647 ∧ 0 ≤ a1 ∧ a1 ≤ 5 ∧ 0 ≤ a2 ∧ a2 ≤ 5) : KC false G l yX0_over cX0_over 8 (some .int) (1, 21) [vR G c0, vI a1, vI a2, vI a3] M (fun A => kQi false G A (fun (r : Int) (N : Mem) => M = N ∧ (0 ≤ r ∧ r ≤ 511))) := by
  refine kx_met (lo := [some (vR G c0), some (vI a1), some (vI a2), some (vI a3), none, none, none, none]) (by decide) (Nat.le_of_ble_eq_true rfl) rfl ?_
  intro X F hQ
  refine kx_iconst 1 F dX0_over_0 rfl ?_
  refine kx_istore 3 F 4 (lo' := [some (vR G c0), some (vI a1), some (vI a2), some (vI a3), some (vI 0), none, none, none]) dX0_over_1 (by decide) rfl rfl rfl ?_
  refine kx_iconst 4 F dX0_over_3 rfl ?_
  refine kx_istore 6 F 5 (lo' := [some (vR G c0), some (vI a1), some (vI a2), some (vI a3), some (vI 0), some (vI 0), none, none]) dX0_over_4 (by decide) rfl rfl rfl ?_
  have L_63 : ∀ (n_64 : Nat) (x4_61 : Int) (x5_62 : Int), 0 ≤ x4_61 ∧ x4_61 ≤ 511 ∧ 0 ≤ x5_62 ∧ x5_62 ≤ 3 → (3 - (x5_62)).toNat = n_64 → KJ false G X M 6 [some (vR G c0), some (vI a1), some (vI a2), some (vI a3), some (vI x4_61), some (vI x5_62), none, none] [] := by
    intro n_64
    refine Nat.strongRecOn n_64 ?_
    intro n_64 ih_65 x4_61 x5_62 h_66 hm_67
    refine kx_iload 8 F 5 dX0_over_6 rfl rfl ?_
    refine kx_iconst 9 F dX0_over_8 rfl ?_
    refine kx_icmp_ge 12 F 70 dX0_over_9 (by decide) rfl (by omega) (by decide) (fun h_68 => ?_) (fun h_68 => ?_)
    · refine kx_iload 72 F 4 dX0_over_70 rfl rfl ?_
      exact kx_iret F hQ ⟨rfl, (by omega)⟩ dX0_over_72
    · refine kx_aload_n 13 F 0 dX0_over_12 rfl rfl rfl ?_
      refine kx_getr 16 F fl_X0_27 hk_c0 rfl rfl (j := 11) rfl dX0_over_13 (v := (M c0 11)) rfl rfl ?_
      have hk_69 : kd (M c0 11) = 7 := Inv.r hI_M hk_c0 rfl 11 rfl rfl
      refine kx_iload_n 17 F 1 dX0_over_16 rfl rfl rfl ?_
      refine kx_iconst 18 F dX0_over_17 rfl ?_
      refine kx_imul 19 F (v := 3 * a1) dX0_over_18 (by omega) rfl ?_
      refine kx_iload 21 F 5 dX0_over_19 rfl rfl ?_
      refine kx_iadd 22 F (v := 3 * a1 + x5_62) dX0_over_21 rfl rfl ?_
      refine kx_iald 23 F hk_69 rfl rfl (by omega) (by decide) dX0_over_22 (v := (M (M c0 11) (3 * a1 + x5_62))) rfl rfl ?_
      have h_70 := Inv.g hI_M hk_69 rfl (3 * a1 + x5_62) (a := 0) (b := 511) rfl rfl
      refine kx_istore 25 F 6 (lo' := [some (vR G c0), some (vI a1), some (vI a2), some (vI a3), some (vI x4_61), some (vI x5_62), some (vI (M (M c0 11) (3 * a1 + x5_62))), none]) dX0_over_23 (by decide) rfl rfl rfl ?_
      refine kx_aload_n 26 F 0 dX0_over_25 rfl rfl rfl ?_
      refine kx_getr 29 F fl_X0_27 hk_c0 rfl rfl (j := 11) rfl dX0_over_26 (v := (M c0 11)) rfl rfl ?_
      refine kx_iload_n 30 F 2 dX0_over_29 rfl rfl rfl ?_
      refine kx_iconst 31 F dX0_over_30 rfl ?_
      refine kx_imul 32 F (v := 3 * a2) dX0_over_31 (by omega) rfl ?_
      refine kx_iload 34 F 5 dX0_over_32 rfl rfl ?_
      refine kx_iadd 35 F (v := 3 * a2 + x5_62) dX0_over_34 rfl rfl ?_
      refine kx_iald 36 F hk_69 rfl rfl (by omega) (by decide) dX0_over_35 (v := (M (M c0 11) (3 * a2 + x5_62))) rfl rfl ?_
      have h_71 := Inv.g hI_M hk_69 rfl (3 * a2 + x5_62) (a := 0) (b := 511) rfl rfl
      refine kx_istore 38 F 7 (lo' := [some (vR G c0), some (vI a1), some (vI a2), some (vI a3), some (vI x4_61), some (vI x5_62), some (vI (M (M c0 11) (3 * a1 + x5_62))), some (vI (M (M c0 11) (3 * a2 + x5_62)))]) dX0_over_36 (by decide) rfl rfl rfl ?_
      refine kx_iload 40 F 6 dX0_over_38 rfl rfl ?_
      have J_82 : ∀ (x4_81 : Int), 0 ≤ x4_81 ∧ x4_81 ≤ 511 → KJ false G X M 64 [some (vR G c0), some (vI a1), some (vI a2), some (vI a3), some (vI x4_81), some (vI x5_62), none, none] [] := by
        intro x4_81 h_83
        refine kx_iinc 67 F 5 (v := x5_62 + 1) (lo' := [some (vR G c0), some (vI a1), some (vI a2), some (vI a3), some (vI x4_81), some (vI (x5_62 + 1)), none, none]) dX0_over_64 rfl (by omega) (by decide) rfl rfl rfl ?_
        refine kx_goto 6 F dX0_over_67 (by decide) ?_
        exact ih_65 _ (by omega) x4_81 (x5_62 + 1) (by omega) rfl
      refine kx_if_eq 43 F 64 dX0_over_40 (by decide) rfl (by omega) (fun h_84 => ?_) (fun h_84 => ?_)
      · refine kx_drop 6 (lo' := [some (vR G c0), some (vI a1), some (vI a2), some (vI a3), some (vI x4_61), some (vI x5_62), none, some (vI (M (M c0 11) (3 * a2 + x5_62)))]) rfl ?_
        refine kx_drop 7 (lo' := [some (vR G c0), some (vI a1), some (vI a2), some (vI a3), some (vI x4_61), some (vI x5_62), none, none]) rfl ?_
        exact J_82 x4_61 (by omega)
      · refine kx_iload 45 F 7 dX0_over_43 rfl rfl ?_
        refine kx_if_eq 48 F 64 dX0_over_45 (by decide) rfl (by omega) (fun h_85 => ?_) (fun h_85 => ?_)
        · refine kx_drop 6 (lo' := [some (vR G c0), some (vI a1), some (vI a2), some (vI a3), some (vI x4_61), some (vI x5_62), none, some (vI (M (M c0 11) (3 * a2 + x5_62)))]) rfl ?_
          refine kx_drop 7 (lo' := [some (vR G c0), some (vI a1), some (vI a2), some (vI a3), some (vI x4_61), some (vI x5_62), none, none]) rfl ?_
          exact J_82 x4_61 (by omega)
        · refine kx_iload 50 F 4 dX0_over_48 rfl rfl ?_
          refine kx_iload 52 F 6 dX0_over_50 rfl rfl ?_
          refine kx_iload_n 53 F 3 dX0_over_52 rfl rfl rfl ?_
          refine kx_Si 56 F (As := [vI (M (M c0 11) (3 * a1 + x5_62)), vI a3]) (st := [vI x4_61]) sd_X0_78 (c_X2_compose G l M (M (M c0 11) (3 * a1 + x5_62)) a3 hI_M (by omega)) ⟨by decide, by decide⟩ rfl rfl (Nat.le_of_ble_eq_true rfl) dX0_over_53 rfl ?_
          intro r_86 N_87 q_88
          obtain ⟨rfl, q_88c⟩ := q_88
          refine kx_iload 58 F 7 dX0_over_56 rfl rfl ?_
          refine kx_Si 61 F (As := [vI r_86, vI (M (M c0 11) (3 * a2 + x5_62))]) (st := [vI x4_61]) sd_X0_78 (c_X2_compose G l M r_86 (M (M c0 11) (3 * a2 + x5_62)) hI_M (by omega)) ⟨by decide, by decide⟩ rfl rfl (Nat.le_of_ble_eq_true rfl) dX0_over_58 rfl ?_
          intro r_89 N_90 q_91
          obtain ⟨rfl, q_91c⟩ := q_91
          refine kx_ior 62 F (v := (zor x4_61 r_89)) dX0_over_61 rfl rfl ?_
          have h_92 : 0 ≤ (zor x4_61 r_89) ∧ (zor x4_61 r_89) < 512 := zor_lt (a := x4_61) (b := r_89) 9 (by decide) (by omega) (by omega)
          refine kx_istore 64 F 4 (lo' := [some (vR G c0), some (vI a1), some (vI a2), some (vI a3), some (vI (zor x4_61 r_89)), some (vI x5_62), some (vI (M (M c0 11) (3 * a1 + x5_62))), some (vI (M (M c0 11) (3 * a2 + x5_62)))]) dX0_over_62 (by decide) rfl rfl rfl ?_
          refine kx_drop 6 (lo' := [some (vR G c0), some (vI a1), some (vI a2), some (vI a3), some (vI (zor x4_61 r_89)), some (vI x5_62), none, some (vI (M (M c0 11) (3 * a2 + x5_62)))]) rfl ?_
          refine kx_drop 7 (lo' := [some (vR G c0), some (vI a1), some (vI a2), some (vI a3), some (vI (zor x4_61 r_89)), some (vI x5_62), none, none]) rfl ?_
          exact J_82 (zor x4_61 r_89) (by omega)
  exact L_63 _ 0 0 (by omega) rfl
theorem dX0_become_0 : decode cX0_become 0 = .ok (.aload_n 0, 1) := by decide +kernel
theorem dX0_become_1 : decode cX0_become 1 = .ok (.aload_n 1, 1) := by decide +kernel
theorem dX0_become_2 : decode cX0_become 2 = .ok (.getfield 30, 3) := by decide +kernel
theorem dX0_become_5 : decode cX0_become 5 = .ok (.putfield 30, 3) := by decide +kernel
theorem dX0_become_8 : decode cX0_become 8 = .ok (.aload_n 0, 1) := by decide +kernel
theorem dX0_become_9 : decode cX0_become 9 = .ok (.aload_n 1, 1) := by decide +kernel
theorem dX0_become_10 : decode cX0_become 10 = .ok (.getfield 34, 3) := by decide +kernel
theorem dX0_become_13 : decode cX0_become 13 = .ok (.putfield 34, 3) := by decide +kernel
theorem dX0_become_16 : decode cX0_become 16 = .ok (.aload_n 0, 1) := by decide +kernel
theorem dX0_become_17 : decode cX0_become 17 = .ok (.aload_n 1, 1) := by decide +kernel
theorem dX0_become_18 : decode cX0_become 18 = .ok (.getfield 37, 3) := by decide +kernel
theorem dX0_become_21 : decode cX0_become 21 = .ok (.putfield 37, 3) := by decide +kernel
theorem dX0_become_24 : decode cX0_become 24 = .ok (.aload_n 0, 1) := by decide +kernel
theorem dX0_become_25 : decode cX0_become 25 = .ok (.aload_n 1, 1) := by decide +kernel
theorem dX0_become_26 : decode cX0_become 26 = .ok (.getfield 40, 3) := by decide +kernel
theorem dX0_become_29 : decode cX0_become 29 = .ok (.putfield 40, 3) := by decide +kernel
theorem dX0_become_32 : decode cX0_become 32 = .ok (.aload_n 0, 1) := by decide +kernel
theorem dX0_become_33 : decode cX0_become 33 = .ok (.aload_n 1, 1) := by decide +kernel
theorem dX0_become_34 : decode cX0_become 34 = .ok (.getfield 43, 3) := by decide +kernel
theorem dX0_become_37 : decode cX0_become 37 = .ok (.putfield 43, 3) := by decide +kernel
theorem dX0_become_40 : decode cX0_become 40 = .ok (.aload_n 0, 1) := by decide +kernel
theorem dX0_become_41 : decode cX0_become 41 = .ok (.aload_n 1, 1) := by decide +kernel
theorem dX0_become_42 : decode cX0_become 42 = .ok (.getfield 46, 3) := by decide +kernel
theorem dX0_become_45 : decode cX0_become 45 = .ok (.putfield 46, 3) := by decide +kernel
theorem dX0_become_48 : decode cX0_become 48 = .ok (.aload_n 1, 1) := by decide +kernel
theorem dX0_become_49 : decode cX0_become 49 = .ok (.getfield 9, 3) := by decide +kernel
theorem dX0_become_52 : decode cX0_become 52 = .ok (.iconst 0, 1) := by decide +kernel
theorem dX0_become_53 : decode cX0_become 53 = .ok (.aload_n 0, 1) := by decide +kernel
theorem dX0_become_54 : decode cX0_become 54 = .ok (.getfield 9, 3) := by decide +kernel
theorem dX0_become_57 : decode cX0_become 57 = .ok (.iconst 0, 1) := by decide +kernel
theorem dX0_become_58 : decode cX0_become 58 = .ok (.bipush 20, 2) := by decide +kernel
theorem dX0_become_60 : decode cX0_become 60 = .ok (.invokestatic 62, 3) := by decide +kernel
theorem dX0_become_63 : decode cX0_become 63 = .ok (.aload_n 1, 1) := by decide +kernel
theorem dX0_become_64 : decode cX0_become 64 = .ok (.getfield 15, 3) := by decide +kernel
theorem dX0_become_67 : decode cX0_become 67 = .ok (.iconst 0, 1) := by decide +kernel
theorem dX0_become_68 : decode cX0_become 68 = .ok (.aload_n 0, 1) := by decide +kernel
theorem dX0_become_69 : decode cX0_become 69 = .ok (.getfield 15, 3) := by decide +kernel
theorem dX0_become_72 : decode cX0_become 72 = .ok (.iconst 0, 1) := by decide +kernel
theorem dX0_become_73 : decode cX0_become 73 = .ok (.bipush 20, 2) := by decide +kernel
theorem dX0_become_75 : decode cX0_become 75 = .ok (.invokestatic 62, 3) := by decide +kernel
theorem dX0_become_78 : decode cX0_become 78 = .ok (.aload_n 1, 1) := by decide +kernel
theorem dX0_become_79 : decode cX0_become 79 = .ok (.getfield 18, 3) := by decide +kernel
theorem dX0_become_82 : decode cX0_become 82 = .ok (.iconst 0, 1) := by decide +kernel
theorem dX0_become_83 : decode cX0_become 83 = .ok (.aload_n 0, 1) := by decide +kernel
theorem dX0_become_84 : decode cX0_become 84 = .ok (.getfield 18, 3) := by decide +kernel
theorem dX0_become_87 : decode cX0_become 87 = .ok (.iconst 0, 1) := by decide +kernel
theorem dX0_become_88 : decode cX0_become 88 = .ok (.bipush 20, 2) := by decide +kernel
theorem dX0_become_90 : decode cX0_become 90 = .ok (.invokestatic 62, 3) := by decide +kernel
theorem dX0_become_93 : decode cX0_become 93 = .ok (.aload_n 1, 1) := by decide +kernel
theorem dX0_become_94 : decode cX0_become 94 = .ok (.getfield 21, 3) := by decide +kernel
theorem dX0_become_97 : decode cX0_become 97 = .ok (.iconst 0, 1) := by decide +kernel
theorem dX0_become_98 : decode cX0_become 98 = .ok (.aload_n 0, 1) := by decide +kernel
theorem dX0_become_99 : decode cX0_become 99 = .ok (.getfield 21, 3) := by decide +kernel
theorem dX0_become_102 : decode cX0_become 102 = .ok (.iconst 0, 1) := by decide +kernel
theorem dX0_become_103 : decode cX0_become 103 = .ok (.bipush 20, 2) := by decide +kernel
theorem dX0_become_105 : decode cX0_become 105 = .ok (.invokestatic 62, 3) := by decide +kernel
theorem dX0_become_108 : decode cX0_become 108 = .ok (.aload_n 1, 1) := by decide +kernel
theorem dX0_become_109 : decode cX0_become 109 = .ok (.getfield 24, 3) := by decide +kernel
theorem dX0_become_112 : decode cX0_become 112 = .ok (.iconst 0, 1) := by decide +kernel
theorem dX0_become_113 : decode cX0_become 113 = .ok (.aload_n 0, 1) := by decide +kernel
theorem dX0_become_114 : decode cX0_become 114 = .ok (.getfield 24, 3) := by decide +kernel
theorem dX0_become_117 : decode cX0_become 117 = .ok (.iconst 0, 1) := by decide +kernel
theorem dX0_become_118 : decode cX0_become 118 = .ok (.aload_n 0, 1) := by decide +kernel
theorem dX0_become_119 : decode cX0_become 119 = .ok (.getfield 24, 3) := by decide +kernel
theorem dX0_become_122 : decode cX0_become 122 = .ok (.arraylength, 1) := by decide +kernel
theorem dX0_become_123 : decode cX0_become 123 = .ok (.invokestatic 62, 3) := by decide +kernel
theorem dX0_become_126 : decode cX0_become 126 = .ok (.aload_n 1, 1) := by decide +kernel
theorem dX0_become_127 : decode cX0_become 127 = .ok (.getfield 27, 3) := by decide +kernel
theorem dX0_become_130 : decode cX0_become 130 = .ok (.iconst 0, 1) := by decide +kernel
theorem dX0_become_131 : decode cX0_become 131 = .ok (.aload_n 0, 1) := by decide +kernel
theorem dX0_become_132 : decode cX0_become 132 = .ok (.getfield 27, 3) := by decide +kernel
theorem dX0_become_135 : decode cX0_become 135 = .ok (.iconst 0, 1) := by decide +kernel
theorem dX0_become_136 : decode cX0_become 136 = .ok (.aload_n 0, 1) := by decide +kernel
theorem dX0_become_137 : decode cX0_become 137 = .ok (.getfield 27, 3) := by decide +kernel
theorem dX0_become_140 : decode cX0_become 140 = .ok (.arraylength, 1) := by decide +kernel
theorem dX0_become_141 : decode cX0_become 141 = .ok (.invokestatic 62, 3) := by decide +kernel
theorem dX0_become_144 : decode cX0_become 144 = .ok (.return_, 1) := by decide +kernel
abbrev f_c_X0_become : List (Nat × Int) := [(1, 0), (1, 1), (1, 2), (1, 3), (1, 4), (1, 5), (2, -1), (3, -1), (4, -1), (5, -1), (6, -1), (7, -1)]
set_option maxHeartbeats 4000000 in
set_option maxRecDepth 100000 in
theorem c_X0_become (G : KG) (l : Launch) (M : Mem) (c0 : Int) (c1 : Int) (hI_M : Inv false M) (hk_c0 : kd c0 = 1) (hk_c1 : kd c1 = 1) : KC false G l yX0_become cX0_become 2 none (1, 18) [vR G c0, vR G c1] M (fun A => kQv false G A (fun (N : Mem) => Inv false N ∧ Fr f_c_X0_become M N)) := by
  refine kx_met (lo := [some (vR G c0), some (vR G c1)]) (by decide) (Nat.le_of_ble_eq_true rfl) rfl ?_
  intro X F hQ
  have hF_M : Fr f_c_X0_become M M := Fr.rf _ _
  refine kx_aload_n 1 F 0 dX0_become_0 rfl rfl rfl ?_
  refine kx_aload_n 2 F 1 dX0_become_1 rfl rfl rfl ?_
  refine kx_geti 5 F fl_X0_30 hk_c1 rfl rfl (j := 5) rfl dX0_become_2 (v := (M c1 5)) rfl rfl ?_
  have h_1 := Inv.g hI_M hk_c1 rfl 5 (a := 0) (b := 2) rfl rfl
  refine kx_puti 8 F fw_X0_30 rfl hk_c0 rfl rfl (j := 5) rfl dX0_become_5 rfl ?_
  intro N_2 hM_N_2
  have hI_N_2 : Inv false N_2 := Inv.u hI_M hM_N_2 hk_c0 (a := 0) (b := 2) rfl rfl rfl (by omega)
  have hF_N_2 : Fr f_c_X0_become M N_2 := Fr.u hF_M hM_N_2 hk_c0 rfl
  refine kx_aload_n 9 F 0 dX0_become_8 rfl rfl rfl ?_
  refine kx_aload_n 10 F 1 dX0_become_9 rfl rfl rfl ?_
  refine kx_geti 13 F fl_X0_34 hk_c1 rfl rfl (j := 0) rfl dX0_become_10 (v := (M c1 0)) (by rw [hM_N_2, mu_i (by omega)]) rfl ?_
  have h_3 := Inv.g hI_M hk_c1 rfl 0 (a := 0) (b := 3) rfl rfl
  refine kx_puti 16 F fw_X0_34 rfl hk_c0 rfl rfl (j := 0) rfl dX0_become_13 rfl ?_
  intro N_4 hM_N_4
  have hI_N_4 : Inv false N_4 := Inv.u hI_N_2 hM_N_4 hk_c0 (a := 0) (b := 3) rfl rfl rfl (by omega)
  have hF_N_4 : Fr f_c_X0_become M N_4 := Fr.u hF_N_2 hM_N_4 hk_c0 rfl
  refine kx_aload_n 17 F 0 dX0_become_16 rfl rfl rfl ?_
  refine kx_aload_n 18 F 1 dX0_become_17 rfl rfl rfl ?_
  refine kx_geti 21 F fl_X0_37 hk_c1 rfl rfl (j := 1) rfl dX0_become_18 (v := (M c1 1)) (by rw [hM_N_4, mu_i (by omega), hM_N_2, mu_i (by omega)]) rfl ?_
  have h_5 := Inv.g hI_M hk_c1 rfl 1 (a := 0) (b := 3) rfl rfl
  refine kx_puti 24 F fw_X0_37 rfl hk_c0 rfl rfl (j := 1) rfl dX0_become_21 rfl ?_
  intro N_6 hM_N_6
  have hI_N_6 : Inv false N_6 := Inv.u hI_N_4 hM_N_6 hk_c0 (a := 0) (b := 3) rfl rfl rfl (by omega)
  have hF_N_6 : Fr f_c_X0_become M N_6 := Fr.u hF_N_4 hM_N_6 hk_c0 rfl
  refine kx_aload_n 25 F 0 dX0_become_24 rfl rfl rfl ?_
  refine kx_aload_n 26 F 1 dX0_become_25 rfl rfl rfl ?_
  refine kx_geti 29 F fl_X0_40 hk_c1 rfl rfl (j := 2) rfl dX0_become_26 (v := (M c1 2)) (by rw [hM_N_6, mu_i (by omega), hM_N_4, mu_i (by omega), hM_N_2, mu_i (by omega)]) rfl ?_
  have h_7 := Inv.g hI_M hk_c1 rfl 2 (a := 0) (b := 7) rfl rfl
  refine kx_puti 32 F fw_X0_40 rfl hk_c0 rfl rfl (j := 2) rfl dX0_become_29 rfl ?_
  intro N_8 hM_N_8
  have hI_N_8 : Inv false N_8 := Inv.u hI_N_6 hM_N_8 hk_c0 (a := 0) (b := 7) rfl rfl rfl (by omega)
  have hF_N_8 : Fr f_c_X0_become M N_8 := Fr.u hF_N_6 hM_N_8 hk_c0 rfl
  refine kx_aload_n 33 F 0 dX0_become_32 rfl rfl rfl ?_
  refine kx_aload_n 34 F 1 dX0_become_33 rfl rfl rfl ?_
  refine kx_geti 37 F fl_X0_43 hk_c1 rfl rfl (j := 3) rfl dX0_become_34 (v := (M c1 3)) (by rw [hM_N_8, mu_i (by omega), hM_N_6, mu_i (by omega), hM_N_4, mu_i (by omega), hM_N_2, mu_i (by omega)]) rfl ?_
  have h_9 := Inv.g hI_M hk_c1 rfl 3 (a := 0) (b := 7) rfl rfl
  refine kx_puti 40 F fw_X0_43 rfl hk_c0 rfl rfl (j := 3) rfl dX0_become_37 rfl ?_
  intro N_10 hM_N_10
  have hI_N_10 : Inv false N_10 := Inv.u hI_N_8 hM_N_10 hk_c0 (a := 0) (b := 7) rfl rfl rfl (by omega)
  have hF_N_10 : Fr f_c_X0_become M N_10 := Fr.u hF_N_8 hM_N_10 hk_c0 rfl
  refine kx_aload_n 41 F 0 dX0_become_40 rfl rfl rfl ?_
  refine kx_aload_n 42 F 1 dX0_become_41 rfl rfl rfl ?_
  refine kx_geti 45 F fl_X0_46 hk_c1 rfl rfl (j := 4) rfl dX0_become_42 (v := (M c1 4)) (by rw [hM_N_10, mu_i (by omega), hM_N_8, mu_i (by omega), hM_N_6, mu_i (by omega), hM_N_4, mu_i (by omega), hM_N_2, mu_i (by omega)]) rfl ?_
  have h_11 := Inv.g hI_M hk_c1 rfl 4 (a := 0) (b := 20) rfl rfl
  refine kx_puti 48 F fw_X0_46 rfl hk_c0 rfl rfl (j := 4) rfl dX0_become_45 rfl ?_
  intro N_12 hM_N_12
  have hI_N_12 : Inv false N_12 := Inv.u hI_N_10 hM_N_12 hk_c0 (a := 0) (b := 20) rfl rfl rfl (by omega)
  have hF_N_12 : Fr f_c_X0_become M N_12 := Fr.u hF_N_10 hM_N_12 hk_c0 rfl
  refine kx_aload_n 49 F 1 dX0_become_48 rfl rfl rfl ?_
  refine kx_getr 52 F fl_X0_9 hk_c1 rfl rfl (j := 6) rfl dX0_become_49 (v := (M c1 6)) (by rw [hM_N_12, mu_i (by omega), hM_N_10, mu_i (by omega), hM_N_8, mu_i (by omega), hM_N_6, mu_i (by omega), hM_N_4, mu_i (by omega), hM_N_2, mu_i (by omega)]) rfl ?_
  have hk_13 : kd (M c1 6) = 2 := Inv.r hI_M hk_c1 rfl 6 rfl rfl
  refine kx_iconst 53 F dX0_become_52 rfl ?_
  refine kx_aload_n 54 F 0 dX0_become_53 rfl rfl rfl ?_
  refine kx_getr 57 F fl_X0_9 hk_c0 rfl rfl (j := 6) rfl dX0_become_54 (v := (M c0 6)) (by rw [hM_N_12, mu_i (by omega), hM_N_10, mu_i (by omega), hM_N_8, mu_i (by omega), hM_N_6, mu_i (by omega), hM_N_4, mu_i (by omega), hM_N_2, mu_i (by omega)]) rfl ?_
  have hk_14 : kd (M c0 6) = 2 := Inv.r hI_M hk_c0 rfl 6 rfl rfl
  refine kx_iconst 58 F dX0_become_57 rfl ?_
  refine kx_bipush 60 F dX0_become_58 (by decide) rfl ?_
  refine kx_copyi 63 F hk_13 rfl rfl hk_14 rfl rfl dX0_become_60 (tt lm_1068 rfl) (tt lm_782 rfl) (tt lm_781 rfl) (tt lm_186 rfl) (by omega) (by decide) (by decide) (Nat.le_of_ble_eq_true rfl) rfl ?_
  intro N_15 hM_N_15
  have hI_N_15 : Inv false N_15 := Inv.cp hI_N_12 hM_N_15 hk_13 hk_14 rfl (x := 0) (y := 5) (fun _ => rfl) (fun _ => rfl) (fun _ => rfl) (fun _ => rfl) (fun _ => rfl)
  have hF_N_15 : Fr f_c_X0_become M N_15 := Fr.cp hF_N_12 hM_N_15 hk_14 (fun _ => rfl)
  refine kx_aload_n 64 F 1 dX0_become_63 rfl rfl rfl ?_
  refine kx_getr 67 F fl_X0_15 hk_c1 rfl rfl (j := 7) rfl dX0_become_64 (v := (M c1 7)) (by rw [hM_N_15, mcp_k hk_c1 hk_14 rfl, hM_N_12, mu_i (by omega), hM_N_10, mu_i (by omega), hM_N_8, mu_i (by omega), hM_N_6, mu_i (by omega), hM_N_4, mu_i (by omega), hM_N_2, mu_i (by omega)]) rfl ?_
  have hk_16 : kd (M c1 7) = 3 := Inv.r hI_M hk_c1 rfl 7 rfl rfl
  refine kx_iconst 68 F dX0_become_67 rfl ?_
  refine kx_aload_n 69 F 0 dX0_become_68 rfl rfl rfl ?_
  refine kx_getr 72 F fl_X0_15 hk_c0 rfl rfl (j := 7) rfl dX0_become_69 (v := (M c0 7)) (by rw [hM_N_15, mcp_k hk_c0 hk_14 rfl, hM_N_12, mu_i (by omega), hM_N_10, mu_i (by omega), hM_N_8, mu_i (by omega), hM_N_6, mu_i (by omega), hM_N_4, mu_i (by omega), hM_N_2, mu_i (by omega)]) rfl ?_
  have hk_17 : kd (M c0 7) = 3 := Inv.r hI_M hk_c0 rfl 7 rfl rfl
  refine kx_iconst 73 F dX0_become_72 rfl ?_
  refine kx_bipush 75 F dX0_become_73 (by decide) rfl ?_
  refine kx_copyi 78 F hk_16 rfl rfl hk_17 rfl rfl dX0_become_75 (tt lm_1068 rfl) (tt lm_782 rfl) (tt lm_781 rfl) (tt lm_186 rfl) (by omega) (by decide) (by decide) (Nat.le_of_ble_eq_true rfl) rfl ?_
  intro N_18 hM_N_18
  have hI_N_18 : Inv false N_18 := Inv.cp hI_N_15 hM_N_18 hk_16 hk_17 rfl (x := 0) (y := 2) (fun _ => rfl) (fun _ => rfl) (fun _ => rfl) (fun _ => rfl) (fun _ => rfl)
  have hF_N_18 : Fr f_c_X0_become M N_18 := Fr.cp hF_N_15 hM_N_18 hk_17 (fun _ => rfl)
  refine kx_aload_n 79 F 1 dX0_become_78 rfl rfl rfl ?_
  refine kx_getr 82 F fl_X0_18 hk_c1 rfl rfl (j := 8) rfl dX0_become_79 (v := (M c1 8)) (by rw [hM_N_18, mcp_k hk_c1 hk_17 rfl, hM_N_15, mcp_k hk_c1 hk_14 rfl, hM_N_12, mu_i (by omega), hM_N_10, mu_i (by omega), hM_N_8, mu_i (by omega), hM_N_6, mu_i (by omega), hM_N_4, mu_i (by omega), hM_N_2, mu_i (by omega)]) rfl ?_
  have hk_19 : kd (M c1 8) = 4 := Inv.r hI_M hk_c1 rfl 8 rfl rfl
  refine kx_iconst 83 F dX0_become_82 rfl ?_
  refine kx_aload_n 84 F 0 dX0_become_83 rfl rfl rfl ?_
  refine kx_getr 87 F fl_X0_18 hk_c0 rfl rfl (j := 8) rfl dX0_become_84 (v := (M c0 8)) (by rw [hM_N_18, mcp_k hk_c0 hk_17 rfl, hM_N_15, mcp_k hk_c0 hk_14 rfl, hM_N_12, mu_i (by omega), hM_N_10, mu_i (by omega), hM_N_8, mu_i (by omega), hM_N_6, mu_i (by omega), hM_N_4, mu_i (by omega), hM_N_2, mu_i (by omega)]) rfl ?_
  have hk_20 : kd (M c0 8) = 4 := Inv.r hI_M hk_c0 rfl 8 rfl rfl
  refine kx_iconst 88 F dX0_become_87 rfl ?_
  refine kx_bipush 90 F dX0_become_88 (by decide) rfl ?_
  refine kx_copyi 93 F hk_19 rfl rfl hk_20 rfl rfl dX0_become_90 (tt lm_1068 rfl) (tt lm_782 rfl) (tt lm_781 rfl) (tt lm_186 rfl) (by omega) (by decide) (by decide) (Nat.le_of_ble_eq_true rfl) rfl ?_
  intro N_21 hM_N_21
  have hI_N_21 : Inv false N_21 := Inv.cp hI_N_18 hM_N_21 hk_19 hk_20 rfl (x := 0) (y := 2) (fun _ => rfl) (fun _ => rfl) (fun _ => rfl) (fun _ => rfl) (fun _ => rfl)
  have hF_N_21 : Fr f_c_X0_become M N_21 := Fr.cp hF_N_18 hM_N_21 hk_20 (fun _ => rfl)
  refine kx_aload_n 94 F 1 dX0_become_93 rfl rfl rfl ?_
  refine kx_getr 97 F fl_X0_21 hk_c1 rfl rfl (j := 9) rfl dX0_become_94 (v := (M c1 9)) (by rw [hM_N_21, mcp_k hk_c1 hk_20 rfl, hM_N_18, mcp_k hk_c1 hk_17 rfl, hM_N_15, mcp_k hk_c1 hk_14 rfl, hM_N_12, mu_i (by omega), hM_N_10, mu_i (by omega), hM_N_8, mu_i (by omega), hM_N_6, mu_i (by omega), hM_N_4, mu_i (by omega), hM_N_2, mu_i (by omega)]) rfl ?_
  have hk_22 : kd (M c1 9) = 5 := Inv.r hI_M hk_c1 rfl 9 rfl rfl
  refine kx_iconst 98 F dX0_become_97 rfl ?_
  refine kx_aload_n 99 F 0 dX0_become_98 rfl rfl rfl ?_
  refine kx_getr 102 F fl_X0_21 hk_c0 rfl rfl (j := 9) rfl dX0_become_99 (v := (M c0 9)) (by rw [hM_N_21, mcp_k hk_c0 hk_20 rfl, hM_N_18, mcp_k hk_c0 hk_17 rfl, hM_N_15, mcp_k hk_c0 hk_14 rfl, hM_N_12, mu_i (by omega), hM_N_10, mu_i (by omega), hM_N_8, mu_i (by omega), hM_N_6, mu_i (by omega), hM_N_4, mu_i (by omega), hM_N_2, mu_i (by omega)]) rfl ?_
  have hk_23 : kd (M c0 9) = 5 := Inv.r hI_M hk_c0 rfl 9 rfl rfl
  refine kx_iconst 103 F dX0_become_102 rfl ?_
  refine kx_bipush 105 F dX0_become_103 (by decide) rfl ?_
  refine kx_copyi 108 F hk_22 rfl rfl hk_23 rfl rfl dX0_become_105 (tt lm_1068 rfl) (tt lm_782 rfl) (tt lm_781 rfl) (tt lm_186 rfl) (by omega) (by decide) (by decide) (Nat.le_of_ble_eq_true rfl) rfl ?_
  intro N_24 hM_N_24
  have hI_N_24 : Inv false N_24 := Inv.cp hI_N_21 hM_N_24 hk_22 hk_23 rfl (x := (-1)) (y := 2) (fun _ => rfl) (fun _ => rfl) (fun _ => rfl) (fun _ => rfl) (fun _ => rfl)
  have hF_N_24 : Fr f_c_X0_become M N_24 := Fr.cp hF_N_21 hM_N_24 hk_23 (fun _ => rfl)
  refine kx_aload_n 109 F 1 dX0_become_108 rfl rfl rfl ?_
  refine kx_getr 112 F fl_X0_24 hk_c1 rfl rfl (j := 10) rfl dX0_become_109 (v := (M c1 10)) (by rw [hM_N_24, mcp_k hk_c1 hk_23 rfl, hM_N_21, mcp_k hk_c1 hk_20 rfl, hM_N_18, mcp_k hk_c1 hk_17 rfl, hM_N_15, mcp_k hk_c1 hk_14 rfl, hM_N_12, mu_i (by omega), hM_N_10, mu_i (by omega), hM_N_8, mu_i (by omega), hM_N_6, mu_i (by omega), hM_N_4, mu_i (by omega), hM_N_2, mu_i (by omega)]) rfl ?_
  have hk_25 : kd (M c1 10) = 6 := Inv.r hI_M hk_c1 rfl 10 rfl rfl
  refine kx_iconst 113 F dX0_become_112 rfl ?_
  refine kx_aload_n 114 F 0 dX0_become_113 rfl rfl rfl ?_
  refine kx_getr 117 F fl_X0_24 hk_c0 rfl rfl (j := 10) rfl dX0_become_114 (v := (M c0 10)) (by rw [hM_N_24, mcp_k hk_c0 hk_23 rfl, hM_N_21, mcp_k hk_c0 hk_20 rfl, hM_N_18, mcp_k hk_c0 hk_17 rfl, hM_N_15, mcp_k hk_c0 hk_14 rfl, hM_N_12, mu_i (by omega), hM_N_10, mu_i (by omega), hM_N_8, mu_i (by omega), hM_N_6, mu_i (by omega), hM_N_4, mu_i (by omega), hM_N_2, mu_i (by omega)]) rfl ?_
  have hk_26 : kd (M c0 10) = 6 := Inv.r hI_M hk_c0 rfl 10 rfl rfl
  refine kx_iconst 118 F dX0_become_117 rfl ?_
  refine kx_aload_n 119 F 0 dX0_become_118 rfl rfl rfl ?_
  refine kx_getr 122 F fl_X0_24 hk_c0 rfl rfl (j := 10) rfl dX0_become_119 (v := (M c0 10)) (by rw [hM_N_24, mcp_k hk_c0 hk_23 rfl, hM_N_21, mcp_k hk_c0 hk_20 rfl, hM_N_18, mcp_k hk_c0 hk_17 rfl, hM_N_15, mcp_k hk_c0 hk_14 rfl, hM_N_12, mu_i (by omega), hM_N_10, mu_i (by omega), hM_N_8, mu_i (by omega), hM_N_6, mu_i (by omega), hM_N_4, mu_i (by omega), hM_N_2, mu_i (by omega)]) rfl ?_
  refine kx_alen 123 F hk_26 rfl rfl (z := 6) (by decide) dX0_become_122 rfl ?_
  refine kx_copyi 126 F hk_25 rfl rfl hk_26 rfl rfl dX0_become_123 (tt lm_1068 rfl) (tt lm_782 rfl) (tt lm_781 rfl) (tt lm_186 rfl) (by omega) (by decide) (by decide) (Nat.le_of_ble_eq_true rfl) rfl ?_
  intro N_27 hM_N_27
  have hI_N_27 : Inv false N_27 := Inv.cp hI_N_24 hM_N_27 hk_25 hk_26 rfl (x := 0) (y := 511) (fun _ => rfl) (fun _ => rfl) (fun _ => rfl) (fun _ => rfl) (fun _ => rfl)
  have hF_N_27 : Fr f_c_X0_become M N_27 := Fr.cp hF_N_24 hM_N_27 hk_26 (fun _ => rfl)
  refine kx_aload_n 127 F 1 dX0_become_126 rfl rfl rfl ?_
  refine kx_getr 130 F fl_X0_27 hk_c1 rfl rfl (j := 11) rfl dX0_become_127 (v := (M c1 11)) (by rw [hM_N_27, mcp_k hk_c1 hk_26 rfl, hM_N_24, mcp_k hk_c1 hk_23 rfl, hM_N_21, mcp_k hk_c1 hk_20 rfl, hM_N_18, mcp_k hk_c1 hk_17 rfl, hM_N_15, mcp_k hk_c1 hk_14 rfl, hM_N_12, mu_i (by omega), hM_N_10, mu_i (by omega), hM_N_8, mu_i (by omega), hM_N_6, mu_i (by omega), hM_N_4, mu_i (by omega), hM_N_2, mu_i (by omega)]) rfl ?_
  have hk_28 : kd (M c1 11) = 7 := Inv.r hI_M hk_c1 rfl 11 rfl rfl
  refine kx_iconst 131 F dX0_become_130 rfl ?_
  refine kx_aload_n 132 F 0 dX0_become_131 rfl rfl rfl ?_
  refine kx_getr 135 F fl_X0_27 hk_c0 rfl rfl (j := 11) rfl dX0_become_132 (v := (M c0 11)) (by rw [hM_N_27, mcp_k hk_c0 hk_26 rfl, hM_N_24, mcp_k hk_c0 hk_23 rfl, hM_N_21, mcp_k hk_c0 hk_20 rfl, hM_N_18, mcp_k hk_c0 hk_17 rfl, hM_N_15, mcp_k hk_c0 hk_14 rfl, hM_N_12, mu_i (by omega), hM_N_10, mu_i (by omega), hM_N_8, mu_i (by omega), hM_N_6, mu_i (by omega), hM_N_4, mu_i (by omega), hM_N_2, mu_i (by omega)]) rfl ?_
  have hk_29 : kd (M c0 11) = 7 := Inv.r hI_M hk_c0 rfl 11 rfl rfl
  refine kx_iconst 136 F dX0_become_135 rfl ?_
  refine kx_aload_n 137 F 0 dX0_become_136 rfl rfl rfl ?_
  refine kx_getr 140 F fl_X0_27 hk_c0 rfl rfl (j := 11) rfl dX0_become_137 (v := (M c0 11)) (by rw [hM_N_27, mcp_k hk_c0 hk_26 rfl, hM_N_24, mcp_k hk_c0 hk_23 rfl, hM_N_21, mcp_k hk_c0 hk_20 rfl, hM_N_18, mcp_k hk_c0 hk_17 rfl, hM_N_15, mcp_k hk_c0 hk_14 rfl, hM_N_12, mu_i (by omega), hM_N_10, mu_i (by omega), hM_N_8, mu_i (by omega), hM_N_6, mu_i (by omega), hM_N_4, mu_i (by omega), hM_N_2, mu_i (by omega)]) rfl ?_
  refine kx_alen 141 F hk_29 rfl rfl (z := 18) (by decide) dX0_become_140 rfl ?_
  refine kx_copyi 144 F hk_28 rfl rfl hk_29 rfl rfl dX0_become_141 (tt lm_1068 rfl) (tt lm_782 rfl) (tt lm_781 rfl) (tt lm_186 rfl) (by omega) (by decide) (by decide) (Nat.le_of_ble_eq_true rfl) rfl ?_
  intro N_30 hM_N_30
  have hI_N_30 : Inv false N_30 := Inv.cp hI_N_27 hM_N_30 hk_28 hk_29 rfl (x := 0) (y := 511) (fun _ => rfl) (fun _ => rfl) (fun _ => rfl) (fun _ => rfl) (fun _ => rfl)
  have hF_N_30 : Fr f_c_X0_become M N_30 := Fr.cp hF_N_27 hM_N_30 hk_29 (fun _ => rfl)
  exact kx_vret F hQ ⟨hI_N_30, hF_N_30⟩ dX0_become_144
theorem dX10_begin_0 : decode cX10_begin 0 = .ok (.aload_n 0, 1) := by decide +kernel
theorem dX10_begin_1 : decode cX10_begin 1 = .ok (.iconst 0, 1) := by decide +kernel
theorem dX10_begin_2 : decode cX10_begin 2 = .ok (.putfield 25, 3) := by decide +kernel
theorem dX10_begin_5 : decode cX10_begin 5 = .ok (.aload_n 0, 1) := by decide +kernel
theorem dX10_begin_6 : decode cX10_begin 6 = .ok (.iconst 0, 1) := by decide +kernel
theorem dX10_begin_7 : decode cX10_begin 7 = .ok (.putfield 28, 3) := by decide +kernel
theorem dX10_begin_10 : decode cX10_begin 10 = .ok (.aload_n 0, 1) := by decide +kernel
theorem dX10_begin_11 : decode cX10_begin 11 = .ok (.aload_n 1, 1) := by decide +kernel
theorem dX10_begin_12 : decode cX10_begin 12 = .ok (.getfield 31, 3) := by decide +kernel
theorem dX10_begin_15 : decode cX10_begin 15 = .ok (.putfield 36, 3) := by decide +kernel
theorem dX10_begin_18 : decode cX10_begin 18 = .ok (.aload_n 0, 1) := by decide +kernel
theorem dX10_begin_19 : decode cX10_begin 19 = .ok (.aload_n 1, 1) := by decide +kernel
theorem dX10_begin_20 : decode cX10_begin 20 = .ok (.getfield 39, 3) := by decide +kernel
theorem dX10_begin_23 : decode cX10_begin 23 = .ok (.invokestatic 40, 3) := by decide +kernel
theorem dX10_begin_26 : decode cX10_begin 26 = .ok (.putfield 46, 3) := by decide +kernel
theorem dX10_begin_29 : decode cX10_begin 29 = .ok (.return_, 1) := by decide +kernel
abbrev f_c_X10_begin : List (Nat × Int) := [(8, 1), (8, 2), (8, 3), (8, 4)]
set_option maxHeartbeats 4000000 in
set_option maxRecDepth 100000 in
theorem c_X10_begin (G : KG) (l : Launch) (M : Mem) (c0 : Int) (c1 : Int) (hI_M : Inv false M) (hk_c0 : kd c0 = 8) (hk_c1 : kd c1 = 1) : KC false G l yX10_begin cX10_begin 2 none (1, 22) [vR G c0, vR G c1] M (fun A => kQv false G A (fun (N : Mem) => Inv false N ∧ Fr f_c_X10_begin M N)) := by
  refine kx_met (lo := [some (vR G c0), some (vR G c1)]) (by decide) (Nat.le_of_ble_eq_true rfl) rfl ?_
  intro X F hQ
  have hF_M : Fr f_c_X10_begin M M := Fr.rf _ _
  refine kx_aload_n 1 F 0 dX10_begin_0 rfl rfl rfl ?_
  refine kx_iconst 2 F dX10_begin_1 rfl ?_
  refine kx_puti 5 F fw_X10_25 rfl hk_c0 rfl rfl (j := 1) rfl dX10_begin_2 rfl ?_
  intro N_1 hM_N_1
  have hI_N_1 : Inv false N_1 := Inv.u hI_M hM_N_1 hk_c0 (a := (-2147483648)) (b := 2147483647) rfl rfl rfl (by omega)
  have hF_N_1 : Fr f_c_X10_begin M N_1 := Fr.u hF_M hM_N_1 hk_c0 rfl
  refine kx_aload_n 6 F 0 dX10_begin_5 rfl rfl rfl ?_
  refine kx_iconst 7 F dX10_begin_6 rfl ?_
  refine kx_puti 10 F fw_X10_28 rfl hk_c0 rfl rfl (j := 2) rfl dX10_begin_7 rfl ?_
  intro N_2 hM_N_2
  have hI_N_2 : Inv false N_2 := Inv.u hI_N_1 hM_N_2 hk_c0 (a := 0) (b := 30) rfl rfl rfl (by omega)
  have hF_N_2 : Fr f_c_X10_begin M N_2 := Fr.u hF_N_1 hM_N_2 hk_c0 rfl
  refine kx_aload_n 11 F 0 dX10_begin_10 rfl rfl rfl ?_
  refine kx_aload_n 12 F 1 dX10_begin_11 rfl rfl rfl ?_
  refine kx_geti 15 F fl_X10_31 hk_c1 rfl rfl (j := 2) rfl dX10_begin_12 (v := (M c1 2)) (by rw [hM_N_2, mu_k hk_c1 hk_c0 rfl, hM_N_1, mu_k hk_c1 hk_c0 rfl]) rfl ?_
  have h_3 := Inv.g hI_M hk_c1 rfl 2 (a := 0) (b := 7) rfl rfl
  refine kx_puti 18 F fw_X10_36 rfl hk_c0 rfl rfl (j := 3) rfl dX10_begin_15 rfl ?_
  intro N_4 hM_N_4
  have hI_N_4 : Inv false N_4 := Inv.u hI_N_2 hM_N_4 hk_c0 (a := 0) (b := 7) rfl rfl rfl (by omega)
  have hF_N_4 : Fr f_c_X10_begin M N_4 := Fr.u hF_N_2 hM_N_4 hk_c0 rfl
  refine kx_aload_n 19 F 0 dX10_begin_18 rfl rfl rfl ?_
  refine kx_aload_n 20 F 1 dX10_begin_19 rfl rfl rfl ?_
  refine kx_geti 23 F fl_X10_39 hk_c1 rfl rfl (j := 0) rfl dX10_begin_20 (v := (M c1 0)) (by rw [hM_N_4, mu_k hk_c1 hk_c0 rfl, hM_N_2, mu_k hk_c1 hk_c0 rfl, hM_N_1, mu_k hk_c1 hk_c0 rfl]) rfl ?_
  have h_5 := Inv.g hI_M hk_c1 rfl 0 (a := 0) (b := 3) rfl rfl
  refine kx_Si 26 F (As := [vI (M c1 0)]) (st := [vR G c0]) sd_X10_40 (c_X2_identity G l N_4 (M c1 0) hI_N_4 (by omega)) ⟨by decide, by decide⟩ rfl rfl (Nat.le_of_ble_eq_true rfl) dX10_begin_23 rfl ?_
  intro r_6 N_7 q_8
  obtain ⟨rfl, q_8c⟩ := q_8
  refine kx_puti 29 F fw_X10_46 rfl hk_c0 rfl rfl (j := 4) rfl dX10_begin_26 rfl ?_
  intro N_9 hM_N_9
  have hI_N_9 : Inv false N_9 := Inv.u hI_N_4 hM_N_9 hk_c0 (a := 0) (b := 511) rfl rfl rfl (by omega)
  have hF_N_9 : Fr f_c_X10_begin M N_9 := Fr.u hF_N_4 hM_N_9 hk_c0 rfl
  exact kx_vret F hQ ⟨hI_N_9, hF_N_9⟩ dX10_begin_29
theorem dX10_go_0 : decode cX10_go 0 = .ok (.aload_n 0, 1) := by decide +kernel
theorem dX10_go_1 : decode cX10_go 1 = .ok (.dup, 1) := by decide +kernel
theorem dX10_go_2 : decode cX10_go 2 = .ok (.getfield 25, 3) := by decide +kernel
theorem dX10_go_5 : decode cX10_go 5 = .ok (.iconst 1, 1) := by decide +kernel
theorem dX10_go_6 : decode cX10_go 6 = .ok (.iadd, 1) := by decide +kernel
theorem dX10_go_7 : decode cX10_go 7 = .ok (.putfield 25, 3) := by decide +kernel
theorem dX10_go_10 : decode cX10_go 10 = .ok (.iload_n 3, 1) := by decide +kernel
theorem dX10_go_11 : decode cX10_go 11 = .ok (.ifCond .ne 89, 3) := by decide +kernel
theorem dX10_go_14 : decode cX10_go 14 = .ok (.aload_n 0, 1) := by decide +kernel
theorem dX10_go_15 : decode cX10_go 15 = .ok (.getfield 28, 3) := by decide +kernel
theorem dX10_go_18 : decode cX10_go 18 = .ok (.bipush 30, 2) := by decide +kernel
theorem dX10_go_20 : decode cX10_go 20 = .ok (.if_icmp .ge 80, 3) := by decide +kernel
theorem dX10_go_23 : decode cX10_go 23 = .ok (.aload_n 0, 1) := by decide +kernel
theorem dX10_go_24 : decode cX10_go 24 = .ok (.getfield 15, 3) := by decide +kernel
theorem dX10_go_27 : decode cX10_go 27 = .ok (.aload_n 0, 1) := by decide +kernel
theorem dX10_go_28 : decode cX10_go 28 = .ok (.getfield 28, 3) := by decide +kernel
theorem dX10_go_31 : decode cX10_go 31 = .ok (.aload_n 0, 1) := by decide +kernel
theorem dX10_go_32 : decode cX10_go 32 = .ok (.getfield 36, 3) := by decide +kernel
theorem dX10_go_35 : decode cX10_go 35 = .ok (.iastore, 1) := by decide +kernel
theorem dX10_go_36 : decode cX10_go 36 = .ok (.aload_n 0, 1) := by decide +kernel
theorem dX10_go_37 : decode cX10_go 37 = .ok (.getfield 19, 3) := by decide +kernel
theorem dX10_go_40 : decode cX10_go 40 = .ok (.aload_n 0, 1) := by decide +kernel
theorem dX10_go_41 : decode cX10_go 41 = .ok (.getfield 28, 3) := by decide +kernel
theorem dX10_go_44 : decode cX10_go 44 = .ok (.aload_n 0, 1) := by decide +kernel
theorem dX10_go_45 : decode cX10_go 45 = .ok (.getfield 46, 3) := by decide +kernel
theorem dX10_go_48 : decode cX10_go 48 = .ok (.iastore, 1) := by decide +kernel
theorem dX10_go_49 : decode cX10_go 49 = .ok (.aload_n 0, 1) := by decide +kernel
theorem dX10_go_50 : decode cX10_go 50 = .ok (.getfield 22, 3) := by decide +kernel
theorem dX10_go_53 : decode cX10_go 53 = .ok (.aload_n 0, 1) := by decide +kernel
theorem dX10_go_54 : decode cX10_go 54 = .ok (.getfield 28, 3) := by decide +kernel
theorem dX10_go_57 : decode cX10_go 57 = .ok (.iload_n 2, 1) := by decide +kernel
theorem dX10_go_58 : decode cX10_go 58 = .ok (.iastore, 1) := by decide +kernel
theorem dX10_go_59 : decode cX10_go 59 = .ok (.aload_n 0, 1) := by decide +kernel
theorem dX10_go_60 : decode cX10_go 60 = .ok (.dup, 1) := by decide +kernel
theorem dX10_go_61 : decode cX10_go 61 = .ok (.getfield 28, 3) := by decide +kernel
theorem dX10_go_64 : decode cX10_go 64 = .ok (.iconst 1, 1) := by decide +kernel
theorem dX10_go_65 : decode cX10_go 65 = .ok (.iadd, 1) := by decide +kernel
theorem dX10_go_66 : decode cX10_go 66 = .ok (.putfield 28, 3) := by decide +kernel
theorem dX10_go_69 : decode cX10_go 69 = .ok (.aload_n 0, 1) := by decide +kernel
theorem dX10_go_70 : decode cX10_go 70 = .ok (.aload_n 0, 1) := by decide +kernel
theorem dX10_go_71 : decode cX10_go 71 = .ok (.getfield 36, 3) := by decide +kernel
theorem dX10_go_74 : decode cX10_go 74 = .ok (.aload_n 1, 1) := by decide +kernel
theorem dX10_go_75 : decode cX10_go 75 = .ok (.getfield 49, 3) := by decide +kernel
theorem dX10_go_78 : decode cX10_go 78 = .ok (.iload_n 2, 1) := by decide +kernel
theorem dX10_go_79 : decode cX10_go 79 = .ok (.iaload, 1) := by decide +kernel
theorem dX10_go_80 : decode cX10_go 80 = .ok (.invokestatic 52, 3) := by decide +kernel
theorem dX10_go_83 : decode cX10_go 83 = .ok (.putfield 36, 3) := by decide +kernel
theorem dX10_go_86 : decode cX10_go 86 = .ok (.aload_n 0, 1) := by decide +kernel
theorem dX10_go_87 : decode cX10_go 87 = .ok (.aload_n 1, 1) := by decide +kernel
theorem dX10_go_88 : decode cX10_go 88 = .ok (.getfield 39, 3) := by decide +kernel
theorem dX10_go_91 : decode cX10_go 91 = .ok (.invokestatic 40, 3) := by decide +kernel
theorem dX10_go_94 : decode cX10_go 94 = .ok (.putfield 46, 3) := by decide +kernel
theorem dX10_go_97 : decode cX10_go 97 = .ok (.goto 118, 3) := by decide +kernel
theorem dX10_go_100 : decode cX10_go 100 = .ok (.iload_n 3, 1) := by decide +kernel
theorem dX10_go_101 : decode cX10_go 101 = .ok (.iconst 1, 1) := by decide +kernel
theorem dX10_go_102 : decode cX10_go 102 = .ok (.if_icmp .ne 79, 3) := by decide +kernel
theorem dX10_go_105 : decode cX10_go 105 = .ok (.aload_n 0, 1) := by decide +kernel
theorem dX10_go_106 : decode cX10_go 106 = .ok (.getfield 28, 3) := by decide +kernel
theorem dX10_go_109 : decode cX10_go 109 = .ok (.ifCond .le 72, 3) := by decide +kernel
theorem dX10_go_112 : decode cX10_go 112 = .ok (.aload_n 0, 1) := by decide +kernel
theorem dX10_go_113 : decode cX10_go 113 = .ok (.dup, 1) := by decide +kernel
theorem dX10_go_114 : decode cX10_go 114 = .ok (.getfield 28, 3) := by decide +kernel
theorem dX10_go_117 : decode cX10_go 117 = .ok (.iconst 1, 1) := by decide +kernel
theorem dX10_go_118 : decode cX10_go 118 = .ok (.isub, 1) := by decide +kernel
theorem dX10_go_119 : decode cX10_go 119 = .ok (.putfield 28, 3) := by decide +kernel
theorem dX10_go_122 : decode cX10_go 122 = .ok (.aload_n 1, 1) := by decide +kernel
theorem dX10_go_123 : decode cX10_go 123 = .ok (.aload_n 0, 1) := by decide +kernel
theorem dX10_go_124 : decode cX10_go 124 = .ok (.getfield 22, 3) := by decide +kernel
theorem dX10_go_127 : decode cX10_go 127 = .ok (.aload_n 0, 1) := by decide +kernel
theorem dX10_go_128 : decode cX10_go 128 = .ok (.getfield 28, 3) := by decide +kernel
theorem dX10_go_131 : decode cX10_go 131 = .ok (.iaload, 1) := by decide +kernel
theorem dX10_go_132 : decode cX10_go 132 = .ok (.iload_n 2, 1) := by decide +kernel
theorem dX10_go_133 : decode cX10_go 133 = .ok (.aload_n 0, 1) := by decide +kernel
theorem dX10_go_134 : decode cX10_go 134 = .ok (.getfield 46, 3) := by decide +kernel
theorem dX10_go_137 : decode cX10_go 137 = .ok (.invokevirtual 56, 3) := by decide +kernel
theorem dX10_go_140 : decode cX10_go 140 = .ok (.istore 4, 2) := by decide +kernel
theorem dX10_go_142 : decode cX10_go 142 = .ok (.aload_n 0, 1) := by decide +kernel
theorem dX10_go_143 : decode cX10_go 143 = .ok (.aload_n 0, 1) := by decide +kernel
theorem dX10_go_144 : decode cX10_go 144 = .ok (.getfield 15, 3) := by decide +kernel
theorem dX10_go_147 : decode cX10_go 147 = .ok (.aload_n 0, 1) := by decide +kernel
theorem dX10_go_148 : decode cX10_go 148 = .ok (.getfield 28, 3) := by decide +kernel
theorem dX10_go_151 : decode cX10_go 151 = .ok (.iaload, 1) := by decide +kernel
theorem dX10_go_152 : decode cX10_go 152 = .ok (.iload 4, 2) := by decide +kernel
theorem dX10_go_154 : decode cX10_go 154 = .ok (.invokestatic 52, 3) := by decide +kernel
theorem dX10_go_157 : decode cX10_go 157 = .ok (.putfield 36, 3) := by decide +kernel
theorem dX10_go_160 : decode cX10_go 160 = .ok (.aload_n 0, 1) := by decide +kernel
theorem dX10_go_161 : decode cX10_go 161 = .ok (.aload_n 0, 1) := by decide +kernel
theorem dX10_go_162 : decode cX10_go 162 = .ok (.getfield 19, 3) := by decide +kernel
theorem dX10_go_165 : decode cX10_go 165 = .ok (.aload_n 0, 1) := by decide +kernel
theorem dX10_go_166 : decode cX10_go 166 = .ok (.getfield 28, 3) := by decide +kernel
theorem dX10_go_169 : decode cX10_go 169 = .ok (.iaload, 1) := by decide +kernel
theorem dX10_go_170 : decode cX10_go 170 = .ok (.iload 4, 2) := by decide +kernel
theorem dX10_go_172 : decode cX10_go 172 = .ok (.invokestatic 60, 3) := by decide +kernel
theorem dX10_go_175 : decode cX10_go 175 = .ok (.putfield 46, 3) := by decide +kernel
theorem dX10_go_178 : decode cX10_go 178 = .ok (.goto 37, 3) := by decide +kernel
theorem dX10_go_181 : decode cX10_go 181 = .ok (.aload_n 0, 1) := by decide +kernel
theorem dX10_go_182 : decode cX10_go 182 = .ok (.aload_n 0, 1) := by decide +kernel
theorem dX10_go_183 : decode cX10_go 183 = .ok (.getfield 36, 3) := by decide +kernel
theorem dX10_go_186 : decode cX10_go 186 = .ok (.aload_n 1, 1) := by decide +kernel
theorem dX10_go_187 : decode cX10_go 187 = .ok (.getfield 49, 3) := by decide +kernel
theorem dX10_go_190 : decode cX10_go 190 = .ok (.iload_n 2, 1) := by decide +kernel
theorem dX10_go_191 : decode cX10_go 191 = .ok (.iaload, 1) := by decide +kernel
theorem dX10_go_192 : decode cX10_go 192 = .ok (.invokestatic 52, 3) := by decide +kernel
theorem dX10_go_195 : decode cX10_go 195 = .ok (.putfield 36, 3) := by decide +kernel
theorem dX10_go_198 : decode cX10_go 198 = .ok (.aload_n 0, 1) := by decide +kernel
theorem dX10_go_199 : decode cX10_go 199 = .ok (.aload_n 0, 1) := by decide +kernel
theorem dX10_go_200 : decode cX10_go 200 = .ok (.getfield 46, 3) := by decide +kernel
theorem dX10_go_203 : decode cX10_go 203 = .ok (.aload_n 1, 1) := by decide +kernel
theorem dX10_go_204 : decode cX10_go 204 = .ok (.getfield 49, 3) := by decide +kernel
theorem dX10_go_207 : decode cX10_go 207 = .ok (.iload_n 2, 1) := by decide +kernel
theorem dX10_go_208 : decode cX10_go 208 = .ok (.iaload, 1) := by decide +kernel
theorem dX10_go_209 : decode cX10_go 209 = .ok (.invokestatic 60, 3) := by decide +kernel
theorem dX10_go_212 : decode cX10_go 212 = .ok (.putfield 46, 3) := by decide +kernel
theorem dX10_go_215 : decode cX10_go 215 = .ok (.return_, 1) := by decide +kernel
abbrev f_c_X10_go : List (Nat × Int) := [(8, 1), (8, 2), (8, 3), (8, 4), (9, -1), (10, -1), (11, -1)]
set_option maxHeartbeats 4000000 in
set_option maxRecDepth 100000 in
theorem c_X10_go (G : KG) (l : Launch) (M : Mem) (c0 : Int) (c1 : Int) (a2 : Int) (a3 : Int) (hI_M : Inv false M) (hk_c0 : kd c0 = 8) (hk_c1 : kd c1 = 1) (hpre : -2147483648 ≤ a2 ∧ a2 ≤ 2147483647 ∧ -2147483648 ≤ a3 ∧ a3 ≤ 2147483647 ∧ 0 ≤ a2 ∧ a2 ≤ 5) : KC false G l yX10_go cX10_go 5 none (2, 48) [vR G c0, vR G c1, vI a2, vI a3] M (fun A => kQv false G A (fun (N : Mem) => Inv false N ∧ Fr f_c_X10_go M N)) := by
  refine kx_met (lo := [some (vR G c0), some (vR G c1), some (vI a2), some (vI a3), none]) (by decide) (Nat.le_of_ble_eq_true rfl) rfl ?_
  intro X F hQ
  have hF_M : Fr f_c_X10_go M M := Fr.rf _ _
  refine kx_aload_n 1 F 0 dX10_go_0 rfl rfl rfl ?_
  refine kx_dup 2 F dX10_go_1 rfl rfl ?_
  refine kx_geti 5 F fl_X10_25 hk_c0 rfl rfl (j := 1) rfl dX10_go_2 (v := (M c0 1)) rfl rfl ?_
  have h_1 := Inv.g hI_M hk_c0 rfl 1 (a := (-2147483648)) (b := 2147483647) rfl rfl
  refine kx_iconst 6 F dX10_go_5 rfl ?_
  refine kx_iadd 7 F (v := (M c0 1) + 1) dX10_go_6 rfl rfl ?_
  refine kx_wrapi (fun w_2 h_3 _ => ?_)
  refine kx_puti 10 F fw_X10_25 rfl hk_c0 rfl rfl (j := 1) rfl dX10_go_7 rfl ?_
  intro N_4 hM_N_4
  have hI_N_4 : Inv false N_4 := Inv.u hI_M hM_N_4 hk_c0 (a := (-2147483648)) (b := 2147483647) rfl rfl rfl (by omega)
  have hF_N_4 : Fr f_c_X10_go M N_4 := Fr.u hF_M hM_N_4 hk_c0 rfl
  refine kx_iload_n 11 F 3 dX10_go_10 rfl rfl rfl ?_
  have J_28 : KJ false G X N_4 100 [some (vR G c0), some (vR G c1), some (vI a2), some (vI a3), none] [] := by
    refine kx_iload_n 101 F 3 dX10_go_100 rfl rfl rfl ?_
    refine kx_iconst 102 F dX10_go_101 rfl ?_
    have J_52 : KJ false G X N_4 181 [some (vR G c0), some (vR G c1), some (vI a2), none, none] [] := by
      refine kx_aload_n 182 F 0 dX10_go_181 rfl rfl rfl ?_
      refine kx_aload_n 183 F 0 dX10_go_182 rfl rfl rfl ?_
      refine kx_geti 186 F fl_X10_36 hk_c0 rfl rfl (j := 3) rfl dX10_go_183 (v := (M c0 3)) (by rw [hM_N_4, mu_i (by omega)]) rfl ?_
      have h_54 := Inv.g hI_M hk_c0 rfl 3 (a := 0) (b := 7) rfl rfl
      refine kx_aload_n 187 F 1 dX10_go_186 rfl rfl rfl ?_
      refine kx_getr 190 F fl_X10_49 hk_c1 rfl rfl (j := 10) rfl dX10_go_187 (v := (M c1 10)) (by rw [hM_N_4, mu_k hk_c1 hk_c0 rfl]) rfl ?_
      have hk_55 : kd (M c1 10) = 6 := Inv.r hI_M hk_c1 rfl 10 rfl rfl
      refine kx_iload_n 191 F 2 dX10_go_190 rfl rfl rfl ?_
      refine kx_iald 192 F hk_55 rfl rfl (by omega) (by decide) dX10_go_191 (v := (M (M c1 10) a2)) (by rw [hM_N_4, mu_k hk_55 hk_c0 rfl]) rfl ?_
      have h_56 := Inv.g hI_M hk_55 rfl a2 (a := 0) (b := 511) rfl rfl
      refine kx_Si 195 F (As := [vI (M c0 3), vI (M (M c1 10) a2)]) (st := [vR G c0]) sd_X10_52 (c_X2_image G l N_4 (M c0 3) (M (M c1 10) a2) hI_N_4 (by omega)) ⟨by decide, by decide⟩ rfl rfl (Nat.le_of_ble_eq_true rfl) dX10_go_192 rfl ?_
      intro r_57 N_58 q_59
      obtain ⟨rfl, q_59c⟩ := q_59
      refine kx_puti 198 F fw_X10_36 rfl hk_c0 rfl rfl (j := 3) rfl dX10_go_195 rfl ?_
      intro N_60 hM_N_60
      have hI_N_60 : Inv false N_60 := Inv.u hI_N_4 hM_N_60 hk_c0 (a := 0) (b := 7) rfl rfl rfl (by omega)
      have hF_N_60 : Fr f_c_X10_go M N_60 := Fr.u hF_N_4 hM_N_60 hk_c0 rfl
      refine kx_aload_n 199 F 0 dX10_go_198 rfl rfl rfl ?_
      refine kx_aload_n 200 F 0 dX10_go_199 rfl rfl rfl ?_
      refine kx_geti 203 F fl_X10_46 hk_c0 rfl rfl (j := 4) rfl dX10_go_200 (v := (M c0 4)) (by rw [hM_N_60, mu_i (by omega), hM_N_4, mu_i (by omega)]) rfl ?_
      have h_61 := Inv.g hI_M hk_c0 rfl 4 (a := 0) (b := 511) rfl rfl
      refine kx_aload_n 204 F 1 dX10_go_203 rfl rfl rfl ?_
      refine kx_getr 207 F fl_X10_49 hk_c1 rfl rfl (j := 10) rfl dX10_go_204 (v := (M c1 10)) (by rw [hM_N_60, mu_k hk_c1 hk_c0 rfl, hM_N_4, mu_k hk_c1 hk_c0 rfl]) rfl ?_
      refine kx_iload_n 208 F 2 dX10_go_207 rfl rfl rfl ?_
      refine kx_iald 209 F hk_55 rfl rfl (by omega) (by decide) dX10_go_208 (v := (M (M c1 10) a2)) (by rw [hM_N_60, mu_k hk_55 hk_c0 rfl, hM_N_4, mu_k hk_55 hk_c0 rfl]) rfl ?_
      refine kx_Si 212 F (As := [vI (M c0 4), vI (M (M c1 10) a2)]) (st := [vR G c0]) sd_X10_60 (c_X2_compose G l N_60 (M c0 4) (M (M c1 10) a2) hI_N_60 (by omega)) ⟨by decide, by decide⟩ rfl rfl (Nat.le_of_ble_eq_true rfl) dX10_go_209 rfl ?_
      intro r_62 N_63 q_64
      obtain ⟨rfl, q_64c⟩ := q_64
      refine kx_puti 215 F fw_X10_46 rfl hk_c0 rfl rfl (j := 4) rfl dX10_go_212 rfl ?_
      intro N_65 hM_N_65
      have hI_N_65 : Inv false N_65 := Inv.u hI_N_60 hM_N_65 hk_c0 (a := 0) (b := 511) rfl rfl rfl (by omega)
      have hF_N_65 : Fr f_c_X10_go M N_65 := Fr.u hF_N_60 hM_N_65 hk_c0 rfl
      exact kx_vret F hQ ⟨hI_N_65, hF_N_65⟩ dX10_go_215
    refine kx_icmp_ne 105 F 181 dX10_go_102 (by decide) rfl (by omega) (by decide) (fun h_66 => ?_) (fun h_66 => ?_)
    · refine kx_drop 3 (lo' := [some (vR G c0), some (vR G c1), some (vI a2), none, none]) rfl ?_
      exact J_52 
    · refine kx_aload_n 106 F 0 dX10_go_105 rfl rfl rfl ?_
      refine kx_geti 109 F fl_X10_28 hk_c0 rfl rfl (j := 2) rfl dX10_go_106 (v := (M c0 2)) (by rw [hM_N_4, mu_i (by omega)]) rfl ?_
      have h_67 := Inv.g hI_M hk_c0 rfl 2 (a := 0) (b := 30) rfl rfl
      refine kx_if_le 112 F 181 dX10_go_109 (by decide) rfl (by omega) (fun h_68 => ?_) (fun h_68 => ?_)
      · refine kx_drop 3 (lo' := [some (vR G c0), some (vR G c1), some (vI a2), none, none]) rfl ?_
        exact J_52 
      · refine kx_aload_n 113 F 0 dX10_go_112 rfl rfl rfl ?_
        refine kx_dup 114 F dX10_go_113 rfl rfl ?_
        refine kx_geti 117 F fl_X10_28 hk_c0 rfl rfl (j := 2) rfl dX10_go_114 (v := (M c0 2)) (by rw [hM_N_4, mu_i (by omega)]) rfl ?_
        refine kx_iconst 118 F dX10_go_117 rfl ?_
        refine kx_isub 119 F (v := (M c0 2) - 1) dX10_go_118 rfl rfl ?_
        refine kx_puti 122 F fw_X10_28 rfl hk_c0 rfl rfl (j := 2) rfl dX10_go_119 rfl ?_
        intro N_69 hM_N_69
        have hI_N_69 : Inv false N_69 := Inv.u hI_N_4 hM_N_69 hk_c0 (a := 0) (b := 30) rfl rfl rfl (by omega)
        have hF_N_69 : Fr f_c_X10_go M N_69 := Fr.u hF_N_4 hM_N_69 hk_c0 rfl
        refine kx_aload_n 123 F 1 dX10_go_122 rfl rfl rfl ?_
        refine kx_aload_n 124 F 0 dX10_go_123 rfl rfl rfl ?_
        refine kx_getr 127 F fl_X10_22 hk_c0 rfl rfl (j := 7) rfl dX10_go_124 (v := (M c0 7)) (by rw [hM_N_69, mu_i (by omega), hM_N_4, mu_i (by omega)]) rfl ?_
        have hk_70 : kd (M c0 7) = 11 := Inv.r hI_M hk_c0 rfl 7 rfl rfl
        refine kx_aload_n 128 F 0 dX10_go_127 rfl rfl rfl ?_
        refine kx_geti 131 F fl_X10_28 hk_c0 rfl rfl (j := 2) rfl dX10_go_128 (v := (M c0 2) - 1) (by rw [hM_N_69, mu_s]) rfl ?_
        refine kx_iald 132 F hk_70 rfl rfl (by omega) (by decide) dX10_go_131 (v := (M (M c0 7) ((M c0 2) - 1))) (by rw [hM_N_69, mu_k hk_70 hk_c0 rfl, hM_N_4, mu_k hk_70 hk_c0 rfl]) rfl ?_
        have h_71 := Inv.g hI_M hk_70 rfl ((M c0 2) - 1) (a := 0) (b := 5) rfl rfl
        refine kx_iload_n 133 F 2 dX10_go_132 rfl rfl rfl ?_
        refine kx_aload_n 134 F 0 dX10_go_133 rfl rfl rfl ?_
        refine kx_geti 137 F fl_X10_46 hk_c0 rfl rfl (j := 4) rfl dX10_go_134 (v := (M c0 4)) (by rw [hM_N_69, mu_i (by omega), hM_N_4, mu_i (by omega)]) rfl ?_
        have h_72 := Inv.g hI_M hk_c0 rfl 4 (a := 0) (b := 511) rfl rfl
        refine kx_Vi 140 (ci := 0) F (As := [vI (M (M c0 7) ((M c0 2) - 1)), vI a2, vI (M c0 4)]) (st := []) vd_X10_56 (c_X0_over G l N_69 c1 (M (M c0 7) ((M c0 2) - 1)) a2 (M c0 4) hI_N_69 hk_c1 (by omega)) hk_c1 rfl rfl rfl ⟨by decide, by decide⟩ rfl rfl (Nat.le_of_ble_eq_true rfl) dX10_go_137 rfl ?_
        intro r_73 N_74 q_75
        obtain ⟨rfl, q_75c⟩ := q_75
        refine kx_istore 142 F 4 (lo' := [some (vR G c0), some (vR G c1), some (vI a2), some (vI a3), some (vI r_73)]) dX10_go_140 (by decide) rfl rfl rfl ?_
        refine kx_aload_n 143 F 0 dX10_go_142 rfl rfl rfl ?_
        refine kx_aload_n 144 F 0 dX10_go_143 rfl rfl rfl ?_
        refine kx_getr 147 F fl_X10_15 hk_c0 rfl rfl (j := 5) rfl dX10_go_144 (v := (M c0 5)) (by rw [hM_N_69, mu_i (by omega), hM_N_4, mu_i (by omega)]) rfl ?_
        have hk_76 : kd (M c0 5) = 9 := Inv.r hI_M hk_c0 rfl 5 rfl rfl
        refine kx_aload_n 148 F 0 dX10_go_147 rfl rfl rfl ?_
        refine kx_geti 151 F fl_X10_28 hk_c0 rfl rfl (j := 2) rfl dX10_go_148 (v := (M c0 2) - 1) (by rw [hM_N_69, mu_s]) rfl ?_
        refine kx_iald 152 F hk_76 rfl rfl (by omega) (by decide) dX10_go_151 (v := (M (M c0 5) ((M c0 2) - 1))) (by rw [hM_N_69, mu_k hk_76 hk_c0 rfl, hM_N_4, mu_k hk_76 hk_c0 rfl]) rfl ?_
        have h_77 := Inv.g hI_M hk_76 rfl ((M c0 2) - 1) (a := 0) (b := 7) rfl rfl
        refine kx_iload 154 F 4 dX10_go_152 rfl rfl ?_
        refine kx_Si 157 F (As := [vI (M (M c0 5) ((M c0 2) - 1)), vI r_73]) (st := [vR G c0]) sd_X10_52 (c_X2_image G l N_69 (M (M c0 5) ((M c0 2) - 1)) r_73 hI_N_69 (by omega)) ⟨by decide, by decide⟩ rfl rfl (Nat.le_of_ble_eq_true rfl) dX10_go_154 rfl ?_
        intro r_78 N_79 q_80
        obtain ⟨rfl, q_80c⟩ := q_80
        refine kx_puti 160 F fw_X10_36 rfl hk_c0 rfl rfl (j := 3) rfl dX10_go_157 rfl ?_
        intro N_81 hM_N_81
        have hI_N_81 : Inv false N_81 := Inv.u hI_N_69 hM_N_81 hk_c0 (a := 0) (b := 7) rfl rfl rfl (by omega)
        have hF_N_81 : Fr f_c_X10_go M N_81 := Fr.u hF_N_69 hM_N_81 hk_c0 rfl
        refine kx_aload_n 161 F 0 dX10_go_160 rfl rfl rfl ?_
        refine kx_aload_n 162 F 0 dX10_go_161 rfl rfl rfl ?_
        refine kx_getr 165 F fl_X10_19 hk_c0 rfl rfl (j := 6) rfl dX10_go_162 (v := (M c0 6)) (by rw [hM_N_81, mu_i (by omega), hM_N_69, mu_i (by omega), hM_N_4, mu_i (by omega)]) rfl ?_
        have hk_82 : kd (M c0 6) = 10 := Inv.r hI_M hk_c0 rfl 6 rfl rfl
        refine kx_aload_n 166 F 0 dX10_go_165 rfl rfl rfl ?_
        refine kx_geti 169 F fl_X10_28 hk_c0 rfl rfl (j := 2) rfl dX10_go_166 (v := (M c0 2) - 1) (by rw [hM_N_81, mu_i (by omega), hM_N_69, mu_s]) rfl ?_
        refine kx_iald 170 F hk_82 rfl rfl (by omega) (by decide) dX10_go_169 (v := (M (M c0 6) ((M c0 2) - 1))) (by rw [hM_N_81, mu_k hk_82 hk_c0 rfl, hM_N_69, mu_k hk_82 hk_c0 rfl, hM_N_4, mu_k hk_82 hk_c0 rfl]) rfl ?_
        have h_83 := Inv.g hI_M hk_82 rfl ((M c0 2) - 1) (a := 0) (b := 511) rfl rfl
        refine kx_iload 172 F 4 dX10_go_170 rfl rfl ?_
        refine kx_Si 175 F (As := [vI (M (M c0 6) ((M c0 2) - 1)), vI r_73]) (st := [vR G c0]) sd_X10_60 (c_X2_compose G l N_81 (M (M c0 6) ((M c0 2) - 1)) r_73 hI_N_81 (by omega)) ⟨by decide, by decide⟩ rfl rfl (Nat.le_of_ble_eq_true rfl) dX10_go_172 rfl ?_
        intro r_84 N_85 q_86
        obtain ⟨rfl, q_86c⟩ := q_86
        refine kx_puti 178 F fw_X10_46 rfl hk_c0 rfl rfl (j := 4) rfl dX10_go_175 rfl ?_
        intro N_87 hM_N_87
        have hI_N_87 : Inv false N_87 := Inv.u hI_N_81 hM_N_87 hk_c0 (a := 0) (b := 511) rfl rfl rfl (by omega)
        have hF_N_87 : Fr f_c_X10_go M N_87 := Fr.u hF_N_81 hM_N_87 hk_c0 rfl
        refine kx_goto 215 F dX10_go_178 (by decide) ?_
        exact kx_vret F hQ ⟨hI_N_87, hF_N_87⟩ dX10_go_215
  refine kx_if_ne 14 F 100 dX10_go_11 (by decide) rfl (by omega) (fun h_88 => ?_) (fun h_88 => ?_)
  · exact J_28
  · refine kx_aload_n 15 F 0 dX10_go_14 rfl rfl rfl ?_
    refine kx_geti 18 F fl_X10_28 hk_c0 rfl rfl (j := 2) rfl dX10_go_15 (v := (M c0 2)) (by rw [hM_N_4, mu_i (by omega)]) rfl ?_
    have h_89 := Inv.g hI_M hk_c0 rfl 2 (a := 0) (b := 30) rfl rfl
    refine kx_bipush 20 F dX10_go_18 (by decide) rfl ?_
    refine kx_icmp_ge 23 F 100 dX10_go_20 (by decide) rfl (by omega) (by decide) (fun h_90 => ?_) (fun h_90 => ?_)
    · exact J_28
    · refine kx_aload_n 24 F 0 dX10_go_23 rfl rfl rfl ?_
      refine kx_getr 27 F fl_X10_15 hk_c0 rfl rfl (j := 5) rfl dX10_go_24 (v := (M c0 5)) (by rw [hM_N_4, mu_i (by omega)]) rfl ?_
      have hk_91 : kd (M c0 5) = 9 := Inv.r hI_M hk_c0 rfl 5 rfl rfl
      refine kx_aload_n 28 F 0 dX10_go_27 rfl rfl rfl ?_
      refine kx_geti 31 F fl_X10_28 hk_c0 rfl rfl (j := 2) rfl dX10_go_28 (v := (M c0 2)) (by rw [hM_N_4, mu_i (by omega)]) rfl ?_
      refine kx_aload_n 32 F 0 dX10_go_31 rfl rfl rfl ?_
      refine kx_geti 35 F fl_X10_36 hk_c0 rfl rfl (j := 3) rfl dX10_go_32 (v := (M c0 3)) (by rw [hM_N_4, mu_i (by omega)]) rfl ?_
      have h_92 := Inv.g hI_M hk_c0 rfl 3 (a := 0) (b := 7) rfl rfl
      refine kx_iast 36 F hk_91 rfl rfl (by omega) (by decide) dX10_go_35 rfl ?_
      intro N_93 hM_N_93
      have hI_N_93 : Inv false N_93 := Inv.u hI_N_4 hM_N_93 hk_91 (a := 0) (b := 7) rfl rfl rfl (by omega)
      have hF_N_93 : Fr f_c_X10_go M N_93 := Fr.u hF_N_4 hM_N_93 hk_91 rfl
      refine kx_aload_n 37 F 0 dX10_go_36 rfl rfl rfl ?_
      refine kx_getr 40 F fl_X10_19 hk_c0 rfl rfl (j := 6) rfl dX10_go_37 (v := (M c0 6)) (by rw [hM_N_93, mu_k hk_c0 hk_91 rfl, hM_N_4, mu_i (by omega)]) rfl ?_
      have hk_94 : kd (M c0 6) = 10 := Inv.r hI_M hk_c0 rfl 6 rfl rfl
      refine kx_aload_n 41 F 0 dX10_go_40 rfl rfl rfl ?_
      refine kx_geti 44 F fl_X10_28 hk_c0 rfl rfl (j := 2) rfl dX10_go_41 (v := (M c0 2)) (by rw [hM_N_93, mu_k hk_c0 hk_91 rfl, hM_N_4, mu_i (by omega)]) rfl ?_
      refine kx_aload_n 45 F 0 dX10_go_44 rfl rfl rfl ?_
      refine kx_geti 48 F fl_X10_46 hk_c0 rfl rfl (j := 4) rfl dX10_go_45 (v := (M c0 4)) (by rw [hM_N_93, mu_k hk_c0 hk_91 rfl, hM_N_4, mu_i (by omega)]) rfl ?_
      have h_95 := Inv.g hI_M hk_c0 rfl 4 (a := 0) (b := 511) rfl rfl
      refine kx_iast 49 F hk_94 rfl rfl (by omega) (by decide) dX10_go_48 rfl ?_
      intro N_96 hM_N_96
      have hI_N_96 : Inv false N_96 := Inv.u hI_N_93 hM_N_96 hk_94 (a := 0) (b := 511) rfl rfl rfl (by omega)
      have hF_N_96 : Fr f_c_X10_go M N_96 := Fr.u hF_N_93 hM_N_96 hk_94 rfl
      refine kx_aload_n 50 F 0 dX10_go_49 rfl rfl rfl ?_
      refine kx_getr 53 F fl_X10_22 hk_c0 rfl rfl (j := 7) rfl dX10_go_50 (v := (M c0 7)) (by rw [hM_N_96, mu_k hk_c0 hk_94 rfl, hM_N_93, mu_k hk_c0 hk_91 rfl, hM_N_4, mu_i (by omega)]) rfl ?_
      have hk_97 : kd (M c0 7) = 11 := Inv.r hI_M hk_c0 rfl 7 rfl rfl
      refine kx_aload_n 54 F 0 dX10_go_53 rfl rfl rfl ?_
      refine kx_geti 57 F fl_X10_28 hk_c0 rfl rfl (j := 2) rfl dX10_go_54 (v := (M c0 2)) (by rw [hM_N_96, mu_k hk_c0 hk_94 rfl, hM_N_93, mu_k hk_c0 hk_91 rfl, hM_N_4, mu_i (by omega)]) rfl ?_
      refine kx_iload_n 58 F 2 dX10_go_57 rfl rfl rfl ?_
      refine kx_iast 59 F hk_97 rfl rfl (by omega) (by decide) dX10_go_58 rfl ?_
      intro N_98 hM_N_98
      have hI_N_98 : Inv false N_98 := Inv.u hI_N_96 hM_N_98 hk_97 (a := 0) (b := 5) rfl rfl rfl (by omega)
      have hF_N_98 : Fr f_c_X10_go M N_98 := Fr.u hF_N_96 hM_N_98 hk_97 rfl
      refine kx_aload_n 60 F 0 dX10_go_59 rfl rfl rfl ?_
      refine kx_dup 61 F dX10_go_60 rfl rfl ?_
      refine kx_geti 64 F fl_X10_28 hk_c0 rfl rfl (j := 2) rfl dX10_go_61 (v := (M c0 2)) (by rw [hM_N_98, mu_k hk_c0 hk_97 rfl, hM_N_96, mu_k hk_c0 hk_94 rfl, hM_N_93, mu_k hk_c0 hk_91 rfl, hM_N_4, mu_i (by omega)]) rfl ?_
      refine kx_iconst 65 F dX10_go_64 rfl ?_
      refine kx_iadd 66 F (v := (M c0 2) + 1) dX10_go_65 rfl rfl ?_
      refine kx_puti 69 F fw_X10_28 rfl hk_c0 rfl rfl (j := 2) rfl dX10_go_66 rfl ?_
      intro N_99 hM_N_99
      have hI_N_99 : Inv false N_99 := Inv.u hI_N_98 hM_N_99 hk_c0 (a := 0) (b := 30) rfl rfl rfl (by omega)
      have hF_N_99 : Fr f_c_X10_go M N_99 := Fr.u hF_N_98 hM_N_99 hk_c0 rfl
      refine kx_aload_n 70 F 0 dX10_go_69 rfl rfl rfl ?_
      refine kx_aload_n 71 F 0 dX10_go_70 rfl rfl rfl ?_
      refine kx_geti 74 F fl_X10_36 hk_c0 rfl rfl (j := 3) rfl dX10_go_71 (v := (M c0 3)) (by rw [hM_N_99, mu_i (by omega), hM_N_98, mu_k hk_c0 hk_97 rfl, hM_N_96, mu_k hk_c0 hk_94 rfl, hM_N_93, mu_k hk_c0 hk_91 rfl, hM_N_4, mu_i (by omega)]) rfl ?_
      refine kx_aload_n 75 F 1 dX10_go_74 rfl rfl rfl ?_
      refine kx_getr 78 F fl_X10_49 hk_c1 rfl rfl (j := 10) rfl dX10_go_75 (v := (M c1 10)) (by rw [hM_N_99, mu_k hk_c1 hk_c0 rfl, hM_N_98, mu_k hk_c1 hk_97 rfl, hM_N_96, mu_k hk_c1 hk_94 rfl, hM_N_93, mu_k hk_c1 hk_91 rfl, hM_N_4, mu_k hk_c1 hk_c0 rfl]) rfl ?_
      have hk_100 : kd (M c1 10) = 6 := Inv.r hI_M hk_c1 rfl 10 rfl rfl
      refine kx_iload_n 79 F 2 dX10_go_78 rfl rfl rfl ?_
      refine kx_iald 80 F hk_100 rfl rfl (by omega) (by decide) dX10_go_79 (v := (M (M c1 10) a2)) (by rw [hM_N_99, mu_k hk_100 hk_c0 rfl, hM_N_98, mu_k hk_100 hk_97 rfl, hM_N_96, mu_k hk_100 hk_94 rfl, hM_N_93, mu_k hk_100 hk_91 rfl, hM_N_4, mu_k hk_100 hk_c0 rfl]) rfl ?_
      have h_101 := Inv.g hI_M hk_100 rfl a2 (a := 0) (b := 511) rfl rfl
      refine kx_Si 83 F (As := [vI (M c0 3), vI (M (M c1 10) a2)]) (st := [vR G c0]) sd_X10_52 (c_X2_image G l N_99 (M c0 3) (M (M c1 10) a2) hI_N_99 (by omega)) ⟨by decide, by decide⟩ rfl rfl (Nat.le_of_ble_eq_true rfl) dX10_go_80 rfl ?_
      intro r_102 N_103 q_104
      obtain ⟨rfl, q_104c⟩ := q_104
      refine kx_puti 86 F fw_X10_36 rfl hk_c0 rfl rfl (j := 3) rfl dX10_go_83 rfl ?_
      intro N_105 hM_N_105
      have hI_N_105 : Inv false N_105 := Inv.u hI_N_99 hM_N_105 hk_c0 (a := 0) (b := 7) rfl rfl rfl (by omega)
      have hF_N_105 : Fr f_c_X10_go M N_105 := Fr.u hF_N_99 hM_N_105 hk_c0 rfl
      refine kx_aload_n 87 F 0 dX10_go_86 rfl rfl rfl ?_
      refine kx_aload_n 88 F 1 dX10_go_87 rfl rfl rfl ?_
      refine kx_geti 91 F fl_X10_39 hk_c1 rfl rfl (j := 0) rfl dX10_go_88 (v := (M c1 0)) (by rw [hM_N_105, mu_k hk_c1 hk_c0 rfl, hM_N_99, mu_k hk_c1 hk_c0 rfl, hM_N_98, mu_k hk_c1 hk_97 rfl, hM_N_96, mu_k hk_c1 hk_94 rfl, hM_N_93, mu_k hk_c1 hk_91 rfl, hM_N_4, mu_k hk_c1 hk_c0 rfl]) rfl ?_
      have h_106 := Inv.g hI_M hk_c1 rfl 0 (a := 0) (b := 3) rfl rfl
      refine kx_Si 94 F (As := [vI (M c1 0)]) (st := [vR G c0]) sd_X10_40 (c_X2_identity G l N_105 (M c1 0) hI_N_105 (by omega)) ⟨by decide, by decide⟩ rfl rfl (Nat.le_of_ble_eq_true rfl) dX10_go_91 rfl ?_
      intro r_107 N_108 q_109
      obtain ⟨rfl, q_109c⟩ := q_109
      refine kx_puti 97 F fw_X10_46 rfl hk_c0 rfl rfl (j := 4) rfl dX10_go_94 rfl ?_
      intro N_110 hM_N_110
      have hI_N_110 : Inv false N_110 := Inv.u hI_N_105 hM_N_110 hk_c0 (a := 0) (b := 511) rfl rfl rfl (by omega)
      have hF_N_110 : Fr f_c_X10_go M N_110 := Fr.u hF_N_105 hM_N_110 hk_c0 rfl
      refine kx_goto 215 F dX10_go_97 (by decide) ?_
      exact kx_vret F hQ ⟨hI_N_110, hF_N_110⟩ dX10_go_215
theorem dX10_isTaken_0 : decode cX10_isTaken 0 = .ok (.aload_n 0, 1) := by decide +kernel
theorem dX10_isTaken_1 : decode cX10_isTaken 1 = .ok (.getfield 36, 3) := by decide +kernel
theorem dX10_isTaken_4 : decode cX10_isTaken 4 = .ok (.aload_n 1, 1) := by decide +kernel
theorem dX10_isTaken_5 : decode cX10_isTaken 5 = .ok (.getfield 63, 3) := by decide +kernel
theorem dX10_isTaken_8 : decode cX10_isTaken 8 = .ok (.iand, 1) := by decide +kernel
theorem dX10_isTaken_9 : decode cX10_isTaken 9 = .ok (.ifCond .eq 7, 3) := by decide +kernel
theorem dX10_isTaken_12 : decode cX10_isTaken 12 = .ok (.iconst 1, 1) := by decide +kernel
theorem dX10_isTaken_13 : decode cX10_isTaken 13 = .ok (.goto 4, 3) := by decide +kernel
theorem dX10_isTaken_16 : decode cX10_isTaken 16 = .ok (.iconst 0, 1) := by decide +kernel
theorem dX10_isTaken_17 : decode cX10_isTaken 17 = .ok (.ireturn, 1) := by decide +kernel
set_option maxHeartbeats 4000000 in
set_option maxRecDepth 100000 in
theorem c_X10_isTaken (G : KG) (l : Launch) (M : Mem) (c0 : Int) (c1 : Int) (hI_M : Inv false M) (hk_c0 : kd c0 = 8) (hk_c1 : kd c1 = 1) : KC false G l yX10_isTaken cX10_isTaken 2 (some .boolean) (0, 0) [vR G c0, vR G c1] M (fun A => kQi false G A (fun (r : Int) (N : Mem) => M = N ∧ (0 ≤ r ∧ r ≤ 1))) := by
  refine kx_met (lo := [some (vR G c0), some (vR G c1)]) (by decide) (Nat.le_of_ble_eq_true rfl) rfl ?_
  intro X F hQ
  refine kx_aload_n 1 F 0 dX10_isTaken_0 rfl rfl rfl ?_
  refine kx_geti 4 F fl_X10_36 hk_c0 rfl rfl (j := 3) rfl dX10_isTaken_1 (v := (M c0 3)) rfl rfl ?_
  have h_1 := Inv.g hI_M hk_c0 rfl 3 (a := 0) (b := 7) rfl rfl
  refine kx_aload_n 5 F 1 dX10_isTaken_4 rfl rfl rfl ?_
  refine kx_geti 8 F fl_X10_63 hk_c1 rfl rfl (j := 3) rfl dX10_isTaken_5 (v := (M c1 3)) rfl rfl ?_
  have h_2 := Inv.g hI_M hk_c1 rfl 3 (a := 0) (b := 7) rfl rfl
  refine kx_iand 9 F (v := (zand (M c0 3) (M c1 3))) dX10_isTaken_8 rfl rfl ?_
  have h_3 := zand_r (a := (M c0 3)) (b := (M c1 3)) (by omega)
  refine kx_if_eq 12 F 16 dX10_isTaken_9 (by decide) rfl (by omega) (fun h_4 => ?_) (fun h_4 => ?_)
  · refine kx_iconst 17 F dX10_isTaken_16 rfl ?_
    exact kx_zret F hQ (by omega) ⟨rfl, (by omega)⟩ dX10_isTaken_17
  · refine kx_iconst 13 F dX10_isTaken_12 rfl ?_
    refine kx_goto 17 F dX10_isTaken_13 (by decide) ?_
    exact kx_zret F hQ (by omega) ⟨rfl, (by omega)⟩ dX10_isTaken_17
theorem dX10_become_0 : decode cX10_become 0 = .ok (.aload_n 0, 1) := by decide +kernel
theorem dX10_become_1 : decode cX10_become 1 = .ok (.aload_n 1, 1) := by decide +kernel
theorem dX10_become_2 : decode cX10_become 2 = .ok (.getfield 9, 3) := by decide +kernel
theorem dX10_become_5 : decode cX10_become 5 = .ok (.putfield 9, 3) := by decide +kernel
theorem dX10_become_8 : decode cX10_become 8 = .ok (.aload_n 0, 1) := by decide +kernel
theorem dX10_become_9 : decode cX10_become 9 = .ok (.aload_n 1, 1) := by decide +kernel
theorem dX10_become_10 : decode cX10_become 10 = .ok (.getfield 25, 3) := by decide +kernel
theorem dX10_become_13 : decode cX10_become 13 = .ok (.putfield 25, 3) := by decide +kernel
theorem dX10_become_16 : decode cX10_become 16 = .ok (.aload_n 0, 1) := by decide +kernel
theorem dX10_become_17 : decode cX10_become 17 = .ok (.aload_n 1, 1) := by decide +kernel
theorem dX10_become_18 : decode cX10_become 18 = .ok (.getfield 28, 3) := by decide +kernel
theorem dX10_become_21 : decode cX10_become 21 = .ok (.putfield 28, 3) := by decide +kernel
theorem dX10_become_24 : decode cX10_become 24 = .ok (.aload_n 0, 1) := by decide +kernel
theorem dX10_become_25 : decode cX10_become 25 = .ok (.aload_n 1, 1) := by decide +kernel
theorem dX10_become_26 : decode cX10_become 26 = .ok (.getfield 36, 3) := by decide +kernel
theorem dX10_become_29 : decode cX10_become 29 = .ok (.putfield 36, 3) := by decide +kernel
theorem dX10_become_32 : decode cX10_become 32 = .ok (.aload_n 0, 1) := by decide +kernel
theorem dX10_become_33 : decode cX10_become 33 = .ok (.aload_n 1, 1) := by decide +kernel
theorem dX10_become_34 : decode cX10_become 34 = .ok (.getfield 46, 3) := by decide +kernel
theorem dX10_become_37 : decode cX10_become 37 = .ok (.putfield 46, 3) := by decide +kernel
theorem dX10_become_40 : decode cX10_become 40 = .ok (.aload_n 1, 1) := by decide +kernel
theorem dX10_become_41 : decode cX10_become 41 = .ok (.getfield 15, 3) := by decide +kernel
theorem dX10_become_44 : decode cX10_become 44 = .ok (.iconst 0, 1) := by decide +kernel
theorem dX10_become_45 : decode cX10_become 45 = .ok (.aload_n 0, 1) := by decide +kernel
theorem dX10_become_46 : decode cX10_become 46 = .ok (.getfield 15, 3) := by decide +kernel
theorem dX10_become_49 : decode cX10_become 49 = .ok (.iconst 0, 1) := by decide +kernel
theorem dX10_become_50 : decode cX10_become 50 = .ok (.bipush 30, 2) := by decide +kernel
theorem dX10_become_52 : decode cX10_become 52 = .ok (.invokestatic 66, 3) := by decide +kernel
theorem dX10_become_55 : decode cX10_become 55 = .ok (.aload_n 1, 1) := by decide +kernel
theorem dX10_become_56 : decode cX10_become 56 = .ok (.getfield 19, 3) := by decide +kernel
theorem dX10_become_59 : decode cX10_become 59 = .ok (.iconst 0, 1) := by decide +kernel
theorem dX10_become_60 : decode cX10_become 60 = .ok (.aload_n 0, 1) := by decide +kernel
theorem dX10_become_61 : decode cX10_become 61 = .ok (.getfield 19, 3) := by decide +kernel
theorem dX10_become_64 : decode cX10_become 64 = .ok (.iconst 0, 1) := by decide +kernel
theorem dX10_become_65 : decode cX10_become 65 = .ok (.bipush 30, 2) := by decide +kernel
theorem dX10_become_67 : decode cX10_become 67 = .ok (.invokestatic 66, 3) := by decide +kernel
theorem dX10_become_70 : decode cX10_become 70 = .ok (.aload_n 1, 1) := by decide +kernel
theorem dX10_become_71 : decode cX10_become 71 = .ok (.getfield 22, 3) := by decide +kernel
theorem dX10_become_74 : decode cX10_become 74 = .ok (.iconst 0, 1) := by decide +kernel
theorem dX10_become_75 : decode cX10_become 75 = .ok (.aload_n 0, 1) := by decide +kernel
theorem dX10_become_76 : decode cX10_become 76 = .ok (.getfield 22, 3) := by decide +kernel
theorem dX10_become_79 : decode cX10_become 79 = .ok (.iconst 0, 1) := by decide +kernel
theorem dX10_become_80 : decode cX10_become 80 = .ok (.bipush 30, 2) := by decide +kernel
theorem dX10_become_82 : decode cX10_become 82 = .ok (.invokestatic 66, 3) := by decide +kernel
theorem dX10_become_85 : decode cX10_become 85 = .ok (.return_, 1) := by decide +kernel
abbrev f_c_X10_become : List (Nat × Int) := [(8, 0), (8, 1), (8, 2), (8, 3), (8, 4), (9, -1), (10, -1), (11, -1)]
set_option maxHeartbeats 4000000 in
set_option maxRecDepth 100000 in
theorem c_X10_become (G : KG) (l : Launch) (M : Mem) (c0 : Int) (c1 : Int) (hI_M : Inv false M) (hk_c0 : kd c0 = 8) (hk_c1 : kd c1 = 8) : KC false G l yX10_become cX10_become 2 none (1, 18) [vR G c0, vR G c1] M (fun A => kQv false G A (fun (N : Mem) => Inv false N ∧ Fr f_c_X10_become M N)) := by
  refine kx_met (lo := [some (vR G c0), some (vR G c1)]) (by decide) (Nat.le_of_ble_eq_true rfl) rfl ?_
  intro X F hQ
  have hF_M : Fr f_c_X10_become M M := Fr.rf _ _
  refine kx_aload_n 1 F 0 dX10_become_0 rfl rfl rfl ?_
  refine kx_aload_n 2 F 1 dX10_become_1 rfl rfl rfl ?_
  refine kx_geti 5 F fl_X10_9 hk_c1 rfl rfl (j := 0) rfl dX10_become_2 (v := (M c1 0)) rfl rfl ?_
  have h_1 := Inv.g hI_M hk_c1 rfl 0 (a := (-1)) (b := 1) rfl rfl
  refine kx_puti 8 F fw_X10_9 rfl hk_c0 rfl rfl (j := 0) rfl dX10_become_5 rfl ?_
  intro N_2 hM_N_2
  have hI_N_2 : Inv false N_2 := Inv.u hI_M hM_N_2 hk_c0 (a := (-1)) (b := 1) rfl rfl rfl (by omega)
  have hF_N_2 : Fr f_c_X10_become M N_2 := Fr.u hF_M hM_N_2 hk_c0 rfl
  refine kx_aload_n 9 F 0 dX10_become_8 rfl rfl rfl ?_
  refine kx_aload_n 10 F 1 dX10_become_9 rfl rfl rfl ?_
  refine kx_geti 13 F fl_X10_25 hk_c1 rfl rfl (j := 1) rfl dX10_become_10 (v := (M c1 1)) (by rw [hM_N_2, mu_i (by omega)]) rfl ?_
  have h_3 := Inv.g hI_M hk_c1 rfl 1 (a := (-2147483648)) (b := 2147483647) rfl rfl
  refine kx_puti 16 F fw_X10_25 rfl hk_c0 rfl rfl (j := 1) rfl dX10_become_13 rfl ?_
  intro N_4 hM_N_4
  have hI_N_4 : Inv false N_4 := Inv.u hI_N_2 hM_N_4 hk_c0 (a := (-2147483648)) (b := 2147483647) rfl rfl rfl (by omega)
  have hF_N_4 : Fr f_c_X10_become M N_4 := Fr.u hF_N_2 hM_N_4 hk_c0 rfl
  refine kx_aload_n 17 F 0 dX10_become_16 rfl rfl rfl ?_
  refine kx_aload_n 18 F 1 dX10_become_17 rfl rfl rfl ?_
  refine kx_geti 21 F fl_X10_28 hk_c1 rfl rfl (j := 2) rfl dX10_become_18 (v := (M c1 2)) (by rw [hM_N_4, mu_i (by omega), hM_N_2, mu_i (by omega)]) rfl ?_
  have h_5 := Inv.g hI_M hk_c1 rfl 2 (a := 0) (b := 30) rfl rfl
  refine kx_puti 24 F fw_X10_28 rfl hk_c0 rfl rfl (j := 2) rfl dX10_become_21 rfl ?_
  intro N_6 hM_N_6
  have hI_N_6 : Inv false N_6 := Inv.u hI_N_4 hM_N_6 hk_c0 (a := 0) (b := 30) rfl rfl rfl (by omega)
  have hF_N_6 : Fr f_c_X10_become M N_6 := Fr.u hF_N_4 hM_N_6 hk_c0 rfl
  refine kx_aload_n 25 F 0 dX10_become_24 rfl rfl rfl ?_
  refine kx_aload_n 26 F 1 dX10_become_25 rfl rfl rfl ?_
  refine kx_geti 29 F fl_X10_36 hk_c1 rfl rfl (j := 3) rfl dX10_become_26 (v := (M c1 3)) (by rw [hM_N_6, mu_i (by omega), hM_N_4, mu_i (by omega), hM_N_2, mu_i (by omega)]) rfl ?_
  have h_7 := Inv.g hI_M hk_c1 rfl 3 (a := 0) (b := 7) rfl rfl
  refine kx_puti 32 F fw_X10_36 rfl hk_c0 rfl rfl (j := 3) rfl dX10_become_29 rfl ?_
  intro N_8 hM_N_8
  have hI_N_8 : Inv false N_8 := Inv.u hI_N_6 hM_N_8 hk_c0 (a := 0) (b := 7) rfl rfl rfl (by omega)
  have hF_N_8 : Fr f_c_X10_become M N_8 := Fr.u hF_N_6 hM_N_8 hk_c0 rfl
  refine kx_aload_n 33 F 0 dX10_become_32 rfl rfl rfl ?_
  refine kx_aload_n 34 F 1 dX10_become_33 rfl rfl rfl ?_
  refine kx_geti 37 F fl_X10_46 hk_c1 rfl rfl (j := 4) rfl dX10_become_34 (v := (M c1 4)) (by rw [hM_N_8, mu_i (by omega), hM_N_6, mu_i (by omega), hM_N_4, mu_i (by omega), hM_N_2, mu_i (by omega)]) rfl ?_
  have h_9 := Inv.g hI_M hk_c1 rfl 4 (a := 0) (b := 511) rfl rfl
  refine kx_puti 40 F fw_X10_46 rfl hk_c0 rfl rfl (j := 4) rfl dX10_become_37 rfl ?_
  intro N_10 hM_N_10
  have hI_N_10 : Inv false N_10 := Inv.u hI_N_8 hM_N_10 hk_c0 (a := 0) (b := 511) rfl rfl rfl (by omega)
  have hF_N_10 : Fr f_c_X10_become M N_10 := Fr.u hF_N_8 hM_N_10 hk_c0 rfl
  refine kx_aload_n 41 F 1 dX10_become_40 rfl rfl rfl ?_
  refine kx_getr 44 F fl_X10_15 hk_c1 rfl rfl (j := 5) rfl dX10_become_41 (v := (M c1 5)) (by rw [hM_N_10, mu_i (by omega), hM_N_8, mu_i (by omega), hM_N_6, mu_i (by omega), hM_N_4, mu_i (by omega), hM_N_2, mu_i (by omega)]) rfl ?_
  have hk_11 : kd (M c1 5) = 9 := Inv.r hI_M hk_c1 rfl 5 rfl rfl
  refine kx_iconst 45 F dX10_become_44 rfl ?_
  refine kx_aload_n 46 F 0 dX10_become_45 rfl rfl rfl ?_
  refine kx_getr 49 F fl_X10_15 hk_c0 rfl rfl (j := 5) rfl dX10_become_46 (v := (M c0 5)) (by rw [hM_N_10, mu_i (by omega), hM_N_8, mu_i (by omega), hM_N_6, mu_i (by omega), hM_N_4, mu_i (by omega), hM_N_2, mu_i (by omega)]) rfl ?_
  have hk_12 : kd (M c0 5) = 9 := Inv.r hI_M hk_c0 rfl 5 rfl rfl
  refine kx_iconst 50 F dX10_become_49 rfl ?_
  refine kx_bipush 52 F dX10_become_50 (by decide) rfl ?_
  refine kx_copyi 55 F hk_11 rfl rfl hk_12 rfl rfl dX10_become_52 (tt lm_1586 rfl) (tt lm_782 rfl) (tt lm_781 rfl) (tt lm_186 rfl) (by omega) (by decide) (by decide) (Nat.le_of_ble_eq_true rfl) rfl ?_
  intro N_13 hM_N_13
  have hI_N_13 : Inv false N_13 := Inv.cp hI_N_10 hM_N_13 hk_11 hk_12 rfl (x := 0) (y := 7) (fun _ => rfl) (fun _ => rfl) (fun _ => rfl) (fun _ => rfl) (fun _ => rfl)
  have hF_N_13 : Fr f_c_X10_become M N_13 := Fr.cp hF_N_10 hM_N_13 hk_12 (fun _ => rfl)
  refine kx_aload_n 56 F 1 dX10_become_55 rfl rfl rfl ?_
  refine kx_getr 59 F fl_X10_19 hk_c1 rfl rfl (j := 6) rfl dX10_become_56 (v := (M c1 6)) (by rw [hM_N_13, mcp_k hk_c1 hk_12 rfl, hM_N_10, mu_i (by omega), hM_N_8, mu_i (by omega), hM_N_6, mu_i (by omega), hM_N_4, mu_i (by omega), hM_N_2, mu_i (by omega)]) rfl ?_
  have hk_14 : kd (M c1 6) = 10 := Inv.r hI_M hk_c1 rfl 6 rfl rfl
  refine kx_iconst 60 F dX10_become_59 rfl ?_
  refine kx_aload_n 61 F 0 dX10_become_60 rfl rfl rfl ?_
  refine kx_getr 64 F fl_X10_19 hk_c0 rfl rfl (j := 6) rfl dX10_become_61 (v := (M c0 6)) (by rw [hM_N_13, mcp_k hk_c0 hk_12 rfl, hM_N_10, mu_i (by omega), hM_N_8, mu_i (by omega), hM_N_6, mu_i (by omega), hM_N_4, mu_i (by omega), hM_N_2, mu_i (by omega)]) rfl ?_
  have hk_15 : kd (M c0 6) = 10 := Inv.r hI_M hk_c0 rfl 6 rfl rfl
  refine kx_iconst 65 F dX10_become_64 rfl ?_
  refine kx_bipush 67 F dX10_become_65 (by decide) rfl ?_
  refine kx_copyi 70 F hk_14 rfl rfl hk_15 rfl rfl dX10_become_67 (tt lm_1586 rfl) (tt lm_782 rfl) (tt lm_781 rfl) (tt lm_186 rfl) (by omega) (by decide) (by decide) (Nat.le_of_ble_eq_true rfl) rfl ?_
  intro N_16 hM_N_16
  have hI_N_16 : Inv false N_16 := Inv.cp hI_N_13 hM_N_16 hk_14 hk_15 rfl (x := 0) (y := 511) (fun _ => rfl) (fun _ => rfl) (fun _ => rfl) (fun _ => rfl) (fun _ => rfl)
  have hF_N_16 : Fr f_c_X10_become M N_16 := Fr.cp hF_N_13 hM_N_16 hk_15 (fun _ => rfl)
  refine kx_aload_n 71 F 1 dX10_become_70 rfl rfl rfl ?_
  refine kx_getr 74 F fl_X10_22 hk_c1 rfl rfl (j := 7) rfl dX10_become_71 (v := (M c1 7)) (by rw [hM_N_16, mcp_k hk_c1 hk_15 rfl, hM_N_13, mcp_k hk_c1 hk_12 rfl, hM_N_10, mu_i (by omega), hM_N_8, mu_i (by omega), hM_N_6, mu_i (by omega), hM_N_4, mu_i (by omega), hM_N_2, mu_i (by omega)]) rfl ?_
  have hk_17 : kd (M c1 7) = 11 := Inv.r hI_M hk_c1 rfl 7 rfl rfl
  refine kx_iconst 75 F dX10_become_74 rfl ?_
  refine kx_aload_n 76 F 0 dX10_become_75 rfl rfl rfl ?_
  refine kx_getr 79 F fl_X10_22 hk_c0 rfl rfl (j := 7) rfl dX10_become_76 (v := (M c0 7)) (by rw [hM_N_16, mcp_k hk_c0 hk_15 rfl, hM_N_13, mcp_k hk_c0 hk_12 rfl, hM_N_10, mu_i (by omega), hM_N_8, mu_i (by omega), hM_N_6, mu_i (by omega), hM_N_4, mu_i (by omega), hM_N_2, mu_i (by omega)]) rfl ?_
  have hk_18 : kd (M c0 7) = 11 := Inv.r hI_M hk_c0 rfl 7 rfl rfl
  refine kx_iconst 80 F dX10_become_79 rfl ?_
  refine kx_bipush 82 F dX10_become_80 (by decide) rfl ?_
  refine kx_copyi 85 F hk_17 rfl rfl hk_18 rfl rfl dX10_become_82 (tt lm_1586 rfl) (tt lm_782 rfl) (tt lm_781 rfl) (tt lm_186 rfl) (by omega) (by decide) (by decide) (Nat.le_of_ble_eq_true rfl) rfl ?_
  intro N_19 hM_N_19
  have hI_N_19 : Inv false N_19 := Inv.cp hI_N_16 hM_N_19 hk_17 hk_18 rfl (x := 0) (y := 5) (fun _ => rfl) (fun _ => rfl) (fun _ => rfl) (fun _ => rfl) (fun _ => rfl)
  have hF_N_19 : Fr f_c_X10_become M N_19 := Fr.cp hF_N_16 hM_N_19 hk_18 (fun _ => rfl)
  exact kx_vret F hQ ⟨hI_N_19, hF_N_19⟩ dX10_become_85
theorem dX5_has_0 : decode cX5_has 0 = .ok (.iload_n 1, 1) := by decide +kernel
theorem dX5_has_1 : decode cX5_has 1 = .ok (.ifCond .lt 15, 3) := by decide +kernel
theorem dX5_has_4 : decode cX5_has 4 = .ok (.iload_n 1, 1) := by decide +kernel
theorem dX5_has_5 : decode cX5_has 5 = .ok (.aload_n 0, 1) := by decide +kernel
theorem dX5_has_6 : decode cX5_has 6 = .ok (.getfield 38, 3) := by decide +kernel
theorem dX5_has_9 : decode cX5_has 9 = .ok (.if_icmp .ge 7, 3) := by decide +kernel
theorem dX5_has_12 : decode cX5_has 12 = .ok (.iconst 1, 1) := by decide +kernel
theorem dX5_has_13 : decode cX5_has 13 = .ok (.goto 4, 3) := by decide +kernel
theorem dX5_has_16 : decode cX5_has 16 = .ok (.iconst 0, 1) := by decide +kernel
theorem dX5_has_17 : decode cX5_has 17 = .ok (.ireturn, 1) := by decide +kernel
set_option maxHeartbeats 4000000 in
set_option maxRecDepth 100000 in
theorem c_X5_has (G : KG) (l : Launch) (M : Mem) (c0 : Int) (a1 : Int) (hI_M : Inv false M) (hk_c0 : kd c0 = 12) (hpre : -2147483648 ≤ a1 ∧ a1 ≤ 2147483647) : KC false G l yX5_has cX5_has 2 (some .boolean) (0, 0) [vR G c0, vI a1] M (fun A => kQi false G A (fun (r : Int) (N : Mem) => M = N ∧ ((r = 1 ∧ 0 ≤ a1 ∧ a1 < (M c0 3)) ∨ (r = 0)))) := by
  refine kx_met (lo := [some (vR G c0), some (vI a1)]) (by decide) (Nat.le_of_ble_eq_true rfl) rfl ?_
  intro X F hQ
  refine kx_iload_n 1 F 1 dX5_has_0 rfl rfl rfl ?_
  refine kx_if_lt 4 F 16 dX5_has_1 (by decide) rfl (by omega) (fun h_1 => ?_) (fun h_1 => ?_)
  · refine kx_iconst 17 F dX5_has_16 rfl ?_
    have h_2 := Inv.g hI_M hk_c0 rfl 3 (a := 0) (b := 2) rfl rfl
    exact kx_zret F hQ (by omega) ⟨rfl, (by omega)⟩ dX5_has_17
  · refine kx_iload_n 5 F 1 dX5_has_4 rfl rfl rfl ?_
    refine kx_aload_n 6 F 0 dX5_has_5 rfl rfl rfl ?_
    refine kx_geti 9 F fl_X5_38 hk_c0 rfl rfl (j := 3) rfl dX5_has_6 (v := (M c0 3)) rfl rfl ?_
    have h_3 := Inv.g hI_M hk_c0 rfl 3 (a := 0) (b := 2) rfl rfl
    refine kx_icmp_ge 12 F 16 dX5_has_9 (by decide) rfl (by omega) (by omega) (fun h_4 => ?_) (fun h_4 => ?_)
    · refine kx_iconst 17 F dX5_has_16 rfl ?_
      exact kx_zret F hQ (by omega) ⟨rfl, (by omega)⟩ dX5_has_17
    · refine kx_iconst 13 F dX5_has_12 rfl ?_
      refine kx_goto 17 F dX5_has_13 (by decide) ?_
      exact kx_zret F hQ (by omega) ⟨rfl, (by omega)⟩ dX5_has_17
theorem dX5_pick_0 : decode cX5_pick 0 = .ok (.iload_n 1, 1) := by decide +kernel
theorem dX5_pick_1 : decode cX5_pick 1 = .ok (.ifCond .ne 10, 3) := by decide +kernel
theorem dX5_pick_4 : decode cX5_pick 4 = .ok (.aload_n 0, 1) := by decide +kernel
theorem dX5_pick_5 : decode cX5_pick 5 = .ok (.getfield 12, 3) := by decide +kernel
theorem dX5_pick_8 : decode cX5_pick 8 = .ok (.goto 7, 3) := by decide +kernel
theorem dX5_pick_11 : decode cX5_pick 11 = .ok (.aload_n 0, 1) := by decide +kernel
theorem dX5_pick_12 : decode cX5_pick 12 = .ok (.getfield 18, 3) := by decide +kernel
theorem dX5_pick_15 : decode cX5_pick 15 = .ok (.areturn, 1) := by decide +kernel
set_option maxHeartbeats 4000000 in
set_option maxRecDepth 100000 in
theorem c_X5_pick (G : KG) (l : Launch) (M : Mem) (c0 : Int) (a1 : Int) (hI_M : Inv false M) (hk_c0 : kd c0 = 12) (hpre : -2147483648 ≤ a1 ∧ a1 ≤ 2147483647) : KC false G l yX5_pick cX5_pick 2 (some (.object "NestedChecker$Automaton")) (0, 0) [vR G c0, vI a1] M (fun A => kQr false G A (fun (r : Int) (N : Mem) => M = N ∧ kd r = 1)) := by
  refine kx_met (lo := [some (vR G c0), some (vI a1)]) (by decide) (Nat.le_of_ble_eq_true rfl) rfl ?_
  intro X F hQ
  refine kx_iload_n 1 F 1 dX5_pick_0 rfl rfl rfl ?_
  refine kx_if_ne 4 F 11 dX5_pick_1 (by decide) rfl (by omega) (fun h_1 => ?_) (fun h_1 => ?_)
  · refine kx_aload_n 12 F 0 dX5_pick_11 rfl rfl rfl ?_
    refine kx_getr 15 F fl_X5_18 hk_c0 rfl rfl (j := 5) rfl dX5_pick_12 (v := (M c0 5)) rfl rfl ?_
    have hk_2 : kd (M c0 5) = 1 := Inv.r hI_M hk_c0 rfl 5 rfl rfl
    exact kx_aret F hQ ⟨rfl, hk_2⟩ dX5_pick_15
  · refine kx_aload_n 5 F 0 dX5_pick_4 rfl rfl rfl ?_
    refine kx_getr 8 F fl_X5_12 hk_c0 rfl rfl (j := 4) rfl dX5_pick_5 (v := (M c0 4)) rfl rfl ?_
    have hk_3 : kd (M c0 4) = 1 := Inv.r hI_M hk_c0 rfl 4 rfl rfl
    refine kx_goto 15 F dX5_pick_8 (by decide) ?_
    exact kx_aret F hQ ⟨rfl, hk_3⟩ dX5_pick_15
set_option maxHeartbeats 4000000 in
set_option maxRecDepth 100000 in
theorem c_X5_pickE (G : KG) (l : Launch) (M : Mem) (c0 : Int) (a1 : Int) (hI_M : Inv false M) (hk_c0 : kd c0 = 12) (hpre : -2147483648 ≤ a1 ∧ a1 ≤ 2147483647) : KC false G l yX5_pick cX5_pick 2 (some (.object "NestedChecker$Automaton")) (0, 0) [vR G c0, vI a1] M (fun A => kQr false G A (fun (r : Int) (N : Mem) => M = N ∧ kd r = 1 ∧ (((a1 = 0) ∧ r = (M c0 4)) ∨ ((a1 ≠ 0) ∧ r = (M c0 5))))) := by
  refine kx_met (lo := [some (vR G c0), some (vI a1)]) (by decide) (Nat.le_of_ble_eq_true rfl) rfl ?_
  intro X F hQ
  refine kx_iload_n 1 F 1 dX5_pick_0 rfl rfl rfl ?_
  refine kx_if_ne 4 F 11 dX5_pick_1 (by decide) rfl (by omega) (fun h_1 => ?_) (fun h_1 => ?_)
  · refine kx_aload_n 12 F 0 dX5_pick_11 rfl rfl rfl ?_
    refine kx_getr 15 F fl_X5_18 hk_c0 rfl rfl (j := 5) rfl dX5_pick_12 (v := (M c0 5)) rfl rfl ?_
    have hk_2 : kd (M c0 5) = 1 := Inv.r hI_M hk_c0 rfl 5 rfl rfl
    exact kx_aret F hQ ⟨rfl, hk_2, Or.inr ⟨(by omega), rfl⟩⟩ dX5_pick_15
  · refine kx_aload_n 5 F 0 dX5_pick_4 rfl rfl rfl ?_
    refine kx_getr 8 F fl_X5_12 hk_c0 rfl rfl (j := 4) rfl dX5_pick_5 (v := (M c0 4)) rfl rfl ?_
    have hk_3 : kd (M c0 4) = 1 := Inv.r hI_M hk_c0 rfl 4 rfl rfl
    refine kx_goto 15 F dX5_pick_8 (by decide) ?_
    exact kx_aret F hQ ⟨rfl, hk_3, Or.inl ⟨(by omega), rfl⟩⟩ dX5_pick_15
theorem dX5_hasLetter_0 : decode cX5_hasLetter 0 = .ok (.iload_n 1, 1) := by decide +kernel
theorem dX5_hasLetter_1 : decode cX5_hasLetter 1 = .ok (.ifCond .lt 15, 3) := by decide +kernel
theorem dX5_hasLetter_4 : decode cX5_hasLetter 4 = .ok (.iload_n 1, 1) := by decide +kernel
theorem dX5_hasLetter_5 : decode cX5_hasLetter 5 = .ok (.aload_n 0, 1) := by decide +kernel
theorem dX5_hasLetter_6 : decode cX5_hasLetter 6 = .ok (.getfield 35, 3) := by decide +kernel
theorem dX5_hasLetter_9 : decode cX5_hasLetter 9 = .ok (.if_icmp .ge 7, 3) := by decide +kernel
theorem dX5_hasLetter_12 : decode cX5_hasLetter 12 = .ok (.iconst 1, 1) := by decide +kernel
theorem dX5_hasLetter_13 : decode cX5_hasLetter 13 = .ok (.goto 4, 3) := by decide +kernel
theorem dX5_hasLetter_16 : decode cX5_hasLetter 16 = .ok (.iconst 0, 1) := by decide +kernel
theorem dX5_hasLetter_17 : decode cX5_hasLetter 17 = .ok (.ireturn, 1) := by decide +kernel
set_option maxHeartbeats 4000000 in
set_option maxRecDepth 100000 in
theorem c_X5_hasLetter (G : KG) (l : Launch) (M : Mem) (c0 : Int) (a1 : Int) (hI_M : Inv false M) (hk_c0 : kd c0 = 12) (hpre : -2147483648 ≤ a1 ∧ a1 ≤ 2147483647) : KC false G l yX5_hasLetter cX5_hasLetter 2 (some .boolean) (0, 0) [vR G c0, vI a1] M (fun A => kQi false G A (fun (r : Int) (N : Mem) => M = N ∧ ((r = 1 ∧ 0 ≤ a1 ∧ a1 < (M c0 2)) ∨ (r = 0)))) := by
  refine kx_met (lo := [some (vR G c0), some (vI a1)]) (by decide) (Nat.le_of_ble_eq_true rfl) rfl ?_
  intro X F hQ
  refine kx_iload_n 1 F 1 dX5_hasLetter_0 rfl rfl rfl ?_
  refine kx_if_lt 4 F 16 dX5_hasLetter_1 (by decide) rfl (by omega) (fun h_1 => ?_) (fun h_1 => ?_)
  · refine kx_iconst 17 F dX5_hasLetter_16 rfl ?_
    have h_2 := Inv.g hI_M hk_c0 rfl 2 (a := 0) (b := 6) rfl rfl
    exact kx_zret F hQ (by omega) ⟨rfl, (by omega)⟩ dX5_hasLetter_17
  · refine kx_iload_n 5 F 1 dX5_hasLetter_4 rfl rfl rfl ?_
    refine kx_aload_n 6 F 0 dX5_hasLetter_5 rfl rfl rfl ?_
    refine kx_geti 9 F fl_X5_35 hk_c0 rfl rfl (j := 2) rfl dX5_hasLetter_6 (v := (M c0 2)) rfl rfl ?_
    have h_3 := Inv.g hI_M hk_c0 rfl 2 (a := 0) (b := 6) rfl rfl
    refine kx_icmp_ge 12 F 16 dX5_hasLetter_9 (by decide) rfl (by omega) (by omega) (fun h_4 => ?_) (fun h_4 => ?_)
    · refine kx_iconst 17 F dX5_hasLetter_16 rfl ?_
      exact kx_zret F hQ (by omega) ⟨rfl, (by omega)⟩ dX5_hasLetter_17
    · refine kx_iconst 13 F dX5_hasLetter_12 rfl ?_
      refine kx_goto 17 F dX5_hasLetter_13 (by decide) ?_
      exact kx_zret F hQ (by omega) ⟨rfl, (by omega)⟩ dX5_hasLetter_17
theorem dX5_sortOf_0 : decode cX5_sortOf 0 = .ok (.aload_n 0, 1) := by decide +kernel
theorem dX5_sortOf_1 : decode cX5_sortOf 1 = .ok (.iload_n 1, 1) := by decide +kernel
theorem dX5_sortOf_2 : decode cX5_sortOf 2 = .ok (.invokevirtual 51, 3) := by decide +kernel
theorem dX5_sortOf_5 : decode cX5_sortOf 5 = .ok (.ifCond .ne 5, 3) := by decide +kernel
theorem dX5_sortOf_8 : decode cX5_sortOf 8 = .ok (.iconst (-1), 1) := by decide +kernel
theorem dX5_sortOf_9 : decode cX5_sortOf 9 = .ok (.ireturn, 1) := by decide +kernel
theorem dX5_sortOf_10 : decode cX5_sortOf 10 = .ok (.iload_n 1, 1) := by decide +kernel
theorem dX5_sortOf_11 : decode cX5_sortOf 11 = .ok (.aload_n 0, 1) := by decide +kernel
theorem dX5_sortOf_12 : decode cX5_sortOf 12 = .ok (.getfield 28, 3) := by decide +kernel
theorem dX5_sortOf_15 : decode cX5_sortOf 15 = .ok (.if_icmp .ge 5, 3) := by decide +kernel
theorem dX5_sortOf_18 : decode cX5_sortOf 18 = .ok (.iconst 0, 1) := by decide +kernel
theorem dX5_sortOf_19 : decode cX5_sortOf 19 = .ok (.ireturn, 1) := by decide +kernel
theorem dX5_sortOf_20 : decode cX5_sortOf 20 = .ok (.iload_n 1, 1) := by decide +kernel
theorem dX5_sortOf_21 : decode cX5_sortOf 21 = .ok (.aload_n 0, 1) := by decide +kernel
theorem dX5_sortOf_22 : decode cX5_sortOf 22 = .ok (.getfield 32, 3) := by decide +kernel
theorem dX5_sortOf_25 : decode cX5_sortOf 25 = .ok (.if_icmp .ge 7, 3) := by decide +kernel
theorem dX5_sortOf_28 : decode cX5_sortOf 28 = .ok (.iconst 1, 1) := by decide +kernel
theorem dX5_sortOf_29 : decode cX5_sortOf 29 = .ok (.goto 4, 3) := by decide +kernel
theorem dX5_sortOf_32 : decode cX5_sortOf 32 = .ok (.iconst 2, 1) := by decide +kernel
theorem dX5_sortOf_33 : decode cX5_sortOf 33 = .ok (.ireturn, 1) := by decide +kernel
set_option maxHeartbeats 4000000 in
set_option maxRecDepth 100000 in
theorem c_X5_sortOf (G : KG) (l : Launch) (M : Mem) (c0 : Int) (a1 : Int) (hI_M : Inv false M) (hk_c0 : kd c0 = 12) (hpre : -2147483648 ≤ a1 ∧ a1 ≤ 2147483647) : KC false G l yX5_sortOf cX5_sortOf 2 (some .int) (1, 21) [vR G c0, vI a1] M (fun A => kQi false G A (fun (r : Int) (N : Mem) => M = N ∧ ((r = -1) ∨ (r ≥ 0 ∧ r ≤ 2 ∧ 0 ≤ a1 ∧ a1 < (M c0 2))))) := by
  refine kx_met (lo := [some (vR G c0), some (vI a1)]) (by decide) (Nat.le_of_ble_eq_true rfl) rfl ?_
  intro X F hQ
  refine kx_aload_n 1 F 0 dX5_sortOf_0 rfl rfl rfl ?_
  refine kx_iload_n 2 F 1 dX5_sortOf_1 rfl rfl rfl ?_
  refine kx_Vi 5 (ci := 0) F (As := [vI a1]) (st := []) vd_X5_51 (c_X5_hasLetter G l M c0 a1 hI_M hk_c0 (by omega)) hk_c0 rfl rfl rfl ⟨by decide, by decide⟩ rfl rfl (Nat.le_of_ble_eq_true rfl) dX5_sortOf_2 rfl ?_
  intro r_1 N_2 q_3
  obtain ⟨rfl, q_3c⟩ := q_3
  have h_4 := Inv.g hI_M hk_c0 rfl 2 (a := 0) (b := 6) rfl rfl
  rcases q_3c with q_3c | q_3c
  · refine kx_if_ne 8 F 10 dX5_sortOf_5 (by decide) rfl (by omega) (fun h_5 => ?_) (fun h_5 => (by exfalso; omega))
    refine kx_iload_n 11 F 1 dX5_sortOf_10 rfl rfl rfl ?_
    refine kx_aload_n 12 F 0 dX5_sortOf_11 rfl rfl rfl ?_
    refine kx_geti 15 F fl_X5_28 hk_c0 rfl rfl (j := 0) rfl dX5_sortOf_12 (v := (M c0 0)) rfl rfl ?_
    have h_6 := Inv.g hI_M hk_c0 rfl 0 (a := 0) (b := 2) rfl rfl
    refine kx_icmp_ge 18 F 20 dX5_sortOf_15 (by decide) rfl (by omega) (by omega) (fun h_7 => ?_) (fun h_7 => ?_)
    · refine kx_iload_n 21 F 1 dX5_sortOf_20 rfl rfl rfl ?_
      refine kx_aload_n 22 F 0 dX5_sortOf_21 rfl rfl rfl ?_
      refine kx_geti 25 F fl_X5_32 hk_c0 rfl rfl (j := 1) rfl dX5_sortOf_22 (v := (M c0 1)) rfl rfl ?_
      have h_8 := Inv.g hI_M hk_c0 rfl 1 (a := 0) (b := 4) rfl rfl
      refine kx_icmp_ge 28 F 32 dX5_sortOf_25 (by decide) rfl (by omega) (by omega) (fun h_9 => ?_) (fun h_9 => ?_)
      · refine kx_iconst 33 F dX5_sortOf_32 rfl ?_
        exact kx_iret F hQ ⟨rfl, (by omega)⟩ dX5_sortOf_33
      · refine kx_iconst 29 F dX5_sortOf_28 rfl ?_
        refine kx_goto 33 F dX5_sortOf_29 (by decide) ?_
        exact kx_iret F hQ ⟨rfl, (by omega)⟩ dX5_sortOf_33
    · refine kx_iconst 19 F dX5_sortOf_18 rfl ?_
      exact kx_iret F hQ ⟨rfl, (by omega)⟩ dX5_sortOf_19
  · refine kx_if_ne 8 F 10 dX5_sortOf_5 (by decide) rfl (by omega) (fun h_10 => (by exfalso; omega)) (fun h_10 => ?_)
    refine kx_iconst 9 F dX5_sortOf_8 rfl ?_
    have h_11 := Inv.g hI_M hk_c0 rfl 2 (a := 0) (b := 6) rfl rfl
    exact kx_iret F hQ ⟨rfl, (by omega)⟩ dX5_sortOf_9
theorem dX5_manyOf_0 : decode cX5_manyOf 0 = .ok (.iload_n 1, 1) := by decide +kernel
theorem dX5_manyOf_1 : decode cX5_manyOf 1 = .ok (.ifCond .ne 8, 3) := by decide +kernel
theorem dX5_manyOf_4 : decode cX5_manyOf 4 = .ok (.aload_n 0, 1) := by decide +kernel
theorem dX5_manyOf_5 : decode cX5_manyOf 5 = .ok (.getfield 28, 3) := by decide +kernel
theorem dX5_manyOf_8 : decode cX5_manyOf 8 = .ok (.ireturn, 1) := by decide +kernel
theorem dX5_manyOf_9 : decode cX5_manyOf 9 = .ok (.iload_n 1, 1) := by decide +kernel
theorem dX5_manyOf_10 : decode cX5_manyOf 10 = .ok (.iconst 1, 1) := by decide +kernel
theorem dX5_manyOf_11 : decode cX5_manyOf 11 = .ok (.if_icmp .ne 15, 3) := by decide +kernel
theorem dX5_manyOf_14 : decode cX5_manyOf 14 = .ok (.aload_n 0, 1) := by decide +kernel
theorem dX5_manyOf_15 : decode cX5_manyOf 15 = .ok (.getfield 32, 3) := by decide +kernel
theorem dX5_manyOf_18 : decode cX5_manyOf 18 = .ok (.aload_n 0, 1) := by decide +kernel
theorem dX5_manyOf_19 : decode cX5_manyOf 19 = .ok (.getfield 28, 3) := by decide +kernel
theorem dX5_manyOf_22 : decode cX5_manyOf 22 = .ok (.isub, 1) := by decide +kernel
theorem dX5_manyOf_23 : decode cX5_manyOf 23 = .ok (.goto 12, 3) := by decide +kernel
theorem dX5_manyOf_26 : decode cX5_manyOf 26 = .ok (.aload_n 0, 1) := by decide +kernel
theorem dX5_manyOf_27 : decode cX5_manyOf 27 = .ok (.getfield 35, 3) := by decide +kernel
theorem dX5_manyOf_30 : decode cX5_manyOf 30 = .ok (.aload_n 0, 1) := by decide +kernel
theorem dX5_manyOf_31 : decode cX5_manyOf 31 = .ok (.getfield 32, 3) := by decide +kernel
theorem dX5_manyOf_34 : decode cX5_manyOf 34 = .ok (.isub, 1) := by decide +kernel
theorem dX5_manyOf_35 : decode cX5_manyOf 35 = .ok (.ireturn, 1) := by decide +kernel
set_option maxHeartbeats 4000000 in
set_option maxRecDepth 100000 in
theorem c_X5_manyOf (G : KG) (l : Launch) (M : Mem) (c0 : Int) (a1 : Int) (hI_M : Inv false M) (hk_c0 : kd c0 = 12) (hpre : -2147483648 ≤ a1 ∧ a1 ≤ 2147483647) : KC false G l yX5_manyOf cX5_manyOf 2 (some .int) (0, 0) [vR G c0, vI a1] M (fun A => kQi false G A (fun (r : Int) (N : Mem) => M = N ∧ ((a1 = 0 ∧ r = (M c0 0)) ∨ (a1 = 1 ∧ r = (M c0 1) - (M c0 0)) ∨ (a1 ≠ 0 ∧ a1 ≠ 1 ∧ r = (M c0 2) - (M c0 1))))) := by
  refine kx_met (lo := [some (vR G c0), some (vI a1)]) (by decide) (Nat.le_of_ble_eq_true rfl) rfl ?_
  intro X F hQ
  refine kx_iload_n 1 F 1 dX5_manyOf_0 rfl rfl rfl ?_
  refine kx_if_ne 4 F 9 dX5_manyOf_1 (by decide) rfl (by omega) (fun h_1 => ?_) (fun h_1 => ?_)
  · refine kx_iload_n 10 F 1 dX5_manyOf_9 rfl rfl rfl ?_
    refine kx_iconst 11 F dX5_manyOf_10 rfl ?_
    refine kx_icmp_ne 14 F 26 dX5_manyOf_11 (by decide) rfl (by omega) (by decide) (fun h_2 => ?_) (fun h_2 => ?_)
    · refine kx_aload_n 27 F 0 dX5_manyOf_26 rfl rfl rfl ?_
      refine kx_geti 30 F fl_X5_35 hk_c0 rfl rfl (j := 2) rfl dX5_manyOf_27 (v := (M c0 2)) rfl rfl ?_
      have h_3 := Inv.g hI_M hk_c0 rfl 2 (a := 0) (b := 6) rfl rfl
      refine kx_aload_n 31 F 0 dX5_manyOf_30 rfl rfl rfl ?_
      refine kx_geti 34 F fl_X5_32 hk_c0 rfl rfl (j := 1) rfl dX5_manyOf_31 (v := (M c0 1)) rfl rfl ?_
      have h_4 := Inv.g hI_M hk_c0 rfl 1 (a := 0) (b := 4) rfl rfl
      refine kx_isub 35 F (v := (M c0 2) - (M c0 1)) dX5_manyOf_34 rfl rfl ?_
      have h_5 := Inv.g hI_M hk_c0 rfl 0 (a := 0) (b := 2) rfl rfl
      exact kx_iret F hQ ⟨rfl, (by omega)⟩ dX5_manyOf_35
    · refine kx_aload_n 15 F 0 dX5_manyOf_14 rfl rfl rfl ?_
      refine kx_geti 18 F fl_X5_32 hk_c0 rfl rfl (j := 1) rfl dX5_manyOf_15 (v := (M c0 1)) rfl rfl ?_
      have h_6 := Inv.g hI_M hk_c0 rfl 1 (a := 0) (b := 4) rfl rfl
      refine kx_aload_n 19 F 0 dX5_manyOf_18 rfl rfl rfl ?_
      refine kx_geti 22 F fl_X5_28 hk_c0 rfl rfl (j := 0) rfl dX5_manyOf_19 (v := (M c0 0)) rfl rfl ?_
      have h_7 := Inv.g hI_M hk_c0 rfl 0 (a := 0) (b := 2) rfl rfl
      refine kx_isub 23 F (v := (M c0 1) - (M c0 0)) dX5_manyOf_22 rfl rfl ?_
      refine kx_goto 35 F dX5_manyOf_23 (by decide) ?_
      have h_8 := Inv.g hI_M hk_c0 rfl 2 (a := 0) (b := 6) rfl rfl
      exact kx_iret F hQ ⟨rfl, (by omega)⟩ dX5_manyOf_35
  · refine kx_aload_n 5 F 0 dX5_manyOf_4 rfl rfl rfl ?_
    refine kx_geti 8 F fl_X5_28 hk_c0 rfl rfl (j := 0) rfl dX5_manyOf_5 (v := (M c0 0)) rfl rfl ?_
    have h_9 := Inv.g hI_M hk_c0 rfl 0 (a := 0) (b := 2) rfl rfl
    have h_10 := Inv.g hI_M hk_c0 rfl 1 (a := 0) (b := 4) rfl rfl
    have h_11 := Inv.g hI_M hk_c0 rfl 2 (a := 0) (b := 6) rfl rfl
    exact kx_iret F hQ ⟨rfl, (by omega)⟩ dX5_manyOf_8
theorem dX5_firstOf_0 : decode cX5_firstOf 0 = .ok (.iload_n 1, 1) := by decide +kernel
theorem dX5_firstOf_1 : decode cX5_firstOf 1 = .ok (.ifCond .ne 5, 3) := by decide +kernel
theorem dX5_firstOf_4 : decode cX5_firstOf 4 = .ok (.iconst 0, 1) := by decide +kernel
theorem dX5_firstOf_5 : decode cX5_firstOf 5 = .ok (.ireturn, 1) := by decide +kernel
theorem dX5_firstOf_6 : decode cX5_firstOf 6 = .ok (.iload_n 1, 1) := by decide +kernel
theorem dX5_firstOf_7 : decode cX5_firstOf 7 = .ok (.iconst 1, 1) := by decide +kernel
theorem dX5_firstOf_8 : decode cX5_firstOf 8 = .ok (.if_icmp .ne 10, 3) := by decide +kernel
theorem dX5_firstOf_11 : decode cX5_firstOf 11 = .ok (.aload_n 0, 1) := by decide +kernel
theorem dX5_firstOf_12 : decode cX5_firstOf 12 = .ok (.getfield 28, 3) := by decide +kernel
theorem dX5_firstOf_15 : decode cX5_firstOf 15 = .ok (.goto 7, 3) := by decide +kernel
theorem dX5_firstOf_18 : decode cX5_firstOf 18 = .ok (.aload_n 0, 1) := by decide +kernel
theorem dX5_firstOf_19 : decode cX5_firstOf 19 = .ok (.getfield 32, 3) := by decide +kernel
theorem dX5_firstOf_22 : decode cX5_firstOf 22 = .ok (.ireturn, 1) := by decide +kernel
set_option maxHeartbeats 4000000 in
set_option maxRecDepth 100000 in
theorem c_X5_firstOf (G : KG) (l : Launch) (M : Mem) (c0 : Int) (a1 : Int) (hI_M : Inv false M) (hk_c0 : kd c0 = 12) (hpre : -2147483648 ≤ a1 ∧ a1 ≤ 2147483647) : KC false G l yX5_firstOf cX5_firstOf 2 (some .int) (0, 0) [vR G c0, vI a1] M (fun A => kQi false G A (fun (r : Int) (N : Mem) => M = N ∧ ((a1 = 0 ∧ r = 0) ∨ (a1 = 1 ∧ r = (M c0 0)) ∨ (a1 ≠ 0 ∧ a1 ≠ 1 ∧ r = (M c0 1))))) := by
  refine kx_met (lo := [some (vR G c0), some (vI a1)]) (by decide) (Nat.le_of_ble_eq_true rfl) rfl ?_
  intro X F hQ
  refine kx_iload_n 1 F 1 dX5_firstOf_0 rfl rfl rfl ?_
  refine kx_if_ne 4 F 6 dX5_firstOf_1 (by decide) rfl (by omega) (fun h_1 => ?_) (fun h_1 => ?_)
  · refine kx_iload_n 7 F 1 dX5_firstOf_6 rfl rfl rfl ?_
    refine kx_iconst 8 F dX5_firstOf_7 rfl ?_
    refine kx_icmp_ne 11 F 18 dX5_firstOf_8 (by decide) rfl (by omega) (by decide) (fun h_2 => ?_) (fun h_2 => ?_)
    · refine kx_aload_n 19 F 0 dX5_firstOf_18 rfl rfl rfl ?_
      refine kx_geti 22 F fl_X5_32 hk_c0 rfl rfl (j := 1) rfl dX5_firstOf_19 (v := (M c0 1)) rfl rfl ?_
      have h_3 := Inv.g hI_M hk_c0 rfl 1 (a := 0) (b := 4) rfl rfl
      have h_4 := Inv.g hI_M hk_c0 rfl 0 (a := 0) (b := 2) rfl rfl
      exact kx_iret F hQ ⟨rfl, (by omega)⟩ dX5_firstOf_22
    · refine kx_aload_n 12 F 0 dX5_firstOf_11 rfl rfl rfl ?_
      refine kx_geti 15 F fl_X5_28 hk_c0 rfl rfl (j := 0) rfl dX5_firstOf_12 (v := (M c0 0)) rfl rfl ?_
      have h_5 := Inv.g hI_M hk_c0 rfl 0 (a := 0) (b := 2) rfl rfl
      refine kx_goto 22 F dX5_firstOf_15 (by decide) ?_
      have h_6 := Inv.g hI_M hk_c0 rfl 1 (a := 0) (b := 4) rfl rfl
      exact kx_iret F hQ ⟨rfl, (by omega)⟩ dX5_firstOf_22
  · refine kx_iconst 5 F dX5_firstOf_4 rfl ?_
    have h_7 := Inv.g hI_M hk_c0 rfl 0 (a := 0) (b := 2) rfl rfl
    have h_8 := Inv.g hI_M hk_c0 rfl 1 (a := 0) (b := 4) rfl rfl
    exact kx_iret F hQ ⟨rfl, (by omega)⟩ dX5_firstOf_5
