set_option maxRecDepth 100000 in
theorem dGR_10_c_1 : (decode cX2_image 0 = .ok (.iload_n 0, 1)) ∧ (decode cX2_image 1 = .ok (.iconst 1, 1)) ∧ (decode cX2_image 2 = .ok (.iand, 1)) ∧ (decode cX2_image 3 = .ok (.iload_n 1, 1)) ∧ (decode cX2_image 4 = .ok (.bipush 7, 2)) ∧ (decode cX2_image 6 = .ok (.iand, 1)) ∧ (decode cX2_image 7 = .ok (.imul, 1)) ∧ (decode cX2_image 8 = .ok (.iload_n 0, 1)) ∧ (decode cX2_image 9 = .ok (.iconst 1, 1)) ∧ (decode cX2_image 10 = .ok (.ishr, 1)) ∧ (decode cX2_image 11 = .ok (.iconst 1, 1)) ∧ (decode cX2_image 12 = .ok (.iand, 1)) := by decide +kernel
theorem dX2_image_0 : decode cX2_image 0 = .ok (.iload_n 0, 1) := dGR_10_c_1.1
theorem dX2_image_1 : decode cX2_image 1 = .ok (.iconst 1, 1) := dGR_10_c_1.2.1
theorem dX2_image_2 : decode cX2_image 2 = .ok (.iand, 1) := dGR_10_c_1.2.2.1
theorem dX2_image_3 : decode cX2_image 3 = .ok (.iload_n 1, 1) := dGR_10_c_1.2.2.2.1
theorem dX2_image_4 : decode cX2_image 4 = .ok (.bipush 7, 2) := dGR_10_c_1.2.2.2.2.1
theorem dX2_image_6 : decode cX2_image 6 = .ok (.iand, 1) := dGR_10_c_1.2.2.2.2.2.1
theorem dX2_image_7 : decode cX2_image 7 = .ok (.imul, 1) := dGR_10_c_1.2.2.2.2.2.2.1
theorem dX2_image_8 : decode cX2_image 8 = .ok (.iload_n 0, 1) := dGR_10_c_1.2.2.2.2.2.2.2.1
theorem dX2_image_9 : decode cX2_image 9 = .ok (.iconst 1, 1) := dGR_10_c_1.2.2.2.2.2.2.2.2.1
theorem dX2_image_10 : decode cX2_image 10 = .ok (.ishr, 1) := dGR_10_c_1.2.2.2.2.2.2.2.2.2.1
theorem dX2_image_11 : decode cX2_image 11 = .ok (.iconst 1, 1) := dGR_10_c_1.2.2.2.2.2.2.2.2.2.2.1
theorem dX2_image_12 : decode cX2_image 12 = .ok (.iand, 1) := dGR_10_c_1.2.2.2.2.2.2.2.2.2.2.2
set_option maxRecDepth 100000 in
theorem dGR_10_c_2 : (decode cX2_image 13 = .ok (.iload_n 1, 1)) ∧ (decode cX2_image 14 = .ok (.iconst 3, 1)) ∧ (decode cX2_image 15 = .ok (.ishr, 1)) ∧ (decode cX2_image 16 = .ok (.bipush 7, 2)) ∧ (decode cX2_image 18 = .ok (.iand, 1)) ∧ (decode cX2_image 19 = .ok (.imul, 1)) ∧ (decode cX2_image 20 = .ok (.ior, 1)) ∧ (decode cX2_image 21 = .ok (.iload_n 0, 1)) ∧ (decode cX2_image 22 = .ok (.iconst 2, 1)) ∧ (decode cX2_image 23 = .ok (.ishr, 1)) ∧ (decode cX2_image 24 = .ok (.iconst 1, 1)) ∧ (decode cX2_image 25 = .ok (.iand, 1)) := by decide +kernel
theorem dX2_image_13 : decode cX2_image 13 = .ok (.iload_n 1, 1) := dGR_10_c_2.1
theorem dX2_image_14 : decode cX2_image 14 = .ok (.iconst 3, 1) := dGR_10_c_2.2.1
theorem dX2_image_15 : decode cX2_image 15 = .ok (.ishr, 1) := dGR_10_c_2.2.2.1
theorem dX2_image_16 : decode cX2_image 16 = .ok (.bipush 7, 2) := dGR_10_c_2.2.2.2.1
theorem dX2_image_18 : decode cX2_image 18 = .ok (.iand, 1) := dGR_10_c_2.2.2.2.2.1
theorem dX2_image_19 : decode cX2_image 19 = .ok (.imul, 1) := dGR_10_c_2.2.2.2.2.2.1
theorem dX2_image_20 : decode cX2_image 20 = .ok (.ior, 1) := dGR_10_c_2.2.2.2.2.2.2.1
theorem dX2_image_21 : decode cX2_image 21 = .ok (.iload_n 0, 1) := dGR_10_c_2.2.2.2.2.2.2.2.1
theorem dX2_image_22 : decode cX2_image 22 = .ok (.iconst 2, 1) := dGR_10_c_2.2.2.2.2.2.2.2.2.1
theorem dX2_image_23 : decode cX2_image 23 = .ok (.ishr, 1) := dGR_10_c_2.2.2.2.2.2.2.2.2.2.1
theorem dX2_image_24 : decode cX2_image 24 = .ok (.iconst 1, 1) := dGR_10_c_2.2.2.2.2.2.2.2.2.2.2.1
theorem dX2_image_25 : decode cX2_image 25 = .ok (.iand, 1) := dGR_10_c_2.2.2.2.2.2.2.2.2.2.2.2
set_option maxRecDepth 100000 in
theorem dGR_10_c_3 : (decode cX2_image 26 = .ok (.iload_n 1, 1)) ∧ (decode cX2_image 27 = .ok (.bipush 6, 2)) ∧ (decode cX2_image 29 = .ok (.ishr, 1)) ∧ (decode cX2_image 30 = .ok (.bipush 7, 2)) ∧ (decode cX2_image 32 = .ok (.iand, 1)) ∧ (decode cX2_image 33 = .ok (.imul, 1)) ∧ (decode cX2_image 34 = .ok (.ior, 1)) ∧ (decode cX2_image 35 = .ok (.ireturn, 1)) := by decide +kernel
theorem dX2_image_26 : decode cX2_image 26 = .ok (.iload_n 1, 1) := dGR_10_c_3.1
theorem dX2_image_27 : decode cX2_image 27 = .ok (.bipush 6, 2) := dGR_10_c_3.2.1
theorem dX2_image_29 : decode cX2_image 29 = .ok (.ishr, 1) := dGR_10_c_3.2.2.1
theorem dX2_image_30 : decode cX2_image 30 = .ok (.bipush 7, 2) := dGR_10_c_3.2.2.2.1
theorem dX2_image_32 : decode cX2_image 32 = .ok (.iand, 1) := dGR_10_c_3.2.2.2.2.1
theorem dX2_image_33 : decode cX2_image 33 = .ok (.imul, 1) := dGR_10_c_3.2.2.2.2.2.1
theorem dX2_image_34 : decode cX2_image 34 = .ok (.ior, 1) := dGR_10_c_3.2.2.2.2.2.2.1
theorem dX2_image_35 : decode cX2_image 35 = .ok (.ireturn, 1) := dGR_10_c_3.2.2.2.2.2.2.2
set_option maxHeartbeats 4000000 in
set_option maxRecDepth 100000 in
theorem c_X2_image (G : KG) (l : Launch) (M : Mem) (a0 : Int) (a1 : Int) (hI_M : Inv false M) (hpre : -2147483648 ≤ a0 ∧ a0 ≤ 2147483647 ∧ -2147483648 ≤ a1 ∧ a1 ≤ 2147483647) : KC false G l yX2_image cX2_image 2 (some .int) (0, 0) [vI a0, vI a1] M (fun A => kQi false G A (fun (r : Int) (N : Mem) => M = N ∧ (0 ≤ r ∧ r ≤ 7))) := by
  refine kx_met (lo := [some (vI a0), some (vI a1)]) (by decide) (Nat.le_of_ble_eq_true rfl) rfl ?_
  intro X F hQ
  refine kx_iload_n 1 F 0 dX2_image_0 rfl rfl rfl ?_
  refine kx_iconst 2 F dX2_image_1 rfl ?_
  refine kx_iand 3 F (v := (zand a0 1)) dX2_image_2 rfl rfl ?_
  have h_1 := zand_r (a := a0) (b := 1) (by omega)
  refine kx_iload_n 4 F 1 dX2_image_3 rfl rfl rfl ?_
  refine kx_bipush 6 F dX2_image_4 (by decide) rfl ?_
  refine kx_iand 7 F (v := (zand a1 7)) dX2_image_6 rfl rfl ?_
  have h_2 := zand_r (a := a1) (b := 7) (by omega)
  refine kx_imul 8 F (v := ((zand a0 1) * (zand a1 7))) dX2_image_7 rfl rfl ?_
  have h_3 : 0 ≤ ((zand a0 1) * (zand a1 7)) ∧ ((zand a0 1) * (zand a1 7)) ≤ 7 := mul_rng (a := (zand a0 1)) (b := (zand a1 7)) 1 7 (by omega) (by omega) (by decide)
  refine kx_iload_n 9 F 0 dX2_image_8 rfl rfl rfl ?_
  refine kx_iconst 10 F dX2_image_9 rfl ?_
  refine kx_ishr 11 F (v := (zshr a0 1)) dX2_image_10 rfl rfl ?_
  have h_4 := zshr_rng a0 1
  refine kx_iconst 12 F dX2_image_11 rfl ?_
  refine kx_iand 13 F (v := (zand (zshr a0 1) 1)) dX2_image_12 rfl rfl ?_
  have h_5 := zand_r (a := (zshr a0 1)) (b := 1) (by omega)
  refine kx_iload_n 14 F 1 dX2_image_13 rfl rfl rfl ?_
  refine kx_iconst 15 F dX2_image_14 rfl ?_
  refine kx_ishr 16 F (v := (zshr a1 3)) dX2_image_15 rfl rfl ?_
  have h_6 := zshr_rng a1 3
  refine kx_bipush 18 F dX2_image_16 (by decide) rfl ?_
  refine kx_iand 19 F (v := (zand (zshr a1 3) 7)) dX2_image_18 rfl rfl ?_
  have h_7 := zand_r (a := (zshr a1 3)) (b := 7) (by omega)
  refine kx_imul 20 F (v := ((zand (zshr a0 1) 1) * (zand (zshr a1 3) 7))) dX2_image_19 rfl rfl ?_
  have h_8 : 0 ≤ ((zand (zshr a0 1) 1) * (zand (zshr a1 3) 7)) ∧ ((zand (zshr a0 1) 1) * (zand (zshr a1 3) 7)) ≤ 7 := mul_rng (a := (zand (zshr a0 1) 1)) (b := (zand (zshr a1 3) 7)) 1 7 (by omega) (by omega) (by decide)
  refine kx_ior 21 F (v := (zor ((zand a0 1) * (zand a1 7)) ((zand (zshr a0 1) 1) * (zand (zshr a1 3) 7)))) dX2_image_20 rfl rfl ?_
  have h_9 : 0 ≤ (zor ((zand a0 1) * (zand a1 7)) ((zand (zshr a0 1) 1) * (zand (zshr a1 3) 7))) ∧ (zor ((zand a0 1) * (zand a1 7)) ((zand (zshr a0 1) 1) * (zand (zshr a1 3) 7))) < 8 := zor_lt (a := ((zand a0 1) * (zand a1 7))) (b := ((zand (zshr a0 1) 1) * (zand (zshr a1 3) 7))) 3 (by decide) (by omega) (by omega)
  refine kx_iload_n 22 F 0 dX2_image_21 rfl rfl rfl ?_
  refine kx_iconst 23 F dX2_image_22 rfl ?_
  refine kx_ishr 24 F (v := (zshr a0 2)) dX2_image_23 rfl rfl ?_
  have h_10 := zshr_rng a0 2
  refine kx_iconst 25 F dX2_image_24 rfl ?_
  refine kx_iand 26 F (v := (zand (zshr a0 2) 1)) dX2_image_25 rfl rfl ?_
  have h_11 := zand_r (a := (zshr a0 2)) (b := 1) (by omega)
  refine kx_iload_n 27 F 1 dX2_image_26 rfl rfl rfl ?_
  refine kx_bipush 29 F dX2_image_27 (by decide) rfl ?_
  refine kx_ishr 30 F (v := (zshr a1 6)) dX2_image_29 rfl rfl ?_
  have h_12 := zshr_rng a1 6
  refine kx_bipush 32 F dX2_image_30 (by decide) rfl ?_
  refine kx_iand 33 F (v := (zand (zshr a1 6) 7)) dX2_image_32 rfl rfl ?_
  have h_13 := zand_r (a := (zshr a1 6)) (b := 7) (by omega)
  refine kx_imul 34 F (v := ((zand (zshr a0 2) 1) * (zand (zshr a1 6) 7))) dX2_image_33 rfl rfl ?_
  have h_14 : 0 ≤ ((zand (zshr a0 2) 1) * (zand (zshr a1 6) 7)) ∧ ((zand (zshr a0 2) 1) * (zand (zshr a1 6) 7)) ≤ 7 := mul_rng (a := (zand (zshr a0 2) 1)) (b := (zand (zshr a1 6) 7)) 1 7 (by omega) (by omega) (by decide)
  refine kx_ior 35 F (v := (zor (zor ((zand a0 1) * (zand a1 7)) ((zand (zshr a0 1) 1) * (zand (zshr a1 3) 7))) ((zand (zshr a0 2) 1) * (zand (zshr a1 6) 7)))) dX2_image_34 rfl rfl ?_
  have h_15 : 0 ≤ (zor (zor ((zand a0 1) * (zand a1 7)) ((zand (zshr a0 1) 1) * (zand (zshr a1 3) 7))) ((zand (zshr a0 2) 1) * (zand (zshr a1 6) 7))) ∧ (zor (zor ((zand a0 1) * (zand a1 7)) ((zand (zshr a0 1) 1) * (zand (zshr a1 3) 7))) ((zand (zshr a0 2) 1) * (zand (zshr a1 6) 7))) < 8 := zor_lt (a := (zor ((zand a0 1) * (zand a1 7)) ((zand (zshr a0 1) 1) * (zand (zshr a1 3) 7)))) (b := ((zand (zshr a0 2) 1) * (zand (zshr a1 6) 7))) 3 (by decide) (by omega) (by omega)
  exact kx_iret F hQ ⟨rfl, (by omega)⟩ dX2_image_35
set_option maxRecDepth 100000 in
theorem dGR_10_c_4 : (decode cX2_compose 0 = .ok (.iload_n 0, 1)) ∧ (decode cX2_compose 1 = .ok (.bipush 73, 2)) ∧ (decode cX2_compose 3 = .ok (.iand, 1)) ∧ (decode cX2_compose 4 = .ok (.iload_n 1, 1)) ∧ (decode cX2_compose 5 = .ok (.bipush 7, 2)) ∧ (decode cX2_compose 7 = .ok (.iand, 1)) ∧ (decode cX2_compose 8 = .ok (.imul, 1)) ∧ (decode cX2_compose 9 = .ok (.iload_n 0, 1)) ∧ (decode cX2_compose 10 = .ok (.iconst 1, 1)) ∧ (decode cX2_compose 11 = .ok (.ishr, 1)) ∧ (decode cX2_compose 12 = .ok (.bipush 73, 2)) ∧ (decode cX2_compose 14 = .ok (.iand, 1)) := by decide +kernel
theorem dX2_compose_0 : decode cX2_compose 0 = .ok (.iload_n 0, 1) := dGR_10_c_4.1
theorem dX2_compose_1 : decode cX2_compose 1 = .ok (.bipush 73, 2) := dGR_10_c_4.2.1
theorem dX2_compose_3 : decode cX2_compose 3 = .ok (.iand, 1) := dGR_10_c_4.2.2.1
theorem dX2_compose_4 : decode cX2_compose 4 = .ok (.iload_n 1, 1) := dGR_10_c_4.2.2.2.1
theorem dX2_compose_5 : decode cX2_compose 5 = .ok (.bipush 7, 2) := dGR_10_c_4.2.2.2.2.1
theorem dX2_compose_7 : decode cX2_compose 7 = .ok (.iand, 1) := dGR_10_c_4.2.2.2.2.2.1
theorem dX2_compose_8 : decode cX2_compose 8 = .ok (.imul, 1) := dGR_10_c_4.2.2.2.2.2.2.1
theorem dX2_compose_9 : decode cX2_compose 9 = .ok (.iload_n 0, 1) := dGR_10_c_4.2.2.2.2.2.2.2.1
theorem dX2_compose_10 : decode cX2_compose 10 = .ok (.iconst 1, 1) := dGR_10_c_4.2.2.2.2.2.2.2.2.1
theorem dX2_compose_11 : decode cX2_compose 11 = .ok (.ishr, 1) := dGR_10_c_4.2.2.2.2.2.2.2.2.2.1
theorem dX2_compose_12 : decode cX2_compose 12 = .ok (.bipush 73, 2) := dGR_10_c_4.2.2.2.2.2.2.2.2.2.2.1
theorem dX2_compose_14 : decode cX2_compose 14 = .ok (.iand, 1) := dGR_10_c_4.2.2.2.2.2.2.2.2.2.2.2
set_option maxRecDepth 100000 in
theorem dGR_10_c_5 : (decode cX2_compose 15 = .ok (.iload_n 1, 1)) ∧ (decode cX2_compose 16 = .ok (.iconst 3, 1)) ∧ (decode cX2_compose 17 = .ok (.ishr, 1)) ∧ (decode cX2_compose 18 = .ok (.bipush 7, 2)) ∧ (decode cX2_compose 20 = .ok (.iand, 1)) ∧ (decode cX2_compose 21 = .ok (.imul, 1)) ∧ (decode cX2_compose 22 = .ok (.ior, 1)) ∧ (decode cX2_compose 23 = .ok (.iload_n 0, 1)) ∧ (decode cX2_compose 24 = .ok (.iconst 2, 1)) ∧ (decode cX2_compose 25 = .ok (.ishr, 1)) ∧ (decode cX2_compose 26 = .ok (.bipush 73, 2)) ∧ (decode cX2_compose 28 = .ok (.iand, 1)) := by decide +kernel
theorem dX2_compose_15 : decode cX2_compose 15 = .ok (.iload_n 1, 1) := dGR_10_c_5.1
theorem dX2_compose_16 : decode cX2_compose 16 = .ok (.iconst 3, 1) := dGR_10_c_5.2.1
theorem dX2_compose_17 : decode cX2_compose 17 = .ok (.ishr, 1) := dGR_10_c_5.2.2.1
theorem dX2_compose_18 : decode cX2_compose 18 = .ok (.bipush 7, 2) := dGR_10_c_5.2.2.2.1
theorem dX2_compose_20 : decode cX2_compose 20 = .ok (.iand, 1) := dGR_10_c_5.2.2.2.2.1
theorem dX2_compose_21 : decode cX2_compose 21 = .ok (.imul, 1) := dGR_10_c_5.2.2.2.2.2.1
theorem dX2_compose_22 : decode cX2_compose 22 = .ok (.ior, 1) := dGR_10_c_5.2.2.2.2.2.2.1
theorem dX2_compose_23 : decode cX2_compose 23 = .ok (.iload_n 0, 1) := dGR_10_c_5.2.2.2.2.2.2.2.1
theorem dX2_compose_24 : decode cX2_compose 24 = .ok (.iconst 2, 1) := dGR_10_c_5.2.2.2.2.2.2.2.2.1
theorem dX2_compose_25 : decode cX2_compose 25 = .ok (.ishr, 1) := dGR_10_c_5.2.2.2.2.2.2.2.2.2.1
theorem dX2_compose_26 : decode cX2_compose 26 = .ok (.bipush 73, 2) := dGR_10_c_5.2.2.2.2.2.2.2.2.2.2.1
theorem dX2_compose_28 : decode cX2_compose 28 = .ok (.iand, 1) := dGR_10_c_5.2.2.2.2.2.2.2.2.2.2.2
set_option maxRecDepth 100000 in
theorem dGR_10_c_6 : (decode cX2_compose 29 = .ok (.iload_n 1, 1)) ∧ (decode cX2_compose 30 = .ok (.bipush 6, 2)) ∧ (decode cX2_compose 32 = .ok (.ishr, 1)) ∧ (decode cX2_compose 33 = .ok (.bipush 7, 2)) ∧ (decode cX2_compose 35 = .ok (.iand, 1)) ∧ (decode cX2_compose 36 = .ok (.imul, 1)) ∧ (decode cX2_compose 37 = .ok (.ior, 1)) ∧ (decode cX2_compose 38 = .ok (.ireturn, 1)) := by decide +kernel
theorem dX2_compose_29 : decode cX2_compose 29 = .ok (.iload_n 1, 1) := dGR_10_c_6.1
theorem dX2_compose_30 : decode cX2_compose 30 = .ok (.bipush 6, 2) := dGR_10_c_6.2.1
theorem dX2_compose_32 : decode cX2_compose 32 = .ok (.ishr, 1) := dGR_10_c_6.2.2.1
theorem dX2_compose_33 : decode cX2_compose 33 = .ok (.bipush 7, 2) := dGR_10_c_6.2.2.2.1
theorem dX2_compose_35 : decode cX2_compose 35 = .ok (.iand, 1) := dGR_10_c_6.2.2.2.2.1
theorem dX2_compose_36 : decode cX2_compose 36 = .ok (.imul, 1) := dGR_10_c_6.2.2.2.2.2.1
theorem dX2_compose_37 : decode cX2_compose 37 = .ok (.ior, 1) := dGR_10_c_6.2.2.2.2.2.2.1
theorem dX2_compose_38 : decode cX2_compose 38 = .ok (.ireturn, 1) := dGR_10_c_6.2.2.2.2.2.2.2
set_option maxHeartbeats 4000000 in
set_option maxRecDepth 100000 in
theorem c_X2_compose (G : KG) (l : Launch) (M : Mem) (a0 : Int) (a1 : Int) (hI_M : Inv false M) (hpre : -2147483648 ≤ a0 ∧ a0 ≤ 2147483647 ∧ -2147483648 ≤ a1 ∧ a1 ≤ 2147483647) : KC false G l yX2_compose cX2_compose 2 (some .int) (0, 0) [vI a0, vI a1] M (fun A => kQi false G A (fun (r : Int) (N : Mem) => M = N ∧ (0 ≤ r ∧ r ≤ 511))) := by
  refine kx_met (lo := [some (vI a0), some (vI a1)]) (by decide) (Nat.le_of_ble_eq_true rfl) rfl ?_
  intro X F hQ
  refine kx_iload_n 1 F 0 dX2_compose_0 rfl rfl rfl ?_
  refine kx_bipush 3 F dX2_compose_1 (by decide) rfl ?_
  refine kx_iand 4 F (v := (zand a0 73)) dX2_compose_3 rfl rfl ?_
  have h_1 := zand_r (a := a0) (b := 73) (by omega)
  refine kx_iload_n 5 F 1 dX2_compose_4 rfl rfl rfl ?_
  refine kx_bipush 7 F dX2_compose_5 (by decide) rfl ?_
  refine kx_iand 8 F (v := (zand a1 7)) dX2_compose_7 rfl rfl ?_
  have h_2 := zand_r (a := a1) (b := 7) (by omega)
  refine kx_imul 9 F (v := ((zand a0 73) * (zand a1 7))) dX2_compose_8 rfl rfl ?_
  have h_3 : 0 ≤ ((zand a0 73) * (zand a1 7)) ∧ ((zand a0 73) * (zand a1 7)) ≤ 511 := mul_rng (a := (zand a0 73)) (b := (zand a1 7)) 73 7 (by omega) (by omega) (by decide)
  refine kx_iload_n 10 F 0 dX2_compose_9 rfl rfl rfl ?_
  refine kx_iconst 11 F dX2_compose_10 rfl ?_
  refine kx_ishr 12 F (v := (zshr a0 1)) dX2_compose_11 rfl rfl ?_
  have h_4 := zshr_rng a0 1
  refine kx_bipush 14 F dX2_compose_12 (by decide) rfl ?_
  refine kx_iand 15 F (v := (zand (zshr a0 1) 73)) dX2_compose_14 rfl rfl ?_
  have h_5 := zand_r (a := (zshr a0 1)) (b := 73) (by omega)
  refine kx_iload_n 16 F 1 dX2_compose_15 rfl rfl rfl ?_
  refine kx_iconst 17 F dX2_compose_16 rfl ?_
  refine kx_ishr 18 F (v := (zshr a1 3)) dX2_compose_17 rfl rfl ?_
  have h_6 := zshr_rng a1 3
  refine kx_bipush 20 F dX2_compose_18 (by decide) rfl ?_
  refine kx_iand 21 F (v := (zand (zshr a1 3) 7)) dX2_compose_20 rfl rfl ?_
  have h_7 := zand_r (a := (zshr a1 3)) (b := 7) (by omega)
  refine kx_imul 22 F (v := ((zand (zshr a0 1) 73) * (zand (zshr a1 3) 7))) dX2_compose_21 rfl rfl ?_
  have h_8 : 0 ≤ ((zand (zshr a0 1) 73) * (zand (zshr a1 3) 7)) ∧ ((zand (zshr a0 1) 73) * (zand (zshr a1 3) 7)) ≤ 511 := mul_rng (a := (zand (zshr a0 1) 73)) (b := (zand (zshr a1 3) 7)) 73 7 (by omega) (by omega) (by decide)
  refine kx_ior 23 F (v := (zor ((zand a0 73) * (zand a1 7)) ((zand (zshr a0 1) 73) * (zand (zshr a1 3) 7)))) dX2_compose_22 rfl rfl ?_
  have h_9 : 0 ≤ (zor ((zand a0 73) * (zand a1 7)) ((zand (zshr a0 1) 73) * (zand (zshr a1 3) 7))) ∧ (zor ((zand a0 73) * (zand a1 7)) ((zand (zshr a0 1) 73) * (zand (zshr a1 3) 7))) < 512 := zor_lt (a := ((zand a0 73) * (zand a1 7))) (b := ((zand (zshr a0 1) 73) * (zand (zshr a1 3) 7))) 9 (by decide) (by omega) (by omega)
  refine kx_iload_n 24 F 0 dX2_compose_23 rfl rfl rfl ?_
  refine kx_iconst 25 F dX2_compose_24 rfl ?_
  refine kx_ishr 26 F (v := (zshr a0 2)) dX2_compose_25 rfl rfl ?_
  have h_10 := zshr_rng a0 2
  refine kx_bipush 28 F dX2_compose_26 (by decide) rfl ?_
  refine kx_iand 29 F (v := (zand (zshr a0 2) 73)) dX2_compose_28 rfl rfl ?_
  have h_11 := zand_r (a := (zshr a0 2)) (b := 73) (by omega)
  refine kx_iload_n 30 F 1 dX2_compose_29 rfl rfl rfl ?_
  refine kx_bipush 32 F dX2_compose_30 (by decide) rfl ?_
  refine kx_ishr 33 F (v := (zshr a1 6)) dX2_compose_32 rfl rfl ?_
  have h_12 := zshr_rng a1 6
  refine kx_bipush 35 F dX2_compose_33 (by decide) rfl ?_
  refine kx_iand 36 F (v := (zand (zshr a1 6) 7)) dX2_compose_35 rfl rfl ?_
  have h_13 := zand_r (a := (zshr a1 6)) (b := 7) (by omega)
  refine kx_imul 37 F (v := ((zand (zshr a0 2) 73) * (zand (zshr a1 6) 7))) dX2_compose_36 rfl rfl ?_
  have h_14 : 0 ≤ ((zand (zshr a0 2) 73) * (zand (zshr a1 6) 7)) ∧ ((zand (zshr a0 2) 73) * (zand (zshr a1 6) 7)) ≤ 511 := mul_rng (a := (zand (zshr a0 2) 73)) (b := (zand (zshr a1 6) 7)) 73 7 (by omega) (by omega) (by decide)
  refine kx_ior 38 F (v := (zor (zor ((zand a0 73) * (zand a1 7)) ((zand (zshr a0 1) 73) * (zand (zshr a1 3) 7))) ((zand (zshr a0 2) 73) * (zand (zshr a1 6) 7)))) dX2_compose_37 rfl rfl ?_
  have h_15 : 0 ≤ (zor (zor ((zand a0 73) * (zand a1 7)) ((zand (zshr a0 1) 73) * (zand (zshr a1 3) 7))) ((zand (zshr a0 2) 73) * (zand (zshr a1 6) 7))) ∧ (zor (zor ((zand a0 73) * (zand a1 7)) ((zand (zshr a0 1) 73) * (zand (zshr a1 3) 7))) ((zand (zshr a0 2) 73) * (zand (zshr a1 6) 7))) < 512 := zor_lt (a := (zor ((zand a0 73) * (zand a1 7)) ((zand (zshr a0 1) 73) * (zand (zshr a1 3) 7)))) (b := ((zand (zshr a0 2) 73) * (zand (zshr a1 6) 7))) 9 (by decide) (by omega) (by omega)
  exact kx_iret F hQ ⟨rfl, (by omega)⟩ dX2_compose_38
set_option maxRecDepth 100000 in
theorem dGR_10_c_7 : (decode cX2_identity 0 = .ok (.iconst 0, 1)) ∧ (decode cX2_identity 1 = .ok (.istore_n 1, 1)) ∧ (decode cX2_identity 2 = .ok (.iconst 0, 1)) ∧ (decode cX2_identity 3 = .ok (.istore_n 2, 1)) ∧ (decode cX2_identity 4 = .ok (.iload_n 2, 1)) ∧ (decode cX2_identity 5 = .ok (.iload_n 0, 1)) ∧ (decode cX2_identity 6 = .ok (.if_icmp .ge 22, 3)) ∧ (decode cX2_identity 9 = .ok (.iload_n 2, 1)) ∧ (decode cX2_identity 10 = .ok (.iconst 3, 1)) ∧ (decode cX2_identity 11 = .ok (.if_icmp .ge 17, 3)) ∧ (decode cX2_identity 14 = .ok (.iload_n 1, 1)) ∧ (decode cX2_identity 15 = .ok (.iconst 1, 1)) := by decide +kernel
theorem dX2_identity_0 : decode cX2_identity 0 = .ok (.iconst 0, 1) := dGR_10_c_7.1
theorem dX2_identity_1 : decode cX2_identity 1 = .ok (.istore_n 1, 1) := dGR_10_c_7.2.1
theorem dX2_identity_2 : decode cX2_identity 2 = .ok (.iconst 0, 1) := dGR_10_c_7.2.2.1
theorem dX2_identity_3 : decode cX2_identity 3 = .ok (.istore_n 2, 1) := dGR_10_c_7.2.2.2.1
theorem dX2_identity_4 : decode cX2_identity 4 = .ok (.iload_n 2, 1) := dGR_10_c_7.2.2.2.2.1
theorem dX2_identity_5 : decode cX2_identity 5 = .ok (.iload_n 0, 1) := dGR_10_c_7.2.2.2.2.2.1
theorem dX2_identity_6 : decode cX2_identity 6 = .ok (.if_icmp .ge 22, 3) := dGR_10_c_7.2.2.2.2.2.2.1
theorem dX2_identity_9 : decode cX2_identity 9 = .ok (.iload_n 2, 1) := dGR_10_c_7.2.2.2.2.2.2.2.1
theorem dX2_identity_10 : decode cX2_identity 10 = .ok (.iconst 3, 1) := dGR_10_c_7.2.2.2.2.2.2.2.2.1
theorem dX2_identity_11 : decode cX2_identity 11 = .ok (.if_icmp .ge 17, 3) := dGR_10_c_7.2.2.2.2.2.2.2.2.2.1
theorem dX2_identity_14 : decode cX2_identity 14 = .ok (.iload_n 1, 1) := dGR_10_c_7.2.2.2.2.2.2.2.2.2.2.1
theorem dX2_identity_15 : decode cX2_identity 15 = .ok (.iconst 1, 1) := dGR_10_c_7.2.2.2.2.2.2.2.2.2.2.2
set_option maxRecDepth 100000 in
theorem dGR_10_c_8 : (decode cX2_identity 16 = .ok (.iconst 4, 1)) ∧ (decode cX2_identity 17 = .ok (.iload_n 2, 1)) ∧ (decode cX2_identity 18 = .ok (.imul, 1)) ∧ (decode cX2_identity 19 = .ok (.ishl, 1)) ∧ (decode cX2_identity 20 = .ok (.ior, 1)) ∧ (decode cX2_identity 21 = .ok (.istore_n 1, 1)) ∧ (decode cX2_identity 22 = .ok (.iinc 2 1, 3)) ∧ (decode cX2_identity 25 = .ok (.goto (-21), 3)) ∧ (decode cX2_identity 28 = .ok (.iload_n 1, 1)) ∧ (decode cX2_identity 29 = .ok (.ireturn, 1)) := by decide +kernel
theorem dX2_identity_16 : decode cX2_identity 16 = .ok (.iconst 4, 1) := dGR_10_c_8.1
theorem dX2_identity_17 : decode cX2_identity 17 = .ok (.iload_n 2, 1) := dGR_10_c_8.2.1
theorem dX2_identity_18 : decode cX2_identity 18 = .ok (.imul, 1) := dGR_10_c_8.2.2.1
theorem dX2_identity_19 : decode cX2_identity 19 = .ok (.ishl, 1) := dGR_10_c_8.2.2.2.1
theorem dX2_identity_20 : decode cX2_identity 20 = .ok (.ior, 1) := dGR_10_c_8.2.2.2.2.1
theorem dX2_identity_21 : decode cX2_identity 21 = .ok (.istore_n 1, 1) := dGR_10_c_8.2.2.2.2.2.1
theorem dX2_identity_22 : decode cX2_identity 22 = .ok (.iinc 2 1, 3) := dGR_10_c_8.2.2.2.2.2.2.1
theorem dX2_identity_25 : decode cX2_identity 25 = .ok (.goto (-21), 3) := dGR_10_c_8.2.2.2.2.2.2.2.1
theorem dX2_identity_28 : decode cX2_identity 28 = .ok (.iload_n 1, 1) := dGR_10_c_8.2.2.2.2.2.2.2.2.1
theorem dX2_identity_29 : decode cX2_identity 29 = .ok (.ireturn, 1) := dGR_10_c_8.2.2.2.2.2.2.2.2.2
set_option maxHeartbeats 4000000 in
set_option maxRecDepth 100000 in
theorem c_X2_identity (G : KG) (l : Launch) (M : Mem) (a0 : Int) (hI_M : Inv false M) (hpre : -2147483648 ≤ a0 ∧ a0 ≤ 2147483647) : KC false G l yX2_identity cX2_identity 3 (some .int) (0, 0) [vI a0] M (fun A => kQi false G A (fun (r : Int) (N : Mem) => M = N ∧ (0 ≤ r ∧ r ≤ 511))) := by
  refine kx_met (lo := [some (vI a0), none, none]) (by decide) (Nat.le_of_ble_eq_true rfl) rfl ?_
  intro X F hQ
  refine kx_iconst 1 F dX2_identity_0 rfl ?_
  refine kx_istore_n 2 F 1 (lo' := [some (vI a0), some (vI 0), none]) dX2_identity_1 rfl (by decide) rfl rfl rfl ?_
  refine kx_iconst 3 F dX2_identity_2 rfl ?_
  refine kx_istore_n 4 F 2 (lo' := [some (vI a0), some (vI 0), some (vI 0)]) dX2_identity_3 rfl (by decide) rfl rfl rfl ?_
  have L_27 : ∀ (n_28 : Nat) (x1_25 : Int) (x2_26 : Int), 0 ≤ x1_25 ∧ x1_25 ≤ 511 ∧ 0 ≤ x2_26 ∧ x2_26 ≤ 3 → (3 - (x2_26)).toNat = n_28 → KJ false G X M 4 [some (vI a0), some (vI x1_25), some (vI x2_26)] [] := by
    intro n_28
    refine Nat.strongRecOn n_28 ?_
    intro n_28 ih_29 x1_25 x2_26 h_30 hm_31
    refine kx_iload_n 5 F 2 dX2_identity_4 rfl rfl rfl ?_
    refine kx_iload_n 6 F 0 dX2_identity_5 rfl rfl rfl ?_
    refine kx_icmp_ge 9 F 28 dX2_identity_6 (by decide) rfl (by omega) (by omega) (fun h_32 => ?_) (fun h_32 => ?_)
    · refine kx_iload_n 29 F 1 dX2_identity_28 rfl rfl rfl ?_
      exact kx_iret F hQ ⟨rfl, (by omega)⟩ dX2_identity_29
    · refine kx_iload_n 10 F 2 dX2_identity_9 rfl rfl rfl ?_
      refine kx_iconst 11 F dX2_identity_10 rfl ?_
      refine kx_icmp_ge 14 F 28 dX2_identity_11 (by decide) rfl (by omega) (by decide) (fun h_33 => ?_) (fun h_33 => ?_)
      · refine kx_iload_n 29 F 1 dX2_identity_28 rfl rfl rfl ?_
        exact kx_iret F hQ ⟨rfl, (by omega)⟩ dX2_identity_29
      · refine kx_iload_n 15 F 1 dX2_identity_14 rfl rfl rfl ?_
        refine kx_iconst 16 F dX2_identity_15 rfl ?_
        refine kx_iconst 17 F dX2_identity_16 rfl ?_
        refine kx_iload_n 18 F 2 dX2_identity_17 rfl rfl rfl ?_
        refine kx_imul 19 F (v := 4 * x2_26) dX2_identity_18 (by omega) rfl ?_
        refine kx_ishl 20 F (v := (zshl 1 (4 * x2_26))) dX2_identity_19 rfl rfl ?_
        have h_34 := zshl_1 (b := 4 * x2_26) 8 (by decide) (by omega)
        refine kx_ior 21 F (v := (zor x1_25 (zshl 1 (4 * x2_26)))) dX2_identity_20 rfl rfl ?_
        have h_35 : 0 ≤ (zor x1_25 (zshl 1 (4 * x2_26))) ∧ (zor x1_25 (zshl 1 (4 * x2_26))) < 512 := zor_lt (a := x1_25) (b := (zshl 1 (4 * x2_26))) 9 (by decide) (by omega) (by omega)
        refine kx_istore_n 22 F 1 (lo' := [some (vI a0), some (vI (zor x1_25 (zshl 1 (4 * x2_26)))), some (vI x2_26)]) dX2_identity_21 rfl (by decide) rfl rfl rfl ?_
        refine kx_iinc 25 F 2 (v := x2_26 + 1) (lo' := [some (vI a0), some (vI (zor x1_25 (zshl 1 (4 * x2_26)))), some (vI (x2_26 + 1))]) dX2_identity_22 rfl (by omega) (by decide) rfl rfl rfl ?_
        refine kx_goto 4 F dX2_identity_25 (by decide) ?_
        exact ih_29 _ (by omega) (zor x1_25 (zshl 1 (4 * x2_26))) (x2_26 + 1) (by omega) rfl
  exact L_27 _ 0 0 (by omega) rfl
set_option maxRecDepth 100000 in
theorem dGR_10_c_9 : (decode cX2_pair 0 = .ok (.iconst 1, 1)) ∧ (decode cX2_pair 1 = .ok (.iconst 3, 1)) ∧ (decode cX2_pair 2 = .ok (.iload_n 0, 1)) ∧ (decode cX2_pair 3 = .ok (.imul, 1)) ∧ (decode cX2_pair 4 = .ok (.iload_n 1, 1)) ∧ (decode cX2_pair 5 = .ok (.iadd, 1)) ∧ (decode cX2_pair 6 = .ok (.ishl, 1)) ∧ (decode cX2_pair 7 = .ok (.ireturn, 1)) := by decide +kernel
theorem dX2_pair_0 : decode cX2_pair 0 = .ok (.iconst 1, 1) := dGR_10_c_9.1
theorem dX2_pair_1 : decode cX2_pair 1 = .ok (.iconst 3, 1) := dGR_10_c_9.2.1
theorem dX2_pair_2 : decode cX2_pair 2 = .ok (.iload_n 0, 1) := dGR_10_c_9.2.2.1
theorem dX2_pair_3 : decode cX2_pair 3 = .ok (.imul, 1) := dGR_10_c_9.2.2.2.1
theorem dX2_pair_4 : decode cX2_pair 4 = .ok (.iload_n 1, 1) := dGR_10_c_9.2.2.2.2.1
theorem dX2_pair_5 : decode cX2_pair 5 = .ok (.iadd, 1) := dGR_10_c_9.2.2.2.2.2.1
theorem dX2_pair_6 : decode cX2_pair 6 = .ok (.ishl, 1) := dGR_10_c_9.2.2.2.2.2.2.1
theorem dX2_pair_7 : decode cX2_pair 7 = .ok (.ireturn, 1) := dGR_10_c_9.2.2.2.2.2.2.2
set_option maxHeartbeats 4000000 in
set_option maxRecDepth 100000 in
theorem c_X2_pair (G : KG) (l : Launch) (M : Mem) (a0 : Int) (a1 : Int) (hI_M : Inv false M) (hpre : -2147483648 ≤ a0 ∧ a0 ≤ 2147483647 ∧ -2147483648 ≤ a1 ∧ a1 ≤ 2147483647 ∧ 0 ≤ a0 ∧ a0 ≤ 2 ∧ 0 ≤ a1 ∧ a1 ≤ 2) : KC false G l yX2_pair cX2_pair 2 (some .int) (0, 0) [vI a0, vI a1] M (fun A => kQi false G A (fun (r : Int) (N : Mem) => M = N ∧ (1 ≤ r ∧ r ≤ 256))) := by
  refine kx_met (lo := [some (vI a0), some (vI a1)]) (by decide) (Nat.le_of_ble_eq_true rfl) rfl ?_
  intro X F hQ
  refine kx_iconst 1 F dX2_pair_0 rfl ?_
  refine kx_iconst 2 F dX2_pair_1 rfl ?_
  refine kx_iload_n 3 F 0 dX2_pair_2 rfl rfl rfl ?_
  refine kx_imul 4 F (v := 3 * a0) dX2_pair_3 (by omega) rfl ?_
  refine kx_iload_n 5 F 1 dX2_pair_4 rfl rfl rfl ?_
  refine kx_iadd 6 F (v := 3 * a0 + a1) dX2_pair_5 rfl rfl ?_
  refine kx_ishl 7 F (v := (zshl 1 (3 * a0 + a1))) dX2_pair_6 rfl rfl ?_
  have h_1 := zshl_1 (b := 3 * a0 + a1) 8 (by decide) (by omega)
  exact kx_iret F hQ ⟨rfl, (by omega)⟩ dX2_pair_7
set_option maxRecDepth 100000 in
theorem dGR_10_c_10 : (decode cX2_power 0 = .ok (.iconst 1, 1)) ∧ (decode cX2_power 1 = .ok (.istore_n 2, 1)) ∧ (decode cX2_power 2 = .ok (.iconst 0, 1)) ∧ (decode cX2_power 3 = .ok (.istore_n 3, 1)) ∧ (decode cX2_power 4 = .ok (.iload_n 3, 1)) ∧ (decode cX2_power 5 = .ok (.iload_n 1, 1)) ∧ (decode cX2_power 6 = .ok (.if_icmp .ge 19, 3)) ∧ (decode cX2_power 9 = .ok (.iload_n 3, 1)) ∧ (decode cX2_power 10 = .ok (.bipush 6, 2)) ∧ (decode cX2_power 12 = .ok (.if_icmp .ge 13, 3)) ∧ (decode cX2_power 15 = .ok (.iload_n 2, 1)) ∧ (decode cX2_power 16 = .ok (.iload_n 0, 1)) := by decide +kernel
theorem dX2_power_0 : decode cX2_power 0 = .ok (.iconst 1, 1) := dGR_10_c_10.1
theorem dX2_power_1 : decode cX2_power 1 = .ok (.istore_n 2, 1) := dGR_10_c_10.2.1
theorem dX2_power_2 : decode cX2_power 2 = .ok (.iconst 0, 1) := dGR_10_c_10.2.2.1
theorem dX2_power_3 : decode cX2_power 3 = .ok (.istore_n 3, 1) := dGR_10_c_10.2.2.2.1
theorem dX2_power_4 : decode cX2_power 4 = .ok (.iload_n 3, 1) := dGR_10_c_10.2.2.2.2.1
theorem dX2_power_5 : decode cX2_power 5 = .ok (.iload_n 1, 1) := dGR_10_c_10.2.2.2.2.2.1
theorem dX2_power_6 : decode cX2_power 6 = .ok (.if_icmp .ge 19, 3) := dGR_10_c_10.2.2.2.2.2.2.1
theorem dX2_power_9 : decode cX2_power 9 = .ok (.iload_n 3, 1) := dGR_10_c_10.2.2.2.2.2.2.2.1
theorem dX2_power_10 : decode cX2_power 10 = .ok (.bipush 6, 2) := dGR_10_c_10.2.2.2.2.2.2.2.2.1
theorem dX2_power_12 : decode cX2_power 12 = .ok (.if_icmp .ge 13, 3) := dGR_10_c_10.2.2.2.2.2.2.2.2.2.1
theorem dX2_power_15 : decode cX2_power 15 = .ok (.iload_n 2, 1) := dGR_10_c_10.2.2.2.2.2.2.2.2.2.2.1
theorem dX2_power_16 : decode cX2_power 16 = .ok (.iload_n 0, 1) := dGR_10_c_10.2.2.2.2.2.2.2.2.2.2.2
set_option maxRecDepth 100000 in
theorem dGR_10_c_11 : (decode cX2_power 17 = .ok (.imul, 1)) ∧ (decode cX2_power 18 = .ok (.istore_n 2, 1)) ∧ (decode cX2_power 19 = .ok (.iinc 3 1, 3)) ∧ (decode cX2_power 22 = .ok (.goto (-18), 3)) ∧ (decode cX2_power 25 = .ok (.iload_n 2, 1)) ∧ (decode cX2_power 26 = .ok (.ireturn, 1)) := by decide +kernel
theorem dX2_power_17 : decode cX2_power 17 = .ok (.imul, 1) := dGR_10_c_11.1
theorem dX2_power_18 : decode cX2_power 18 = .ok (.istore_n 2, 1) := dGR_10_c_11.2.1
theorem dX2_power_19 : decode cX2_power 19 = .ok (.iinc 3 1, 3) := dGR_10_c_11.2.2.1
theorem dX2_power_22 : decode cX2_power 22 = .ok (.goto (-18), 3) := dGR_10_c_11.2.2.2.1
theorem dX2_power_25 : decode cX2_power 25 = .ok (.iload_n 2, 1) := dGR_10_c_11.2.2.2.2.1
theorem dX2_power_26 : decode cX2_power 26 = .ok (.ireturn, 1) := dGR_10_c_11.2.2.2.2.2
set_option maxHeartbeats 4000000 in
set_option maxRecDepth 100000 in
theorem c_X2_power (G : KG) (l : Launch) (M : Mem) (a0 : Int) (a1 : Int) (hI_M : Inv false M) (hpre : -2147483648 ≤ a0 ∧ a0 ≤ 2147483647 ∧ -2147483648 ≤ a1 ∧ a1 ≤ 2147483647) : KC false G l yX2_power cX2_power 4 (some .int) (0, 0) [vI a0, vI a1] M (fun A => kQi false G A (fun (r : Int) (N : Mem) => M = N ∧ (r ≥ -2147483648 ∧ r ≤ 2147483647))) := by
  refine kx_met (lo := [some (vI a0), some (vI a1), none, none]) (by decide) (Nat.le_of_ble_eq_true rfl) rfl ?_
  intro X F hQ
  refine kx_iconst 1 F dX2_power_0 rfl ?_
  refine kx_istore_n 2 F 2 (lo' := [some (vI a0), some (vI a1), some (vI 1), none]) dX2_power_1 rfl (by decide) rfl rfl rfl ?_
  refine kx_iconst 3 F dX2_power_2 rfl ?_
  refine kx_istore_n 4 F 3 (lo' := [some (vI a0), some (vI a1), some (vI 1), some (vI 0)]) dX2_power_3 rfl (by decide) rfl rfl rfl ?_
  have L_43 : ∀ (n_44 : Nat) (x2_41 : Int) (x3_42 : Int), (-2147483648) ≤ x2_41 ∧ x2_41 ≤ 2147483647 ∧ 0 ≤ x3_42 ∧ x3_42 ≤ 6 → (6 - (x3_42)).toNat = n_44 → KJ false G X M 4 [some (vI a0), some (vI a1), some (vI x2_41), some (vI x3_42)] [] := by
    intro n_44
    refine Nat.strongRecOn n_44 ?_
    intro n_44 ih_45 x2_41 x3_42 h_46 hm_47
    refine kx_iload_n 5 F 3 dX2_power_4 rfl rfl rfl ?_
    refine kx_iload_n 6 F 1 dX2_power_5 rfl rfl rfl ?_
    refine kx_icmp_ge 9 F 25 dX2_power_6 (by decide) rfl (by omega) (by omega) (fun h_48 => ?_) (fun h_48 => ?_)
    · refine kx_iload_n 26 F 2 dX2_power_25 rfl rfl rfl ?_
      exact kx_iret F hQ ⟨rfl, (by omega)⟩ dX2_power_26
    · refine kx_iload_n 10 F 3 dX2_power_9 rfl rfl rfl ?_
      refine kx_bipush 12 F dX2_power_10 (by decide) rfl ?_
      refine kx_icmp_ge 15 F 25 dX2_power_12 (by decide) rfl (by omega) (by decide) (fun h_49 => ?_) (fun h_49 => ?_)
      · refine kx_iload_n 26 F 2 dX2_power_25 rfl rfl rfl ?_
        exact kx_iret F hQ ⟨rfl, (by omega)⟩ dX2_power_26
      · refine kx_iload_n 16 F 2 dX2_power_15 rfl rfl rfl ?_
        refine kx_iload_n 17 F 0 dX2_power_16 rfl rfl rfl ?_
        refine kx_imul 18 F (v := (x2_41 * a0)) dX2_power_17 rfl rfl ?_
        refine kx_wrapi (fun w_50 h_51 _ => ?_)
        refine kx_istore_n 19 F 2 (lo' := [some (vI a0), some (vI a1), some (vI w_50), some (vI x3_42)]) dX2_power_18 rfl (by decide) rfl rfl rfl ?_
        refine kx_iinc 22 F 3 (v := x3_42 + 1) (lo' := [some (vI a0), some (vI a1), some (vI w_50), some (vI (x3_42 + 1))]) dX2_power_19 rfl (by omega) (by decide) rfl rfl rfl ?_
        refine kx_goto 4 F dX2_power_22 (by decide) ?_
        exact ih_45 _ (by omega) w_50 (x3_42 + 1) (by omega) rfl
  exact L_43 _ 1 0 (by omega) rfl
set_option maxRecDepth 100000 in
theorem dGR_10_c_12 : (decode cX2_digit 0 = .ok (.iload_n 1, 1)) ∧ (decode cX2_digit 1 = .ok (.iload_n 2, 1)) ∧ (decode cX2_digit 2 = .ok (.invokestatic 11, 3)) ∧ (decode cX2_digit 5 = .ok (.istore_n 3, 1)) ∧ (decode cX2_digit 6 = .ok (.iload_n 1, 1)) ∧ (decode cX2_digit 7 = .ok (.ifCond .le 7, 3)) ∧ (decode cX2_digit 10 = .ok (.iload_n 3, 1)) ∧ (decode cX2_digit 11 = .ok (.ifCond .gt 5, 3)) ∧ (decode cX2_digit 14 = .ok (.iconst 0, 1)) ∧ (decode cX2_digit 15 = .ok (.ireturn, 1)) ∧ (decode cX2_digit 16 = .ok (.iload_n 0, 1)) ∧ (decode cX2_digit 17 = .ok (.iload_n 3, 1)) := by decide +kernel
theorem dX2_digit_0 : decode cX2_digit 0 = .ok (.iload_n 1, 1) := dGR_10_c_12.1
theorem dX2_digit_1 : decode cX2_digit 1 = .ok (.iload_n 2, 1) := dGR_10_c_12.2.1
theorem dX2_digit_2 : decode cX2_digit 2 = .ok (.invokestatic 11, 3) := dGR_10_c_12.2.2.1
theorem dX2_digit_5 : decode cX2_digit 5 = .ok (.istore_n 3, 1) := dGR_10_c_12.2.2.2.1
theorem dX2_digit_6 : decode cX2_digit 6 = .ok (.iload_n 1, 1) := dGR_10_c_12.2.2.2.2.1
theorem dX2_digit_7 : decode cX2_digit 7 = .ok (.ifCond .le 7, 3) := dGR_10_c_12.2.2.2.2.2.1
theorem dX2_digit_10 : decode cX2_digit 10 = .ok (.iload_n 3, 1) := dGR_10_c_12.2.2.2.2.2.2.1
theorem dX2_digit_11 : decode cX2_digit 11 = .ok (.ifCond .gt 5, 3) := dGR_10_c_12.2.2.2.2.2.2.2.1
theorem dX2_digit_14 : decode cX2_digit 14 = .ok (.iconst 0, 1) := dGR_10_c_12.2.2.2.2.2.2.2.2.1
theorem dX2_digit_15 : decode cX2_digit 15 = .ok (.ireturn, 1) := dGR_10_c_12.2.2.2.2.2.2.2.2.2.1
theorem dX2_digit_16 : decode cX2_digit 16 = .ok (.iload_n 0, 1) := dGR_10_c_12.2.2.2.2.2.2.2.2.2.2.1
theorem dX2_digit_17 : decode cX2_digit 17 = .ok (.iload_n 3, 1) := dGR_10_c_12.2.2.2.2.2.2.2.2.2.2.2
set_option maxRecDepth 100000 in
theorem dGR_10_c_13 : (decode cX2_digit 18 = .ok (.idiv, 1)) ∧ (decode cX2_digit 19 = .ok (.iload_n 1, 1)) ∧ (decode cX2_digit 20 = .ok (.irem, 1)) ∧ (decode cX2_digit 21 = .ok (.ireturn, 1)) := by decide +kernel
theorem dX2_digit_18 : decode cX2_digit 18 = .ok (.idiv, 1) := dGR_10_c_13.1
theorem dX2_digit_19 : decode cX2_digit 19 = .ok (.iload_n 1, 1) := dGR_10_c_13.2.1
theorem dX2_digit_20 : decode cX2_digit 20 = .ok (.irem, 1) := dGR_10_c_13.2.2.1
theorem dX2_digit_21 : decode cX2_digit 21 = .ok (.ireturn, 1) := dGR_10_c_13.2.2.2
set_option maxHeartbeats 4000000 in
set_option maxRecDepth 100000 in
theorem c_X2_digit (G : KG) (l : Launch) (M : Mem) (a0 : Int) (a1 : Int) (a2 : Int) (hI_M : Inv false M) (hpre : -2147483648 ≤ a0 ∧ a0 ≤ 2147483647 ∧ -2147483648 ≤ a1 ∧ a1 ≤ 2147483647 ∧ -2147483648 ≤ a2 ∧ a2 ≤ 2147483647) : KC false G l yX2_digit cX2_digit 4 (some .int) (1, 23) [vI a0, vI a1, vI a2] M (fun A => kQi false G A (fun (r : Int) (N : Mem) => M = N ∧ (r ≥ -2147483646 ∧ r ≤ 2147483646))) := by
  refine kx_met (lo := [some (vI a0), some (vI a1), some (vI a2), none]) (by decide) (Nat.le_of_ble_eq_true rfl) rfl ?_
  intro X F hQ
  refine kx_iload_n 1 F 1 dX2_digit_0 rfl rfl rfl ?_
  refine kx_iload_n 2 F 2 dX2_digit_1 rfl rfl rfl ?_
  refine kx_Si 5 F (As := [vI a1, vI a2]) (st := []) sd_X2_11 (c_X2_power G l M a1 a2 hI_M (by omega)) ⟨by decide, by decide⟩ rfl rfl (Nat.le_of_ble_eq_true rfl) dX2_digit_2 rfl ?_
  intro r_1 N_2 q_3
  obtain ⟨rfl, q_3c⟩ := q_3
  refine kx_istore_n 6 F 3 (lo' := [some (vI a0), some (vI a1), some (vI a2), some (vI r_1)]) dX2_digit_5 rfl (by decide) rfl rfl rfl ?_
  refine kx_iload_n 7 F 1 dX2_digit_6 rfl rfl rfl ?_
  refine kx_if_le 10 F 14 dX2_digit_7 (by decide) rfl (by omega) (fun h_4 => ?_) (fun h_4 => ?_)
  · refine kx_iconst 15 F dX2_digit_14 rfl ?_
    exact kx_iret F hQ ⟨rfl, (by omega)⟩ dX2_digit_15
  · refine kx_iload_n 11 F 3 dX2_digit_10 rfl rfl rfl ?_
    refine kx_if_gt 14 F 16 dX2_digit_11 (by decide) rfl (by omega) (fun h_5 => ?_) (fun h_5 => ?_)
    · refine kx_iload_n 17 F 0 dX2_digit_16 rfl rfl rfl ?_
      refine kx_iload_n 18 F 3 dX2_digit_17 rfl rfl rfl ?_
      refine kx_idivf 19 F dX2_digit_18 (by omega) rfl (fun w_6 h_7 => ?_)
      refine kx_iload_n 20 F 1 dX2_digit_19 rfl rfl rfl ?_
      refine kx_iremf 21 F dX2_digit_20 (by omega) rfl (fun w_8 h_9 => ?_)
      exact kx_iret F hQ ⟨rfl, (by omega)⟩ dX2_digit_21
    · refine kx_iconst 15 F dX2_digit_14 rfl ?_
      exact kx_iret F hQ ⟨rfl, (by omega)⟩ dX2_digit_15
set_option maxRecDepth 100000 in
theorem dGR_10_c_14 : (decode cX0_hasState 0 = .ok (.iload_n 1, 1)) ∧ (decode cX0_hasState 1 = .ok (.ifCond .lt 15, 3)) ∧ (decode cX0_hasState 4 = .ok (.iload_n 1, 1)) ∧ (decode cX0_hasState 5 = .ok (.aload_n 0, 1)) ∧ (decode cX0_hasState 6 = .ok (.getfield 34, 3)) ∧ (decode cX0_hasState 9 = .ok (.if_icmp .ge 7, 3)) ∧ (decode cX0_hasState 12 = .ok (.iconst 1, 1)) ∧ (decode cX0_hasState 13 = .ok (.goto 4, 3)) ∧ (decode cX0_hasState 16 = .ok (.iconst 0, 1)) ∧ (decode cX0_hasState 17 = .ok (.ireturn, 1)) := by decide +kernel
theorem dX0_hasState_0 : decode cX0_hasState 0 = .ok (.iload_n 1, 1) := dGR_10_c_14.1
theorem dX0_hasState_1 : decode cX0_hasState 1 = .ok (.ifCond .lt 15, 3) := dGR_10_c_14.2.1
theorem dX0_hasState_4 : decode cX0_hasState 4 = .ok (.iload_n 1, 1) := dGR_10_c_14.2.2.1
theorem dX0_hasState_5 : decode cX0_hasState 5 = .ok (.aload_n 0, 1) := dGR_10_c_14.2.2.2.1
theorem dX0_hasState_6 : decode cX0_hasState 6 = .ok (.getfield 34, 3) := dGR_10_c_14.2.2.2.2.1
theorem dX0_hasState_9 : decode cX0_hasState 9 = .ok (.if_icmp .ge 7, 3) := dGR_10_c_14.2.2.2.2.2.1
theorem dX0_hasState_12 : decode cX0_hasState 12 = .ok (.iconst 1, 1) := dGR_10_c_14.2.2.2.2.2.2.1
theorem dX0_hasState_13 : decode cX0_hasState 13 = .ok (.goto 4, 3) := dGR_10_c_14.2.2.2.2.2.2.2.1
theorem dX0_hasState_16 : decode cX0_hasState 16 = .ok (.iconst 0, 1) := dGR_10_c_14.2.2.2.2.2.2.2.2.1
theorem dX0_hasState_17 : decode cX0_hasState 17 = .ok (.ireturn, 1) := dGR_10_c_14.2.2.2.2.2.2.2.2.2
set_option maxHeartbeats 4000000 in
set_option maxRecDepth 100000 in
theorem c_X0_hasState (G : KG) (l : Launch) (M : Mem) (c0 : Int) (a1 : Int) (hI_M : Inv false M) (hk_c0 : kd c0 = 1) (hpre : -2147483648 ≤ a1 ∧ a1 ≤ 2147483647) : KC false G l yX0_hasState cX0_hasState 2 (some .boolean) (0, 0) [vR G c0, vI a1] M (fun A => kQi false G A (fun (r : Int) (N : Mem) => M = N ∧ ((r = 1 ∧ 0 ≤ a1 ∧ a1 < (M c0 0)) ∨ (r = 0)))) := by
  refine kx_met (lo := [some (vR G c0), some (vI a1)]) (by decide) (Nat.le_of_ble_eq_true rfl) rfl ?_
  intro X F hQ
  refine kx_iload_n 1 F 1 dX0_hasState_0 rfl rfl rfl ?_
  refine kx_if_lt 4 F 16 dX0_hasState_1 (by decide) rfl (by omega) (fun h_1 => ?_) (fun h_1 => ?_)
  · refine kx_iconst 17 F dX0_hasState_16 rfl ?_
    have h_2 := Inv.g hI_M hk_c0 rfl 0 (a := 0) (b := 3) rfl rfl
    exact kx_zret F hQ (by omega) ⟨rfl, (by omega)⟩ dX0_hasState_17
  · refine kx_iload_n 5 F 1 dX0_hasState_4 rfl rfl rfl ?_
    refine kx_aload_n 6 F 0 dX0_hasState_5 rfl rfl rfl ?_
    refine kx_geti 9 F fl_X0_34 hk_c0 rfl rfl (j := 0) rfl dX0_hasState_6 (v := (M c0 0)) rfl rfl ?_
    have h_3 := Inv.g hI_M hk_c0 rfl 0 (a := 0) (b := 3) rfl rfl
    refine kx_icmp_ge 12 F 16 dX0_hasState_9 (by decide) rfl (by omega) (by omega) (fun h_4 => ?_) (fun h_4 => ?_)
    · refine kx_iconst 17 F dX0_hasState_16 rfl ?_
      exact kx_zret F hQ (by omega) ⟨rfl, (by omega)⟩ dX0_hasState_17
    · refine kx_iconst 13 F dX0_hasState_12 rfl ?_
      refine kx_goto 17 F dX0_hasState_13 (by decide) ?_
      exact kx_zret F hQ (by omega) ⟨rfl, (by omega)⟩ dX0_hasState_17
set_option maxRecDepth 100000 in
theorem dGR_10_c_15 : (decode cX0_hasSymbol 0 = .ok (.iload_n 1, 1)) ∧ (decode cX0_hasSymbol 1 = .ok (.ifCond .lt 15, 3)) ∧ (decode cX0_hasSymbol 4 = .ok (.iload_n 1, 1)) ∧ (decode cX0_hasSymbol 5 = .ok (.aload_n 0, 1)) ∧ (decode cX0_hasSymbol 6 = .ok (.getfield 37, 3)) ∧ (decode cX0_hasSymbol 9 = .ok (.if_icmp .ge 7, 3)) ∧ (decode cX0_hasSymbol 12 = .ok (.iconst 1, 1)) ∧ (decode cX0_hasSymbol 13 = .ok (.goto 4, 3)) ∧ (decode cX0_hasSymbol 16 = .ok (.iconst 0, 1)) ∧ (decode cX0_hasSymbol 17 = .ok (.ireturn, 1)) := by decide +kernel
theorem dX0_hasSymbol_0 : decode cX0_hasSymbol 0 = .ok (.iload_n 1, 1) := dGR_10_c_15.1
theorem dX0_hasSymbol_1 : decode cX0_hasSymbol 1 = .ok (.ifCond .lt 15, 3) := dGR_10_c_15.2.1
theorem dX0_hasSymbol_4 : decode cX0_hasSymbol 4 = .ok (.iload_n 1, 1) := dGR_10_c_15.2.2.1
theorem dX0_hasSymbol_5 : decode cX0_hasSymbol 5 = .ok (.aload_n 0, 1) := dGR_10_c_15.2.2.2.1
theorem dX0_hasSymbol_6 : decode cX0_hasSymbol 6 = .ok (.getfield 37, 3) := dGR_10_c_15.2.2.2.2.1
theorem dX0_hasSymbol_9 : decode cX0_hasSymbol 9 = .ok (.if_icmp .ge 7, 3) := dGR_10_c_15.2.2.2.2.2.1
theorem dX0_hasSymbol_12 : decode cX0_hasSymbol 12 = .ok (.iconst 1, 1) := dGR_10_c_15.2.2.2.2.2.2.1
theorem dX0_hasSymbol_13 : decode cX0_hasSymbol 13 = .ok (.goto 4, 3) := dGR_10_c_15.2.2.2.2.2.2.2.1
theorem dX0_hasSymbol_16 : decode cX0_hasSymbol 16 = .ok (.iconst 0, 1) := dGR_10_c_15.2.2.2.2.2.2.2.2.1
theorem dX0_hasSymbol_17 : decode cX0_hasSymbol 17 = .ok (.ireturn, 1) := dGR_10_c_15.2.2.2.2.2.2.2.2.2
set_option maxRecDepth 100000 in
theorem dGR_10_c_16 : (decode cX0_hasRule 0 = .ok (.iload_n 1, 1)) ∧ (decode cX0_hasRule 1 = .ok (.ifCond .lt 15, 3)) ∧ (decode cX0_hasRule 4 = .ok (.iload_n 1, 1)) ∧ (decode cX0_hasRule 5 = .ok (.aload_n 0, 1)) ∧ (decode cX0_hasRule 6 = .ok (.getfield 46, 3)) ∧ (decode cX0_hasRule 9 = .ok (.if_icmp .ge 7, 3)) ∧ (decode cX0_hasRule 12 = .ok (.iconst 1, 1)) ∧ (decode cX0_hasRule 13 = .ok (.goto 4, 3)) ∧ (decode cX0_hasRule 16 = .ok (.iconst 0, 1)) ∧ (decode cX0_hasRule 17 = .ok (.ireturn, 1)) := by decide +kernel
theorem dX0_hasRule_0 : decode cX0_hasRule 0 = .ok (.iload_n 1, 1) := dGR_10_c_16.1
theorem dX0_hasRule_1 : decode cX0_hasRule 1 = .ok (.ifCond .lt 15, 3) := dGR_10_c_16.2.1
theorem dX0_hasRule_4 : decode cX0_hasRule 4 = .ok (.iload_n 1, 1) := dGR_10_c_16.2.2.1
theorem dX0_hasRule_5 : decode cX0_hasRule 5 = .ok (.aload_n 0, 1) := dGR_10_c_16.2.2.2.1
theorem dX0_hasRule_6 : decode cX0_hasRule 6 = .ok (.getfield 46, 3) := dGR_10_c_16.2.2.2.2.1
theorem dX0_hasRule_9 : decode cX0_hasRule 9 = .ok (.if_icmp .ge 7, 3) := dGR_10_c_16.2.2.2.2.2.1
theorem dX0_hasRule_12 : decode cX0_hasRule 12 = .ok (.iconst 1, 1) := dGR_10_c_16.2.2.2.2.2.2.1
theorem dX0_hasRule_13 : decode cX0_hasRule 13 = .ok (.goto 4, 3) := dGR_10_c_16.2.2.2.2.2.2.2.1
theorem dX0_hasRule_16 : decode cX0_hasRule 16 = .ok (.iconst 0, 1) := dGR_10_c_16.2.2.2.2.2.2.2.2.1
theorem dX0_hasRule_17 : decode cX0_hasRule 17 = .ok (.ireturn, 1) := dGR_10_c_16.2.2.2.2.2.2.2.2.2
set_option maxRecDepth 100000 in
theorem dGR_10_c_17 : (decode cX0_find 0 = .ok (.iconst 0, 1)) ∧ (decode cX0_find 1 = .ok (.istore 5, 2)) ∧ (decode cX0_find 3 = .ok (.iload 5, 2)) ∧ (decode cX0_find 5 = .ok (.aload_n 0, 1)) ∧ (decode cX0_find 6 = .ok (.getfield 46, 3)) ∧ (decode cX0_find 9 = .ok (.if_icmp .ge 57, 3)) ∧ (decode cX0_find 12 = .ok (.aload_n 0, 1)) ∧ (decode cX0_find 13 = .ok (.getfield 9, 3)) ∧ (decode cX0_find 16 = .ok (.iload 5, 2)) ∧ (decode cX0_find 18 = .ok (.iaload, 1)) ∧ (decode cX0_find 19 = .ok (.iload_n 1, 1)) ∧ (decode cX0_find 20 = .ok (.if_icmp .ne 40, 3)) := by decide +kernel
theorem dX0_find_0 : decode cX0_find 0 = .ok (.iconst 0, 1) := dGR_10_c_17.1
theorem dX0_find_1 : decode cX0_find 1 = .ok (.istore 5, 2) := dGR_10_c_17.2.1
theorem dX0_find_3 : decode cX0_find 3 = .ok (.iload 5, 2) := dGR_10_c_17.2.2.1
theorem dX0_find_5 : decode cX0_find 5 = .ok (.aload_n 0, 1) := dGR_10_c_17.2.2.2.1
theorem dX0_find_6 : decode cX0_find 6 = .ok (.getfield 46, 3) := dGR_10_c_17.2.2.2.2.1
theorem dX0_find_9 : decode cX0_find 9 = .ok (.if_icmp .ge 57, 3) := dGR_10_c_17.2.2.2.2.2.1
theorem dX0_find_12 : decode cX0_find 12 = .ok (.aload_n 0, 1) := dGR_10_c_17.2.2.2.2.2.2.1
theorem dX0_find_13 : decode cX0_find 13 = .ok (.getfield 9, 3) := dGR_10_c_17.2.2.2.2.2.2.2.1
theorem dX0_find_16 : decode cX0_find 16 = .ok (.iload 5, 2) := dGR_10_c_17.2.2.2.2.2.2.2.2.1
theorem dX0_find_18 : decode cX0_find 18 = .ok (.iaload, 1) := dGR_10_c_17.2.2.2.2.2.2.2.2.2.1
theorem dX0_find_19 : decode cX0_find 19 = .ok (.iload_n 1, 1) := dGR_10_c_17.2.2.2.2.2.2.2.2.2.2.1
theorem dX0_find_20 : decode cX0_find 20 = .ok (.if_icmp .ne 40, 3) := dGR_10_c_17.2.2.2.2.2.2.2.2.2.2.2
set_option maxRecDepth 100000 in
theorem dGR_10_c_18 : (decode cX0_find 23 = .ok (.aload_n 0, 1)) ∧ (decode cX0_find 24 = .ok (.getfield 15, 3)) ∧ (decode cX0_find 27 = .ok (.iload 5, 2)) ∧ (decode cX0_find 29 = .ok (.iaload, 1)) ∧ (decode cX0_find 30 = .ok (.iload_n 2, 1)) ∧ (decode cX0_find 31 = .ok (.if_icmp .ne 29, 3)) ∧ (decode cX0_find 34 = .ok (.aload_n 0, 1)) ∧ (decode cX0_find 35 = .ok (.getfield 18, 3)) ∧ (decode cX0_find 38 = .ok (.iload 5, 2)) ∧ (decode cX0_find 40 = .ok (.iaload, 1)) ∧ (decode cX0_find 41 = .ok (.iload_n 3, 1)) ∧ (decode cX0_find 42 = .ok (.if_icmp .ne 18, 3)) := by decide +kernel
theorem dX0_find_23 : decode cX0_find 23 = .ok (.aload_n 0, 1) := dGR_10_c_18.1
theorem dX0_find_24 : decode cX0_find 24 = .ok (.getfield 15, 3) := dGR_10_c_18.2.1
theorem dX0_find_27 : decode cX0_find 27 = .ok (.iload 5, 2) := dGR_10_c_18.2.2.1
theorem dX0_find_29 : decode cX0_find 29 = .ok (.iaload, 1) := dGR_10_c_18.2.2.2.1
theorem dX0_find_30 : decode cX0_find 30 = .ok (.iload_n 2, 1) := dGR_10_c_18.2.2.2.2.1
theorem dX0_find_31 : decode cX0_find 31 = .ok (.if_icmp .ne 29, 3) := dGR_10_c_18.2.2.2.2.2.1
theorem dX0_find_34 : decode cX0_find 34 = .ok (.aload_n 0, 1) := dGR_10_c_18.2.2.2.2.2.2.1
theorem dX0_find_35 : decode cX0_find 35 = .ok (.getfield 18, 3) := dGR_10_c_18.2.2.2.2.2.2.2.1
theorem dX0_find_38 : decode cX0_find 38 = .ok (.iload 5, 2) := dGR_10_c_18.2.2.2.2.2.2.2.2.1
theorem dX0_find_40 : decode cX0_find 40 = .ok (.iaload, 1) := dGR_10_c_18.2.2.2.2.2.2.2.2.2.1
theorem dX0_find_41 : decode cX0_find 41 = .ok (.iload_n 3, 1) := dGR_10_c_18.2.2.2.2.2.2.2.2.2.2.1
theorem dX0_find_42 : decode cX0_find 42 = .ok (.if_icmp .ne 18, 3) := dGR_10_c_18.2.2.2.2.2.2.2.2.2.2.2
set_option maxRecDepth 100000 in
theorem dGR_10_c_19 : (decode cX0_find 45 = .ok (.aload_n 0, 1)) ∧ (decode cX0_find 46 = .ok (.getfield 21, 3)) ∧ (decode cX0_find 49 = .ok (.iload 5, 2)) ∧ (decode cX0_find 51 = .ok (.iaload, 1)) ∧ (decode cX0_find 52 = .ok (.iload 4, 2)) ∧ (decode cX0_find 54 = .ok (.if_icmp .ne 6, 3)) ∧ (decode cX0_find 57 = .ok (.iload 5, 2)) ∧ (decode cX0_find 59 = .ok (.ireturn, 1)) ∧ (decode cX0_find 60 = .ok (.iinc 5 1, 3)) ∧ (decode cX0_find 63 = .ok (.goto (-60), 3)) ∧ (decode cX0_find 66 = .ok (.iconst (-1), 1)) ∧ (decode cX0_find 67 = .ok (.ireturn, 1)) := by decide +kernel
theorem dX0_find_45 : decode cX0_find 45 = .ok (.aload_n 0, 1) := dGR_10_c_19.1
theorem dX0_find_46 : decode cX0_find 46 = .ok (.getfield 21, 3) := dGR_10_c_19.2.1
theorem dX0_find_49 : decode cX0_find 49 = .ok (.iload 5, 2) := dGR_10_c_19.2.2.1
theorem dX0_find_51 : decode cX0_find 51 = .ok (.iaload, 1) := dGR_10_c_19.2.2.2.1
theorem dX0_find_52 : decode cX0_find 52 = .ok (.iload 4, 2) := dGR_10_c_19.2.2.2.2.1
theorem dX0_find_54 : decode cX0_find 54 = .ok (.if_icmp .ne 6, 3) := dGR_10_c_19.2.2.2.2.2.1
theorem dX0_find_57 : decode cX0_find 57 = .ok (.iload 5, 2) := dGR_10_c_19.2.2.2.2.2.2.1
theorem dX0_find_59 : decode cX0_find 59 = .ok (.ireturn, 1) := dGR_10_c_19.2.2.2.2.2.2.2.1
theorem dX0_find_60 : decode cX0_find 60 = .ok (.iinc 5 1, 3) := dGR_10_c_19.2.2.2.2.2.2.2.2.1
theorem dX0_find_63 : decode cX0_find 63 = .ok (.goto (-60), 3) := dGR_10_c_19.2.2.2.2.2.2.2.2.2.1
theorem dX0_find_66 : decode cX0_find 66 = .ok (.iconst (-1), 1) := dGR_10_c_19.2.2.2.2.2.2.2.2.2.2.1
theorem dX0_find_67 : decode cX0_find 67 = .ok (.ireturn, 1) := dGR_10_c_19.2.2.2.2.2.2.2.2.2.2.2
set_option maxRecDepth 100000 in
theorem dGR_10_c_20 : (decode cX0_note 0 = .ok (.aload_n 0, 1)) ∧ (decode cX0_note 1 = .ok (.getfield 15, 3)) ∧ (decode cX0_note 4 = .ok (.iload_n 1, 1)) ∧ (decode cX0_note 5 = .ok (.iaload, 1)) ∧ (decode cX0_note 6 = .ok (.aload_n 0, 1)) ∧ (decode cX0_note 7 = .ok (.getfield 18, 3)) ∧ (decode cX0_note 10 = .ok (.iload_n 1, 1)) ∧ (decode cX0_note 11 = .ok (.iaload, 1)) ∧ (decode cX0_note 12 = .ok (.invokestatic 72, 3)) ∧ (decode cX0_note 15 = .ok (.istore_n 2, 1)) ∧ (decode cX0_note 16 = .ok (.aload_n 0, 1)) ∧ (decode cX0_note 17 = .ok (.getfield 21, 3)) := by decide +kernel
theorem dX0_note_0 : decode cX0_note 0 = .ok (.aload_n 0, 1) := dGR_10_c_20.1
theorem dX0_note_1 : decode cX0_note 1 = .ok (.getfield 15, 3) := dGR_10_c_20.2.1
theorem dX0_note_4 : decode cX0_note 4 = .ok (.iload_n 1, 1) := dGR_10_c_20.2.2.1
theorem dX0_note_5 : decode cX0_note 5 = .ok (.iaload, 1) := dGR_10_c_20.2.2.2.1
theorem dX0_note_6 : decode cX0_note 6 = .ok (.aload_n 0, 1) := dGR_10_c_20.2.2.2.2.1
theorem dX0_note_7 : decode cX0_note 7 = .ok (.getfield 18, 3) := dGR_10_c_20.2.2.2.2.2.1
theorem dX0_note_10 : decode cX0_note 10 = .ok (.iload_n 1, 1) := dGR_10_c_20.2.2.2.2.2.2.1
theorem dX0_note_11 : decode cX0_note 11 = .ok (.iaload, 1) := dGR_10_c_20.2.2.2.2.2.2.2.1
theorem dX0_note_12 : decode cX0_note 12 = .ok (.invokestatic 72, 3) := dGR_10_c_20.2.2.2.2.2.2.2.2.1
theorem dX0_note_15 : decode cX0_note 15 = .ok (.istore_n 2, 1) := dGR_10_c_20.2.2.2.2.2.2.2.2.2.1
theorem dX0_note_16 : decode cX0_note 16 = .ok (.aload_n 0, 1) := dGR_10_c_20.2.2.2.2.2.2.2.2.2.2.1
theorem dX0_note_17 : decode cX0_note 17 = .ok (.getfield 21, 3) := dGR_10_c_20.2.2.2.2.2.2.2.2.2.2.2
set_option maxRecDepth 100000 in
theorem dGR_10_c_21 : (decode cX0_note 20 = .ok (.iload_n 1, 1)) ∧ (decode cX0_note 21 = .ok (.iaload, 1)) ∧ (decode cX0_note 22 = .ok (.iconst (-1), 1)) ∧ (decode cX0_note 23 = .ok (.if_icmp .eq 27, 3)) ∧ (decode cX0_note 26 = .ok (.aload_n 0, 1)) ∧ (decode cX0_note 27 = .ok (.getfield 27, 3)) ∧ (decode cX0_note 30 = .ok (.aload_n 0, 1)) ∧ (decode cX0_note 31 = .ok (.getfield 9, 3)) ∧ (decode cX0_note 34 = .ok (.iload_n 1, 1)) ∧ (decode cX0_note 35 = .ok (.iaload, 1)) ∧ (decode cX0_note 36 = .ok (.iconst 3, 1)) ∧ (decode cX0_note 37 = .ok (.imul, 1)) := by decide +kernel
theorem dX0_note_20 : decode cX0_note 20 = .ok (.iload_n 1, 1) := dGR_10_c_21.1
theorem dX0_note_21 : decode cX0_note 21 = .ok (.iaload, 1) := dGR_10_c_21.2.1
theorem dX0_note_22 : decode cX0_note 22 = .ok (.iconst (-1), 1) := dGR_10_c_21.2.2.1
theorem dX0_note_23 : decode cX0_note 23 = .ok (.if_icmp .eq 27, 3) := dGR_10_c_21.2.2.2.1
theorem dX0_note_26 : decode cX0_note 26 = .ok (.aload_n 0, 1) := dGR_10_c_21.2.2.2.2.1
theorem dX0_note_27 : decode cX0_note 27 = .ok (.getfield 27, 3) := dGR_10_c_21.2.2.2.2.2.1
theorem dX0_note_30 : decode cX0_note 30 = .ok (.aload_n 0, 1) := dGR_10_c_21.2.2.2.2.2.2.1
theorem dX0_note_31 : decode cX0_note 31 = .ok (.getfield 9, 3) := dGR_10_c_21.2.2.2.2.2.2.2.1
theorem dX0_note_34 : decode cX0_note 34 = .ok (.iload_n 1, 1) := dGR_10_c_21.2.2.2.2.2.2.2.2.1
theorem dX0_note_35 : decode cX0_note 35 = .ok (.iaload, 1) := dGR_10_c_21.2.2.2.2.2.2.2.2.2.1
theorem dX0_note_36 : decode cX0_note 36 = .ok (.iconst 3, 1) := dGR_10_c_21.2.2.2.2.2.2.2.2.2.2.1
theorem dX0_note_37 : decode cX0_note 37 = .ok (.imul, 1) := dGR_10_c_21.2.2.2.2.2.2.2.2.2.2.2
set_option maxRecDepth 100000 in
theorem dGR_10_c_22 : (decode cX0_note 38 = .ok (.aload_n 0, 1)) ∧ (decode cX0_note 39 = .ok (.getfield 21, 3)) ∧ (decode cX0_note 42 = .ok (.iload_n 1, 1)) ∧ (decode cX0_note 43 = .ok (.iaload, 1)) ∧ (decode cX0_note 44 = .ok (.iadd, 1)) ∧ (decode cX0_note 45 = .ok (.dup2, 1)) ∧ (decode cX0_note 46 = .ok (.iaload, 1)) ∧ (decode cX0_note 47 = .ok (.iload_n 2, 1)) ∧ (decode cX0_note 48 = .ok (.ior, 1)) ∧ (decode cX0_note 49 = .ok (.iastore, 1)) ∧ (decode cX0_note 50 = .ok (.aload_n 0, 1)) ∧ (decode cX0_note 51 = .ok (.getfield 21, 3)) := by decide +kernel
theorem dX0_note_38 : decode cX0_note 38 = .ok (.aload_n 0, 1) := dGR_10_c_22.1
theorem dX0_note_39 : decode cX0_note 39 = .ok (.getfield 21, 3) := dGR_10_c_22.2.1
theorem dX0_note_42 : decode cX0_note 42 = .ok (.iload_n 1, 1) := dGR_10_c_22.2.2.1
theorem dX0_note_43 : decode cX0_note 43 = .ok (.iaload, 1) := dGR_10_c_22.2.2.2.1
theorem dX0_note_44 : decode cX0_note 44 = .ok (.iadd, 1) := dGR_10_c_22.2.2.2.2.1
theorem dX0_note_45 : decode cX0_note 45 = .ok (.dup2, 1) := dGR_10_c_22.2.2.2.2.2.1
theorem dX0_note_46 : decode cX0_note 46 = .ok (.iaload, 1) := dGR_10_c_22.2.2.2.2.2.2.1
theorem dX0_note_47 : decode cX0_note 47 = .ok (.iload_n 2, 1) := dGR_10_c_22.2.2.2.2.2.2.2.1
theorem dX0_note_48 : decode cX0_note 48 = .ok (.ior, 1) := dGR_10_c_22.2.2.2.2.2.2.2.2.1
theorem dX0_note_49 : decode cX0_note 49 = .ok (.iastore, 1) := dGR_10_c_22.2.2.2.2.2.2.2.2.2.1
theorem dX0_note_50 : decode cX0_note 50 = .ok (.aload_n 0, 1) := dGR_10_c_22.2.2.2.2.2.2.2.2.2.2.1
theorem dX0_note_51 : decode cX0_note 51 = .ok (.getfield 21, 3) := dGR_10_c_22.2.2.2.2.2.2.2.2.2.2.2
set_option maxRecDepth 100000 in
theorem dGR_10_c_23 : (decode cX0_note 54 = .ok (.iload_n 1, 1)) ∧ (decode cX0_note 55 = .ok (.iaload, 1)) ∧ (decode cX0_note 56 = .ok (.iconst (-1), 1)) ∧ (decode cX0_note 57 = .ok (.if_icmp .eq 16, 3)) ∧ (decode cX0_note 60 = .ok (.aload_n 0, 1)) ∧ (decode cX0_note 61 = .ok (.getfield 9, 3)) ∧ (decode cX0_note 64 = .ok (.iload_n 1, 1)) ∧ (decode cX0_note 65 = .ok (.iaload, 1)) ∧ (decode cX0_note 66 = .ok (.aload_n 0, 1)) ∧ (decode cX0_note 67 = .ok (.getfield 30, 3)) ∧ (decode cX0_note 70 = .ok (.if_icmp .ge 18, 3)) ∧ (decode cX0_note 73 = .ok (.aload_n 0, 1)) := by decide +kernel
theorem dX0_note_54 : decode cX0_note 54 = .ok (.iload_n 1, 1) := dGR_10_c_23.1
theorem dX0_note_55 : decode cX0_note 55 = .ok (.iaload, 1) := dGR_10_c_23.2.1
theorem dX0_note_56 : decode cX0_note 56 = .ok (.iconst (-1), 1) := dGR_10_c_23.2.2.1
theorem dX0_note_57 : decode cX0_note 57 = .ok (.if_icmp .eq 16, 3) := dGR_10_c_23.2.2.2.1
theorem dX0_note_60 : decode cX0_note 60 = .ok (.aload_n 0, 1) := dGR_10_c_23.2.2.2.2.1
theorem dX0_note_61 : decode cX0_note 61 = .ok (.getfield 9, 3) := dGR_10_c_23.2.2.2.2.2.1
theorem dX0_note_64 : decode cX0_note 64 = .ok (.iload_n 1, 1) := dGR_10_c_23.2.2.2.2.2.2.1
theorem dX0_note_65 : decode cX0_note 65 = .ok (.iaload, 1) := dGR_10_c_23.2.2.2.2.2.2.2.1
theorem dX0_note_66 : decode cX0_note 66 = .ok (.aload_n 0, 1) := dGR_10_c_23.2.2.2.2.2.2.2.2.1
theorem dX0_note_67 : decode cX0_note 67 = .ok (.getfield 30, 3) := dGR_10_c_23.2.2.2.2.2.2.2.2.2.1
theorem dX0_note_70 : decode cX0_note 70 = .ok (.if_icmp .ge 18, 3) := dGR_10_c_23.2.2.2.2.2.2.2.2.2.2.1
theorem dX0_note_73 : decode cX0_note 73 = .ok (.aload_n 0, 1) := dGR_10_c_23.2.2.2.2.2.2.2.2.2.2.2
set_option maxRecDepth 100000 in
theorem dGR_10_c_24 : (decode cX0_note 74 = .ok (.getfield 24, 3)) ∧ (decode cX0_note 77 = .ok (.aload_n 0, 1)) ∧ (decode cX0_note 78 = .ok (.getfield 9, 3)) ∧ (decode cX0_note 81 = .ok (.iload_n 1, 1)) ∧ (decode cX0_note 82 = .ok (.iaload, 1)) ∧ (decode cX0_note 83 = .ok (.dup2, 1)) ∧ (decode cX0_note 84 = .ok (.iaload, 1)) ∧ (decode cX0_note 85 = .ok (.iload_n 2, 1)) ∧ (decode cX0_note 86 = .ok (.ior, 1)) ∧ (decode cX0_note 87 = .ok (.iastore, 1)) ∧ (decode cX0_note 88 = .ok (.return_, 1)) := by decide +kernel
theorem dX0_note_74 : decode cX0_note 74 = .ok (.getfield 24, 3) := dGR_10_c_24.1
theorem dX0_note_77 : decode cX0_note 77 = .ok (.aload_n 0, 1) := dGR_10_c_24.2.1
theorem dX0_note_78 : decode cX0_note 78 = .ok (.getfield 9, 3) := dGR_10_c_24.2.2.1
theorem dX0_note_81 : decode cX0_note 81 = .ok (.iload_n 1, 1) := dGR_10_c_24.2.2.2.1
theorem dX0_note_82 : decode cX0_note 82 = .ok (.iaload, 1) := dGR_10_c_24.2.2.2.2.1
theorem dX0_note_83 : decode cX0_note 83 = .ok (.dup2, 1) := dGR_10_c_24.2.2.2.2.2.1
theorem dX0_note_84 : decode cX0_note 84 = .ok (.iaload, 1) := dGR_10_c_24.2.2.2.2.2.2.1
theorem dX0_note_85 : decode cX0_note 85 = .ok (.iload_n 2, 1) := dGR_10_c_24.2.2.2.2.2.2.2.1
theorem dX0_note_86 : decode cX0_note 86 = .ok (.ior, 1) := dGR_10_c_24.2.2.2.2.2.2.2.2.1
theorem dX0_note_87 : decode cX0_note 87 = .ok (.iastore, 1) := dGR_10_c_24.2.2.2.2.2.2.2.2.2.1
theorem dX0_note_88 : decode cX0_note 88 = .ok (.return_, 1) := dGR_10_c_24.2.2.2.2.2.2.2.2.2.2
set_option maxRecDepth 100000 in
theorem dGR_10_c_25 : (decode cX0_append 0 = .ok (.aload_n 0, 1)) ∧ (decode cX0_append 1 = .ok (.getfield 46, 3)) ∧ (decode cX0_append 4 = .ok (.bipush 20, 2)) ∧ (decode cX0_append 6 = .ok (.if_icmp .lt 4, 3)) ∧ (decode cX0_append 10 = .ok (.aload_n 0, 1)) ∧ (decode cX0_append 11 = .ok (.getfield 9, 3)) ∧ (decode cX0_append 14 = .ok (.aload_n 0, 1)) ∧ (decode cX0_append 15 = .ok (.getfield 46, 3)) ∧ (decode cX0_append 18 = .ok (.iload_n 1, 1)) ∧ (decode cX0_append 19 = .ok (.iastore, 1)) ∧ (decode cX0_append 20 = .ok (.aload_n 0, 1)) ∧ (decode cX0_append 21 = .ok (.getfield 15, 3)) := by decide +kernel
theorem dX0_append_0 : decode cX0_append 0 = .ok (.aload_n 0, 1) := dGR_10_c_25.1
theorem dX0_append_1 : decode cX0_append 1 = .ok (.getfield 46, 3) := dGR_10_c_25.2.1
theorem dX0_append_4 : decode cX0_append 4 = .ok (.bipush 20, 2) := dGR_10_c_25.2.2.1
theorem dX0_append_6 : decode cX0_append 6 = .ok (.if_icmp .lt 4, 3) := dGR_10_c_25.2.2.2.1
theorem dX0_append_10 : decode cX0_append 10 = .ok (.aload_n 0, 1) := dGR_10_c_25.2.2.2.2.1
theorem dX0_append_11 : decode cX0_append 11 = .ok (.getfield 9, 3) := dGR_10_c_25.2.2.2.2.2.1
theorem dX0_append_14 : decode cX0_append 14 = .ok (.aload_n 0, 1) := dGR_10_c_25.2.2.2.2.2.2.1
theorem dX0_append_15 : decode cX0_append 15 = .ok (.getfield 46, 3) := dGR_10_c_25.2.2.2.2.2.2.2.1
theorem dX0_append_18 : decode cX0_append 18 = .ok (.iload_n 1, 1) := dGR_10_c_25.2.2.2.2.2.2.2.2.1
theorem dX0_append_19 : decode cX0_append 19 = .ok (.iastore, 1) := dGR_10_c_25.2.2.2.2.2.2.2.2.2.1
theorem dX0_append_20 : decode cX0_append 20 = .ok (.aload_n 0, 1) := dGR_10_c_25.2.2.2.2.2.2.2.2.2.2.1
theorem dX0_append_21 : decode cX0_append 21 = .ok (.getfield 15, 3) := dGR_10_c_25.2.2.2.2.2.2.2.2.2.2.2
set_option maxRecDepth 100000 in
theorem dGR_10_c_26 : (decode cX0_append 24 = .ok (.aload_n 0, 1)) ∧ (decode cX0_append 25 = .ok (.getfield 46, 3)) ∧ (decode cX0_append 28 = .ok (.iload_n 2, 1)) ∧ (decode cX0_append 29 = .ok (.iastore, 1)) ∧ (decode cX0_append 30 = .ok (.aload_n 0, 1)) ∧ (decode cX0_append 31 = .ok (.getfield 18, 3)) ∧ (decode cX0_append 34 = .ok (.aload_n 0, 1)) ∧ (decode cX0_append 35 = .ok (.getfield 46, 3)) ∧ (decode cX0_append 38 = .ok (.iload_n 3, 1)) ∧ (decode cX0_append 39 = .ok (.iastore, 1)) ∧ (decode cX0_append 40 = .ok (.aload_n 0, 1)) ∧ (decode cX0_append 41 = .ok (.getfield 21, 3)) := by decide +kernel
theorem dX0_append_24 : decode cX0_append 24 = .ok (.aload_n 0, 1) := dGR_10_c_26.1
theorem dX0_append_25 : decode cX0_append 25 = .ok (.getfield 46, 3) := dGR_10_c_26.2.1
theorem dX0_append_28 : decode cX0_append 28 = .ok (.iload_n 2, 1) := dGR_10_c_26.2.2.1
theorem dX0_append_29 : decode cX0_append 29 = .ok (.iastore, 1) := dGR_10_c_26.2.2.2.1
theorem dX0_append_30 : decode cX0_append 30 = .ok (.aload_n 0, 1) := dGR_10_c_26.2.2.2.2.1
theorem dX0_append_31 : decode cX0_append 31 = .ok (.getfield 18, 3) := dGR_10_c_26.2.2.2.2.2.1
theorem dX0_append_34 : decode cX0_append 34 = .ok (.aload_n 0, 1) := dGR_10_c_26.2.2.2.2.2.2.1
theorem dX0_append_35 : decode cX0_append 35 = .ok (.getfield 46, 3) := dGR_10_c_26.2.2.2.2.2.2.2.1
theorem dX0_append_38 : decode cX0_append 38 = .ok (.iload_n 3, 1) := dGR_10_c_26.2.2.2.2.2.2.2.2.1
theorem dX0_append_39 : decode cX0_append 39 = .ok (.iastore, 1) := dGR_10_c_26.2.2.2.2.2.2.2.2.2.1
theorem dX0_append_40 : decode cX0_append 40 = .ok (.aload_n 0, 1) := dGR_10_c_26.2.2.2.2.2.2.2.2.2.2.1
theorem dX0_append_41 : decode cX0_append 41 = .ok (.getfield 21, 3) := dGR_10_c_26.2.2.2.2.2.2.2.2.2.2.2
set_option maxRecDepth 100000 in
theorem dGR_10_c_27 : (decode cX0_append 44 = .ok (.aload_n 0, 1)) ∧ (decode cX0_append 45 = .ok (.getfield 46, 3)) ∧ (decode cX0_append 48 = .ok (.iload 4, 2)) ∧ (decode cX0_append 50 = .ok (.iastore, 1)) ∧ (decode cX0_append 51 = .ok (.aload_n 0, 1)) ∧ (decode cX0_append 52 = .ok (.dup, 1)) ∧ (decode cX0_append 53 = .ok (.getfield 46, 3)) ∧ (decode cX0_append 56 = .ok (.iconst 1, 1)) ∧ (decode cX0_append 57 = .ok (.iadd, 1)) ∧ (decode cX0_append 58 = .ok (.putfield 46, 3)) ∧ (decode cX0_append 61 = .ok (.aload_n 0, 1)) ∧ (decode cX0_append 62 = .ok (.aload_n 0, 1)) := by decide +kernel
theorem dX0_append_44 : decode cX0_append 44 = .ok (.aload_n 0, 1) := dGR_10_c_27.1
theorem dX0_append_45 : decode cX0_append 45 = .ok (.getfield 46, 3) := dGR_10_c_27.2.1
theorem dX0_append_48 : decode cX0_append 48 = .ok (.iload 4, 2) := dGR_10_c_27.2.2.1
theorem dX0_append_50 : decode cX0_append 50 = .ok (.iastore, 1) := dGR_10_c_27.2.2.2.1
theorem dX0_append_51 : decode cX0_append 51 = .ok (.aload_n 0, 1) := dGR_10_c_27.2.2.2.2.1
theorem dX0_append_52 : decode cX0_append 52 = .ok (.dup, 1) := dGR_10_c_27.2.2.2.2.2.1
theorem dX0_append_53 : decode cX0_append 53 = .ok (.getfield 46, 3) := dGR_10_c_27.2.2.2.2.2.2.1
theorem dX0_append_56 : decode cX0_append 56 = .ok (.iconst 1, 1) := dGR_10_c_27.2.2.2.2.2.2.2.1
theorem dX0_append_57 : decode cX0_append 57 = .ok (.iadd, 1) := dGR_10_c_27.2.2.2.2.2.2.2.2.1
theorem dX0_append_58 : decode cX0_append 58 = .ok (.putfield 46, 3) := dGR_10_c_27.2.2.2.2.2.2.2.2.2.1
theorem dX0_append_61 : decode cX0_append 61 = .ok (.aload_n 0, 1) := dGR_10_c_27.2.2.2.2.2.2.2.2.2.2.1
theorem dX0_append_62 : decode cX0_append 62 = .ok (.aload_n 0, 1) := dGR_10_c_27.2.2.2.2.2.2.2.2.2.2.2
set_option maxRecDepth 100000 in
theorem dGR_10_c_28 : (decode cX0_append 63 = .ok (.getfield 46, 3)) ∧ (decode cX0_append 66 = .ok (.iconst 1, 1)) ∧ (decode cX0_append 67 = .ok (.isub, 1)) ∧ (decode cX0_append 68 = .ok (.invokevirtual 68, 3)) ∧ (decode cX0_append 71 = .ok (.return_, 1)) := by decide +kernel
theorem dX0_append_63 : decode cX0_append 63 = .ok (.getfield 46, 3) := dGR_10_c_28.1
theorem dX0_append_66 : decode cX0_append 66 = .ok (.iconst 1, 1) := dGR_10_c_28.2.1
theorem dX0_append_67 : decode cX0_append 67 = .ok (.isub, 1) := dGR_10_c_28.2.2.1
theorem dX0_append_68 : decode cX0_append 68 = .ok (.invokevirtual 68, 3) := dGR_10_c_28.2.2.2.1
theorem dX0_append_71 : decode cX0_append 71 = .ok (.return_, 1) := dGR_10_c_28.2.2.2.2
set_option maxRecDepth 100000 in
theorem dGR_10_c_29 : (decode cJ7_fill_53178 0 = .ok (.iconst 0, 1)) ∧ (decode cJ7_fill_53178 1 = .ok (.istore_n 2, 1)) ∧ (decode cJ7_fill_53178 2 = .ok (.aload_n 0, 1)) ∧ (decode cJ7_fill_53178 3 = .ok (.arraylength, 1)) ∧ (decode cJ7_fill_53178 4 = .ok (.istore_n 3, 1)) ∧ (decode cJ7_fill_53178 5 = .ok (.iload_n 2, 1)) ∧ (decode cJ7_fill_53178 6 = .ok (.iload_n 3, 1)) ∧ (decode cJ7_fill_53178 7 = .ok (.if_icmp .ge 13, 3)) ∧ (decode cJ7_fill_53178 10 = .ok (.aload_n 0, 1)) ∧ (decode cJ7_fill_53178 11 = .ok (.iload_n 2, 1)) ∧ (decode cJ7_fill_53178 12 = .ok (.iload_n 1, 1)) ∧ (decode cJ7_fill_53178 13 = .ok (.iastore, 1)) := by decide +kernel
theorem dJ7_fill_53178_0 : decode cJ7_fill_53178 0 = .ok (.iconst 0, 1) := dGR_10_c_29.1
theorem dJ7_fill_53178_1 : decode cJ7_fill_53178 1 = .ok (.istore_n 2, 1) := dGR_10_c_29.2.1
theorem dJ7_fill_53178_2 : decode cJ7_fill_53178 2 = .ok (.aload_n 0, 1) := dGR_10_c_29.2.2.1
theorem dJ7_fill_53178_3 : decode cJ7_fill_53178 3 = .ok (.arraylength, 1) := dGR_10_c_29.2.2.2.1
theorem dJ7_fill_53178_4 : decode cJ7_fill_53178 4 = .ok (.istore_n 3, 1) := dGR_10_c_29.2.2.2.2.1
theorem dJ7_fill_53178_5 : decode cJ7_fill_53178 5 = .ok (.iload_n 2, 1) := dGR_10_c_29.2.2.2.2.2.1
theorem dJ7_fill_53178_6 : decode cJ7_fill_53178 6 = .ok (.iload_n 3, 1) := dGR_10_c_29.2.2.2.2.2.2.1
theorem dJ7_fill_53178_7 : decode cJ7_fill_53178 7 = .ok (.if_icmp .ge 13, 3) := dGR_10_c_29.2.2.2.2.2.2.2.1
theorem dJ7_fill_53178_10 : decode cJ7_fill_53178 10 = .ok (.aload_n 0, 1) := dGR_10_c_29.2.2.2.2.2.2.2.2.1
theorem dJ7_fill_53178_11 : decode cJ7_fill_53178 11 = .ok (.iload_n 2, 1) := dGR_10_c_29.2.2.2.2.2.2.2.2.2.1
theorem dJ7_fill_53178_12 : decode cJ7_fill_53178 12 = .ok (.iload_n 1, 1) := dGR_10_c_29.2.2.2.2.2.2.2.2.2.2.1
theorem dJ7_fill_53178_13 : decode cJ7_fill_53178 13 = .ok (.iastore, 1) := dGR_10_c_29.2.2.2.2.2.2.2.2.2.2.2
set_option maxRecDepth 100000 in
theorem dGR_10_c_30 : (decode cJ7_fill_53178 14 = .ok (.iinc 2 1, 3)) ∧ (decode cJ7_fill_53178 17 = .ok (.goto (-12), 3)) ∧ (decode cJ7_fill_53178 20 = .ok (.return_, 1)) := by decide +kernel
theorem dJ7_fill_53178_14 : decode cJ7_fill_53178 14 = .ok (.iinc 2 1, 3) := dGR_10_c_30.1
theorem dJ7_fill_53178_17 : decode cJ7_fill_53178 17 = .ok (.goto (-12), 3) := dGR_10_c_30.2.1
theorem dJ7_fill_53178_20 : decode cJ7_fill_53178 20 = .ok (.return_, 1) := dGR_10_c_30.2.2
abbrev f_c_fill_many : List (Nat × Int) := [(54, -1)]
set_option maxHeartbeats 4000000 in
set_option maxRecDepth 100000 in
theorem c_fill_many (G : KG) (l : Launch) (M : Mem) (c0 : Int) (a1 : Int) (hI_M : Inv false M) (hk_c0 : kd c0 = 54) (hpre : -2147483648 ≤ a1 ∧ a1 ≤ 2147483647 ∧ a1 ≥ -2147483648 ∧ a1 ≤ 2147483647) : KC false G l yJ7_fill_53178 cJ7_fill_53178 4 none (0, 0) [vR G c0, vI a1] M (fun A => kQv false G A (fun (N : Mem) => Inv false N ∧ Fr f_c_fill_many M N)) := by
  refine kx_met (lo := [some (vR G c0), some (vI a1), none, none]) (by decide) (Nat.le_of_ble_eq_true rfl) rfl ?_
  intro X F hQ
  have hF_M : Fr f_c_fill_many M M := Fr.rf _ _
  refine kx_iconst 1 F dJ7_fill_53178_0 rfl ?_
  refine kx_istore_n 2 F 2 (lo' := [some (vR G c0), some (vI a1), some (vI 0), none]) dJ7_fill_53178_1 rfl (by decide) rfl rfl rfl ?_
  refine kx_aload_n 3 F 0 dJ7_fill_53178_2 rfl rfl rfl ?_
  refine kx_alen 4 F hk_c0 rfl rfl (z := 112) (by decide) dJ7_fill_53178_3 rfl ?_
  refine kx_istore_n 5 F 3 (lo' := [some (vR G c0), some (vI a1), some (vI 0), some (vI 112)]) dJ7_fill_53178_4 rfl (by decide) rfl rfl rfl ?_
  have L_31 : ∀ (n_32 : Nat) (x2_29 : Int) (N_30 : Mem), Inv false N_30 → Fr f_c_fill_many M N_30 → 0 ≤ x2_29 ∧ x2_29 ≤ 112 → (112 - (x2_29)).toNat = n_32 → KJ false G X N_30 5 [some (vR G c0), some (vI a1), some (vI x2_29), some (vI 112)] [] := by
    intro n_32
    refine Nat.strongRecOn n_32 ?_
    intro n_32 ih_33 x2_29 N_30 hI_N_30 hF_N_30 h_34 hm_35
    refine kx_iload_n 6 F 2 dJ7_fill_53178_5 rfl rfl rfl ?_
    refine kx_iload_n 7 F 3 dJ7_fill_53178_6 rfl rfl rfl ?_
    refine kx_icmp_ge 10 F 20 dJ7_fill_53178_7 (by decide) rfl (by omega) (by decide) (fun h_36 => ?_) (fun h_36 => ?_)
    · exact kx_vret F hQ ⟨hI_N_30, hF_N_30⟩ dJ7_fill_53178_20
    · refine kx_aload_n 11 F 0 dJ7_fill_53178_10 rfl rfl rfl ?_
      refine kx_iload_n 12 F 2 dJ7_fill_53178_11 rfl rfl rfl ?_
      refine kx_iload_n 13 F 1 dJ7_fill_53178_12 rfl rfl rfl ?_
      refine kx_iast 14 F hk_c0 rfl rfl (by omega) (by decide) dJ7_fill_53178_13 rfl ?_
      intro N_37 hM_N_37
      have hI_N_37 : Inv false N_37 := Inv.u hI_N_30 hM_N_37 hk_c0 (a := (-2147483648)) (b := 2147483647) rfl rfl rfl (by omega)
      have hF_N_37 : Fr f_c_fill_many M N_37 := Fr.u hF_N_30 hM_N_37 hk_c0 rfl
      refine kx_iinc 17 F 2 (v := x2_29 + 1) (lo' := [some (vR G c0), some (vI a1), some (vI (x2_29 + 1)), some (vI 112)]) dJ7_fill_53178_14 rfl (by omega) (by decide) rfl rfl rfl ?_
      refine kx_goto 5 F dJ7_fill_53178_17 (by decide) ?_
      exact ih_33 _ (by omega) (x2_29 + 1) N_37 hI_N_37 hF_N_37 (by omega) rfl
  exact L_31 _ 0 M hI_M hF_M (by omega) rfl
abbrev f_c_fill_last : List (Nat × Int) := [(55, -1)]
set_option maxHeartbeats 4000000 in
set_option maxRecDepth 100000 in
theorem c_fill_last (G : KG) (l : Launch) (M : Mem) (c0 : Int) (a1 : Int) (hI_M : Inv false M) (hk_c0 : kd c0 = 55) (hpre : -2147483648 ≤ a1 ∧ a1 ≤ 2147483647 ∧ a1 ≥ -2147483648 ∧ a1 ≤ 2147483647) : KC false G l yJ7_fill_53178 cJ7_fill_53178 4 none (0, 0) [vR G c0, vI a1] M (fun A => kQv false G A (fun (N : Mem) => Inv false N ∧ Fr f_c_fill_last M N)) := by
  refine kx_met (lo := [some (vR G c0), some (vI a1), none, none]) (by decide) (Nat.le_of_ble_eq_true rfl) rfl ?_
  intro X F hQ
  have hF_M : Fr f_c_fill_last M M := Fr.rf _ _
  refine kx_iconst 1 F dJ7_fill_53178_0 rfl ?_
  refine kx_istore_n 2 F 2 (lo' := [some (vR G c0), some (vI a1), some (vI 0), none]) dJ7_fill_53178_1 rfl (by decide) rfl rfl rfl ?_
  refine kx_aload_n 3 F 0 dJ7_fill_53178_2 rfl rfl rfl ?_
  refine kx_alen 4 F hk_c0 rfl rfl (z := 112) (by decide) dJ7_fill_53178_3 rfl ?_
  refine kx_istore_n 5 F 3 (lo' := [some (vR G c0), some (vI a1), some (vI 0), some (vI 112)]) dJ7_fill_53178_4 rfl (by decide) rfl rfl rfl ?_
  have L_31 : ∀ (n_32 : Nat) (x2_29 : Int) (N_30 : Mem), Inv false N_30 → Fr f_c_fill_last M N_30 → 0 ≤ x2_29 ∧ x2_29 ≤ 112 → (112 - (x2_29)).toNat = n_32 → KJ false G X N_30 5 [some (vR G c0), some (vI a1), some (vI x2_29), some (vI 112)] [] := by
    intro n_32
    refine Nat.strongRecOn n_32 ?_
    intro n_32 ih_33 x2_29 N_30 hI_N_30 hF_N_30 h_34 hm_35
    refine kx_iload_n 6 F 2 dJ7_fill_53178_5 rfl rfl rfl ?_
    refine kx_iload_n 7 F 3 dJ7_fill_53178_6 rfl rfl rfl ?_
    refine kx_icmp_ge 10 F 20 dJ7_fill_53178_7 (by decide) rfl (by omega) (by decide) (fun h_36 => ?_) (fun h_36 => ?_)
    · exact kx_vret F hQ ⟨hI_N_30, hF_N_30⟩ dJ7_fill_53178_20
    · refine kx_aload_n 11 F 0 dJ7_fill_53178_10 rfl rfl rfl ?_
      refine kx_iload_n 12 F 2 dJ7_fill_53178_11 rfl rfl rfl ?_
      refine kx_iload_n 13 F 1 dJ7_fill_53178_12 rfl rfl rfl ?_
      refine kx_iast 14 F hk_c0 rfl rfl (by omega) (by decide) dJ7_fill_53178_13 rfl ?_
      intro N_37 hM_N_37
      have hI_N_37 : Inv false N_37 := Inv.u hI_N_30 hM_N_37 hk_c0 (a := (-2147483648)) (b := 2147483647) rfl rfl rfl (by omega)
      have hF_N_37 : Fr f_c_fill_last M N_37 := Fr.u hF_N_30 hM_N_37 hk_c0 rfl
      refine kx_iinc 17 F 2 (v := x2_29 + 1) (lo' := [some (vR G c0), some (vI a1), some (vI (x2_29 + 1)), some (vI 112)]) dJ7_fill_53178_14 rfl (by omega) (by decide) rfl rfl rfl ?_
      refine kx_goto 5 F dJ7_fill_53178_17 (by decide) ?_
      exact ih_33 _ (by omega) (x2_29 + 1) N_37 hI_N_37 hF_N_37 (by omega) rfl
  exact L_31 _ 0 M hI_M hF_M (by omega) rfl
set_option maxRecDepth 100000 in
theorem dGR_10_c_31 : (decode cJ7_fill_d0a16 0 = .ok (.iconst 0, 1)) ∧ (decode cJ7_fill_d0a16 1 = .ok (.istore_n 3, 1)) ∧ (decode cJ7_fill_d0a16 2 = .ok (.aload_n 0, 1)) ∧ (decode cJ7_fill_d0a16 3 = .ok (.arraylength, 1)) ∧ (decode cJ7_fill_d0a16 4 = .ok (.istore 4, 2)) ∧ (decode cJ7_fill_d0a16 6 = .ok (.iload_n 3, 1)) ∧ (decode cJ7_fill_d0a16 7 = .ok (.iload 4, 2)) ∧ (decode cJ7_fill_d0a16 9 = .ok (.if_icmp .ge 13, 3)) ∧ (decode cJ7_fill_d0a16 12 = .ok (.aload_n 0, 1)) ∧ (decode cJ7_fill_d0a16 13 = .ok (.iload_n 3, 1)) ∧ (decode cJ7_fill_d0a16 14 = .ok (.lload_n 1, 1)) ∧ (decode cJ7_fill_d0a16 15 = .ok (.lastore, 1)) := by decide +kernel
theorem dJ7_fill_d0a16_0 : decode cJ7_fill_d0a16 0 = .ok (.iconst 0, 1) := dGR_10_c_31.1
theorem dJ7_fill_d0a16_1 : decode cJ7_fill_d0a16 1 = .ok (.istore_n 3, 1) := dGR_10_c_31.2.1
theorem dJ7_fill_d0a16_2 : decode cJ7_fill_d0a16 2 = .ok (.aload_n 0, 1) := dGR_10_c_31.2.2.1
theorem dJ7_fill_d0a16_3 : decode cJ7_fill_d0a16 3 = .ok (.arraylength, 1) := dGR_10_c_31.2.2.2.1
theorem dJ7_fill_d0a16_4 : decode cJ7_fill_d0a16 4 = .ok (.istore 4, 2) := dGR_10_c_31.2.2.2.2.1
theorem dJ7_fill_d0a16_6 : decode cJ7_fill_d0a16 6 = .ok (.iload_n 3, 1) := dGR_10_c_31.2.2.2.2.2.1
theorem dJ7_fill_d0a16_7 : decode cJ7_fill_d0a16 7 = .ok (.iload 4, 2) := dGR_10_c_31.2.2.2.2.2.2.1
theorem dJ7_fill_d0a16_9 : decode cJ7_fill_d0a16 9 = .ok (.if_icmp .ge 13, 3) := dGR_10_c_31.2.2.2.2.2.2.2.1
theorem dJ7_fill_d0a16_12 : decode cJ7_fill_d0a16 12 = .ok (.aload_n 0, 1) := dGR_10_c_31.2.2.2.2.2.2.2.2.1
theorem dJ7_fill_d0a16_13 : decode cJ7_fill_d0a16 13 = .ok (.iload_n 3, 1) := dGR_10_c_31.2.2.2.2.2.2.2.2.2.1
theorem dJ7_fill_d0a16_14 : decode cJ7_fill_d0a16 14 = .ok (.lload_n 1, 1) := dGR_10_c_31.2.2.2.2.2.2.2.2.2.2.1
theorem dJ7_fill_d0a16_15 : decode cJ7_fill_d0a16 15 = .ok (.lastore, 1) := dGR_10_c_31.2.2.2.2.2.2.2.2.2.2.2
set_option maxRecDepth 100000 in
theorem dGR_10_c_32 : (decode cJ7_fill_d0a16 16 = .ok (.iinc 3 1, 3)) ∧ (decode cJ7_fill_d0a16 19 = .ok (.goto (-13), 3)) ∧ (decode cJ7_fill_d0a16 22 = .ok (.return_, 1)) := by decide +kernel
theorem dJ7_fill_d0a16_16 : decode cJ7_fill_d0a16 16 = .ok (.iinc 3 1, 3) := dGR_10_c_32.1
theorem dJ7_fill_d0a16_19 : decode cJ7_fill_d0a16 19 = .ok (.goto (-13), 3) := dGR_10_c_32.2.1
theorem dJ7_fill_d0a16_22 : decode cJ7_fill_d0a16 22 = .ok (.return_, 1) := dGR_10_c_32.2.2
abbrev f_c_fill_scratch : List (Nat × Int) := [(58, -1)]
set_option maxHeartbeats 4000000 in
set_option maxRecDepth 100000 in
theorem c_fill_scratch (G : KG) (l : Launch) (M : Mem) (c0 : Int) (a1 : Int) (hI_M : Inv false M) (hk_c0 : kd c0 = 58) (hpre : -9223372036854775808 ≤ a1 ∧ a1 ≤ 9223372036854775807) : KC false G l yJ7_fill_d0a16 cJ7_fill_d0a16 5 none (0, 0) [vR G c0, vL a1] M (fun A => kQv false G A (fun (N : Mem) => Inv false N ∧ Fr f_c_fill_scratch M N)) := by
  refine kx_met (lo := [some (vR G c0), some (vL a1), none, none, none]) (by decide) (Nat.le_of_ble_eq_true rfl) rfl ?_
  intro X F hQ
  have hF_M : Fr f_c_fill_scratch M M := Fr.rf _ _
  refine kx_iconst 1 F dJ7_fill_d0a16_0 rfl ?_
  refine kx_istore_n 2 F 3 (lo' := [some (vR G c0), some (vL a1), none, some (vI 0), none]) dJ7_fill_d0a16_1 rfl (by decide) rfl rfl rfl ?_
  refine kx_aload_n 3 F 0 dJ7_fill_d0a16_2 rfl rfl rfl ?_
  refine kx_alen 4 F hk_c0 rfl rfl (z := 9) (by decide) dJ7_fill_d0a16_3 rfl ?_
  refine kx_istore 6 F 4 (lo' := [some (vR G c0), some (vL a1), none, some (vI 0), some (vI 9)]) dJ7_fill_d0a16_4 (by decide) rfl rfl rfl ?_
  have L_31 : ∀ (n_32 : Nat) (x3_29 : Int) (N_30 : Mem), Inv false N_30 → Fr f_c_fill_scratch M N_30 → 0 ≤ x3_29 ∧ x3_29 ≤ 9 → (9 - (x3_29)).toNat = n_32 → KJ false G X N_30 6 [some (vR G c0), some (vL a1), none, some (vI x3_29), some (vI 9)] [] := by
    intro n_32
    refine Nat.strongRecOn n_32 ?_
    intro n_32 ih_33 x3_29 N_30 hI_N_30 hF_N_30 h_34 hm_35
    refine kx_iload_n 7 F 3 dJ7_fill_d0a16_6 rfl rfl rfl ?_
    refine kx_iload 9 F 4 dJ7_fill_d0a16_7 rfl rfl ?_
    refine kx_icmp_ge 12 F 22 dJ7_fill_d0a16_9 (by decide) rfl (by omega) (by decide) (fun h_36 => ?_) (fun h_36 => ?_)
    · exact kx_vret F hQ ⟨hI_N_30, hF_N_30⟩ dJ7_fill_d0a16_22
    · refine kx_aload_n 13 F 0 dJ7_fill_d0a16_12 rfl rfl rfl ?_
      refine kx_iload_n 14 F 3 dJ7_fill_d0a16_13 rfl rfl rfl ?_
      refine kx_lload_n 15 F 1 dJ7_fill_d0a16_14 rfl rfl rfl ?_
      refine kx_last 16 F hk_c0 rfl rfl (by omega) (by decide) dJ7_fill_d0a16_15 rfl ?_
      intro N_37 hM_N_37
      have hI_N_37 : Inv false N_37 := Inv.u hI_N_30 hM_N_37 hk_c0 (a := (-9223372036854775808)) (b := 9223372036854775807) rfl rfl rfl (by omega)
      have hF_N_37 : Fr f_c_fill_scratch M N_37 := Fr.u hF_N_30 hM_N_37 hk_c0 rfl
      refine kx_iinc 19 F 3 (v := x3_29 + 1) (lo' := [some (vR G c0), some (vL a1), none, some (vI (x3_29 + 1)), some (vI 9)]) dJ7_fill_d0a16_16 rfl (by omega) (by decide) rfl rfl rfl ?_
      refine kx_goto 6 F dJ7_fill_d0a16_19 (by decide) ?_
      exact ih_33 _ (by omega) (x3_29 + 1) N_37 hI_N_37 hF_N_37 (by omega) rfl
  exact L_31 _ 0 M hI_M hF_M (by omega) rfl
abbrev f_c_fill_ends : List (Nat × Int) := [(61, -1)]
set_option maxHeartbeats 4000000 in
set_option maxRecDepth 100000 in
theorem c_fill_ends (G : KG) (l : Launch) (M : Mem) (c0 : Int) (a1 : Int) (hI_M : Inv false M) (hk_c0 : kd c0 = 61) (hpre : -9223372036854775808 ≤ a1 ∧ a1 ≤ 9223372036854775807) : KC false G l yJ7_fill_d0a16 cJ7_fill_d0a16 5 none (0, 0) [vR G c0, vL a1] M (fun A => kQv false G A (fun (N : Mem) => Inv false N ∧ Fr f_c_fill_ends M N)) := by
  refine kx_met (lo := [some (vR G c0), some (vL a1), none, none, none]) (by decide) (Nat.le_of_ble_eq_true rfl) rfl ?_
  intro X F hQ
  have hF_M : Fr f_c_fill_ends M M := Fr.rf _ _
  refine kx_iconst 1 F dJ7_fill_d0a16_0 rfl ?_
  refine kx_istore_n 2 F 3 (lo' := [some (vR G c0), some (vL a1), none, some (vI 0), none]) dJ7_fill_d0a16_1 rfl (by decide) rfl rfl rfl ?_
  refine kx_aload_n 3 F 0 dJ7_fill_d0a16_2 rfl rfl rfl ?_
  refine kx_alen 4 F hk_c0 rfl rfl (z := 3) (by decide) dJ7_fill_d0a16_3 rfl ?_
  refine kx_istore 6 F 4 (lo' := [some (vR G c0), some (vL a1), none, some (vI 0), some (vI 3)]) dJ7_fill_d0a16_4 (by decide) rfl rfl rfl ?_
  have L_19 : ∀ (n_20 : Nat) (x3_17 : Int) (N_18 : Mem), Inv false N_18 → Fr f_c_fill_ends M N_18 → 0 ≤ x3_17 ∧ x3_17 ≤ 3 → (3 - (x3_17)).toNat = n_20 → KJ false G X N_18 6 [some (vR G c0), some (vL a1), none, some (vI x3_17), some (vI 3)] [] := by
    intro n_20
    refine Nat.strongRecOn n_20 ?_
    intro n_20 ih_21 x3_17 N_18 hI_N_18 hF_N_18 h_22 hm_23
    refine kx_iload_n 7 F 3 dJ7_fill_d0a16_6 rfl rfl rfl ?_
    refine kx_iload 9 F 4 dJ7_fill_d0a16_7 rfl rfl ?_
    refine kx_icmp_ge 12 F 22 dJ7_fill_d0a16_9 (by decide) rfl (by omega) (by decide) (fun h_24 => ?_) (fun h_24 => ?_)
    · exact kx_vret F hQ ⟨hI_N_18, hF_N_18⟩ dJ7_fill_d0a16_22
    · refine kx_aload_n 13 F 0 dJ7_fill_d0a16_12 rfl rfl rfl ?_
      refine kx_iload_n 14 F 3 dJ7_fill_d0a16_13 rfl rfl rfl ?_
      refine kx_lload_n 15 F 1 dJ7_fill_d0a16_14 rfl rfl rfl ?_
      refine kx_last 16 F hk_c0 rfl rfl (by omega) (by decide) dJ7_fill_d0a16_15 rfl ?_
      intro N_25 hM_N_25
      have hI_N_25 : Inv false N_25 := Inv.u hI_N_18 hM_N_25 hk_c0 (a := (-9223372036854775808)) (b := 9223372036854775807) rfl rfl rfl (by omega)
      have hF_N_25 : Fr f_c_fill_ends M N_25 := Fr.u hF_N_18 hM_N_25 hk_c0 rfl
      refine kx_iinc 19 F 3 (v := x3_17 + 1) (lo' := [some (vR G c0), some (vL a1), none, some (vI (x3_17 + 1)), some (vI 3)]) dJ7_fill_d0a16_16 rfl (by omega) (by decide) rfl rfl rfl ?_
      refine kx_goto 6 F dJ7_fill_d0a16_19 (by decide) ?_
      exact ih_21 _ (by omega) (x3_17 + 1) N_25 hI_N_25 hF_N_25 (by omega) rfl
  exact L_19 _ 0 M hI_M hF_M (by omega) rfl
set_option maxRecDepth 100000 in
theorem dGR_10_c_33 : (decode cX0_renew 0 = .ok (.aload_n 0, 1)) ∧ (decode cX0_renew 1 = .ok (.getfield 24, 3)) ∧ (decode cX0_renew 4 = .ok (.iconst 0, 1)) ∧ (decode cX0_renew 5 = .ok (.invokestatic 56, 3)) ∧ (decode cX0_renew 8 = .ok (.aload_n 0, 1)) ∧ (decode cX0_renew 9 = .ok (.getfield 27, 3)) ∧ (decode cX0_renew 12 = .ok (.iconst 0, 1)) ∧ (decode cX0_renew 13 = .ok (.invokestatic 56, 3)) ∧ (decode cX0_renew 16 = .ok (.iconst 0, 1)) ∧ (decode cX0_renew 17 = .ok (.istore_n 1, 1)) ∧ (decode cX0_renew 18 = .ok (.iload_n 1, 1)) ∧ (decode cX0_renew 19 = .ok (.aload_n 0, 1)) := by decide +kernel
theorem dX0_renew_0 : decode cX0_renew 0 = .ok (.aload_n 0, 1) := dGR_10_c_33.1
theorem dX0_renew_1 : decode cX0_renew 1 = .ok (.getfield 24, 3) := dGR_10_c_33.2.1
theorem dX0_renew_4 : decode cX0_renew 4 = .ok (.iconst 0, 1) := dGR_10_c_33.2.2.1
theorem dX0_renew_5 : decode cX0_renew 5 = .ok (.invokestatic 56, 3) := dGR_10_c_33.2.2.2.1
theorem dX0_renew_8 : decode cX0_renew 8 = .ok (.aload_n 0, 1) := dGR_10_c_33.2.2.2.2.1
theorem dX0_renew_9 : decode cX0_renew 9 = .ok (.getfield 27, 3) := dGR_10_c_33.2.2.2.2.2.1
theorem dX0_renew_12 : decode cX0_renew 12 = .ok (.iconst 0, 1) := dGR_10_c_33.2.2.2.2.2.2.1
theorem dX0_renew_13 : decode cX0_renew 13 = .ok (.invokestatic 56, 3) := dGR_10_c_33.2.2.2.2.2.2.2.1
theorem dX0_renew_16 : decode cX0_renew 16 = .ok (.iconst 0, 1) := dGR_10_c_33.2.2.2.2.2.2.2.2.1
theorem dX0_renew_17 : decode cX0_renew 17 = .ok (.istore_n 1, 1) := dGR_10_c_33.2.2.2.2.2.2.2.2.2.1
theorem dX0_renew_18 : decode cX0_renew 18 = .ok (.iload_n 1, 1) := dGR_10_c_33.2.2.2.2.2.2.2.2.2.2.1
theorem dX0_renew_19 : decode cX0_renew 19 = .ok (.aload_n 0, 1) := dGR_10_c_33.2.2.2.2.2.2.2.2.2.2.2
set_option maxRecDepth 100000 in
theorem dGR_10_c_34 : (decode cX0_renew 20 = .ok (.getfield 46, 3)) ∧ (decode cX0_renew 23 = .ok (.if_icmp .ge 14, 3)) ∧ (decode cX0_renew 26 = .ok (.aload_n 0, 1)) ∧ (decode cX0_renew 27 = .ok (.iload_n 1, 1)) ∧ (decode cX0_renew 28 = .ok (.invokevirtual 68, 3)) ∧ (decode cX0_renew 31 = .ok (.iinc 1 1, 3)) ∧ (decode cX0_renew 34 = .ok (.goto (-16), 3)) ∧ (decode cX0_renew 37 = .ok (.return_, 1)) := by decide +kernel
theorem dX0_renew_20 : decode cX0_renew 20 = .ok (.getfield 46, 3) := dGR_10_c_34.1
theorem dX0_renew_23 : decode cX0_renew 23 = .ok (.if_icmp .ge 14, 3) := dGR_10_c_34.2.1
theorem dX0_renew_26 : decode cX0_renew 26 = .ok (.aload_n 0, 1) := dGR_10_c_34.2.2.1
theorem dX0_renew_27 : decode cX0_renew 27 = .ok (.iload_n 1, 1) := dGR_10_c_34.2.2.2.1
theorem dX0_renew_28 : decode cX0_renew 28 = .ok (.invokevirtual 68, 3) := dGR_10_c_34.2.2.2.2.1
theorem dX0_renew_31 : decode cX0_renew 31 = .ok (.iinc 1 1, 3) := dGR_10_c_34.2.2.2.2.2.1
theorem dX0_renew_34 : decode cX0_renew 34 = .ok (.goto (-16), 3) := dGR_10_c_34.2.2.2.2.2.2.1
theorem dX0_renew_37 : decode cX0_renew 37 = .ok (.return_, 1) := dGR_10_c_34.2.2.2.2.2.2.2
set_option maxRecDepth 100000 in
theorem dGR_10_c_35 : (decode cX0_remove 0 = .ok (.iload_n 1, 1)) ∧ (decode cX0_remove 1 = .ok (.istore_n 2, 1)) ∧ (decode cX0_remove 2 = .ok (.iload_n 2, 1)) ∧ (decode cX0_remove 3 = .ok (.iconst 1, 1)) ∧ (decode cX0_remove 4 = .ok (.iadd, 1)) ∧ (decode cX0_remove 5 = .ok (.aload_n 0, 1)) ∧ (decode cX0_remove 6 = .ok (.getfield 46, 3)) ∧ (decode cX0_remove 9 = .ok (.if_icmp .ge 65, 3)) ∧ (decode cX0_remove 12 = .ok (.aload_n 0, 1)) ∧ (decode cX0_remove 13 = .ok (.getfield 9, 3)) ∧ (decode cX0_remove 16 = .ok (.iload_n 2, 1)) ∧ (decode cX0_remove 17 = .ok (.aload_n 0, 1)) := by decide +kernel
theorem dX0_remove_0 : decode cX0_remove 0 = .ok (.iload_n 1, 1) := dGR_10_c_35.1
theorem dX0_remove_1 : decode cX0_remove 1 = .ok (.istore_n 2, 1) := dGR_10_c_35.2.1
theorem dX0_remove_2 : decode cX0_remove 2 = .ok (.iload_n 2, 1) := dGR_10_c_35.2.2.1
theorem dX0_remove_3 : decode cX0_remove 3 = .ok (.iconst 1, 1) := dGR_10_c_35.2.2.2.1
theorem dX0_remove_4 : decode cX0_remove 4 = .ok (.iadd, 1) := dGR_10_c_35.2.2.2.2.1
theorem dX0_remove_5 : decode cX0_remove 5 = .ok (.aload_n 0, 1) := dGR_10_c_35.2.2.2.2.2.1
theorem dX0_remove_6 : decode cX0_remove 6 = .ok (.getfield 46, 3) := dGR_10_c_35.2.2.2.2.2.2.1
theorem dX0_remove_9 : decode cX0_remove 9 = .ok (.if_icmp .ge 65, 3) := dGR_10_c_35.2.2.2.2.2.2.2.1
theorem dX0_remove_12 : decode cX0_remove 12 = .ok (.aload_n 0, 1) := dGR_10_c_35.2.2.2.2.2.2.2.2.1
theorem dX0_remove_13 : decode cX0_remove 13 = .ok (.getfield 9, 3) := dGR_10_c_35.2.2.2.2.2.2.2.2.2.1
theorem dX0_remove_16 : decode cX0_remove 16 = .ok (.iload_n 2, 1) := dGR_10_c_35.2.2.2.2.2.2.2.2.2.2.1
theorem dX0_remove_17 : decode cX0_remove 17 = .ok (.aload_n 0, 1) := dGR_10_c_35.2.2.2.2.2.2.2.2.2.2.2
set_option maxRecDepth 100000 in
theorem dGR_10_c_36 : (decode cX0_remove 18 = .ok (.getfield 9, 3)) ∧ (decode cX0_remove 21 = .ok (.iload_n 2, 1)) ∧ (decode cX0_remove 22 = .ok (.iconst 1, 1)) ∧ (decode cX0_remove 23 = .ok (.iadd, 1)) ∧ (decode cX0_remove 24 = .ok (.iaload, 1)) ∧ (decode cX0_remove 25 = .ok (.iastore, 1)) ∧ (decode cX0_remove 26 = .ok (.aload_n 0, 1)) ∧ (decode cX0_remove 27 = .ok (.getfield 15, 3)) ∧ (decode cX0_remove 30 = .ok (.iload_n 2, 1)) ∧ (decode cX0_remove 31 = .ok (.aload_n 0, 1)) ∧ (decode cX0_remove 32 = .ok (.getfield 15, 3)) ∧ (decode cX0_remove 35 = .ok (.iload_n 2, 1)) := by decide +kernel
theorem dX0_remove_18 : decode cX0_remove 18 = .ok (.getfield 9, 3) := dGR_10_c_36.1
theorem dX0_remove_21 : decode cX0_remove 21 = .ok (.iload_n 2, 1) := dGR_10_c_36.2.1
theorem dX0_remove_22 : decode cX0_remove 22 = .ok (.iconst 1, 1) := dGR_10_c_36.2.2.1
theorem dX0_remove_23 : decode cX0_remove 23 = .ok (.iadd, 1) := dGR_10_c_36.2.2.2.1
theorem dX0_remove_24 : decode cX0_remove 24 = .ok (.iaload, 1) := dGR_10_c_36.2.2.2.2.1
theorem dX0_remove_25 : decode cX0_remove 25 = .ok (.iastore, 1) := dGR_10_c_36.2.2.2.2.2.1
theorem dX0_remove_26 : decode cX0_remove 26 = .ok (.aload_n 0, 1) := dGR_10_c_36.2.2.2.2.2.2.1
theorem dX0_remove_27 : decode cX0_remove 27 = .ok (.getfield 15, 3) := dGR_10_c_36.2.2.2.2.2.2.2.1
theorem dX0_remove_30 : decode cX0_remove 30 = .ok (.iload_n 2, 1) := dGR_10_c_36.2.2.2.2.2.2.2.2.1
theorem dX0_remove_31 : decode cX0_remove 31 = .ok (.aload_n 0, 1) := dGR_10_c_36.2.2.2.2.2.2.2.2.2.1
theorem dX0_remove_32 : decode cX0_remove 32 = .ok (.getfield 15, 3) := dGR_10_c_36.2.2.2.2.2.2.2.2.2.2.1
theorem dX0_remove_35 : decode cX0_remove 35 = .ok (.iload_n 2, 1) := dGR_10_c_36.2.2.2.2.2.2.2.2.2.2.2
set_option maxRecDepth 100000 in
theorem dGR_10_c_37 : (decode cX0_remove 36 = .ok (.iconst 1, 1)) ∧ (decode cX0_remove 37 = .ok (.iadd, 1)) ∧ (decode cX0_remove 38 = .ok (.iaload, 1)) ∧ (decode cX0_remove 39 = .ok (.iastore, 1)) ∧ (decode cX0_remove 40 = .ok (.aload_n 0, 1)) ∧ (decode cX0_remove 41 = .ok (.getfield 18, 3)) ∧ (decode cX0_remove 44 = .ok (.iload_n 2, 1)) ∧ (decode cX0_remove 45 = .ok (.aload_n 0, 1)) ∧ (decode cX0_remove 46 = .ok (.getfield 18, 3)) ∧ (decode cX0_remove 49 = .ok (.iload_n 2, 1)) ∧ (decode cX0_remove 50 = .ok (.iconst 1, 1)) ∧ (decode cX0_remove 51 = .ok (.iadd, 1)) := by decide +kernel
theorem dX0_remove_36 : decode cX0_remove 36 = .ok (.iconst 1, 1) := dGR_10_c_37.1
theorem dX0_remove_37 : decode cX0_remove 37 = .ok (.iadd, 1) := dGR_10_c_37.2.1
theorem dX0_remove_38 : decode cX0_remove 38 = .ok (.iaload, 1) := dGR_10_c_37.2.2.1
theorem dX0_remove_39 : decode cX0_remove 39 = .ok (.iastore, 1) := dGR_10_c_37.2.2.2.1
theorem dX0_remove_40 : decode cX0_remove 40 = .ok (.aload_n 0, 1) := dGR_10_c_37.2.2.2.2.1
theorem dX0_remove_41 : decode cX0_remove 41 = .ok (.getfield 18, 3) := dGR_10_c_37.2.2.2.2.2.1
theorem dX0_remove_44 : decode cX0_remove 44 = .ok (.iload_n 2, 1) := dGR_10_c_37.2.2.2.2.2.2.1
theorem dX0_remove_45 : decode cX0_remove 45 = .ok (.aload_n 0, 1) := dGR_10_c_37.2.2.2.2.2.2.2.1
theorem dX0_remove_46 : decode cX0_remove 46 = .ok (.getfield 18, 3) := dGR_10_c_37.2.2.2.2.2.2.2.2.1
theorem dX0_remove_49 : decode cX0_remove 49 = .ok (.iload_n 2, 1) := dGR_10_c_37.2.2.2.2.2.2.2.2.2.1
theorem dX0_remove_50 : decode cX0_remove 50 = .ok (.iconst 1, 1) := dGR_10_c_37.2.2.2.2.2.2.2.2.2.2.1
theorem dX0_remove_51 : decode cX0_remove 51 = .ok (.iadd, 1) := dGR_10_c_37.2.2.2.2.2.2.2.2.2.2.2
set_option maxRecDepth 100000 in
theorem dGR_10_c_38 : (decode cX0_remove 52 = .ok (.iaload, 1)) ∧ (decode cX0_remove 53 = .ok (.iastore, 1)) ∧ (decode cX0_remove 54 = .ok (.aload_n 0, 1)) ∧ (decode cX0_remove 55 = .ok (.getfield 21, 3)) ∧ (decode cX0_remove 58 = .ok (.iload_n 2, 1)) ∧ (decode cX0_remove 59 = .ok (.aload_n 0, 1)) ∧ (decode cX0_remove 60 = .ok (.getfield 21, 3)) ∧ (decode cX0_remove 63 = .ok (.iload_n 2, 1)) ∧ (decode cX0_remove 64 = .ok (.iconst 1, 1)) ∧ (decode cX0_remove 65 = .ok (.iadd, 1)) ∧ (decode cX0_remove 66 = .ok (.iaload, 1)) ∧ (decode cX0_remove 67 = .ok (.iastore, 1)) := by decide +kernel
theorem dX0_remove_52 : decode cX0_remove 52 = .ok (.iaload, 1) := dGR_10_c_38.1
theorem dX0_remove_53 : decode cX0_remove 53 = .ok (.iastore, 1) := dGR_10_c_38.2.1
theorem dX0_remove_54 : decode cX0_remove 54 = .ok (.aload_n 0, 1) := dGR_10_c_38.2.2.1
theorem dX0_remove_55 : decode cX0_remove 55 = .ok (.getfield 21, 3) := dGR_10_c_38.2.2.2.1
theorem dX0_remove_58 : decode cX0_remove 58 = .ok (.iload_n 2, 1) := dGR_10_c_38.2.2.2.2.1
theorem dX0_remove_59 : decode cX0_remove 59 = .ok (.aload_n 0, 1) := dGR_10_c_38.2.2.2.2.2.1
theorem dX0_remove_60 : decode cX0_remove 60 = .ok (.getfield 21, 3) := dGR_10_c_38.2.2.2.2.2.2.1
theorem dX0_remove_63 : decode cX0_remove 63 = .ok (.iload_n 2, 1) := dGR_10_c_38.2.2.2.2.2.2.2.1
theorem dX0_remove_64 : decode cX0_remove 64 = .ok (.iconst 1, 1) := dGR_10_c_38.2.2.2.2.2.2.2.2.1
theorem dX0_remove_65 : decode cX0_remove 65 = .ok (.iadd, 1) := dGR_10_c_38.2.2.2.2.2.2.2.2.2.1
theorem dX0_remove_66 : decode cX0_remove 66 = .ok (.iaload, 1) := dGR_10_c_38.2.2.2.2.2.2.2.2.2.2.1
theorem dX0_remove_67 : decode cX0_remove 67 = .ok (.iastore, 1) := dGR_10_c_38.2.2.2.2.2.2.2.2.2.2.2
set_option maxRecDepth 100000 in
theorem dGR_10_c_39 : (decode cX0_remove 68 = .ok (.iinc 2 1, 3)) ∧ (decode cX0_remove 71 = .ok (.goto (-69), 3)) ∧ (decode cX0_remove 74 = .ok (.aload_n 0, 1)) ∧ (decode cX0_remove 75 = .ok (.dup, 1)) ∧ (decode cX0_remove 76 = .ok (.getfield 46, 3)) ∧ (decode cX0_remove 79 = .ok (.iconst 1, 1)) ∧ (decode cX0_remove 80 = .ok (.isub, 1)) ∧ (decode cX0_remove 81 = .ok (.putfield 46, 3)) ∧ (decode cX0_remove 84 = .ok (.aload_n 0, 1)) ∧ (decode cX0_remove 85 = .ok (.invokevirtual 49, 3)) ∧ (decode cX0_remove 88 = .ok (.return_, 1)) := by decide +kernel
theorem dX0_remove_68 : decode cX0_remove 68 = .ok (.iinc 2 1, 3) := dGR_10_c_39.1
theorem dX0_remove_71 : decode cX0_remove 71 = .ok (.goto (-69), 3) := dGR_10_c_39.2.1
theorem dX0_remove_74 : decode cX0_remove 74 = .ok (.aload_n 0, 1) := dGR_10_c_39.2.2.1
theorem dX0_remove_75 : decode cX0_remove 75 = .ok (.dup, 1) := dGR_10_c_39.2.2.2.1
theorem dX0_remove_76 : decode cX0_remove 76 = .ok (.getfield 46, 3) := dGR_10_c_39.2.2.2.2.1
theorem dX0_remove_79 : decode cX0_remove 79 = .ok (.iconst 1, 1) := dGR_10_c_39.2.2.2.2.2.1
theorem dX0_remove_80 : decode cX0_remove 80 = .ok (.isub, 1) := dGR_10_c_39.2.2.2.2.2.2.1
theorem dX0_remove_81 : decode cX0_remove 81 = .ok (.putfield 46, 3) := dGR_10_c_39.2.2.2.2.2.2.2.1
theorem dX0_remove_84 : decode cX0_remove 84 = .ok (.aload_n 0, 1) := dGR_10_c_39.2.2.2.2.2.2.2.2.1
theorem dX0_remove_85 : decode cX0_remove 85 = .ok (.invokevirtual 49, 3) := dGR_10_c_39.2.2.2.2.2.2.2.2.2.1
theorem dX0_remove_88 : decode cX0_remove 88 = .ok (.return_, 1) := dGR_10_c_39.2.2.2.2.2.2.2.2.2.2
set_option maxRecDepth 100000 in
theorem dGR_10_c_40 : (decode cX0_clear 0 = .ok (.aload_n 0, 1)) ∧ (decode cX0_clear 1 = .ok (.iload_n 1, 1)) ∧ (decode cX0_clear 2 = .ok (.putfield 30, 3)) ∧ (decode cX0_clear 5 = .ok (.aload_n 0, 1)) ∧ (decode cX0_clear 6 = .ok (.iload_n 2, 1)) ∧ (decode cX0_clear 7 = .ok (.putfield 34, 3)) ∧ (decode cX0_clear 10 = .ok (.aload_n 0, 1)) ∧ (decode cX0_clear 11 = .ok (.iload_n 3, 1)) ∧ (decode cX0_clear 12 = .ok (.putfield 37, 3)) ∧ (decode cX0_clear 15 = .ok (.aload_n 0, 1)) ∧ (decode cX0_clear 16 = .ok (.iconst 0, 1)) ∧ (decode cX0_clear 17 = .ok (.putfield 40, 3)) := by decide +kernel
theorem dX0_clear_0 : decode cX0_clear 0 = .ok (.aload_n 0, 1) := dGR_10_c_40.1
theorem dX0_clear_1 : decode cX0_clear 1 = .ok (.iload_n 1, 1) := dGR_10_c_40.2.1
theorem dX0_clear_2 : decode cX0_clear 2 = .ok (.putfield 30, 3) := dGR_10_c_40.2.2.1
theorem dX0_clear_5 : decode cX0_clear 5 = .ok (.aload_n 0, 1) := dGR_10_c_40.2.2.2.1
theorem dX0_clear_6 : decode cX0_clear 6 = .ok (.iload_n 2, 1) := dGR_10_c_40.2.2.2.2.1
theorem dX0_clear_7 : decode cX0_clear 7 = .ok (.putfield 34, 3) := dGR_10_c_40.2.2.2.2.2.1
theorem dX0_clear_10 : decode cX0_clear 10 = .ok (.aload_n 0, 1) := dGR_10_c_40.2.2.2.2.2.2.1
theorem dX0_clear_11 : decode cX0_clear 11 = .ok (.iload_n 3, 1) := dGR_10_c_40.2.2.2.2.2.2.2.1
theorem dX0_clear_12 : decode cX0_clear 12 = .ok (.putfield 37, 3) := dGR_10_c_40.2.2.2.2.2.2.2.2.1
theorem dX0_clear_15 : decode cX0_clear 15 = .ok (.aload_n 0, 1) := dGR_10_c_40.2.2.2.2.2.2.2.2.2.1
theorem dX0_clear_16 : decode cX0_clear 16 = .ok (.iconst 0, 1) := dGR_10_c_40.2.2.2.2.2.2.2.2.2.2.1
theorem dX0_clear_17 : decode cX0_clear 17 = .ok (.putfield 40, 3) := dGR_10_c_40.2.2.2.2.2.2.2.2.2.2.2
set_option maxRecDepth 100000 in
theorem dGR_10_c_41 : (decode cX0_clear 20 = .ok (.aload_n 0, 1)) ∧ (decode cX0_clear 21 = .ok (.iconst 0, 1)) ∧ (decode cX0_clear 22 = .ok (.putfield 43, 3)) ∧ (decode cX0_clear 25 = .ok (.aload_n 0, 1)) ∧ (decode cX0_clear 26 = .ok (.iconst 0, 1)) ∧ (decode cX0_clear 27 = .ok (.putfield 46, 3)) ∧ (decode cX0_clear 30 = .ok (.aload_n 0, 1)) ∧ (decode cX0_clear 31 = .ok (.invokevirtual 49, 3)) ∧ (decode cX0_clear 34 = .ok (.return_, 1)) := by decide +kernel
theorem dX0_clear_20 : decode cX0_clear 20 = .ok (.aload_n 0, 1) := dGR_10_c_41.1
theorem dX0_clear_21 : decode cX0_clear 21 = .ok (.iconst 0, 1) := dGR_10_c_41.2.1
theorem dX0_clear_22 : decode cX0_clear 22 = .ok (.putfield 43, 3) := dGR_10_c_41.2.2.1
theorem dX0_clear_25 : decode cX0_clear 25 = .ok (.aload_n 0, 1) := dGR_10_c_41.2.2.2.1
theorem dX0_clear_26 : decode cX0_clear 26 = .ok (.iconst 0, 1) := dGR_10_c_41.2.2.2.2.1
theorem dX0_clear_27 : decode cX0_clear 27 = .ok (.putfield 46, 3) := dGR_10_c_41.2.2.2.2.2.1
theorem dX0_clear_30 : decode cX0_clear 30 = .ok (.aload_n 0, 1) := dGR_10_c_41.2.2.2.2.2.2.1
theorem dX0_clear_31 : decode cX0_clear 31 = .ok (.invokevirtual 49, 3) := dGR_10_c_41.2.2.2.2.2.2.2.1
theorem dX0_clear_34 : decode cX0_clear 34 = .ok (.return_, 1) := dGR_10_c_41.2.2.2.2.2.2.2.2
set_option maxRecDepth 100000 in
theorem dGR_10_c_42 : (decode cX0_takeAll 0 = .ok (.aload_n 0, 1)) ∧ (decode cX0_takeAll 1 = .ok (.iconst 0, 1)) ∧ (decode cX0_takeAll 2 = .ok (.iconst 1, 1)) ∧ (decode cX0_takeAll 3 = .ok (.iconst 1, 1)) ∧ (decode cX0_takeAll 4 = .ok (.invokevirtual 52, 3)) ∧ (decode cX0_takeAll 7 = .ok (.aload_n 0, 1)) ∧ (decode cX0_takeAll 8 = .ok (.iconst 1, 1)) ∧ (decode cX0_takeAll 9 = .ok (.putfield 40, 3)) ∧ (decode cX0_takeAll 12 = .ok (.aload_n 0, 1)) ∧ (decode cX0_takeAll 13 = .ok (.iconst 1, 1)) ∧ (decode cX0_takeAll 14 = .ok (.putfield 43, 3)) ∧ (decode cX0_takeAll 17 = .ok (.aload_n 0, 1)) := by decide +kernel
theorem dX0_takeAll_0 : decode cX0_takeAll 0 = .ok (.aload_n 0, 1) := dGR_10_c_42.1
theorem dX0_takeAll_1 : decode cX0_takeAll 1 = .ok (.iconst 0, 1) := dGR_10_c_42.2.1
theorem dX0_takeAll_2 : decode cX0_takeAll 2 = .ok (.iconst 1, 1) := dGR_10_c_42.2.2.1
theorem dX0_takeAll_3 : decode cX0_takeAll 3 = .ok (.iconst 1, 1) := dGR_10_c_42.2.2.2.1
theorem dX0_takeAll_4 : decode cX0_takeAll 4 = .ok (.invokevirtual 52, 3) := dGR_10_c_42.2.2.2.2.1
theorem dX0_takeAll_7 : decode cX0_takeAll 7 = .ok (.aload_n 0, 1) := dGR_10_c_42.2.2.2.2.2.1
theorem dX0_takeAll_8 : decode cX0_takeAll 8 = .ok (.iconst 1, 1) := dGR_10_c_42.2.2.2.2.2.2.1
theorem dX0_takeAll_9 : decode cX0_takeAll 9 = .ok (.putfield 40, 3) := dGR_10_c_42.2.2.2.2.2.2.2.1
theorem dX0_takeAll_12 : decode cX0_takeAll 12 = .ok (.aload_n 0, 1) := dGR_10_c_42.2.2.2.2.2.2.2.2.1
theorem dX0_takeAll_13 : decode cX0_takeAll 13 = .ok (.iconst 1, 1) := dGR_10_c_42.2.2.2.2.2.2.2.2.2.1
theorem dX0_takeAll_14 : decode cX0_takeAll 14 = .ok (.putfield 43, 3) := dGR_10_c_42.2.2.2.2.2.2.2.2.2.2.1
theorem dX0_takeAll_17 : decode cX0_takeAll 17 = .ok (.aload_n 0, 1) := dGR_10_c_42.2.2.2.2.2.2.2.2.2.2.2
set_option maxRecDepth 100000 in
theorem dGR_10_c_43 : (decode cX0_takeAll 18 = .ok (.getfield 24, 3)) ∧ (decode cX0_takeAll 21 = .ok (.iconst 1, 1)) ∧ (decode cX0_takeAll 22 = .ok (.invokestatic 56, 3)) ∧ (decode cX0_takeAll 25 = .ok (.iconst 0, 1)) ∧ (decode cX0_takeAll 26 = .ok (.istore_n 1, 1)) ∧ (decode cX0_takeAll 27 = .ok (.iload_n 1, 1)) ∧ (decode cX0_takeAll 28 = .ok (.bipush 6, 2)) ∧ (decode cX0_takeAll 30 = .ok (.if_icmp .ge 18, 3)) ∧ (decode cX0_takeAll 33 = .ok (.aload_n 0, 1)) ∧ (decode cX0_takeAll 34 = .ok (.getfield 27, 3)) ∧ (decode cX0_takeAll 37 = .ok (.iload_n 1, 1)) ∧ (decode cX0_takeAll 38 = .ok (.iconst 3, 1)) := by decide +kernel
theorem dX0_takeAll_18 : decode cX0_takeAll 18 = .ok (.getfield 24, 3) := dGR_10_c_43.1
theorem dX0_takeAll_21 : decode cX0_takeAll 21 = .ok (.iconst 1, 1) := dGR_10_c_43.2.1
theorem dX0_takeAll_22 : decode cX0_takeAll 22 = .ok (.invokestatic 56, 3) := dGR_10_c_43.2.2.1
theorem dX0_takeAll_25 : decode cX0_takeAll 25 = .ok (.iconst 0, 1) := dGR_10_c_43.2.2.2.1
theorem dX0_takeAll_26 : decode cX0_takeAll 26 = .ok (.istore_n 1, 1) := dGR_10_c_43.2.2.2.2.1
theorem dX0_takeAll_27 : decode cX0_takeAll 27 = .ok (.iload_n 1, 1) := dGR_10_c_43.2.2.2.2.2.1
theorem dX0_takeAll_28 : decode cX0_takeAll 28 = .ok (.bipush 6, 2) := dGR_10_c_43.2.2.2.2.2.2.1
theorem dX0_takeAll_30 : decode cX0_takeAll 30 = .ok (.if_icmp .ge 18, 3) := dGR_10_c_43.2.2.2.2.2.2.2.1
theorem dX0_takeAll_33 : decode cX0_takeAll 33 = .ok (.aload_n 0, 1) := dGR_10_c_43.2.2.2.2.2.2.2.2.1
theorem dX0_takeAll_34 : decode cX0_takeAll 34 = .ok (.getfield 27, 3) := dGR_10_c_43.2.2.2.2.2.2.2.2.2.1
theorem dX0_takeAll_37 : decode cX0_takeAll 37 = .ok (.iload_n 1, 1) := dGR_10_c_43.2.2.2.2.2.2.2.2.2.2.1
theorem dX0_takeAll_38 : decode cX0_takeAll 38 = .ok (.iconst 3, 1) := dGR_10_c_43.2.2.2.2.2.2.2.2.2.2.2
set_option maxRecDepth 100000 in
theorem dGR_10_c_44 : (decode cX0_takeAll 39 = .ok (.imul, 1)) ∧ (decode cX0_takeAll 40 = .ok (.iconst 1, 1)) ∧ (decode cX0_takeAll 41 = .ok (.iastore, 1)) ∧ (decode cX0_takeAll 42 = .ok (.iinc 1 1, 3)) ∧ (decode cX0_takeAll 45 = .ok (.goto (-18), 3)) ∧ (decode cX0_takeAll 48 = .ok (.return_, 1)) := by decide +kernel
theorem dX0_takeAll_39 : decode cX0_takeAll 39 = .ok (.imul, 1) := dGR_10_c_44.1
theorem dX0_takeAll_40 : decode cX0_takeAll 40 = .ok (.iconst 1, 1) := dGR_10_c_44.2.1
theorem dX0_takeAll_41 : decode cX0_takeAll 41 = .ok (.iastore, 1) := dGR_10_c_44.2.2.1
theorem dX0_takeAll_42 : decode cX0_takeAll 42 = .ok (.iinc 1 1, 3) := dGR_10_c_44.2.2.2.1
theorem dX0_takeAll_45 : decode cX0_takeAll 45 = .ok (.goto (-18), 3) := dGR_10_c_44.2.2.2.2.1
theorem dX0_takeAll_48 : decode cX0_takeAll 48 = .ok (.return_, 1) := dGR_10_c_44.2.2.2.2.2
set_option maxRecDepth 100000 in
theorem dGR_10_c_45 : (decode cX0_over 0 = .ok (.iconst 0, 1)) ∧ (decode cX0_over 1 = .ok (.istore 4, 2)) ∧ (decode cX0_over 3 = .ok (.iconst 0, 1)) ∧ (decode cX0_over 4 = .ok (.istore 5, 2)) ∧ (decode cX0_over 6 = .ok (.iload 5, 2)) ∧ (decode cX0_over 8 = .ok (.iconst 3, 1)) ∧ (decode cX0_over 9 = .ok (.if_icmp .ge 61, 3)) ∧ (decode cX0_over 12 = .ok (.aload_n 0, 1)) ∧ (decode cX0_over 13 = .ok (.getfield 27, 3)) ∧ (decode cX0_over 16 = .ok (.iload_n 1, 1)) ∧ (decode cX0_over 17 = .ok (.iconst 3, 1)) ∧ (decode cX0_over 18 = .ok (.imul, 1)) := by decide +kernel
theorem dX0_over_0 : decode cX0_over 0 = .ok (.iconst 0, 1) := dGR_10_c_45.1
theorem dX0_over_1 : decode cX0_over 1 = .ok (.istore 4, 2) := dGR_10_c_45.2.1
theorem dX0_over_3 : decode cX0_over 3 = .ok (.iconst 0, 1) := dGR_10_c_45.2.2.1
theorem dX0_over_4 : decode cX0_over 4 = .ok (.istore 5, 2) := dGR_10_c_45.2.2.2.1
theorem dX0_over_6 : decode cX0_over 6 = .ok (.iload 5, 2) := dGR_10_c_45.2.2.2.2.1
theorem dX0_over_8 : decode cX0_over 8 = .ok (.iconst 3, 1) := dGR_10_c_45.2.2.2.2.2.1
theorem dX0_over_9 : decode cX0_over 9 = .ok (.if_icmp .ge 61, 3) := dGR_10_c_45.2.2.2.2.2.2.1
theorem dX0_over_12 : decode cX0_over 12 = .ok (.aload_n 0, 1) := dGR_10_c_45.2.2.2.2.2.2.2.1
theorem dX0_over_13 : decode cX0_over 13 = .ok (.getfield 27, 3) := dGR_10_c_45.2.2.2.2.2.2.2.2.1
theorem dX0_over_16 : decode cX0_over 16 = .ok (.iload_n 1, 1) := dGR_10_c_45.2.2.2.2.2.2.2.2.2.1
theorem dX0_over_17 : decode cX0_over 17 = .ok (.iconst 3, 1) := dGR_10_c_45.2.2.2.2.2.2.2.2.2.2.1
theorem dX0_over_18 : decode cX0_over 18 = .ok (.imul, 1) := dGR_10_c_45.2.2.2.2.2.2.2.2.2.2.2
set_option maxRecDepth 100000 in
theorem dGR_10_c_46 : (decode cX0_over 19 = .ok (.iload 5, 2)) ∧ (decode cX0_over 21 = .ok (.iadd, 1)) ∧ (decode cX0_over 22 = .ok (.iaload, 1)) ∧ (decode cX0_over 23 = .ok (.istore 6, 2)) ∧ (decode cX0_over 25 = .ok (.aload_n 0, 1)) ∧ (decode cX0_over 26 = .ok (.getfield 27, 3)) ∧ (decode cX0_over 29 = .ok (.iload_n 2, 1)) ∧ (decode cX0_over 30 = .ok (.iconst 3, 1)) ∧ (decode cX0_over 31 = .ok (.imul, 1)) ∧ (decode cX0_over 32 = .ok (.iload 5, 2)) ∧ (decode cX0_over 34 = .ok (.iadd, 1)) ∧ (decode cX0_over 35 = .ok (.iaload, 1)) := by decide +kernel
theorem dX0_over_19 : decode cX0_over 19 = .ok (.iload 5, 2) := dGR_10_c_46.1
theorem dX0_over_21 : decode cX0_over 21 = .ok (.iadd, 1) := dGR_10_c_46.2.1
theorem dX0_over_22 : decode cX0_over 22 = .ok (.iaload, 1) := dGR_10_c_46.2.2.1
theorem dX0_over_23 : decode cX0_over 23 = .ok (.istore 6, 2) := dGR_10_c_46.2.2.2.1
theorem dX0_over_25 : decode cX0_over 25 = .ok (.aload_n 0, 1) := dGR_10_c_46.2.2.2.2.1
theorem dX0_over_26 : decode cX0_over 26 = .ok (.getfield 27, 3) := dGR_10_c_46.2.2.2.2.2.1
theorem dX0_over_29 : decode cX0_over 29 = .ok (.iload_n 2, 1) := dGR_10_c_46.2.2.2.2.2.2.1
theorem dX0_over_30 : decode cX0_over 30 = .ok (.iconst 3, 1) := dGR_10_c_46.2.2.2.2.2.2.2.1
theorem dX0_over_31 : decode cX0_over 31 = .ok (.imul, 1) := dGR_10_c_46.2.2.2.2.2.2.2.2.1
theorem dX0_over_32 : decode cX0_over 32 = .ok (.iload 5, 2) := dGR_10_c_46.2.2.2.2.2.2.2.2.2.1
theorem dX0_over_34 : decode cX0_over 34 = .ok (.iadd, 1) := dGR_10_c_46.2.2.2.2.2.2.2.2.2.2.1
theorem dX0_over_35 : decode cX0_over 35 = .ok (.iaload, 1) := dGR_10_c_46.2.2.2.2.2.2.2.2.2.2.2
set_option maxRecDepth 100000 in
theorem dGR_10_c_47 : (decode cX0_over 36 = .ok (.istore 7, 2)) ∧ (decode cX0_over 38 = .ok (.iload 6, 2)) ∧ (decode cX0_over 40 = .ok (.ifCond .eq 24, 3)) ∧ (decode cX0_over 43 = .ok (.iload 7, 2)) ∧ (decode cX0_over 45 = .ok (.ifCond .eq 19, 3)) ∧ (decode cX0_over 48 = .ok (.iload 4, 2)) ∧ (decode cX0_over 50 = .ok (.iload 6, 2)) ∧ (decode cX0_over 52 = .ok (.iload_n 3, 1)) ∧ (decode cX0_over 53 = .ok (.invokestatic 78, 3)) ∧ (decode cX0_over 56 = .ok (.iload 7, 2)) ∧ (decode cX0_over 58 = .ok (.invokestatic 78, 3)) ∧ (decode cX0_over 61 = .ok (.ior, 1)) := by decide +kernel
theorem dX0_over_36 : decode cX0_over 36 = .ok (.istore 7, 2) := dGR_10_c_47.1
theorem dX0_over_38 : decode cX0_over 38 = .ok (.iload 6, 2) := dGR_10_c_47.2.1
theorem dX0_over_40 : decode cX0_over 40 = .ok (.ifCond .eq 24, 3) := dGR_10_c_47.2.2.1
theorem dX0_over_43 : decode cX0_over 43 = .ok (.iload 7, 2) := dGR_10_c_47.2.2.2.1
theorem dX0_over_45 : decode cX0_over 45 = .ok (.ifCond .eq 19, 3) := dGR_10_c_47.2.2.2.2.1
theorem dX0_over_48 : decode cX0_over 48 = .ok (.iload 4, 2) := dGR_10_c_47.2.2.2.2.2.1
theorem dX0_over_50 : decode cX0_over 50 = .ok (.iload 6, 2) := dGR_10_c_47.2.2.2.2.2.2.1
theorem dX0_over_52 : decode cX0_over 52 = .ok (.iload_n 3, 1) := dGR_10_c_47.2.2.2.2.2.2.2.1
theorem dX0_over_53 : decode cX0_over 53 = .ok (.invokestatic 78, 3) := dGR_10_c_47.2.2.2.2.2.2.2.2.1
theorem dX0_over_56 : decode cX0_over 56 = .ok (.iload 7, 2) := dGR_10_c_47.2.2.2.2.2.2.2.2.2.1
theorem dX0_over_58 : decode cX0_over 58 = .ok (.invokestatic 78, 3) := dGR_10_c_47.2.2.2.2.2.2.2.2.2.2.1
theorem dX0_over_61 : decode cX0_over 61 = .ok (.ior, 1) := dGR_10_c_47.2.2.2.2.2.2.2.2.2.2.2
set_option maxRecDepth 100000 in
theorem dGR_10_c_48 : (decode cX0_over 62 = .ok (.istore 4, 2)) ∧ (decode cX0_over 64 = .ok (.iinc 5 1, 3)) ∧ (decode cX0_over 67 = .ok (.goto (-61), 3)) ∧ (decode cX0_over 70 = .ok (.iload 4, 2)) ∧ (decode cX0_over 72 = .ok (.ireturn, 1)) := by decide +kernel
theorem dX0_over_62 : decode cX0_over 62 = .ok (.istore 4, 2) := dGR_10_c_48.1
theorem dX0_over_64 : decode cX0_over 64 = .ok (.iinc 5 1, 3) := dGR_10_c_48.2.1
theorem dX0_over_67 : decode cX0_over 67 = .ok (.goto (-61), 3) := dGR_10_c_48.2.2.1
theorem dX0_over_70 : decode cX0_over 70 = .ok (.iload 4, 2) := dGR_10_c_48.2.2.2.1
theorem dX0_over_72 : decode cX0_over 72 = .ok (.ireturn, 1) := dGR_10_c_48.2.2.2.2
set_option maxHeartbeats 4000000 in
set_option maxRecDepth 100000 in
theorem c_X0_over (G : KG) (l : Launch) (M : Mem) (c0 : Int) (a1 : Int) (a2 : Int) (a3 : Int) (hI_M : Inv false M) (hk_c0 : kd c0 = 1) (hpre : -2147483648 ≤ a1 ∧ a1 ≤ 2147483647 ∧ -2147483648 ≤ a2 ∧ a2 ≤ 2147483647 ∧ -2147483648 ≤ a3 ∧ a3 ≤ 2147483647 ∧ 0 ≤ a1 ∧ a1 ≤ 5 ∧ 0 ≤ a2 ∧ a2 ≤ 5) : KC false G l yX0_over cX0_over 8 (some .int) (1, 21) [vR G c0, vI a1, vI a2, vI a3] M (fun A => kQi false G A (fun (r : Int) (N : Mem) => M = N ∧ (0 ≤ r ∧ r ≤ 511))) := by
  refine kx_met (lo := [some (vR G c0), some (vI a1), some (vI a2), some (vI a3), none, none, none, none]) (by decide) (Nat.le_of_ble_eq_true rfl) rfl ?_
  intro X F hQ
  refine kx_iconst 1 F dX0_over_0 rfl ?_
  refine kx_istore 3 F 4 (lo' := [some (vR G c0), some (vI a1), some (vI a2), some (vI a3), some (vI 0), none, none, none]) dX0_over_1 (by decide) rfl rfl rfl ?_
  refine kx_iconst 4 F dX0_over_3 rfl ?_
  refine kx_istore 6 F 5 (lo' := [some (vR G c0), some (vI a1), some (vI a2), some (vI a3), some (vI 0), some (vI 0), none, none]) dX0_over_4 (by decide) rfl rfl rfl ?_
  have L_63 : ∀ (n_64 : Nat) (x4_61 : Int) (x5_62 : Int), 0 ≤ x4_61 ∧ x4_61 ≤ 511 ∧ 0 ≤ x5_62 ∧ x5_62 ≤ 3 → (3 - (x5_62)).toNat = n_64 → KJ false G X M 6 [some (vR G c0), some (vI a1), some (vI a2), some (vI a3), some (vI x4_61), some (vI x5_62), none, none] [] := by
    intro n_64
    refine Nat.strongRecOn n_64 ?_
    intro n_64 ih_65 x4_61 x5_62 h_66 hm_67
    refine kx_iload 8 F 5 dX0_over_6 rfl rfl ?_
    refine kx_iconst 9 F dX0_over_8 rfl ?_
    refine kx_icmp_ge 12 F 70 dX0_over_9 (by decide) rfl (by omega) (by decide) (fun h_68 => ?_) (fun h_68 => ?_)
    · refine kx_iload 72 F 4 dX0_over_70 rfl rfl ?_
      exact kx_iret F hQ ⟨rfl, (by omega)⟩ dX0_over_72
    · refine kx_aload_n 13 F 0 dX0_over_12 rfl rfl rfl ?_
      refine kx_getr 16 F fl_X0_27 hk_c0 rfl rfl (j := 11) rfl dX0_over_13 (v := (M c0 11)) rfl rfl ?_
      have hk_69 : kd (M c0 11) = 7 := Inv.r hI_M hk_c0 rfl 11 rfl rfl
      refine kx_iload_n 17 F 1 dX0_over_16 rfl rfl rfl ?_
      refine kx_iconst 18 F dX0_over_17 rfl ?_
      refine kx_imul 19 F (v := 3 * a1) dX0_over_18 (by omega) rfl ?_
      refine kx_iload 21 F 5 dX0_over_19 rfl rfl ?_
      refine kx_iadd 22 F (v := 3 * a1 + x5_62) dX0_over_21 rfl rfl ?_
      refine kx_iald 23 F hk_69 rfl rfl (by omega) (by decide) dX0_over_22 (v := (M (M c0 11) (3 * a1 + x5_62))) rfl rfl ?_
      have h_70 := Inv.g hI_M hk_69 rfl (3 * a1 + x5_62) (a := 0) (b := 511) rfl rfl
      refine kx_istore 25 F 6 (lo' := [some (vR G c0), some (vI a1), some (vI a2), some (vI a3), some (vI x4_61), some (vI x5_62), some (vI (M (M c0 11) (3 * a1 + x5_62))), none]) dX0_over_23 (by decide) rfl rfl rfl ?_
      refine kx_aload_n 26 F 0 dX0_over_25 rfl rfl rfl ?_
      refine kx_getr 29 F fl_X0_27 hk_c0 rfl rfl (j := 11) rfl dX0_over_26 (v := (M c0 11)) rfl rfl ?_
      refine kx_iload_n 30 F 2 dX0_over_29 rfl rfl rfl ?_
      refine kx_iconst 31 F dX0_over_30 rfl ?_
      refine kx_imul 32 F (v := 3 * a2) dX0_over_31 (by omega) rfl ?_
      refine kx_iload 34 F 5 dX0_over_32 rfl rfl ?_
      refine kx_iadd 35 F (v := 3 * a2 + x5_62) dX0_over_34 rfl rfl ?_
      refine kx_iald 36 F hk_69 rfl rfl (by omega) (by decide) dX0_over_35 (v := (M (M c0 11) (3 * a2 + x5_62))) rfl rfl ?_
      have h_71 := Inv.g hI_M hk_69 rfl (3 * a2 + x5_62) (a := 0) (b := 511) rfl rfl
      refine kx_istore 38 F 7 (lo' := [some (vR G c0), some (vI a1), some (vI a2), some (vI a3), some (vI x4_61), some (vI x5_62), some (vI (M (M c0 11) (3 * a1 + x5_62))), some (vI (M (M c0 11) (3 * a2 + x5_62)))]) dX0_over_36 (by decide) rfl rfl rfl ?_
      refine kx_iload 40 F 6 dX0_over_38 rfl rfl ?_
      have J_82 : ∀ (x4_81 : Int), 0 ≤ x4_81 ∧ x4_81 ≤ 511 → KJ false G X M 64 [some (vR G c0), some (vI a1), some (vI a2), some (vI a3), some (vI x4_81), some (vI x5_62), none, none] [] := by
        intro x4_81 h_83
        refine kx_iinc 67 F 5 (v := x5_62 + 1) (lo' := [some (vR G c0), some (vI a1), some (vI a2), some (vI a3), some (vI x4_81), some (vI (x5_62 + 1)), none, none]) dX0_over_64 rfl (by omega) (by decide) rfl rfl rfl ?_
        refine kx_goto 6 F dX0_over_67 (by decide) ?_
        exact ih_65 _ (by omega) x4_81 (x5_62 + 1) (by omega) rfl
      refine kx_if_eq 43 F 64 dX0_over_40 (by decide) rfl (by omega) (fun h_84 => ?_) (fun h_84 => ?_)
      · refine kx_drop 6 (lo' := [some (vR G c0), some (vI a1), some (vI a2), some (vI a3), some (vI x4_61), some (vI x5_62), none, some (vI (M (M c0 11) (3 * a2 + x5_62)))]) rfl ?_
        refine kx_drop 7 (lo' := [some (vR G c0), some (vI a1), some (vI a2), some (vI a3), some (vI x4_61), some (vI x5_62), none, none]) rfl ?_
        exact J_82 x4_61 (by omega)
      · refine kx_iload 45 F 7 dX0_over_43 rfl rfl ?_
        refine kx_if_eq 48 F 64 dX0_over_45 (by decide) rfl (by omega) (fun h_85 => ?_) (fun h_85 => ?_)
        · refine kx_drop 6 (lo' := [some (vR G c0), some (vI a1), some (vI a2), some (vI a3), some (vI x4_61), some (vI x5_62), none, some (vI (M (M c0 11) (3 * a2 + x5_62)))]) rfl ?_
          refine kx_drop 7 (lo' := [some (vR G c0), some (vI a1), some (vI a2), some (vI a3), some (vI x4_61), some (vI x5_62), none, none]) rfl ?_
          exact J_82 x4_61 (by omega)
        · refine kx_iload 50 F 4 dX0_over_48 rfl rfl ?_
          refine kx_iload 52 F 6 dX0_over_50 rfl rfl ?_
          refine kx_iload_n 53 F 3 dX0_over_52 rfl rfl rfl ?_
          refine kx_Si 56 F (As := [vI (M (M c0 11) (3 * a1 + x5_62)), vI a3]) (st := [vI x4_61]) sd_X0_78 (c_X2_compose G l M (M (M c0 11) (3 * a1 + x5_62)) a3 hI_M (by omega)) ⟨by decide, by decide⟩ rfl rfl (Nat.le_of_ble_eq_true rfl) dX0_over_53 rfl ?_
          intro r_86 N_87 q_88
          obtain ⟨rfl, q_88c⟩ := q_88
          refine kx_iload 58 F 7 dX0_over_56 rfl rfl ?_
          refine kx_Si 61 F (As := [vI r_86, vI (M (M c0 11) (3 * a2 + x5_62))]) (st := [vI x4_61]) sd_X0_78 (c_X2_compose G l M r_86 (M (M c0 11) (3 * a2 + x5_62)) hI_M (by omega)) ⟨by decide, by decide⟩ rfl rfl (Nat.le_of_ble_eq_true rfl) dX0_over_58 rfl ?_
          intro r_89 N_90 q_91
          obtain ⟨rfl, q_91c⟩ := q_91
          refine kx_ior 62 F (v := (zor x4_61 r_89)) dX0_over_61 rfl rfl ?_
          have h_92 : 0 ≤ (zor x4_61 r_89) ∧ (zor x4_61 r_89) < 512 := zor_lt (a := x4_61) (b := r_89) 9 (by decide) (by omega) (by omega)
          refine kx_istore 64 F 4 (lo' := [some (vR G c0), some (vI a1), some (vI a2), some (vI a3), some (vI (zor x4_61 r_89)), some (vI x5_62), some (vI (M (M c0 11) (3 * a1 + x5_62))), some (vI (M (M c0 11) (3 * a2 + x5_62)))]) dX0_over_62 (by decide) rfl rfl rfl ?_
          refine kx_drop 6 (lo' := [some (vR G c0), some (vI a1), some (vI a2), some (vI a3), some (vI (zor x4_61 r_89)), some (vI x5_62), none, some (vI (M (M c0 11) (3 * a2 + x5_62)))]) rfl ?_
          refine kx_drop 7 (lo' := [some (vR G c0), some (vI a1), some (vI a2), some (vI a3), some (vI (zor x4_61 r_89)), some (vI x5_62), none, none]) rfl ?_
          exact J_82 (zor x4_61 r_89) (by omega)
  exact L_63 _ 0 0 (by omega) rfl
set_option maxRecDepth 100000 in
theorem dGR_10_c_49 : (decode cX0_become 0 = .ok (.aload_n 0, 1)) ∧ (decode cX0_become 1 = .ok (.aload_n 1, 1)) ∧ (decode cX0_become 2 = .ok (.getfield 30, 3)) ∧ (decode cX0_become 5 = .ok (.putfield 30, 3)) ∧ (decode cX0_become 8 = .ok (.aload_n 0, 1)) ∧ (decode cX0_become 9 = .ok (.aload_n 1, 1)) ∧ (decode cX0_become 10 = .ok (.getfield 34, 3)) ∧ (decode cX0_become 13 = .ok (.putfield 34, 3)) ∧ (decode cX0_become 16 = .ok (.aload_n 0, 1)) ∧ (decode cX0_become 17 = .ok (.aload_n 1, 1)) ∧ (decode cX0_become 18 = .ok (.getfield 37, 3)) ∧ (decode cX0_become 21 = .ok (.putfield 37, 3)) := by decide +kernel
theorem dX0_become_0 : decode cX0_become 0 = .ok (.aload_n 0, 1) := dGR_10_c_49.1
theorem dX0_become_1 : decode cX0_become 1 = .ok (.aload_n 1, 1) := dGR_10_c_49.2.1
theorem dX0_become_2 : decode cX0_become 2 = .ok (.getfield 30, 3) := dGR_10_c_49.2.2.1
theorem dX0_become_5 : decode cX0_become 5 = .ok (.putfield 30, 3) := dGR_10_c_49.2.2.2.1
theorem dX0_become_8 : decode cX0_become 8 = .ok (.aload_n 0, 1) := dGR_10_c_49.2.2.2.2.1
theorem dX0_become_9 : decode cX0_become 9 = .ok (.aload_n 1, 1) := dGR_10_c_49.2.2.2.2.2.1
theorem dX0_become_10 : decode cX0_become 10 = .ok (.getfield 34, 3) := dGR_10_c_49.2.2.2.2.2.2.1
theorem dX0_become_13 : decode cX0_become 13 = .ok (.putfield 34, 3) := dGR_10_c_49.2.2.2.2.2.2.2.1
theorem dX0_become_16 : decode cX0_become 16 = .ok (.aload_n 0, 1) := dGR_10_c_49.2.2.2.2.2.2.2.2.1
theorem dX0_become_17 : decode cX0_become 17 = .ok (.aload_n 1, 1) := dGR_10_c_49.2.2.2.2.2.2.2.2.2.1
theorem dX0_become_18 : decode cX0_become 18 = .ok (.getfield 37, 3) := dGR_10_c_49.2.2.2.2.2.2.2.2.2.2.1
theorem dX0_become_21 : decode cX0_become 21 = .ok (.putfield 37, 3) := dGR_10_c_49.2.2.2.2.2.2.2.2.2.2.2
set_option maxRecDepth 100000 in
theorem dGR_10_c_50 : (decode cX0_become 24 = .ok (.aload_n 0, 1)) ∧ (decode cX0_become 25 = .ok (.aload_n 1, 1)) ∧ (decode cX0_become 26 = .ok (.getfield 40, 3)) ∧ (decode cX0_become 29 = .ok (.putfield 40, 3)) ∧ (decode cX0_become 32 = .ok (.aload_n 0, 1)) ∧ (decode cX0_become 33 = .ok (.aload_n 1, 1)) ∧ (decode cX0_become 34 = .ok (.getfield 43, 3)) ∧ (decode cX0_become 37 = .ok (.putfield 43, 3)) ∧ (decode cX0_become 40 = .ok (.aload_n 0, 1)) ∧ (decode cX0_become 41 = .ok (.aload_n 1, 1)) ∧ (decode cX0_become 42 = .ok (.getfield 46, 3)) ∧ (decode cX0_become 45 = .ok (.putfield 46, 3)) := by decide +kernel
theorem dX0_become_24 : decode cX0_become 24 = .ok (.aload_n 0, 1) := dGR_10_c_50.1
theorem dX0_become_25 : decode cX0_become 25 = .ok (.aload_n 1, 1) := dGR_10_c_50.2.1
theorem dX0_become_26 : decode cX0_become 26 = .ok (.getfield 40, 3) := dGR_10_c_50.2.2.1
theorem dX0_become_29 : decode cX0_become 29 = .ok (.putfield 40, 3) := dGR_10_c_50.2.2.2.1
theorem dX0_become_32 : decode cX0_become 32 = .ok (.aload_n 0, 1) := dGR_10_c_50.2.2.2.2.1
theorem dX0_become_33 : decode cX0_become 33 = .ok (.aload_n 1, 1) := dGR_10_c_50.2.2.2.2.2.1
theorem dX0_become_34 : decode cX0_become 34 = .ok (.getfield 43, 3) := dGR_10_c_50.2.2.2.2.2.2.1
theorem dX0_become_37 : decode cX0_become 37 = .ok (.putfield 43, 3) := dGR_10_c_50.2.2.2.2.2.2.2.1
theorem dX0_become_40 : decode cX0_become 40 = .ok (.aload_n 0, 1) := dGR_10_c_50.2.2.2.2.2.2.2.2.1
theorem dX0_become_41 : decode cX0_become 41 = .ok (.aload_n 1, 1) := dGR_10_c_50.2.2.2.2.2.2.2.2.2.1
theorem dX0_become_42 : decode cX0_become 42 = .ok (.getfield 46, 3) := dGR_10_c_50.2.2.2.2.2.2.2.2.2.2.1
theorem dX0_become_45 : decode cX0_become 45 = .ok (.putfield 46, 3) := dGR_10_c_50.2.2.2.2.2.2.2.2.2.2.2
set_option maxRecDepth 100000 in
theorem dGR_10_c_51 : (decode cX0_become 48 = .ok (.aload_n 1, 1)) ∧ (decode cX0_become 49 = .ok (.getfield 9, 3)) ∧ (decode cX0_become 52 = .ok (.iconst 0, 1)) ∧ (decode cX0_become 53 = .ok (.aload_n 0, 1)) ∧ (decode cX0_become 54 = .ok (.getfield 9, 3)) ∧ (decode cX0_become 57 = .ok (.iconst 0, 1)) ∧ (decode cX0_become 58 = .ok (.bipush 20, 2)) ∧ (decode cX0_become 60 = .ok (.invokestatic 62, 3)) ∧ (decode cX0_become 63 = .ok (.aload_n 1, 1)) ∧ (decode cX0_become 64 = .ok (.getfield 15, 3)) ∧ (decode cX0_become 67 = .ok (.iconst 0, 1)) ∧ (decode cX0_become 68 = .ok (.aload_n 0, 1)) := by decide +kernel
theorem dX0_become_48 : decode cX0_become 48 = .ok (.aload_n 1, 1) := dGR_10_c_51.1
theorem dX0_become_49 : decode cX0_become 49 = .ok (.getfield 9, 3) := dGR_10_c_51.2.1
theorem dX0_become_52 : decode cX0_become 52 = .ok (.iconst 0, 1) := dGR_10_c_51.2.2.1
theorem dX0_become_53 : decode cX0_become 53 = .ok (.aload_n 0, 1) := dGR_10_c_51.2.2.2.1
theorem dX0_become_54 : decode cX0_become 54 = .ok (.getfield 9, 3) := dGR_10_c_51.2.2.2.2.1
theorem dX0_become_57 : decode cX0_become 57 = .ok (.iconst 0, 1) := dGR_10_c_51.2.2.2.2.2.1
theorem dX0_become_58 : decode cX0_become 58 = .ok (.bipush 20, 2) := dGR_10_c_51.2.2.2.2.2.2.1
theorem dX0_become_60 : decode cX0_become 60 = .ok (.invokestatic 62, 3) := dGR_10_c_51.2.2.2.2.2.2.2.1
theorem dX0_become_63 : decode cX0_become 63 = .ok (.aload_n 1, 1) := dGR_10_c_51.2.2.2.2.2.2.2.2.1
theorem dX0_become_64 : decode cX0_become 64 = .ok (.getfield 15, 3) := dGR_10_c_51.2.2.2.2.2.2.2.2.2.1
theorem dX0_become_67 : decode cX0_become 67 = .ok (.iconst 0, 1) := dGR_10_c_51.2.2.2.2.2.2.2.2.2.2.1
theorem dX0_become_68 : decode cX0_become 68 = .ok (.aload_n 0, 1) := dGR_10_c_51.2.2.2.2.2.2.2.2.2.2.2
set_option maxRecDepth 100000 in
theorem dGR_10_c_52 : (decode cX0_become 69 = .ok (.getfield 15, 3)) ∧ (decode cX0_become 72 = .ok (.iconst 0, 1)) ∧ (decode cX0_become 73 = .ok (.bipush 20, 2)) ∧ (decode cX0_become 75 = .ok (.invokestatic 62, 3)) ∧ (decode cX0_become 78 = .ok (.aload_n 1, 1)) ∧ (decode cX0_become 79 = .ok (.getfield 18, 3)) ∧ (decode cX0_become 82 = .ok (.iconst 0, 1)) ∧ (decode cX0_become 83 = .ok (.aload_n 0, 1)) ∧ (decode cX0_become 84 = .ok (.getfield 18, 3)) ∧ (decode cX0_become 87 = .ok (.iconst 0, 1)) ∧ (decode cX0_become 88 = .ok (.bipush 20, 2)) ∧ (decode cX0_become 90 = .ok (.invokestatic 62, 3)) := by decide +kernel
theorem dX0_become_69 : decode cX0_become 69 = .ok (.getfield 15, 3) := dGR_10_c_52.1
theorem dX0_become_72 : decode cX0_become 72 = .ok (.iconst 0, 1) := dGR_10_c_52.2.1
theorem dX0_become_73 : decode cX0_become 73 = .ok (.bipush 20, 2) := dGR_10_c_52.2.2.1
theorem dX0_become_75 : decode cX0_become 75 = .ok (.invokestatic 62, 3) := dGR_10_c_52.2.2.2.1
theorem dX0_become_78 : decode cX0_become 78 = .ok (.aload_n 1, 1) := dGR_10_c_52.2.2.2.2.1
theorem dX0_become_79 : decode cX0_become 79 = .ok (.getfield 18, 3) := dGR_10_c_52.2.2.2.2.2.1
theorem dX0_become_82 : decode cX0_become 82 = .ok (.iconst 0, 1) := dGR_10_c_52.2.2.2.2.2.2.1
theorem dX0_become_83 : decode cX0_become 83 = .ok (.aload_n 0, 1) := dGR_10_c_52.2.2.2.2.2.2.2.1
theorem dX0_become_84 : decode cX0_become 84 = .ok (.getfield 18, 3) := dGR_10_c_52.2.2.2.2.2.2.2.2.1
theorem dX0_become_87 : decode cX0_become 87 = .ok (.iconst 0, 1) := dGR_10_c_52.2.2.2.2.2.2.2.2.2.1
theorem dX0_become_88 : decode cX0_become 88 = .ok (.bipush 20, 2) := dGR_10_c_52.2.2.2.2.2.2.2.2.2.2.1
theorem dX0_become_90 : decode cX0_become 90 = .ok (.invokestatic 62, 3) := dGR_10_c_52.2.2.2.2.2.2.2.2.2.2.2
set_option maxRecDepth 100000 in
theorem dGR_10_c_53 : (decode cX0_become 93 = .ok (.aload_n 1, 1)) ∧ (decode cX0_become 94 = .ok (.getfield 21, 3)) ∧ (decode cX0_become 97 = .ok (.iconst 0, 1)) ∧ (decode cX0_become 98 = .ok (.aload_n 0, 1)) ∧ (decode cX0_become 99 = .ok (.getfield 21, 3)) ∧ (decode cX0_become 102 = .ok (.iconst 0, 1)) ∧ (decode cX0_become 103 = .ok (.bipush 20, 2)) ∧ (decode cX0_become 105 = .ok (.invokestatic 62, 3)) ∧ (decode cX0_become 108 = .ok (.aload_n 1, 1)) ∧ (decode cX0_become 109 = .ok (.getfield 24, 3)) ∧ (decode cX0_become 112 = .ok (.iconst 0, 1)) ∧ (decode cX0_become 113 = .ok (.aload_n 0, 1)) := by decide +kernel
theorem dX0_become_93 : decode cX0_become 93 = .ok (.aload_n 1, 1) := dGR_10_c_53.1
theorem dX0_become_94 : decode cX0_become 94 = .ok (.getfield 21, 3) := dGR_10_c_53.2.1
theorem dX0_become_97 : decode cX0_become 97 = .ok (.iconst 0, 1) := dGR_10_c_53.2.2.1
theorem dX0_become_98 : decode cX0_become 98 = .ok (.aload_n 0, 1) := dGR_10_c_53.2.2.2.1
theorem dX0_become_99 : decode cX0_become 99 = .ok (.getfield 21, 3) := dGR_10_c_53.2.2.2.2.1
theorem dX0_become_102 : decode cX0_become 102 = .ok (.iconst 0, 1) := dGR_10_c_53.2.2.2.2.2.1
theorem dX0_become_103 : decode cX0_become 103 = .ok (.bipush 20, 2) := dGR_10_c_53.2.2.2.2.2.2.1
theorem dX0_become_105 : decode cX0_become 105 = .ok (.invokestatic 62, 3) := dGR_10_c_53.2.2.2.2.2.2.2.1
theorem dX0_become_108 : decode cX0_become 108 = .ok (.aload_n 1, 1) := dGR_10_c_53.2.2.2.2.2.2.2.2.1
theorem dX0_become_109 : decode cX0_become 109 = .ok (.getfield 24, 3) := dGR_10_c_53.2.2.2.2.2.2.2.2.2.1
theorem dX0_become_112 : decode cX0_become 112 = .ok (.iconst 0, 1) := dGR_10_c_53.2.2.2.2.2.2.2.2.2.2.1
theorem dX0_become_113 : decode cX0_become 113 = .ok (.aload_n 0, 1) := dGR_10_c_53.2.2.2.2.2.2.2.2.2.2.2
set_option maxRecDepth 100000 in
theorem dGR_10_c_54 : (decode cX0_become 114 = .ok (.getfield 24, 3)) ∧ (decode cX0_become 117 = .ok (.iconst 0, 1)) ∧ (decode cX0_become 118 = .ok (.aload_n 0, 1)) ∧ (decode cX0_become 119 = .ok (.getfield 24, 3)) ∧ (decode cX0_become 122 = .ok (.arraylength, 1)) ∧ (decode cX0_become 123 = .ok (.invokestatic 62, 3)) ∧ (decode cX0_become 126 = .ok (.aload_n 1, 1)) ∧ (decode cX0_become 127 = .ok (.getfield 27, 3)) ∧ (decode cX0_become 130 = .ok (.iconst 0, 1)) ∧ (decode cX0_become 131 = .ok (.aload_n 0, 1)) ∧ (decode cX0_become 132 = .ok (.getfield 27, 3)) ∧ (decode cX0_become 135 = .ok (.iconst 0, 1)) := by decide +kernel
theorem dX0_become_114 : decode cX0_become 114 = .ok (.getfield 24, 3) := dGR_10_c_54.1
theorem dX0_become_117 : decode cX0_become 117 = .ok (.iconst 0, 1) := dGR_10_c_54.2.1
theorem dX0_become_118 : decode cX0_become 118 = .ok (.aload_n 0, 1) := dGR_10_c_54.2.2.1
theorem dX0_become_119 : decode cX0_become 119 = .ok (.getfield 24, 3) := dGR_10_c_54.2.2.2.1
theorem dX0_become_122 : decode cX0_become 122 = .ok (.arraylength, 1) := dGR_10_c_54.2.2.2.2.1
theorem dX0_become_123 : decode cX0_become 123 = .ok (.invokestatic 62, 3) := dGR_10_c_54.2.2.2.2.2.1
theorem dX0_become_126 : decode cX0_become 126 = .ok (.aload_n 1, 1) := dGR_10_c_54.2.2.2.2.2.2.1
theorem dX0_become_127 : decode cX0_become 127 = .ok (.getfield 27, 3) := dGR_10_c_54.2.2.2.2.2.2.2.1
theorem dX0_become_130 : decode cX0_become 130 = .ok (.iconst 0, 1) := dGR_10_c_54.2.2.2.2.2.2.2.2.1
theorem dX0_become_131 : decode cX0_become 131 = .ok (.aload_n 0, 1) := dGR_10_c_54.2.2.2.2.2.2.2.2.2.1
theorem dX0_become_132 : decode cX0_become 132 = .ok (.getfield 27, 3) := dGR_10_c_54.2.2.2.2.2.2.2.2.2.2.1
theorem dX0_become_135 : decode cX0_become 135 = .ok (.iconst 0, 1) := dGR_10_c_54.2.2.2.2.2.2.2.2.2.2.2
set_option maxRecDepth 100000 in
theorem dGR_10_c_55 : (decode cX0_become 136 = .ok (.aload_n 0, 1)) ∧ (decode cX0_become 137 = .ok (.getfield 27, 3)) ∧ (decode cX0_become 140 = .ok (.arraylength, 1)) ∧ (decode cX0_become 141 = .ok (.invokestatic 62, 3)) ∧ (decode cX0_become 144 = .ok (.return_, 1)) := by decide +kernel
theorem dX0_become_136 : decode cX0_become 136 = .ok (.aload_n 0, 1) := dGR_10_c_55.1
theorem dX0_become_137 : decode cX0_become 137 = .ok (.getfield 27, 3) := dGR_10_c_55.2.1
theorem dX0_become_140 : decode cX0_become 140 = .ok (.arraylength, 1) := dGR_10_c_55.2.2.1
theorem dX0_become_141 : decode cX0_become 141 = .ok (.invokestatic 62, 3) := dGR_10_c_55.2.2.2.1
theorem dX0_become_144 : decode cX0_become 144 = .ok (.return_, 1) := dGR_10_c_55.2.2.2.2
set_option maxRecDepth 100000 in
theorem dGR_10_c_56 : (decode cX10_begin 0 = .ok (.aload_n 0, 1)) ∧ (decode cX10_begin 1 = .ok (.iconst 0, 1)) ∧ (decode cX10_begin 2 = .ok (.putfield 25, 3)) ∧ (decode cX10_begin 5 = .ok (.aload_n 0, 1)) ∧ (decode cX10_begin 6 = .ok (.iconst 0, 1)) ∧ (decode cX10_begin 7 = .ok (.putfield 28, 3)) ∧ (decode cX10_begin 10 = .ok (.aload_n 0, 1)) ∧ (decode cX10_begin 11 = .ok (.aload_n 1, 1)) ∧ (decode cX10_begin 12 = .ok (.getfield 31, 3)) ∧ (decode cX10_begin 15 = .ok (.putfield 36, 3)) ∧ (decode cX10_begin 18 = .ok (.aload_n 0, 1)) ∧ (decode cX10_begin 19 = .ok (.aload_n 1, 1)) := by decide +kernel
theorem dX10_begin_0 : decode cX10_begin 0 = .ok (.aload_n 0, 1) := dGR_10_c_56.1
theorem dX10_begin_1 : decode cX10_begin 1 = .ok (.iconst 0, 1) := dGR_10_c_56.2.1
theorem dX10_begin_2 : decode cX10_begin 2 = .ok (.putfield 25, 3) := dGR_10_c_56.2.2.1
theorem dX10_begin_5 : decode cX10_begin 5 = .ok (.aload_n 0, 1) := dGR_10_c_56.2.2.2.1
theorem dX10_begin_6 : decode cX10_begin 6 = .ok (.iconst 0, 1) := dGR_10_c_56.2.2.2.2.1
theorem dX10_begin_7 : decode cX10_begin 7 = .ok (.putfield 28, 3) := dGR_10_c_56.2.2.2.2.2.1
theorem dX10_begin_10 : decode cX10_begin 10 = .ok (.aload_n 0, 1) := dGR_10_c_56.2.2.2.2.2.2.1
theorem dX10_begin_11 : decode cX10_begin 11 = .ok (.aload_n 1, 1) := dGR_10_c_56.2.2.2.2.2.2.2.1
theorem dX10_begin_12 : decode cX10_begin 12 = .ok (.getfield 31, 3) := dGR_10_c_56.2.2.2.2.2.2.2.2.1
theorem dX10_begin_15 : decode cX10_begin 15 = .ok (.putfield 36, 3) := dGR_10_c_56.2.2.2.2.2.2.2.2.2.1
theorem dX10_begin_18 : decode cX10_begin 18 = .ok (.aload_n 0, 1) := dGR_10_c_56.2.2.2.2.2.2.2.2.2.2.1
theorem dX10_begin_19 : decode cX10_begin 19 = .ok (.aload_n 1, 1) := dGR_10_c_56.2.2.2.2.2.2.2.2.2.2.2
set_option maxRecDepth 100000 in
theorem dGR_10_c_57 : (decode cX10_begin 20 = .ok (.getfield 39, 3)) ∧ (decode cX10_begin 23 = .ok (.invokestatic 40, 3)) ∧ (decode cX10_begin 26 = .ok (.putfield 46, 3)) ∧ (decode cX10_begin 29 = .ok (.return_, 1)) := by decide +kernel
theorem dX10_begin_20 : decode cX10_begin 20 = .ok (.getfield 39, 3) := dGR_10_c_57.1
theorem dX10_begin_23 : decode cX10_begin 23 = .ok (.invokestatic 40, 3) := dGR_10_c_57.2.1
theorem dX10_begin_26 : decode cX10_begin 26 = .ok (.putfield 46, 3) := dGR_10_c_57.2.2.1
theorem dX10_begin_29 : decode cX10_begin 29 = .ok (.return_, 1) := dGR_10_c_57.2.2.2
set_option maxRecDepth 100000 in
theorem dGR_10_c_58 : (decode cX10_go 0 = .ok (.aload_n 0, 1)) ∧ (decode cX10_go 1 = .ok (.dup, 1)) ∧ (decode cX10_go 2 = .ok (.getfield 25, 3)) ∧ (decode cX10_go 5 = .ok (.iconst 1, 1)) ∧ (decode cX10_go 6 = .ok (.iadd, 1)) ∧ (decode cX10_go 7 = .ok (.putfield 25, 3)) ∧ (decode cX10_go 10 = .ok (.iload_n 3, 1)) ∧ (decode cX10_go 11 = .ok (.ifCond .ne 89, 3)) ∧ (decode cX10_go 14 = .ok (.aload_n 0, 1)) ∧ (decode cX10_go 15 = .ok (.getfield 28, 3)) ∧ (decode cX10_go 18 = .ok (.bipush 30, 2)) ∧ (decode cX10_go 20 = .ok (.if_icmp .ge 80, 3)) := by decide +kernel
theorem dX10_go_0 : decode cX10_go 0 = .ok (.aload_n 0, 1) := dGR_10_c_58.1
theorem dX10_go_1 : decode cX10_go 1 = .ok (.dup, 1) := dGR_10_c_58.2.1
theorem dX10_go_2 : decode cX10_go 2 = .ok (.getfield 25, 3) := dGR_10_c_58.2.2.1
theorem dX10_go_5 : decode cX10_go 5 = .ok (.iconst 1, 1) := dGR_10_c_58.2.2.2.1
theorem dX10_go_6 : decode cX10_go 6 = .ok (.iadd, 1) := dGR_10_c_58.2.2.2.2.1
theorem dX10_go_7 : decode cX10_go 7 = .ok (.putfield 25, 3) := dGR_10_c_58.2.2.2.2.2.1
theorem dX10_go_10 : decode cX10_go 10 = .ok (.iload_n 3, 1) := dGR_10_c_58.2.2.2.2.2.2.1
theorem dX10_go_11 : decode cX10_go 11 = .ok (.ifCond .ne 89, 3) := dGR_10_c_58.2.2.2.2.2.2.2.1
theorem dX10_go_14 : decode cX10_go 14 = .ok (.aload_n 0, 1) := dGR_10_c_58.2.2.2.2.2.2.2.2.1
theorem dX10_go_15 : decode cX10_go 15 = .ok (.getfield 28, 3) := dGR_10_c_58.2.2.2.2.2.2.2.2.2.1
theorem dX10_go_18 : decode cX10_go 18 = .ok (.bipush 30, 2) := dGR_10_c_58.2.2.2.2.2.2.2.2.2.2.1
theorem dX10_go_20 : decode cX10_go 20 = .ok (.if_icmp .ge 80, 3) := dGR_10_c_58.2.2.2.2.2.2.2.2.2.2.2
set_option maxRecDepth 100000 in
theorem dGR_10_c_59 : (decode cX10_go 23 = .ok (.aload_n 0, 1)) ∧ (decode cX10_go 24 = .ok (.getfield 15, 3)) ∧ (decode cX10_go 27 = .ok (.aload_n 0, 1)) ∧ (decode cX10_go 28 = .ok (.getfield 28, 3)) ∧ (decode cX10_go 31 = .ok (.aload_n 0, 1)) ∧ (decode cX10_go 32 = .ok (.getfield 36, 3)) ∧ (decode cX10_go 35 = .ok (.iastore, 1)) ∧ (decode cX10_go 36 = .ok (.aload_n 0, 1)) ∧ (decode cX10_go 37 = .ok (.getfield 19, 3)) ∧ (decode cX10_go 40 = .ok (.aload_n 0, 1)) ∧ (decode cX10_go 41 = .ok (.getfield 28, 3)) ∧ (decode cX10_go 44 = .ok (.aload_n 0, 1)) := by decide +kernel
theorem dX10_go_23 : decode cX10_go 23 = .ok (.aload_n 0, 1) := dGR_10_c_59.1
theorem dX10_go_24 : decode cX10_go 24 = .ok (.getfield 15, 3) := dGR_10_c_59.2.1
theorem dX10_go_27 : decode cX10_go 27 = .ok (.aload_n 0, 1) := dGR_10_c_59.2.2.1
theorem dX10_go_28 : decode cX10_go 28 = .ok (.getfield 28, 3) := dGR_10_c_59.2.2.2.1
theorem dX10_go_31 : decode cX10_go 31 = .ok (.aload_n 0, 1) := dGR_10_c_59.2.2.2.2.1
theorem dX10_go_32 : decode cX10_go 32 = .ok (.getfield 36, 3) := dGR_10_c_59.2.2.2.2.2.1
theorem dX10_go_35 : decode cX10_go 35 = .ok (.iastore, 1) := dGR_10_c_59.2.2.2.2.2.2.1
theorem dX10_go_36 : decode cX10_go 36 = .ok (.aload_n 0, 1) := dGR_10_c_59.2.2.2.2.2.2.2.1
theorem dX10_go_37 : decode cX10_go 37 = .ok (.getfield 19, 3) := dGR_10_c_59.2.2.2.2.2.2.2.2.1
theorem dX10_go_40 : decode cX10_go 40 = .ok (.aload_n 0, 1) := dGR_10_c_59.2.2.2.2.2.2.2.2.2.1
theorem dX10_go_41 : decode cX10_go 41 = .ok (.getfield 28, 3) := dGR_10_c_59.2.2.2.2.2.2.2.2.2.2.1
theorem dX10_go_44 : decode cX10_go 44 = .ok (.aload_n 0, 1) := dGR_10_c_59.2.2.2.2.2.2.2.2.2.2.2
set_option maxRecDepth 100000 in
theorem dGR_10_c_60 : (decode cX10_go 45 = .ok (.getfield 46, 3)) ∧ (decode cX10_go 48 = .ok (.iastore, 1)) ∧ (decode cX10_go 49 = .ok (.aload_n 0, 1)) ∧ (decode cX10_go 50 = .ok (.getfield 22, 3)) ∧ (decode cX10_go 53 = .ok (.aload_n 0, 1)) ∧ (decode cX10_go 54 = .ok (.getfield 28, 3)) ∧ (decode cX10_go 57 = .ok (.iload_n 2, 1)) ∧ (decode cX10_go 58 = .ok (.iastore, 1)) ∧ (decode cX10_go 59 = .ok (.aload_n 0, 1)) ∧ (decode cX10_go 60 = .ok (.dup, 1)) ∧ (decode cX10_go 61 = .ok (.getfield 28, 3)) ∧ (decode cX10_go 64 = .ok (.iconst 1, 1)) := by decide +kernel
theorem dX10_go_45 : decode cX10_go 45 = .ok (.getfield 46, 3) := dGR_10_c_60.1
theorem dX10_go_48 : decode cX10_go 48 = .ok (.iastore, 1) := dGR_10_c_60.2.1
theorem dX10_go_49 : decode cX10_go 49 = .ok (.aload_n 0, 1) := dGR_10_c_60.2.2.1
theorem dX10_go_50 : decode cX10_go 50 = .ok (.getfield 22, 3) := dGR_10_c_60.2.2.2.1
theorem dX10_go_53 : decode cX10_go 53 = .ok (.aload_n 0, 1) := dGR_10_c_60.2.2.2.2.1
theorem dX10_go_54 : decode cX10_go 54 = .ok (.getfield 28, 3) := dGR_10_c_60.2.2.2.2.2.1
theorem dX10_go_57 : decode cX10_go 57 = .ok (.iload_n 2, 1) := dGR_10_c_60.2.2.2.2.2.2.1
theorem dX10_go_58 : decode cX10_go 58 = .ok (.iastore, 1) := dGR_10_c_60.2.2.2.2.2.2.2.1
theorem dX10_go_59 : decode cX10_go 59 = .ok (.aload_n 0, 1) := dGR_10_c_60.2.2.2.2.2.2.2.2.1
theorem dX10_go_60 : decode cX10_go 60 = .ok (.dup, 1) := dGR_10_c_60.2.2.2.2.2.2.2.2.2.1
theorem dX10_go_61 : decode cX10_go 61 = .ok (.getfield 28, 3) := dGR_10_c_60.2.2.2.2.2.2.2.2.2.2.1
theorem dX10_go_64 : decode cX10_go 64 = .ok (.iconst 1, 1) := dGR_10_c_60.2.2.2.2.2.2.2.2.2.2.2
set_option maxRecDepth 100000 in
theorem dGR_10_c_61 : (decode cX10_go 65 = .ok (.iadd, 1)) ∧ (decode cX10_go 66 = .ok (.putfield 28, 3)) ∧ (decode cX10_go 69 = .ok (.aload_n 0, 1)) ∧ (decode cX10_go 70 = .ok (.aload_n 0, 1)) ∧ (decode cX10_go 71 = .ok (.getfield 36, 3)) ∧ (decode cX10_go 74 = .ok (.aload_n 1, 1)) ∧ (decode cX10_go 75 = .ok (.getfield 49, 3)) ∧ (decode cX10_go 78 = .ok (.iload_n 2, 1)) ∧ (decode cX10_go 79 = .ok (.iaload, 1)) ∧ (decode cX10_go 80 = .ok (.invokestatic 52, 3)) ∧ (decode cX10_go 83 = .ok (.putfield 36, 3)) ∧ (decode cX10_go 86 = .ok (.aload_n 0, 1)) := by decide +kernel
theorem dX10_go_65 : decode cX10_go 65 = .ok (.iadd, 1) := dGR_10_c_61.1
theorem dX10_go_66 : decode cX10_go 66 = .ok (.putfield 28, 3) := dGR_10_c_61.2.1
theorem dX10_go_69 : decode cX10_go 69 = .ok (.aload_n 0, 1) := dGR_10_c_61.2.2.1
theorem dX10_go_70 : decode cX10_go 70 = .ok (.aload_n 0, 1) := dGR_10_c_61.2.2.2.1
theorem dX10_go_71 : decode cX10_go 71 = .ok (.getfield 36, 3) := dGR_10_c_61.2.2.2.2.1
theorem dX10_go_74 : decode cX10_go 74 = .ok (.aload_n 1, 1) := dGR_10_c_61.2.2.2.2.2.1
theorem dX10_go_75 : decode cX10_go 75 = .ok (.getfield 49, 3) := dGR_10_c_61.2.2.2.2.2.2.1
theorem dX10_go_78 : decode cX10_go 78 = .ok (.iload_n 2, 1) := dGR_10_c_61.2.2.2.2.2.2.2.1
theorem dX10_go_79 : decode cX10_go 79 = .ok (.iaload, 1) := dGR_10_c_61.2.2.2.2.2.2.2.2.1
theorem dX10_go_80 : decode cX10_go 80 = .ok (.invokestatic 52, 3) := dGR_10_c_61.2.2.2.2.2.2.2.2.2.1
theorem dX10_go_83 : decode cX10_go 83 = .ok (.putfield 36, 3) := dGR_10_c_61.2.2.2.2.2.2.2.2.2.2.1
theorem dX10_go_86 : decode cX10_go 86 = .ok (.aload_n 0, 1) := dGR_10_c_61.2.2.2.2.2.2.2.2.2.2.2
set_option maxRecDepth 100000 in
theorem dGR_10_c_62 : (decode cX10_go 87 = .ok (.aload_n 1, 1)) ∧ (decode cX10_go 88 = .ok (.getfield 39, 3)) ∧ (decode cX10_go 91 = .ok (.invokestatic 40, 3)) ∧ (decode cX10_go 94 = .ok (.putfield 46, 3)) ∧ (decode cX10_go 97 = .ok (.goto 118, 3)) ∧ (decode cX10_go 100 = .ok (.iload_n 3, 1)) ∧ (decode cX10_go 101 = .ok (.iconst 1, 1)) ∧ (decode cX10_go 102 = .ok (.if_icmp .ne 79, 3)) ∧ (decode cX10_go 105 = .ok (.aload_n 0, 1)) ∧ (decode cX10_go 106 = .ok (.getfield 28, 3)) ∧ (decode cX10_go 109 = .ok (.ifCond .le 72, 3)) ∧ (decode cX10_go 112 = .ok (.aload_n 0, 1)) := by decide +kernel
theorem dX10_go_87 : decode cX10_go 87 = .ok (.aload_n 1, 1) := dGR_10_c_62.1
theorem dX10_go_88 : decode cX10_go 88 = .ok (.getfield 39, 3) := dGR_10_c_62.2.1
theorem dX10_go_91 : decode cX10_go 91 = .ok (.invokestatic 40, 3) := dGR_10_c_62.2.2.1
theorem dX10_go_94 : decode cX10_go 94 = .ok (.putfield 46, 3) := dGR_10_c_62.2.2.2.1
theorem dX10_go_97 : decode cX10_go 97 = .ok (.goto 118, 3) := dGR_10_c_62.2.2.2.2.1
theorem dX10_go_100 : decode cX10_go 100 = .ok (.iload_n 3, 1) := dGR_10_c_62.2.2.2.2.2.1
theorem dX10_go_101 : decode cX10_go 101 = .ok (.iconst 1, 1) := dGR_10_c_62.2.2.2.2.2.2.1
theorem dX10_go_102 : decode cX10_go 102 = .ok (.if_icmp .ne 79, 3) := dGR_10_c_62.2.2.2.2.2.2.2.1
theorem dX10_go_105 : decode cX10_go 105 = .ok (.aload_n 0, 1) := dGR_10_c_62.2.2.2.2.2.2.2.2.1
theorem dX10_go_106 : decode cX10_go 106 = .ok (.getfield 28, 3) := dGR_10_c_62.2.2.2.2.2.2.2.2.2.1
theorem dX10_go_109 : decode cX10_go 109 = .ok (.ifCond .le 72, 3) := dGR_10_c_62.2.2.2.2.2.2.2.2.2.2.1
theorem dX10_go_112 : decode cX10_go 112 = .ok (.aload_n 0, 1) := dGR_10_c_62.2.2.2.2.2.2.2.2.2.2.2
set_option maxRecDepth 100000 in
theorem dGR_10_c_63 : (decode cX10_go 113 = .ok (.dup, 1)) ∧ (decode cX10_go 114 = .ok (.getfield 28, 3)) ∧ (decode cX10_go 117 = .ok (.iconst 1, 1)) ∧ (decode cX10_go 118 = .ok (.isub, 1)) ∧ (decode cX10_go 119 = .ok (.putfield 28, 3)) ∧ (decode cX10_go 122 = .ok (.aload_n 1, 1)) ∧ (decode cX10_go 123 = .ok (.aload_n 0, 1)) ∧ (decode cX10_go 124 = .ok (.getfield 22, 3)) ∧ (decode cX10_go 127 = .ok (.aload_n 0, 1)) ∧ (decode cX10_go 128 = .ok (.getfield 28, 3)) ∧ (decode cX10_go 131 = .ok (.iaload, 1)) ∧ (decode cX10_go 132 = .ok (.iload_n 2, 1)) := by decide +kernel
theorem dX10_go_113 : decode cX10_go 113 = .ok (.dup, 1) := dGR_10_c_63.1
theorem dX10_go_114 : decode cX10_go 114 = .ok (.getfield 28, 3) := dGR_10_c_63.2.1
theorem dX10_go_117 : decode cX10_go 117 = .ok (.iconst 1, 1) := dGR_10_c_63.2.2.1
theorem dX10_go_118 : decode cX10_go 118 = .ok (.isub, 1) := dGR_10_c_63.2.2.2.1
theorem dX10_go_119 : decode cX10_go 119 = .ok (.putfield 28, 3) := dGR_10_c_63.2.2.2.2.1
theorem dX10_go_122 : decode cX10_go 122 = .ok (.aload_n 1, 1) := dGR_10_c_63.2.2.2.2.2.1
theorem dX10_go_123 : decode cX10_go 123 = .ok (.aload_n 0, 1) := dGR_10_c_63.2.2.2.2.2.2.1
theorem dX10_go_124 : decode cX10_go 124 = .ok (.getfield 22, 3) := dGR_10_c_63.2.2.2.2.2.2.2.1
theorem dX10_go_127 : decode cX10_go 127 = .ok (.aload_n 0, 1) := dGR_10_c_63.2.2.2.2.2.2.2.2.1
theorem dX10_go_128 : decode cX10_go 128 = .ok (.getfield 28, 3) := dGR_10_c_63.2.2.2.2.2.2.2.2.2.1
theorem dX10_go_131 : decode cX10_go 131 = .ok (.iaload, 1) := dGR_10_c_63.2.2.2.2.2.2.2.2.2.2.1
theorem dX10_go_132 : decode cX10_go 132 = .ok (.iload_n 2, 1) := dGR_10_c_63.2.2.2.2.2.2.2.2.2.2.2
set_option maxRecDepth 100000 in
theorem dGR_10_c_64 : (decode cX10_go 133 = .ok (.aload_n 0, 1)) ∧ (decode cX10_go 134 = .ok (.getfield 46, 3)) ∧ (decode cX10_go 137 = .ok (.invokevirtual 56, 3)) ∧ (decode cX10_go 140 = .ok (.istore 4, 2)) ∧ (decode cX10_go 142 = .ok (.aload_n 0, 1)) ∧ (decode cX10_go 143 = .ok (.aload_n 0, 1)) ∧ (decode cX10_go 144 = .ok (.getfield 15, 3)) ∧ (decode cX10_go 147 = .ok (.aload_n 0, 1)) ∧ (decode cX10_go 148 = .ok (.getfield 28, 3)) ∧ (decode cX10_go 151 = .ok (.iaload, 1)) ∧ (decode cX10_go 152 = .ok (.iload 4, 2)) ∧ (decode cX10_go 154 = .ok (.invokestatic 52, 3)) := by decide +kernel
theorem dX10_go_133 : decode cX10_go 133 = .ok (.aload_n 0, 1) := dGR_10_c_64.1
theorem dX10_go_134 : decode cX10_go 134 = .ok (.getfield 46, 3) := dGR_10_c_64.2.1
theorem dX10_go_137 : decode cX10_go 137 = .ok (.invokevirtual 56, 3) := dGR_10_c_64.2.2.1
theorem dX10_go_140 : decode cX10_go 140 = .ok (.istore 4, 2) := dGR_10_c_64.2.2.2.1
theorem dX10_go_142 : decode cX10_go 142 = .ok (.aload_n 0, 1) := dGR_10_c_64.2.2.2.2.1
theorem dX10_go_143 : decode cX10_go 143 = .ok (.aload_n 0, 1) := dGR_10_c_64.2.2.2.2.2.1
theorem dX10_go_144 : decode cX10_go 144 = .ok (.getfield 15, 3) := dGR_10_c_64.2.2.2.2.2.2.1
theorem dX10_go_147 : decode cX10_go 147 = .ok (.aload_n 0, 1) := dGR_10_c_64.2.2.2.2.2.2.2.1
theorem dX10_go_148 : decode cX10_go 148 = .ok (.getfield 28, 3) := dGR_10_c_64.2.2.2.2.2.2.2.2.1
theorem dX10_go_151 : decode cX10_go 151 = .ok (.iaload, 1) := dGR_10_c_64.2.2.2.2.2.2.2.2.2.1
theorem dX10_go_152 : decode cX10_go 152 = .ok (.iload 4, 2) := dGR_10_c_64.2.2.2.2.2.2.2.2.2.2.1
theorem dX10_go_154 : decode cX10_go 154 = .ok (.invokestatic 52, 3) := dGR_10_c_64.2.2.2.2.2.2.2.2.2.2.2
set_option maxRecDepth 100000 in
theorem dGR_10_c_65 : (decode cX10_go 157 = .ok (.putfield 36, 3)) ∧ (decode cX10_go 160 = .ok (.aload_n 0, 1)) ∧ (decode cX10_go 161 = .ok (.aload_n 0, 1)) ∧ (decode cX10_go 162 = .ok (.getfield 19, 3)) ∧ (decode cX10_go 165 = .ok (.aload_n 0, 1)) ∧ (decode cX10_go 166 = .ok (.getfield 28, 3)) ∧ (decode cX10_go 169 = .ok (.iaload, 1)) ∧ (decode cX10_go 170 = .ok (.iload 4, 2)) ∧ (decode cX10_go 172 = .ok (.invokestatic 60, 3)) ∧ (decode cX10_go 175 = .ok (.putfield 46, 3)) ∧ (decode cX10_go 178 = .ok (.goto 37, 3)) ∧ (decode cX10_go 181 = .ok (.aload_n 0, 1)) := by decide +kernel
theorem dX10_go_157 : decode cX10_go 157 = .ok (.putfield 36, 3) := dGR_10_c_65.1
theorem dX10_go_160 : decode cX10_go 160 = .ok (.aload_n 0, 1) := dGR_10_c_65.2.1
theorem dX10_go_161 : decode cX10_go 161 = .ok (.aload_n 0, 1) := dGR_10_c_65.2.2.1
theorem dX10_go_162 : decode cX10_go 162 = .ok (.getfield 19, 3) := dGR_10_c_65.2.2.2.1
theorem dX10_go_165 : decode cX10_go 165 = .ok (.aload_n 0, 1) := dGR_10_c_65.2.2.2.2.1
theorem dX10_go_166 : decode cX10_go 166 = .ok (.getfield 28, 3) := dGR_10_c_65.2.2.2.2.2.1
theorem dX10_go_169 : decode cX10_go 169 = .ok (.iaload, 1) := dGR_10_c_65.2.2.2.2.2.2.1
theorem dX10_go_170 : decode cX10_go 170 = .ok (.iload 4, 2) := dGR_10_c_65.2.2.2.2.2.2.2.1
theorem dX10_go_172 : decode cX10_go 172 = .ok (.invokestatic 60, 3) := dGR_10_c_65.2.2.2.2.2.2.2.2.1
theorem dX10_go_175 : decode cX10_go 175 = .ok (.putfield 46, 3) := dGR_10_c_65.2.2.2.2.2.2.2.2.2.1
theorem dX10_go_178 : decode cX10_go 178 = .ok (.goto 37, 3) := dGR_10_c_65.2.2.2.2.2.2.2.2.2.2.1
theorem dX10_go_181 : decode cX10_go 181 = .ok (.aload_n 0, 1) := dGR_10_c_65.2.2.2.2.2.2.2.2.2.2.2
set_option maxRecDepth 100000 in
theorem dGR_10_c_66 : (decode cX10_go 182 = .ok (.aload_n 0, 1)) ∧ (decode cX10_go 183 = .ok (.getfield 36, 3)) ∧ (decode cX10_go 186 = .ok (.aload_n 1, 1)) ∧ (decode cX10_go 187 = .ok (.getfield 49, 3)) ∧ (decode cX10_go 190 = .ok (.iload_n 2, 1)) ∧ (decode cX10_go 191 = .ok (.iaload, 1)) ∧ (decode cX10_go 192 = .ok (.invokestatic 52, 3)) ∧ (decode cX10_go 195 = .ok (.putfield 36, 3)) ∧ (decode cX10_go 198 = .ok (.aload_n 0, 1)) ∧ (decode cX10_go 199 = .ok (.aload_n 0, 1)) ∧ (decode cX10_go 200 = .ok (.getfield 46, 3)) ∧ (decode cX10_go 203 = .ok (.aload_n 1, 1)) := by decide +kernel
theorem dX10_go_182 : decode cX10_go 182 = .ok (.aload_n 0, 1) := dGR_10_c_66.1
theorem dX10_go_183 : decode cX10_go 183 = .ok (.getfield 36, 3) := dGR_10_c_66.2.1
theorem dX10_go_186 : decode cX10_go 186 = .ok (.aload_n 1, 1) := dGR_10_c_66.2.2.1
theorem dX10_go_187 : decode cX10_go 187 = .ok (.getfield 49, 3) := dGR_10_c_66.2.2.2.1
theorem dX10_go_190 : decode cX10_go 190 = .ok (.iload_n 2, 1) := dGR_10_c_66.2.2.2.2.1
theorem dX10_go_191 : decode cX10_go 191 = .ok (.iaload, 1) := dGR_10_c_66.2.2.2.2.2.1
theorem dX10_go_192 : decode cX10_go 192 = .ok (.invokestatic 52, 3) := dGR_10_c_66.2.2.2.2.2.2.1
theorem dX10_go_195 : decode cX10_go 195 = .ok (.putfield 36, 3) := dGR_10_c_66.2.2.2.2.2.2.2.1
theorem dX10_go_198 : decode cX10_go 198 = .ok (.aload_n 0, 1) := dGR_10_c_66.2.2.2.2.2.2.2.2.1
theorem dX10_go_199 : decode cX10_go 199 = .ok (.aload_n 0, 1) := dGR_10_c_66.2.2.2.2.2.2.2.2.2.1
theorem dX10_go_200 : decode cX10_go 200 = .ok (.getfield 46, 3) := dGR_10_c_66.2.2.2.2.2.2.2.2.2.2.1
theorem dX10_go_203 : decode cX10_go 203 = .ok (.aload_n 1, 1) := dGR_10_c_66.2.2.2.2.2.2.2.2.2.2.2
set_option maxRecDepth 100000 in
theorem dGR_10_c_67 : (decode cX10_go 204 = .ok (.getfield 49, 3)) ∧ (decode cX10_go 207 = .ok (.iload_n 2, 1)) ∧ (decode cX10_go 208 = .ok (.iaload, 1)) ∧ (decode cX10_go 209 = .ok (.invokestatic 60, 3)) ∧ (decode cX10_go 212 = .ok (.putfield 46, 3)) ∧ (decode cX10_go 215 = .ok (.return_, 1)) := by decide +kernel
theorem dX10_go_204 : decode cX10_go 204 = .ok (.getfield 49, 3) := dGR_10_c_67.1
theorem dX10_go_207 : decode cX10_go 207 = .ok (.iload_n 2, 1) := dGR_10_c_67.2.1
theorem dX10_go_208 : decode cX10_go 208 = .ok (.iaload, 1) := dGR_10_c_67.2.2.1
theorem dX10_go_209 : decode cX10_go 209 = .ok (.invokestatic 60, 3) := dGR_10_c_67.2.2.2.1
theorem dX10_go_212 : decode cX10_go 212 = .ok (.putfield 46, 3) := dGR_10_c_67.2.2.2.2.1
theorem dX10_go_215 : decode cX10_go 215 = .ok (.return_, 1) := dGR_10_c_67.2.2.2.2.2
set_option maxRecDepth 100000 in
theorem dGR_10_c_68 : (decode cX10_isTaken 0 = .ok (.aload_n 0, 1)) ∧ (decode cX10_isTaken 1 = .ok (.getfield 36, 3)) ∧ (decode cX10_isTaken 4 = .ok (.aload_n 1, 1)) ∧ (decode cX10_isTaken 5 = .ok (.getfield 63, 3)) ∧ (decode cX10_isTaken 8 = .ok (.iand, 1)) ∧ (decode cX10_isTaken 9 = .ok (.ifCond .eq 7, 3)) ∧ (decode cX10_isTaken 12 = .ok (.iconst 1, 1)) ∧ (decode cX10_isTaken 13 = .ok (.goto 4, 3)) ∧ (decode cX10_isTaken 16 = .ok (.iconst 0, 1)) ∧ (decode cX10_isTaken 17 = .ok (.ireturn, 1)) := by decide +kernel
theorem dX10_isTaken_0 : decode cX10_isTaken 0 = .ok (.aload_n 0, 1) := dGR_10_c_68.1
theorem dX10_isTaken_1 : decode cX10_isTaken 1 = .ok (.getfield 36, 3) := dGR_10_c_68.2.1
theorem dX10_isTaken_4 : decode cX10_isTaken 4 = .ok (.aload_n 1, 1) := dGR_10_c_68.2.2.1
theorem dX10_isTaken_5 : decode cX10_isTaken 5 = .ok (.getfield 63, 3) := dGR_10_c_68.2.2.2.1
theorem dX10_isTaken_8 : decode cX10_isTaken 8 = .ok (.iand, 1) := dGR_10_c_68.2.2.2.2.1
theorem dX10_isTaken_9 : decode cX10_isTaken 9 = .ok (.ifCond .eq 7, 3) := dGR_10_c_68.2.2.2.2.2.1
theorem dX10_isTaken_12 : decode cX10_isTaken 12 = .ok (.iconst 1, 1) := dGR_10_c_68.2.2.2.2.2.2.1
theorem dX10_isTaken_13 : decode cX10_isTaken 13 = .ok (.goto 4, 3) := dGR_10_c_68.2.2.2.2.2.2.2.1
theorem dX10_isTaken_16 : decode cX10_isTaken 16 = .ok (.iconst 0, 1) := dGR_10_c_68.2.2.2.2.2.2.2.2.1
theorem dX10_isTaken_17 : decode cX10_isTaken 17 = .ok (.ireturn, 1) := dGR_10_c_68.2.2.2.2.2.2.2.2.2
set_option maxRecDepth 100000 in
theorem dGR_10_c_69 : (decode cX10_become 0 = .ok (.aload_n 0, 1)) ∧ (decode cX10_become 1 = .ok (.aload_n 1, 1)) ∧ (decode cX10_become 2 = .ok (.getfield 9, 3)) ∧ (decode cX10_become 5 = .ok (.putfield 9, 3)) ∧ (decode cX10_become 8 = .ok (.aload_n 0, 1)) ∧ (decode cX10_become 9 = .ok (.aload_n 1, 1)) ∧ (decode cX10_become 10 = .ok (.getfield 25, 3)) ∧ (decode cX10_become 13 = .ok (.putfield 25, 3)) ∧ (decode cX10_become 16 = .ok (.aload_n 0, 1)) ∧ (decode cX10_become 17 = .ok (.aload_n 1, 1)) ∧ (decode cX10_become 18 = .ok (.getfield 28, 3)) ∧ (decode cX10_become 21 = .ok (.putfield 28, 3)) := by decide +kernel
theorem dX10_become_0 : decode cX10_become 0 = .ok (.aload_n 0, 1) := dGR_10_c_69.1
theorem dX10_become_1 : decode cX10_become 1 = .ok (.aload_n 1, 1) := dGR_10_c_69.2.1
theorem dX10_become_2 : decode cX10_become 2 = .ok (.getfield 9, 3) := dGR_10_c_69.2.2.1
theorem dX10_become_5 : decode cX10_become 5 = .ok (.putfield 9, 3) := dGR_10_c_69.2.2.2.1
theorem dX10_become_8 : decode cX10_become 8 = .ok (.aload_n 0, 1) := dGR_10_c_69.2.2.2.2.1
theorem dX10_become_9 : decode cX10_become 9 = .ok (.aload_n 1, 1) := dGR_10_c_69.2.2.2.2.2.1
theorem dX10_become_10 : decode cX10_become 10 = .ok (.getfield 25, 3) := dGR_10_c_69.2.2.2.2.2.2.1
theorem dX10_become_13 : decode cX10_become 13 = .ok (.putfield 25, 3) := dGR_10_c_69.2.2.2.2.2.2.2.1
theorem dX10_become_16 : decode cX10_become 16 = .ok (.aload_n 0, 1) := dGR_10_c_69.2.2.2.2.2.2.2.2.1
theorem dX10_become_17 : decode cX10_become 17 = .ok (.aload_n 1, 1) := dGR_10_c_69.2.2.2.2.2.2.2.2.2.1
theorem dX10_become_18 : decode cX10_become 18 = .ok (.getfield 28, 3) := dGR_10_c_69.2.2.2.2.2.2.2.2.2.2.1
theorem dX10_become_21 : decode cX10_become 21 = .ok (.putfield 28, 3) := dGR_10_c_69.2.2.2.2.2.2.2.2.2.2.2
set_option maxRecDepth 100000 in
theorem dGR_10_c_70 : (decode cX10_become 24 = .ok (.aload_n 0, 1)) ∧ (decode cX10_become 25 = .ok (.aload_n 1, 1)) ∧ (decode cX10_become 26 = .ok (.getfield 36, 3)) ∧ (decode cX10_become 29 = .ok (.putfield 36, 3)) ∧ (decode cX10_become 32 = .ok (.aload_n 0, 1)) ∧ (decode cX10_become 33 = .ok (.aload_n 1, 1)) ∧ (decode cX10_become 34 = .ok (.getfield 46, 3)) ∧ (decode cX10_become 37 = .ok (.putfield 46, 3)) ∧ (decode cX10_become 40 = .ok (.aload_n 1, 1)) ∧ (decode cX10_become 41 = .ok (.getfield 15, 3)) ∧ (decode cX10_become 44 = .ok (.iconst 0, 1)) ∧ (decode cX10_become 45 = .ok (.aload_n 0, 1)) := by decide +kernel
theorem dX10_become_24 : decode cX10_become 24 = .ok (.aload_n 0, 1) := dGR_10_c_70.1
theorem dX10_become_25 : decode cX10_become 25 = .ok (.aload_n 1, 1) := dGR_10_c_70.2.1
theorem dX10_become_26 : decode cX10_become 26 = .ok (.getfield 36, 3) := dGR_10_c_70.2.2.1
theorem dX10_become_29 : decode cX10_become 29 = .ok (.putfield 36, 3) := dGR_10_c_70.2.2.2.1
theorem dX10_become_32 : decode cX10_become 32 = .ok (.aload_n 0, 1) := dGR_10_c_70.2.2.2.2.1
theorem dX10_become_33 : decode cX10_become 33 = .ok (.aload_n 1, 1) := dGR_10_c_70.2.2.2.2.2.1
theorem dX10_become_34 : decode cX10_become 34 = .ok (.getfield 46, 3) := dGR_10_c_70.2.2.2.2.2.2.1
theorem dX10_become_37 : decode cX10_become 37 = .ok (.putfield 46, 3) := dGR_10_c_70.2.2.2.2.2.2.2.1
theorem dX10_become_40 : decode cX10_become 40 = .ok (.aload_n 1, 1) := dGR_10_c_70.2.2.2.2.2.2.2.2.1
theorem dX10_become_41 : decode cX10_become 41 = .ok (.getfield 15, 3) := dGR_10_c_70.2.2.2.2.2.2.2.2.2.1
theorem dX10_become_44 : decode cX10_become 44 = .ok (.iconst 0, 1) := dGR_10_c_70.2.2.2.2.2.2.2.2.2.2.1
theorem dX10_become_45 : decode cX10_become 45 = .ok (.aload_n 0, 1) := dGR_10_c_70.2.2.2.2.2.2.2.2.2.2.2
set_option maxRecDepth 100000 in
theorem dGR_10_c_71 : (decode cX10_become 46 = .ok (.getfield 15, 3)) ∧ (decode cX10_become 49 = .ok (.iconst 0, 1)) ∧ (decode cX10_become 50 = .ok (.bipush 30, 2)) ∧ (decode cX10_become 52 = .ok (.invokestatic 66, 3)) ∧ (decode cX10_become 55 = .ok (.aload_n 1, 1)) ∧ (decode cX10_become 56 = .ok (.getfield 19, 3)) ∧ (decode cX10_become 59 = .ok (.iconst 0, 1)) ∧ (decode cX10_become 60 = .ok (.aload_n 0, 1)) ∧ (decode cX10_become 61 = .ok (.getfield 19, 3)) ∧ (decode cX10_become 64 = .ok (.iconst 0, 1)) ∧ (decode cX10_become 65 = .ok (.bipush 30, 2)) ∧ (decode cX10_become 67 = .ok (.invokestatic 66, 3)) := by decide +kernel
theorem dX10_become_46 : decode cX10_become 46 = .ok (.getfield 15, 3) := dGR_10_c_71.1
theorem dX10_become_49 : decode cX10_become 49 = .ok (.iconst 0, 1) := dGR_10_c_71.2.1
theorem dX10_become_50 : decode cX10_become 50 = .ok (.bipush 30, 2) := dGR_10_c_71.2.2.1
theorem dX10_become_52 : decode cX10_become 52 = .ok (.invokestatic 66, 3) := dGR_10_c_71.2.2.2.1
theorem dX10_become_55 : decode cX10_become 55 = .ok (.aload_n 1, 1) := dGR_10_c_71.2.2.2.2.1
theorem dX10_become_56 : decode cX10_become 56 = .ok (.getfield 19, 3) := dGR_10_c_71.2.2.2.2.2.1
theorem dX10_become_59 : decode cX10_become 59 = .ok (.iconst 0, 1) := dGR_10_c_71.2.2.2.2.2.2.1
theorem dX10_become_60 : decode cX10_become 60 = .ok (.aload_n 0, 1) := dGR_10_c_71.2.2.2.2.2.2.2.1
theorem dX10_become_61 : decode cX10_become 61 = .ok (.getfield 19, 3) := dGR_10_c_71.2.2.2.2.2.2.2.2.1
theorem dX10_become_64 : decode cX10_become 64 = .ok (.iconst 0, 1) := dGR_10_c_71.2.2.2.2.2.2.2.2.2.1
theorem dX10_become_65 : decode cX10_become 65 = .ok (.bipush 30, 2) := dGR_10_c_71.2.2.2.2.2.2.2.2.2.2.1
theorem dX10_become_67 : decode cX10_become 67 = .ok (.invokestatic 66, 3) := dGR_10_c_71.2.2.2.2.2.2.2.2.2.2.2
set_option maxRecDepth 100000 in
theorem dGR_10_c_72 : (decode cX10_become 70 = .ok (.aload_n 1, 1)) ∧ (decode cX10_become 71 = .ok (.getfield 22, 3)) ∧ (decode cX10_become 74 = .ok (.iconst 0, 1)) ∧ (decode cX10_become 75 = .ok (.aload_n 0, 1)) ∧ (decode cX10_become 76 = .ok (.getfield 22, 3)) ∧ (decode cX10_become 79 = .ok (.iconst 0, 1)) ∧ (decode cX10_become 80 = .ok (.bipush 30, 2)) ∧ (decode cX10_become 82 = .ok (.invokestatic 66, 3)) ∧ (decode cX10_become 85 = .ok (.return_, 1)) := by decide +kernel
theorem dX10_become_70 : decode cX10_become 70 = .ok (.aload_n 1, 1) := dGR_10_c_72.1
theorem dX10_become_71 : decode cX10_become 71 = .ok (.getfield 22, 3) := dGR_10_c_72.2.1
theorem dX10_become_74 : decode cX10_become 74 = .ok (.iconst 0, 1) := dGR_10_c_72.2.2.1
theorem dX10_become_75 : decode cX10_become 75 = .ok (.aload_n 0, 1) := dGR_10_c_72.2.2.2.1
theorem dX10_become_76 : decode cX10_become 76 = .ok (.getfield 22, 3) := dGR_10_c_72.2.2.2.2.1
theorem dX10_become_79 : decode cX10_become 79 = .ok (.iconst 0, 1) := dGR_10_c_72.2.2.2.2.2.1
theorem dX10_become_80 : decode cX10_become 80 = .ok (.bipush 30, 2) := dGR_10_c_72.2.2.2.2.2.2.1
theorem dX10_become_82 : decode cX10_become 82 = .ok (.invokestatic 66, 3) := dGR_10_c_72.2.2.2.2.2.2.2.1
theorem dX10_become_85 : decode cX10_become 85 = .ok (.return_, 1) := dGR_10_c_72.2.2.2.2.2.2.2.2
set_option maxRecDepth 100000 in
theorem dGR_10_c_73 : (decode cX5_has 0 = .ok (.iload_n 1, 1)) ∧ (decode cX5_has 1 = .ok (.ifCond .lt 15, 3)) ∧ (decode cX5_has 4 = .ok (.iload_n 1, 1)) ∧ (decode cX5_has 5 = .ok (.aload_n 0, 1)) ∧ (decode cX5_has 6 = .ok (.getfield 38, 3)) ∧ (decode cX5_has 9 = .ok (.if_icmp .ge 7, 3)) ∧ (decode cX5_has 12 = .ok (.iconst 1, 1)) ∧ (decode cX5_has 13 = .ok (.goto 4, 3)) ∧ (decode cX5_has 16 = .ok (.iconst 0, 1)) ∧ (decode cX5_has 17 = .ok (.ireturn, 1)) := by decide +kernel
theorem dX5_has_0 : decode cX5_has 0 = .ok (.iload_n 1, 1) := dGR_10_c_73.1
theorem dX5_has_1 : decode cX5_has 1 = .ok (.ifCond .lt 15, 3) := dGR_10_c_73.2.1
theorem dX5_has_4 : decode cX5_has 4 = .ok (.iload_n 1, 1) := dGR_10_c_73.2.2.1
theorem dX5_has_5 : decode cX5_has 5 = .ok (.aload_n 0, 1) := dGR_10_c_73.2.2.2.1
theorem dX5_has_6 : decode cX5_has 6 = .ok (.getfield 38, 3) := dGR_10_c_73.2.2.2.2.1
theorem dX5_has_9 : decode cX5_has 9 = .ok (.if_icmp .ge 7, 3) := dGR_10_c_73.2.2.2.2.2.1
theorem dX5_has_12 : decode cX5_has 12 = .ok (.iconst 1, 1) := dGR_10_c_73.2.2.2.2.2.2.1
theorem dX5_has_13 : decode cX5_has 13 = .ok (.goto 4, 3) := dGR_10_c_73.2.2.2.2.2.2.2.1
theorem dX5_has_16 : decode cX5_has 16 = .ok (.iconst 0, 1) := dGR_10_c_73.2.2.2.2.2.2.2.2.1
theorem dX5_has_17 : decode cX5_has 17 = .ok (.ireturn, 1) := dGR_10_c_73.2.2.2.2.2.2.2.2.2
set_option maxHeartbeats 4000000 in
set_option maxRecDepth 100000 in
theorem c_X5_has (G : KG) (l : Launch) (M : Mem) (c0 : Int) (a1 : Int) (hI_M : Inv false M) (hk_c0 : kd c0 = 12) (hpre : -2147483648 ≤ a1 ∧ a1 ≤ 2147483647) : KC false G l yX5_has cX5_has 2 (some .boolean) (0, 0) [vR G c0, vI a1] M (fun A => kQi false G A (fun (r : Int) (N : Mem) => M = N ∧ ((r = 1 ∧ 0 ≤ a1 ∧ a1 < (M c0 3)) ∨ (r = 0)))) := by
  refine kx_met (lo := [some (vR G c0), some (vI a1)]) (by decide) (Nat.le_of_ble_eq_true rfl) rfl ?_
  intro X F hQ
  refine kx_iload_n 1 F 1 dX5_has_0 rfl rfl rfl ?_
  refine kx_if_lt 4 F 16 dX5_has_1 (by decide) rfl (by omega) (fun h_1 => ?_) (fun h_1 => ?_)
  · refine kx_iconst 17 F dX5_has_16 rfl ?_
    have h_2 := Inv.g hI_M hk_c0 rfl 3 (a := 0) (b := 2) rfl rfl
    exact kx_zret F hQ (by omega) ⟨rfl, (by omega)⟩ dX5_has_17
  · refine kx_iload_n 5 F 1 dX5_has_4 rfl rfl rfl ?_
    refine kx_aload_n 6 F 0 dX5_has_5 rfl rfl rfl ?_
    refine kx_geti 9 F fl_X5_38 hk_c0 rfl rfl (j := 3) rfl dX5_has_6 (v := (M c0 3)) rfl rfl ?_
    have h_3 := Inv.g hI_M hk_c0 rfl 3 (a := 0) (b := 2) rfl rfl
    refine kx_icmp_ge 12 F 16 dX5_has_9 (by decide) rfl (by omega) (by omega) (fun h_4 => ?_) (fun h_4 => ?_)
    · refine kx_iconst 17 F dX5_has_16 rfl ?_
      exact kx_zret F hQ (by omega) ⟨rfl, (by omega)⟩ dX5_has_17
    · refine kx_iconst 13 F dX5_has_12 rfl ?_
      refine kx_goto 17 F dX5_has_13 (by decide) ?_
      exact kx_zret F hQ (by omega) ⟨rfl, (by omega)⟩ dX5_has_17
set_option maxRecDepth 100000 in
theorem dGR_10_c_74 : (decode cX5_pick 0 = .ok (.iload_n 1, 1)) ∧ (decode cX5_pick 1 = .ok (.ifCond .ne 10, 3)) ∧ (decode cX5_pick 4 = .ok (.aload_n 0, 1)) ∧ (decode cX5_pick 5 = .ok (.getfield 12, 3)) ∧ (decode cX5_pick 8 = .ok (.goto 7, 3)) ∧ (decode cX5_pick 11 = .ok (.aload_n 0, 1)) ∧ (decode cX5_pick 12 = .ok (.getfield 18, 3)) ∧ (decode cX5_pick 15 = .ok (.areturn, 1)) := by decide +kernel
theorem dX5_pick_0 : decode cX5_pick 0 = .ok (.iload_n 1, 1) := dGR_10_c_74.1
theorem dX5_pick_1 : decode cX5_pick 1 = .ok (.ifCond .ne 10, 3) := dGR_10_c_74.2.1
theorem dX5_pick_4 : decode cX5_pick 4 = .ok (.aload_n 0, 1) := dGR_10_c_74.2.2.1
theorem dX5_pick_5 : decode cX5_pick 5 = .ok (.getfield 12, 3) := dGR_10_c_74.2.2.2.1
theorem dX5_pick_8 : decode cX5_pick 8 = .ok (.goto 7, 3) := dGR_10_c_74.2.2.2.2.1
theorem dX5_pick_11 : decode cX5_pick 11 = .ok (.aload_n 0, 1) := dGR_10_c_74.2.2.2.2.2.1
theorem dX5_pick_12 : decode cX5_pick 12 = .ok (.getfield 18, 3) := dGR_10_c_74.2.2.2.2.2.2.1
theorem dX5_pick_15 : decode cX5_pick 15 = .ok (.areturn, 1) := dGR_10_c_74.2.2.2.2.2.2.2
set_option maxHeartbeats 4000000 in
set_option maxRecDepth 100000 in
theorem c_X5_pick (G : KG) (l : Launch) (M : Mem) (c0 : Int) (a1 : Int) (hI_M : Inv false M) (hk_c0 : kd c0 = 12) (hpre : -2147483648 ≤ a1 ∧ a1 ≤ 2147483647) : KC false G l yX5_pick cX5_pick 2 (some (.object "NestedChecker$Automaton")) (0, 0) [vR G c0, vI a1] M (fun A => kQr false G A (fun (r : Int) (N : Mem) => M = N ∧ kd r = 1)) := by
  refine kx_met (lo := [some (vR G c0), some (vI a1)]) (by decide) (Nat.le_of_ble_eq_true rfl) rfl ?_
  intro X F hQ
  refine kx_iload_n 1 F 1 dX5_pick_0 rfl rfl rfl ?_
  refine kx_if_ne 4 F 11 dX5_pick_1 (by decide) rfl (by omega) (fun h_1 => ?_) (fun h_1 => ?_)
  · refine kx_aload_n 12 F 0 dX5_pick_11 rfl rfl rfl ?_
    refine kx_getr 15 F fl_X5_18 hk_c0 rfl rfl (j := 5) rfl dX5_pick_12 (v := (M c0 5)) rfl rfl ?_
    have hk_2 : kd (M c0 5) = 1 := Inv.r hI_M hk_c0 rfl 5 rfl rfl
    exact kx_aret F hQ ⟨rfl, hk_2⟩ dX5_pick_15
  · refine kx_aload_n 5 F 0 dX5_pick_4 rfl rfl rfl ?_
    refine kx_getr 8 F fl_X5_12 hk_c0 rfl rfl (j := 4) rfl dX5_pick_5 (v := (M c0 4)) rfl rfl ?_
    have hk_3 : kd (M c0 4) = 1 := Inv.r hI_M hk_c0 rfl 4 rfl rfl
    refine kx_goto 15 F dX5_pick_8 (by decide) ?_
    exact kx_aret F hQ ⟨rfl, hk_3⟩ dX5_pick_15
set_option maxHeartbeats 4000000 in
set_option maxRecDepth 100000 in
theorem c_X5_pickE (G : KG) (l : Launch) (M : Mem) (c0 : Int) (a1 : Int) (hI_M : Inv false M) (hk_c0 : kd c0 = 12) (hpre : -2147483648 ≤ a1 ∧ a1 ≤ 2147483647) : KC false G l yX5_pick cX5_pick 2 (some (.object "NestedChecker$Automaton")) (0, 0) [vR G c0, vI a1] M (fun A => kQr false G A (fun (r : Int) (N : Mem) => M = N ∧ kd r = 1 ∧ (((a1 = 0) ∧ r = (M c0 4)) ∨ ((a1 ≠ 0) ∧ r = (M c0 5))))) := by
  refine kx_met (lo := [some (vR G c0), some (vI a1)]) (by decide) (Nat.le_of_ble_eq_true rfl) rfl ?_
  intro X F hQ
  refine kx_iload_n 1 F 1 dX5_pick_0 rfl rfl rfl ?_
  refine kx_if_ne 4 F 11 dX5_pick_1 (by decide) rfl (by omega) (fun h_1 => ?_) (fun h_1 => ?_)
  · refine kx_aload_n 12 F 0 dX5_pick_11 rfl rfl rfl ?_
    refine kx_getr 15 F fl_X5_18 hk_c0 rfl rfl (j := 5) rfl dX5_pick_12 (v := (M c0 5)) rfl rfl ?_
    have hk_2 : kd (M c0 5) = 1 := Inv.r hI_M hk_c0 rfl 5 rfl rfl
    exact kx_aret F hQ ⟨rfl, hk_2, Or.inr ⟨(by omega), rfl⟩⟩ dX5_pick_15
  · refine kx_aload_n 5 F 0 dX5_pick_4 rfl rfl rfl ?_
    refine kx_getr 8 F fl_X5_12 hk_c0 rfl rfl (j := 4) rfl dX5_pick_5 (v := (M c0 4)) rfl rfl ?_
    have hk_3 : kd (M c0 4) = 1 := Inv.r hI_M hk_c0 rfl 4 rfl rfl
    refine kx_goto 15 F dX5_pick_8 (by decide) ?_
    exact kx_aret F hQ ⟨rfl, hk_3, Or.inl ⟨(by omega), rfl⟩⟩ dX5_pick_15
set_option maxRecDepth 100000 in
theorem dGR_10_c_75 : (decode cX5_hasLetter 0 = .ok (.iload_n 1, 1)) ∧ (decode cX5_hasLetter 1 = .ok (.ifCond .lt 15, 3)) ∧ (decode cX5_hasLetter 4 = .ok (.iload_n 1, 1)) ∧ (decode cX5_hasLetter 5 = .ok (.aload_n 0, 1)) ∧ (decode cX5_hasLetter 6 = .ok (.getfield 35, 3)) ∧ (decode cX5_hasLetter 9 = .ok (.if_icmp .ge 7, 3)) ∧ (decode cX5_hasLetter 12 = .ok (.iconst 1, 1)) ∧ (decode cX5_hasLetter 13 = .ok (.goto 4, 3)) ∧ (decode cX5_hasLetter 16 = .ok (.iconst 0, 1)) ∧ (decode cX5_hasLetter 17 = .ok (.ireturn, 1)) := by decide +kernel
theorem dX5_hasLetter_0 : decode cX5_hasLetter 0 = .ok (.iload_n 1, 1) := dGR_10_c_75.1
theorem dX5_hasLetter_1 : decode cX5_hasLetter 1 = .ok (.ifCond .lt 15, 3) := dGR_10_c_75.2.1
theorem dX5_hasLetter_4 : decode cX5_hasLetter 4 = .ok (.iload_n 1, 1) := dGR_10_c_75.2.2.1
theorem dX5_hasLetter_5 : decode cX5_hasLetter 5 = .ok (.aload_n 0, 1) := dGR_10_c_75.2.2.2.1
theorem dX5_hasLetter_6 : decode cX5_hasLetter 6 = .ok (.getfield 35, 3) := dGR_10_c_75.2.2.2.2.1
theorem dX5_hasLetter_9 : decode cX5_hasLetter 9 = .ok (.if_icmp .ge 7, 3) := dGR_10_c_75.2.2.2.2.2.1
theorem dX5_hasLetter_12 : decode cX5_hasLetter 12 = .ok (.iconst 1, 1) := dGR_10_c_75.2.2.2.2.2.2.1
theorem dX5_hasLetter_13 : decode cX5_hasLetter 13 = .ok (.goto 4, 3) := dGR_10_c_75.2.2.2.2.2.2.2.1
theorem dX5_hasLetter_16 : decode cX5_hasLetter 16 = .ok (.iconst 0, 1) := dGR_10_c_75.2.2.2.2.2.2.2.2.1
theorem dX5_hasLetter_17 : decode cX5_hasLetter 17 = .ok (.ireturn, 1) := dGR_10_c_75.2.2.2.2.2.2.2.2.2
set_option maxRecDepth 100000 in
theorem dGR_10_c_76 : (decode cX5_sortOf 0 = .ok (.aload_n 0, 1)) ∧ (decode cX5_sortOf 1 = .ok (.iload_n 1, 1)) ∧ (decode cX5_sortOf 2 = .ok (.invokevirtual 51, 3)) ∧ (decode cX5_sortOf 5 = .ok (.ifCond .ne 5, 3)) ∧ (decode cX5_sortOf 8 = .ok (.iconst (-1), 1)) ∧ (decode cX5_sortOf 9 = .ok (.ireturn, 1)) ∧ (decode cX5_sortOf 10 = .ok (.iload_n 1, 1)) ∧ (decode cX5_sortOf 11 = .ok (.aload_n 0, 1)) ∧ (decode cX5_sortOf 12 = .ok (.getfield 28, 3)) ∧ (decode cX5_sortOf 15 = .ok (.if_icmp .ge 5, 3)) ∧ (decode cX5_sortOf 18 = .ok (.iconst 0, 1)) ∧ (decode cX5_sortOf 19 = .ok (.ireturn, 1)) := by decide +kernel
theorem dX5_sortOf_0 : decode cX5_sortOf 0 = .ok (.aload_n 0, 1) := dGR_10_c_76.1
theorem dX5_sortOf_1 : decode cX5_sortOf 1 = .ok (.iload_n 1, 1) := dGR_10_c_76.2.1
theorem dX5_sortOf_2 : decode cX5_sortOf 2 = .ok (.invokevirtual 51, 3) := dGR_10_c_76.2.2.1
theorem dX5_sortOf_5 : decode cX5_sortOf 5 = .ok (.ifCond .ne 5, 3) := dGR_10_c_76.2.2.2.1
theorem dX5_sortOf_8 : decode cX5_sortOf 8 = .ok (.iconst (-1), 1) := dGR_10_c_76.2.2.2.2.1
theorem dX5_sortOf_9 : decode cX5_sortOf 9 = .ok (.ireturn, 1) := dGR_10_c_76.2.2.2.2.2.1
theorem dX5_sortOf_10 : decode cX5_sortOf 10 = .ok (.iload_n 1, 1) := dGR_10_c_76.2.2.2.2.2.2.1
theorem dX5_sortOf_11 : decode cX5_sortOf 11 = .ok (.aload_n 0, 1) := dGR_10_c_76.2.2.2.2.2.2.2.1
theorem dX5_sortOf_12 : decode cX5_sortOf 12 = .ok (.getfield 28, 3) := dGR_10_c_76.2.2.2.2.2.2.2.2.1
theorem dX5_sortOf_15 : decode cX5_sortOf 15 = .ok (.if_icmp .ge 5, 3) := dGR_10_c_76.2.2.2.2.2.2.2.2.2.1
theorem dX5_sortOf_18 : decode cX5_sortOf 18 = .ok (.iconst 0, 1) := dGR_10_c_76.2.2.2.2.2.2.2.2.2.2.1
theorem dX5_sortOf_19 : decode cX5_sortOf 19 = .ok (.ireturn, 1) := dGR_10_c_76.2.2.2.2.2.2.2.2.2.2.2
set_option maxRecDepth 100000 in
theorem dGR_10_c_77 : (decode cX5_sortOf 20 = .ok (.iload_n 1, 1)) ∧ (decode cX5_sortOf 21 = .ok (.aload_n 0, 1)) ∧ (decode cX5_sortOf 22 = .ok (.getfield 32, 3)) ∧ (decode cX5_sortOf 25 = .ok (.if_icmp .ge 7, 3)) ∧ (decode cX5_sortOf 28 = .ok (.iconst 1, 1)) ∧ (decode cX5_sortOf 29 = .ok (.goto 4, 3)) ∧ (decode cX5_sortOf 32 = .ok (.iconst 2, 1)) ∧ (decode cX5_sortOf 33 = .ok (.ireturn, 1)) := by decide +kernel
theorem dX5_sortOf_20 : decode cX5_sortOf 20 = .ok (.iload_n 1, 1) := dGR_10_c_77.1
theorem dX5_sortOf_21 : decode cX5_sortOf 21 = .ok (.aload_n 0, 1) := dGR_10_c_77.2.1
theorem dX5_sortOf_22 : decode cX5_sortOf 22 = .ok (.getfield 32, 3) := dGR_10_c_77.2.2.1
theorem dX5_sortOf_25 : decode cX5_sortOf 25 = .ok (.if_icmp .ge 7, 3) := dGR_10_c_77.2.2.2.1
theorem dX5_sortOf_28 : decode cX5_sortOf 28 = .ok (.iconst 1, 1) := dGR_10_c_77.2.2.2.2.1
theorem dX5_sortOf_29 : decode cX5_sortOf 29 = .ok (.goto 4, 3) := dGR_10_c_77.2.2.2.2.2.1
theorem dX5_sortOf_32 : decode cX5_sortOf 32 = .ok (.iconst 2, 1) := dGR_10_c_77.2.2.2.2.2.2.1
theorem dX5_sortOf_33 : decode cX5_sortOf 33 = .ok (.ireturn, 1) := dGR_10_c_77.2.2.2.2.2.2.2
set_option maxRecDepth 100000 in
theorem dGR_10_c_78 : (decode cX5_manyOf 0 = .ok (.iload_n 1, 1)) ∧ (decode cX5_manyOf 1 = .ok (.ifCond .ne 8, 3)) ∧ (decode cX5_manyOf 4 = .ok (.aload_n 0, 1)) ∧ (decode cX5_manyOf 5 = .ok (.getfield 28, 3)) ∧ (decode cX5_manyOf 8 = .ok (.ireturn, 1)) ∧ (decode cX5_manyOf 9 = .ok (.iload_n 1, 1)) ∧ (decode cX5_manyOf 10 = .ok (.iconst 1, 1)) ∧ (decode cX5_manyOf 11 = .ok (.if_icmp .ne 15, 3)) ∧ (decode cX5_manyOf 14 = .ok (.aload_n 0, 1)) ∧ (decode cX5_manyOf 15 = .ok (.getfield 32, 3)) ∧ (decode cX5_manyOf 18 = .ok (.aload_n 0, 1)) ∧ (decode cX5_manyOf 19 = .ok (.getfield 28, 3)) := by decide +kernel
theorem dX5_manyOf_0 : decode cX5_manyOf 0 = .ok (.iload_n 1, 1) := dGR_10_c_78.1
theorem dX5_manyOf_1 : decode cX5_manyOf 1 = .ok (.ifCond .ne 8, 3) := dGR_10_c_78.2.1
theorem dX5_manyOf_4 : decode cX5_manyOf 4 = .ok (.aload_n 0, 1) := dGR_10_c_78.2.2.1
theorem dX5_manyOf_5 : decode cX5_manyOf 5 = .ok (.getfield 28, 3) := dGR_10_c_78.2.2.2.1
theorem dX5_manyOf_8 : decode cX5_manyOf 8 = .ok (.ireturn, 1) := dGR_10_c_78.2.2.2.2.1
theorem dX5_manyOf_9 : decode cX5_manyOf 9 = .ok (.iload_n 1, 1) := dGR_10_c_78.2.2.2.2.2.1
theorem dX5_manyOf_10 : decode cX5_manyOf 10 = .ok (.iconst 1, 1) := dGR_10_c_78.2.2.2.2.2.2.1
theorem dX5_manyOf_11 : decode cX5_manyOf 11 = .ok (.if_icmp .ne 15, 3) := dGR_10_c_78.2.2.2.2.2.2.2.1
theorem dX5_manyOf_14 : decode cX5_manyOf 14 = .ok (.aload_n 0, 1) := dGR_10_c_78.2.2.2.2.2.2.2.2.1
theorem dX5_manyOf_15 : decode cX5_manyOf 15 = .ok (.getfield 32, 3) := dGR_10_c_78.2.2.2.2.2.2.2.2.2.1
theorem dX5_manyOf_18 : decode cX5_manyOf 18 = .ok (.aload_n 0, 1) := dGR_10_c_78.2.2.2.2.2.2.2.2.2.2.1
theorem dX5_manyOf_19 : decode cX5_manyOf 19 = .ok (.getfield 28, 3) := dGR_10_c_78.2.2.2.2.2.2.2.2.2.2.2
set_option maxRecDepth 100000 in
theorem dGR_10_c_79 : (decode cX5_manyOf 22 = .ok (.isub, 1)) ∧ (decode cX5_manyOf 23 = .ok (.goto 12, 3)) ∧ (decode cX5_manyOf 26 = .ok (.aload_n 0, 1)) ∧ (decode cX5_manyOf 27 = .ok (.getfield 35, 3)) ∧ (decode cX5_manyOf 30 = .ok (.aload_n 0, 1)) ∧ (decode cX5_manyOf 31 = .ok (.getfield 32, 3)) ∧ (decode cX5_manyOf 34 = .ok (.isub, 1)) ∧ (decode cX5_manyOf 35 = .ok (.ireturn, 1)) := by decide +kernel
theorem dX5_manyOf_22 : decode cX5_manyOf 22 = .ok (.isub, 1) := dGR_10_c_79.1
theorem dX5_manyOf_23 : decode cX5_manyOf 23 = .ok (.goto 12, 3) := dGR_10_c_79.2.1
theorem dX5_manyOf_26 : decode cX5_manyOf 26 = .ok (.aload_n 0, 1) := dGR_10_c_79.2.2.1
theorem dX5_manyOf_27 : decode cX5_manyOf 27 = .ok (.getfield 35, 3) := dGR_10_c_79.2.2.2.1
theorem dX5_manyOf_30 : decode cX5_manyOf 30 = .ok (.aload_n 0, 1) := dGR_10_c_79.2.2.2.2.1
theorem dX5_manyOf_31 : decode cX5_manyOf 31 = .ok (.getfield 32, 3) := dGR_10_c_79.2.2.2.2.2.1
theorem dX5_manyOf_34 : decode cX5_manyOf 34 = .ok (.isub, 1) := dGR_10_c_79.2.2.2.2.2.2.1
theorem dX5_manyOf_35 : decode cX5_manyOf 35 = .ok (.ireturn, 1) := dGR_10_c_79.2.2.2.2.2.2.2
set_option maxHeartbeats 4000000 in
set_option maxRecDepth 100000 in
theorem c_X5_manyOf (G : KG) (l : Launch) (M : Mem) (c0 : Int) (a1 : Int) (hI_M : Inv false M) (hk_c0 : kd c0 = 12) (hpre : -2147483648 ≤ a1 ∧ a1 ≤ 2147483647) : KC false G l yX5_manyOf cX5_manyOf 2 (some .int) (0, 0) [vR G c0, vI a1] M (fun A => kQi false G A (fun (r : Int) (N : Mem) => M = N ∧ ((a1 = 0 ∧ r = (M c0 0)) ∨ (a1 = 1 ∧ r = (M c0 1) - (M c0 0)) ∨ (a1 ≠ 0 ∧ a1 ≠ 1 ∧ r = (M c0 2) - (M c0 1))))) := by
  refine kx_met (lo := [some (vR G c0), some (vI a1)]) (by decide) (Nat.le_of_ble_eq_true rfl) rfl ?_
  intro X F hQ
  refine kx_iload_n 1 F 1 dX5_manyOf_0 rfl rfl rfl ?_
  refine kx_if_ne 4 F 9 dX5_manyOf_1 (by decide) rfl (by omega) (fun h_1 => ?_) (fun h_1 => ?_)
  · refine kx_iload_n 10 F 1 dX5_manyOf_9 rfl rfl rfl ?_
    refine kx_iconst 11 F dX5_manyOf_10 rfl ?_
    refine kx_icmp_ne 14 F 26 dX5_manyOf_11 (by decide) rfl (by omega) (by decide) (fun h_2 => ?_) (fun h_2 => ?_)
    · refine kx_aload_n 27 F 0 dX5_manyOf_26 rfl rfl rfl ?_
      refine kx_geti 30 F fl_X5_35 hk_c0 rfl rfl (j := 2) rfl dX5_manyOf_27 (v := (M c0 2)) rfl rfl ?_
      have h_3 := Inv.g hI_M hk_c0 rfl 2 (a := 0) (b := 6) rfl rfl
      refine kx_aload_n 31 F 0 dX5_manyOf_30 rfl rfl rfl ?_
      refine kx_geti 34 F fl_X5_32 hk_c0 rfl rfl (j := 1) rfl dX5_manyOf_31 (v := (M c0 1)) rfl rfl ?_
      have h_4 := Inv.g hI_M hk_c0 rfl 1 (a := 0) (b := 4) rfl rfl
      refine kx_isub 35 F (v := (M c0 2) - (M c0 1)) dX5_manyOf_34 rfl rfl ?_
      have h_5 := Inv.g hI_M hk_c0 rfl 0 (a := 0) (b := 2) rfl rfl
      exact kx_iret F hQ ⟨rfl, (by omega)⟩ dX5_manyOf_35
    · refine kx_aload_n 15 F 0 dX5_manyOf_14 rfl rfl rfl ?_
      refine kx_geti 18 F fl_X5_32 hk_c0 rfl rfl (j := 1) rfl dX5_manyOf_15 (v := (M c0 1)) rfl rfl ?_
      have h_6 := Inv.g hI_M hk_c0 rfl 1 (a := 0) (b := 4) rfl rfl
      refine kx_aload_n 19 F 0 dX5_manyOf_18 rfl rfl rfl ?_
      refine kx_geti 22 F fl_X5_28 hk_c0 rfl rfl (j := 0) rfl dX5_manyOf_19 (v := (M c0 0)) rfl rfl ?_
      have h_7 := Inv.g hI_M hk_c0 rfl 0 (a := 0) (b := 2) rfl rfl
      refine kx_isub 23 F (v := (M c0 1) - (M c0 0)) dX5_manyOf_22 rfl rfl ?_
      refine kx_goto 35 F dX5_manyOf_23 (by decide) ?_
      have h_8 := Inv.g hI_M hk_c0 rfl 2 (a := 0) (b := 6) rfl rfl
      exact kx_iret F hQ ⟨rfl, (by omega)⟩ dX5_manyOf_35
  · refine kx_aload_n 5 F 0 dX5_manyOf_4 rfl rfl rfl ?_
    refine kx_geti 8 F fl_X5_28 hk_c0 rfl rfl (j := 0) rfl dX5_manyOf_5 (v := (M c0 0)) rfl rfl ?_
    have h_9 := Inv.g hI_M hk_c0 rfl 0 (a := 0) (b := 2) rfl rfl
    have h_10 := Inv.g hI_M hk_c0 rfl 1 (a := 0) (b := 4) rfl rfl
    have h_11 := Inv.g hI_M hk_c0 rfl 2 (a := 0) (b := 6) rfl rfl
    exact kx_iret F hQ ⟨rfl, (by omega)⟩ dX5_manyOf_8
set_option maxRecDepth 100000 in
theorem dGR_10_c_80 : (decode cX5_firstOf 0 = .ok (.iload_n 1, 1)) ∧ (decode cX5_firstOf 1 = .ok (.ifCond .ne 5, 3)) ∧ (decode cX5_firstOf 4 = .ok (.iconst 0, 1)) ∧ (decode cX5_firstOf 5 = .ok (.ireturn, 1)) ∧ (decode cX5_firstOf 6 = .ok (.iload_n 1, 1)) ∧ (decode cX5_firstOf 7 = .ok (.iconst 1, 1)) ∧ (decode cX5_firstOf 8 = .ok (.if_icmp .ne 10, 3)) ∧ (decode cX5_firstOf 11 = .ok (.aload_n 0, 1)) ∧ (decode cX5_firstOf 12 = .ok (.getfield 28, 3)) ∧ (decode cX5_firstOf 15 = .ok (.goto 7, 3)) ∧ (decode cX5_firstOf 18 = .ok (.aload_n 0, 1)) ∧ (decode cX5_firstOf 19 = .ok (.getfield 32, 3)) := by decide +kernel
theorem dX5_firstOf_0 : decode cX5_firstOf 0 = .ok (.iload_n 1, 1) := dGR_10_c_80.1
theorem dX5_firstOf_1 : decode cX5_firstOf 1 = .ok (.ifCond .ne 5, 3) := dGR_10_c_80.2.1
theorem dX5_firstOf_4 : decode cX5_firstOf 4 = .ok (.iconst 0, 1) := dGR_10_c_80.2.2.1
theorem dX5_firstOf_5 : decode cX5_firstOf 5 = .ok (.ireturn, 1) := dGR_10_c_80.2.2.2.1
theorem dX5_firstOf_6 : decode cX5_firstOf 6 = .ok (.iload_n 1, 1) := dGR_10_c_80.2.2.2.2.1
theorem dX5_firstOf_7 : decode cX5_firstOf 7 = .ok (.iconst 1, 1) := dGR_10_c_80.2.2.2.2.2.1
theorem dX5_firstOf_8 : decode cX5_firstOf 8 = .ok (.if_icmp .ne 10, 3) := dGR_10_c_80.2.2.2.2.2.2.1
theorem dX5_firstOf_11 : decode cX5_firstOf 11 = .ok (.aload_n 0, 1) := dGR_10_c_80.2.2.2.2.2.2.2.1
theorem dX5_firstOf_12 : decode cX5_firstOf 12 = .ok (.getfield 28, 3) := dGR_10_c_80.2.2.2.2.2.2.2.2.1
theorem dX5_firstOf_15 : decode cX5_firstOf 15 = .ok (.goto 7, 3) := dGR_10_c_80.2.2.2.2.2.2.2.2.2.1
theorem dX5_firstOf_18 : decode cX5_firstOf 18 = .ok (.aload_n 0, 1) := dGR_10_c_80.2.2.2.2.2.2.2.2.2.2.1
theorem dX5_firstOf_19 : decode cX5_firstOf 19 = .ok (.getfield 32, 3) := dGR_10_c_80.2.2.2.2.2.2.2.2.2.2.2
theorem dX5_firstOf_22 : decode cX5_firstOf 22 = .ok (.ireturn, 1) := by decide +kernel
set_option maxHeartbeats 4000000 in
set_option maxRecDepth 100000 in
theorem c_X5_firstOf (G : KG) (l : Launch) (M : Mem) (c0 : Int) (a1 : Int) (hI_M : Inv false M) (hk_c0 : kd c0 = 12) (hpre : -2147483648 ≤ a1 ∧ a1 ≤ 2147483647) : KC false G l yX5_firstOf cX5_firstOf 2 (some .int) (0, 0) [vR G c0, vI a1] M (fun A => kQi false G A (fun (r : Int) (N : Mem) => M = N ∧ ((a1 = 0 ∧ r = 0) ∨ (a1 = 1 ∧ r = (M c0 0)) ∨ (a1 ≠ 0 ∧ a1 ≠ 1 ∧ r = (M c0 1))))) := by
  refine kx_met (lo := [some (vR G c0), some (vI a1)]) (by decide) (Nat.le_of_ble_eq_true rfl) rfl ?_
  intro X F hQ
  refine kx_iload_n 1 F 1 dX5_firstOf_0 rfl rfl rfl ?_
  refine kx_if_ne 4 F 6 dX5_firstOf_1 (by decide) rfl (by omega) (fun h_1 => ?_) (fun h_1 => ?_)
  · refine kx_iload_n 7 F 1 dX5_firstOf_6 rfl rfl rfl ?_
    refine kx_iconst 8 F dX5_firstOf_7 rfl ?_
    refine kx_icmp_ne 11 F 18 dX5_firstOf_8 (by decide) rfl (by omega) (by decide) (fun h_2 => ?_) (fun h_2 => ?_)
    · refine kx_aload_n 19 F 0 dX5_firstOf_18 rfl rfl rfl ?_
      refine kx_geti 22 F fl_X5_32 hk_c0 rfl rfl (j := 1) rfl dX5_firstOf_19 (v := (M c0 1)) rfl rfl ?_
      have h_3 := Inv.g hI_M hk_c0 rfl 1 (a := 0) (b := 4) rfl rfl
      have h_4 := Inv.g hI_M hk_c0 rfl 0 (a := 0) (b := 2) rfl rfl
      exact kx_iret F hQ ⟨rfl, (by omega)⟩ dX5_firstOf_22
    · refine kx_aload_n 12 F 0 dX5_firstOf_11 rfl rfl rfl ?_
      refine kx_geti 15 F fl_X5_28 hk_c0 rfl rfl (j := 0) rfl dX5_firstOf_12 (v := (M c0 0)) rfl rfl ?_
      have h_5 := Inv.g hI_M hk_c0 rfl 0 (a := 0) (b := 2) rfl rfl
      refine kx_goto 22 F dX5_firstOf_15 (by decide) ?_
      have h_6 := Inv.g hI_M hk_c0 rfl 1 (a := 0) (b := 4) rfl rfl
      exact kx_iret F hQ ⟨rfl, (by omega)⟩ dX5_firstOf_22
  · refine kx_iconst 5 F dX5_firstOf_4 rfl ?_
    have h_7 := Inv.g hI_M hk_c0 rfl 0 (a := 0) (b := 2) rfl rfl
    have h_8 := Inv.g hI_M hk_c0 rfl 1 (a := 0) (b := 4) rfl rfl
    exact kx_iret F hQ ⟨rfl, (by omega)⟩ dX5_firstOf_5
