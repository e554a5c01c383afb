set_option maxHeartbeats 4000000 in
set_option maxRecDepth 100000 in
theorem e_compose3 (G : KG) (l : Launch) (M : Mem) (a0 : Int) (a1 : Int) (hI_M : Inv false M) (hpre : -2147483648 ≤ a0 ∧ a0 ≤ 2147483647 ∧ -2147483648 ≤ a1 ∧ a1 ≤ 2147483647 ∧ 0 ≤ a0 ∧ a0 ≤ 511 ∧ 0 ≤ a1 ∧ a1 ≤ 511) : KC false G l yX2_compose cX2_compose 2 (some .int) (0, 0) [vI a0, vI a1] M (fun A => kQi false G A (fun (r : Int) (N : Mem) => M = N ∧ (0 ≤ r ∧ r ≤ 511) ∧ (r = thnZ a0 a1 9))) := by
  refine kx_met (lo := [some (vI a0), some (vI a1)]) (by decide) (Nat.le_of_ble_eq_true rfl) rfl ?_
  intro X F hQ
  refine kx_iload_n 1 F 0 dX2_compose_0 rfl rfl rfl ?_
  refine kx_bipush 3 F dX2_compose_1 (by decide) rfl ?_
  refine kx_iand 4 F (v := (zand a0 73)) dX2_compose_3 rfl rfl ?_
  have h_1 := zand_r (a := a0) (b := 73) (by omega)
  refine kx_iload_n 5 F 1 dX2_compose_4 rfl rfl rfl ?_
  refine kx_bipush 7 F dX2_compose_5 (by decide) rfl ?_
  refine kx_iand 8 F (v := (zand a1 7)) dX2_compose_7 rfl rfl ?_
  have h_2 := zand_r (a := a1) (b := 7) (by omega)
  refine kx_imul 9 F (v := ((zand a0 73) * (zand a1 7))) dX2_compose_8 rfl rfl ?_
  have h_3 : 0 ≤ ((zand a0 73) * (zand a1 7)) ∧ ((zand a0 73) * (zand a1 7)) ≤ 511 := mul_rng (a := (zand a0 73)) (b := (zand a1 7)) 73 7 (by omega) (by omega) (by decide)
  refine kx_iload_n 10 F 0 dX2_compose_9 rfl rfl rfl ?_
  refine kx_iconst 11 F dX2_compose_10 rfl ?_
  refine kx_ishr 12 F (v := (zshr a0 1)) dX2_compose_11 rfl rfl ?_
  have h_4 := zshr_r (a := a0) (b := 1) (by omega)
  refine kx_bipush 14 F dX2_compose_12 (by decide) rfl ?_
  refine kx_iand 15 F (v := (zand (zshr a0 1) 73)) dX2_compose_14 rfl rfl ?_
  have h_5 := zand_r (a := (zshr a0 1)) (b := 73) (by omega)
  refine kx_iload_n 16 F 1 dX2_compose_15 rfl rfl rfl ?_
  refine kx_iconst 17 F dX2_compose_16 rfl ?_
  refine kx_ishr 18 F (v := (zshr a1 3)) dX2_compose_17 rfl rfl ?_
  have h_6 := zshr_r (a := a1) (b := 3) (by omega)
  refine kx_bipush 20 F dX2_compose_18 (by decide) rfl ?_
  refine kx_iand 21 F (v := (zand (zshr a1 3) 7)) dX2_compose_20 rfl rfl ?_
  have h_7 := zand_r (a := (zshr a1 3)) (b := 7) (by omega)
  refine kx_imul 22 F (v := ((zand (zshr a0 1) 73) * (zand (zshr a1 3) 7))) dX2_compose_21 rfl rfl ?_
  have h_8 : 0 ≤ ((zand (zshr a0 1) 73) * (zand (zshr a1 3) 7)) ∧ ((zand (zshr a0 1) 73) * (zand (zshr a1 3) 7)) ≤ 511 := mul_rng (a := (zand (zshr a0 1) 73)) (b := (zand (zshr a1 3) 7)) 73 7 (by omega) (by omega) (by decide)
  refine kx_ior 23 F (v := (zor ((zand a0 73) * (zand a1 7)) ((zand (zshr a0 1) 73) * (zand (zshr a1 3) 7)))) dX2_compose_22 rfl rfl ?_
  have h_9 : 0 ≤ (zor ((zand a0 73) * (zand a1 7)) ((zand (zshr a0 1) 73) * (zand (zshr a1 3) 7))) ∧ (zor ((zand a0 73) * (zand a1 7)) ((zand (zshr a0 1) 73) * (zand (zshr a1 3) 7))) < 512 := zor_lt (a := ((zand a0 73) * (zand a1 7))) (b := ((zand (zshr a0 1) 73) * (zand (zshr a1 3) 7))) 9 (by decide) (by omega) (by omega)
  refine kx_iload_n 24 F 0 dX2_compose_23 rfl rfl rfl ?_
  refine kx_iconst 25 F dX2_compose_24 rfl ?_
  refine kx_ishr 26 F (v := (zshr a0 2)) dX2_compose_25 rfl rfl ?_
  have h_10 := zshr_r (a := a0) (b := 2) (by omega)
  refine kx_bipush 28 F dX2_compose_26 (by decide) rfl ?_
  refine kx_iand 29 F (v := (zand (zshr a0 2) 73)) dX2_compose_28 rfl rfl ?_
  have h_11 := zand_r (a := (zshr a0 2)) (b := 73) (by omega)
  refine kx_iload_n 30 F 1 dX2_compose_29 rfl rfl rfl ?_
  refine kx_bipush 32 F dX2_compose_30 (by decide) rfl ?_
  refine kx_ishr 33 F (v := (zshr a1 6)) dX2_compose_32 rfl rfl ?_
  have h_12 := zshr_r (a := a1) (b := 6) (by omega)
  refine kx_bipush 35 F dX2_compose_33 (by decide) rfl ?_
  refine kx_iand 36 F (v := (zand (zshr a1 6) 7)) dX2_compose_35 rfl rfl ?_
  have h_13 := zand_r (a := (zshr a1 6)) (b := 7) (by omega)
  refine kx_imul 37 F (v := ((zand (zshr a0 2) 73) * (zand (zshr a1 6) 7))) dX2_compose_36 rfl rfl ?_
  have h_14 : 0 ≤ ((zand (zshr a0 2) 73) * (zand (zshr a1 6) 7)) ∧ ((zand (zshr a0 2) 73) * (zand (zshr a1 6) 7)) ≤ 511 := mul_rng (a := (zand (zshr a0 2) 73)) (b := (zand (zshr a1 6) 7)) 73 7 (by omega) (by omega) (by decide)
  refine kx_ior 38 F (v := (zor (zor ((zand a0 73) * (zand a1 7)) ((zand (zshr a0 1) 73) * (zand (zshr a1 3) 7))) ((zand (zshr a0 2) 73) * (zand (zshr a1 6) 7)))) dX2_compose_37 rfl rfl ?_
  have h_15 : 0 ≤ (zor (zor ((zand a0 73) * (zand a1 7)) ((zand (zshr a0 1) 73) * (zand (zshr a1 3) 7))) ((zand (zshr a0 2) 73) * (zand (zshr a1 6) 7))) ∧ (zor (zor ((zand a0 73) * (zand a1 7)) ((zand (zshr a0 1) 73) * (zand (zshr a1 3) 7))) ((zand (zshr a0 2) 73) * (zand (zshr a1 6) 7))) < 512 := zor_lt (a := (zor ((zand a0 73) * (zand a1 7)) ((zand (zshr a0 1) 73) * (zand (zshr a1 3) 7)))) (b := ((zand (zshr a0 2) 73) * (zand (zshr a1 6) 7))) 9 (by decide) (by omega) (by omega)
  exact kx_iret F hQ ⟨rfl, (by omega), (zcomp ⟨by omega, by omega⟩ ⟨by omega, by omega⟩)⟩ dX2_compose_38
set_option maxHeartbeats 4000000 in
set_option maxRecDepth 100000 in
theorem e_image3 (G : KG) (l : Launch) (M : Mem) (a0 : Int) (a1 : Int) (hI_M : Inv false M) (hpre : -2147483648 ≤ a0 ∧ a0 ≤ 2147483647 ∧ -2147483648 ≤ a1 ∧ a1 ≤ 2147483647 ∧ 0 ≤ a0 ∧ a0 ≤ 7 ∧ 0 ≤ a1 ∧ a1 ≤ 511) : KC false G l yX2_image cX2_image 2 (some .int) (0, 0) [vI a0, vI a1] M (fun A => kQi false G A (fun (r : Int) (N : Mem) => M = N ∧ (0 ≤ r ∧ r ≤ 7) ∧ (r = zmZ a0 a1 3))) := by
  refine kx_met (lo := [some (vI a0), some (vI a1)]) (by decide) (Nat.le_of_ble_eq_true rfl) rfl ?_
  intro X F hQ
  refine kx_iload_n 1 F 0 dX2_image_0 rfl rfl rfl ?_
  refine kx_iconst 2 F dX2_image_1 rfl ?_
  refine kx_iand 3 F (v := (zand a0 1)) dX2_image_2 rfl rfl ?_
  have h_1 := zand_r (a := a0) (b := 1) (by omega)
  refine kx_iload_n 4 F 1 dX2_image_3 rfl rfl rfl ?_
  refine kx_bipush 6 F dX2_image_4 (by decide) rfl ?_
  refine kx_iand 7 F (v := (zand a1 7)) dX2_image_6 rfl rfl ?_
  have h_2 := zand_r (a := a1) (b := 7) (by omega)
  refine kx_imul 8 F (v := ((zand a0 1) * (zand a1 7))) dX2_image_7 rfl rfl ?_
  have h_3 : 0 ≤ ((zand a0 1) * (zand a1 7)) ∧ ((zand a0 1) * (zand a1 7)) ≤ 7 := mul_rng (a := (zand a0 1)) (b := (zand a1 7)) 1 7 (by omega) (by omega) (by decide)
  refine kx_iload_n 9 F 0 dX2_image_8 rfl rfl rfl ?_
  refine kx_iconst 10 F dX2_image_9 rfl ?_
  refine kx_ishr 11 F (v := (zshr a0 1)) dX2_image_10 rfl rfl ?_
  have h_4 := zshr_r (a := a0) (b := 1) (by omega)
  refine kx_iconst 12 F dX2_image_11 rfl ?_
  refine kx_iand 13 F (v := (zand (zshr a0 1) 1)) dX2_image_12 rfl rfl ?_
  have h_5 := zand_r (a := (zshr a0 1)) (b := 1) (by omega)
  refine kx_iload_n 14 F 1 dX2_image_13 rfl rfl rfl ?_
  refine kx_iconst 15 F dX2_image_14 rfl ?_
  refine kx_ishr 16 F (v := (zshr a1 3)) dX2_image_15 rfl rfl ?_
  have h_6 := zshr_r (a := a1) (b := 3) (by omega)
  refine kx_bipush 18 F dX2_image_16 (by decide) rfl ?_
  refine kx_iand 19 F (v := (zand (zshr a1 3) 7)) dX2_image_18 rfl rfl ?_
  have h_7 := zand_r (a := (zshr a1 3)) (b := 7) (by omega)
  refine kx_imul 20 F (v := ((zand (zshr a0 1) 1) * (zand (zshr a1 3) 7))) dX2_image_19 rfl rfl ?_
  have h_8 : 0 ≤ ((zand (zshr a0 1) 1) * (zand (zshr a1 3) 7)) ∧ ((zand (zshr a0 1) 1) * (zand (zshr a1 3) 7)) ≤ 7 := mul_rng (a := (zand (zshr a0 1) 1)) (b := (zand (zshr a1 3) 7)) 1 7 (by omega) (by omega) (by decide)
  refine kx_ior 21 F (v := (zor ((zand a0 1) * (zand a1 7)) ((zand (zshr a0 1) 1) * (zand (zshr a1 3) 7)))) dX2_image_20 rfl rfl ?_
  have h_9 : 0 ≤ (zor ((zand a0 1) * (zand a1 7)) ((zand (zshr a0 1) 1) * (zand (zshr a1 3) 7))) ∧ (zor ((zand a0 1) * (zand a1 7)) ((zand (zshr a0 1) 1) * (zand (zshr a1 3) 7))) < 8 := zor_lt (a := ((zand a0 1) * (zand a1 7))) (b := ((zand (zshr a0 1) 1) * (zand (zshr a1 3) 7))) 3 (by decide) (by omega) (by omega)
  refine kx_iload_n 22 F 0 dX2_image_21 rfl rfl rfl ?_
  refine kx_iconst 23 F dX2_image_22 rfl ?_
  refine kx_ishr 24 F (v := (zshr a0 2)) dX2_image_23 rfl rfl ?_
  have h_10 := zshr_r (a := a0) (b := 2) (by omega)
  refine kx_iconst 25 F dX2_image_24 rfl ?_
  refine kx_iand 26 F (v := (zand (zshr a0 2) 1)) dX2_image_25 rfl rfl ?_
  have h_11 := zand_r (a := (zshr a0 2)) (b := 1) (by omega)
  refine kx_iload_n 27 F 1 dX2_image_26 rfl rfl rfl ?_
  refine kx_bipush 29 F dX2_image_27 (by decide) rfl ?_
  refine kx_ishr 30 F (v := (zshr a1 6)) dX2_image_29 rfl rfl ?_
  have h_12 := zshr_r (a := a1) (b := 6) (by omega)
  refine kx_bipush 32 F dX2_image_30 (by decide) rfl ?_
  refine kx_iand 33 F (v := (zand (zshr a1 6) 7)) dX2_image_32 rfl rfl ?_
  have h_13 := zand_r (a := (zshr a1 6)) (b := 7) (by omega)
  refine kx_imul 34 F (v := ((zand (zshr a0 2) 1) * (zand (zshr a1 6) 7))) dX2_image_33 rfl rfl ?_
  have h_14 : 0 ≤ ((zand (zshr a0 2) 1) * (zand (zshr a1 6) 7)) ∧ ((zand (zshr a0 2) 1) * (zand (zshr a1 6) 7)) ≤ 7 := mul_rng (a := (zand (zshr a0 2) 1)) (b := (zand (zshr a1 6) 7)) 1 7 (by omega) (by omega) (by decide)
  refine kx_ior 35 F (v := (zor (zor ((zand a0 1) * (zand a1 7)) ((zand (zshr a0 1) 1) * (zand (zshr a1 3) 7))) ((zand (zshr a0 2) 1) * (zand (zshr a1 6) 7)))) dX2_image_34 rfl rfl ?_
  have h_15 : 0 ≤ (zor (zor ((zand a0 1) * (zand a1 7)) ((zand (zshr a0 1) 1) * (zand (zshr a1 3) 7))) ((zand (zshr a0 2) 1) * (zand (zshr a1 6) 7))) ∧ (zor (zor ((zand a0 1) * (zand a1 7)) ((zand (zshr a0 1) 1) * (zand (zshr a1 3) 7))) ((zand (zshr a0 2) 1) * (zand (zshr a1 6) 7))) < 8 := zor_lt (a := (zor ((zand a0 1) * (zand a1 7)) ((zand (zshr a0 1) 1) * (zand (zshr a1 3) 7)))) (b := ((zand (zshr a0 2) 1) * (zand (zshr a1 6) 7))) 3 (by decide) (by omega) (by omega)
  exact kx_iret F hQ ⟨rfl, (by omega), (zimg ⟨by omega, by omega⟩ ⟨by omega, by omega⟩)⟩ dX2_image_35
set_option maxHeartbeats 4000000 in
set_option maxRecDepth 100000 in
theorem e_identity3 (G : KG) (l : Launch) (M : Mem) (a0 : Int) (hI_M : Inv false M) (hpre : -2147483648 ≤ a0 ∧ a0 ≤ 2147483647 ∧ 0 ≤ a0 ∧ a0 ≤ 3) : KC false G l yX2_identity cX2_identity 3 (some .int) (0, 0) [vI a0] M (fun A => kQi false G A (fun (r : Int) (N : Mem) => M = N ∧ (0 ≤ r ∧ r ≤ 511) ∧ (r = smeZ a0))) := by
  refine kx_met (lo := [some (vI a0), none, none]) (by decide) (Nat.le_of_ble_eq_true rfl) rfl ?_
  intro X F hQ
  refine kx_iconst 1 F dX2_identity_0 rfl ?_
  refine kx_istore_n 2 F 1 (lo' := [some (vI a0), some (vI 0), none]) dX2_identity_1 rfl (by decide) rfl rfl rfl ?_
  refine kx_iconst 3 F dX2_identity_2 rfl ?_
  refine kx_istore_n 4 F 2 (lo' := [some (vI a0), some (vI 0), some (vI 0)]) dX2_identity_3 rfl (by decide) rfl rfl rfl ?_
  have L_27 : ∀ (n_28 : Nat) (x1_25 : Int) (x2_26 : Int), x1_25 = smeZ x2_26 → 0 ≤ x1_25 ∧ x1_25 ≤ 511 ∧ 0 ≤ x2_26 ∧ x2_26 ≤ 3 ∧ x2_26 ≤ a0 → (3 - (x2_26)).toNat = n_28 → KJ false G X M 4 [some (vI a0), some (vI x1_25), some (vI x2_26)] [] := by
    intro n_28
    refine Nat.strongRecOn n_28 ?_
    intro n_28 ih_29 x1_25 x2_26 hp_32 h_30 hm_31
    refine kx_iload_n 5 F 2 dX2_identity_4 rfl rfl rfl ?_
    refine kx_iload_n 6 F 0 dX2_identity_5 rfl rfl rfl ?_
    refine kx_icmp_ge 9 F 28 dX2_identity_6 (by decide) rfl (by omega) (by omega) (fun h_33 => ?_) (fun h_33 => ?_)
    · refine kx_iload_n 29 F 1 dX2_identity_28 rfl rfl rfl ?_
      exact kx_iret F hQ ⟨rfl, (by omega), (sme_at hp_32 (by omega))⟩ dX2_identity_29
    · refine kx_iload_n 10 F 2 dX2_identity_9 rfl rfl rfl ?_
      refine kx_iconst 11 F dX2_identity_10 rfl ?_
      refine kx_icmp_ge 14 F 28 dX2_identity_11 (by decide) rfl (by omega) (by decide) (fun h_34 => (by exfalso; omega)) (fun h_34 => ?_)
      refine kx_iload_n 15 F 1 dX2_identity_14 rfl rfl rfl ?_
      refine kx_iconst 16 F dX2_identity_15 rfl ?_
      refine kx_iconst 17 F dX2_identity_16 rfl ?_
      refine kx_iload_n 18 F 2 dX2_identity_17 rfl rfl rfl ?_
      refine kx_imul 19 F (v := 4 * x2_26) dX2_identity_18 (by omega) rfl ?_
      refine kx_ishl 20 F (v := (zshl 1 (4 * x2_26))) dX2_identity_19 rfl rfl ?_
      have h_35 := zshl_1 (b := 4 * x2_26) 8 (by decide) (by omega)
      refine kx_ior 21 F (v := (zor x1_25 (zshl 1 (4 * x2_26)))) dX2_identity_20 rfl rfl ?_
      have h_36 : 0 ≤ (zor x1_25 (zshl 1 (4 * x2_26))) ∧ (zor x1_25 (zshl 1 (4 * x2_26))) < 512 := zor_lt (a := x1_25) (b := (zshl 1 (4 * x2_26))) 9 (by decide) (by omega) (by omega)
      refine kx_istore_n 22 F 1 (lo' := [some (vI a0), some (vI (zor x1_25 (zshl 1 (4 * x2_26)))), some (vI x2_26)]) dX2_identity_21 rfl (by decide) rfl rfl rfl ?_
      refine kx_iinc 25 F 2 (v := x2_26 + 1) (lo' := [some (vI a0), some (vI (zor x1_25 (zshl 1 (4 * x2_26)))), some (vI (x2_26 + 1))]) dX2_identity_22 rfl (by omega) (by decide) rfl rfl rfl ?_
      refine kx_goto 4 F dX2_identity_25 (by decide) ?_
      exact ih_29 _ (by omega) (zor x1_25 (zshl 1 (4 * x2_26))) (x2_26 + 1) (sme_4 (q := x2_26) hp_32 (by omega) (by omega) (by omega)) (by omega) rfl
  exact L_27 _ 0 0 (sme_z (by omega)) (by omega) rfl
set_option maxHeartbeats 4000000 in
set_option maxRecDepth 100000 in
theorem e_over3 (G : KG) (l : Launch) (M : Mem) (c0 : Int) (a1 : Int) (a2 : Int) (a3 : Int) (hI_M : Inv false M) (hk_c0 : kd c0 = 1) (hpre : -2147483648 ≤ a1 ∧ a1 ≤ 2147483647 ∧ -2147483648 ≤ a2 ∧ a2 ≤ 2147483647 ∧ -2147483648 ≤ a3 ∧ a3 ≤ 2147483647 ∧ 0 ≤ a1 ∧ a1 ≤ 5 ∧ 0 ≤ a2 ∧ a2 ≤ 5 ∧ 0 ≤ a3 ∧ a3 ≤ 511) : KC false G l yX0_over cX0_over 8 (some .int) (1, 21) [vR G c0, vI a1, vI a2, vI a3] M (fun A => kQi false G A (fun (r : Int) (N : Mem) => M = N ∧ (0 ≤ r ∧ r ≤ 511) ∧ (r = zovZ (M (M c0 11)) a1 a2 a3 3))) := by
  refine kx_met (lo := [some (vR G c0), some (vI a1), some (vI a2), some (vI a3), none, none, none, none]) (by decide) (Nat.le_of_ble_eq_true rfl) rfl ?_
  intro X F hQ
  have hk_1 : kd (M c0 11) = 7 := Inv.r hI_M hk_c0 rfl 11 rfl rfl
  refine kx_iconst 1 F dX0_over_0 rfl ?_
  refine kx_istore 3 F 4 (lo' := [some (vR G c0), some (vI a1), some (vI a2), some (vI a3), some (vI 0), none, none, none]) dX0_over_1 (by decide) rfl rfl rfl ?_
  refine kx_iconst 4 F dX0_over_3 rfl ?_
  refine kx_istore 6 F 5 (lo' := [some (vR G c0), some (vI a1), some (vI a2), some (vI a3), some (vI 0), some (vI 0), none, none]) dX0_over_4 (by decide) rfl rfl rfl ?_
  have L_60 : ∀ (n_61 : Nat) (x4_58 : Int) (x5_59 : Int), x4_58 = zovZ (M (M c0 11)) a1 a2 a3 x5_59 → 0 ≤ x4_58 ∧ x4_58 ≤ 511 ∧ 0 ≤ x5_59 ∧ x5_59 ≤ 3 ∧ x4_58 ≤ 511 → (3 - (x5_59)).toNat = n_61 → KJ false G X M 6 [some (vR G c0), some (vI a1), some (vI a2), some (vI a3), some (vI x4_58), some (vI x5_59), none, none] [] := by
    intro n_61
    refine Nat.strongRecOn n_61 ?_
    intro n_61 ih_62 x4_58 x5_59 hp_65 h_63 hm_64
    refine kx_iload 8 F 5 dX0_over_6 rfl rfl ?_
    refine kx_iconst 9 F dX0_over_8 rfl ?_
    refine kx_icmp_ge 12 F 70 dX0_over_9 (by decide) rfl (by omega) (by decide) (fun h_66 => ?_) (fun h_66 => ?_)
    · refine kx_iload 72 F 4 dX0_over_70 rfl rfl ?_
      exact kx_iret F hQ ⟨rfl, (by omega), (zov_at hp_65 (by omega))⟩ dX0_over_72
    · refine kx_aload_n 13 F 0 dX0_over_12 rfl rfl rfl ?_
      refine kx_getr 16 F fl_X0_27 hk_c0 rfl rfl (j := 11) rfl dX0_over_13 (v := (M c0 11)) rfl rfl ?_
      refine kx_iload_n 17 F 1 dX0_over_16 rfl rfl rfl ?_
      refine kx_iconst 18 F dX0_over_17 rfl ?_
      refine kx_imul 19 F (v := 3 * a1) dX0_over_18 (by omega) rfl ?_
      refine kx_iload 21 F 5 dX0_over_19 rfl rfl ?_
      refine kx_iadd 22 F (v := 3 * a1 + x5_59) dX0_over_21 rfl rfl ?_
      refine kx_iald 23 F hk_1 rfl rfl (by omega) (by decide) dX0_over_22 (v := (M (M c0 11) (3 * a1 + x5_59))) rfl rfl ?_
      have h_67 := Inv.g hI_M hk_1 rfl (3 * a1 + x5_59) (a := 0) (b := 511) rfl rfl
      refine kx_istore 25 F 6 (lo' := [some (vR G c0), some (vI a1), some (vI a2), some (vI a3), some (vI x4_58), some (vI x5_59), some (vI (M (M c0 11) (3 * a1 + x5_59))), none]) dX0_over_23 (by decide) rfl rfl rfl ?_
      refine kx_aload_n 26 F 0 dX0_over_25 rfl rfl rfl ?_
      refine kx_getr 29 F fl_X0_27 hk_c0 rfl rfl (j := 11) rfl dX0_over_26 (v := (M c0 11)) rfl rfl ?_
      refine kx_iload_n 30 F 2 dX0_over_29 rfl rfl rfl ?_
      refine kx_iconst 31 F dX0_over_30 rfl ?_
      refine kx_imul 32 F (v := 3 * a2) dX0_over_31 (by omega) rfl ?_
      refine kx_iload 34 F 5 dX0_over_32 rfl rfl ?_
      refine kx_iadd 35 F (v := 3 * a2 + x5_59) dX0_over_34 rfl rfl ?_
      refine kx_iald 36 F hk_1 rfl rfl (by omega) (by decide) dX0_over_35 (v := (M (M c0 11) (3 * a2 + x5_59))) rfl rfl ?_
      have h_68 := Inv.g hI_M hk_1 rfl (3 * a2 + x5_59) (a := 0) (b := 511) rfl rfl
      refine kx_istore 38 F 7 (lo' := [some (vR G c0), some (vI a1), some (vI a2), some (vI a3), some (vI x4_58), some (vI x5_59), some (vI (M (M c0 11) (3 * a1 + x5_59))), some (vI (M (M c0 11) (3 * a2 + x5_59)))]) dX0_over_36 (by decide) rfl rfl rfl ?_
      refine kx_iload 40 F 6 dX0_over_38 rfl rfl ?_
      refine kx_if_eq 43 F 64 dX0_over_40 (by decide) rfl (by omega) (fun h_69 => ?_) (fun h_69 => ?_)
      · refine kx_iinc 67 F 5 (v := x5_59 + 1) (lo' := [some (vR G c0), some (vI a1), some (vI a2), some (vI a3), some (vI x4_58), some (vI (x5_59 + 1)), some (vI (M (M c0 11) (3 * a1 + x5_59))), some (vI (M (M c0 11) (3 * a2 + x5_59)))]) dX0_over_64 rfl (by omega) (by decide) rfl rfl rfl ?_
        refine kx_goto 6 F dX0_over_67 (by decide) ?_
        refine kx_drop 6 (lo' := [some (vR G c0), some (vI a1), some (vI a2), some (vI a3), some (vI x4_58), some (vI (x5_59 + 1)), none, some (vI (M (M c0 11) (3 * a2 + x5_59)))]) rfl ?_
        refine kx_drop 7 (lo' := [some (vR G c0), some (vI a1), some (vI a2), some (vI a3), some (vI x4_58), some (vI (x5_59 + 1)), none, none]) rfl ?_
        have hs1 := Inv.g hI_M hk_1 rfl (3 * a1 + x5_59) (a := 0) (b := 511) rfl rfl
        exact ih_62 _ (by omega) x4_58 (x5_59 + 1) (zov_a (q := x5_59) hp_65 (by omega) (by omega) ⟨by omega, by omega⟩ ⟨by omega, by omega⟩ (by omega) (by omega) (by omega)) (by omega) rfl
      · refine kx_iload 45 F 7 dX0_over_43 rfl rfl ?_
        refine kx_if_eq 48 F 64 dX0_over_45 (by decide) rfl (by omega) (fun h_70 => ?_) (fun h_70 => ?_)
        · refine kx_iinc 67 F 5 (v := x5_59 + 1) (lo' := [some (vR G c0), some (vI a1), some (vI a2), some (vI a3), some (vI x4_58), some (vI (x5_59 + 1)), some (vI (M (M c0 11) (3 * a1 + x5_59))), some (vI (M (M c0 11) (3 * a2 + x5_59)))]) dX0_over_64 rfl (by omega) (by decide) rfl rfl rfl ?_
          refine kx_goto 6 F dX0_over_67 (by decide) ?_
          refine kx_drop 6 (lo' := [some (vR G c0), some (vI a1), some (vI a2), some (vI a3), some (vI x4_58), some (vI (x5_59 + 1)), none, some (vI (M (M c0 11) (3 * a2 + x5_59)))]) rfl ?_
          refine kx_drop 7 (lo' := [some (vR G c0), some (vI a1), some (vI a2), some (vI a3), some (vI x4_58), some (vI (x5_59 + 1)), none, none]) rfl ?_
          have hs1 := Inv.g hI_M hk_1 rfl (3 * a1 + x5_59) (a := 0) (b := 511) rfl rfl
          exact ih_62 _ (by omega) x4_58 (x5_59 + 1) (zov_a (q := x5_59) hp_65 (by omega) (by omega) ⟨by omega, by omega⟩ ⟨by omega, by omega⟩ (by omega) (by omega) (by omega)) (by omega) rfl
        · refine kx_iload 50 F 4 dX0_over_48 rfl rfl ?_
          refine kx_iload 52 F 6 dX0_over_50 rfl rfl ?_
          refine kx_iload_n 53 F 3 dX0_over_52 rfl rfl rfl ?_
          refine kx_Si 56 F (As := [vI (M (M c0 11) (3 * a1 + x5_59)), vI a3]) (st := [vI x4_58]) sd_X0_78 (e_compose3 G l M (M (M c0 11) (3 * a1 + x5_59)) a3 hI_M (by omega)) ⟨by decide, by decide⟩ rfl rfl (Nat.le_of_ble_eq_true rfl) dX0_over_53 rfl ?_
          intro r_71 N_72 q_73
          obtain ⟨rfl, q_73c, hz_N_72⟩ := q_73
          refine kx_iload 58 F 7 dX0_over_56 rfl rfl ?_
          refine kx_Si 61 F (As := [vI r_71, vI (M (M c0 11) (3 * a2 + x5_59))]) (st := [vI x4_58]) sd_X0_78 (e_compose3 G l M r_71 (M (M c0 11) (3 * a2 + x5_59)) hI_M (by omega)) ⟨by decide, by decide⟩ rfl rfl (Nat.le_of_ble_eq_true rfl) dX0_over_58 rfl ?_
          intro r_74 N_75 q_76
          obtain ⟨rfl, q_76c, hz_N_75⟩ := q_76
          refine kx_ior 62 F (v := (zor x4_58 r_74)) dX0_over_61 rfl rfl ?_
          have h_77 : 0 ≤ (zor x4_58 r_74) ∧ (zor x4_58 r_74) < 512 := zor_lt (a := x4_58) (b := r_74) 9 (by decide) (by omega) (by omega)
          refine kx_istore 64 F 4 (lo' := [some (vR G c0), some (vI a1), some (vI a2), some (vI a3), some (vI (zor x4_58 r_74)), some (vI x5_59), some (vI (M (M c0 11) (3 * a1 + x5_59))), some (vI (M (M c0 11) (3 * a2 + x5_59)))]) dX0_over_62 (by decide) rfl rfl rfl ?_
          refine kx_iinc 67 F 5 (v := x5_59 + 1) (lo' := [some (vR G c0), some (vI a1), some (vI a2), some (vI a3), some (vI (zor x4_58 r_74)), some (vI (x5_59 + 1)), some (vI (M (M c0 11) (3 * a1 + x5_59))), some (vI (M (M c0 11) (3 * a2 + x5_59)))]) dX0_over_64 rfl (by omega) (by decide) rfl rfl rfl ?_
          refine kx_goto 6 F dX0_over_67 (by decide) ?_
          refine kx_drop 6 (lo' := [some (vR G c0), some (vI a1), some (vI a2), some (vI a3), some (vI (zor x4_58 r_74)), some (vI (x5_59 + 1)), none, some (vI (M (M c0 11) (3 * a2 + x5_59)))]) rfl ?_
          refine kx_drop 7 (lo' := [some (vR G c0), some (vI a1), some (vI a2), some (vI a3), some (vI (zor x4_58 r_74)), some (vI (x5_59 + 1)), none, none]) rfl ?_
          exact ih_62 _ (by omega) (zor x4_58 r_74) (x5_59 + 1) (zov_b (q := x5_59) hp_65 (by omega) (by omega) (by rw [hz_N_75, hz_N_72]) (by omega)) (by omega) rfl
  exact L_60 _ 0 0 (zov_z (by omega)) (by omega) rfl
set_option maxHeartbeats 4000000 in
set_option maxRecDepth 100000 in
theorem e_image3m (G : KG) (l : Launch) (M : Mem) (a0 : Int) (a1 : Int) (hI_M : Inv true M) (hpre : -2147483648 ≤ a0 ∧ a0 ≤ 2147483647 ∧ -2147483648 ≤ a1 ∧ a1 ≤ 2147483647 ∧ 0 ≤ a0 ∧ a0 ≤ 7 ∧ 0 ≤ a1 ∧ a1 ≤ 511) : KC true G l yX12_image cX12_image 4 (some .int) (0, 0) [vI a0, vI a1] M (fun A => kQi true G A (fun (r : Int) (N : Mem) => M = N ∧ (0 ≤ r ∧ r ≤ 7) ∧ (r = zmZ a0 a1 3))) := by
  refine kx_met (lo := [some (vI a0), some (vI a1), none, none]) (by decide) (Nat.le_of_ble_eq_true rfl) rfl ?_
  intro X F hQ
  refine kx_iconst 1 F dX12_image_0 rfl ?_
  refine kx_istore_n 2 F 2 (lo' := [some (vI a0), some (vI a1), some (vI 0), none]) dX12_image_1 rfl (by decide) rfl rfl rfl ?_
  refine kx_iconst 3 F dX12_image_2 rfl ?_
  refine kx_istore_n 4 F 3 (lo' := [some (vI a0), some (vI a1), some (vI 0), some (vI 0)]) dX12_image_3 rfl (by decide) rfl rfl rfl ?_
  have L_39 : ∀ (n_40 : Nat) (x2_37 : Int) (x3_38 : Int), x2_37 = zmZ a0 a1 x3_38 → 0 ≤ x2_37 ∧ x2_37 ≤ 7 ∧ 0 ≤ x3_38 ∧ x3_38 ≤ 3 → (3 - (x3_38)).toNat = n_40 → KJ true G X M 4 [some (vI a0), some (vI a1), some (vI x2_37), some (vI x3_38)] [] := by
    intro n_40
    refine Nat.strongRecOn n_40 ?_
    intro n_40 ih_41 x2_37 x3_38 hp_44 h_42 hm_43
    refine kx_iload_n 5 F 3 dX12_image_4 rfl rfl rfl ?_
    refine kx_iconst 6 F dX12_image_5 rfl ?_
    refine kx_icmp_ge 9 F 35 dX12_image_6 (by decide) rfl (by omega) (by decide) (fun h_45 => ?_) (fun h_45 => ?_)
    · refine kx_iload_n 36 F 2 dX12_image_35 rfl rfl rfl ?_
      exact kx_iret F hQ ⟨rfl, (by omega), (zm_at hp_44 (by omega))⟩ dX12_image_36
    · refine kx_iload_n 10 F 0 dX12_image_9 rfl rfl rfl ?_
      refine kx_iload_n 11 F 3 dX12_image_10 rfl rfl rfl ?_
      refine kx_ishr 12 F (v := (zshr a0 x3_38)) dX12_image_11 rfl rfl ?_
      have h_46 := zshr_r (a := a0) (b := x3_38) (by omega)
      refine kx_iconst 13 F dX12_image_12 rfl ?_
      refine kx_iand 14 F (v := (zand (zshr a0 x3_38) 1)) dX12_image_13 rfl rfl ?_
      have h_47 := zand_r (a := (zshr a0 x3_38)) (b := 1) (by omega)
      refine kx_iconst 15 F dX12_image_14 rfl ?_
      refine kx_icmp_ne 18 F 29 dX12_image_15 (by decide) rfl (by omega) (by decide) (fun h_48 => ?_) (fun h_48 => ?_)
      · refine kx_iinc 32 F 3 (v := x3_38 + 1) (lo' := [some (vI a0), some (vI a1), some (vI x2_37), some (vI (x3_38 + 1))]) dX12_image_29 rfl (by omega) (by decide) rfl rfl rfl ?_
        refine kx_goto 4 F dX12_image_32 (by decide) ?_
        exact ih_41 _ (by omega) x2_37 (x3_38 + 1) (zm_a (q := x3_38) hp_44 (by omega) (by omega) (by omega) (by omega)) (by omega) rfl
      · refine kx_iload_n 19 F 2 dX12_image_18 rfl rfl rfl ?_
        refine kx_iload_n 20 F 1 dX12_image_19 rfl rfl rfl ?_
        refine kx_iconst 21 F dX12_image_20 rfl ?_
        refine kx_iload_n 22 F 3 dX12_image_21 rfl rfl rfl ?_
        refine kx_imul 23 F (v := 3 * x3_38) dX12_image_22 (by omega) rfl ?_
        refine kx_ishr 24 F (v := (zshr a1 (3 * x3_38))) dX12_image_23 rfl rfl ?_
        have h_49 := zshr_r (a := a1) (b := 3 * x3_38) (by omega)
        refine kx_bipush 26 F dX12_image_24 (by decide) rfl ?_
        refine kx_iand 27 F (v := (zand (zshr a1 (3 * x3_38)) 7)) dX12_image_26 rfl rfl ?_
        have h_50 := zand_r (a := (zshr a1 (3 * x3_38))) (b := 7) (by omega)
        refine kx_ior 28 F (v := (zor x2_37 (zand (zshr a1 (3 * x3_38)) 7))) dX12_image_27 rfl rfl ?_
        have h_51 : 0 ≤ (zor x2_37 (zand (zshr a1 (3 * x3_38)) 7)) ∧ (zor x2_37 (zand (zshr a1 (3 * x3_38)) 7)) < 8 := zor_lt (a := x2_37) (b := (zand (zshr a1 (3 * x3_38)) 7)) 3 (by decide) (by omega) (by omega)
        refine kx_istore_n 29 F 2 (lo' := [some (vI a0), some (vI a1), some (vI (zor x2_37 (zand (zshr a1 (3 * x3_38)) 7))), some (vI x3_38)]) dX12_image_28 rfl (by decide) rfl rfl rfl ?_
        refine kx_iinc 32 F 3 (v := x3_38 + 1) (lo' := [some (vI a0), some (vI a1), some (vI (zor x2_37 (zand (zshr a1 (3 * x3_38)) 7))), some (vI (x3_38 + 1))]) dX12_image_29 rfl (by omega) (by decide) rfl rfl rfl ?_
        refine kx_goto 4 F dX12_image_32 (by decide) ?_
        exact ih_41 _ (by omega) (zor x2_37 (zand (zshr a1 (3 * x3_38)) 7)) (x3_38 + 1) (zm_b (q := x3_38) hp_44 (by omega) (by omega) (by omega) (by omega)) (by omega) rfl
  exact L_39 _ 0 0 (zm_z (by omega)) (by omega) rfl
