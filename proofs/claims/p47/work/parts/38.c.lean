set_option maxHeartbeats 4000000 in
set_option maxRecDepth 100000 in
theorem e_pair (G : KG) (l : Launch) (M : Mem) (a0 : Int) (a1 : Int) (hI_M : Inv true M) (hpre : -2147483648 ≤ a0 ∧ a0 ≤ 2147483647 ∧ -2147483648 ≤ a1 ∧ a1 ≤ 2147483647 ∧ 0 ≤ a0 ∧ a0 ≤ 2 ∧ 0 ≤ a1 ∧ a1 ≤ 2) : KC true G l yX12_pair cX12_pair 2 (some .int) (0, 0) [vI a0, vI a1] M (fun A => kQi true G A (fun (r : Int) (N : Mem) => M = N ∧ (r = (zshl 1 (3 * a0 + a1)) ∧ 1 ≤ r ∧ r ≤ 256))) := by
  refine kx_met (lo := [some (vI a0), some (vI a1)]) (by decide) (Nat.le_of_ble_eq_true rfl) rfl ?_
  intro X F hQ
  refine kx_iconst 1 F dX12_pair_0 rfl ?_
  refine kx_iconst 2 F dX12_pair_1 rfl ?_
  refine kx_iload_n 3 F 0 dX12_pair_2 rfl rfl rfl ?_
  refine kx_imul 4 F (v := 3 * a0) dX12_pair_3 (by omega) rfl ?_
  refine kx_iload_n 5 F 1 dX12_pair_4 rfl rfl rfl ?_
  refine kx_iadd 6 F (v := 3 * a0 + a1) dX12_pair_5 rfl rfl ?_
  refine kx_ishl 7 F (v := (zshl 1 (3 * a0 + a1))) dX12_pair_6 rfl rfl ?_
  have h_1 := zshl_1 (b := 3 * a0 + a1) 8 (by decide) (by omega)
  exact kx_iret F hQ ⟨rfl, (by omega)⟩ dX12_pair_7
set_option maxHeartbeats 4000000 in
set_option maxRecDepth 100000 in
theorem e_then (G : KG) (l : Launch) (M : Mem) (a0 : Int) (a1 : Int) (hI_M : Inv true M) (hpre : -2147483648 ≤ a0 ∧ a0 ≤ 2147483647 ∧ -2147483648 ≤ a1 ∧ a1 ≤ 2147483647) : KC true G l yX12_then cX12_then 5 (some .int) (1, 21) [vI a0, vI a1] M (fun A => kQi true G A (fun (r : Int) (N : Mem) => M = N ∧ (0 ≤ r ∧ r ≤ 511) ∧ (r = thnZ a0 a1 9))) := by
  refine kx_met (lo := [some (vI a0), some (vI a1), none, none, none]) (by decide) (Nat.le_of_ble_eq_true rfl) rfl ?_
  intro X F hQ
  refine kx_iconst 1 F dX12_then_0 rfl ?_
  refine kx_istore_n 2 F 2 (lo' := [some (vI a0), some (vI a1), some (vI 0), none, none]) dX12_then_1 rfl (by decide) rfl rfl rfl ?_
  refine kx_iconst 3 F dX12_then_2 rfl ?_
  refine kx_istore_n 4 F 3 (lo' := [some (vI a0), some (vI a1), some (vI 0), some (vI 0), none]) dX12_then_3 rfl (by decide) rfl rfl rfl ?_
  have L_279 : ∀ (n_280 : Nat) (x2_277 : Int) (x3_278 : Int), x2_277 = thnZ a0 a1 (3 * x3_278) → 0 ≤ x2_277 ∧ x2_277 ≤ 511 ∧ 0 ≤ x3_278 ∧ x3_278 ≤ 3 → (3 - (x3_278)).toNat = n_280 → KJ true G X M 4 [some (vI a0), some (vI a1), some (vI x2_277), some (vI x3_278), none] [] := by
    intro n_280
    refine Nat.strongRecOn n_280 ?_
    intro n_280 ih_281 x2_277 x3_278 hp_284 h_282 hm_283
    refine kx_iload_n 5 F 3 dX12_then_4 rfl rfl rfl ?_
    refine kx_iconst 6 F dX12_then_5 rfl ?_
    refine kx_icmp_ge 9 F 57 dX12_then_6 (by decide) rfl (by omega) (by decide) (fun h_285 => ?_) (fun h_285 => ?_)
    · refine kx_iload_n 58 F 2 dX12_then_57 rfl rfl rfl ?_
      exact kx_iret F hQ ⟨rfl, (by omega), (thn_at hp_284 (by omega))⟩ dX12_then_58
    · refine kx_iconst 10 F dX12_then_9 rfl ?_
      refine kx_istore 12 F 4 (lo' := [some (vI a0), some (vI a1), some (vI x2_277), some (vI x3_278), some (vI 0)]) dX12_then_10 (by decide) rfl rfl rfl ?_
      have L_336 : ∀ (n_337 : Nat) (x2_334 : Int) (x4_335 : Int), x2_334 = thnZ a0 a1 (3 * x3_278 + x4_335) → 0 ≤ x2_334 ∧ x2_334 ≤ 511 ∧ 0 ≤ x4_335 ∧ x4_335 ≤ 3 → (3 - (x4_335)).toNat = n_337 → KJ true G X M 12 [some (vI a0), some (vI a1), some (vI x2_334), some (vI x3_278), some (vI x4_335)] [] := by
        intro n_337
        refine Nat.strongRecOn n_337 ?_
        intro n_337 ih_338 x2_334 x4_335 hp_341 h_339 hm_340
        refine kx_iload 14 F 4 dX12_then_12 rfl rfl ?_
        refine kx_iconst 15 F dX12_then_14 rfl ?_
        refine kx_icmp_ge 18 F 51 dX12_then_15 (by decide) rfl (by omega) (by decide) (fun h_342 => ?_) (fun h_342 => ?_)
        · refine kx_iinc 54 F 3 (v := x3_278 + 1) (lo' := [some (vI a0), some (vI a1), some (vI x2_334), some (vI (x3_278 + 1)), some (vI x4_335)]) dX12_then_51 rfl (by omega) (by decide) rfl rfl rfl ?_
          refine kx_goto 4 F dX12_then_54 (by decide) ?_
          refine kx_drop 4 (lo' := [some (vI a0), some (vI a1), some (vI x2_334), some (vI (x3_278 + 1)), none]) rfl ?_
          exact ih_281 _ (by omega) x2_334 (x3_278 + 1) (thn_at hp_341 (by omega)) (by omega) rfl
        · refine kx_iload_n 19 F 0 dX12_then_18 rfl rfl rfl ?_
          refine kx_iload_n 20 F 3 dX12_then_19 rfl rfl rfl ?_
          refine kx_iload 22 F 4 dX12_then_20 rfl rfl ?_
          refine kx_Si 25 F (As := [vI x3_278, vI x4_335]) (st := [vI a0]) sd_X12_316 (e_pair G l M x3_278 x4_335 hI_M (by omega)) ⟨by decide, by decide⟩ rfl rfl (Nat.le_of_ble_eq_true rfl) dX12_then_22 rfl ?_
          intro r_343 N_344 q_345
          obtain ⟨rfl, q_345c⟩ := q_345
          refine kx_topi (e' := (zshl 1 (3 * x3_278 + x4_335))) (by omega) ?_
          refine kx_iand 26 F (v := (zand a0 (zshl 1 (3 * x3_278 + x4_335)))) dX12_then_25 rfl rfl ?_
          have h_346 := zand_r (a := a0) (b := (zshl 1 (3 * x3_278 + x4_335))) (by omega)
          refine kx_if_eq 29 F 45 dX12_then_26 (by decide) rfl (by omega) (fun h_347 => ?_) (fun h_347 => ?_)
          · refine kx_iinc 48 F 4 (v := x4_335 + 1) (lo' := [some (vI a0), some (vI a1), some (vI x2_334), some (vI x3_278), some (vI (x4_335 + 1))]) dX12_then_45 rfl (by omega) (by decide) rfl rfl rfl ?_
            refine kx_goto 12 F dX12_then_48 (by decide) ?_
            exact ih_338 _ (by omega) x2_334 (x4_335 + 1) (thn_a (p := x3_278) (q := x4_335) hp_341 (by omega) (by omega) (by omega) (by omega)) (by omega) rfl
          · refine kx_iload_n 30 F 2 dX12_then_29 rfl rfl rfl ?_
            refine kx_iload_n 31 F 1 dX12_then_30 rfl rfl rfl ?_
            refine kx_iconst 32 F dX12_then_31 rfl ?_
            refine kx_iload 34 F 4 dX12_then_32 rfl rfl ?_
            refine kx_imul 35 F (v := 3 * x4_335) dX12_then_34 (by omega) rfl ?_
            refine kx_ishr 36 F (v := (zshr a1 (3 * x4_335))) dX12_then_35 rfl rfl ?_
            have h_348 := zshr_rng a1 (3 * x4_335)
            refine kx_bipush 38 F dX12_then_36 (by decide) rfl ?_
            refine kx_iand 39 F (v := (zand (zshr a1 (3 * x4_335)) 7)) dX12_then_38 rfl rfl ?_
            have h_349 := zand_r (a := (zshr a1 (3 * x4_335))) (b := 7) (by omega)
            refine kx_iconst 40 F dX12_then_39 rfl ?_
            refine kx_iload_n 41 F 3 dX12_then_40 rfl rfl rfl ?_
            refine kx_imul 42 F (v := 3 * x3_278) dX12_then_41 (by omega) rfl ?_
            refine kx_ishl 43 F (v := (zshl (zand (zshr a1 (3 * x4_335)) 7) (3 * x3_278))) dX12_then_42 rfl rfl ?_
            have h_350 := zshl_r (a := (zand (zshr a1 (3 * x4_335)) 7)) (b := 3 * x3_278) 7 6 (by decide) (by omega) (by omega) (by decide)
            refine kx_ior 44 F (v := (zor x2_334 (zshl (zand (zshr a1 (3 * x4_335)) 7) (3 * x3_278)))) dX12_then_43 rfl rfl ?_
            have h_351 : 0 ≤ (zor x2_334 (zshl (zand (zshr a1 (3 * x4_335)) 7) (3 * x3_278))) ∧ (zor x2_334 (zshl (zand (zshr a1 (3 * x4_335)) 7) (3 * x3_278))) < 512 := zor_lt (a := x2_334) (b := (zshl (zand (zshr a1 (3 * x4_335)) 7) (3 * x3_278))) 9 (by decide) (by omega) (by omega)
            refine kx_istore_n 45 F 2 (lo' := [some (vI a0), some (vI a1), some (vI (zor x2_334 (zshl (zand (zshr a1 (3 * x4_335)) 7) (3 * x3_278)))), some (vI x3_278), some (vI x4_335)]) dX12_then_44 rfl (by decide) rfl rfl rfl ?_
            refine kx_iinc 48 F 4 (v := x4_335 + 1) (lo' := [some (vI a0), some (vI a1), some (vI (zor x2_334 (zshl (zand (zshr a1 (3 * x4_335)) 7) (3 * x3_278)))), some (vI x3_278), some (vI (x4_335 + 1))]) dX12_then_45 rfl (by omega) (by decide) rfl rfl rfl ?_
            refine kx_goto 12 F dX12_then_48 (by decide) ?_
            exact ih_338 _ (by omega) (zor x2_334 (zshl (zand (zshr a1 (3 * x4_335)) 7) (3 * x3_278))) (x4_335 + 1) (thn_b (p := x3_278) (q := x4_335) hp_341 (by omega) (by omega) (by omega) (by omega)) (by omega) rfl
      exact L_336 _ x2_277 0 (thn_at hp_284 (by omega)) (by omega) rfl
  exact L_279 _ 0 0 (thn_z (by omega)) (by omega) rfl
set_option maxHeartbeats 4000000 in
set_option maxRecDepth 100000 in
theorem e_leads (G : KG) (l : Launch) (M : Mem) (a1 : Int) (a2 : Int) (a3 : Int) (hI_M : Inv true M) (hpre : -2147483648 ≤ a1 ∧ a1 ≤ 2147483647 ∧ -2147483648 ≤ a2 ∧ a2 ≤ 2147483647 ∧ -2147483648 ≤ a3 ∧ a3 ≤ 2147483647 ∧ 0 ≤ a1 ∧ a1 ≤ 2 ∧ 0 ≤ a2 ∧ a2 ≤ 5) : KC true G l yX12_leads cX12_leads 7 (some .int) (1, 23) [vR G 163, vI a1, vI a2, vI a3] M (fun A => kQi true G A (fun (r : Int) (N : Mem) => M = N ∧ (0 ≤ r ∧ r ≤ 511) ∧ (r = leadZ (M 171) (54 * a1 + 9 * a2) a3 9))) := by
  refine kx_met (lo := [some (vR G 163), some (vI a1), some (vI a2), some (vI a3), none, none, none]) (by decide) (Nat.le_of_ble_eq_true rfl) rfl ?_
  intro X F hQ
  refine kx_iconst 1 F dX12_leads_0 rfl ?_
  refine kx_istore 3 F 4 (lo' := [some (vR G 163), some (vI a1), some (vI a2), some (vI a3), some (vI 0), none, none]) dX12_leads_1 (by decide) rfl rfl rfl ?_
  refine kx_iconst 4 F dX12_leads_3 rfl ?_
  refine kx_istore 6 F 5 (lo' := [some (vR G 163), some (vI a1), some (vI a2), some (vI a3), some (vI 0), some (vI 0), none]) dX12_leads_4 (by decide) rfl rfl rfl ?_
  have L_299 : ∀ (n_300 : Nat) (x4_297 : Int) (x5_298 : Int), x4_297 = leadZ (M 171) (54 * a1 + 9 * a2) a3 (3 * x5_298) → 0 ≤ x4_297 ∧ x4_297 ≤ 511 ∧ 0 ≤ x5_298 ∧ x5_298 ≤ 3 → (3 - (x5_298)).toNat = n_300 → KJ true G X M 6 [some (vR G 163), some (vI a1), some (vI a2), some (vI a3), some (vI x4_297), some (vI x5_298), none] [] := by
    intro n_300
    refine Nat.strongRecOn n_300 ?_
    intro n_300 ih_301 x4_297 x5_298 hp_304 h_302 hm_303
    refine kx_iload 8 F 5 dX12_leads_6 rfl rfl ?_
    refine kx_iconst 9 F dX12_leads_8 rfl ?_
    refine kx_icmp_ge 12 F 64 dX12_leads_9 (by decide) rfl (by omega) (by decide) (fun h_305 => ?_) (fun h_305 => ?_)
    · refine kx_iload 66 F 4 dX12_leads_64 rfl rfl ?_
      exact kx_iret F hQ ⟨rfl, (by omega), (lead_at hp_304 (by omega))⟩ dX12_leads_66
    · refine kx_iconst 13 F dX12_leads_12 rfl ?_
      refine kx_istore 15 F 6 (lo' := [some (vR G 163), some (vI a1), some (vI a2), some (vI a3), some (vI x4_297), some (vI x5_298), some (vI 0)]) dX12_leads_13 (by decide) rfl rfl rfl ?_
      have L_360 : ∀ (n_361 : Nat) (x4_358 : Int) (x6_359 : Int), x4_358 = leadZ (M 171) (54 * a1 + 9 * a2) a3 (3 * x5_298 + x6_359) → 0 ≤ x4_358 ∧ x4_358 ≤ 511 ∧ 0 ≤ x6_359 ∧ x6_359 ≤ 3 → (3 - (x6_359)).toNat = n_361 → KJ true G X M 15 [some (vR G 163), some (vI a1), some (vI a2), some (vI a3), some (vI x4_358), some (vI x5_298), some (vI x6_359)] [] := by
        intro n_361
        refine Nat.strongRecOn n_361 ?_
        intro n_361 ih_362 x4_358 x6_359 hp_365 h_363 hm_364
        refine kx_iload 17 F 6 dX12_leads_15 rfl rfl ?_
        refine kx_iconst 18 F dX12_leads_17 rfl ?_
        refine kx_icmp_ge 21 F 58 dX12_leads_18 (by decide) rfl (by omega) (by decide) (fun h_366 => ?_) (fun h_366 => ?_)
        · refine kx_iinc 61 F 5 (v := x5_298 + 1) (lo' := [some (vR G 163), some (vI a1), some (vI a2), some (vI a3), some (vI x4_358), some (vI (x5_298 + 1)), some (vI x6_359)]) dX12_leads_58 rfl (by omega) (by decide) rfl rfl rfl ?_
          refine kx_goto 6 F dX12_leads_61 (by decide) ?_
          refine kx_drop 6 (lo' := [some (vR G 163), some (vI a1), some (vI a2), some (vI a3), some (vI x4_358), some (vI (x5_298 + 1)), none]) rfl ?_
          exact ih_301 _ (by omega) x4_358 (x5_298 + 1) (lead_at hp_365 (by omega)) (by omega) rfl
        · refine kx_aload_n 22 F 0 dX12_leads_21 rfl rfl rfl ?_
          refine kx_getr 25 F fl_X12_44 kd_163 rfl rfl (j := 20) rfl dX12_leads_22 (v := 171) (uq_171 (Inv.r hI_M kd_163 rfl 20 rfl rfl)) rfl ?_
          refine kx_iload_n 26 F 1 dX12_leads_25 rfl rfl rfl ?_
          refine kx_iload_n 27 F 2 dX12_leads_26 rfl rfl rfl ?_
          refine kx_iload 29 F 5 dX12_leads_27 rfl rfl ?_
          refine kx_iload 31 F 6 dX12_leads_29 rfl rfl ?_
          refine kx_Si 34 F (As := [vI a1, vI a2, vI x5_298, vI x6_359]) (st := [vR G 171]) sd_X12_319 (c_X12_placeOf G l M a1 a2 x5_298 x6_359 hI_M (by omega)) ⟨by decide, by decide⟩ rfl rfl (Nat.le_of_ble_eq_true rfl) dX12_leads_31 rfl ?_
          intro r_367 N_368 q_369
          obtain ⟨rfl, q_369c⟩ := q_369
          refine kx_topi (e' := 54 * a1 + 9 * a2 + 3 * x5_298 + x6_359) (by omega) ?_
          refine kx_iald 35 F kd_171 rfl rfl (by omega) (by decide) dX12_leads_34 (v := (M 171 (54 * a1 + 9 * a2 + 3 * x5_298 + x6_359))) rfl rfl ?_
          have h_370 := Inv.g hI_M kd_171 rfl (54 * a1 + 9 * a2 + 3 * x5_298 + x6_359) (a := 0) (b := 15) rfl rfl
          refine kx_iload_n 36 F 3 dX12_leads_35 rfl rfl rfl ?_
          refine kx_iand 37 F (v := (zand (M 171 (54 * a1 + 9 * a2 + 3 * x5_298 + x6_359)) a3)) dX12_leads_36 rfl rfl ?_
          have h_371 := zand_l (a := (M 171 (54 * a1 + 9 * a2 + 3 * x5_298 + x6_359))) (b := a3) (by omega)
          refine kx_if_eq 40 F 52 dX12_leads_37 (by decide) rfl (by omega) (fun h_372 => ?_) (fun h_372 => ?_)
          · refine kx_iinc 55 F 6 (v := x6_359 + 1) (lo' := [some (vR G 163), some (vI a1), some (vI a2), some (vI a3), some (vI x4_358), some (vI x5_298), some (vI (x6_359 + 1))]) dX12_leads_52 rfl (by omega) (by decide) rfl rfl rfl ?_
            refine kx_goto 15 F dX12_leads_55 (by decide) ?_
            exact ih_362 _ (by omega) x4_358 (x6_359 + 1) (lead_a (p := x5_298) (q := x6_359) (j := 54 * a1 + 9 * a2 + 3 * x5_298 + x6_359) hp_365 (by omega) (by omega) (by omega) (by omega) (by omega)) (by omega) rfl
          · refine kx_iload 42 F 4 dX12_leads_40 rfl rfl ?_
            refine kx_iload 44 F 5 dX12_leads_42 rfl rfl ?_
            refine kx_iload 46 F 6 dX12_leads_44 rfl rfl ?_
            refine kx_Si 49 F (As := [vI x5_298, vI x6_359]) (st := [vI x4_358]) sd_X12_316 (e_pair G l M x5_298 x6_359 hI_M (by omega)) ⟨by decide, by decide⟩ rfl rfl (Nat.le_of_ble_eq_true rfl) dX12_leads_46 rfl ?_
            intro r_373 N_374 q_375
            obtain ⟨rfl, q_375c⟩ := q_375
            refine kx_topi (e' := (zshl 1 (3 * x5_298 + x6_359))) (by omega) ?_
            refine kx_ior 50 F (v := (zor x4_358 (zshl 1 (3 * x5_298 + x6_359)))) dX12_leads_49 rfl rfl ?_
            have h_376 : 0 ≤ (zor x4_358 (zshl 1 (3 * x5_298 + x6_359))) ∧ (zor x4_358 (zshl 1 (3 * x5_298 + x6_359))) < 512 := zor_lt (a := x4_358) (b := (zshl 1 (3 * x5_298 + x6_359))) 9 (by decide) (by omega) (by omega)
            refine kx_istore 52 F 4 (lo' := [some (vR G 163), some (vI a1), some (vI a2), some (vI a3), some (vI (zor x4_358 (zshl 1 (3 * x5_298 + x6_359)))), some (vI x5_298), some (vI x6_359)]) dX12_leads_50 (by decide) rfl rfl rfl ?_
            refine kx_iinc 55 F 6 (v := x6_359 + 1) (lo' := [some (vR G 163), some (vI a1), some (vI a2), some (vI a3), some (vI (zor x4_358 (zshl 1 (3 * x5_298 + x6_359)))), some (vI x5_298), some (vI (x6_359 + 1))]) dX12_leads_52 rfl (by omega) (by decide) rfl rfl rfl ?_
            refine kx_goto 15 F dX12_leads_55 (by decide) ?_
            exact ih_362 _ (by omega) (zor x4_358 (zshl 1 (3 * x5_298 + x6_359))) (x6_359 + 1) (lead_b (p := x5_298) (q := x6_359) (j := 54 * a1 + 9 * a2 + 3 * x5_298 + x6_359) hp_365 (by omega) (by omega) (by omega) (by omega) (by omega)) (by omega) rfl
      exact L_360 _ x4_297 0 (lead_at hp_304 (by omega)) (by omega) rfl
  exact L_299 _ 0 0 (lead_z (by omega)) (by omega) rfl
set_option maxHeartbeats 4000000 in
set_option maxRecDepth 100000 in
theorem e_same (G : KG) (l : Launch) (M : Mem) (a1 : Int) (hI_M : Inv true M) (hpre : -2147483648 ≤ a1 ∧ a1 ≤ 2147483647 ∧ 0 ≤ a1 ∧ a1 ≤ 1) : KC true G l yX12_same cX12_same 4 (some .int) (2, 43) [vR G 163, vI a1] M (fun A => kQi true G A (fun (r : Int) (N : Mem) => M = N ∧ (0 ≤ r ∧ r ≤ 511) ∧ (r = smeZ (M 164 (100 + 85 * a1))))) := by
  refine kx_met (lo := [some (vR G 163), some (vI a1), none, none]) (by decide) (Nat.le_of_ble_eq_true rfl) rfl ?_
  intro X F hQ
  have ha_1 : atlo (85 * a1 + 100) = 0 ∧ athi (85 * a1 + 100) = 3 := at_a (85 * a1 + 100) 0 a1 0 (by omega) (by omega) (by decide)
  have h_2 := Inv.g hI_M kd_164 rfl (85 * a1 + 100) (a := 0) (b := 3) ha_1.1 ha_1.2
  refine kx_iconst 1 F dX12_same_0 rfl ?_
  refine kx_istore_n 2 F 2 (lo' := [some (vR G 163), some (vI a1), some (vI 0), none]) dX12_same_1 rfl (by decide) rfl rfl rfl ?_
  refine kx_iconst 3 F dX12_same_2 rfl ?_
  refine kx_istore_n 4 F 3 (lo' := [some (vR G 163), some (vI a1), some (vI 0), some (vI 0)]) dX12_same_3 rfl (by decide) rfl rfl rfl ?_
  have L_45 : ∀ (n_46 : Nat) (x2_43 : Int) (x3_44 : Int), x2_43 = smeZ x3_44 → 0 ≤ x2_43 ∧ x2_43 ≤ 511 ∧ 0 ≤ x3_44 ∧ x3_44 ≤ 3 ∧ x3_44 ≤ (M 164 (85 * a1 + 100)) → (3 - (x3_44)).toNat = n_46 → KJ true G X M 4 [some (vR G 163), some (vI a1), some (vI x2_43), some (vI x3_44)] [] := by
    intro n_46
    refine Nat.strongRecOn n_46 ?_
    intro n_46 ih_47 x2_43 x3_44 hp_50 h_48 hm_49
    refine kx_iload_n 5 F 3 dX12_same_4 rfl rfl rfl ?_
    refine kx_aload_n 6 F 0 dX12_same_5 rfl rfl rfl ?_
    refine kx_iload_n 7 F 1 dX12_same_6 rfl rfl rfl ?_
    refine kx_iconst 8 F dX12_same_7 rfl ?_
    refine kx_Vi 11 (ci := 0) F (As := [vI a1, vI 0]) (st := [vI x3_44]) vd_X12_288 (c_of0 G l M a1 0 hI_M (by omega)) kd_163 rfl rfl rfl ⟨by decide, by decide⟩ rfl rfl (Nat.le_of_ble_eq_true rfl) dX12_same_8 rfl ?_
    intro r_51 N_52 q_53
    obtain ⟨rfl, q_53c⟩ := q_53
    rcases q_53c with q_53c | q_53c
    · exfalso; omega
    · refine kx_icmp_ge 14 F 28 dX12_same_11 (by decide) rfl (by omega) (by omega) (fun h_54 => ?_) (fun h_54 => ?_)
      · refine kx_iload_n 29 F 2 dX12_same_28 rfl rfl rfl ?_
        have e_55 : M 164 (100 + 85 * a1) = M 164 (85 * a1 + 100) := by rw [show 100 + 85 * a1 = 85 * a1 + 100 by omega]
        exact kx_iret F hQ ⟨rfl, (by omega), (sme_at hp_50 (by omega))⟩ dX12_same_29
      · refine kx_iload_n 15 F 2 dX12_same_14 rfl rfl rfl ?_
        refine kx_iload_n 16 F 3 dX12_same_15 rfl rfl rfl ?_
        refine kx_iload_n 17 F 3 dX12_same_16 rfl rfl rfl ?_
        refine kx_Si 20 F (As := [vI x3_44, vI x3_44]) (st := [vI x2_43]) sd_X12_316 (e_pair G l M x3_44 x3_44 hI_M (by omega)) ⟨by decide, by decide⟩ rfl rfl (Nat.le_of_ble_eq_true rfl) dX12_same_17 rfl ?_
        intro r_56 N_57 q_58
        obtain ⟨rfl, q_58c⟩ := q_58
        refine kx_topi (e' := (zshl 1 (3 * x3_44 + x3_44))) (by omega) ?_
        refine kx_ior 21 F (v := (zor x2_43 (zshl 1 (3 * x3_44 + x3_44)))) dX12_same_20 rfl rfl ?_
        have h_59 : 0 ≤ (zor x2_43 (zshl 1 (3 * x3_44 + x3_44))) ∧ (zor x2_43 (zshl 1 (3 * x3_44 + x3_44))) < 512 := zor_lt (a := x2_43) (b := (zshl 1 (3 * x3_44 + x3_44))) 9 (by decide) (by omega) (by omega)
        refine kx_istore_n 22 F 2 (lo' := [some (vR G 163), some (vI a1), some (vI (zor x2_43 (zshl 1 (3 * x3_44 + x3_44)))), some (vI x3_44)]) dX12_same_21 rfl (by decide) rfl rfl rfl ?_
        refine kx_iinc 25 F 3 (v := x3_44 + 1) (lo' := [some (vR G 163), some (vI a1), some (vI (zor x2_43 (zshl 1 (3 * x3_44 + x3_44)))), some (vI (x3_44 + 1))]) dX12_same_22 rfl (by omega) (by decide) rfl rfl rfl ?_
        refine kx_goto 4 F dX12_same_25 (by decide) ?_
        exact ih_47 _ (by omega) (zor x2_43 (zshl 1 (3 * x3_44 + x3_44))) (x3_44 + 1) (sme_b hp_50 (by omega) (by omega) (by omega)) (by omega) rfl
  exact L_45 _ 0 0 (sme_z (by omega)) (by omega) rfl
set_option maxHeartbeats 4000000 in
set_option maxRecDepth 100000 in
theorem e_over (G : KG) (l : Launch) (M : Mem) (a1 : Int) (a2 : Int) (a3 : Int) (a4 : Int) (hI_M : Inv true M) (hpre : -2147483648 ≤ a1 ∧ a1 ≤ 2147483647 ∧ -2147483648 ≤ a2 ∧ a2 ≤ 2147483647 ∧ -2147483648 ≤ a3 ∧ a3 ≤ 2147483647 ∧ -2147483648 ≤ a4 ∧ a4 ≤ 2147483647 ∧ 0 ≤ a1 ∧ a1 ≤ 2 ∧ 0 ≤ a2 ∧ a2 ≤ 511 ∧ 0 ≤ a3 ∧ a3 ≤ 5 ∧ 0 ≤ a4 ∧ a4 ≤ 5) : KC true G l yX12_over cX12_over 7 (some .int) (2, 49) [vR G 163, vI a1, vI a2, vI a3, vI a4] M (fun A => kQi true G A (fun (r : Int) (N : Mem) => M = N ∧ (0 ≤ r ∧ r ≤ 511) ∧ (r = ovr (M 171) a1 a2 a3 a4))) := by
  refine kx_met (lo := [some (vR G 163), some (vI a1), some (vI a2), some (vI a3), some (vI a4), none, none]) (by decide) (Nat.le_of_ble_eq_true rfl) rfl ?_
  intro X F hQ
  refine kx_iconst 1 F dX12_over_0 rfl ?_
  refine kx_istore 3 F 5 (lo' := [some (vR G 163), some (vI a1), some (vI a2), some (vI a3), some (vI a4), some (vI 0), none]) dX12_over_1 (by decide) rfl rfl rfl ?_
  refine kx_iconst 4 F dX12_over_3 rfl ?_
  refine kx_istore 6 F 6 (lo' := [some (vR G 163), some (vI a1), some (vI a2), some (vI a3), some (vI a4), some (vI 0), some (vI 1)]) dX12_over_4 (by decide) rfl rfl rfl ?_
  refine kx_iload 8 F 6 dX12_over_6 rfl rfl ?_
  refine kx_bipush 10 F dX12_over_8 (by decide) rfl ?_
  refine kx_icmp_ge 13 F 51 dX12_over_10 (by decide) rfl (by decide) (by decide) (fun h_1 => (by exfalso; omega)) (fun h_1 => ?_)
  refine kx_iload 15 F 5 dX12_over_13 rfl rfl ?_
  refine kx_aload_n 16 F 0 dX12_over_15 rfl rfl rfl ?_
  refine kx_iload_n 17 F 1 dX12_over_16 rfl rfl rfl ?_
  refine kx_iload_n 18 F 3 dX12_over_17 rfl rfl rfl ?_
  refine kx_iload 20 F 6 dX12_over_18 rfl rfl ?_
  refine kx_Vi 23 (ci := 0) F (As := [vI a1, vI a3, vI 1]) (st := [vI 0]) vd_X12_323 (e_leads G l M a1 a3 1 hI_M (by omega)) kd_163 rfl rfl rfl ⟨by decide, by decide⟩ rfl rfl (Nat.le_of_ble_eq_true rfl) dX12_over_20 rfl ?_
  intro r_2 N_3 q_4
  obtain ⟨rfl, q_4c, hz_N_3⟩ := q_4
  refine kx_iload_n 24 F 2 dX12_over_23 rfl rfl rfl ?_
  refine kx_Si 27 F (As := [vI r_2, vI a2]) (st := [vI 0]) sd_X12_326 (e_then G l M r_2 a2 hI_M (by omega)) ⟨by decide, by decide⟩ rfl rfl (Nat.le_of_ble_eq_true rfl) dX12_over_24 rfl ?_
  intro r_5 N_6 q_7
  obtain ⟨rfl, q_7c, hz_N_6⟩ := q_7
  refine kx_aload_n 28 F 0 dX12_over_27 rfl rfl rfl ?_
  refine kx_iload_n 29 F 1 dX12_over_28 rfl rfl rfl ?_
  refine kx_iload 31 F 4 dX12_over_29 rfl rfl ?_
  refine kx_iload 33 F 6 dX12_over_31 rfl rfl ?_
  refine kx_Vi 36 (ci := 0) F (As := [vI a1, vI a4, vI 1]) (st := [vI r_5, vI 0]) vd_X12_323 (e_leads G l M a1 a4 1 hI_M (by omega)) kd_163 rfl rfl rfl ⟨by decide, by decide⟩ rfl rfl (Nat.le_of_ble_eq_true rfl) dX12_over_33 rfl ?_
  intro r_8 N_9 q_10
  obtain ⟨rfl, q_10c, hz_N_9⟩ := q_10
  refine kx_Si 39 F (As := [vI r_5, vI r_8]) (st := [vI 0]) sd_X12_326 (e_then G l M r_5 r_8 hI_M (by omega)) ⟨by decide, by decide⟩ rfl rfl (Nat.le_of_ble_eq_true rfl) dX12_over_36 rfl ?_
  intro r_11 N_12 q_13
  obtain ⟨rfl, q_13c, hz_N_12⟩ := q_13
  refine kx_ior 40 F (v := (zor 0 r_11)) dX12_over_39 rfl rfl ?_
  have h_14 : 0 ≤ (zor 0 r_11) ∧ (zor 0 r_11) < 512 := zor_lt (a := 0) (b := r_11) 9 (by decide) (by omega) (by omega)
  refine kx_istore 42 F 5 (lo' := [some (vR G 163), some (vI a1), some (vI a2), some (vI a3), some (vI a4), some (vI (zor 0 r_11)), some (vI 1)]) dX12_over_40 (by decide) rfl rfl rfl ?_
  refine kx_iload 44 F 6 dX12_over_42 rfl rfl ?_
  refine kx_iconst 45 F dX12_over_44 rfl ?_
  refine kx_imul 46 F (v := 2) dX12_over_45 (by omega) rfl ?_
  refine kx_istore 48 F 6 (lo' := [some (vR G 163), some (vI a1), some (vI a2), some (vI a3), some (vI a4), some (vI (zor 0 r_11)), some (vI 2)]) dX12_over_46 (by decide) rfl rfl rfl ?_
  refine kx_goto 6 F dX12_over_48 (by decide) ?_
  refine kx_iload 8 F 6 dX12_over_6 rfl rfl ?_
  refine kx_bipush 10 F dX12_over_8 (by decide) rfl ?_
  refine kx_icmp_ge 13 F 51 dX12_over_10 (by decide) rfl (by decide) (by decide) (fun h_15 => (by exfalso; omega)) (fun h_15 => ?_)
  refine kx_iload 15 F 5 dX12_over_13 rfl rfl ?_
  refine kx_aload_n 16 F 0 dX12_over_15 rfl rfl rfl ?_
  refine kx_iload_n 17 F 1 dX12_over_16 rfl rfl rfl ?_
  refine kx_iload_n 18 F 3 dX12_over_17 rfl rfl rfl ?_
  refine kx_iload 20 F 6 dX12_over_18 rfl rfl ?_
  refine kx_Vi 23 (ci := 0) F (As := [vI a1, vI a3, vI 2]) (st := [vI (zor 0 r_11)]) vd_X12_323 (e_leads G l M a1 a3 2 hI_M (by omega)) kd_163 rfl rfl rfl ⟨by decide, by decide⟩ rfl rfl (Nat.le_of_ble_eq_true rfl) dX12_over_20 rfl ?_
  intro r_16 N_17 q_18
  obtain ⟨rfl, q_18c, hz_N_17⟩ := q_18
  refine kx_iload_n 24 F 2 dX12_over_23 rfl rfl rfl ?_
  refine kx_Si 27 F (As := [vI r_16, vI a2]) (st := [vI (zor 0 r_11)]) sd_X12_326 (e_then G l M r_16 a2 hI_M (by omega)) ⟨by decide, by decide⟩ rfl rfl (Nat.le_of_ble_eq_true rfl) dX12_over_24 rfl ?_
  intro r_19 N_20 q_21
  obtain ⟨rfl, q_21c, hz_N_20⟩ := q_21
  refine kx_aload_n 28 F 0 dX12_over_27 rfl rfl rfl ?_
  refine kx_iload_n 29 F 1 dX12_over_28 rfl rfl rfl ?_
  refine kx_iload 31 F 4 dX12_over_29 rfl rfl ?_
  refine kx_iload 33 F 6 dX12_over_31 rfl rfl ?_
  refine kx_Vi 36 (ci := 0) F (As := [vI a1, vI a4, vI 2]) (st := [vI r_19, vI (zor 0 r_11)]) vd_X12_323 (e_leads G l M a1 a4 2 hI_M (by omega)) kd_163 rfl rfl rfl ⟨by decide, by decide⟩ rfl rfl (Nat.le_of_ble_eq_true rfl) dX12_over_33 rfl ?_
  intro r_22 N_23 q_24
  obtain ⟨rfl, q_24c, hz_N_23⟩ := q_24
  refine kx_Si 39 F (As := [vI r_19, vI r_22]) (st := [vI (zor 0 r_11)]) sd_X12_326 (e_then G l M r_19 r_22 hI_M (by omega)) ⟨by decide, by decide⟩ rfl rfl (Nat.le_of_ble_eq_true rfl) dX12_over_36 rfl ?_
  intro r_25 N_26 q_27
  obtain ⟨rfl, q_27c, hz_N_26⟩ := q_27
  refine kx_ior 40 F (v := (zor (zor 0 r_11) r_25)) dX12_over_39 rfl rfl ?_
  have h_28 : 0 ≤ (zor (zor 0 r_11) r_25) ∧ (zor (zor 0 r_11) r_25) < 512 := zor_lt (a := (zor 0 r_11)) (b := r_25) 9 (by decide) (by omega) (by omega)
  refine kx_istore 42 F 5 (lo' := [some (vR G 163), some (vI a1), some (vI a2), some (vI a3), some (vI a4), some (vI (zor (zor 0 r_11) r_25)), some (vI 2)]) dX12_over_40 (by decide) rfl rfl rfl ?_
  refine kx_iload 44 F 6 dX12_over_42 rfl rfl ?_
  refine kx_iconst 45 F dX12_over_44 rfl ?_
  refine kx_imul 46 F (v := 4) dX12_over_45 (by omega) rfl ?_
  refine kx_istore 48 F 6 (lo' := [some (vR G 163), some (vI a1), some (vI a2), some (vI a3), some (vI a4), some (vI (zor (zor 0 r_11) r_25)), some (vI 4)]) dX12_over_46 (by decide) rfl rfl rfl ?_
  refine kx_goto 6 F dX12_over_48 (by decide) ?_
  refine kx_iload 8 F 6 dX12_over_6 rfl rfl ?_
  refine kx_bipush 10 F dX12_over_8 (by decide) rfl ?_
  refine kx_icmp_ge 13 F 51 dX12_over_10 (by decide) rfl (by decide) (by decide) (fun h_29 => (by exfalso; omega)) (fun h_29 => ?_)
  refine kx_iload 15 F 5 dX12_over_13 rfl rfl ?_
  refine kx_aload_n 16 F 0 dX12_over_15 rfl rfl rfl ?_
  refine kx_iload_n 17 F 1 dX12_over_16 rfl rfl rfl ?_
  refine kx_iload_n 18 F 3 dX12_over_17 rfl rfl rfl ?_
  refine kx_iload 20 F 6 dX12_over_18 rfl rfl ?_
  refine kx_Vi 23 (ci := 0) F (As := [vI a1, vI a3, vI 4]) (st := [vI (zor (zor 0 r_11) r_25)]) vd_X12_323 (e_leads G l M a1 a3 4 hI_M (by omega)) kd_163 rfl rfl rfl ⟨by decide, by decide⟩ rfl rfl (Nat.le_of_ble_eq_true rfl) dX12_over_20 rfl ?_
  intro r_30 N_31 q_32
  obtain ⟨rfl, q_32c, hz_N_31⟩ := q_32
  refine kx_iload_n 24 F 2 dX12_over_23 rfl rfl rfl ?_
  refine kx_Si 27 F (As := [vI r_30, vI a2]) (st := [vI (zor (zor 0 r_11) r_25)]) sd_X12_326 (e_then G l M r_30 a2 hI_M (by omega)) ⟨by decide, by decide⟩ rfl rfl (Nat.le_of_ble_eq_true rfl) dX12_over_24 rfl ?_
  intro r_33 N_34 q_35
  obtain ⟨rfl, q_35c, hz_N_34⟩ := q_35
  refine kx_aload_n 28 F 0 dX12_over_27 rfl rfl rfl ?_
  refine kx_iload_n 29 F 1 dX12_over_28 rfl rfl rfl ?_
  refine kx_iload 31 F 4 dX12_over_29 rfl rfl ?_
  refine kx_iload 33 F 6 dX12_over_31 rfl rfl ?_
  refine kx_Vi 36 (ci := 0) F (As := [vI a1, vI a4, vI 4]) (st := [vI r_33, vI (zor (zor 0 r_11) r_25)]) vd_X12_323 (e_leads G l M a1 a4 4 hI_M (by omega)) kd_163 rfl rfl rfl ⟨by decide, by decide⟩ rfl rfl (Nat.le_of_ble_eq_true rfl) dX12_over_33 rfl ?_
  intro r_36 N_37 q_38
  obtain ⟨rfl, q_38c, hz_N_37⟩ := q_38
  refine kx_Si 39 F (As := [vI r_33, vI r_36]) (st := [vI (zor (zor 0 r_11) r_25)]) sd_X12_326 (e_then G l M r_33 r_36 hI_M (by omega)) ⟨by decide, by decide⟩ rfl rfl (Nat.le_of_ble_eq_true rfl) dX12_over_36 rfl ?_
  intro r_39 N_40 q_41
  obtain ⟨rfl, q_41c, hz_N_40⟩ := q_41
  refine kx_ior 40 F (v := (zor (zor (zor 0 r_11) r_25) r_39)) dX12_over_39 rfl rfl ?_
  have h_42 : 0 ≤ (zor (zor (zor 0 r_11) r_25) r_39) ∧ (zor (zor (zor 0 r_11) r_25) r_39) < 512 := zor_lt (a := (zor (zor 0 r_11) r_25)) (b := r_39) 9 (by decide) (by omega) (by omega)
  refine kx_istore 42 F 5 (lo' := [some (vR G 163), some (vI a1), some (vI a2), some (vI a3), some (vI a4), some (vI (zor (zor (zor 0 r_11) r_25) r_39)), some (vI 4)]) dX12_over_40 (by decide) rfl rfl rfl ?_
  refine kx_iload 44 F 6 dX12_over_42 rfl rfl ?_
  refine kx_iconst 45 F dX12_over_44 rfl ?_
  refine kx_imul 46 F (v := 8) dX12_over_45 (by omega) rfl ?_
  refine kx_istore 48 F 6 (lo' := [some (vR G 163), some (vI a1), some (vI a2), some (vI a3), some (vI a4), some (vI (zor (zor (zor 0 r_11) r_25) r_39)), some (vI 8)]) dX12_over_46 (by decide) rfl rfl rfl ?_
  refine kx_goto 6 F dX12_over_48 (by decide) ?_
  refine kx_iload 8 F 6 dX12_over_6 rfl rfl ?_
  refine kx_bipush 10 F dX12_over_8 (by decide) rfl ?_
  refine kx_icmp_ge 13 F 51 dX12_over_10 (by decide) rfl (by decide) (by decide) (fun h_43 => ?_) (fun h_43 => (by exfalso; omega))
  refine kx_iload 53 F 5 dX12_over_51 rfl rfl ?_
  exact kx_iret F hQ ⟨rfl, (by omega), (by simp only [hz_N_3, hz_N_6, hz_N_9, hz_N_12, hz_N_17, hz_N_20, hz_N_23, hz_N_26, hz_N_31, hz_N_34, hz_N_37, hz_N_40]; rfl)⟩ dX12_over_53
abbrev f_e_laysRules : List (Nat × Int) := [(72, -1)]
set_option maxHeartbeats 4000000 in
set_option maxRecDepth 100000 in
theorem e_laysRules (G : KG) (l : Launch) (M : Mem) (hI_M : Inv true M) : KC true G l yX12_laysRules cX12_laysRules 4 none (2, 43) [vR G 163] M (fun A => kQv true G A (fun (N : Mem) => Inv true N ∧ Fr f_e_laysRules M N ∧ (LD N))) := by
  refine kx_met (lo := [some (vR G 163), none, none, none]) (by decide) (Nat.le_of_ble_eq_true rfl) rfl ?_
  intro X F hQ
  have hF_M : Fr f_e_laysRules M M := Fr.rf _ _
  have ha_2 : atlo 3 = 0 ∧ athi 3 = 2 := at_c 3 0 (o := 3) (lo := 0) (hi := 2) (by omega) (by decide) (by decide) (by decide)
  have h_1 := Inv.g hI_M kd_164 rfl 3 (a := 0) (b := 2) ha_2.1 ha_2.2
  have h_3 := Inv.g hI_M kd_164 rfl 0 (a := 0) (b := 2) (at_c 0 0 (o := 0) (lo := 0) (hi := 2) (by omega) (by decide) (by decide) (by decide)).1 (at_c 0 0 (o := 0) (lo := 0) (hi := 2) (by omega) (by decide) (by decide) (by decide)).2
  have h_4 := Inv.g hI_M kd_164 rfl 1 (a := 0) (b := 2) (at_c 1 0 (o := 1) (lo := 0) (hi := 2) (by omega) (by decide) (by decide) (by decide)).1 (at_c 1 0 (o := 1) (lo := 0) (hi := 2) (by omega) (by decide) (by decide) (by decide)).2
  have h_5 := Inv.g hI_M kd_164 rfl 2 (a := 0) (b := 2) (at_c 2 0 (o := 2) (lo := 0) (hi := 2) (by omega) (by decide) (by decide) (by decide)).1 (at_c 2 0 (o := 2) (lo := 0) (hi := 2) (by omega) (by decide) (by decide) (by decide)).2
  refine kx_iconst 1 F dX12_laysRules_0 rfl ?_
  refine kx_istore_n 2 F 1 (lo' := [some (vR G 163), some (vI 0), none, none]) dX12_laysRules_1 rfl (by decide) rfl rfl rfl ?_
  have L_6392 : ∀ (n_6393 : Nat) (x1_6390 : Int) (N_6391 : Mem), Inv true N_6391 → Fr f_e_laysRules M N_6391 → LZ N_6391 x1_6390 → 0 ≤ x1_6390 ∧ x1_6390 ≤ 162 → (162 - (x1_6390)).toNat = n_6393 → KJ true G X N_6391 2 [some (vR G 163), some (vI x1_6390), none, none] [] := by
    intro n_6393
    refine Nat.strongRecOn n_6393 ?_
    intro n_6393 ih_6394 x1_6390 N_6391 hI_N_6391 hF_N_6391 hp_6397 h_6395 hm_6396
    refine kx_iload_n 3 F 1 dX12_laysRules_2 rfl rfl rfl ?_
    refine kx_sipush 6 F dX12_laysRules_3 (by decide) rfl ?_
    refine kx_icmp_ge 9 F 22 dX12_laysRules_6 (by decide) rfl (by omega) (by decide) (fun h_6398 => ?_) (fun h_6398 => ?_)
    · refine kx_iconst 23 F dX12_laysRules_22 rfl ?_
      refine kx_istore_n 24 F 1 (lo' := [some (vR G 163), some (vI 0), none, none]) dX12_laysRules_23 rfl (by decide) rfl rfl rfl ?_
      have L_8780 : ∀ (n_8781 : Nat) (x1_8778 : Int) (N_8779 : Mem), Inv true N_8779 → Fr f_e_laysRules M N_8779 → LF N_8779 (layA (M 164) x1_8778.toNat) → 0 ≤ x1_8778 ∧ x1_8778 ≤ 2 ∧ x1_8778 ≤ (M 164 3) → (2 - (x1_8778)).toNat = n_8781 → KJ true G X N_8779 24 [some (vR G 163), some (vI x1_8778), none, none] [] := by
        intro n_8781
        refine Nat.strongRecOn n_8781 ?_
        intro n_8781 ih_8782 x1_8778 N_8779 hI_N_8779 hF_N_8779 hp_8785 h_8783 hm_8784
        refine kx_iload_n 25 F 1 dX12_laysRules_24 rfl rfl rfl ?_
        refine kx_aload_n 26 F 0 dX12_laysRules_25 rfl rfl rfl ?_
        refine kx_getr 29 F fl_X12_7 kd_163 rfl rfl (j := 0) rfl dX12_laysRules_26 (v := 164) (uq_164 (Inv.r hI_N_8779 kd_163 rfl 0 rfl rfl)) rfl ?_
        refine kx_iconst 30 F dX12_laysRules_29 rfl ?_
        refine kx_iald 31 F kd_164 rfl rfl (by omega) (by decide) dX12_laysRules_30 (v := (M 164 3)) (by rw [Fr.e hF_N_8779 kd_164 _ rfl]) rfl ?_
        refine kx_icmp_ge 34 F 126 dX12_laysRules_31 (by decide) rfl (by omega) (by omega) (fun h_8786 => ?_) (fun h_8786 => ?_)
        · refine kx_iconst 127 F dX12_laysRules_126 rfl ?_
          refine kx_istore_n 128 F 1 (lo' := [some (vR G 163), some (vI 0), none, none]) dX12_laysRules_127 rfl (by decide) rfl rfl rfl ?_
          have L_9265 : ∀ (n_9266 : Nat) (x1_9263 : Int) (N_9264 : Mem), Inv true N_9264 → Fr f_e_laysRules M N_9264 → LG N_9264 (M 164) → 0 ≤ x1_9263 ∧ x1_9263 ≤ 6 → (6 - (x1_9263)).toNat = n_9266 → KJ true G X N_9264 128 [some (vR G 163), some (vI x1_9263), none, none] [] := by
            intro n_9266
            refine Nat.strongRecOn n_9266 ?_
            intro n_9266 ih_9267 x1_9263 N_9264 hI_N_9264 hF_N_9264 hp_9270 h_9268 hm_9269
            refine kx_iload_n 129 F 1 dX12_laysRules_128 rfl rfl rfl ?_
            refine kx_aload_n 130 F 0 dX12_laysRules_129 rfl rfl rfl ?_
            refine kx_Vi 133 (ci := 0) F (As := []) (st := [vI x1_9263]) vd_X12_285 (c_lettersE G l N_9264  hI_N_9264) kd_163 rfl rfl rfl ⟨by decide, by decide⟩ rfl rfl (Nat.le_of_ble_eq_true rfl) dX12_laysRules_130 rfl ?_
            intro r_9271 N_9272 q_9273
            obtain ⟨rfl, q_9273c⟩ := q_9273
            have e_9274 : (N_9264 164 0) = (M 164 0) := by rw [Fr.e hF_N_9264 kd_164 _ rfl]
            have e_9275 : (N_9264 164 1) = (M 164 1) := by rw [Fr.e hF_N_9264 kd_164 _ rfl]
            have e_9276 : (N_9264 164 2) = (M 164 2) := by rw [Fr.e hF_N_9264 kd_164 _ rfl]
            refine kx_topi (e' := (N_9264 164 0) + (N_9264 164 1) + (N_9264 164 2)) (by omega) ?_
            refine kx_icmp_ge 136 F 182 dX12_laysRules_133 (by decide) rfl (by omega) (by omega) (fun h_9280 => ?_) (fun h_9280 => ?_)
            · exact kx_vret F hQ ⟨hI_N_9264, hF_N_9264, (LG.ld hp_9270 hF_N_9264 rfl)⟩ dX12_laysRules_182
            · refine kx_aload_n 137 F 0 dX12_laysRules_136 rfl rfl rfl ?_
              refine kx_getr 140 F fl_X12_44 kd_163 rfl rfl (j := 20) rfl dX12_laysRules_137 (v := 171) (uq_171 (Inv.r hI_N_9264 kd_163 rfl 20 rfl rfl)) rfl ?_
              refine kx_iconst 141 F dX12_laysRules_140 rfl ?_
              refine kx_iload_n 142 F 1 dX12_laysRules_141 rfl rfl rfl ?_
              refine kx_iconst 143 F dX12_laysRules_142 rfl ?_
              refine kx_iconst 144 F dX12_laysRules_143 rfl ?_
              refine kx_Si 147 F (As := [vI 2, vI x1_9263, vI 0, vI 0]) (st := [vR G 171]) sd_X12_319 (c_X12_placeOf G l N_9264 2 x1_9263 0 0 hI_N_9264 (by omega)) ⟨by decide, by decide⟩ rfl rfl (Nat.le_of_ble_eq_true rfl) dX12_laysRules_144 rfl ?_
              intro r_9281 N_9282 q_9283
              obtain ⟨rfl, q_9283c⟩ := q_9283
              refine kx_topi (e' := 9 * x1_9263 + 108) (by omega) ?_
              refine kx_aload_n 148 F 0 dX12_laysRules_147 rfl rfl rfl ?_
              refine kx_iload_n 149 F 1 dX12_laysRules_148 rfl rfl rfl ?_
              refine kx_Vi 152 (ci := 0) F (As := [vI x1_9263]) (st := [vI (9 * x1_9263 + 108), vR G 171]) vd_X12_297 (c_sortNowE G l N_9264 x1_9263 hI_N_9264 (by omega)) kd_163 rfl rfl rfl ⟨by decide, by decide⟩ rfl rfl (Nat.le_of_ble_eq_true rfl) dX12_laysRules_149 rfl ?_
              intro r_9284 N_9285 q_9286
              obtain ⟨rfl, q_9286c⟩ := q_9286
              rcases q_9286c with q_9286c | q_9286c | q_9286c
              · refine kx_if_ne 155 F 159 dX12_laysRules_152 (by decide) rfl (by omega) (fun h_9299 => (by exfalso; omega)) (fun h_9299 => ?_)
                refine kx_iconst 156 F dX12_laysRules_155 rfl ?_
                refine kx_goto 175 F dX12_laysRules_156 (by decide) ?_
                refine kx_iast 176 F kd_171 rfl rfl (by omega) (by decide) dX12_laysRules_175 rfl ?_
                intro N_9300 hM_N_9300
                have hI_N_9300 : Inv true N_9300 := Inv.u hI_N_9264 hM_N_9300 kd_171 (a := 0) (b := 15) rfl rfl rfl (by omega)
                have hF_N_9300 : Fr f_e_laysRules M N_9300 := Fr.u hF_N_9264 hM_N_9300 kd_171 rfl
                refine kx_iinc 179 F 1 (v := x1_9263 + 1) (lo' := [some (vR G 163), some (vI (x1_9263 + 1)), none, none]) dX12_laysRules_176 rfl (by omega) (by decide) rfl rfl rfl ?_
                refine kx_goto 128 F dX12_laysRules_179 (by decide) ?_
                exact ih_9267 _ (by omega) (x1_9263 + 1) N_9300 hI_N_9300 hF_N_9300 (LG.st hp_9270 hM_N_9300 (by omega)) (by omega) rfl
              · refine kx_if_ne 155 F 159 dX12_laysRules_152 (by decide) rfl (by omega) (fun h_9301 => ?_) (fun h_9301 => (by exfalso; omega))
                refine kx_aload_n 160 F 0 dX12_laysRules_159 rfl rfl rfl ?_
                refine kx_iload_n 161 F 1 dX12_laysRules_160 rfl rfl rfl ?_
                refine kx_Vi 164 (ci := 0) F (As := [vI x1_9263]) (st := [vI (9 * x1_9263 + 108), vR G 171]) vd_X12_297 (c_sortNowE G l N_9264 x1_9263 hI_N_9264 (by omega)) kd_163 rfl rfl rfl ⟨by decide, by decide⟩ rfl rfl (Nat.le_of_ble_eq_true rfl) dX12_laysRules_161 rfl ?_
                intro r_9302 N_9303 q_9304
                obtain ⟨rfl, q_9304c⟩ := q_9304
                rcases q_9304c with q_9304c | q_9304c | q_9304c
                · exfalso; omega
                · refine kx_iconst 165 F dX12_laysRules_164 rfl ?_
                  refine kx_icmp_ne 168 F 173 dX12_laysRules_165 (by decide) rfl (by omega) (by decide) (fun h_9317 => (by exfalso; omega)) (fun h_9317 => ?_)
                  refine kx_bipush 170 F dX12_laysRules_168 (by decide) rfl ?_
                  refine kx_goto 175 F dX12_laysRules_170 (by decide) ?_
                  refine kx_iast 176 F kd_171 rfl rfl (by omega) (by decide) dX12_laysRules_175 rfl ?_
                  intro N_9318 hM_N_9318
                  have hI_N_9318 : Inv true N_9318 := Inv.u hI_N_9264 hM_N_9318 kd_171 (a := 0) (b := 15) rfl rfl rfl (by omega)
                  have hF_N_9318 : Fr f_e_laysRules M N_9318 := Fr.u hF_N_9264 hM_N_9318 kd_171 rfl
                  refine kx_iinc 179 F 1 (v := x1_9263 + 1) (lo' := [some (vR G 163), some (vI (x1_9263 + 1)), none, none]) dX12_laysRules_176 rfl (by omega) (by decide) rfl rfl rfl ?_
                  refine kx_goto 128 F dX12_laysRules_179 (by decide) ?_
                  exact ih_9267 _ (by omega) (x1_9263 + 1) N_9318 hI_N_9318 hF_N_9318 (LG.st hp_9270 hM_N_9318 (by omega)) (by omega) rfl
                · exfalso; omega
              · refine kx_if_ne 155 F 159 dX12_laysRules_152 (by decide) rfl (by omega) (fun h_9319 => ?_) (fun h_9319 => (by exfalso; omega))
                refine kx_aload_n 160 F 0 dX12_laysRules_159 rfl rfl rfl ?_
                refine kx_iload_n 161 F 1 dX12_laysRules_160 rfl rfl rfl ?_
                refine kx_Vi 164 (ci := 0) F (As := [vI x1_9263]) (st := [vI (9 * x1_9263 + 108), vR G 171]) vd_X12_297 (c_sortNowE G l N_9264 x1_9263 hI_N_9264 (by omega)) kd_163 rfl rfl rfl ⟨by decide, by decide⟩ rfl rfl (Nat.le_of_ble_eq_true rfl) dX12_laysRules_161 rfl ?_
                intro r_9320 N_9321 q_9322
                obtain ⟨rfl, q_9322c⟩ := q_9322
                rcases q_9322c with q_9322c | q_9322c | q_9322c
                · exfalso; omega
                · exfalso; omega
                · refine kx_iconst 165 F dX12_laysRules_164 rfl ?_
                  refine kx_icmp_ne 168 F 173 dX12_laysRules_165 (by decide) rfl (by omega) (by decide) (fun h_9335 => ?_) (fun h_9335 => (by exfalso; omega))
                  refine kx_bipush 175 F dX12_laysRules_173 (by decide) rfl ?_
                  refine kx_iast 176 F kd_171 rfl rfl (by omega) (by decide) dX12_laysRules_175 rfl ?_
                  intro N_9336 hM_N_9336
                  have hI_N_9336 : Inv true N_9336 := Inv.u hI_N_9264 hM_N_9336 kd_171 (a := 0) (b := 15) rfl rfl rfl (by omega)
                  have hF_N_9336 : Fr f_e_laysRules M N_9336 := Fr.u hF_N_9264 hM_N_9336 kd_171 rfl
                  refine kx_iinc 179 F 1 (v := x1_9263 + 1) (lo' := [some (vR G 163), some (vI (x1_9263 + 1)), none, none]) dX12_laysRules_176 rfl (by omega) (by decide) rfl rfl rfl ?_
                  refine kx_goto 128 F dX12_laysRules_179 (by decide) ?_
                  exact ih_9267 _ (by omega) (x1_9263 + 1) N_9336 hI_N_9336 hF_N_9336 (LG.st hp_9270 hM_N_9336 (by omega)) (by omega) rfl
          exact L_9265 _ 0 N_8779 hI_N_8779 hF_N_8779 (LF.done hp_8785 (by omega)) (by omega) rfl
        · have ha_9337 : atlo (85 * x1_8778 + 104) = 0 ∧ athi (85 * x1_8778 + 104) = 20 := at_a (85 * x1_8778 + 104) 0 x1_8778 4 (by omega) (by omega) (by decide)
          have h_9338 := Inv.g hI_M kd_164 rfl (85 * x1_8778 + 104) (a := 0) (b := 20) ha_9337.1 ha_9337.2
          refine kx_iconst 35 F dX12_laysRules_34 rfl ?_
          refine kx_istore_n 36 F 2 (lo' := [some (vR G 163), some (vI x1_8778), some (vI 0), none]) dX12_laysRules_35 rfl (by decide) rfl rfl rfl ?_
          have L_9544 : ∀ (n_9545 : Nat) (x2_9542 : Int) (N_9543 : Mem), Inv true N_9543 → Fr f_e_laysRules M N_9543 → LF N_9543 (lay1 (M 164) x1_8778 (layA (M 164) x1_8778.toNat) x2_9542.toNat) → 0 ≤ x2_9542 ∧ x2_9542 ≤ 20 ∧ x2_9542 ≤ (M 164 (85 * x1_8778 + 104)) → (20 - (x2_9542)).toNat = n_9545 → KJ true G X N_9543 36 [some (vR G 163), some (vI x1_8778), some (vI x2_9542), none] [] := by
            intro n_9545
            refine Nat.strongRecOn n_9545 ?_
            intro n_9545 ih_9546 x2_9542 N_9543 hI_N_9543 hF_N_9543 hp_9549 h_9547 hm_9548
            refine kx_iload_n 37 F 2 dX12_laysRules_36 rfl rfl rfl ?_
            refine kx_aload_n 38 F 0 dX12_laysRules_37 rfl rfl rfl ?_
            refine kx_iload_n 39 F 1 dX12_laysRules_38 rfl rfl rfl ?_
            refine kx_iconst 40 F dX12_laysRules_39 rfl ?_
            refine kx_Vi 43 (ci := 0) F (As := [vI x1_8778, vI 4]) (st := [vI x2_9542]) vd_X12_288 (c_of4 G l N_9543 x1_8778 4 hI_N_9543 (by omega)) kd_163 rfl rfl rfl ⟨by decide, by decide⟩ rfl rfl (Nat.le_of_ble_eq_true rfl) dX12_laysRules_40 rfl ?_
            intro r_9550 N_9551 q_9552
            obtain ⟨rfl, q_9552c⟩ := q_9552
            have e_9553 : (N_9543 164 (85 * x1_8778 + 104)) = (M 164 (85 * x1_8778 + 104)) := by rw [Fr.e hF_N_9543 kd_164 _ rfl]
            rcases q_9552c with q_9552c | q_9552c
            · exfalso; omega
            · refine kx_icmp_ge 46 F 120 dX12_laysRules_43 (by decide) rfl (by omega) (by omega) (fun h_9555 => ?_) (fun h_9555 => ?_)
              · refine kx_iinc 123 F 1 (v := x1_8778 + 1) (lo' := [some (vR G 163), some (vI (x1_8778 + 1)), some (vI x2_9542), none]) dX12_laysRules_120 rfl (by omega) (by decide) rfl rfl rfl ?_
                refine kx_goto 24 F dX12_laysRules_123 (by decide) ?_
                refine kx_drop 2 (lo' := [some (vR G 163), some (vI (x1_8778 + 1)), none, none]) rfl ?_
                have e_9556 : M 164 (104 + 85 * x1_8778) = M 164 (85 * x1_8778 + 104) := by rw [show 104 + 85 * x1_8778 = 85 * x1_8778 + 104 by omega]
                exact ih_8782 _ (by omega) (x1_8778 + 1) N_9543 hI_N_9543 hF_N_9543 (LF.next hp_9549 (by omega) (by omega) (by omega)) (by omega) rfl
              · refine kx_iconst 47 F dX12_laysRules_46 rfl ?_
                refine kx_iload_n 48 F 1 dX12_laysRules_47 rfl rfl rfl ?_
                refine kx_iload_n 49 F 2 dX12_laysRules_48 rfl rfl rfl ?_
                refine kx_Si 52 F (As := [vI 0, vI x1_8778, vI x2_9542]) (st := []) sd_X12_243 (c_X12_ruleRow G l N_9543 0 x1_8778 x2_9542 hI_N_9543 (by omega)) ⟨by decide, by decide⟩ rfl rfl (Nat.le_of_ble_eq_true rfl) dX12_laysRules_49 rfl ?_
                intro r_9557 N_9558 q_9559
                obtain ⟨rfl, q_9559c⟩ := q_9559
                refine kx_topi (e' := 85 * x1_8778 + 4 * x2_9542 + 105) (by omega) ?_
                refine kx_istore_n 53 F 3 (lo' := [some (vR G 163), some (vI x1_8778), some (vI x2_9542), some (vI (85 * x1_8778 + 4 * x2_9542 + 105))]) dX12_laysRules_52 rfl (by decide) rfl rfl rfl ?_
                refine kx_aload_n 54 F 0 dX12_laysRules_53 rfl rfl rfl ?_
                refine kx_getr 57 F fl_X12_44 kd_163 rfl rfl (j := 20) rfl dX12_laysRules_54 (v := 171) (uq_171 (Inv.r hI_N_9543 kd_163 rfl 20 rfl rfl)) rfl ?_
                refine kx_iload_n 58 F 1 dX12_laysRules_57 rfl rfl rfl ?_
                refine kx_aload_n 59 F 0 dX12_laysRules_58 rfl rfl rfl ?_
                refine kx_getr 62 F fl_X12_7 kd_163 rfl rfl (j := 0) rfl dX12_laysRules_59 (v := 164) (uq_164 (Inv.r hI_N_9543 kd_163 rfl 0 rfl rfl)) rfl ?_
                refine kx_iload_n 63 F 3 dX12_laysRules_62 rfl rfl rfl ?_
                refine kx_iald 64 F kd_164 rfl rfl (by omega) (by decide) dX12_laysRules_63 (v := (M 164 (85 * x1_8778 + 4 * x2_9542 + 105))) (by rw [Fr.e hF_N_9543 kd_164 _ rfl]) rfl ?_
                have ha_9560 : atlo (85 * x1_8778 + 4 * x2_9542 + 105) = 0 ∧ athi (85 * x1_8778 + 4 * x2_9542 + 105) = 5 := at_r (85 * x1_8778 + 4 * x2_9542 + 105) 0 x1_8778 x2_9542 0 (by omega) (by omega) (by omega) (by decide)
                have h_9561 := Inv.g hI_M kd_164 rfl (85 * x1_8778 + 4 * x2_9542 + 105) (a := 0) (b := 5) ha_9560.1 ha_9560.2
                refine kx_aload_n 65 F 0 dX12_laysRules_64 rfl rfl rfl ?_
                refine kx_getr 68 F fl_X12_7 kd_163 rfl rfl (j := 0) rfl dX12_laysRules_65 (v := 164) (uq_164 (Inv.r hI_N_9543 kd_163 rfl 0 rfl rfl)) rfl ?_
                refine kx_iload_n 69 F 3 dX12_laysRules_68 rfl rfl rfl ?_
                refine kx_iconst 70 F dX12_laysRules_69 rfl ?_
                refine kx_iadd 71 F (v := 85 * x1_8778 + 4 * x2_9542 + 106) dX12_laysRules_70 (by omega) rfl ?_
                refine kx_iald 72 F kd_164 rfl rfl (by omega) (by decide) dX12_laysRules_71 (v := (M 164 (85 * x1_8778 + 4 * x2_9542 + 106))) (by rw [Fr.e hF_N_9543 kd_164 _ rfl]) rfl ?_
                have ha_9562 : atlo (85 * x1_8778 + 4 * x2_9542 + 106) = 0 ∧ athi (85 * x1_8778 + 4 * x2_9542 + 106) = 2 := at_r (85 * x1_8778 + 4 * x2_9542 + 106) 0 x1_8778 x2_9542 1 (by omega) (by omega) (by omega) (by decide)
                have h_9563 := Inv.g hI_M kd_164 rfl (85 * x1_8778 + 4 * x2_9542 + 106) (a := 0) (b := 2) ha_9562.1 ha_9562.2
                refine kx_aload_n 73 F 0 dX12_laysRules_72 rfl rfl rfl ?_
                refine kx_getr 76 F fl_X12_7 kd_163 rfl rfl (j := 0) rfl dX12_laysRules_73 (v := 164) (uq_164 (Inv.r hI_N_9543 kd_163 rfl 0 rfl rfl)) rfl ?_
                refine kx_iload_n 77 F 3 dX12_laysRules_76 rfl rfl rfl ?_
                refine kx_iconst 78 F dX12_laysRules_77 rfl ?_
                refine kx_iadd 79 F (v := 85 * x1_8778 + 4 * x2_9542 + 107) dX12_laysRules_78 (by omega) rfl ?_
                refine kx_iald 80 F kd_164 rfl rfl (by omega) (by decide) dX12_laysRules_79 (v := (M 164 (85 * x1_8778 + 4 * x2_9542 + 107))) (by rw [Fr.e hF_N_9543 kd_164 _ rfl]) rfl ?_
                have ha_9564 : atlo (85 * x1_8778 + 4 * x2_9542 + 107) = 0 ∧ athi (85 * x1_8778 + 4 * x2_9542 + 107) = 2 := at_r (85 * x1_8778 + 4 * x2_9542 + 107) 0 x1_8778 x2_9542 2 (by omega) (by omega) (by omega) (by decide)
                have h_9565 := Inv.g hI_M kd_164 rfl (85 * x1_8778 + 4 * x2_9542 + 107) (a := 0) (b := 2) ha_9564.1 ha_9564.2
                refine kx_Si 83 F (As := [vI x1_8778, vI (M 164 (85 * x1_8778 + 4 * x2_9542 + 105)), vI (M 164 (85 * x1_8778 + 4 * x2_9542 + 106)), vI (M 164 (85 * x1_8778 + 4 * x2_9542 + 107))]) (st := [vR G 171]) sd_X12_319 (c_X12_placeOf G l N_9543 x1_8778 (M 164 (85 * x1_8778 + 4 * x2_9542 + 105)) (M 164 (85 * x1_8778 + 4 * x2_9542 + 106)) (M 164 (85 * x1_8778 + 4 * x2_9542 + 107)) hI_N_9543 (by omega)) ⟨by decide, by decide⟩ rfl rfl (Nat.le_of_ble_eq_true rfl) dX12_laysRules_80 rfl ?_
                intro r_9566 N_9567 q_9568
                obtain ⟨rfl, q_9568c⟩ := q_9568
                refine kx_topi (e' := 54 * x1_8778 + 9 * (M 164 (85 * x1_8778 + 4 * x2_9542 + 105)) + 3 * (M 164 (85 * x1_8778 + 4 * x2_9542 + 106)) + (M 164 (85 * x1_8778 + 4 * x2_9542 + 107))) (by omega) ?_
                refine kx_dup2 84 F dX12_laysRules_83 rfl rfl rfl ?_
                refine kx_iald 85 F kd_171 rfl rfl (by omega) (by decide) dX12_laysRules_84 (v := (N_9543 171 (54 * x1_8778 + 9 * (M 164 (85 * x1_8778 + 4 * x2_9542 + 105)) + 3 * (M 164 (85 * x1_8778 + 4 * x2_9542 + 106)) + (M 164 (85 * x1_8778 + 4 * x2_9542 + 107))))) rfl rfl ?_
                have h_9569 := Inv.g hI_N_9543 kd_171 rfl (54 * x1_8778 + 9 * (M 164 (85 * x1_8778 + 4 * x2_9542 + 105)) + 3 * (M 164 (85 * x1_8778 + 4 * x2_9542 + 106)) + (M 164 (85 * x1_8778 + 4 * x2_9542 + 107))) (a := 0) (b := 15) rfl rfl
                refine kx_aload_n 86 F 0 dX12_laysRules_85 rfl rfl rfl ?_
                refine kx_getr 89 F fl_X12_7 kd_163 rfl rfl (j := 0) rfl dX12_laysRules_86 (v := 164) (uq_164 (Inv.r hI_N_9543 kd_163 rfl 0 rfl rfl)) rfl ?_
                refine kx_iload_n 90 F 3 dX12_laysRules_89 rfl rfl rfl ?_
                refine kx_iconst 91 F dX12_laysRules_90 rfl ?_
                refine kx_iadd 92 F (v := 85 * x1_8778 + 4 * x2_9542 + 108) dX12_laysRules_91 (by omega) rfl ?_
                refine kx_iald 93 F kd_164 rfl rfl (by omega) (by decide) dX12_laysRules_92 (v := (M 164 (85 * x1_8778 + 4 * x2_9542 + 108))) (by rw [Fr.e hF_N_9543 kd_164 _ rfl]) rfl ?_
                have ha_9570 : atlo (85 * x1_8778 + 4 * x2_9542 + 108) = (-1) ∧ athi (85 * x1_8778 + 4 * x2_9542 + 108) = 2 := at_r (85 * x1_8778 + 4 * x2_9542 + 108) 0 x1_8778 x2_9542 3 (by omega) (by omega) (by omega) (by decide)
                have h_9571 := Inv.g hI_M kd_164 rfl (85 * x1_8778 + 4 * x2_9542 + 108) (a := (-1)) (b := 2) ha_9570.1 ha_9570.2
                refine kx_iconst 94 F dX12_laysRules_93 rfl ?_
                refine kx_icmp_ne 97 F 102 dX12_laysRules_94 (by decide) rfl (by omega) (by decide) (fun h_9572 => ?_) (fun h_9572 => ?_)
                · refine kx_iconst 103 F dX12_laysRules_102 rfl ?_
                  refine kx_aload_n 104 F 0 dX12_laysRules_103 rfl rfl rfl ?_
                  refine kx_getr 107 F fl_X12_7 kd_163 rfl rfl (j := 0) rfl dX12_laysRules_104 (v := 164) (uq_164 (Inv.r hI_N_9543 kd_163 rfl 0 rfl rfl)) rfl ?_
                  refine kx_iload_n 108 F 3 dX12_laysRules_107 rfl rfl rfl ?_
                  refine kx_iconst 109 F dX12_laysRules_108 rfl ?_
                  refine kx_iadd 110 F (v := 85 * x1_8778 + 4 * x2_9542 + 108) dX12_laysRules_109 (by omega) rfl ?_
                  refine kx_iald 111 F kd_164 rfl rfl (by omega) (by decide) dX12_laysRules_110 (v := (M 164 (85 * x1_8778 + 4 * x2_9542 + 108))) (by rw [Fr.e hF_N_9543 kd_164 _ rfl]) rfl ?_
                  refine kx_ishl 112 F (v := (zshl 1 (M 164 (85 * x1_8778 + 4 * x2_9542 + 108)))) dX12_laysRules_111 rfl rfl ?_
                  have h_9573 := zshl_1 (b := (M 164 (85 * x1_8778 + 4 * x2_9542 + 108))) 2 (by decide) (by omega)
                  refine kx_ior 113 F (v := (zor (N_9543 171 (54 * x1_8778 + 9 * (M 164 (85 * x1_8778 + 4 * x2_9542 + 105)) + 3 * (M 164 (85 * x1_8778 + 4 * x2_9542 + 106)) + (M 164 (85 * x1_8778 + 4 * x2_9542 + 107)))) (zshl 1 (M 164 (85 * x1_8778 + 4 * x2_9542 + 108))))) dX12_laysRules_112 rfl rfl ?_
                  have h_9574 : 0 ≤ (zor (N_9543 171 (54 * x1_8778 + 9 * (M 164 (85 * x1_8778 + 4 * x2_9542 + 105)) + 3 * (M 164 (85 * x1_8778 + 4 * x2_9542 + 106)) + (M 164 (85 * x1_8778 + 4 * x2_9542 + 107)))) (zshl 1 (M 164 (85 * x1_8778 + 4 * x2_9542 + 108)))) ∧ (zor (N_9543 171 (54 * x1_8778 + 9 * (M 164 (85 * x1_8778 + 4 * x2_9542 + 105)) + 3 * (M 164 (85 * x1_8778 + 4 * x2_9542 + 106)) + (M 164 (85 * x1_8778 + 4 * x2_9542 + 107)))) (zshl 1 (M 164 (85 * x1_8778 + 4 * x2_9542 + 108)))) < 16 := zor_lt (a := (N_9543 171 (54 * x1_8778 + 9 * (M 164 (85 * x1_8778 + 4 * x2_9542 + 105)) + 3 * (M 164 (85 * x1_8778 + 4 * x2_9542 + 106)) + (M 164 (85 * x1_8778 + 4 * x2_9542 + 107))))) (b := (zshl 1 (M 164 (85 * x1_8778 + 4 * x2_9542 + 108)))) 4 (by decide) (by omega) (by omega)
                  refine kx_iast 114 F kd_171 rfl rfl (by omega) (by decide) dX12_laysRules_113 rfl ?_
                  intro N_9575 hM_N_9575
                  have hI_N_9575 : Inv true N_9575 := Inv.u hI_N_9543 hM_N_9575 kd_171 (a := 0) (b := 15) rfl rfl rfl (by omega)
                  have hF_N_9575 : Fr f_e_laysRules M N_9575 := Fr.u hF_N_9543 hM_N_9575 kd_171 rfl
                  refine kx_iinc 117 F 2 (v := x2_9542 + 1) (lo' := [some (vR G 163), some (vI x1_8778), some (vI (x2_9542 + 1)), some (vI (85 * x1_8778 + 4 * x2_9542 + 105))]) dX12_laysRules_114 rfl (by omega) (by decide) rfl rfl rfl ?_
                  refine kx_goto 36 F dX12_laysRules_117 (by decide) ?_
                  refine kx_drop 3 (lo' := [some (vR G 163), some (vI x1_8778), some (vI (x2_9542 + 1)), none]) rfl ?_
                  exact ih_9546 _ (by omega) (x2_9542 + 1) N_9575 hI_N_9575 hF_N_9575 (LF.sts (s := 85 * x1_8778 + 4 * x2_9542 + 108) hp_9549 (by omega) hM_N_9575 (by unfold rpl; rw [show 105 + 85 * x1_8778 + 4 * x2_9542 = 85 * x1_8778 + 4 * x2_9542 + 105 by omega, show 106 + 85 * x1_8778 + 4 * x2_9542 = 85 * x1_8778 + 4 * x2_9542 + 106 by omega, show 107 + 85 * x1_8778 + 4 * x2_9542 = 85 * x1_8778 + 4 * x2_9542 + 107 by omega]) (by omega) (by omega) rfl (by omega) (by omega)) (by omega) rfl
                · refine kx_bipush 99 F dX12_laysRules_97 (by decide) rfl ?_
                  refine kx_goto 112 F dX12_laysRules_99 (by decide) ?_
                  refine kx_ior 113 F (v := (zor (N_9543 171 (54 * x1_8778 + 9 * (M 164 (85 * x1_8778 + 4 * x2_9542 + 105)) + 3 * (M 164 (85 * x1_8778 + 4 * x2_9542 + 106)) + (M 164 (85 * x1_8778 + 4 * x2_9542 + 107)))) 8)) dX12_laysRules_112 rfl rfl ?_
                  have h_9576 : 0 ≤ (zor (N_9543 171 (54 * x1_8778 + 9 * (M 164 (85 * x1_8778 + 4 * x2_9542 + 105)) + 3 * (M 164 (85 * x1_8778 + 4 * x2_9542 + 106)) + (M 164 (85 * x1_8778 + 4 * x2_9542 + 107)))) 8) ∧ (zor (N_9543 171 (54 * x1_8778 + 9 * (M 164 (85 * x1_8778 + 4 * x2_9542 + 105)) + 3 * (M 164 (85 * x1_8778 + 4 * x2_9542 + 106)) + (M 164 (85 * x1_8778 + 4 * x2_9542 + 107)))) 8) < 16 := zor_lt (a := (N_9543 171 (54 * x1_8778 + 9 * (M 164 (85 * x1_8778 + 4 * x2_9542 + 105)) + 3 * (M 164 (85 * x1_8778 + 4 * x2_9542 + 106)) + (M 164 (85 * x1_8778 + 4 * x2_9542 + 107))))) (b := 8) 4 (by decide) (by omega) (by omega)
                  refine kx_iast 114 F kd_171 rfl rfl (by omega) (by decide) dX12_laysRules_113 rfl ?_
                  intro N_9577 hM_N_9577
                  have hI_N_9577 : Inv true N_9577 := Inv.u hI_N_9543 hM_N_9577 kd_171 (a := 0) (b := 15) rfl rfl rfl (by omega)
                  have hF_N_9577 : Fr f_e_laysRules M N_9577 := Fr.u hF_N_9543 hM_N_9577 kd_171 rfl
                  refine kx_iinc 117 F 2 (v := x2_9542 + 1) (lo' := [some (vR G 163), some (vI x1_8778), some (vI (x2_9542 + 1)), some (vI (85 * x1_8778 + 4 * x2_9542 + 105))]) dX12_laysRules_114 rfl (by omega) (by decide) rfl rfl rfl ?_
                  refine kx_goto 36 F dX12_laysRules_117 (by decide) ?_
                  refine kx_drop 3 (lo' := [some (vR G 163), some (vI x1_8778), some (vI (x2_9542 + 1)), none]) rfl ?_
                  exact ih_9546 _ (by omega) (x2_9542 + 1) N_9577 hI_N_9577 hF_N_9577 (LF.st8 (s := 85 * x1_8778 + 4 * x2_9542 + 108) hp_9549 (by omega) hM_N_9577 (by unfold rpl; rw [show 105 + 85 * x1_8778 + 4 * x2_9542 = 85 * x1_8778 + 4 * x2_9542 + 105 by omega, show 106 + 85 * x1_8778 + 4 * x2_9542 = 85 * x1_8778 + 4 * x2_9542 + 106 by omega, show 107 + 85 * x1_8778 + 4 * x2_9542 = 85 * x1_8778 + 4 * x2_9542 + 107 by omega]) (by omega) rfl (by omega) (by omega) (by omega)) (by omega) rfl
          exact L_9544 _ 0 N_8779 hI_N_8779 hF_N_8779 (LF.begin hp_8785 (by omega)) (by omega) rfl
      exact L_8780 _ 0 N_6391 hI_N_6391 hF_N_6391 (LZ.done hp_6397 (by omega) (by omega)) (by omega) rfl
    · refine kx_aload_n 10 F 0 dX12_laysRules_9 rfl rfl rfl ?_
      refine kx_getr 13 F fl_X12_44 kd_163 rfl rfl (j := 20) rfl dX12_laysRules_10 (v := 171) (uq_171 (Inv.r hI_N_6391 kd_163 rfl 20 rfl rfl)) rfl ?_
      refine kx_iload_n 14 F 1 dX12_laysRules_13 rfl rfl rfl ?_
      refine kx_iconst 15 F dX12_laysRules_14 rfl ?_
      refine kx_iast 16 F kd_171 rfl rfl (by omega) (by decide) dX12_laysRules_15 rfl ?_
      intro N_9578 hM_N_9578
      have hI_N_9578 : Inv true N_9578 := Inv.u hI_N_6391 hM_N_9578 kd_171 (a := 0) (b := 15) rfl rfl rfl (by omega)
      have hF_N_9578 : Fr f_e_laysRules M N_9578 := Fr.u hF_N_6391 hM_N_9578 kd_171 rfl
      refine kx_iinc 19 F 1 (v := x1_6390 + 1) (lo' := [some (vR G 163), some (vI (x1_6390 + 1)), none, none]) dX12_laysRules_16 rfl (by omega) (by decide) rfl rfl rfl ?_
      refine kx_goto 2 F dX12_laysRules_19 (by decide) ?_
      exact ih_6394 _ (by omega) (x1_6390 + 1) N_9578 hI_N_9578 hF_N_9578 (LZ.step hp_6397 hM_N_9578 (by omega) (by omega)) (by omega) rfl
  exact L_6392 _ 0 M hI_M hF_M (fun i h0 h1 => absurd h0 (by omega)) (by omega) rfl
set_option maxHeartbeats 4000000 in
set_option maxRecDepth 100000 in
theorem e_foundIn (G : KG) (l : Launch) (M : Mem) (a1 : Int) (a2 : Int) (hI_M : Inv true M) (hpre : -2147483648 ≤ a1 ∧ a1 ≤ 2147483647 ∧ -2147483648 ≤ a2 ∧ a2 ≤ 2147483647) : KC true G l yX12_foundIn cX12_foundIn 4 (some .int) (0, 0) [vR G 163, vI a1, vI a2] M (fun A => kQi true G A (fun (r : Int) (N : Mem) => M = N ∧ ((r = -1) ∨ (r ≥ 0 ∧ r < (M 163 35) ∧ (M 182 r) = a2)))) := by
  refine kx_met (lo := [some (vR G 163), some (vI a1), some (vI a2), none]) (by decide) (Nat.le_of_ble_eq_true rfl) rfl ?_
  intro X F hQ
  refine kx_iconst 1 F dX12_foundIn_0 rfl ?_
  refine kx_istore_n 2 F 3 (lo' := [some (vR G 163), some (vI a1), some (vI a2), some (vI 0)]) dX12_foundIn_1 rfl (by decide) rfl rfl rfl ?_
  have L_51 : ∀ (n_52 : Nat) (x3_50 : Int), 0 ≤ x3_50 ∧ x3_50 ≤ 41 → (41 - (x3_50)).toNat = n_52 → KJ true G X M 2 [some (vR G 163), some (vI a1), some (vI a2), some (vI x3_50)] [] := by
    intro n_52
    refine Nat.strongRecOn n_52 ?_
    intro n_52 ih_53 x3_50 h_54 hm_55
    refine kx_iload_n 3 F 3 dX12_foundIn_2 rfl rfl rfl ?_
    refine kx_aload_n 4 F 0 dX12_foundIn_3 rfl rfl rfl ?_
    refine kx_geti 7 F fl_X12_403 kd_163 rfl rfl (j := 35) rfl dX12_foundIn_4 (v := (M 163 35)) rfl rfl ?_
    have h_56 := Inv.g hI_M kd_163 rfl 35 (a := 0) (b := 41) rfl rfl
    refine kx_icmp_ge 10 F 38 dX12_foundIn_7 (by decide) rfl (by omega) (by omega) (fun h_57 => ?_) (fun h_57 => ?_)
    · refine kx_iconst 39 F dX12_foundIn_38 rfl ?_
      exact kx_iret F hQ ⟨rfl, (by omega)⟩ dX12_foundIn_39
    · refine kx_aload_n 11 F 0 dX12_foundIn_10 rfl rfl rfl ?_
      refine kx_getr 14 F fl_X12_74 kd_163 rfl rfl (j := 33) rfl dX12_foundIn_11 (v := 181) (uq_181 (Inv.r hI_M kd_163 rfl 33 rfl rfl)) rfl ?_
      refine kx_iload_n 15 F 3 dX12_foundIn_14 rfl rfl rfl ?_
      refine kx_iald 16 F kd_181 rfl rfl (by omega) (by decide) dX12_foundIn_15 (v := (M 181 x3_50)) rfl rfl ?_
      have h_58 := Inv.g hI_M kd_181 rfl x3_50 (a := 0) (b := 7) rfl rfl
      refine kx_iload_n 17 F 1 dX12_foundIn_16 rfl rfl rfl ?_
      have J_62 : KJ true G X M 32 [some (vR G 163), some (vI a1), some (vI a2), some (vI x3_50)] [] := by
        refine kx_iinc 35 F 3 (v := x3_50 + 1) (lo' := [some (vR G 163), some (vI a1), some (vI a2), some (vI (x3_50 + 1))]) dX12_foundIn_32 rfl (by omega) (by decide) rfl rfl rfl ?_
        refine kx_goto 2 F dX12_foundIn_35 (by decide) ?_
        exact ih_53 _ (by omega) (x3_50 + 1) (by omega) rfl
      refine kx_icmp_ne 20 F 32 dX12_foundIn_17 (by decide) rfl (by omega) (by omega) (fun h_64 => ?_) (fun h_64 => ?_)
      · exact J_62
      · refine kx_aload_n 21 F 0 dX12_foundIn_20 rfl rfl rfl ?_
        refine kx_getr 24 F fl_X12_77 kd_163 rfl rfl (j := 34) rfl dX12_foundIn_21 (v := 182) (uq_182 (Inv.r hI_M kd_163 rfl 34 rfl rfl)) rfl ?_
        refine kx_iload_n 25 F 3 dX12_foundIn_24 rfl rfl rfl ?_
        refine kx_iald 26 F kd_182 rfl rfl (by omega) (by decide) dX12_foundIn_25 (v := (M 182 x3_50)) rfl rfl ?_
        have h_65 := Inv.g hI_M kd_182 rfl x3_50 (a := 0) (b := 511) rfl rfl
        refine kx_iload_n 27 F 2 dX12_foundIn_26 rfl rfl rfl ?_
        refine kx_icmp_ne 30 F 32 dX12_foundIn_27 (by decide) rfl (by omega) (by omega) (fun h_66 => ?_) (fun h_66 => ?_)
        · exact J_62
        · refine kx_iload_n 31 F 3 dX12_foundIn_30 rfl rfl rfl ?_
          exact kx_iret F hQ ⟨rfl, (by omega)⟩ dX12_foundIn_31
  exact L_51 _ 0 (by omega) rfl
abbrev f_e_putsIn : List (Nat × Int) := [(64, 35), (81, -1), (82, -1)]
set_option maxHeartbeats 4000000 in
set_option maxRecDepth 100000 in
theorem e_putsIn (G : KG) (l : Launch) (M : Mem) (a1 : Int) (a2 : Int) (hI_M : Inv true M) (hpre : -2147483648 ≤ a1 ∧ a1 ≤ 2147483647 ∧ -2147483648 ≤ a2 ∧ a2 ≤ 2147483647 ∧ 0 ≤ a1 ∧ a1 ≤ 7 ∧ 0 ≤ a2 ∧ a2 ≤ 511) : KC true G l yX12_putsIn cX12_putsIn 3 none (1, 23) [vR G 163, vI a1, vI a2] M (fun A => kQv true G A (fun (N : Mem) => Inv true N ∧ Fr f_e_putsIn M N ∧ (PI N M (a2)))) := by
  refine kx_met (lo := [some (vR G 163), some (vI a1), some (vI a2)]) (by decide) (Nat.le_of_ble_eq_true rfl) rfl ?_
  intro X F hQ
  have hF_M : Fr f_e_putsIn M M := Fr.rf _ _
  refine kx_aload_n 1 F 0 dX12_putsIn_0 rfl rfl rfl ?_
  refine kx_geti 4 F fl_X12_403 kd_163 rfl rfl (j := 35) rfl dX12_putsIn_1 (v := (M 163 35)) rfl rfl ?_
  have h_1 := Inv.g hI_M kd_163 rfl 35 (a := 0) (b := 41) rfl rfl
  refine kx_bipush 6 F dX12_putsIn_4 (by decide) rfl ?_
  refine kx_icmp_gt 9 F 19 dX12_putsIn_6 (by decide) rfl (by omega) (by decide) (fun h_2 => ?_) (fun h_2 => ?_)
  · exact kx_vret F hQ ⟨hI_M, hF_M, (PI.full (by omega))⟩ dX12_putsIn_19
  · refine kx_aload_n 10 F 0 dX12_putsIn_9 rfl rfl rfl ?_
    refine kx_iload_n 11 F 1 dX12_putsIn_10 rfl rfl rfl ?_
    refine kx_iload_n 12 F 2 dX12_putsIn_11 rfl rfl rfl ?_
    refine kx_Vi 15 (ci := 0) F (As := [vI a1, vI a2]) (st := []) vd_X12_406 (e_foundIn G l M a1 a2 hI_M (by omega)) kd_163 rfl rfl rfl ⟨by decide, by decide⟩ rfl rfl (Nat.le_of_ble_eq_true rfl) dX12_putsIn_12 rfl ?_
    intro r_3 N_4 q_5
    obtain ⟨rfl, q_5c⟩ := q_5
    rcases q_5c with q_5c | q_5c
    · refine kx_iconst 16 F dX12_putsIn_15 rfl ?_
      refine kx_icmp_eq 19 F 20 dX12_putsIn_16 (by decide) rfl (by omega) (by decide) (fun h_6 => ?_) (fun h_6 => (by exfalso; omega))
      refine kx_aload_n 21 F 0 dX12_putsIn_20 rfl rfl rfl ?_
      refine kx_getr 24 F fl_X12_74 kd_163 rfl rfl (j := 33) rfl dX12_putsIn_21 (v := 181) (uq_181 (Inv.r hI_M kd_163 rfl 33 rfl rfl)) rfl ?_
      refine kx_aload_n 25 F 0 dX12_putsIn_24 rfl rfl rfl ?_
      refine kx_geti 28 F fl_X12_403 kd_163 rfl rfl (j := 35) rfl dX12_putsIn_25 (v := (M 163 35)) rfl rfl ?_
      refine kx_iload_n 29 F 1 dX12_putsIn_28 rfl rfl rfl ?_
      refine kx_iast 30 F kd_181 rfl rfl (by omega) (by decide) dX12_putsIn_29 rfl ?_
      intro N_7 hM_N_7
      have hI_N_7 : Inv true N_7 := Inv.u hI_M hM_N_7 kd_181 (a := 0) (b := 7) rfl rfl rfl (by omega)
      have hF_N_7 : Fr f_e_putsIn M N_7 := Fr.u hF_M hM_N_7 kd_181 rfl
      refine kx_aload_n 31 F 0 dX12_putsIn_30 rfl rfl rfl ?_
      refine kx_getr 34 F fl_X12_77 kd_163 rfl rfl (j := 34) rfl dX12_putsIn_31 (v := 182) (uq_182 (Inv.r hI_N_7 kd_163 rfl 34 rfl rfl)) rfl ?_
      refine kx_aload_n 35 F 0 dX12_putsIn_34 rfl rfl rfl ?_
      refine kx_geti 38 F fl_X12_403 kd_163 rfl rfl (j := 35) rfl dX12_putsIn_35 (v := (M 163 35)) (by rw [hM_N_7, mu_k kd_163 kd_181 rfl]) rfl ?_
      refine kx_iload_n 39 F 2 dX12_putsIn_38 rfl rfl rfl ?_
      refine kx_iast 40 F kd_182 rfl rfl (by omega) (by decide) dX12_putsIn_39 rfl ?_
      intro N_8 hM_N_8
      have hI_N_8 : Inv true N_8 := Inv.u hI_N_7 hM_N_8 kd_182 (a := 0) (b := 511) rfl rfl rfl (by omega)
      have hF_N_8 : Fr f_e_putsIn M N_8 := Fr.u hF_N_7 hM_N_8 kd_182 rfl
      refine kx_aload_n 41 F 0 dX12_putsIn_40 rfl rfl rfl ?_
      refine kx_dup 42 F dX12_putsIn_41 rfl rfl ?_
      refine kx_geti 45 F fl_X12_403 kd_163 rfl rfl (j := 35) rfl dX12_putsIn_42 (v := (M 163 35)) (by rw [hM_N_8, mu_k kd_163 kd_182 rfl, hM_N_7, mu_k kd_163 kd_181 rfl]) rfl ?_
      refine kx_iconst 46 F dX12_putsIn_45 rfl ?_
      refine kx_iadd 47 F (v := (M 163 35) + 1) dX12_putsIn_46 rfl rfl ?_
      refine kx_puti 50 F fw_X12_403 rfl kd_163 rfl rfl (j := 35) rfl dX12_putsIn_47 rfl ?_
      intro N_9 hM_N_9
      have hI_N_9 : Inv true N_9 := Inv.u hI_N_8 hM_N_9 kd_163 (a := 0) (b := 41) rfl rfl rfl (by omega)
      have hF_N_9 : Fr f_e_putsIn M N_9 := Fr.u hF_N_8 hM_N_9 kd_163 rfl
      have e_10 : (N_9 163 35) = (M 163 35) + 1 := by rw [hM_N_9, mu_s]
      have e_11 : N_9 182 (M 163 35) = a2 := by rw [show M 163 35 = (M 163 35) by omega, hM_N_9, mu_k kd_182 kd_163 rfl, hM_N_8, mu_s]
      exact kx_vret F hQ ⟨hI_N_9, hF_N_9, (PI.new (m := M 163 35) rfl (by omega) (by omega) (fun j hj => by rw [hM_N_9, mu_k kd_182 kd_163 rfl, hM_N_8, mu_i (by omega), hM_N_7, mu_k kd_182 kd_181 rfl]) (by omega))⟩ dX12_putsIn_50
    · refine kx_iconst 16 F dX12_putsIn_15 rfl ?_
      refine kx_icmp_eq 19 F 20 dX12_putsIn_16 (by decide) rfl (by omega) (by decide) (fun h_12 => (by exfalso; omega)) (fun h_12 => ?_)
      exact kx_vret F hQ ⟨hI_M, hF_M, (PI.found (r := r_3) (by omega) (by omega) (by omega))⟩ dX12_putsIn_19
set_option maxHeartbeats 4000000 in
set_option maxRecDepth 100000 in
theorem e_nextS (G : KG) (l : Launch) (M : Mem) (a1 : Int) (a2 : Int) (a3 : Int) (hI_M : Inv true M) (hpre : -2147483648 ≤ a1 ∧ a1 ≤ 2147483647 ∧ -2147483648 ≤ a2 ∧ a2 ≤ 2147483647 ∧ -2147483648 ≤ a3 ∧ a3 ≤ 2147483647 ∧ 0 ≤ a1 ∧ a1 ≤ 1 ∧ 0 ≤ a2 ∧ a2 ≤ 40 ∧ 0 ≤ a3 ∧ a3 ≤ 5) : KC true G l yX12_nextS cX12_nextS 4 (some .int) (3, 66) [vR G 163, vI a1, vI a2, vI a3] M (fun A => kQi true G A (fun (r : Int) (N : Mem) => M = N ∧ (0 ≤ r ∧ r ≤ 511) ∧ (M 164 0 + M 164 1 ≤ a3 → r = thnZ (M 182 a2) (leadZ (M 171) (54 * a1 + 9 * a3) 8 9) 9))) := by
  refine kx_met (lo := [some (vR G 163), some (vI a1), some (vI a2), some (vI a3)]) (by decide) (Nat.le_of_ble_eq_true rfl) rfl ?_
  intro X F hQ
  have h_1 := Inv.g hI_M kd_164 rfl 0 (a := 0) (b := 2) (at_c 0 0 (o := 0) (lo := 0) (hi := 2) (by omega) (by decide) (by decide) (by decide)).1 (at_c 0 0 (o := 0) (lo := 0) (hi := 2) (by omega) (by decide) (by decide) (by decide)).2
  have h_2 := Inv.g hI_M kd_164 rfl 1 (a := 0) (b := 2) (at_c 1 0 (o := 1) (lo := 0) (hi := 2) (by omega) (by decide) (by decide) (by decide)).1 (at_c 1 0 (o := 1) (lo := 0) (hi := 2) (by omega) (by decide) (by decide) (by decide)).2
  have h_3 := Inv.g hI_M kd_164 rfl 2 (a := 0) (b := 2) (at_c 2 0 (o := 2) (lo := 0) (hi := 2) (by omega) (by decide) (by decide) (by decide)).1 (at_c 2 0 (o := 2) (lo := 0) (hi := 2) (by omega) (by decide) (by decide) (by decide)).2
  refine kx_aload_n 1 F 0 dX12_nextS_0 rfl rfl rfl ?_
  refine kx_iload_n 2 F 3 dX12_nextS_1 rfl rfl rfl ?_
  refine kx_Vi 5 (ci := 0) F (As := [vI a3]) (st := []) vd_X12_297 (c_sortNowE G l M a3 hI_M (by omega)) kd_163 rfl rfl rfl ⟨by decide, by decide⟩ rfl rfl (Nat.le_of_ble_eq_true rfl) dX12_nextS_2 rfl ?_
  intro r_4 N_5 q_6
  obtain ⟨rfl, q_6c⟩ := q_6
  rcases q_6c with q_6c | q_6c | q_6c
  · refine kx_if_ne 8 F 16 dX12_nextS_5 (by decide) rfl (by omega) (fun h_7 => (by exfalso; omega)) (fun h_7 => ?_)
    refine kx_aload_n 9 F 0 dX12_nextS_8 rfl rfl rfl ?_
    refine kx_iload_n 10 F 1 dX12_nextS_9 rfl rfl rfl ?_
    refine kx_Vi 13 (ci := 0) F (As := [vI a1]) (st := []) vd_X12_329 (e_same G l M a1 hI_M (by omega)) kd_163 rfl rfl rfl ⟨by decide, by decide⟩ rfl rfl (Nat.le_of_ble_eq_true rfl) dX12_nextS_10 rfl ?_
    intro r_8 N_9 q_10
    obtain ⟨rfl, q_10c, hz_N_9⟩ := q_10
    refine kx_goto 33 F dX12_nextS_13 (by decide) ?_
    exact kx_iret F hQ ⟨rfl, (by omega), (fun h => absurd h (by omega))⟩ dX12_nextS_33
  · refine kx_if_ne 8 F 16 dX12_nextS_5 (by decide) rfl (by omega) (fun h_11 => ?_) (fun h_11 => (by exfalso; omega))
    refine kx_aload_n 17 F 0 dX12_nextS_16 rfl rfl rfl ?_
    refine kx_getr 20 F fl_X12_77 kd_163 rfl rfl (j := 34) rfl dX12_nextS_17 (v := 182) (uq_182 (Inv.r hI_M kd_163 rfl 34 rfl rfl)) rfl ?_
    refine kx_iload_n 21 F 2 dX12_nextS_20 rfl rfl rfl ?_
    refine kx_iald 22 F kd_182 rfl rfl (by omega) (by decide) dX12_nextS_21 (v := (M 182 a2)) rfl rfl ?_
    have h_12 := Inv.g hI_M kd_182 rfl a2 (a := 0) (b := 511) rfl rfl
    refine kx_aload_n 23 F 0 dX12_nextS_22 rfl rfl rfl ?_
    refine kx_iload_n 24 F 1 dX12_nextS_23 rfl rfl rfl ?_
    refine kx_iload_n 25 F 3 dX12_nextS_24 rfl rfl rfl ?_
    refine kx_bipush 27 F dX12_nextS_25 (by decide) rfl ?_
    refine kx_Vi 30 (ci := 0) F (As := [vI a1, vI a3, vI 8]) (st := [vI (M 182 a2)]) vd_X12_323 (e_leads G l M a1 a3 8 hI_M (by omega)) kd_163 rfl rfl rfl ⟨by decide, by decide⟩ rfl rfl (Nat.le_of_ble_eq_true rfl) dX12_nextS_27 rfl ?_
    intro r_13 N_14 q_15
    obtain ⟨rfl, q_15c, hz_N_14⟩ := q_15
    refine kx_Si 33 F (As := [vI (M 182 a2), vI r_13]) (st := []) sd_X12_326 (e_then G l M (M 182 a2) r_13 hI_M (by omega)) ⟨by decide, by decide⟩ rfl rfl (Nat.le_of_ble_eq_true rfl) dX12_nextS_30 rfl ?_
    intro r_16 N_17 q_18
    obtain ⟨rfl, q_18c, hz_N_17⟩ := q_18
    exact kx_iret F hQ ⟨rfl, (by omega), (fun _ => by simp only [hz_N_14, hz_N_17])⟩ dX12_nextS_33
  · refine kx_if_ne 8 F 16 dX12_nextS_5 (by decide) rfl (by omega) (fun h_19 => ?_) (fun h_19 => (by exfalso; omega))
    refine kx_aload_n 17 F 0 dX12_nextS_16 rfl rfl rfl ?_
    refine kx_getr 20 F fl_X12_77 kd_163 rfl rfl (j := 34) rfl dX12_nextS_17 (v := 182) (uq_182 (Inv.r hI_M kd_163 rfl 34 rfl rfl)) rfl ?_
    refine kx_iload_n 21 F 2 dX12_nextS_20 rfl rfl rfl ?_
    refine kx_iald 22 F kd_182 rfl rfl (by omega) (by decide) dX12_nextS_21 (v := (M 182 a2)) rfl rfl ?_
    have h_20 := Inv.g hI_M kd_182 rfl a2 (a := 0) (b := 511) rfl rfl
    refine kx_aload_n 23 F 0 dX12_nextS_22 rfl rfl rfl ?_
    refine kx_iload_n 24 F 1 dX12_nextS_23 rfl rfl rfl ?_
    refine kx_iload_n 25 F 3 dX12_nextS_24 rfl rfl rfl ?_
    refine kx_bipush 27 F dX12_nextS_25 (by decide) rfl ?_
    refine kx_Vi 30 (ci := 0) F (As := [vI a1, vI a3, vI 8]) (st := [vI (M 182 a2)]) vd_X12_323 (e_leads G l M a1 a3 8 hI_M (by omega)) kd_163 rfl rfl rfl ⟨by decide, by decide⟩ rfl rfl (Nat.le_of_ble_eq_true rfl) dX12_nextS_27 rfl ?_
    intro r_21 N_22 q_23
    obtain ⟨rfl, q_23c, hz_N_22⟩ := q_23
    refine kx_Si 33 F (As := [vI (M 182 a2), vI r_21]) (st := []) sd_X12_326 (e_then G l M (M 182 a2) r_21 hI_M (by omega)) ⟨by decide, by decide⟩ rfl rfl (Nat.le_of_ble_eq_true rfl) dX12_nextS_30 rfl ?_
    intro r_24 N_25 q_26
    obtain ⟨rfl, q_26c, hz_N_25⟩ := q_26
    exact kx_iret F hQ ⟨rfl, (by omega), (fun _ => by simp only [hz_N_22, hz_N_25])⟩ dX12_nextS_33
abbrev f_e_putsBack : List (Nat × Int) := [(64, 35), (81, -1), (82, -1)]
set_option maxHeartbeats 4000000 in
set_option maxRecDepth 100000 in
theorem e_putsBack (G : KG) (l : Launch) (M : Mem) (a1 : Int) (a2 : Int) (a3 : Int) (a4 : Int) (a5 : Int) (hI_M : Inv true M) (hpre : -2147483648 ≤ a1 ∧ a1 ≤ 2147483647 ∧ -2147483648 ≤ a2 ∧ a2 ≤ 2147483647 ∧ -2147483648 ≤ a3 ∧ a3 ≤ 2147483647 ∧ -2147483648 ≤ a4 ∧ a4 ≤ 2147483647 ∧ -2147483648 ≤ a5 ∧ a5 ≤ 2147483647 ∧ 0 ≤ a1 ∧ a1 ≤ 1 ∧ 0 ≤ a2 ∧ a2 ≤ 40 ∧ 0 ≤ a3 ∧ a3 ≤ 5 ∧ 0 ≤ a4 ∧ a4 ≤ 40 ∧ 0 ≤ a5 ∧ a5 ≤ 5) : KC true G l yX12_putsBack cX12_putsBack 7 none (3, 75) [vR G 163, vI a1, vI a2, vI a3, vI a4, vI a5] M (fun A => kQv true G A (fun (N : Mem) => Inv true N ∧ Fr f_e_putsBack M N ∧ (PI N M (thnZ (M 182 a4) (ovr (M 171) a1 (M 182 a2) a5 a3) 9)))) := by
  refine kx_met (lo := [some (vR G 163), some (vI a1), some (vI a2), some (vI a3), some (vI a4), some (vI a5), none]) (by decide) (Nat.le_of_ble_eq_true rfl) rfl ?_
  intro X F hQ
  have hF_M : Fr f_e_putsBack M M := Fr.rf _ _
  refine kx_aload_n 1 F 0 dX12_putsBack_0 rfl rfl rfl ?_
  refine kx_iload_n 2 F 1 dX12_putsBack_1 rfl rfl rfl ?_
  refine kx_aload_n 3 F 0 dX12_putsBack_2 rfl rfl rfl ?_
  refine kx_getr 6 F fl_X12_77 kd_163 rfl rfl (j := 34) rfl dX12_putsBack_3 (v := 182) (uq_182 (Inv.r hI_M kd_163 rfl 34 rfl rfl)) rfl ?_
  refine kx_iload_n 7 F 2 dX12_putsBack_6 rfl rfl rfl ?_
  refine kx_iald 8 F kd_182 rfl rfl (by omega) (by decide) dX12_putsBack_7 (v := (M 182 a2)) rfl rfl ?_
  have h_1 := Inv.g hI_M kd_182 rfl a2 (a := 0) (b := 511) rfl rfl
  refine kx_iload 10 F 5 dX12_putsBack_8 rfl rfl ?_
  refine kx_iload_n 11 F 3 dX12_putsBack_10 rfl rfl rfl ?_
  refine kx_Vi 14 (ci := 0) F (As := [vI a1, vI (M 182 a2), vI a5, vI a3]) (st := []) vd_X12_335 (e_over G l M a1 (M 182 a2) a5 a3 hI_M (by omega)) kd_163 rfl rfl rfl ⟨by decide, by decide⟩ rfl rfl (Nat.le_of_ble_eq_true rfl) dX12_putsBack_11 rfl ?_
  intro r_2 N_3 q_4
  obtain ⟨rfl, q_4c, hz_N_3⟩ := q_4
  refine kx_istore 16 F 6 (lo' := [some (vR G 163), some (vI a1), some (vI a2), some (vI a3), some (vI a4), some (vI a5), some (vI r_2)]) dX12_putsBack_14 (by decide) rfl rfl rfl ?_
  refine kx_aload_n 17 F 0 dX12_putsBack_16 rfl rfl rfl ?_
  refine kx_aload_n 18 F 0 dX12_putsBack_17 rfl rfl rfl ?_
  refine kx_getr 21 F fl_X12_74 kd_163 rfl rfl (j := 33) rfl dX12_putsBack_18 (v := 181) (uq_181 (Inv.r hI_M kd_163 rfl 33 rfl rfl)) rfl ?_
  refine kx_iload 23 F 4 dX12_putsBack_21 rfl rfl ?_
  refine kx_iald 24 F kd_181 rfl rfl (by omega) (by decide) dX12_putsBack_23 (v := (M 181 a4)) rfl rfl ?_
  have h_5 := Inv.g hI_M kd_181 rfl a4 (a := 0) (b := 7) rfl rfl
  refine kx_iload 26 F 6 dX12_putsBack_24 rfl rfl ?_
  refine kx_Si 29 F (As := [vI (M 181 a4), vI r_2]) (st := [vR G 163]) sd_X12_332 (c_X12_image G l M (M 181 a4) r_2 hI_M (by omega)) ⟨by decide, by decide⟩ rfl rfl (Nat.le_of_ble_eq_true rfl) dX12_putsBack_26 rfl ?_
  intro r_6 N_7 q_8
  obtain ⟨rfl, q_8c⟩ := q_8
  refine kx_aload_n 30 F 0 dX12_putsBack_29 rfl rfl rfl ?_
  refine kx_getr 33 F fl_X12_77 kd_163 rfl rfl (j := 34) rfl dX12_putsBack_30 (v := 182) (uq_182 (Inv.r hI_M kd_163 rfl 34 rfl rfl)) rfl ?_
  refine kx_iload 35 F 4 dX12_putsBack_33 rfl rfl ?_
  refine kx_iald 36 F kd_182 rfl rfl (by omega) (by decide) dX12_putsBack_35 (v := (M 182 a4)) rfl rfl ?_
  have h_9 := Inv.g hI_M kd_182 rfl a4 (a := 0) (b := 511) rfl rfl
  refine kx_iload 38 F 6 dX12_putsBack_36 rfl rfl ?_
  refine kx_Si 41 F (As := [vI (M 182 a4), vI r_2]) (st := [vI r_6, vR G 163]) sd_X12_326 (e_then G l M (M 182 a4) r_2 hI_M (by omega)) ⟨by decide, by decide⟩ rfl rfl (Nat.le_of_ble_eq_true rfl) dX12_putsBack_38 rfl ?_
  intro r_10 N_11 q_12
  obtain ⟨rfl, q_12c, hz_N_11⟩ := q_12
  refine kx_Vv 44 (ci := 0) F (As := [vI r_6, vI r_10]) (st := []) vd_X12_409 (e_putsIn G l M r_6 r_10 hI_M (by omega)) kd_163 rfl rfl rfl ⟨by decide, by decide⟩ rfl rfl (Nat.le_of_ble_eq_true rfl) dX12_putsBack_41 rfl ?_
  intro N_13 q_14
  obtain ⟨hI_N_13, hG_N_13, hp_N_13⟩ := q_14
  have hF_N_13 : Fr f_e_putsBack M N_13 := Fr.c hF_M hG_N_13 rfl
  have hq_N_13 : M 163 35 ≤ N_13 163 35 := hp_N_13.1
  exact kx_vret F hQ ⟨hI_N_13, hF_N_13, (by simp only [hz_N_3, hz_N_11] at hp_N_13; exact hp_N_13)⟩ dX12_putsBack_44
set_option maxRecDepth 100000 in
theorem dGR_38_c_1146 : (decode cX12_laysTable 0 = .ok (.aload_n 0, 1)) ∧ (decode cX12_laysTable 1 = .ok (.invokevirtual 342, 3)) ∧ (decode cX12_laysTable 4 = .ok (.aload_n 0, 1)) ∧ (decode cX12_laysTable 5 = .ok (.iconst 0, 1)) ∧ (decode cX12_laysTable 6 = .ok (.putfield 403, 3)) ∧ (decode cX12_laysTable 9 = .ok (.aload_n 0, 1)) ∧ (decode cX12_laysTable 10 = .ok (.aload_n 0, 1)) ∧ (decode cX12_laysTable 11 = .ok (.iload_n 1, 1)) ∧ (decode cX12_laysTable 12 = .ok (.iconst 2, 1)) ∧ (decode cX12_laysTable 13 = .ok (.invokevirtual 288, 3)) ∧ (decode cX12_laysTable 16 = .ok (.aload_n 0, 1)) ∧ (decode cX12_laysTable 17 = .ok (.iload_n 1, 1)) := by decide +kernel
theorem dX12_laysTable_0 : decode cX12_laysTable 0 = .ok (.aload_n 0, 1) := dGR_38_c_1146.1
theorem dX12_laysTable_1 : decode cX12_laysTable 1 = .ok (.invokevirtual 342, 3) := dGR_38_c_1146.2.1
theorem dX12_laysTable_4 : decode cX12_laysTable 4 = .ok (.aload_n 0, 1) := dGR_38_c_1146.2.2.1
theorem dX12_laysTable_5 : decode cX12_laysTable 5 = .ok (.iconst 0, 1) := dGR_38_c_1146.2.2.2.1
theorem dX12_laysTable_6 : decode cX12_laysTable 6 = .ok (.putfield 403, 3) := dGR_38_c_1146.2.2.2.2.1
theorem dX12_laysTable_9 : decode cX12_laysTable 9 = .ok (.aload_n 0, 1) := dGR_38_c_1146.2.2.2.2.2.1
theorem dX12_laysTable_10 : decode cX12_laysTable 10 = .ok (.aload_n 0, 1) := dGR_38_c_1146.2.2.2.2.2.2.1
theorem dX12_laysTable_11 : decode cX12_laysTable 11 = .ok (.iload_n 1, 1) := dGR_38_c_1146.2.2.2.2.2.2.2.1
theorem dX12_laysTable_12 : decode cX12_laysTable 12 = .ok (.iconst 2, 1) := dGR_38_c_1146.2.2.2.2.2.2.2.2.1
theorem dX12_laysTable_13 : decode cX12_laysTable 13 = .ok (.invokevirtual 288, 3) := dGR_38_c_1146.2.2.2.2.2.2.2.2.2.1
theorem dX12_laysTable_16 : decode cX12_laysTable 16 = .ok (.aload_n 0, 1) := dGR_38_c_1146.2.2.2.2.2.2.2.2.2.2.1
theorem dX12_laysTable_17 : decode cX12_laysTable 17 = .ok (.iload_n 1, 1) := dGR_38_c_1146.2.2.2.2.2.2.2.2.2.2.2
set_option maxRecDepth 100000 in
theorem dGR_38_c_1147 : (decode cX12_laysTable 18 = .ok (.invokevirtual 329, 3)) ∧ (decode cX12_laysTable 21 = .ok (.invokevirtual 409, 3)) ∧ (decode cX12_laysTable 24 = .ok (.iconst 0, 1)) ∧ (decode cX12_laysTable 25 = .ok (.istore_n 2, 1)) ∧ (decode cX12_laysTable 26 = .ok (.iload_n 2, 1)) ∧ (decode cX12_laysTable 27 = .ok (.aload_n 0, 1)) ∧ (decode cX12_laysTable 28 = .ok (.getfield 403, 3)) ∧ (decode cX12_laysTable 31 = .ok (.if_icmp .ge 153, 3)) ∧ (decode cX12_laysTable 34 = .ok (.aload_n 0, 1)) ∧ (decode cX12_laysTable 35 = .ok (.getfield 403, 3)) ∧ (decode cX12_laysTable 38 = .ok (.bipush 40, 2)) ∧ (decode cX12_laysTable 40 = .ok (.if_icmp .gt 144, 3)) := by decide +kernel
theorem dX12_laysTable_18 : decode cX12_laysTable 18 = .ok (.invokevirtual 329, 3) := dGR_38_c_1147.1
theorem dX12_laysTable_21 : decode cX12_laysTable 21 = .ok (.invokevirtual 409, 3) := dGR_38_c_1147.2.1
theorem dX12_laysTable_24 : decode cX12_laysTable 24 = .ok (.iconst 0, 1) := dGR_38_c_1147.2.2.1
theorem dX12_laysTable_25 : decode cX12_laysTable 25 = .ok (.istore_n 2, 1) := dGR_38_c_1147.2.2.2.1
theorem dX12_laysTable_26 : decode cX12_laysTable 26 = .ok (.iload_n 2, 1) := dGR_38_c_1147.2.2.2.2.1
theorem dX12_laysTable_27 : decode cX12_laysTable 27 = .ok (.aload_n 0, 1) := dGR_38_c_1147.2.2.2.2.2.1
theorem dX12_laysTable_28 : decode cX12_laysTable 28 = .ok (.getfield 403, 3) := dGR_38_c_1147.2.2.2.2.2.2.1
theorem dX12_laysTable_31 : decode cX12_laysTable 31 = .ok (.if_icmp .ge 153, 3) := dGR_38_c_1147.2.2.2.2.2.2.2.1
theorem dX12_laysTable_34 : decode cX12_laysTable 34 = .ok (.aload_n 0, 1) := dGR_38_c_1147.2.2.2.2.2.2.2.2.1
theorem dX12_laysTable_35 : decode cX12_laysTable 35 = .ok (.getfield 403, 3) := dGR_38_c_1147.2.2.2.2.2.2.2.2.2.1
theorem dX12_laysTable_38 : decode cX12_laysTable 38 = .ok (.bipush 40, 2) := dGR_38_c_1147.2.2.2.2.2.2.2.2.2.2.1
theorem dX12_laysTable_40 : decode cX12_laysTable 40 = .ok (.if_icmp .gt 144, 3) := dGR_38_c_1147.2.2.2.2.2.2.2.2.2.2.2
set_option maxRecDepth 100000 in
theorem dGR_38_c_1148 : (decode cX12_laysTable 43 = .ok (.iconst 0, 1)) ∧ (decode cX12_laysTable 44 = .ok (.istore_n 3, 1)) ∧ (decode cX12_laysTable 45 = .ok (.iload_n 3, 1)) ∧ (decode cX12_laysTable 46 = .ok (.aload_n 0, 1)) ∧ (decode cX12_laysTable 47 = .ok (.invokevirtual 285, 3)) ∧ (decode cX12_laysTable 50 = .ok (.if_icmp .ge 27, 3)) ∧ (decode cX12_laysTable 53 = .ok (.aload_n 0, 1)) ∧ (decode cX12_laysTable 54 = .ok (.aload_n 0, 1)) ∧ (decode cX12_laysTable 55 = .ok (.iload_n 1, 1)) ∧ (decode cX12_laysTable 56 = .ok (.iload_n 2, 1)) ∧ (decode cX12_laysTable 57 = .ok (.iload_n 3, 1)) ∧ (decode cX12_laysTable 58 = .ok (.invokevirtual 412, 3)) := by decide +kernel
theorem dX12_laysTable_43 : decode cX12_laysTable 43 = .ok (.iconst 0, 1) := dGR_38_c_1148.1
theorem dX12_laysTable_44 : decode cX12_laysTable 44 = .ok (.istore_n 3, 1) := dGR_38_c_1148.2.1
theorem dX12_laysTable_45 : decode cX12_laysTable 45 = .ok (.iload_n 3, 1) := dGR_38_c_1148.2.2.1
theorem dX12_laysTable_46 : decode cX12_laysTable 46 = .ok (.aload_n 0, 1) := dGR_38_c_1148.2.2.2.1
theorem dX12_laysTable_47 : decode cX12_laysTable 47 = .ok (.invokevirtual 285, 3) := dGR_38_c_1148.2.2.2.2.1
theorem dX12_laysTable_50 : decode cX12_laysTable 50 = .ok (.if_icmp .ge 27, 3) := dGR_38_c_1148.2.2.2.2.2.1
theorem dX12_laysTable_53 : decode cX12_laysTable 53 = .ok (.aload_n 0, 1) := dGR_38_c_1148.2.2.2.2.2.2.1
theorem dX12_laysTable_54 : decode cX12_laysTable 54 = .ok (.aload_n 0, 1) := dGR_38_c_1148.2.2.2.2.2.2.2.1
theorem dX12_laysTable_55 : decode cX12_laysTable 55 = .ok (.iload_n 1, 1) := dGR_38_c_1148.2.2.2.2.2.2.2.2.1
theorem dX12_laysTable_56 : decode cX12_laysTable 56 = .ok (.iload_n 2, 1) := dGR_38_c_1148.2.2.2.2.2.2.2.2.2.1
theorem dX12_laysTable_57 : decode cX12_laysTable 57 = .ok (.iload_n 3, 1) := dGR_38_c_1148.2.2.2.2.2.2.2.2.2.2.1
theorem dX12_laysTable_58 : decode cX12_laysTable 58 = .ok (.invokevirtual 412, 3) := dGR_38_c_1148.2.2.2.2.2.2.2.2.2.2.2
set_option maxRecDepth 100000 in
theorem dGR_38_c_1149 : (decode cX12_laysTable 61 = .ok (.aload_n 0, 1)) ∧ (decode cX12_laysTable 62 = .ok (.iload_n 1, 1)) ∧ (decode cX12_laysTable 63 = .ok (.iload_n 2, 1)) ∧ (decode cX12_laysTable 64 = .ok (.iload_n 3, 1)) ∧ (decode cX12_laysTable 65 = .ok (.invokevirtual 415, 3)) ∧ (decode cX12_laysTable 68 = .ok (.invokevirtual 409, 3)) ∧ (decode cX12_laysTable 71 = .ok (.iinc 3 1, 3)) ∧ (decode cX12_laysTable 74 = .ok (.goto (-29), 3)) ∧ (decode cX12_laysTable 77 = .ok (.iconst 0, 1)) ∧ (decode cX12_laysTable 78 = .ok (.istore_n 3, 1)) ∧ (decode cX12_laysTable 79 = .ok (.iload_n 3, 1)) ∧ (decode cX12_laysTable 80 = .ok (.iload_n 2, 1)) := by decide +kernel
theorem dX12_laysTable_61 : decode cX12_laysTable 61 = .ok (.aload_n 0, 1) := dGR_38_c_1149.1
theorem dX12_laysTable_62 : decode cX12_laysTable 62 = .ok (.iload_n 1, 1) := dGR_38_c_1149.2.1
theorem dX12_laysTable_63 : decode cX12_laysTable 63 = .ok (.iload_n 2, 1) := dGR_38_c_1149.2.2.1
theorem dX12_laysTable_64 : decode cX12_laysTable 64 = .ok (.iload_n 3, 1) := dGR_38_c_1149.2.2.2.1
theorem dX12_laysTable_65 : decode cX12_laysTable 65 = .ok (.invokevirtual 415, 3) := dGR_38_c_1149.2.2.2.2.1
theorem dX12_laysTable_68 : decode cX12_laysTable 68 = .ok (.invokevirtual 409, 3) := dGR_38_c_1149.2.2.2.2.2.1
theorem dX12_laysTable_71 : decode cX12_laysTable 71 = .ok (.iinc 3 1, 3) := dGR_38_c_1149.2.2.2.2.2.2.1
theorem dX12_laysTable_74 : decode cX12_laysTable 74 = .ok (.goto (-29), 3) := dGR_38_c_1149.2.2.2.2.2.2.2.1
theorem dX12_laysTable_77 : decode cX12_laysTable 77 = .ok (.iconst 0, 1) := dGR_38_c_1149.2.2.2.2.2.2.2.2.1
theorem dX12_laysTable_78 : decode cX12_laysTable 78 = .ok (.istore_n 3, 1) := dGR_38_c_1149.2.2.2.2.2.2.2.2.2.1
theorem dX12_laysTable_79 : decode cX12_laysTable 79 = .ok (.iload_n 3, 1) := dGR_38_c_1149.2.2.2.2.2.2.2.2.2.2.1
theorem dX12_laysTable_80 : decode cX12_laysTable 80 = .ok (.iload_n 2, 1) := dGR_38_c_1149.2.2.2.2.2.2.2.2.2.2.2
set_option maxRecDepth 100000 in
theorem dGR_38_c_1150 : (decode cX12_laysTable 81 = .ok (.if_icmp .gt 97, 3)) ∧ (decode cX12_laysTable 84 = .ok (.aload_n 0, 1)) ∧ (decode cX12_laysTable 85 = .ok (.getfield 403, 3)) ∧ (decode cX12_laysTable 88 = .ok (.bipush 40, 2)) ∧ (decode cX12_laysTable 90 = .ok (.if_icmp .gt 88, 3)) ∧ (decode cX12_laysTable 93 = .ok (.iconst 0, 1)) ∧ (decode cX12_laysTable 94 = .ok (.istore 4, 2)) ∧ (decode cX12_laysTable 96 = .ok (.iload 4, 2)) ∧ (decode cX12_laysTable 98 = .ok (.aload_n 0, 1)) ∧ (decode cX12_laysTable 99 = .ok (.getfield 7, 3)) ∧ (decode cX12_laysTable 102 = .ok (.iconst 0, 1)) ∧ (decode cX12_laysTable 103 = .ok (.iaload, 1)) := by decide +kernel
theorem dX12_laysTable_81 : decode cX12_laysTable 81 = .ok (.if_icmp .gt 97, 3) := dGR_38_c_1150.1
theorem dX12_laysTable_84 : decode cX12_laysTable 84 = .ok (.aload_n 0, 1) := dGR_38_c_1150.2.1
theorem dX12_laysTable_85 : decode cX12_laysTable 85 = .ok (.getfield 403, 3) := dGR_38_c_1150.2.2.1
theorem dX12_laysTable_88 : decode cX12_laysTable 88 = .ok (.bipush 40, 2) := dGR_38_c_1150.2.2.2.1
theorem dX12_laysTable_90 : decode cX12_laysTable 90 = .ok (.if_icmp .gt 88, 3) := dGR_38_c_1150.2.2.2.2.1
theorem dX12_laysTable_93 : decode cX12_laysTable 93 = .ok (.iconst 0, 1) := dGR_38_c_1150.2.2.2.2.2.1
theorem dX12_laysTable_94 : decode cX12_laysTable 94 = .ok (.istore 4, 2) := dGR_38_c_1150.2.2.2.2.2.2.1
theorem dX12_laysTable_96 : decode cX12_laysTable 96 = .ok (.iload 4, 2) := dGR_38_c_1150.2.2.2.2.2.2.2.1
theorem dX12_laysTable_98 : decode cX12_laysTable 98 = .ok (.aload_n 0, 1) := dGR_38_c_1150.2.2.2.2.2.2.2.2.1
theorem dX12_laysTable_99 : decode cX12_laysTable 99 = .ok (.getfield 7, 3) := dGR_38_c_1150.2.2.2.2.2.2.2.2.2.1
theorem dX12_laysTable_102 : decode cX12_laysTable 102 = .ok (.iconst 0, 1) := dGR_38_c_1150.2.2.2.2.2.2.2.2.2.2.1
theorem dX12_laysTable_103 : decode cX12_laysTable 103 = .ok (.iaload, 1) := dGR_38_c_1150.2.2.2.2.2.2.2.2.2.2.2
set_option maxRecDepth 100000 in
theorem dGR_38_c_1151 : (decode cX12_laysTable 104 = .ok (.if_icmp .ge 68, 3)) ∧ (decode cX12_laysTable 107 = .ok (.aload_n 0, 1)) ∧ (decode cX12_laysTable 108 = .ok (.getfield 7, 3)) ∧ (decode cX12_laysTable 111 = .ok (.iconst 0, 1)) ∧ (decode cX12_laysTable 112 = .ok (.iaload, 1)) ∧ (decode cX12_laysTable 113 = .ok (.istore 5, 2)) ∧ (decode cX12_laysTable 115 = .ok (.iload 5, 2)) ∧ (decode cX12_laysTable 117 = .ok (.aload_n 0, 1)) ∧ (decode cX12_laysTable 118 = .ok (.getfield 7, 3)) ∧ (decode cX12_laysTable 121 = .ok (.iconst 0, 1)) ∧ (decode cX12_laysTable 122 = .ok (.iaload, 1)) ∧ (decode cX12_laysTable 123 = .ok (.aload_n 0, 1)) := by decide +kernel
theorem dX12_laysTable_104 : decode cX12_laysTable 104 = .ok (.if_icmp .ge 68, 3) := dGR_38_c_1151.1
theorem dX12_laysTable_107 : decode cX12_laysTable 107 = .ok (.aload_n 0, 1) := dGR_38_c_1151.2.1
theorem dX12_laysTable_108 : decode cX12_laysTable 108 = .ok (.getfield 7, 3) := dGR_38_c_1151.2.2.1
theorem dX12_laysTable_111 : decode cX12_laysTable 111 = .ok (.iconst 0, 1) := dGR_38_c_1151.2.2.2.1
theorem dX12_laysTable_112 : decode cX12_laysTable 112 = .ok (.iaload, 1) := dGR_38_c_1151.2.2.2.2.1
theorem dX12_laysTable_113 : decode cX12_laysTable 113 = .ok (.istore 5, 2) := dGR_38_c_1151.2.2.2.2.2.1
theorem dX12_laysTable_115 : decode cX12_laysTable 115 = .ok (.iload 5, 2) := dGR_38_c_1151.2.2.2.2.2.2.1
theorem dX12_laysTable_117 : decode cX12_laysTable 117 = .ok (.aload_n 0, 1) := dGR_38_c_1151.2.2.2.2.2.2.2.1
theorem dX12_laysTable_118 : decode cX12_laysTable 118 = .ok (.getfield 7, 3) := dGR_38_c_1151.2.2.2.2.2.2.2.2.1
theorem dX12_laysTable_121 : decode cX12_laysTable 121 = .ok (.iconst 0, 1) := dGR_38_c_1151.2.2.2.2.2.2.2.2.2.1
theorem dX12_laysTable_122 : decode cX12_laysTable 122 = .ok (.iaload, 1) := dGR_38_c_1151.2.2.2.2.2.2.2.2.2.2.1
theorem dX12_laysTable_123 : decode cX12_laysTable 123 = .ok (.aload_n 0, 1) := dGR_38_c_1151.2.2.2.2.2.2.2.2.2.2.2
set_option maxRecDepth 100000 in
theorem dGR_38_c_1152 : (decode cX12_laysTable 124 = .ok (.getfield 7, 3)) ∧ (decode cX12_laysTable 127 = .ok (.iconst 1, 1)) ∧ (decode cX12_laysTable 128 = .ok (.iaload, 1)) ∧ (decode cX12_laysTable 129 = .ok (.iadd, 1)) ∧ (decode cX12_laysTable 130 = .ok (.if_icmp .ge 36, 3)) ∧ (decode cX12_laysTable 133 = .ok (.aload_n 0, 1)) ∧ (decode cX12_laysTable 134 = .ok (.iload_n 1, 1)) ∧ (decode cX12_laysTable 135 = .ok (.iload_n 2, 1)) ∧ (decode cX12_laysTable 136 = .ok (.iload 5, 2)) ∧ (decode cX12_laysTable 138 = .ok (.iload_n 3, 1)) ∧ (decode cX12_laysTable 139 = .ok (.iload 4, 2)) ∧ (decode cX12_laysTable 141 = .ok (.invokevirtual 418, 3)) := by decide +kernel
theorem dX12_laysTable_124 : decode cX12_laysTable 124 = .ok (.getfield 7, 3) := dGR_38_c_1152.1
theorem dX12_laysTable_127 : decode cX12_laysTable 127 = .ok (.iconst 1, 1) := dGR_38_c_1152.2.1
theorem dX12_laysTable_128 : decode cX12_laysTable 128 = .ok (.iaload, 1) := dGR_38_c_1152.2.2.1
theorem dX12_laysTable_129 : decode cX12_laysTable 129 = .ok (.iadd, 1) := dGR_38_c_1152.2.2.2.1
theorem dX12_laysTable_130 : decode cX12_laysTable 130 = .ok (.if_icmp .ge 36, 3) := dGR_38_c_1152.2.2.2.2.1
theorem dX12_laysTable_133 : decode cX12_laysTable 133 = .ok (.aload_n 0, 1) := dGR_38_c_1152.2.2.2.2.2.1
theorem dX12_laysTable_134 : decode cX12_laysTable 134 = .ok (.iload_n 1, 1) := dGR_38_c_1152.2.2.2.2.2.2.1
theorem dX12_laysTable_135 : decode cX12_laysTable 135 = .ok (.iload_n 2, 1) := dGR_38_c_1152.2.2.2.2.2.2.2.1
theorem dX12_laysTable_136 : decode cX12_laysTable 136 = .ok (.iload 5, 2) := dGR_38_c_1152.2.2.2.2.2.2.2.2.1
theorem dX12_laysTable_138 : decode cX12_laysTable 138 = .ok (.iload_n 3, 1) := dGR_38_c_1152.2.2.2.2.2.2.2.2.2.1
theorem dX12_laysTable_139 : decode cX12_laysTable 139 = .ok (.iload 4, 2) := dGR_38_c_1152.2.2.2.2.2.2.2.2.2.2.1
theorem dX12_laysTable_141 : decode cX12_laysTable 141 = .ok (.invokevirtual 418, 3) := dGR_38_c_1152.2.2.2.2.2.2.2.2.2.2.2
set_option maxRecDepth 100000 in
theorem dGR_38_c_1153 : (decode cX12_laysTable 144 = .ok (.iload_n 3, 1)) ∧ (decode cX12_laysTable 145 = .ok (.iload_n 2, 1)) ∧ (decode cX12_laysTable 146 = .ok (.if_icmp .ge 14, 3)) ∧ (decode cX12_laysTable 149 = .ok (.aload_n 0, 1)) ∧ (decode cX12_laysTable 150 = .ok (.iload_n 1, 1)) ∧ (decode cX12_laysTable 151 = .ok (.iload_n 3, 1)) ∧ (decode cX12_laysTable 152 = .ok (.iload 5, 2)) ∧ (decode cX12_laysTable 154 = .ok (.iload_n 2, 1)) ∧ (decode cX12_laysTable 155 = .ok (.iload 4, 2)) ∧ (decode cX12_laysTable 157 = .ok (.invokevirtual 418, 3)) ∧ (decode cX12_laysTable 160 = .ok (.iinc 5 1, 3)) ∧ (decode cX12_laysTable 163 = .ok (.goto (-48), 3)) := by decide +kernel
theorem dX12_laysTable_144 : decode cX12_laysTable 144 = .ok (.iload_n 3, 1) := dGR_38_c_1153.1
theorem dX12_laysTable_145 : decode cX12_laysTable 145 = .ok (.iload_n 2, 1) := dGR_38_c_1153.2.1
theorem dX12_laysTable_146 : decode cX12_laysTable 146 = .ok (.if_icmp .ge 14, 3) := dGR_38_c_1153.2.2.1
theorem dX12_laysTable_149 : decode cX12_laysTable 149 = .ok (.aload_n 0, 1) := dGR_38_c_1153.2.2.2.1
theorem dX12_laysTable_150 : decode cX12_laysTable 150 = .ok (.iload_n 1, 1) := dGR_38_c_1153.2.2.2.2.1
theorem dX12_laysTable_151 : decode cX12_laysTable 151 = .ok (.iload_n 3, 1) := dGR_38_c_1153.2.2.2.2.2.1
theorem dX12_laysTable_152 : decode cX12_laysTable 152 = .ok (.iload 5, 2) := dGR_38_c_1153.2.2.2.2.2.2.1
theorem dX12_laysTable_154 : decode cX12_laysTable 154 = .ok (.iload_n 2, 1) := dGR_38_c_1153.2.2.2.2.2.2.2.1
theorem dX12_laysTable_155 : decode cX12_laysTable 155 = .ok (.iload 4, 2) := dGR_38_c_1153.2.2.2.2.2.2.2.2.1
theorem dX12_laysTable_157 : decode cX12_laysTable 157 = .ok (.invokevirtual 418, 3) := dGR_38_c_1153.2.2.2.2.2.2.2.2.2.1
theorem dX12_laysTable_160 : decode cX12_laysTable 160 = .ok (.iinc 5 1, 3) := dGR_38_c_1153.2.2.2.2.2.2.2.2.2.2.1
theorem dX12_laysTable_163 : decode cX12_laysTable 163 = .ok (.goto (-48), 3) := dGR_38_c_1153.2.2.2.2.2.2.2.2.2.2.2
set_option maxRecDepth 100000 in
theorem dGR_38_c_1154 : (decode cX12_laysTable 166 = .ok (.iinc 4 1, 3)) ∧ (decode cX12_laysTable 169 = .ok (.goto (-73), 3)) ∧ (decode cX12_laysTable 172 = .ok (.iinc 3 1, 3)) ∧ (decode cX12_laysTable 175 = .ok (.goto (-96), 3)) ∧ (decode cX12_laysTable 178 = .ok (.iinc 2 1, 3)) ∧ (decode cX12_laysTable 181 = .ok (.goto (-155), 3)) ∧ (decode cX12_laysTable 184 = .ok (.aload_n 0, 1)) ∧ (decode cX12_laysTable 185 = .ok (.getfield 403, 3)) ∧ (decode cX12_laysTable 188 = .ok (.bipush 40, 2)) ∧ (decode cX12_laysTable 190 = .ok (.if_icmp .gt 7, 3)) ∧ (decode cX12_laysTable 193 = .ok (.iconst 1, 1)) ∧ (decode cX12_laysTable 194 = .ok (.goto 4, 3)) := by decide +kernel
theorem dX12_laysTable_166 : decode cX12_laysTable 166 = .ok (.iinc 4 1, 3) := dGR_38_c_1154.1
theorem dX12_laysTable_169 : decode cX12_laysTable 169 = .ok (.goto (-73), 3) := dGR_38_c_1154.2.1
theorem dX12_laysTable_172 : decode cX12_laysTable 172 = .ok (.iinc 3 1, 3) := dGR_38_c_1154.2.2.1
theorem dX12_laysTable_175 : decode cX12_laysTable 175 = .ok (.goto (-96), 3) := dGR_38_c_1154.2.2.2.1
theorem dX12_laysTable_178 : decode cX12_laysTable 178 = .ok (.iinc 2 1, 3) := dGR_38_c_1154.2.2.2.2.1
theorem dX12_laysTable_181 : decode cX12_laysTable 181 = .ok (.goto (-155), 3) := dGR_38_c_1154.2.2.2.2.2.1
theorem dX12_laysTable_184 : decode cX12_laysTable 184 = .ok (.aload_n 0, 1) := dGR_38_c_1154.2.2.2.2.2.2.1
theorem dX12_laysTable_185 : decode cX12_laysTable 185 = .ok (.getfield 403, 3) := dGR_38_c_1154.2.2.2.2.2.2.2.1
theorem dX12_laysTable_188 : decode cX12_laysTable 188 = .ok (.bipush 40, 2) := dGR_38_c_1154.2.2.2.2.2.2.2.2.1
theorem dX12_laysTable_190 : decode cX12_laysTable 190 = .ok (.if_icmp .gt 7, 3) := dGR_38_c_1154.2.2.2.2.2.2.2.2.2.1
theorem dX12_laysTable_193 : decode cX12_laysTable 193 = .ok (.iconst 1, 1) := dGR_38_c_1154.2.2.2.2.2.2.2.2.2.2.1
theorem dX12_laysTable_194 : decode cX12_laysTable 194 = .ok (.goto 4, 3) := dGR_38_c_1154.2.2.2.2.2.2.2.2.2.2.2
theorem dX12_laysTable_197 : decode cX12_laysTable 197 = .ok (.iconst 0, 1) := by decide +kernel
theorem dX12_laysTable_198 : decode cX12_laysTable 198 = .ok (.ireturn, 1) := by decide +kernel
abbrev f_e_laysTable : List (Nat × Int) := [(64, 35), (72, -1), (81, -1), (82, -1)]
set_option maxHeartbeats 4000000 in
set_option maxRecDepth 100000 in
theorem e_laysTable (G : KG) (l : Launch) (M : Mem) (a1 : Int) (hI_M : Inv true M) (hpre : -2147483648 ≤ a1 ∧ a1 ≤ 2147483647 ∧ 0 ≤ a1 ∧ a1 ≤ 1) : KC true G l yX12_laysTable cX12_laysTable 6 (some .boolean) (4, 101) [vR G 163, vI a1] M (fun A => kQi true G A (fun (r : Int) (N : Mem) => Inv true N ∧ Fr f_e_laysTable M N ∧ ((r = 1 ∧ (N 163 35) ≤ 40) ∨ (r = 0)) ∧ (r = 1 → Clo (M 164) a1))) := by
  refine kx_met (lo := [some (vR G 163), some (vI a1), none, none, none, none]) (by decide) (Nat.le_of_ble_eq_true rfl) rfl ?_
  intro X F hQ
  have hF_M : Fr f_e_laysTable M M := Fr.rf _ _
  refine kx_aload_n 1 F 0 dX12_laysTable_0 rfl rfl rfl ?_
  refine kx_Vv 4 (ci := 0) F (As := []) (st := []) vd_X12_342 (e_laysRules G l M  hI_M) kd_163 rfl rfl rfl ⟨by decide, by decide⟩ rfl rfl (Nat.le_of_ble_eq_true rfl) dX12_laysTable_1 rfl ?_
  intro N_1 q_2
  obtain ⟨hI_N_1, hG_N_1, hd_N_1⟩ := q_2
  have hF_N_1 : Fr f_e_laysTable M N_1 := Fr.c hF_M hG_N_1 rfl
  have h_3 := Inv.g hI_M kd_164 rfl 0 (a := 0) (b := 2) (at_c 0 0 (o := 0) (lo := 0) (hi := 2) (by omega) (by decide) (by decide) (by decide)).1 (at_c 0 0 (o := 0) (lo := 0) (hi := 2) (by omega) (by decide) (by decide) (by decide)).2
  have h_4 := Inv.g hI_M kd_164 rfl 1 (a := 0) (b := 2) (at_c 1 0 (o := 1) (lo := 0) (hi := 2) (by omega) (by decide) (by decide) (by decide)).1 (at_c 1 0 (o := 1) (lo := 0) (hi := 2) (by omega) (by decide) (by decide) (by decide)).2
  have h_5 := Inv.g hI_M kd_164 rfl 2 (a := 0) (b := 2) (at_c 2 0 (o := 2) (lo := 0) (hi := 2) (by omega) (by decide) (by decide) (by decide)).1 (at_c 2 0 (o := 2) (lo := 0) (hi := 2) (by omega) (by decide) (by decide) (by decide)).2
  have e_6 : N_1 164 0 = M 164 0 := Fr.e hG_N_1 kd_164 _ rfl
  have e_7 : N_1 164 1 = M 164 1 := Fr.e hG_N_1 kd_164 _ rfl
  have e_8 : N_1 164 2 = M 164 2 := Fr.e hG_N_1 kd_164 _ rfl
  refine kx_aload_n 5 F 0 dX12_laysTable_4 rfl rfl rfl ?_
  refine kx_iconst 6 F dX12_laysTable_5 rfl ?_
  refine kx_puti 9 F fw_X12_403 rfl kd_163 rfl rfl (j := 35) rfl dX12_laysTable_6 rfl ?_
  intro N_9 hM_N_9
  have hI_N_9 : Inv true N_9 := Inv.u hI_N_1 hM_N_9 kd_163 (a := 0) (b := 41) rfl rfl rfl (by omega)
  have hF_N_9 : Fr f_e_laysTable M N_9 := Fr.u hF_N_1 hM_N_9 kd_163 rfl
  refine kx_aload_n 10 F 0 dX12_laysTable_9 rfl rfl rfl ?_
  refine kx_aload_n 11 F 0 dX12_laysTable_10 rfl rfl rfl ?_
  refine kx_iload_n 12 F 1 dX12_laysTable_11 rfl rfl rfl ?_
  refine kx_iconst 13 F dX12_laysTable_12 rfl ?_
  refine kx_Vi 16 (ci := 0) F (As := [vI a1, vI 2]) (st := [vR G 163]) vd_X12_288 (c_of2 G l N_9 a1 2 hI_N_9 (by omega)) kd_163 rfl rfl rfl ⟨by decide, by decide⟩ rfl rfl (Nat.le_of_ble_eq_true rfl) dX12_laysTable_13 rfl ?_
  intro r_10 N_11 q_12
  obtain ⟨rfl, q_12c⟩ := q_12
  refine kx_aload_n 17 F 0 dX12_laysTable_16 rfl rfl rfl ?_
  refine kx_iload_n 18 F 1 dX12_laysTable_17 rfl rfl rfl ?_
  refine kx_Vi 21 (ci := 0) F (As := [vI a1]) (st := [vI r_10, vR G 163]) vd_X12_329 (e_same G l N_9 a1 hI_N_9 (by omega)) kd_163 rfl rfl rfl ⟨by decide, by decide⟩ rfl rfl (Nat.le_of_ble_eq_true rfl) dX12_laysTable_18 rfl ?_
  intro r_13 N_14 q_15
  obtain ⟨rfl, q_15c, hz_N_14⟩ := q_15
  refine kx_Vv 24 (ci := 0) F (As := [vI r_10, vI r_13]) (st := []) vd_X12_409 (e_putsIn G l N_9 r_10 r_13 hI_N_9 (by omega)) kd_163 rfl rfl rfl ⟨by decide, by decide⟩ rfl rfl (Nat.le_of_ble_eq_true rfl) dX12_laysTable_21 rfl ?_
  intro N_16 q_17
  obtain ⟨hI_N_16, hG_N_16, hp_N_16⟩ := q_17
  have hF_N_16 : Fr f_e_laysTable M N_16 := Fr.c hF_N_9 hG_N_16 rfl
  have hq_N_16 : N_9 163 35 ≤ N_16 163 35 := hp_N_16.1
  refine kx_iconst 25 F dX12_laysTable_24 rfl ?_
  refine kx_istore_n 26 F 2 (lo' := [some (vR G 163), some (vI a1), some (vI 0), none, none, none]) dX12_laysTable_25 rfl (by decide) rfl rfl rfl ?_
  have L_56770 : ∀ (n_56771 : Nat) (x2_56768 : Int) (N_56769 : Mem), Inv true N_56769 → Fr f_e_laysTable M N_56769 → RQ N_56769 N_1 → HS N_56769 N_1 a1 → T1 N_56769 N_1 a1 x2_56768 0 → T2 N_56769 N_1 a1 x2_56768 0 0 0 → 0 ≤ x2_56768 ∧ x2_56768 ≤ 40 → (40 - (x2_56768)).toNat = n_56771 → KJ true G X N_56769 26 [some (vR G 163), some (vI a1), some (vI x2_56768), none, none, none] [] := by
    intro n_56771
    refine Nat.strongRecOn n_56771 ?_
    intro n_56771 ih_56772 x2_56768 N_56769 hI_N_56769 hF_N_56769 hp_56775 hp_56776 hp_56777 hp_56778 h_56773 hm_56774
    refine kx_iload_n 27 F 2 dX12_laysTable_26 rfl rfl rfl ?_
    refine kx_aload_n 28 F 0 dX12_laysTable_27 rfl rfl rfl ?_
    refine kx_geti 31 F fl_X12_403 kd_163 rfl rfl (j := 35) rfl dX12_laysTable_28 (v := (N_56769 163 35)) rfl rfl ?_
    have h_56779 := Inv.g hI_N_56769 kd_163 rfl 35 (a := 0) (b := 41) rfl rfl
    refine kx_icmp_ge 34 F 184 dX12_laysTable_31 (by decide) rfl (by omega) (by omega) (fun h_56780 => ?_) (fun h_56780 => ?_)
    · refine kx_aload_n 185 F 0 dX12_laysTable_184 rfl rfl rfl ?_
      refine kx_geti 188 F fl_X12_403 kd_163 rfl rfl (j := 35) rfl dX12_laysTable_185 (v := (N_56769 163 35)) rfl rfl ?_
      refine kx_bipush 190 F dX12_laysTable_188 (by decide) rfl ?_
      refine kx_icmp_gt 193 F 197 dX12_laysTable_190 (by decide) rfl (by omega) (by decide) (fun h_56781 => (by exfalso; omega)) (fun h_56781 => ?_)
      refine kx_iconst 194 F dX12_laysTable_193 rfl ?_
      refine kx_goto 198 F dX12_laysTable_194 (by decide) ?_
      exact kx_zret F hQ (by omega) ⟨hI_N_56769, hF_N_56769, (by omega), (fun _ => by
          have e : N_1 164 = M 164 := funext (fun j => Fr.e hG_N_1 kd_164 j rfl)
          rw [← e]
          exact Clo.of hI_N_56769 hd_N_1 (by omega) (by omega) (K := x2_56768) (by omega) hp_56777 hp_56778 (hp_56776 (by omega)) (by omega))⟩ dX12_laysTable_198
    · refine kx_aload_n 35 F 0 dX12_laysTable_34 rfl rfl rfl ?_
      refine kx_geti 38 F fl_X12_403 kd_163 rfl rfl (j := 35) rfl dX12_laysTable_35 (v := (N_56769 163 35)) rfl rfl ?_
      refine kx_bipush 40 F dX12_laysTable_38 (by decide) rfl ?_
      refine kx_icmp_gt 43 F 184 dX12_laysTable_40 (by decide) rfl (by omega) (by decide) (fun h_56782 => ?_) (fun h_56782 => ?_)
      · refine kx_aload_n 185 F 0 dX12_laysTable_184 rfl rfl rfl ?_
        refine kx_geti 188 F fl_X12_403 kd_163 rfl rfl (j := 35) rfl dX12_laysTable_185 (v := (N_56769 163 35)) rfl rfl ?_
        refine kx_bipush 190 F dX12_laysTable_188 (by decide) rfl ?_
        refine kx_icmp_gt 193 F 197 dX12_laysTable_190 (by decide) rfl (by omega) (by decide) (fun h_56783 => ?_) (fun h_56783 => (by exfalso; omega))
        refine kx_iconst 198 F dX12_laysTable_197 rfl ?_
        exact kx_zret F hQ (by omega) ⟨hI_N_56769, hF_N_56769, (by omega), (fun h => absurd h (by omega))⟩ dX12_laysTable_198
      · refine kx_iconst 44 F dX12_laysTable_43 rfl ?_
        refine kx_istore_n 45 F 3 (lo' := [some (vR G 163), some (vI a1), some (vI x2_56768), some (vI 0), none, none]) dX12_laysTable_44 rfl (by decide) rfl rfl rfl ?_
        have L_65893 : ∀ (n_65894 : Nat) (x3_65891 : Int) (N_65892 : Mem), Inv true N_65892 → Fr f_e_laysTable M N_65892 → RQ N_65892 N_1 → HS N_65892 N_1 a1 → T1 N_65892 N_1 a1 x2_56768 x3_65891 → T2 N_65892 N_1 a1 x2_56768 0 0 0 → 0 ≤ x3_65891 ∧ x3_65891 ≤ 6 ∧ x2_56768 < (N_65892 163 35) → (6 - (x3_65891)).toNat = n_65894 → KJ true G X N_65892 45 [some (vR G 163), some (vI a1), some (vI x2_56768), some (vI x3_65891), none, none] [] := by
          intro n_65894
          refine Nat.strongRecOn n_65894 ?_
          intro n_65894 ih_65895 x3_65891 N_65892 hI_N_65892 hF_N_65892 hp_65898 hp_65899 hp_65900 hp_65901 h_65896 hm_65897
          refine kx_iload_n 46 F 3 dX12_laysTable_45 rfl rfl rfl ?_
          refine kx_aload_n 47 F 0 dX12_laysTable_46 rfl rfl rfl ?_
          refine kx_Vi 50 (ci := 0) F (As := []) (st := [vI x3_65891]) vd_X12_285 (c_lettersE G l N_65892  hI_N_65892) kd_163 rfl rfl rfl ⟨by decide, by decide⟩ rfl rfl (Nat.le_of_ble_eq_true rfl) dX12_laysTable_47 rfl ?_
          intro r_65902 N_65903 q_65904
          obtain ⟨rfl, q_65904c⟩ := q_65904
          have e_65905 : (N_65892 164 0) = (M 164 0) := by rw [Fr.e hF_N_65892 kd_164 _ rfl]
          have e_65906 : (N_65892 164 1) = (M 164 1) := by rw [Fr.e hF_N_65892 kd_164 _ rfl]
          have e_65907 : (N_65892 164 2) = (M 164 2) := by rw [Fr.e hF_N_65892 kd_164 _ rfl]
          refine kx_topi (e' := (N_65892 164 0) + (N_65892 164 1) + (N_65892 164 2)) (by omega) ?_
          refine kx_icmp_ge 53 F 77 dX12_laysTable_50 (by decide) rfl (by omega) (by omega) (fun h_65911 => ?_) (fun h_65911 => ?_)
          · refine kx_iconst 78 F dX12_laysTable_77 rfl ?_
            refine kx_istore_n 79 F 3 (lo' := [some (vR G 163), some (vI a1), some (vI x2_56768), some (vI 0), none, none]) dX12_laysTable_78 rfl (by decide) rfl rfl rfl ?_
            have L_67384 : ∀ (n_67385 : Nat) (x3_67382 : Int) (N_67383 : Mem), Inv true N_67383 → Fr f_e_laysTable M N_67383 → RQ N_67383 N_1 → HS N_67383 N_1 a1 → T1 N_67383 N_1 a1 x2_56768 6 → T2 N_67383 N_1 a1 x2_56768 x3_67382 0 0 → 0 ≤ x3_67382 ∧ x3_67382 ≤ 40 ∧ x2_56768 < (N_67383 163 35) → (40 - (x3_67382)).toNat = n_67385 → KJ true G X N_67383 79 [some (vR G 163), some (vI a1), some (vI x2_56768), some (vI x3_67382), none, none] [] := by
              intro n_67385
              refine Nat.strongRecOn n_67385 ?_
              intro n_67385 ih_67386 x3_67382 N_67383 hI_N_67383 hF_N_67383 hp_67389 hp_67390 hp_67391 hp_67392 h_67387 hm_67388
              refine kx_iload_n 80 F 3 dX12_laysTable_79 rfl rfl rfl ?_
              refine kx_iload_n 81 F 2 dX12_laysTable_80 rfl rfl rfl ?_
              refine kx_icmp_gt 84 F 178 dX12_laysTable_81 (by decide) rfl (by omega) (by omega) (fun h_67393 => ?_) (fun h_67393 => ?_)
              · refine kx_iinc 181 F 2 (v := x2_56768 + 1) (lo' := [some (vR G 163), some (vI a1), some (vI (x2_56768 + 1)), some (vI x3_67382), none, none]) dX12_laysTable_178 rfl (by omega) (by decide) rfl rfl rfl ?_
                refine kx_goto 26 F dX12_laysTable_181 (by decide) ?_
                refine kx_drop 3 (lo' := [some (vR G 163), some (vI a1), some (vI (x2_56768 + 1)), none, none, none]) rfl ?_
                exact ih_56772 _ (by omega) (x2_56768 + 1) N_67383 hI_N_67383 hF_N_67383 hp_67389 hp_67390 (T1.at hp_67391 (fun k l _ _ _ _ => by omega)) (T2.at hp_67392 (fun _ k j c l _ _ _ _ _ _ _ => by omega)) (by omega) rfl
              · refine kx_aload_n 85 F 0 dX12_laysTable_84 rfl rfl rfl ?_
                refine kx_geti 88 F fl_X12_403 kd_163 rfl rfl (j := 35) rfl dX12_laysTable_85 (v := (N_67383 163 35)) rfl rfl ?_
                have h_67394 := Inv.g hI_N_67383 kd_163 rfl 35 (a := 0) (b := 41) rfl rfl
                refine kx_bipush 90 F dX12_laysTable_88 (by decide) rfl ?_
                refine kx_icmp_gt 93 F 178 dX12_laysTable_90 (by decide) rfl (by omega) (by decide) (fun h_67395 => ?_) (fun h_67395 => ?_)
                · refine kx_iinc 181 F 2 (v := x2_56768 + 1) (lo' := [some (vR G 163), some (vI a1), some (vI (x2_56768 + 1)), some (vI x3_67382), none, none]) dX12_laysTable_178 rfl (by omega) (by decide) rfl rfl rfl ?_
                  refine kx_goto 26 F dX12_laysTable_181 (by decide) ?_
                  refine kx_drop 3 (lo' := [some (vR G 163), some (vI a1), some (vI (x2_56768 + 1)), none, none, none]) rfl ?_
                  exact ih_56772 _ (by omega) (x2_56768 + 1) N_67383 hI_N_67383 hF_N_67383 hp_67389 hp_67390 (T1.at hp_67391 (fun k l _ _ _ _ => by omega)) (T2.at hp_67392 (fun _ k j c l _ _ _ _ _ _ _ => by omega)) (by omega) rfl
                · refine kx_iconst 94 F dX12_laysTable_93 rfl ?_
                  refine kx_istore 96 F 4 (lo' := [some (vR G 163), some (vI a1), some (vI x2_56768), some (vI x3_67382), some (vI 0), none]) dX12_laysTable_94 (by decide) rfl rfl rfl ?_
                  have L_67545 : ∀ (n_67546 : Nat) (x4_67543 : Int) (N_67544 : Mem), Inv true N_67544 → Fr f_e_laysTable M N_67544 → RQ N_67544 N_1 → HS N_67544 N_1 a1 → T1 N_67544 N_1 a1 x2_56768 6 → T2 N_67544 N_1 a1 x2_56768 x3_67382 x4_67543 0 → 0 ≤ x4_67543 ∧ x4_67543 ≤ 2 ∧ x2_56768 < (N_67544 163 35) ∧ x3_67382 ≤ x2_56768 → (2 - (x4_67543)).toNat = n_67546 → KJ true G X N_67544 96 [some (vR G 163), some (vI a1), some (vI x2_56768), some (vI x3_67382), some (vI x4_67543), none] [] := by
                    intro n_67546
                    refine Nat.strongRecOn n_67546 ?_
                    intro n_67546 ih_67547 x4_67543 N_67544 hI_N_67544 hF_N_67544 hp_67550 hp_67551 hp_67552 hp_67553 h_67548 hm_67549
                    refine kx_iload 98 F 4 dX12_laysTable_96 rfl rfl ?_
                    refine kx_aload_n 99 F 0 dX12_laysTable_98 rfl rfl rfl ?_
                    refine kx_getr 102 F fl_X12_7 kd_163 rfl rfl (j := 0) rfl dX12_laysTable_99 (v := 164) (uq_164 (Inv.r hI_N_67544 kd_163 rfl 0 rfl rfl)) rfl ?_
                    refine kx_iconst 103 F dX12_laysTable_102 rfl ?_
                    refine kx_iald 104 F kd_164 rfl rfl (by omega) (by decide) dX12_laysTable_103 (v := (M 164 0)) (by rw [Fr.e hF_N_67544 kd_164 _ rfl]) rfl ?_
                    have ha_67554 : atlo 0 = 0 ∧ athi 0 = 2 := at_c 0 0 (o := 0) (lo := 0) (hi := 2) (by omega) (by decide) (by decide) (by decide)
                    refine kx_icmp_ge 107 F 172 dX12_laysTable_104 (by decide) rfl (by omega) (by omega) (fun h_67555 => ?_) (fun h_67555 => ?_)
                    · refine kx_iinc 175 F 3 (v := x3_67382 + 1) (lo' := [some (vR G 163), some (vI a1), some (vI x2_56768), some (vI (x3_67382 + 1)), some (vI x4_67543), none]) dX12_laysTable_172 rfl (by omega) (by decide) rfl rfl rfl ?_
                      refine kx_goto 79 F dX12_laysTable_175 (by decide) ?_
                      refine kx_drop 4 (lo' := [some (vR G 163), some (vI a1), some (vI x2_56768), some (vI (x3_67382 + 1)), none, none]) rfl ?_
                      have h_67556 := Inv.g hI_N_67544 kd_163 rfl 35 (a := 0) (b := 41) rfl rfl
                      exact ih_67386 _ (by omega) (x3_67382 + 1) N_67544 hI_N_67544 hF_N_67544 hp_67550 hp_67551 (T1.at hp_67552 (fun k l _ _ _ _ => by omega)) (T2.at hp_67553 (fun _ k j c l _ _ _ _ _ _ _ => by omega)) (by omega) rfl
                    · refine kx_aload_n 108 F 0 dX12_laysTable_107 rfl rfl rfl ?_
                      refine kx_getr 111 F fl_X12_7 kd_163 rfl rfl (j := 0) rfl dX12_laysTable_108 (v := 164) (uq_164 (Inv.r hI_N_67544 kd_163 rfl 0 rfl rfl)) rfl ?_
                      refine kx_iconst 112 F dX12_laysTable_111 rfl ?_
                      refine kx_iald 113 F kd_164 rfl rfl (by omega) (by decide) dX12_laysTable_112 (v := (M 164 0)) (by rw [Fr.e hF_N_67544 kd_164 _ rfl]) rfl ?_
                      refine kx_istore 115 F 5 (lo' := [some (vR G 163), some (vI a1), some (vI x2_56768), some (vI x3_67382), some (vI x4_67543), some (vI (M 164 0))]) dX12_laysTable_113 (by decide) rfl rfl rfl ?_
                      have L_67586 : ∀ (n_67587 : Nat) (x5_67584 : Int) (N_67585 : Mem), Inv true N_67585 → Fr f_e_laysTable M N_67585 → RQ N_67585 N_1 → HS N_67585 N_1 a1 → T1 N_67585 N_1 a1 x2_56768 6 → T2 N_67585 N_1 a1 x2_56768 x3_67382 x4_67543 x5_67584 → 1 ≤ x5_67584 ∧ x5_67584 ≤ 4 ∧ x2_56768 < (N_67585 163 35) ∧ x3_67382 ≤ x2_56768 ∧ (M 164 0) ≤ x5_67584 → (4 - (x5_67584)).toNat = n_67587 → KJ true G X N_67585 115 [some (vR G 163), some (vI a1), some (vI x2_56768), some (vI x3_67382), some (vI x4_67543), some (vI x5_67584)] [] := by
                        intro n_67587
                        refine Nat.strongRecOn n_67587 ?_
                        intro n_67587 ih_67588 x5_67584 N_67585 hI_N_67585 hF_N_67585 hp_67591 hp_67592 hp_67593 hp_67594 h_67589 hm_67590
                        refine kx_iload 117 F 5 dX12_laysTable_115 rfl rfl ?_
                        refine kx_aload_n 118 F 0 dX12_laysTable_117 rfl rfl rfl ?_
                        refine kx_getr 121 F fl_X12_7 kd_163 rfl rfl (j := 0) rfl dX12_laysTable_118 (v := 164) (uq_164 (Inv.r hI_N_67585 kd_163 rfl 0 rfl rfl)) rfl ?_
                        refine kx_iconst 122 F dX12_laysTable_121 rfl ?_
                        refine kx_iald 123 F kd_164 rfl rfl (by omega) (by decide) dX12_laysTable_122 (v := (M 164 0)) (by rw [Fr.e hF_N_67585 kd_164 _ rfl]) rfl ?_
                        refine kx_aload_n 124 F 0 dX12_laysTable_123 rfl rfl rfl ?_
                        refine kx_getr 127 F fl_X12_7 kd_163 rfl rfl (j := 0) rfl dX12_laysTable_124 (v := 164) (uq_164 (Inv.r hI_N_67585 kd_163 rfl 0 rfl rfl)) rfl ?_
                        refine kx_iconst 128 F dX12_laysTable_127 rfl ?_
                        refine kx_iald 129 F kd_164 rfl rfl (by omega) (by decide) dX12_laysTable_128 (v := (M 164 1)) (by rw [Fr.e hF_N_67585 kd_164 _ rfl]) rfl ?_
                        have ha_67595 : atlo 1 = 0 ∧ athi 1 = 2 := at_c 1 0 (o := 1) (lo := 0) (hi := 2) (by omega) (by decide) (by decide) (by decide)
                        refine kx_iadd 130 F (v := (M 164 0) + (M 164 1)) dX12_laysTable_129 rfl rfl ?_
                        refine kx_icmp_ge 133 F 166 dX12_laysTable_130 (by decide) rfl (by omega) (by omega) (fun h_67596 => ?_) (fun h_67596 => ?_)
                        · refine kx_iinc 169 F 4 (v := x4_67543 + 1) (lo' := [some (vR G 163), some (vI a1), some (vI x2_56768), some (vI x3_67382), some (vI (x4_67543 + 1)), some (vI x5_67584)]) dX12_laysTable_166 rfl (by omega) (by decide) rfl rfl rfl ?_
                          refine kx_goto 96 F dX12_laysTable_169 (by decide) ?_
                          refine kx_drop 5 (lo' := [some (vR G 163), some (vI a1), some (vI x2_56768), some (vI x3_67382), some (vI (x4_67543 + 1)), none]) rfl ?_
                          have h_67597 := Inv.g hI_N_67585 kd_163 rfl 35 (a := 0) (b := 41) rfl rfl
                          exact ih_67547 _ (by omega) (x4_67543 + 1) N_67585 hI_N_67585 hF_N_67585 hp_67591 hp_67592 (T1.at hp_67593 (fun k l _ _ _ _ => by omega)) (T2.at hp_67594 (fun _ k j c l _ _ _ _ _ _ _ => by omega)) (by omega) rfl
                        · refine kx_aload_n 134 F 0 dX12_laysTable_133 rfl rfl rfl ?_
                          refine kx_iload_n 135 F 1 dX12_laysTable_134 rfl rfl rfl ?_
                          refine kx_iload_n 136 F 2 dX12_laysTable_135 rfl rfl rfl ?_
                          refine kx_iload 138 F 5 dX12_laysTable_136 rfl rfl ?_
                          refine kx_iload_n 139 F 3 dX12_laysTable_138 rfl rfl rfl ?_
                          refine kx_iload 141 F 4 dX12_laysTable_139 rfl rfl ?_
                          refine kx_Vv 144 (ci := 0) F (As := [vI a1, vI x2_56768, vI x5_67584, vI x3_67382, vI x4_67543]) (st := []) vd_X12_418 (e_putsBack G l N_67585 a1 x2_56768 x5_67584 x3_67382 x4_67543 hI_N_67585 (by omega)) kd_163 rfl rfl rfl ⟨by decide, by decide⟩ rfl rfl (Nat.le_of_ble_eq_true rfl) dX12_laysTable_141 rfl ?_
                          intro N_67598 q_67599
                          obtain ⟨hI_N_67598, hG_N_67598, hp_N_67598⟩ := q_67599
                          have hF_N_67598 : Fr f_e_laysTable M N_67598 := Fr.c hF_N_67585 hG_N_67598 rfl
                          have hq_N_67598 : N_67585 163 35 ≤ N_67598 163 35 := hp_N_67598.1
                          refine kx_iload_n 145 F 3 dX12_laysTable_144 rfl rfl rfl ?_
                          refine kx_iload_n 146 F 2 dX12_laysTable_145 rfl rfl rfl ?_
                          refine kx_icmp_ge 149 F 160 dX12_laysTable_146 (by decide) rfl (by omega) (by omega) (fun h_67600 => ?_) (fun h_67600 => ?_)
                          · refine kx_iinc 163 F 5 (v := x5_67584 + 1) (lo' := [some (vR G 163), some (vI a1), some (vI x2_56768), some (vI x3_67382), some (vI x4_67543), some (vI (x5_67584 + 1))]) dX12_laysTable_160 rfl (by omega) (by decide) rfl rfl rfl ?_
                            refine kx_goto 115 F dX12_laysTable_163 (by decide) ?_
                            have hp_67601 : RQ N_67598 N_1 := RQ.fr hp_67591 hG_N_67598 rfl
                            have h_67602 := Inv.g hI_N_67598 kd_163 rfl 35 (a := 0) (b := 41) rfl rfl
                            exact ih_67588 _ (by omega) (x5_67584 + 1) N_67598 hI_N_67598 hF_N_67598 hp_67601 (HS.mono hp_67592 hp_N_67598) (T1.mono hp_67593 hp_N_67598 (by omega)) (T2.step1 hp_67594 hp_N_67598 (by omega) (by omega) (by rw [(hp_67591 : N_67585 171 = N_1 171)])) (by omega) rfl
                          · refine kx_aload_n 150 F 0 dX12_laysTable_149 rfl rfl rfl ?_
                            refine kx_iload_n 151 F 1 dX12_laysTable_150 rfl rfl rfl ?_
                            refine kx_iload_n 152 F 3 dX12_laysTable_151 rfl rfl rfl ?_
                            refine kx_iload 154 F 5 dX12_laysTable_152 rfl rfl ?_
                            refine kx_iload_n 155 F 2 dX12_laysTable_154 rfl rfl rfl ?_
                            refine kx_iload 157 F 4 dX12_laysTable_155 rfl rfl ?_
                            refine kx_Vv 160 (ci := 0) F (As := [vI a1, vI x3_67382, vI x5_67584, vI x2_56768, vI x4_67543]) (st := []) vd_X12_418 (e_putsBack G l N_67598 a1 x3_67382 x5_67584 x2_56768 x4_67543 hI_N_67598 (by omega)) kd_163 rfl rfl rfl ⟨by decide, by decide⟩ rfl rfl (Nat.le_of_ble_eq_true rfl) dX12_laysTable_157 rfl ?_
                            intro N_67603 q_67604
                            obtain ⟨hI_N_67603, hG_N_67603, hp_N_67603⟩ := q_67604
                            have hF_N_67603 : Fr f_e_laysTable M N_67603 := Fr.c hF_N_67598 hG_N_67603 rfl
                            have hq_N_67603 : N_67598 163 35 ≤ N_67603 163 35 := hp_N_67603.1
                            refine kx_iinc 163 F 5 (v := x5_67584 + 1) (lo' := [some (vR G 163), some (vI a1), some (vI x2_56768), some (vI x3_67382), some (vI x4_67543), some (vI (x5_67584 + 1))]) dX12_laysTable_160 rfl (by omega) (by decide) rfl rfl rfl ?_
                            refine kx_goto 115 F dX12_laysTable_163 (by decide) ?_
                            have hp_67605 : RQ N_67598 N_1 := RQ.fr hp_67591 hG_N_67598 rfl
                            have hp_67606 : RQ N_67603 N_1 := RQ.fr hp_67605 hG_N_67603 rfl
                            have h_67607 := Inv.g hI_N_67603 kd_163 rfl 35 (a := 0) (b := 41) rfl rfl
                            exact ih_67588 _ (by omega) (x5_67584 + 1) N_67603 hI_N_67603 hF_N_67603 hp_67606 (HS.mono (HS.mono hp_67592 hp_N_67598) hp_N_67603) (T1.mono (T1.mono hp_67593 hp_N_67598 (by omega)) hp_N_67603 (by omega)) (T2.step hp_67594 hp_N_67598 hp_N_67603 (by omega) (by omega) (by rw [(hp_67591 : N_67585 171 = N_1 171)]) (by rw [(hp_67605 : N_67598 171 = N_1 171), hp_N_67598.2.1 _ (by omega) (by omega), hp_N_67598.2.1 _ (by omega) (by omega)])) (by omega) rfl
                      have h_67608 := Inv.g hI_N_67544 kd_163 rfl 35 (a := 0) (b := 41) rfl rfl
                      exact L_67586 _ (M 164 0) N_67544 hI_N_67544 hF_N_67544 hp_67550 hp_67551 (T1.at hp_67552 (fun k l _ _ _ _ => by omega)) (T2.at hp_67553 (fun _ k j c l _ _ _ _ _ _ _ => by omega)) (by omega) rfl
                  exact L_67545 _ 0 N_67383 hI_N_67383 hF_N_67383 hp_67389 hp_67390 (T1.at hp_67391 (fun k l _ _ _ _ => by omega)) (T2.at hp_67392 (fun _ k j c l _ _ _ _ _ _ _ => by omega)) (by omega) rfl
            have h_67609 := Inv.g hI_N_65892 kd_163 rfl 35 (a := 0) (b := 41) rfl rfl
            exact L_67384 _ 0 N_65892 hI_N_65892 hF_N_65892 hp_65898 hp_65899 (T1.at hp_65900 (fun k l _ _ _ _ => by omega)) (T2.at hp_65901 (fun _ k j c l _ _ _ _ _ _ _ => by omega)) (by omega) rfl
          · refine kx_aload_n 54 F 0 dX12_laysTable_53 rfl rfl rfl ?_
            refine kx_aload_n 55 F 0 dX12_laysTable_54 rfl rfl rfl ?_
            refine kx_iload_n 56 F 1 dX12_laysTable_55 rfl rfl rfl ?_
            refine kx_iload_n 57 F 2 dX12_laysTable_56 rfl rfl rfl ?_
            refine kx_iload_n 58 F 3 dX12_laysTable_57 rfl rfl rfl ?_
            refine kx_Vi 61 (ci := 0) F (As := [vI a1, vI x2_56768, vI x3_65891]) (st := [vR G 163]) vd_X12_412 (c_X12_nextR G l N_65892 a1 x2_56768 x3_65891 hI_N_65892 (by omega)) kd_163 rfl rfl rfl ⟨by decide, by decide⟩ rfl rfl (Nat.le_of_ble_eq_true rfl) dX12_laysTable_58 rfl ?_
            intro r_67610 N_67611 q_67612
            obtain ⟨rfl, q_67612c⟩ := q_67612
            refine kx_aload_n 62 F 0 dX12_laysTable_61 rfl rfl rfl ?_
            refine kx_iload_n 63 F 1 dX12_laysTable_62 rfl rfl rfl ?_
            refine kx_iload_n 64 F 2 dX12_laysTable_63 rfl rfl rfl ?_
            refine kx_iload_n 65 F 3 dX12_laysTable_64 rfl rfl rfl ?_
            refine kx_Vi 68 (ci := 0) F (As := [vI a1, vI x2_56768, vI x3_65891]) (st := [vI r_67610, vR G 163]) vd_X12_415 (e_nextS G l N_65892 a1 x2_56768 x3_65891 hI_N_65892 (by omega)) kd_163 rfl rfl rfl ⟨by decide, by decide⟩ rfl rfl (Nat.le_of_ble_eq_true rfl) dX12_laysTable_65 rfl ?_
            intro r_67613 N_67614 q_67615
            obtain ⟨rfl, q_67615c, hz_N_67614⟩ := q_67615
            refine kx_Vv 71 (ci := 0) F (As := [vI r_67610, vI r_67613]) (st := []) vd_X12_409 (e_putsIn G l N_65892 r_67610 r_67613 hI_N_65892 (by omega)) kd_163 rfl rfl rfl ⟨by decide, by decide⟩ rfl rfl (Nat.le_of_ble_eq_true rfl) dX12_laysTable_68 rfl ?_
            intro N_67616 q_67617
            obtain ⟨hI_N_67616, hG_N_67616, hp_N_67616⟩ := q_67617
            have hF_N_67616 : Fr f_e_laysTable M N_67616 := Fr.c hF_N_65892 hG_N_67616 rfl
            have hq_N_67616 : N_65892 163 35 ≤ N_67616 163 35 := hp_N_67616.1
            refine kx_iinc 74 F 3 (v := x3_65891 + 1) (lo' := [some (vR G 163), some (vI a1), some (vI x2_56768), some (vI (x3_65891 + 1)), none, none]) dX12_laysTable_71 rfl (by omega) (by decide) rfl rfl rfl ?_
            refine kx_goto 45 F dX12_laysTable_74 (by decide) ?_
            have hp_67618 : RQ N_67616 N_1 := RQ.fr hp_65898 hG_N_67616 rfl
            have h_67619 := Inv.g hI_N_67616 kd_163 rfl 35 (a := 0) (b := 41) rfl rfl
            exact ih_65895 _ (by omega) (x3_65891 + 1) N_67616 hI_N_67616 hF_N_67616 hp_67618 (HS.mono hp_65899 hp_N_67616) (T1.step hp_65900 hp_N_67616 (by omega) (by omega) (fun h => by have q := hz_N_67614 (by omega); rw [(hp_65898 : N_65892 171 = N_1 171)] at q; exact q)) (T2.mono hp_65901 hp_N_67616 (by omega)) (by omega) rfl
        exact L_65893 _ 0 N_56769 hI_N_56769 hF_N_56769 hp_56775 hp_56776 (T1.at hp_56777 (fun k l _ _ _ _ => by omega)) (T2.at hp_56778 (fun _ k j c l _ _ _ _ _ _ _ => by omega)) (by omega) rfl
  have hp_67620 : RQ N_9 N_1 := RQ.st (rfl : RQ N_1 N_1) hM_N_9 kd_163 rfl
  have hp_67621 : RQ N_16 N_1 := RQ.fr hp_67620 hG_N_16 rfl
  exact L_56770 _ 0 N_16 hI_N_16 hF_N_16 hp_67621 (HS.new hp_N_16 (by rw [hz_N_14, show N_9 164 (100 + 85 * a1) = N_1 164 (100 + 85 * a1) by rw [hM_N_9, mu_k kd_164 kd_163 rfl]])) (T1.nil (by omega) (by omega) (by omega)) (T2.nil (by omega) (by omega) (by omega) (by omega) (by omega)) (by omega) rfl
