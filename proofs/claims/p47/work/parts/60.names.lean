set_option maxHeartbeats 4000000 in
set_option maxRecDepth 100000 in
theorem e_X12_inWords (G : KG) (l : Launch) (M : Mem) (hI_M : Inv true M) (Bt : Int → Int) (hB : TM M Bt) (j : Int) (hj : 0 ≤ j) (hs : RT M Bt j) : KC true G l yX12_inWords cX12_inWords 7 (some .int) (4, 85) [vR G 163, vT G 11] M (fun A => kQi true G A (fun (r : Int) (N : Mem) => M = N ∧ (r = (kwd Bt j) ∧ r ≥ -1 ∧ r ≤ 10))) := by
  refine kx_met (lo := [some (vR G 163), some (vT G 11), none, none, none, none, none]) (by decide) (Nat.le_of_ble_eq_true rfl) rfl ?_
  intro X F hQ
  have hu_1 := hs.u
  have ht_2 := tp_le (n := M 163 11) (TM.tx hB hI_M) (Inv.g hI_M kd_163 rfl 11 (a := 0) (b := 900) rfl rfl).1 (j := j) (by omega)
  have h_3 := Inv.g hI_M kd_163 rfl 11 (a := 0) (b := 900) rfl rfl
  have h_4 : slen 11 = 67 := rfl
  have hd_5 := kwd_r Bt j
  refine kx_aload_n 1 F 0 dX12_inWords_0 rfl rfl rfl ?_
  refine kx_geti 4 F fl_X12_168 kd_163 rfl rfl (j := 12) rfl dX12_inWords_1 (v := (M 163 12)) rfl rfl ?_
  have h_6 := Inv.g hI_M kd_163 rfl 12 (a := 0) (b := 4) rfl rfl
  refine kx_iconst 5 F dX12_inWords_4 rfl ?_
  refine kx_icmp_eq 8 F 10 dX12_inWords_5 (by decide) rfl (by omega) (by decide) (fun h_7 => ?_) (fun h_7 => ?_)
  · refine kx_iconst 11 F dX12_inWords_10 rfl ?_
    refine kx_istore_n 12 F 2 (lo' := [some (vR G 163), some (vT G 11), some (vI 0), none, none, none, none]) dX12_inWords_11 rfl (by decide) rfl rfl rfl ?_
    refine kx_iconst 13 F dX12_inWords_12 rfl ?_
    refine kx_istore_n 14 F 3 (lo' := [some (vR G 163), some (vT G 11), some (vI 0), some (vI 1), none, none, none]) dX12_inWords_13 rfl (by decide) rfl rfl rfl ?_
    have L_211 : ∀ (n_212 : Nat) (x2_209 : Int) (x3_210 : Int), OW M Bt j x2_209 x3_210 → 0 ≤ x2_209 ∧ x2_209 ≤ 11 ∧ 1 ≤ x3_210 ∧ x3_210 ≤ 67 ∧ x2_209 ≤ x3_210 → (11 - (x2_209)).toNat = n_212 → KJ true G X M 14 [some (vR G 163), some (vT G 11), some (vI x2_209), some (vI x3_210), none, none, none] [] := by
      intro n_212
      refine Nat.strongRecOn n_212 ?_
      intro n_212 ih_213 x2_209 x3_210 hp_216 h_214 hm_215
      refine kx_iload_n 15 F 3 dX12_inWords_14 rfl rfl rfl ?_
      refine kx_aload_n 16 F 1 dX12_inWords_15 rfl rfl rfl ?_
      refine kx_VSi 19 F (As := []) (st := [vI x3_210]) (by omega) vd_X12_183 (c_slength_t G l M 11 hI_M (by omega)) rfl ⟨by decide, by decide⟩ rfl rfl (Nat.le_of_ble_eq_true rfl) dX12_inWords_16 rfl ?_
      intro r_217 N_218 q_219
      obtain ⟨rfl, q_219c⟩ := q_219
      have h_220 := slen_rng 11
      refine kx_topi (e' := (slen 11)) (by omega) ?_
      refine kx_icmp_ge 22 F 133 dX12_inWords_19 (by decide) rfl (by omega) (by omega) (fun h_221 => ?_) (fun h_221 => ?_)
      · have hd_222 : kwd Bt j = -1 := OW.fin hp_216 (by omega)
        refine kx_iconst 134 F dX12_inWords_133 rfl ?_
        exact kx_iret F hQ ⟨rfl, (by omega)⟩ dX12_inWords_134
      · have hb_223 := OW.b hp_216
        refine kx_iload_n 23 F 3 dX12_inWords_22 rfl rfl rfl ?_
        refine kx_istore 25 F 4 (lo' := [some (vR G 163), some (vT G 11), some (vI x2_209), some (vI x3_210), some (vI x3_210), none, none]) dX12_inWords_23 (by decide) rfl rfl rfl ?_
        have L_319 : ∀ (n_320 : Nat) (x4_318 : Int), SC M x3_210 x4_318 → 1 ≤ x4_318 ∧ x4_318 ≤ 66 ∧ x3_210 ≤ x4_318 → (66 - (x4_318)).toNat = n_320 → KJ true G X M 25 [some (vR G 163), some (vT G 11), some (vI x2_209), some (vI x3_210), some (vI x4_318), none, none] [] := by
          intro n_320
          refine Nat.strongRecOn n_320 ?_
          intro n_320 ih_321 x4_318 hp_324 h_322 hm_323
          refine kx_aload_n 26 F 1 dX12_inWords_25 rfl rfl rfl ?_
          refine kx_iload 28 F 4 dX12_inWords_26 rfl rfl ?_
          refine kx_VSi 31 F (As := [vI x4_318]) (st := []) (by omega) vd_X12_189 (c_charAt_t G l M 11 x4_318 hI_M (by omega)) rfl ⟨by decide, by decide⟩ rfl rfl (Nat.le_of_ble_eq_true rfl) dX12_inWords_28 rfl ?_
          intro r_325 N_326 q_327
          obtain ⟨rfl, q_327c⟩ := q_327
          have hz_328 := schar_z 11 (by decide) x4_318
          have h_329 : ¬ x4_318 = 66 ∨ zand (schar 11 x4_318) 255 = 32 := by
            by_cases q : x4_318 = 66
            · exact Or.inr (by rw [q]; decide)
            · exact Or.inl q
          refine kx_bipush 33 F dX12_inWords_31 (by decide) rfl ?_
          refine kx_icmp_eq 36 F 42 dX12_inWords_33 (by decide) rfl (by omega) (by decide) (fun h_330 => ?_) (fun h_330 => ?_)
          · have hs_331 : 0 ≤ slen (kws (x2_209).toNat) ∧ slen (kws (x2_209).toNat) ≤ 9 := ⟨(kst_a (x2_209).toNat (by omega)).2.2.2, (kst_a (x2_209).toNat (by omega)).2.2.1⟩
            have hs_332 : x4_318 = x3_210 + slen (kws (x2_209).toNat) := SC.done hp_324 hp_216 (by omega) (by omega)
            refine kx_iload 44 F 4 dX12_inWords_42 rfl rfl ?_
            refine kx_iload_n 45 F 3 dX12_inWords_44 rfl rfl rfl ?_
            refine kx_isub 46 F (v := x4_318 - x3_210) dX12_inWords_45 rfl rfl ?_
            refine kx_aload_n 47 F 0 dX12_inWords_46 rfl rfl rfl ?_
            refine kx_geti 50 F fl_X12_156 kd_163 rfl rfl (j := 14) rfl dX12_inWords_47 (v := (M 163 14)) rfl rfl ?_
            have h_333 := Inv.g hI_M kd_163 rfl 14 (a := 0) (b := 900) rfl rfl
            refine kx_aload_n 51 F 0 dX12_inWords_50 rfl rfl rfl ?_
            refine kx_geti 54 F fl_X12_162 kd_163 rfl rfl (j := 13) rfl dX12_inWords_51 (v := (M 163 13)) rfl rfl ?_
            have h_334 := Inv.g hI_M kd_163 rfl 13 (a := 0) (b := 900) rfl rfl
            refine kx_isub 55 F (v := (M 163 14) - (M 163 13)) dX12_inWords_54 rfl rfl ?_
            refine kx_icmp_ne 58 F 62 dX12_inWords_55 (by decide) rfl (by omega) (by omega) (fun h_335 => ?_) (fun h_335 => ?_)
            · refine kx_iconst 63 F dX12_inWords_62 rfl ?_
              refine kx_istore 65 F 5 (lo' := [some (vR G 163), some (vT G 11), some (vI x2_209), some (vI x3_210), some (vI x4_318), some (vI 0), none]) dX12_inWords_63 (by decide) rfl rfl rfl ?_
              refine kx_iload_n 66 F 3 dX12_inWords_65 rfl rfl rfl ?_
              refine kx_istore 68 F 6 (lo' := [some (vR G 163), some (vT G 11), some (vI x2_209), some (vI x3_210), some (vI x4_318), some (vI 0), some (vI x3_210)]) dX12_inWords_66 (by decide) rfl rfl rfl ?_
              have L_356 : ∀ (n_357 : Nat) (x5_354 : Int) (x6_355 : Int), LK M Bt j x2_209 x5_354 (x6_355 - x3_210) → 0 ≤ x5_354 ∧ x5_354 ≤ 1 ∧ 1 ≤ x6_355 ∧ x6_355 ≤ 66 ∧ x3_210 ≤ x6_355 → (66 - (x6_355)).toNat = n_357 → KJ true G X M 68 [some (vR G 163), some (vT G 11), some (vI x2_209), some (vI x3_210), some (vI x4_318), some (vI x5_354), some (vI x6_355)] [] := by
                intro n_357
                refine Nat.strongRecOn n_357 ?_
                intro n_357 ih_358 x5_354 x6_355 hp_361 h_359 hm_360
                refine kx_iload 70 F 6 dX12_inWords_68 rfl rfl ?_
                refine kx_iload 72 F 4 dX12_inWords_70 rfl rfl ?_
                refine kx_icmp_ge 75 F 115 dX12_inWords_72 (by decide) rfl (by omega) (by omega) (fun h_362 => ?_) (fun h_362 => ?_)
                · refine kx_iload 117 F 5 dX12_inWords_115 rfl rfl ?_
                  refine kx_if_eq 120 F 122 dX12_inWords_117 (by decide) rfl (by omega) (fun h_363 => ?_) (fun h_363 => ?_)
                  · have hd_364 : kwd Bt j ≠ x2_209 := LK.no hp_361 (by omega)
                    refine kx_iinc 125 F 2 (v := x2_209 + 1) (lo' := [some (vR G 163), some (vT G 11), some (vI (x2_209 + 1)), some (vI x3_210), some (vI x4_318), some (vI x5_354), some (vI x6_355)]) dX12_inWords_122 rfl (by omega) (by decide) rfl rfl rfl ?_
                    refine kx_iload 127 F 4 dX12_inWords_125 rfl rfl ?_
                    refine kx_iconst 128 F dX12_inWords_127 rfl ?_
                    refine kx_iadd 129 F (v := x4_318 + 1) dX12_inWords_128 rfl rfl ?_
                    refine kx_istore_n 130 F 3 (lo' := [some (vR G 163), some (vT G 11), some (vI (x2_209 + 1)), some (vI (x4_318 + 1)), some (vI x4_318), some (vI x5_354), some (vI x6_355)]) dX12_inWords_129 rfl (by decide) rfl rfl rfl ?_
                    refine kx_goto 14 F dX12_inWords_130 (by decide) ?_
                    refine kx_drop 4 (lo' := [some (vR G 163), some (vT G 11), some (vI (x2_209 + 1)), some (vI (x4_318 + 1)), none, some (vI x5_354), some (vI x6_355)]) rfl ?_
                    refine kx_drop 5 (lo' := [some (vR G 163), some (vT G 11), some (vI (x2_209 + 1)), some (vI (x4_318 + 1)), none, none, some (vI x6_355)]) rfl ?_
                    refine kx_drop 6 (lo' := [some (vR G 163), some (vT G 11), some (vI (x2_209 + 1)), some (vI (x4_318 + 1)), none, none, none]) rfl ?_
                    exact ih_213 _ (by omega) (x2_209 + 1) (x4_318 + 1) (OW.next hp_216 (by omega) (by omega) (by omega)) (by omega) rfl
                  · have hd_365 : kwd Bt j = x2_209 := LK.done hp_361 (by omega) (by omega) (by omega)
                    refine kx_iload_n 121 F 2 dX12_inWords_120 rfl rfl rfl ?_
                    exact kx_iret F hQ ⟨rfl, (by omega)⟩ dX12_inWords_121
                · refine kx_iload 77 F 5 dX12_inWords_75 rfl rfl ?_
                  refine kx_if_eq 80 F 115 dX12_inWords_77 (by decide) rfl (by omega) (fun h_366 => ?_) (fun h_366 => ?_)
                  · refine kx_iload 117 F 5 dX12_inWords_115 rfl rfl ?_
                    refine kx_if_eq 120 F 122 dX12_inWords_117 (by decide) rfl (by omega) (fun h_367 => ?_) (fun h_367 => (by exfalso; omega))
                    have hd_368 : kwd Bt j ≠ x2_209 := LK.no hp_361 (by omega)
                    refine kx_iinc 125 F 2 (v := x2_209 + 1) (lo' := [some (vR G 163), some (vT G 11), some (vI (x2_209 + 1)), some (vI x3_210), some (vI x4_318), some (vI x5_354), some (vI x6_355)]) dX12_inWords_122 rfl (by omega) (by decide) rfl rfl rfl ?_
                    refine kx_iload 127 F 4 dX12_inWords_125 rfl rfl ?_
                    refine kx_iconst 128 F dX12_inWords_127 rfl ?_
                    refine kx_iadd 129 F (v := x4_318 + 1) dX12_inWords_128 rfl rfl ?_
                    refine kx_istore_n 130 F 3 (lo' := [some (vR G 163), some (vT G 11), some (vI (x2_209 + 1)), some (vI (x4_318 + 1)), some (vI x4_318), some (vI x5_354), some (vI x6_355)]) dX12_inWords_129 rfl (by decide) rfl rfl rfl ?_
                    refine kx_goto 14 F dX12_inWords_130 (by decide) ?_
                    refine kx_drop 4 (lo' := [some (vR G 163), some (vT G 11), some (vI (x2_209 + 1)), some (vI (x4_318 + 1)), none, some (vI x5_354), some (vI x6_355)]) rfl ?_
                    refine kx_drop 5 (lo' := [some (vR G 163), some (vT G 11), some (vI (x2_209 + 1)), some (vI (x4_318 + 1)), none, none, some (vI x6_355)]) rfl ?_
                    refine kx_drop 6 (lo' := [some (vR G 163), some (vT G 11), some (vI (x2_209 + 1)), some (vI (x4_318 + 1)), none, none, none]) rfl ?_
                    exact ih_213 _ (by omega) (x2_209 + 1) (x4_318 + 1) (OW.next hp_216 (by omega) (by omega) (by omega)) (by omega) rfl
                  · refine kx_aload_n 81 F 1 dX12_inWords_80 rfl rfl rfl ?_
                    refine kx_iload 83 F 6 dX12_inWords_81 rfl rfl ?_
                    refine kx_VSi 86 F (As := [vI x6_355]) (st := []) (by omega) vd_X12_189 (c_charAt_t G l M 11 x6_355 hI_M (by omega)) rfl ⟨by decide, by decide⟩ rfl rfl (Nat.le_of_ble_eq_true rfl) dX12_inWords_83 rfl ?_
                    intro r_369 N_370 q_371
                    obtain ⟨rfl, q_371c⟩ := q_371
                    refine kx_aload_n 87 F 0 dX12_inWords_86 rfl rfl rfl ?_
                    refine kx_aload_n 88 F 0 dX12_inWords_87 rfl rfl rfl ?_
                    refine kx_geti 91 F fl_X12_162 kd_163 rfl rfl (j := 13) rfl dX12_inWords_88 (v := (M 163 13)) rfl rfl ?_
                    refine kx_iload 93 F 6 dX12_inWords_91 rfl rfl ?_
                    refine kx_iadd 94 F (v := (M 163 13) + x6_355) dX12_inWords_93 rfl rfl ?_
                    refine kx_iload_n 95 F 3 dX12_inWords_94 rfl rfl rfl ?_
                    refine kx_isub 96 F (v := (M 163 13) + x6_355 - x3_210) dX12_inWords_95 rfl rfl ?_
                    refine kx_Vi 99 (ci := 0) F (As := [vI ((M 163 13) + x6_355 - x3_210)]) (st := [vI r_369]) vd_X12_159 (e_X12_byteAt G l M ((M 163 13) + x6_355 - x3_210) hI_M (by omega) Bt hB) kd_163 rfl rfl rfl ⟨by decide, by decide⟩ rfl rfl (Nat.le_of_ble_eq_true rfl) dX12_inWords_96 rfl ?_
                    intro r_372 N_373 q_374
                    obtain ⟨rfl, q_374c⟩ := q_374
                    rcases q_374c with q_374c | q_374c
                    · have hz_377 := schar_z 11 (by decide) x6_355
                      have hz_378 : schar 11 x6_355 = schar (kws (x2_209).toNat) (x6_355 - x3_210) := by have := OW.ch hp_216 (x := x6_355 - x3_210) (by omega) (by omega); rw [show x3_210 + (x6_355 - x3_210) = x6_355 by omega] at this; exact this
                      have hz_379 : Bt (tp Bt j + (x6_355 - x3_210)) = Bt (M 163 13 + x6_355 - x3_210) := by rw [show tp Bt j + (x6_355 - x3_210) = M 163 13 + x6_355 - x3_210 by omega]
                      refine kx_icmp_ne 102 F 106 dX12_inWords_99 (by decide) rfl (by omega) (by omega) (fun h_380 => ?_) (fun h_380 => (by exfalso; omega))
                      refine kx_iconst 107 F dX12_inWords_106 rfl ?_
                      refine kx_istore 109 F 5 (lo' := [some (vR G 163), some (vT G 11), some (vI x2_209), some (vI x3_210), some (vI x4_318), some (vI 0), some (vI x6_355)]) dX12_inWords_107 (by decide) rfl rfl rfl ?_
                      refine kx_iinc 112 F 6 (v := x6_355 + 1) (lo' := [some (vR G 163), some (vT G 11), some (vI x2_209), some (vI x3_210), some (vI x4_318), some (vI 0), some (vI (x6_355 + 1))]) dX12_inWords_109 rfl (by omega) (by decide) rfl rfl rfl ?_
                      refine kx_goto 68 F dX12_inWords_112 (by decide) ?_
                      exact ih_358 _ (by omega) 0 (x6_355 + 1) (LK.s0 (x := x6_355 - x3_210) (by omega) (by omega) (by omega)) (by omega) rfl
                    · have hz_381 := schar_z 11 (by decide) x6_355
                      have hz_382 : schar 11 x6_355 = schar (kws (x2_209).toNat) (x6_355 - x3_210) := by have := OW.ch hp_216 (x := x6_355 - x3_210) (by omega) (by omega); rw [show x3_210 + (x6_355 - x3_210) = x6_355 by omega] at this; exact this
                      have hz_383 : Bt (tp Bt j + (x6_355 - x3_210)) = Bt (M 163 13 + x6_355 - x3_210) := by rw [show tp Bt j + (x6_355 - x3_210) = M 163 13 + x6_355 - x3_210 by omega]
                      refine kx_icmp_ne 102 F 106 dX12_inWords_99 (by decide) rfl (by omega) (by omega) (fun h_384 => ?_) (fun h_384 => ?_)
                      · refine kx_iconst 107 F dX12_inWords_106 rfl ?_
                        refine kx_istore 109 F 5 (lo' := [some (vR G 163), some (vT G 11), some (vI x2_209), some (vI x3_210), some (vI x4_318), some (vI 0), some (vI x6_355)]) dX12_inWords_107 (by decide) rfl rfl rfl ?_
                        refine kx_iinc 112 F 6 (v := x6_355 + 1) (lo' := [some (vR G 163), some (vT G 11), some (vI x2_209), some (vI x3_210), some (vI x4_318), some (vI 0), some (vI (x6_355 + 1))]) dX12_inWords_109 rfl (by omega) (by decide) rfl rfl rfl ?_
                        refine kx_goto 68 F dX12_inWords_112 (by decide) ?_
                        exact ih_358 _ (by omega) 0 (x6_355 + 1) (LK.s0 (x := x6_355 - x3_210) (by omega) (by omega) (by omega)) (by omega) rfl
                      · refine kx_iconst 103 F dX12_inWords_102 rfl ?_
                        refine kx_goto 107 F dX12_inWords_103 (by decide) ?_
                        refine kx_istore 109 F 5 (lo' := [some (vR G 163), some (vT G 11), some (vI x2_209), some (vI x3_210), some (vI x4_318), some (vI 1), some (vI x6_355)]) dX12_inWords_107 (by decide) rfl rfl rfl ?_
                        refine kx_iinc 112 F 6 (v := x6_355 + 1) (lo' := [some (vR G 163), some (vT G 11), some (vI x2_209), some (vI x3_210), some (vI x4_318), some (vI 1), some (vI (x6_355 + 1))]) dX12_inWords_109 rfl (by omega) (by decide) rfl rfl rfl ?_
                        refine kx_goto 68 F dX12_inWords_112 (by decide) ?_
                        exact ih_358 _ (by omega) 1 (x6_355 + 1) (LK.s1 (x := x6_355 - x3_210) hp_361 (by omega) (by omega) (by omega)) (by omega) rfl
              exact L_356 _ 0 x3_210 (LK.n (by omega) (by omega)) (by omega) rfl
            · refine kx_iconst 59 F dX12_inWords_58 rfl ?_
              refine kx_goto 63 F dX12_inWords_59 (by decide) ?_
              refine kx_istore 65 F 5 (lo' := [some (vR G 163), some (vT G 11), some (vI x2_209), some (vI x3_210), some (vI x4_318), some (vI 1), none]) dX12_inWords_63 (by decide) rfl rfl rfl ?_
              refine kx_iload_n 66 F 3 dX12_inWords_65 rfl rfl rfl ?_
              refine kx_istore 68 F 6 (lo' := [some (vR G 163), some (vT G 11), some (vI x2_209), some (vI x3_210), some (vI x4_318), some (vI 1), some (vI x3_210)]) dX12_inWords_66 (by decide) rfl rfl rfl ?_
              have L_405 : ∀ (n_406 : Nat) (x5_403 : Int) (x6_404 : Int), LK M Bt j x2_209 x5_403 (x6_404 - x3_210) → 0 ≤ x5_403 ∧ x5_403 ≤ 1 ∧ 1 ≤ x6_404 ∧ x6_404 ≤ 66 ∧ x3_210 ≤ x6_404 → (66 - (x6_404)).toNat = n_406 → KJ true G X M 68 [some (vR G 163), some (vT G 11), some (vI x2_209), some (vI x3_210), some (vI x4_318), some (vI x5_403), some (vI x6_404)] [] := by
                intro n_406
                refine Nat.strongRecOn n_406 ?_
                intro n_406 ih_407 x5_403 x6_404 hp_410 h_408 hm_409
                refine kx_iload 70 F 6 dX12_inWords_68 rfl rfl ?_
                refine kx_iload 72 F 4 dX12_inWords_70 rfl rfl ?_
                refine kx_icmp_ge 75 F 115 dX12_inWords_72 (by decide) rfl (by omega) (by omega) (fun h_411 => ?_) (fun h_411 => ?_)
                · refine kx_iload 117 F 5 dX12_inWords_115 rfl rfl ?_
                  refine kx_if_eq 120 F 122 dX12_inWords_117 (by decide) rfl (by omega) (fun h_412 => ?_) (fun h_412 => ?_)
                  · have hd_413 : kwd Bt j ≠ x2_209 := LK.no hp_410 (by omega)
                    refine kx_iinc 125 F 2 (v := x2_209 + 1) (lo' := [some (vR G 163), some (vT G 11), some (vI (x2_209 + 1)), some (vI x3_210), some (vI x4_318), some (vI x5_403), some (vI x6_404)]) dX12_inWords_122 rfl (by omega) (by decide) rfl rfl rfl ?_
                    refine kx_iload 127 F 4 dX12_inWords_125 rfl rfl ?_
                    refine kx_iconst 128 F dX12_inWords_127 rfl ?_
                    refine kx_iadd 129 F (v := x4_318 + 1) dX12_inWords_128 rfl rfl ?_
                    refine kx_istore_n 130 F 3 (lo' := [some (vR G 163), some (vT G 11), some (vI (x2_209 + 1)), some (vI (x4_318 + 1)), some (vI x4_318), some (vI x5_403), some (vI x6_404)]) dX12_inWords_129 rfl (by decide) rfl rfl rfl ?_
                    refine kx_goto 14 F dX12_inWords_130 (by decide) ?_
                    refine kx_drop 4 (lo' := [some (vR G 163), some (vT G 11), some (vI (x2_209 + 1)), some (vI (x4_318 + 1)), none, some (vI x5_403), some (vI x6_404)]) rfl ?_
                    refine kx_drop 5 (lo' := [some (vR G 163), some (vT G 11), some (vI (x2_209 + 1)), some (vI (x4_318 + 1)), none, none, some (vI x6_404)]) rfl ?_
                    refine kx_drop 6 (lo' := [some (vR G 163), some (vT G 11), some (vI (x2_209 + 1)), some (vI (x4_318 + 1)), none, none, none]) rfl ?_
                    exact ih_213 _ (by omega) (x2_209 + 1) (x4_318 + 1) (OW.next hp_216 (by omega) (by omega) (by omega)) (by omega) rfl
                  · have hd_414 : kwd Bt j = x2_209 := LK.done hp_410 (by omega) (by omega) (by omega)
                    refine kx_iload_n 121 F 2 dX12_inWords_120 rfl rfl rfl ?_
                    exact kx_iret F hQ ⟨rfl, (by omega)⟩ dX12_inWords_121
                · refine kx_iload 77 F 5 dX12_inWords_75 rfl rfl ?_
                  refine kx_if_eq 80 F 115 dX12_inWords_77 (by decide) rfl (by omega) (fun h_415 => ?_) (fun h_415 => ?_)
                  · refine kx_iload 117 F 5 dX12_inWords_115 rfl rfl ?_
                    refine kx_if_eq 120 F 122 dX12_inWords_117 (by decide) rfl (by omega) (fun h_416 => ?_) (fun h_416 => (by exfalso; omega))
                    have hd_417 : kwd Bt j ≠ x2_209 := LK.no hp_410 (by omega)
                    refine kx_iinc 125 F 2 (v := x2_209 + 1) (lo' := [some (vR G 163), some (vT G 11), some (vI (x2_209 + 1)), some (vI x3_210), some (vI x4_318), some (vI x5_403), some (vI x6_404)]) dX12_inWords_122 rfl (by omega) (by decide) rfl rfl rfl ?_
                    refine kx_iload 127 F 4 dX12_inWords_125 rfl rfl ?_
                    refine kx_iconst 128 F dX12_inWords_127 rfl ?_
                    refine kx_iadd 129 F (v := x4_318 + 1) dX12_inWords_128 rfl rfl ?_
                    refine kx_istore_n 130 F 3 (lo' := [some (vR G 163), some (vT G 11), some (vI (x2_209 + 1)), some (vI (x4_318 + 1)), some (vI x4_318), some (vI x5_403), some (vI x6_404)]) dX12_inWords_129 rfl (by decide) rfl rfl rfl ?_
                    refine kx_goto 14 F dX12_inWords_130 (by decide) ?_
                    refine kx_drop 4 (lo' := [some (vR G 163), some (vT G 11), some (vI (x2_209 + 1)), some (vI (x4_318 + 1)), none, some (vI x5_403), some (vI x6_404)]) rfl ?_
                    refine kx_drop 5 (lo' := [some (vR G 163), some (vT G 11), some (vI (x2_209 + 1)), some (vI (x4_318 + 1)), none, none, some (vI x6_404)]) rfl ?_
                    refine kx_drop 6 (lo' := [some (vR G 163), some (vT G 11), some (vI (x2_209 + 1)), some (vI (x4_318 + 1)), none, none, none]) rfl ?_
                    exact ih_213 _ (by omega) (x2_209 + 1) (x4_318 + 1) (OW.next hp_216 (by omega) (by omega) (by omega)) (by omega) rfl
                  · refine kx_aload_n 81 F 1 dX12_inWords_80 rfl rfl rfl ?_
                    refine kx_iload 83 F 6 dX12_inWords_81 rfl rfl ?_
                    refine kx_VSi 86 F (As := [vI x6_404]) (st := []) (by omega) vd_X12_189 (c_charAt_t G l M 11 x6_404 hI_M (by omega)) rfl ⟨by decide, by decide⟩ rfl rfl (Nat.le_of_ble_eq_true rfl) dX12_inWords_83 rfl ?_
                    intro r_418 N_419 q_420
                    obtain ⟨rfl, q_420c⟩ := q_420
                    refine kx_aload_n 87 F 0 dX12_inWords_86 rfl rfl rfl ?_
                    refine kx_aload_n 88 F 0 dX12_inWords_87 rfl rfl rfl ?_
                    refine kx_geti 91 F fl_X12_162 kd_163 rfl rfl (j := 13) rfl dX12_inWords_88 (v := (M 163 13)) rfl rfl ?_
                    refine kx_iload 93 F 6 dX12_inWords_91 rfl rfl ?_
                    refine kx_iadd 94 F (v := (M 163 13) + x6_404) dX12_inWords_93 rfl rfl ?_
                    refine kx_iload_n 95 F 3 dX12_inWords_94 rfl rfl rfl ?_
                    refine kx_isub 96 F (v := (M 163 13) + x6_404 - x3_210) dX12_inWords_95 rfl rfl ?_
                    refine kx_Vi 99 (ci := 0) F (As := [vI ((M 163 13) + x6_404 - x3_210)]) (st := [vI r_418]) vd_X12_159 (e_X12_byteAt G l M ((M 163 13) + x6_404 - x3_210) hI_M (by omega) Bt hB) kd_163 rfl rfl rfl ⟨by decide, by decide⟩ rfl rfl (Nat.le_of_ble_eq_true rfl) dX12_inWords_96 rfl ?_
                    intro r_421 N_422 q_423
                    obtain ⟨rfl, q_423c⟩ := q_423
                    rcases q_423c with q_423c | q_423c
                    · have hz_426 := schar_z 11 (by decide) x6_404
                      have hz_427 : schar 11 x6_404 = schar (kws (x2_209).toNat) (x6_404 - x3_210) := by have := OW.ch hp_216 (x := x6_404 - x3_210) (by omega) (by omega); rw [show x3_210 + (x6_404 - x3_210) = x6_404 by omega] at this; exact this
                      have hz_428 : Bt (tp Bt j + (x6_404 - x3_210)) = Bt (M 163 13 + x6_404 - x3_210) := by rw [show tp Bt j + (x6_404 - x3_210) = M 163 13 + x6_404 - x3_210 by omega]
                      refine kx_icmp_ne 102 F 106 dX12_inWords_99 (by decide) rfl (by omega) (by omega) (fun h_429 => ?_) (fun h_429 => (by exfalso; omega))
                      refine kx_iconst 107 F dX12_inWords_106 rfl ?_
                      refine kx_istore 109 F 5 (lo' := [some (vR G 163), some (vT G 11), some (vI x2_209), some (vI x3_210), some (vI x4_318), some (vI 0), some (vI x6_404)]) dX12_inWords_107 (by decide) rfl rfl rfl ?_
                      refine kx_iinc 112 F 6 (v := x6_404 + 1) (lo' := [some (vR G 163), some (vT G 11), some (vI x2_209), some (vI x3_210), some (vI x4_318), some (vI 0), some (vI (x6_404 + 1))]) dX12_inWords_109 rfl (by omega) (by decide) rfl rfl rfl ?_
                      refine kx_goto 68 F dX12_inWords_112 (by decide) ?_
                      exact ih_407 _ (by omega) 0 (x6_404 + 1) (LK.s0 (x := x6_404 - x3_210) (by omega) (by omega) (by omega)) (by omega) rfl
                    · have hz_430 := schar_z 11 (by decide) x6_404
                      have hz_431 : schar 11 x6_404 = schar (kws (x2_209).toNat) (x6_404 - x3_210) := by have := OW.ch hp_216 (x := x6_404 - x3_210) (by omega) (by omega); rw [show x3_210 + (x6_404 - x3_210) = x6_404 by omega] at this; exact this
                      have hz_432 : Bt (tp Bt j + (x6_404 - x3_210)) = Bt (M 163 13 + x6_404 - x3_210) := by rw [show tp Bt j + (x6_404 - x3_210) = M 163 13 + x6_404 - x3_210 by omega]
                      refine kx_icmp_ne 102 F 106 dX12_inWords_99 (by decide) rfl (by omega) (by omega) (fun h_433 => ?_) (fun h_433 => ?_)
                      · refine kx_iconst 107 F dX12_inWords_106 rfl ?_
                        refine kx_istore 109 F 5 (lo' := [some (vR G 163), some (vT G 11), some (vI x2_209), some (vI x3_210), some (vI x4_318), some (vI 0), some (vI x6_404)]) dX12_inWords_107 (by decide) rfl rfl rfl ?_
                        refine kx_iinc 112 F 6 (v := x6_404 + 1) (lo' := [some (vR G 163), some (vT G 11), some (vI x2_209), some (vI x3_210), some (vI x4_318), some (vI 0), some (vI (x6_404 + 1))]) dX12_inWords_109 rfl (by omega) (by decide) rfl rfl rfl ?_
                        refine kx_goto 68 F dX12_inWords_112 (by decide) ?_
                        exact ih_407 _ (by omega) 0 (x6_404 + 1) (LK.s0 (x := x6_404 - x3_210) (by omega) (by omega) (by omega)) (by omega) rfl
                      · refine kx_iconst 103 F dX12_inWords_102 rfl ?_
                        refine kx_goto 107 F dX12_inWords_103 (by decide) ?_
                        refine kx_istore 109 F 5 (lo' := [some (vR G 163), some (vT G 11), some (vI x2_209), some (vI x3_210), some (vI x4_318), some (vI 1), some (vI x6_404)]) dX12_inWords_107 (by decide) rfl rfl rfl ?_
                        refine kx_iinc 112 F 6 (v := x6_404 + 1) (lo' := [some (vR G 163), some (vT G 11), some (vI x2_209), some (vI x3_210), some (vI x4_318), some (vI 1), some (vI (x6_404 + 1))]) dX12_inWords_109 rfl (by omega) (by decide) rfl rfl rfl ?_
                        refine kx_goto 68 F dX12_inWords_112 (by decide) ?_
                        exact ih_407 _ (by omega) 1 (x6_404 + 1) (LK.s1 (x := x6_404 - x3_210) hp_410 (by omega) (by omega) (by omega)) (by omega) rfl
              exact L_405 _ 1 x3_210 (LK.y (by omega) (by omega) (by omega)) (by omega) rfl
          · refine kx_iinc 39 F 4 (v := x4_318 + 1) (lo' := [some (vR G 163), some (vT G 11), some (vI x2_209), some (vI x3_210), some (vI (x4_318 + 1)), none, none]) dX12_inWords_36 rfl (by omega) (by decide) rfl rfl rfl ?_
            refine kx_goto 25 F dX12_inWords_39 (by decide) ?_
            exact ih_321 _ (by omega) (x4_318 + 1) (SC.step hp_324 (by omega)) (by omega) rfl
        exact L_319 _ x3_210 SC.nil (by omega) rfl
    exact L_211 _ 0 1 OW.nil (by omega) rfl
  · have hd_434 : kwd Bt j = -1 := kwd_0 (by omega)
    refine kx_iconst 9 F dX12_inWords_8 rfl ?_
    exact kx_iret F hQ ⟨rfl, (by omega)⟩ dX12_inWords_9
set_option maxHeartbeats 4000000 in
set_option maxRecDepth 100000 in
theorem e_X12_isName (G : KG) (l : Launch) (M : Mem) (hI_M : Inv true M) (Bt : Int → Int) (hB : TM M Bt) (j : Int) (hj : 0 ≤ j) (hs : RT M Bt j) : KC true G l yX12_isName cX12_isName 2 (some .boolean) (5, 111) [vR G 163, vT G 11] M (fun A => kQi true G A (fun (r : Int) (N : Mem) => M = N ∧ ((r = 1 ∧ (nm Bt j) = 1 ∧ (tk Bt j) = 1 ∧ (tbd Bt j) = 0) ∨ (r = 0 ∧ (nm Bt j) = 0)))) := by
  refine kx_met (lo := [some (vR G 163), some (vT G 11)]) (by decide) (Nat.le_of_ble_eq_true rfl) rfl ?_
  intro X F hQ
  have hu_1 := hs.u
  have ht_2 := tp_le (n := M 163 11) (TM.tx hB hI_M) (Inv.g hI_M kd_163 rfl 11 (a := 0) (b := 900) rfl rfl).1 (j := j) (by omega)
  have h_3 := Inv.g hI_M kd_163 rfl 11 (a := 0) (b := 900) rfl rfl
  refine kx_aload_n 1 F 0 dX12_isName_0 rfl rfl rfl ?_
  refine kx_geti 4 F fl_X12_168 kd_163 rfl rfl (j := 12) rfl dX12_isName_1 (v := (M 163 12)) rfl rfl ?_
  have h_4 := Inv.g hI_M kd_163 rfl 12 (a := 0) (b := 4) rfl rfl
  refine kx_iconst 5 F dX12_isName_4 rfl ?_
  refine kx_icmp_ne 8 F 35 dX12_isName_5 (by decide) rfl (by omega) (by decide) (fun h_5 => ?_) (fun h_5 => ?_)
  · have hd_6 : nm Bt j = 0 := by have := nm_c Bt j; omega
    refine kx_iconst 36 F dX12_isName_35 rfl ?_
    exact kx_zret F hQ (by omega) ⟨rfl, (by omega)⟩ dX12_isName_36
  · refine kx_aload_n 9 F 0 dX12_isName_8 rfl rfl rfl ?_
    refine kx_geti 12 F fl_X12_156 kd_163 rfl rfl (j := 14) rfl dX12_isName_9 (v := (M 163 14)) rfl rfl ?_
    have h_7 := Inv.g hI_M kd_163 rfl 14 (a := 0) (b := 900) rfl rfl
    refine kx_aload_n 13 F 0 dX12_isName_12 rfl rfl rfl ?_
    refine kx_geti 16 F fl_X12_162 kd_163 rfl rfl (j := 13) rfl dX12_isName_13 (v := (M 163 13)) rfl rfl ?_
    have h_8 := Inv.g hI_M kd_163 rfl 13 (a := 0) (b := 900) rfl rfl
    refine kx_isub 17 F (v := (M 163 14) - (M 163 13)) dX12_isName_16 rfl rfl ?_
    refine kx_bipush 19 F dX12_isName_17 (by decide) rfl ?_
    refine kx_icmp_gt 22 F 35 dX12_isName_19 (by decide) rfl (by omega) (by decide) (fun h_9 => ?_) (fun h_9 => ?_)
    · have hd_10 : nm Bt j = 0 := by have := nm_c Bt j; omega
      refine kx_iconst 36 F dX12_isName_35 rfl ?_
      exact kx_zret F hQ (by omega) ⟨rfl, (by omega)⟩ dX12_isName_36
    · refine kx_aload_n 23 F 0 dX12_isName_22 rfl rfl rfl ?_
      refine kx_aload_n 24 F 1 dX12_isName_23 rfl rfl rfl ?_
      refine kx_Vi 27 (ci := 0) F (As := [vT G 11]) (st := []) vd_X12_208 (e_X12_inWords G l M  hI_M Bt hB j (by omega) hs) kd_163 rfl rfl rfl ⟨by decide, by decide⟩ rfl rfl (Nat.le_of_ble_eq_true rfl) dX12_isName_24 rfl ?_
      intro r_11 N_12 q_13
      obtain ⟨rfl, q_13c⟩ := q_13
      refine kx_topi (e' := (kwd Bt j)) (by omega) ?_
      refine kx_iconst 28 F dX12_isName_27 rfl ?_
      refine kx_icmp_ne 31 F 35 dX12_isName_28 (by decide) rfl (by omega) (by decide) (fun h_14 => ?_) (fun h_14 => ?_)
      · have hd_15 : nm Bt j = 0 := by have := nm_c Bt j; omega
        refine kx_iconst 36 F dX12_isName_35 rfl ?_
        exact kx_zret F hQ (by omega) ⟨rfl, (by omega)⟩ dX12_isName_36
      · have hd_16 : nm Bt j = 1 := by have := nm_c Bt j; omega
        refine kx_iconst 32 F dX12_isName_31 rfl ?_
        refine kx_goto 36 F dX12_isName_32 (by decide) ?_
        exact kx_zret F hQ (by omega) ⟨rfl, (by omega)⟩ dX12_isName_36
set_option maxHeartbeats 4000000 in
set_option maxRecDepth 100000 in
theorem e_X12_nameHere (G : KG) (l : Launch) (M : Mem) (hI_M : Inv true M) (Bt : Int → Int) (hB : TM M Bt) (j : Int) (hj : 0 ≤ j) (hs : RT M Bt j) (hm : nmt Bt j) : KC true G l yX12_nameHere cX12_nameHere 4 (some .long) (1, 21) [vR G 163] M (fun A => kQl true G A (fun (r : Int) (N : Mem) => M = N ∧ (r = (tpk Bt j) ∧ r ≥ -9223372036854775808 ∧ r ≤ 9223372036854775807))) := by
  refine kx_met (lo := [some (vR G 163), none, none, none]) (by decide) (Nat.le_of_ble_eq_true rfl) rfl ?_
  intro X F hQ
  have hu_1 := hs.u
  have ht_2 := tp_le (n := M 163 11) (TM.tx hB hI_M) (Inv.g hI_M kd_163 rfl 11 (a := 0) (b := 900) rfl rfl).1 (j := j) (by omega)
  have h_3 := Inv.g hI_M kd_163 rfl 11 (a := 0) (b := 900) rfl rfl
  refine kx_lconst 1 (z := 0) F dX12_nameHere_0 (by decide) rfl ?_
  refine kx_lstore_n 2 F 1 (lo' := [some (vR G 163), some (vL 0), none, none]) dX12_nameHere_1 rfl (by decide) rfl rfl rfl ?_
  refine kx_aload_n 3 F 0 dX12_nameHere_2 rfl rfl rfl ?_
  refine kx_geti 6 F fl_X12_162 kd_163 rfl rfl (j := 13) rfl dX12_nameHere_3 (v := (M 163 13)) rfl rfl ?_
  have h_4 := Inv.g hI_M kd_163 rfl 13 (a := 0) (b := 900) rfl rfl
  refine kx_istore_n 7 F 3 (lo' := [some (vR G 163), some (vL 0), none, some (vI (M 163 13))]) dX12_nameHere_6 rfl (by decide) rfl rfl rfl ?_
  have L_29 : ∀ (n_30 : Nat) (x1_27 : Int) (x3_28 : Int), PKm M Bt j x1_27 x3_28 → (-9223372036854775808) ≤ x1_27 ∧ x1_27 ≤ 9223372036854775807 ∧ 0 ≤ x3_28 ∧ x3_28 ≤ 900 ∧ x3_28 ≥ (tp Bt j) ∧ x3_28 ≤ (tq Bt j) ∧ (M 163 13) ≤ x3_28 → (900 - (x3_28)).toNat = n_30 → KJ true G X M 7 [some (vR G 163), some (vL x1_27), none, some (vI x3_28)] [] := by
    intro n_30
    refine Nat.strongRecOn n_30 ?_
    intro n_30 ih_31 x1_27 x3_28 hp_34 h_32 hm_33
    refine kx_iload_n 8 F 3 dX12_nameHere_7 rfl rfl rfl ?_
    refine kx_aload_n 9 F 0 dX12_nameHere_8 rfl rfl rfl ?_
    refine kx_geti 12 F fl_X12_156 kd_163 rfl rfl (j := 14) rfl dX12_nameHere_9 (v := (M 163 14)) rfl rfl ?_
    have h_35 := Inv.g hI_M kd_163 rfl 14 (a := 0) (b := 900) rfl rfl
    refine kx_icmp_ge 15 F 33 dX12_nameHere_12 (by decide) rfl (by omega) (by omega) (fun h_36 => ?_) (fun h_36 => ?_)
    · have hb_37 := PKm.done hp_34 (by omega)
      refine kx_lload_n 34 F 1 dX12_nameHere_33 rfl rfl rfl ?_
      exact kx_lret F hQ ⟨rfl, (by omega)⟩ dX12_nameHere_34
    · have hb_38 := PKm.b (k := x3_28) hp_34 (TM.tx hB hI_M) hm (by omega)
      refine kx_lload_n 16 F 1 dX12_nameHere_15 rfl rfl rfl ?_
      refine kx_bipush 18 F dX12_nameHere_16 (by decide) rfl ?_
      refine kx_lshl8 19 F dX12_nameHere_18 rfl ?_
      refine kx_aload_n 20 F 0 dX12_nameHere_19 rfl rfl rfl ?_
      refine kx_iload_n 21 F 3 dX12_nameHere_20 rfl rfl rfl ?_
      refine kx_Vi 24 (ci := 0) F (As := [vI x3_28]) (st := [vL (256 * x1_27)]) vd_X12_159 (e_X12_byteAt G l M x3_28 hI_M (by omega) Bt hB) kd_163 rfl rfl rfl ⟨by decide, by decide⟩ rfl rfl (Nat.le_of_ble_eq_true rfl) dX12_nameHere_21 rfl ?_
      intro r_39 N_40 q_41
      obtain ⟨rfl, q_41c⟩ := q_41
      rcases q_41c with q_41c | q_41c
      · refine kx_i2l 25 F dX12_nameHere_24 (by omega) rfl ?_
        refine kx_lor 26 F dX12_nameHere_25 rfl (fun w_44 h_45 => ?_)
        refine kx_lstore_n 27 F 1 (lo' := [some (vR G 163), some (vL w_44), none, some (vI x3_28)]) dX12_nameHere_26 rfl (by decide) rfl rfl rfl ?_
        refine kx_iinc 30 F 3 (v := x3_28 + 1) (lo' := [some (vR G 163), some (vL w_44), none, some (vI (x3_28 + 1))]) dX12_nameHere_27 rfl (by omega) (by decide) rfl rfl rfl ?_
        refine kx_goto 7 F dX12_nameHere_30 (by decide) ?_
        exact ih_31 _ (by omega) w_44 (x3_28 + 1) (PKm.step hp_34 (by omega) (by omega)) (by omega) rfl
      · refine kx_i2l 25 F dX12_nameHere_24 (by omega) rfl ?_
        refine kx_lor8 26 F (x := x1_27) (v := 256 * x1_27 + r_39) (by omega) (by omega) (by omega) (by omega) dX12_nameHere_25 rfl ?_
        refine kx_lstore_n 27 F 1 (lo' := [some (vR G 163), some (vL (256 * x1_27 + r_39)), none, some (vI x3_28)]) dX12_nameHere_26 rfl (by decide) rfl rfl rfl ?_
        refine kx_iinc 30 F 3 (v := x3_28 + 1) (lo' := [some (vR G 163), some (vL (256 * x1_27 + r_39)), none, some (vI (x3_28 + 1))]) dX12_nameHere_27 rfl (by omega) (by decide) rfl rfl rfl ?_
        refine kx_goto 7 F dX12_nameHere_30 (by decide) ?_
        exact ih_31 _ (by omega) (256 * x1_27 + r_39) (x3_28 + 1) (PKm.step hp_34 (by omega) (by omega)) (by omega) rfl
  exact L_29 _ 0 (M 163 13) (PKm.nil (by omega)) (by omega) rfl
set_option maxHeartbeats 4000000 in
set_option maxRecDepth 100000 in
theorem e_X12_findHere (G : KG) (l : Launch) (M : Mem) (a1 : Int) (a2 : Int) (hI_M : Inv true M) (hpre : -2147483648 ≤ a1 ∧ a1 ≤ 2147483647 ∧ -2147483648 ≤ a2 ∧ a2 ≤ 2147483647 ∧ 0 ≤ a1 ∧ a1 ≤ 34 ∧ 0 ≤ a2 ∧ a2 ≤ 2) (Bt : Int → Int) (hB : TM M Bt) (j : Int) (hj : 0 ≤ j) (hs : RT M Bt j) (hm : nmt Bt j) (i0 i1 : Int) (h0 : 1 ≤ a2 → nmt Bt i0 ∧ M 165 a1 = tpk Bt i0) (h1 : 2 ≤ a2 → nmt Bt i1 ∧ M 165 (a1 + 1) = tpk Bt i1) : KC true G l yX12_findHere cX12_findHere 4 (some .int) (2, 44) [vR G 163, vI a1, vI a2] M (fun A => kQi true G A (fun (r : Int) (N : Mem) => M = N ∧ ((r = 0 ∧ a2 ≥ 1 ∧ (te Bt i0 j) = 1) ∨ (r = 1 ∧ a2 = 2 ∧ (te Bt i0 j) = 0 ∧ (te Bt i1 j) = 1) ∨ (r = -1 ∧ a2 = 0) ∨ (r = -1 ∧ a2 = 1 ∧ (te Bt i0 j) = 0) ∨ (r = -1 ∧ a2 = 2 ∧ (te Bt i0 j) = 0 ∧ (te Bt i1 j) = 0)))) := by
  refine kx_met (lo := [some (vR G 163), some (vI a1), some (vI a2), none]) (by decide) (Nat.le_of_ble_eq_true rfl) rfl ?_
  intro X F hQ
  refine kx_iconst 1 F dX12_findHere_0 rfl ?_
  refine kx_istore_n 2 F 3 (lo' := [some (vR G 163), some (vI a1), some (vI a2), some (vI 0)]) dX12_findHere_1 rfl (by decide) rfl rfl rfl ?_
  refine kx_iload_n 3 F 3 dX12_findHere_2 rfl rfl rfl ?_
  refine kx_iload_n 4 F 2 dX12_findHere_3 rfl rfl rfl ?_
  refine kx_icmp_ge 7 F 31 dX12_findHere_4 (by decide) rfl (by decide) (by omega) (fun h_1 => ?_) (fun h_1 => ?_)
  · refine kx_iconst 32 F dX12_findHere_31 rfl ?_
    exact kx_iret F hQ ⟨rfl, (Or.inr (Or.inr (Or.inl (by omega))))⟩ dX12_findHere_32
  · refine kx_aload_n 8 F 0 dX12_findHere_7 rfl rfl rfl ?_
    refine kx_getr 11 F fl_X12_13 kd_163 rfl rfl (j := 1) rfl dX12_findHere_8 (v := 165) (uq_165 (Inv.r hI_M kd_163 rfl 1 rfl rfl)) rfl ?_
    refine kx_iload_n 12 F 1 dX12_findHere_11 rfl rfl rfl ?_
    refine kx_iload_n 13 F 3 dX12_findHere_12 rfl rfl rfl ?_
    refine kx_iadd 14 F (v := a1) dX12_findHere_13 (by omega) rfl ?_
    refine kx_lald 15 F kd_165 rfl rfl (by omega) (by decide) dX12_findHere_14 (v := (M 165 a1)) rfl rfl ?_
    have h_2 := Inv.g hI_M kd_165 rfl a1 (a := (-9223372036854775808)) (b := 9223372036854775807) rfl rfl
    have hx_3 := h0 (by omega)
    have hx_32 := hx_3.2
    have hx_33 := tpk_e (TM.tx hB hI_M) hx_3.1 hm
    refine kx_aload_n 16 F 0 dX12_findHere_15 rfl rfl rfl ?_
    refine kx_Vl 19 (ci := 0) F (As := []) (st := [vL (M 165 a1)]) vd_X12_212 (e_X12_nameHere G l M  hI_M Bt hB j (by omega) hs hm) kd_163 rfl rfl rfl ⟨by decide, by decide⟩ rfl rfl (Nat.le_of_ble_eq_true rfl) dX12_findHere_16 rfl ?_
    intro r_4 N_5 q_6
    obtain ⟨rfl, q_6c⟩ := q_6
    refine kx_lcmp 20 F dX12_findHere_19 (by omega) (by omega) rfl (fun w_7 h_8 => ?_)
    refine kx_if_ne 23 F 25 dX12_findHere_20 (by decide) rfl (by omega) (fun h_9 => ?_) (fun h_9 => ?_)
    · have hd_10 : te Bt i0 j = 0 := by omega
      refine kx_iinc 28 F 3 (v := 1) (lo' := [some (vR G 163), some (vI a1), some (vI a2), some (vI 1)]) dX12_findHere_25 rfl (by omega) (by decide) rfl rfl rfl ?_
      refine kx_goto 2 F dX12_findHere_28 (by decide) ?_
      refine kx_iload_n 3 F 3 dX12_findHere_2 rfl rfl rfl ?_
      refine kx_iload_n 4 F 2 dX12_findHere_3 rfl rfl rfl ?_
      refine kx_icmp_ge 7 F 31 dX12_findHere_4 (by decide) rfl (by decide) (by omega) (fun h_11 => ?_) (fun h_11 => ?_)
      · refine kx_iconst 32 F dX12_findHere_31 rfl ?_
        exact kx_iret F hQ ⟨rfl, (Or.inr (Or.inr (Or.inr (Or.inl (by omega)))))⟩ dX12_findHere_32
      · refine kx_aload_n 8 F 0 dX12_findHere_7 rfl rfl rfl ?_
        refine kx_getr 11 F fl_X12_13 kd_163 rfl rfl (j := 1) rfl dX12_findHere_8 (v := 165) (uq_165 (Inv.r hI_M kd_163 rfl 1 rfl rfl)) rfl ?_
        refine kx_iload_n 12 F 1 dX12_findHere_11 rfl rfl rfl ?_
        refine kx_iload_n 13 F 3 dX12_findHere_12 rfl rfl rfl ?_
        refine kx_iadd 14 F (v := a1 + 1) dX12_findHere_13 rfl rfl ?_
        refine kx_lald 15 F kd_165 rfl rfl (by omega) (by decide) dX12_findHere_14 (v := (M 165 (a1 + 1))) rfl rfl ?_
        have h_12 := Inv.g hI_M kd_165 rfl (a1 + 1) (a := (-9223372036854775808)) (b := 9223372036854775807) rfl rfl
        have hx_13 := h1 (by omega)
        have hx_132 := hx_13.2
        have hx_133 := tpk_e (TM.tx hB hI_M) hx_13.1 hm
        refine kx_aload_n 16 F 0 dX12_findHere_15 rfl rfl rfl ?_
        refine kx_Vl 19 (ci := 0) F (As := []) (st := [vL (M 165 (a1 + 1))]) vd_X12_212 (e_X12_nameHere G l M  hI_M Bt hB j (by omega) hs hm) kd_163 rfl rfl rfl ⟨by decide, by decide⟩ rfl rfl (Nat.le_of_ble_eq_true rfl) dX12_findHere_16 rfl ?_
        intro r_14 N_15 q_16
        obtain ⟨rfl, q_16c⟩ := q_16
        refine kx_lcmp 20 F dX12_findHere_19 (by omega) (by omega) rfl (fun w_17 h_18 => ?_)
        refine kx_if_ne 23 F 25 dX12_findHere_20 (by decide) rfl (by omega) (fun h_19 => ?_) (fun h_19 => ?_)
        · have hd_20 : te Bt i1 j = 0 := by omega
          refine kx_iinc 28 F 3 (v := 2) (lo' := [some (vR G 163), some (vI a1), some (vI a2), some (vI 2)]) dX12_findHere_25 rfl (by omega) (by decide) rfl rfl rfl ?_
          refine kx_goto 2 F dX12_findHere_28 (by decide) ?_
          refine kx_iload_n 3 F 3 dX12_findHere_2 rfl rfl rfl ?_
          refine kx_iload_n 4 F 2 dX12_findHere_3 rfl rfl rfl ?_
          refine kx_icmp_ge 7 F 31 dX12_findHere_4 (by decide) rfl (by decide) (by omega) (fun h_21 => ?_) (fun h_21 => (by exfalso; omega))
          refine kx_iconst 32 F dX12_findHere_31 rfl ?_
          exact kx_iret F hQ ⟨rfl, (Or.inr (Or.inr (Or.inr (Or.inr (by omega)))))⟩ dX12_findHere_32
        · have hd_22 : te Bt i1 j = 1 := by omega
          refine kx_iload_n 24 F 3 dX12_findHere_23 rfl rfl rfl ?_
          exact kx_iret F hQ ⟨rfl, (Or.inr (Or.inl (by omega)))⟩ dX12_findHere_24
    · have hd_23 : te Bt i0 j = 1 := by omega
      refine kx_iload_n 24 F 3 dX12_findHere_23 rfl rfl rfl ?_
      exact kx_iret F hQ ⟨rfl, (Or.inl (by omega))⟩ dX12_findHere_24
set_option maxHeartbeats 4000000 in
set_option maxRecDepth 100000 in
theorem e_X12_letterHere (G : KG) (l : Launch) (M : Mem) (hI_M : Inv true M) (Bt : Int → Int) (hB : TM M Bt) (j : Int) (hj : 0 ≤ j) (hs : RT M Bt j) (hm : nmt Bt j) (t q : Int → Int) (hN : NR M Bt t q) (hq : M 164 1088 = q 0 ∧ M 164 1089 = q 1 ∧ M 164 1090 = q 2 ∧ M 164 1091 = q 3 ∧ 0 ≤ q 0 ∧ q 0 ≤ 2 ∧ 0 ≤ q 1 ∧ q 1 ≤ 2 ∧ 0 ≤ q 2 ∧ q 2 ≤ 2 ∧ 0 ≤ q 3 ∧ q 3 ≤ 2) : KC true G l yX12_letterHere cX12_letterHere 5 (some .int) (3, 67) [vR G 163] M (fun A => kQi true G A (fun (r : Int) (N : Mem) => M = N ∧ (r = (lfn Bt t (q 0) (q 1) (q 2) j)))) := by
  refine kx_met (lo := [some (vR G 163), none, none, none, none]) (by decide) (Nat.le_of_ble_eq_true rfl) rfl ?_
  intro X F hQ
  refine kx_iconst 1 F dX12_letterHere_0 rfl ?_
  refine kx_istore_n 2 F 1 (lo' := [some (vR G 163), some (vI 0), none, none, none]) dX12_letterHere_1 rfl (by decide) rfl rfl rfl ?_
  refine kx_iconst 3 F dX12_letterHere_2 rfl ?_
  refine kx_istore_n 4 F 2 (lo' := [some (vR G 163), some (vI 0), some (vI 0), none, none]) dX12_letterHere_3 rfl (by decide) rfl rfl rfl ?_
  refine kx_iload_n 5 F 2 dX12_letterHere_4 rfl rfl rfl ?_
  refine kx_iconst 6 F dX12_letterHere_5 rfl ?_
  refine kx_icmp_ge 9 F 54 dX12_letterHere_6 (by decide) rfl (by decide) (by decide) (fun h_1 => (by exfalso; omega)) (fun h_1 => ?_)
  refine kx_aload_n 10 F 0 dX12_letterHere_9 rfl rfl rfl ?_
  refine kx_getr 13 F fl_X12_7 kd_163 rfl rfl (j := 0) rfl dX12_letterHere_10 (v := 164) (uq_164 (Inv.r hI_M kd_163 rfl 0 rfl rfl)) rfl ?_
  refine kx_sipush 16 F dX12_letterHere_13 (by decide) rfl ?_
  refine kx_iload_n 17 F 2 dX12_letterHere_16 rfl rfl rfl ?_
  refine kx_iadd 18 F (v := 1088) dX12_letterHere_17 (by omega) rfl ?_
  refine kx_iald 19 F kd_164 rfl rfl (by omega) (by decide) dX12_letterHere_18 (v := (M 164 1088)) rfl rfl ?_
  have ha_2 : atlo 1088 = 0 ∧ athi 1088 = 2 := at_c 1088 4 (o := 0) (lo := 0) (hi := 2) (by omega) (by decide) (by decide) (by decide)
  have h_3 := Inv.g hI_M kd_164 rfl 1088 (a := 0) (b := 2) ha_2.1 ha_2.2
  refine kx_istore_n 20 F 3 (lo' := [some (vR G 163), some (vI 0), some (vI 0), some (vI (M 164 1088)), none]) dX12_letterHere_19 rfl (by decide) rfl rfl rfl ?_
  refine kx_aload_n 21 F 0 dX12_letterHere_20 rfl rfl rfl ?_
  refine kx_bipush 23 F dX12_letterHere_21 (by decide) rfl ?_
  refine kx_iconst 24 F dX12_letterHere_23 rfl ?_
  refine kx_iload_n 25 F 2 dX12_letterHere_24 rfl rfl rfl ?_
  refine kx_imul 26 F (v := 0) dX12_letterHere_25 (by omega) rfl ?_
  refine kx_iadd 27 F (v := 24) dX12_letterHere_26 (by omega) rfl ?_
  refine kx_iload_n 28 F 3 dX12_letterHere_27 rfl rfl rfl ?_
  refine kx_Vi 31 (ci := 0) F (As := [vI 24, vI (M 164 1088)]) (st := []) vd_X12_221 (e_X12_findHere G l M 24 (M 164 1088) hI_M (by omega) Bt hB j (by omega) hs hm (t 0) (t 1) (fun h => NR.g hN (s := 0) ⟨by omega, by omega⟩ (k := 0) (by omega) (by omega)) (fun h => NR.g hN (s := 1) ⟨by omega, by omega⟩ (k := 0) (by omega) (by omega))) kd_163 rfl rfl rfl ⟨by decide, by decide⟩ rfl rfl (Nat.le_of_ble_eq_true rfl) dX12_letterHere_28 rfl ?_
  intro r_4 N_5 q_6
  obtain ⟨rfl, q_6c⟩ := q_6
  rcases q_6c with q_6c | q_6c | q_6c | q_6c | q_6c
  · refine kx_istore 33 F 4 (lo' := [some (vR G 163), some (vI 0), some (vI 0), some (vI (M 164 1088)), some (vI r_4)]) dX12_letterHere_31 (by decide) rfl rfl rfl ?_
    refine kx_iload 35 F 4 dX12_letterHere_33 rfl rfl ?_
    refine kx_iconst 36 F dX12_letterHere_35 rfl ?_
    refine kx_icmp_eq 39 F 44 dX12_letterHere_36 (by decide) rfl (by omega) (by decide) (fun h_7 => (by exfalso; omega)) (fun h_7 => ?_)
    refine kx_iload_n 40 F 1 dX12_letterHere_39 rfl rfl rfl ?_
    refine kx_iload 42 F 4 dX12_letterHere_40 rfl rfl ?_
    refine kx_iadd 43 F (v := r_4) dX12_letterHere_42 (by omega) rfl ?_
    have hl_8 := lfn_c Bt t (q 0) (q 1) (q 2) j (by omega) (by omega) (by omega)
    exact kx_iret F hQ ⟨rfl, (by omega)⟩ dX12_letterHere_43
  · refine kx_istore 33 F 4 (lo' := [some (vR G 163), some (vI 0), some (vI 0), some (vI (M 164 1088)), some (vI r_4)]) dX12_letterHere_31 (by decide) rfl rfl rfl ?_
    refine kx_iload 35 F 4 dX12_letterHere_33 rfl rfl ?_
    refine kx_iconst 36 F dX12_letterHere_35 rfl ?_
    refine kx_icmp_eq 39 F 44 dX12_letterHere_36 (by decide) rfl (by omega) (by decide) (fun h_9 => (by exfalso; omega)) (fun h_9 => ?_)
    refine kx_iload_n 40 F 1 dX12_letterHere_39 rfl rfl rfl ?_
    refine kx_iload 42 F 4 dX12_letterHere_40 rfl rfl ?_
    refine kx_iadd 43 F (v := r_4) dX12_letterHere_42 (by omega) rfl ?_
    have hl_10 := lfn_c Bt t (q 0) (q 1) (q 2) j (by omega) (by omega) (by omega)
    exact kx_iret F hQ ⟨rfl, (by omega)⟩ dX12_letterHere_43
  · refine kx_istore 33 F 4 (lo' := [some (vR G 163), some (vI 0), some (vI 0), some (vI (M 164 1088)), some (vI r_4)]) dX12_letterHere_31 (by decide) rfl rfl rfl ?_
    refine kx_iload 35 F 4 dX12_letterHere_33 rfl rfl ?_
    refine kx_iconst 36 F dX12_letterHere_35 rfl ?_
    refine kx_icmp_eq 39 F 44 dX12_letterHere_36 (by decide) rfl (by omega) (by decide) (fun h_11 => ?_) (fun h_11 => (by exfalso; omega))
    refine kx_iload_n 45 F 1 dX12_letterHere_44 rfl rfl rfl ?_
    refine kx_iload_n 46 F 3 dX12_letterHere_45 rfl rfl rfl ?_
    refine kx_iadd 47 F (v := (M 164 1088)) dX12_letterHere_46 (by omega) rfl ?_
    refine kx_istore_n 48 F 1 (lo' := [some (vR G 163), some (vI (M 164 1088)), some (vI 0), some (vI (M 164 1088)), some (vI r_4)]) dX12_letterHere_47 rfl (by decide) rfl rfl rfl ?_
    refine kx_iinc 51 F 2 (v := 1) (lo' := [some (vR G 163), some (vI (M 164 1088)), some (vI 1), some (vI (M 164 1088)), some (vI r_4)]) dX12_letterHere_48 rfl (by omega) (by decide) rfl rfl rfl ?_
    refine kx_goto 4 F dX12_letterHere_51 (by decide) ?_
    refine kx_iload_n 5 F 2 dX12_letterHere_4 rfl rfl rfl ?_
    refine kx_iconst 6 F dX12_letterHere_5 rfl ?_
    refine kx_icmp_ge 9 F 54 dX12_letterHere_6 (by decide) rfl (by decide) (by decide) (fun h_12 => (by exfalso; omega)) (fun h_12 => ?_)
    refine kx_aload_n 10 F 0 dX12_letterHere_9 rfl rfl rfl ?_
    refine kx_getr 13 F fl_X12_7 kd_163 rfl rfl (j := 0) rfl dX12_letterHere_10 (v := 164) (uq_164 (Inv.r hI_M kd_163 rfl 0 rfl rfl)) rfl ?_
    refine kx_sipush 16 F dX12_letterHere_13 (by decide) rfl ?_
    refine kx_iload_n 17 F 2 dX12_letterHere_16 rfl rfl rfl ?_
    refine kx_iadd 18 F (v := 1089) dX12_letterHere_17 (by omega) rfl ?_
    refine kx_iald 19 F kd_164 rfl rfl (by omega) (by decide) dX12_letterHere_18 (v := (M 164 1089)) rfl rfl ?_
    have ha_13 : atlo 1089 = 0 ∧ athi 1089 = 2 := at_c 1089 4 (o := 1) (lo := 0) (hi := 2) (by omega) (by decide) (by decide) (by decide)
    have h_14 := Inv.g hI_M kd_164 rfl 1089 (a := 0) (b := 2) ha_13.1 ha_13.2
    refine kx_istore_n 20 F 3 (lo' := [some (vR G 163), some (vI (M 164 1088)), some (vI 1), some (vI (M 164 1089)), some (vI r_4)]) dX12_letterHere_19 rfl (by decide) rfl rfl rfl ?_
    refine kx_aload_n 21 F 0 dX12_letterHere_20 rfl rfl rfl ?_
    refine kx_bipush 23 F dX12_letterHere_21 (by decide) rfl ?_
    refine kx_iconst 24 F dX12_letterHere_23 rfl ?_
    refine kx_iload_n 25 F 2 dX12_letterHere_24 rfl rfl rfl ?_
    refine kx_imul 26 F (v := 2) dX12_letterHere_25 (by omega) rfl ?_
    refine kx_iadd 27 F (v := 26) dX12_letterHere_26 (by omega) rfl ?_
    refine kx_iload_n 28 F 3 dX12_letterHere_27 rfl rfl rfl ?_
    refine kx_Vi 31 (ci := 0) F (As := [vI 26, vI (M 164 1089)]) (st := []) vd_X12_221 (e_X12_findHere G l M 26 (M 164 1089) hI_M (by omega) Bt hB j (by omega) hs hm (t 2) (t 3) (fun h => NR.g hN (s := 2) ⟨by omega, by omega⟩ (k := 1) (by omega) (by omega)) (fun h => NR.g hN (s := 3) ⟨by omega, by omega⟩ (k := 1) (by omega) (by omega))) kd_163 rfl rfl rfl ⟨by decide, by decide⟩ rfl rfl (Nat.le_of_ble_eq_true rfl) dX12_letterHere_28 rfl ?_
    intro r_15 N_16 q_17
    obtain ⟨rfl, q_17c⟩ := q_17
    rcases q_17c with q_17c | q_17c | q_17c | q_17c | q_17c
    · refine kx_istore 33 F 4 (lo' := [some (vR G 163), some (vI (M 164 1088)), some (vI 1), some (vI (M 164 1089)), some (vI r_15)]) dX12_letterHere_31 (by decide) rfl rfl rfl ?_
      refine kx_iload 35 F 4 dX12_letterHere_33 rfl rfl ?_
      refine kx_iconst 36 F dX12_letterHere_35 rfl ?_
      refine kx_icmp_eq 39 F 44 dX12_letterHere_36 (by decide) rfl (by omega) (by decide) (fun h_18 => (by exfalso; omega)) (fun h_18 => ?_)
      refine kx_iload_n 40 F 1 dX12_letterHere_39 rfl rfl rfl ?_
      refine kx_iload 42 F 4 dX12_letterHere_40 rfl rfl ?_
      refine kx_iadd 43 F (v := (M 164 1088) + r_15) dX12_letterHere_42 rfl rfl ?_
      have hl_19 := lfn_c Bt t (q 0) (q 1) (q 2) j (by omega) (by omega) (by omega)
      exact kx_iret F hQ ⟨rfl, (by omega)⟩ dX12_letterHere_43
    · refine kx_istore 33 F 4 (lo' := [some (vR G 163), some (vI (M 164 1088)), some (vI 1), some (vI (M 164 1089)), some (vI r_15)]) dX12_letterHere_31 (by decide) rfl rfl rfl ?_
      refine kx_iload 35 F 4 dX12_letterHere_33 rfl rfl ?_
      refine kx_iconst 36 F dX12_letterHere_35 rfl ?_
      refine kx_icmp_eq 39 F 44 dX12_letterHere_36 (by decide) rfl (by omega) (by decide) (fun h_20 => (by exfalso; omega)) (fun h_20 => ?_)
      refine kx_iload_n 40 F 1 dX12_letterHere_39 rfl rfl rfl ?_
      refine kx_iload 42 F 4 dX12_letterHere_40 rfl rfl ?_
      refine kx_iadd 43 F (v := (M 164 1088) + r_15) dX12_letterHere_42 rfl rfl ?_
      have hl_21 := lfn_c Bt t (q 0) (q 1) (q 2) j (by omega) (by omega) (by omega)
      exact kx_iret F hQ ⟨rfl, (by omega)⟩ dX12_letterHere_43
    · refine kx_istore 33 F 4 (lo' := [some (vR G 163), some (vI (M 164 1088)), some (vI 1), some (vI (M 164 1089)), some (vI r_15)]) dX12_letterHere_31 (by decide) rfl rfl rfl ?_
      refine kx_iload 35 F 4 dX12_letterHere_33 rfl rfl ?_
      refine kx_iconst 36 F dX12_letterHere_35 rfl ?_
      refine kx_icmp_eq 39 F 44 dX12_letterHere_36 (by decide) rfl (by omega) (by decide) (fun h_22 => ?_) (fun h_22 => (by exfalso; omega))
      refine kx_iload_n 45 F 1 dX12_letterHere_44 rfl rfl rfl ?_
      refine kx_iload_n 46 F 3 dX12_letterHere_45 rfl rfl rfl ?_
      refine kx_iadd 47 F (v := (M 164 1088) + (M 164 1089)) dX12_letterHere_46 rfl rfl ?_
      refine kx_istore_n 48 F 1 (lo' := [some (vR G 163), some (vI ((M 164 1088) + (M 164 1089))), some (vI 1), some (vI (M 164 1089)), some (vI r_15)]) dX12_letterHere_47 rfl (by decide) rfl rfl rfl ?_
      refine kx_iinc 51 F 2 (v := 2) (lo' := [some (vR G 163), some (vI ((M 164 1088) + (M 164 1089))), some (vI 2), some (vI (M 164 1089)), some (vI r_15)]) dX12_letterHere_48 rfl (by omega) (by decide) rfl rfl rfl ?_
      refine kx_goto 4 F dX12_letterHere_51 (by decide) ?_
      refine kx_iload_n 5 F 2 dX12_letterHere_4 rfl rfl rfl ?_
      refine kx_iconst 6 F dX12_letterHere_5 rfl ?_
      refine kx_icmp_ge 9 F 54 dX12_letterHere_6 (by decide) rfl (by decide) (by decide) (fun h_23 => (by exfalso; omega)) (fun h_23 => ?_)
      refine kx_aload_n 10 F 0 dX12_letterHere_9 rfl rfl rfl ?_
      refine kx_getr 13 F fl_X12_7 kd_163 rfl rfl (j := 0) rfl dX12_letterHere_10 (v := 164) (uq_164 (Inv.r hI_M kd_163 rfl 0 rfl rfl)) rfl ?_
      refine kx_sipush 16 F dX12_letterHere_13 (by decide) rfl ?_
      refine kx_iload_n 17 F 2 dX12_letterHere_16 rfl rfl rfl ?_
      refine kx_iadd 18 F (v := 1090) dX12_letterHere_17 (by omega) rfl ?_
      refine kx_iald 19 F kd_164 rfl rfl (by omega) (by decide) dX12_letterHere_18 (v := (M 164 1090)) rfl rfl ?_
      have ha_24 : atlo 1090 = 0 ∧ athi 1090 = 2 := at_c 1090 4 (o := 2) (lo := 0) (hi := 2) (by omega) (by decide) (by decide) (by decide)
      have h_25 := Inv.g hI_M kd_164 rfl 1090 (a := 0) (b := 2) ha_24.1 ha_24.2
      refine kx_istore_n 20 F 3 (lo' := [some (vR G 163), some (vI ((M 164 1088) + (M 164 1089))), some (vI 2), some (vI (M 164 1090)), some (vI r_15)]) dX12_letterHere_19 rfl (by decide) rfl rfl rfl ?_
      refine kx_aload_n 21 F 0 dX12_letterHere_20 rfl rfl rfl ?_
      refine kx_bipush 23 F dX12_letterHere_21 (by decide) rfl ?_
      refine kx_iconst 24 F dX12_letterHere_23 rfl ?_
      refine kx_iload_n 25 F 2 dX12_letterHere_24 rfl rfl rfl ?_
      refine kx_imul 26 F (v := 4) dX12_letterHere_25 (by omega) rfl ?_
      refine kx_iadd 27 F (v := 28) dX12_letterHere_26 (by omega) rfl ?_
      refine kx_iload_n 28 F 3 dX12_letterHere_27 rfl rfl rfl ?_
      refine kx_Vi 31 (ci := 0) F (As := [vI 28, vI (M 164 1090)]) (st := []) vd_X12_221 (e_X12_findHere G l M 28 (M 164 1090) hI_M (by omega) Bt hB j (by omega) hs hm (t 4) (t 5) (fun h => NR.g hN (s := 4) ⟨by omega, by omega⟩ (k := 2) (by omega) (by omega)) (fun h => NR.g hN (s := 5) ⟨by omega, by omega⟩ (k := 2) (by omega) (by omega))) kd_163 rfl rfl rfl ⟨by decide, by decide⟩ rfl rfl (Nat.le_of_ble_eq_true rfl) dX12_letterHere_28 rfl ?_
      intro r_26 N_27 q_28
      obtain ⟨rfl, q_28c⟩ := q_28
      rcases q_28c with q_28c | q_28c | q_28c | q_28c | q_28c
      · refine kx_istore 33 F 4 (lo' := [some (vR G 163), some (vI ((M 164 1088) + (M 164 1089))), some (vI 2), some (vI (M 164 1090)), some (vI r_26)]) dX12_letterHere_31 (by decide) rfl rfl rfl ?_
        refine kx_iload 35 F 4 dX12_letterHere_33 rfl rfl ?_
        refine kx_iconst 36 F dX12_letterHere_35 rfl ?_
        refine kx_icmp_eq 39 F 44 dX12_letterHere_36 (by decide) rfl (by omega) (by decide) (fun h_29 => (by exfalso; omega)) (fun h_29 => ?_)
        refine kx_iload_n 40 F 1 dX12_letterHere_39 rfl rfl rfl ?_
        refine kx_iload 42 F 4 dX12_letterHere_40 rfl rfl ?_
        refine kx_iadd 43 F (v := (M 164 1088) + (M 164 1089) + r_26) dX12_letterHere_42 rfl rfl ?_
        have hl_30 := lfn_c Bt t (q 0) (q 1) (q 2) j (by omega) (by omega) (by omega)
        exact kx_iret F hQ ⟨rfl, (by omega)⟩ dX12_letterHere_43
      · refine kx_istore 33 F 4 (lo' := [some (vR G 163), some (vI ((M 164 1088) + (M 164 1089))), some (vI 2), some (vI (M 164 1090)), some (vI r_26)]) dX12_letterHere_31 (by decide) rfl rfl rfl ?_
        refine kx_iload 35 F 4 dX12_letterHere_33 rfl rfl ?_
        refine kx_iconst 36 F dX12_letterHere_35 rfl ?_
        refine kx_icmp_eq 39 F 44 dX12_letterHere_36 (by decide) rfl (by omega) (by decide) (fun h_31 => (by exfalso; omega)) (fun h_31 => ?_)
        refine kx_iload_n 40 F 1 dX12_letterHere_39 rfl rfl rfl ?_
        refine kx_iload 42 F 4 dX12_letterHere_40 rfl rfl ?_
        refine kx_iadd 43 F (v := (M 164 1088) + (M 164 1089) + r_26) dX12_letterHere_42 rfl rfl ?_
        have hl_32 := lfn_c Bt t (q 0) (q 1) (q 2) j (by omega) (by omega) (by omega)
        exact kx_iret F hQ ⟨rfl, (by omega)⟩ dX12_letterHere_43
      · refine kx_istore 33 F 4 (lo' := [some (vR G 163), some (vI ((M 164 1088) + (M 164 1089))), some (vI 2), some (vI (M 164 1090)), some (vI r_26)]) dX12_letterHere_31 (by decide) rfl rfl rfl ?_
        refine kx_iload 35 F 4 dX12_letterHere_33 rfl rfl ?_
        refine kx_iconst 36 F dX12_letterHere_35 rfl ?_
        refine kx_icmp_eq 39 F 44 dX12_letterHere_36 (by decide) rfl (by omega) (by decide) (fun h_33 => ?_) (fun h_33 => (by exfalso; omega))
        refine kx_iload_n 45 F 1 dX12_letterHere_44 rfl rfl rfl ?_
        refine kx_iload_n 46 F 3 dX12_letterHere_45 rfl rfl rfl ?_
        refine kx_iadd 47 F (v := (M 164 1088) + (M 164 1089) + (M 164 1090)) dX12_letterHere_46 rfl rfl ?_
        refine kx_istore_n 48 F 1 (lo' := [some (vR G 163), some (vI ((M 164 1088) + (M 164 1089) + (M 164 1090))), some (vI 2), some (vI (M 164 1090)), some (vI r_26)]) dX12_letterHere_47 rfl (by decide) rfl rfl rfl ?_
        refine kx_iinc 51 F 2 (v := 3) (lo' := [some (vR G 163), some (vI ((M 164 1088) + (M 164 1089) + (M 164 1090))), some (vI 3), some (vI (M 164 1090)), some (vI r_26)]) dX12_letterHere_48 rfl (by omega) (by decide) rfl rfl rfl ?_
        refine kx_goto 4 F dX12_letterHere_51 (by decide) ?_
        refine kx_iload_n 5 F 2 dX12_letterHere_4 rfl rfl rfl ?_
        refine kx_iconst 6 F dX12_letterHere_5 rfl ?_
        refine kx_icmp_ge 9 F 54 dX12_letterHere_6 (by decide) rfl (by decide) (by decide) (fun h_34 => ?_) (fun h_34 => (by exfalso; omega))
        refine kx_iconst 55 F dX12_letterHere_54 rfl ?_
        have hl_35 := lfn_c Bt t (q 0) (q 1) (q 2) j (by omega) (by omega) (by omega)
        exact kx_iret F hQ ⟨rfl, (by omega)⟩ dX12_letterHere_55
      · refine kx_istore 33 F 4 (lo' := [some (vR G 163), some (vI ((M 164 1088) + (M 164 1089))), some (vI 2), some (vI (M 164 1090)), some (vI r_26)]) dX12_letterHere_31 (by decide) rfl rfl rfl ?_
        refine kx_iload 35 F 4 dX12_letterHere_33 rfl rfl ?_
        refine kx_iconst 36 F dX12_letterHere_35 rfl ?_
        refine kx_icmp_eq 39 F 44 dX12_letterHere_36 (by decide) rfl (by omega) (by decide) (fun h_36 => ?_) (fun h_36 => (by exfalso; omega))
        refine kx_iload_n 45 F 1 dX12_letterHere_44 rfl rfl rfl ?_
        refine kx_iload_n 46 F 3 dX12_letterHere_45 rfl rfl rfl ?_
        refine kx_iadd 47 F (v := (M 164 1088) + (M 164 1089) + (M 164 1090)) dX12_letterHere_46 rfl rfl ?_
        refine kx_istore_n 48 F 1 (lo' := [some (vR G 163), some (vI ((M 164 1088) + (M 164 1089) + (M 164 1090))), some (vI 2), some (vI (M 164 1090)), some (vI r_26)]) dX12_letterHere_47 rfl (by decide) rfl rfl rfl ?_
        refine kx_iinc 51 F 2 (v := 3) (lo' := [some (vR G 163), some (vI ((M 164 1088) + (M 164 1089) + (M 164 1090))), some (vI 3), some (vI (M 164 1090)), some (vI r_26)]) dX12_letterHere_48 rfl (by omega) (by decide) rfl rfl rfl ?_
        refine kx_goto 4 F dX12_letterHere_51 (by decide) ?_
        refine kx_iload_n 5 F 2 dX12_letterHere_4 rfl rfl rfl ?_
        refine kx_iconst 6 F dX12_letterHere_5 rfl ?_
        refine kx_icmp_ge 9 F 54 dX12_letterHere_6 (by decide) rfl (by decide) (by decide) (fun h_37 => ?_) (fun h_37 => (by exfalso; omega))
        refine kx_iconst 55 F dX12_letterHere_54 rfl ?_
        have hl_38 := lfn_c Bt t (q 0) (q 1) (q 2) j (by omega) (by omega) (by omega)
        exact kx_iret F hQ ⟨rfl, (by omega)⟩ dX12_letterHere_55
      · refine kx_istore 33 F 4 (lo' := [some (vR G 163), some (vI ((M 164 1088) + (M 164 1089))), some (vI 2), some (vI (M 164 1090)), some (vI r_26)]) dX12_letterHere_31 (by decide) rfl rfl rfl ?_
        refine kx_iload 35 F 4 dX12_letterHere_33 rfl rfl ?_
        refine kx_iconst 36 F dX12_letterHere_35 rfl ?_
        refine kx_icmp_eq 39 F 44 dX12_letterHere_36 (by decide) rfl (by omega) (by decide) (fun h_39 => ?_) (fun h_39 => (by exfalso; omega))
        refine kx_iload_n 45 F 1 dX12_letterHere_44 rfl rfl rfl ?_
        refine kx_iload_n 46 F 3 dX12_letterHere_45 rfl rfl rfl ?_
        refine kx_iadd 47 F (v := (M 164 1088) + (M 164 1089) + (M 164 1090)) dX12_letterHere_46 rfl rfl ?_
        refine kx_istore_n 48 F 1 (lo' := [some (vR G 163), some (vI ((M 164 1088) + (M 164 1089) + (M 164 1090))), some (vI 2), some (vI (M 164 1090)), some (vI r_26)]) dX12_letterHere_47 rfl (by decide) rfl rfl rfl ?_
        refine kx_iinc 51 F 2 (v := 3) (lo' := [some (vR G 163), some (vI ((M 164 1088) + (M 164 1089) + (M 164 1090))), some (vI 3), some (vI (M 164 1090)), some (vI r_26)]) dX12_letterHere_48 rfl (by omega) (by decide) rfl rfl rfl ?_
        refine kx_goto 4 F dX12_letterHere_51 (by decide) ?_
        refine kx_iload_n 5 F 2 dX12_letterHere_4 rfl rfl rfl ?_
        refine kx_iconst 6 F dX12_letterHere_5 rfl ?_
        refine kx_icmp_ge 9 F 54 dX12_letterHere_6 (by decide) rfl (by decide) (by decide) (fun h_40 => ?_) (fun h_40 => (by exfalso; omega))
        refine kx_iconst 55 F dX12_letterHere_54 rfl ?_
        have hl_41 := lfn_c Bt t (q 0) (q 1) (q 2) j (by omega) (by omega) (by omega)
        exact kx_iret F hQ ⟨rfl, (by omega)⟩ dX12_letterHere_55
    · refine kx_istore 33 F 4 (lo' := [some (vR G 163), some (vI (M 164 1088)), some (vI 1), some (vI (M 164 1089)), some (vI r_15)]) dX12_letterHere_31 (by decide) rfl rfl rfl ?_
      refine kx_iload 35 F 4 dX12_letterHere_33 rfl rfl ?_
      refine kx_iconst 36 F dX12_letterHere_35 rfl ?_
      refine kx_icmp_eq 39 F 44 dX12_letterHere_36 (by decide) rfl (by omega) (by decide) (fun h_42 => ?_) (fun h_42 => (by exfalso; omega))
      refine kx_iload_n 45 F 1 dX12_letterHere_44 rfl rfl rfl ?_
      refine kx_iload_n 46 F 3 dX12_letterHere_45 rfl rfl rfl ?_
      refine kx_iadd 47 F (v := (M 164 1088) + (M 164 1089)) dX12_letterHere_46 rfl rfl ?_
      refine kx_istore_n 48 F 1 (lo' := [some (vR G 163), some (vI ((M 164 1088) + (M 164 1089))), some (vI 1), some (vI (M 164 1089)), some (vI r_15)]) dX12_letterHere_47 rfl (by decide) rfl rfl rfl ?_
      refine kx_iinc 51 F 2 (v := 2) (lo' := [some (vR G 163), some (vI ((M 164 1088) + (M 164 1089))), some (vI 2), some (vI (M 164 1089)), some (vI r_15)]) dX12_letterHere_48 rfl (by omega) (by decide) rfl rfl rfl ?_
      refine kx_goto 4 F dX12_letterHere_51 (by decide) ?_
      refine kx_iload_n 5 F 2 dX12_letterHere_4 rfl rfl rfl ?_
      refine kx_iconst 6 F dX12_letterHere_5 rfl ?_
      refine kx_icmp_ge 9 F 54 dX12_letterHere_6 (by decide) rfl (by decide) (by decide) (fun h_43 => (by exfalso; omega)) (fun h_43 => ?_)
      refine kx_aload_n 10 F 0 dX12_letterHere_9 rfl rfl rfl ?_
      refine kx_getr 13 F fl_X12_7 kd_163 rfl rfl (j := 0) rfl dX12_letterHere_10 (v := 164) (uq_164 (Inv.r hI_M kd_163 rfl 0 rfl rfl)) rfl ?_
      refine kx_sipush 16 F dX12_letterHere_13 (by decide) rfl ?_
      refine kx_iload_n 17 F 2 dX12_letterHere_16 rfl rfl rfl ?_
      refine kx_iadd 18 F (v := 1090) dX12_letterHere_17 (by omega) rfl ?_
      refine kx_iald 19 F kd_164 rfl rfl (by omega) (by decide) dX12_letterHere_18 (v := (M 164 1090)) rfl rfl ?_
      have ha_44 : atlo 1090 = 0 ∧ athi 1090 = 2 := at_c 1090 4 (o := 2) (lo := 0) (hi := 2) (by omega) (by decide) (by decide) (by decide)
      have h_45 := Inv.g hI_M kd_164 rfl 1090 (a := 0) (b := 2) ha_44.1 ha_44.2
      refine kx_istore_n 20 F 3 (lo' := [some (vR G 163), some (vI ((M 164 1088) + (M 164 1089))), some (vI 2), some (vI (M 164 1090)), some (vI r_15)]) dX12_letterHere_19 rfl (by decide) rfl rfl rfl ?_
      refine kx_aload_n 21 F 0 dX12_letterHere_20 rfl rfl rfl ?_
      refine kx_bipush 23 F dX12_letterHere_21 (by decide) rfl ?_
      refine kx_iconst 24 F dX12_letterHere_23 rfl ?_
      refine kx_iload_n 25 F 2 dX12_letterHere_24 rfl rfl rfl ?_
      refine kx_imul 26 F (v := 4) dX12_letterHere_25 (by omega) rfl ?_
      refine kx_iadd 27 F (v := 28) dX12_letterHere_26 (by omega) rfl ?_
      refine kx_iload_n 28 F 3 dX12_letterHere_27 rfl rfl rfl ?_
      refine kx_Vi 31 (ci := 0) F (As := [vI 28, vI (M 164 1090)]) (st := []) vd_X12_221 (e_X12_findHere G l M 28 (M 164 1090) hI_M (by omega) Bt hB j (by omega) hs hm (t 4) (t 5) (fun h => NR.g hN (s := 4) ⟨by omega, by omega⟩ (k := 2) (by omega) (by omega)) (fun h => NR.g hN (s := 5) ⟨by omega, by omega⟩ (k := 2) (by omega) (by omega))) kd_163 rfl rfl rfl ⟨by decide, by decide⟩ rfl rfl (Nat.le_of_ble_eq_true rfl) dX12_letterHere_28 rfl ?_
      intro r_46 N_47 q_48
      obtain ⟨rfl, q_48c⟩ := q_48
      rcases q_48c with q_48c | q_48c | q_48c | q_48c | q_48c
      · refine kx_istore 33 F 4 (lo' := [some (vR G 163), some (vI ((M 164 1088) + (M 164 1089))), some (vI 2), some (vI (M 164 1090)), some (vI r_46)]) dX12_letterHere_31 (by decide) rfl rfl rfl ?_
        refine kx_iload 35 F 4 dX12_letterHere_33 rfl rfl ?_
        refine kx_iconst 36 F dX12_letterHere_35 rfl ?_
        refine kx_icmp_eq 39 F 44 dX12_letterHere_36 (by decide) rfl (by omega) (by decide) (fun h_49 => (by exfalso; omega)) (fun h_49 => ?_)
        refine kx_iload_n 40 F 1 dX12_letterHere_39 rfl rfl rfl ?_
        refine kx_iload 42 F 4 dX12_letterHere_40 rfl rfl ?_
        refine kx_iadd 43 F (v := (M 164 1088) + (M 164 1089) + r_46) dX12_letterHere_42 rfl rfl ?_
        have hl_50 := lfn_c Bt t (q 0) (q 1) (q 2) j (by omega) (by omega) (by omega)
        exact kx_iret F hQ ⟨rfl, (by omega)⟩ dX12_letterHere_43
      · refine kx_istore 33 F 4 (lo' := [some (vR G 163), some (vI ((M 164 1088) + (M 164 1089))), some (vI 2), some (vI (M 164 1090)), some (vI r_46)]) dX12_letterHere_31 (by decide) rfl rfl rfl ?_
        refine kx_iload 35 F 4 dX12_letterHere_33 rfl rfl ?_
        refine kx_iconst 36 F dX12_letterHere_35 rfl ?_
        refine kx_icmp_eq 39 F 44 dX12_letterHere_36 (by decide) rfl (by omega) (by decide) (fun h_51 => (by exfalso; omega)) (fun h_51 => ?_)
        refine kx_iload_n 40 F 1 dX12_letterHere_39 rfl rfl rfl ?_
        refine kx_iload 42 F 4 dX12_letterHere_40 rfl rfl ?_
        refine kx_iadd 43 F (v := (M 164 1088) + (M 164 1089) + r_46) dX12_letterHere_42 rfl rfl ?_
        have hl_52 := lfn_c Bt t (q 0) (q 1) (q 2) j (by omega) (by omega) (by omega)
        exact kx_iret F hQ ⟨rfl, (by omega)⟩ dX12_letterHere_43
      · refine kx_istore 33 F 4 (lo' := [some (vR G 163), some (vI ((M 164 1088) + (M 164 1089))), some (vI 2), some (vI (M 164 1090)), some (vI r_46)]) dX12_letterHere_31 (by decide) rfl rfl rfl ?_
        refine kx_iload 35 F 4 dX12_letterHere_33 rfl rfl ?_
        refine kx_iconst 36 F dX12_letterHere_35 rfl ?_
        refine kx_icmp_eq 39 F 44 dX12_letterHere_36 (by decide) rfl (by omega) (by decide) (fun h_53 => ?_) (fun h_53 => (by exfalso; omega))
        refine kx_iload_n 45 F 1 dX12_letterHere_44 rfl rfl rfl ?_
        refine kx_iload_n 46 F 3 dX12_letterHere_45 rfl rfl rfl ?_
        refine kx_iadd 47 F (v := (M 164 1088) + (M 164 1089) + (M 164 1090)) dX12_letterHere_46 rfl rfl ?_
        refine kx_istore_n 48 F 1 (lo' := [some (vR G 163), some (vI ((M 164 1088) + (M 164 1089) + (M 164 1090))), some (vI 2), some (vI (M 164 1090)), some (vI r_46)]) dX12_letterHere_47 rfl (by decide) rfl rfl rfl ?_
        refine kx_iinc 51 F 2 (v := 3) (lo' := [some (vR G 163), some (vI ((M 164 1088) + (M 164 1089) + (M 164 1090))), some (vI 3), some (vI (M 164 1090)), some (vI r_46)]) dX12_letterHere_48 rfl (by omega) (by decide) rfl rfl rfl ?_
        refine kx_goto 4 F dX12_letterHere_51 (by decide) ?_
        refine kx_iload_n 5 F 2 dX12_letterHere_4 rfl rfl rfl ?_
        refine kx_iconst 6 F dX12_letterHere_5 rfl ?_
        refine kx_icmp_ge 9 F 54 dX12_letterHere_6 (by decide) rfl (by decide) (by decide) (fun h_54 => ?_) (fun h_54 => (by exfalso; omega))
        refine kx_iconst 55 F dX12_letterHere_54 rfl ?_
        have hl_55 := lfn_c Bt t (q 0) (q 1) (q 2) j (by omega) (by omega) (by omega)
        exact kx_iret F hQ ⟨rfl, (by omega)⟩ dX12_letterHere_55
      · refine kx_istore 33 F 4 (lo' := [some (vR G 163), some (vI ((M 164 1088) + (M 164 1089))), some (vI 2), some (vI (M 164 1090)), some (vI r_46)]) dX12_letterHere_31 (by decide) rfl rfl rfl ?_
        refine kx_iload 35 F 4 dX12_letterHere_33 rfl rfl ?_
        refine kx_iconst 36 F dX12_letterHere_35 rfl ?_
        refine kx_icmp_eq 39 F 44 dX12_letterHere_36 (by decide) rfl (by omega) (by decide) (fun h_56 => ?_) (fun h_56 => (by exfalso; omega))
        refine kx_iload_n 45 F 1 dX12_letterHere_44 rfl rfl rfl ?_
        refine kx_iload_n 46 F 3 dX12_letterHere_45 rfl rfl rfl ?_
        refine kx_iadd 47 F (v := (M 164 1088) + (M 164 1089) + (M 164 1090)) dX12_letterHere_46 rfl rfl ?_
        refine kx_istore_n 48 F 1 (lo' := [some (vR G 163), some (vI ((M 164 1088) + (M 164 1089) + (M 164 1090))), some (vI 2), some (vI (M 164 1090)), some (vI r_46)]) dX12_letterHere_47 rfl (by decide) rfl rfl rfl ?_
        refine kx_iinc 51 F 2 (v := 3) (lo' := [some (vR G 163), some (vI ((M 164 1088) + (M 164 1089) + (M 164 1090))), some (vI 3), some (vI (M 164 1090)), some (vI r_46)]) dX12_letterHere_48 rfl (by omega) (by decide) rfl rfl rfl ?_
        refine kx_goto 4 F dX12_letterHere_51 (by decide) ?_
        refine kx_iload_n 5 F 2 dX12_letterHere_4 rfl rfl rfl ?_
        refine kx_iconst 6 F dX12_letterHere_5 rfl ?_
        refine kx_icmp_ge 9 F 54 dX12_letterHere_6 (by decide) rfl (by decide) (by decide) (fun h_57 => ?_) (fun h_57 => (by exfalso; omega))
        refine kx_iconst 55 F dX12_letterHere_54 rfl ?_
        have hl_58 := lfn_c Bt t (q 0) (q 1) (q 2) j (by omega) (by omega) (by omega)
        exact kx_iret F hQ ⟨rfl, (by omega)⟩ dX12_letterHere_55
      · refine kx_istore 33 F 4 (lo' := [some (vR G 163), some (vI ((M 164 1088) + (M 164 1089))), some (vI 2), some (vI (M 164 1090)), some (vI r_46)]) dX12_letterHere_31 (by decide) rfl rfl rfl ?_
        refine kx_iload 35 F 4 dX12_letterHere_33 rfl rfl ?_
        refine kx_iconst 36 F dX12_letterHere_35 rfl ?_
        refine kx_icmp_eq 39 F 44 dX12_letterHere_36 (by decide) rfl (by omega) (by decide) (fun h_59 => ?_) (fun h_59 => (by exfalso; omega))
        refine kx_iload_n 45 F 1 dX12_letterHere_44 rfl rfl rfl ?_
        refine kx_iload_n 46 F 3 dX12_letterHere_45 rfl rfl rfl ?_
        refine kx_iadd 47 F (v := (M 164 1088) + (M 164 1089) + (M 164 1090)) dX12_letterHere_46 rfl rfl ?_
        refine kx_istore_n 48 F 1 (lo' := [some (vR G 163), some (vI ((M 164 1088) + (M 164 1089) + (M 164 1090))), some (vI 2), some (vI (M 164 1090)), some (vI r_46)]) dX12_letterHere_47 rfl (by decide) rfl rfl rfl ?_
        refine kx_iinc 51 F 2 (v := 3) (lo' := [some (vR G 163), some (vI ((M 164 1088) + (M 164 1089) + (M 164 1090))), some (vI 3), some (vI (M 164 1090)), some (vI r_46)]) dX12_letterHere_48 rfl (by omega) (by decide) rfl rfl rfl ?_
        refine kx_goto 4 F dX12_letterHere_51 (by decide) ?_
        refine kx_iload_n 5 F 2 dX12_letterHere_4 rfl rfl rfl ?_
        refine kx_iconst 6 F dX12_letterHere_5 rfl ?_
        refine kx_icmp_ge 9 F 54 dX12_letterHere_6 (by decide) rfl (by decide) (by decide) (fun h_60 => ?_) (fun h_60 => (by exfalso; omega))
        refine kx_iconst 55 F dX12_letterHere_54 rfl ?_
        have hl_61 := lfn_c Bt t (q 0) (q 1) (q 2) j (by omega) (by omega) (by omega)
        exact kx_iret F hQ ⟨rfl, (by omega)⟩ dX12_letterHere_55
    · refine kx_istore 33 F 4 (lo' := [some (vR G 163), some (vI (M 164 1088)), some (vI 1), some (vI (M 164 1089)), some (vI r_15)]) dX12_letterHere_31 (by decide) rfl rfl rfl ?_
      refine kx_iload 35 F 4 dX12_letterHere_33 rfl rfl ?_
      refine kx_iconst 36 F dX12_letterHere_35 rfl ?_
      refine kx_icmp_eq 39 F 44 dX12_letterHere_36 (by decide) rfl (by omega) (by decide) (fun h_62 => ?_) (fun h_62 => (by exfalso; omega))
      refine kx_iload_n 45 F 1 dX12_letterHere_44 rfl rfl rfl ?_
      refine kx_iload_n 46 F 3 dX12_letterHere_45 rfl rfl rfl ?_
      refine kx_iadd 47 F (v := (M 164 1088) + (M 164 1089)) dX12_letterHere_46 rfl rfl ?_
      refine kx_istore_n 48 F 1 (lo' := [some (vR G 163), some (vI ((M 164 1088) + (M 164 1089))), some (vI 1), some (vI (M 164 1089)), some (vI r_15)]) dX12_letterHere_47 rfl (by decide) rfl rfl rfl ?_
      refine kx_iinc 51 F 2 (v := 2) (lo' := [some (vR G 163), some (vI ((M 164 1088) + (M 164 1089))), some (vI 2), some (vI (M 164 1089)), some (vI r_15)]) dX12_letterHere_48 rfl (by omega) (by decide) rfl rfl rfl ?_
      refine kx_goto 4 F dX12_letterHere_51 (by decide) ?_
      refine kx_iload_n 5 F 2 dX12_letterHere_4 rfl rfl rfl ?_
      refine kx_iconst 6 F dX12_letterHere_5 rfl ?_
      refine kx_icmp_ge 9 F 54 dX12_letterHere_6 (by decide) rfl (by decide) (by decide) (fun h_63 => (by exfalso; omega)) (fun h_63 => ?_)
      refine kx_aload_n 10 F 0 dX12_letterHere_9 rfl rfl rfl ?_
      refine kx_getr 13 F fl_X12_7 kd_163 rfl rfl (j := 0) rfl dX12_letterHere_10 (v := 164) (uq_164 (Inv.r hI_M kd_163 rfl 0 rfl rfl)) rfl ?_
      refine kx_sipush 16 F dX12_letterHere_13 (by decide) rfl ?_
      refine kx_iload_n 17 F 2 dX12_letterHere_16 rfl rfl rfl ?_
      refine kx_iadd 18 F (v := 1090) dX12_letterHere_17 (by omega) rfl ?_
      refine kx_iald 19 F kd_164 rfl rfl (by omega) (by decide) dX12_letterHere_18 (v := (M 164 1090)) rfl rfl ?_
      have ha_64 : atlo 1090 = 0 ∧ athi 1090 = 2 := at_c 1090 4 (o := 2) (lo := 0) (hi := 2) (by omega) (by decide) (by decide) (by decide)
      have h_65 := Inv.g hI_M kd_164 rfl 1090 (a := 0) (b := 2) ha_64.1 ha_64.2
      refine kx_istore_n 20 F 3 (lo' := [some (vR G 163), some (vI ((M 164 1088) + (M 164 1089))), some (vI 2), some (vI (M 164 1090)), some (vI r_15)]) dX12_letterHere_19 rfl (by decide) rfl rfl rfl ?_
      refine kx_aload_n 21 F 0 dX12_letterHere_20 rfl rfl rfl ?_
      refine kx_bipush 23 F dX12_letterHere_21 (by decide) rfl ?_
      refine kx_iconst 24 F dX12_letterHere_23 rfl ?_
      refine kx_iload_n 25 F 2 dX12_letterHere_24 rfl rfl rfl ?_
      refine kx_imul 26 F (v := 4) dX12_letterHere_25 (by omega) rfl ?_
      refine kx_iadd 27 F (v := 28) dX12_letterHere_26 (by omega) rfl ?_
      refine kx_iload_n 28 F 3 dX12_letterHere_27 rfl rfl rfl ?_
      refine kx_Vi 31 (ci := 0) F (As := [vI 28, vI (M 164 1090)]) (st := []) vd_X12_221 (e_X12_findHere G l M 28 (M 164 1090) hI_M (by omega) Bt hB j (by omega) hs hm (t 4) (t 5) (fun h => NR.g hN (s := 4) ⟨by omega, by omega⟩ (k := 2) (by omega) (by omega)) (fun h => NR.g hN (s := 5) ⟨by omega, by omega⟩ (k := 2) (by omega) (by omega))) kd_163 rfl rfl rfl ⟨by decide, by decide⟩ rfl rfl (Nat.le_of_ble_eq_true rfl) dX12_letterHere_28 rfl ?_
      intro r_66 N_67 q_68
      obtain ⟨rfl, q_68c⟩ := q_68
      rcases q_68c with q_68c | q_68c | q_68c | q_68c | q_68c
      · refine kx_istore 33 F 4 (lo' := [some (vR G 163), some (vI ((M 164 1088) + (M 164 1089))), some (vI 2), some (vI (M 164 1090)), some (vI r_66)]) dX12_letterHere_31 (by decide) rfl rfl rfl ?_
        refine kx_iload 35 F 4 dX12_letterHere_33 rfl rfl ?_
        refine kx_iconst 36 F dX12_letterHere_35 rfl ?_
        refine kx_icmp_eq 39 F 44 dX12_letterHere_36 (by decide) rfl (by omega) (by decide) (fun h_69 => (by exfalso; omega)) (fun h_69 => ?_)
        refine kx_iload_n 40 F 1 dX12_letterHere_39 rfl rfl rfl ?_
        refine kx_iload 42 F 4 dX12_letterHere_40 rfl rfl ?_
        refine kx_iadd 43 F (v := (M 164 1088) + (M 164 1089) + r_66) dX12_letterHere_42 rfl rfl ?_
        have hl_70 := lfn_c Bt t (q 0) (q 1) (q 2) j (by omega) (by omega) (by omega)
        exact kx_iret F hQ ⟨rfl, (by omega)⟩ dX12_letterHere_43
      · refine kx_istore 33 F 4 (lo' := [some (vR G 163), some (vI ((M 164 1088) + (M 164 1089))), some (vI 2), some (vI (M 164 1090)), some (vI r_66)]) dX12_letterHere_31 (by decide) rfl rfl rfl ?_
        refine kx_iload 35 F 4 dX12_letterHere_33 rfl rfl ?_
        refine kx_iconst 36 F dX12_letterHere_35 rfl ?_
        refine kx_icmp_eq 39 F 44 dX12_letterHere_36 (by decide) rfl (by omega) (by decide) (fun h_71 => (by exfalso; omega)) (fun h_71 => ?_)
        refine kx_iload_n 40 F 1 dX12_letterHere_39 rfl rfl rfl ?_
        refine kx_iload 42 F 4 dX12_letterHere_40 rfl rfl ?_
        refine kx_iadd 43 F (v := (M 164 1088) + (M 164 1089) + r_66) dX12_letterHere_42 rfl rfl ?_
        have hl_72 := lfn_c Bt t (q 0) (q 1) (q 2) j (by omega) (by omega) (by omega)
        exact kx_iret F hQ ⟨rfl, (by omega)⟩ dX12_letterHere_43
      · refine kx_istore 33 F 4 (lo' := [some (vR G 163), some (vI ((M 164 1088) + (M 164 1089))), some (vI 2), some (vI (M 164 1090)), some (vI r_66)]) dX12_letterHere_31 (by decide) rfl rfl rfl ?_
        refine kx_iload 35 F 4 dX12_letterHere_33 rfl rfl ?_
        refine kx_iconst 36 F dX12_letterHere_35 rfl ?_
        refine kx_icmp_eq 39 F 44 dX12_letterHere_36 (by decide) rfl (by omega) (by decide) (fun h_73 => ?_) (fun h_73 => (by exfalso; omega))
        refine kx_iload_n 45 F 1 dX12_letterHere_44 rfl rfl rfl ?_
        refine kx_iload_n 46 F 3 dX12_letterHere_45 rfl rfl rfl ?_
        refine kx_iadd 47 F (v := (M 164 1088) + (M 164 1089) + (M 164 1090)) dX12_letterHere_46 rfl rfl ?_
        refine kx_istore_n 48 F 1 (lo' := [some (vR G 163), some (vI ((M 164 1088) + (M 164 1089) + (M 164 1090))), some (vI 2), some (vI (M 164 1090)), some (vI r_66)]) dX12_letterHere_47 rfl (by decide) rfl rfl rfl ?_
        refine kx_iinc 51 F 2 (v := 3) (lo' := [some (vR G 163), some (vI ((M 164 1088) + (M 164 1089) + (M 164 1090))), some (vI 3), some (vI (M 164 1090)), some (vI r_66)]) dX12_letterHere_48 rfl (by omega) (by decide) rfl rfl rfl ?_
        refine kx_goto 4 F dX12_letterHere_51 (by decide) ?_
        refine kx_iload_n 5 F 2 dX12_letterHere_4 rfl rfl rfl ?_
        refine kx_iconst 6 F dX12_letterHere_5 rfl ?_
        refine kx_icmp_ge 9 F 54 dX12_letterHere_6 (by decide) rfl (by decide) (by decide) (fun h_74 => ?_) (fun h_74 => (by exfalso; omega))
        refine kx_iconst 55 F dX12_letterHere_54 rfl ?_
        have hl_75 := lfn_c Bt t (q 0) (q 1) (q 2) j (by omega) (by omega) (by omega)
        exact kx_iret F hQ ⟨rfl, (by omega)⟩ dX12_letterHere_55
      · refine kx_istore 33 F 4 (lo' := [some (vR G 163), some (vI ((M 164 1088) + (M 164 1089))), some (vI 2), some (vI (M 164 1090)), some (vI r_66)]) dX12_letterHere_31 (by decide) rfl rfl rfl ?_
        refine kx_iload 35 F 4 dX12_letterHere_33 rfl rfl ?_
        refine kx_iconst 36 F dX12_letterHere_35 rfl ?_
        refine kx_icmp_eq 39 F 44 dX12_letterHere_36 (by decide) rfl (by omega) (by decide) (fun h_76 => ?_) (fun h_76 => (by exfalso; omega))
        refine kx_iload_n 45 F 1 dX12_letterHere_44 rfl rfl rfl ?_
        refine kx_iload_n 46 F 3 dX12_letterHere_45 rfl rfl rfl ?_
        refine kx_iadd 47 F (v := (M 164 1088) + (M 164 1089) + (M 164 1090)) dX12_letterHere_46 rfl rfl ?_
        refine kx_istore_n 48 F 1 (lo' := [some (vR G 163), some (vI ((M 164 1088) + (M 164 1089) + (M 164 1090))), some (vI 2), some (vI (M 164 1090)), some (vI r_66)]) dX12_letterHere_47 rfl (by decide) rfl rfl rfl ?_
        refine kx_iinc 51 F 2 (v := 3) (lo' := [some (vR G 163), some (vI ((M 164 1088) + (M 164 1089) + (M 164 1090))), some (vI 3), some (vI (M 164 1090)), some (vI r_66)]) dX12_letterHere_48 rfl (by omega) (by decide) rfl rfl rfl ?_
        refine kx_goto 4 F dX12_letterHere_51 (by decide) ?_
        refine kx_iload_n 5 F 2 dX12_letterHere_4 rfl rfl rfl ?_
        refine kx_iconst 6 F dX12_letterHere_5 rfl ?_
        refine kx_icmp_ge 9 F 54 dX12_letterHere_6 (by decide) rfl (by decide) (by decide) (fun h_77 => ?_) (fun h_77 => (by exfalso; omega))
        refine kx_iconst 55 F dX12_letterHere_54 rfl ?_
        have hl_78 := lfn_c Bt t (q 0) (q 1) (q 2) j (by omega) (by omega) (by omega)
        exact kx_iret F hQ ⟨rfl, (by omega)⟩ dX12_letterHere_55
      · refine kx_istore 33 F 4 (lo' := [some (vR G 163), some (vI ((M 164 1088) + (M 164 1089))), some (vI 2), some (vI (M 164 1090)), some (vI r_66)]) dX12_letterHere_31 (by decide) rfl rfl rfl ?_
        refine kx_iload 35 F 4 dX12_letterHere_33 rfl rfl ?_
        refine kx_iconst 36 F dX12_letterHere_35 rfl ?_
        refine kx_icmp_eq 39 F 44 dX12_letterHere_36 (by decide) rfl (by omega) (by decide) (fun h_79 => ?_) (fun h_79 => (by exfalso; omega))
        refine kx_iload_n 45 F 1 dX12_letterHere_44 rfl rfl rfl ?_
        refine kx_iload_n 46 F 3 dX12_letterHere_45 rfl rfl rfl ?_
        refine kx_iadd 47 F (v := (M 164 1088) + (M 164 1089) + (M 164 1090)) dX12_letterHere_46 rfl rfl ?_
        refine kx_istore_n 48 F 1 (lo' := [some (vR G 163), some (vI ((M 164 1088) + (M 164 1089) + (M 164 1090))), some (vI 2), some (vI (M 164 1090)), some (vI r_66)]) dX12_letterHere_47 rfl (by decide) rfl rfl rfl ?_
        refine kx_iinc 51 F 2 (v := 3) (lo' := [some (vR G 163), some (vI ((M 164 1088) + (M 164 1089) + (M 164 1090))), some (vI 3), some (vI (M 164 1090)), some (vI r_66)]) dX12_letterHere_48 rfl (by omega) (by decide) rfl rfl rfl ?_
        refine kx_goto 4 F dX12_letterHere_51 (by decide) ?_
        refine kx_iload_n 5 F 2 dX12_letterHere_4 rfl rfl rfl ?_
        refine kx_iconst 6 F dX12_letterHere_5 rfl ?_
        refine kx_icmp_ge 9 F 54 dX12_letterHere_6 (by decide) rfl (by decide) (by decide) (fun h_80 => ?_) (fun h_80 => (by exfalso; omega))
        refine kx_iconst 55 F dX12_letterHere_54 rfl ?_
        have hl_81 := lfn_c Bt t (q 0) (q 1) (q 2) j (by omega) (by omega) (by omega)
        exact kx_iret F hQ ⟨rfl, (by omega)⟩ dX12_letterHere_55
  · refine kx_istore 33 F 4 (lo' := [some (vR G 163), some (vI 0), some (vI 0), some (vI (M 164 1088)), some (vI r_4)]) dX12_letterHere_31 (by decide) rfl rfl rfl ?_
    refine kx_iload 35 F 4 dX12_letterHere_33 rfl rfl ?_
    refine kx_iconst 36 F dX12_letterHere_35 rfl ?_
    refine kx_icmp_eq 39 F 44 dX12_letterHere_36 (by decide) rfl (by omega) (by decide) (fun h_82 => ?_) (fun h_82 => (by exfalso; omega))
    refine kx_iload_n 45 F 1 dX12_letterHere_44 rfl rfl rfl ?_
    refine kx_iload_n 46 F 3 dX12_letterHere_45 rfl rfl rfl ?_
    refine kx_iadd 47 F (v := (M 164 1088)) dX12_letterHere_46 (by omega) rfl ?_
    refine kx_istore_n 48 F 1 (lo' := [some (vR G 163), some (vI (M 164 1088)), some (vI 0), some (vI (M 164 1088)), some (vI r_4)]) dX12_letterHere_47 rfl (by decide) rfl rfl rfl ?_
    refine kx_iinc 51 F 2 (v := 1) (lo' := [some (vR G 163), some (vI (M 164 1088)), some (vI 1), some (vI (M 164 1088)), some (vI r_4)]) dX12_letterHere_48 rfl (by omega) (by decide) rfl rfl rfl ?_
    refine kx_goto 4 F dX12_letterHere_51 (by decide) ?_
    refine kx_iload_n 5 F 2 dX12_letterHere_4 rfl rfl rfl ?_
    refine kx_iconst 6 F dX12_letterHere_5 rfl ?_
    refine kx_icmp_ge 9 F 54 dX12_letterHere_6 (by decide) rfl (by decide) (by decide) (fun h_83 => (by exfalso; omega)) (fun h_83 => ?_)
    refine kx_aload_n 10 F 0 dX12_letterHere_9 rfl rfl rfl ?_
    refine kx_getr 13 F fl_X12_7 kd_163 rfl rfl (j := 0) rfl dX12_letterHere_10 (v := 164) (uq_164 (Inv.r hI_M kd_163 rfl 0 rfl rfl)) rfl ?_
    refine kx_sipush 16 F dX12_letterHere_13 (by decide) rfl ?_
    refine kx_iload_n 17 F 2 dX12_letterHere_16 rfl rfl rfl ?_
    refine kx_iadd 18 F (v := 1089) dX12_letterHere_17 (by omega) rfl ?_
    refine kx_iald 19 F kd_164 rfl rfl (by omega) (by decide) dX12_letterHere_18 (v := (M 164 1089)) rfl rfl ?_
    have ha_84 : atlo 1089 = 0 ∧ athi 1089 = 2 := at_c 1089 4 (o := 1) (lo := 0) (hi := 2) (by omega) (by decide) (by decide) (by decide)
    have h_85 := Inv.g hI_M kd_164 rfl 1089 (a := 0) (b := 2) ha_84.1 ha_84.2
    refine kx_istore_n 20 F 3 (lo' := [some (vR G 163), some (vI (M 164 1088)), some (vI 1), some (vI (M 164 1089)), some (vI r_4)]) dX12_letterHere_19 rfl (by decide) rfl rfl rfl ?_
    refine kx_aload_n 21 F 0 dX12_letterHere_20 rfl rfl rfl ?_
    refine kx_bipush 23 F dX12_letterHere_21 (by decide) rfl ?_
    refine kx_iconst 24 F dX12_letterHere_23 rfl ?_
    refine kx_iload_n 25 F 2 dX12_letterHere_24 rfl rfl rfl ?_
    refine kx_imul 26 F (v := 2) dX12_letterHere_25 (by omega) rfl ?_
    refine kx_iadd 27 F (v := 26) dX12_letterHere_26 (by omega) rfl ?_
    refine kx_iload_n 28 F 3 dX12_letterHere_27 rfl rfl rfl ?_
    refine kx_Vi 31 (ci := 0) F (As := [vI 26, vI (M 164 1089)]) (st := []) vd_X12_221 (e_X12_findHere G l M 26 (M 164 1089) hI_M (by omega) Bt hB j (by omega) hs hm (t 2) (t 3) (fun h => NR.g hN (s := 2) ⟨by omega, by omega⟩ (k := 1) (by omega) (by omega)) (fun h => NR.g hN (s := 3) ⟨by omega, by omega⟩ (k := 1) (by omega) (by omega))) kd_163 rfl rfl rfl ⟨by decide, by decide⟩ rfl rfl (Nat.le_of_ble_eq_true rfl) dX12_letterHere_28 rfl ?_
    intro r_86 N_87 q_88
    obtain ⟨rfl, q_88c⟩ := q_88
    rcases q_88c with q_88c | q_88c | q_88c | q_88c | q_88c
    · refine kx_istore 33 F 4 (lo' := [some (vR G 163), some (vI (M 164 1088)), some (vI 1), some (vI (M 164 1089)), some (vI r_86)]) dX12_letterHere_31 (by decide) rfl rfl rfl ?_
      refine kx_iload 35 F 4 dX12_letterHere_33 rfl rfl ?_
      refine kx_iconst 36 F dX12_letterHere_35 rfl ?_
      refine kx_icmp_eq 39 F 44 dX12_letterHere_36 (by decide) rfl (by omega) (by decide) (fun h_89 => (by exfalso; omega)) (fun h_89 => ?_)
      refine kx_iload_n 40 F 1 dX12_letterHere_39 rfl rfl rfl ?_
      refine kx_iload 42 F 4 dX12_letterHere_40 rfl rfl ?_
      refine kx_iadd 43 F (v := (M 164 1088) + r_86) dX12_letterHere_42 rfl rfl ?_
      have hl_90 := lfn_c Bt t (q 0) (q 1) (q 2) j (by omega) (by omega) (by omega)
      exact kx_iret F hQ ⟨rfl, (by omega)⟩ dX12_letterHere_43
    · refine kx_istore 33 F 4 (lo' := [some (vR G 163), some (vI (M 164 1088)), some (vI 1), some (vI (M 164 1089)), some (vI r_86)]) dX12_letterHere_31 (by decide) rfl rfl rfl ?_
      refine kx_iload 35 F 4 dX12_letterHere_33 rfl rfl ?_
      refine kx_iconst 36 F dX12_letterHere_35 rfl ?_
      refine kx_icmp_eq 39 F 44 dX12_letterHere_36 (by decide) rfl (by omega) (by decide) (fun h_91 => (by exfalso; omega)) (fun h_91 => ?_)
      refine kx_iload_n 40 F 1 dX12_letterHere_39 rfl rfl rfl ?_
      refine kx_iload 42 F 4 dX12_letterHere_40 rfl rfl ?_
      refine kx_iadd 43 F (v := (M 164 1088) + r_86) dX12_letterHere_42 rfl rfl ?_
      have hl_92 := lfn_c Bt t (q 0) (q 1) (q 2) j (by omega) (by omega) (by omega)
      exact kx_iret F hQ ⟨rfl, (by omega)⟩ dX12_letterHere_43
    · refine kx_istore 33 F 4 (lo' := [some (vR G 163), some (vI (M 164 1088)), some (vI 1), some (vI (M 164 1089)), some (vI r_86)]) dX12_letterHere_31 (by decide) rfl rfl rfl ?_
      refine kx_iload 35 F 4 dX12_letterHere_33 rfl rfl ?_
      refine kx_iconst 36 F dX12_letterHere_35 rfl ?_
      refine kx_icmp_eq 39 F 44 dX12_letterHere_36 (by decide) rfl (by omega) (by decide) (fun h_93 => ?_) (fun h_93 => (by exfalso; omega))
      refine kx_iload_n 45 F 1 dX12_letterHere_44 rfl rfl rfl ?_
      refine kx_iload_n 46 F 3 dX12_letterHere_45 rfl rfl rfl ?_
      refine kx_iadd 47 F (v := (M 164 1088) + (M 164 1089)) dX12_letterHere_46 rfl rfl ?_
      refine kx_istore_n 48 F 1 (lo' := [some (vR G 163), some (vI ((M 164 1088) + (M 164 1089))), some (vI 1), some (vI (M 164 1089)), some (vI r_86)]) dX12_letterHere_47 rfl (by decide) rfl rfl rfl ?_
      refine kx_iinc 51 F 2 (v := 2) (lo' := [some (vR G 163), some (vI ((M 164 1088) + (M 164 1089))), some (vI 2), some (vI (M 164 1089)), some (vI r_86)]) dX12_letterHere_48 rfl (by omega) (by decide) rfl rfl rfl ?_
      refine kx_goto 4 F dX12_letterHere_51 (by decide) ?_
      refine kx_iload_n 5 F 2 dX12_letterHere_4 rfl rfl rfl ?_
      refine kx_iconst 6 F dX12_letterHere_5 rfl ?_
      refine kx_icmp_ge 9 F 54 dX12_letterHere_6 (by decide) rfl (by decide) (by decide) (fun h_94 => (by exfalso; omega)) (fun h_94 => ?_)
      refine kx_aload_n 10 F 0 dX12_letterHere_9 rfl rfl rfl ?_
      refine kx_getr 13 F fl_X12_7 kd_163 rfl rfl (j := 0) rfl dX12_letterHere_10 (v := 164) (uq_164 (Inv.r hI_M kd_163 rfl 0 rfl rfl)) rfl ?_
      refine kx_sipush 16 F dX12_letterHere_13 (by decide) rfl ?_
      refine kx_iload_n 17 F 2 dX12_letterHere_16 rfl rfl rfl ?_
      refine kx_iadd 18 F (v := 1090) dX12_letterHere_17 (by omega) rfl ?_
      refine kx_iald 19 F kd_164 rfl rfl (by omega) (by decide) dX12_letterHere_18 (v := (M 164 1090)) rfl rfl ?_
      have ha_95 : atlo 1090 = 0 ∧ athi 1090 = 2 := at_c 1090 4 (o := 2) (lo := 0) (hi := 2) (by omega) (by decide) (by decide) (by decide)
      have h_96 := Inv.g hI_M kd_164 rfl 1090 (a := 0) (b := 2) ha_95.1 ha_95.2
      refine kx_istore_n 20 F 3 (lo' := [some (vR G 163), some (vI ((M 164 1088) + (M 164 1089))), some (vI 2), some (vI (M 164 1090)), some (vI r_86)]) dX12_letterHere_19 rfl (by decide) rfl rfl rfl ?_
      refine kx_aload_n 21 F 0 dX12_letterHere_20 rfl rfl rfl ?_
      refine kx_bipush 23 F dX12_letterHere_21 (by decide) rfl ?_
      refine kx_iconst 24 F dX12_letterHere_23 rfl ?_
      refine kx_iload_n 25 F 2 dX12_letterHere_24 rfl rfl rfl ?_
      refine kx_imul 26 F (v := 4) dX12_letterHere_25 (by omega) rfl ?_
      refine kx_iadd 27 F (v := 28) dX12_letterHere_26 (by omega) rfl ?_
      refine kx_iload_n 28 F 3 dX12_letterHere_27 rfl rfl rfl ?_
      refine kx_Vi 31 (ci := 0) F (As := [vI 28, vI (M 164 1090)]) (st := []) vd_X12_221 (e_X12_findHere G l M 28 (M 164 1090) hI_M (by omega) Bt hB j (by omega) hs hm (t 4) (t 5) (fun h => NR.g hN (s := 4) ⟨by omega, by omega⟩ (k := 2) (by omega) (by omega)) (fun h => NR.g hN (s := 5) ⟨by omega, by omega⟩ (k := 2) (by omega) (by omega))) kd_163 rfl rfl rfl ⟨by decide, by decide⟩ rfl rfl (Nat.le_of_ble_eq_true rfl) dX12_letterHere_28 rfl ?_
      intro r_97 N_98 q_99
      obtain ⟨rfl, q_99c⟩ := q_99
      rcases q_99c with q_99c | q_99c | q_99c | q_99c | q_99c
      · refine kx_istore 33 F 4 (lo' := [some (vR G 163), some (vI ((M 164 1088) + (M 164 1089))), some (vI 2), some (vI (M 164 1090)), some (vI r_97)]) dX12_letterHere_31 (by decide) rfl rfl rfl ?_
        refine kx_iload 35 F 4 dX12_letterHere_33 rfl rfl ?_
        refine kx_iconst 36 F dX12_letterHere_35 rfl ?_
        refine kx_icmp_eq 39 F 44 dX12_letterHere_36 (by decide) rfl (by omega) (by decide) (fun h_100 => (by exfalso; omega)) (fun h_100 => ?_)
        refine kx_iload_n 40 F 1 dX12_letterHere_39 rfl rfl rfl ?_
        refine kx_iload 42 F 4 dX12_letterHere_40 rfl rfl ?_
        refine kx_iadd 43 F (v := (M 164 1088) + (M 164 1089) + r_97) dX12_letterHere_42 rfl rfl ?_
        have hl_101 := lfn_c Bt t (q 0) (q 1) (q 2) j (by omega) (by omega) (by omega)
        exact kx_iret F hQ ⟨rfl, (by omega)⟩ dX12_letterHere_43
      · refine kx_istore 33 F 4 (lo' := [some (vR G 163), some (vI ((M 164 1088) + (M 164 1089))), some (vI 2), some (vI (M 164 1090)), some (vI r_97)]) dX12_letterHere_31 (by decide) rfl rfl rfl ?_
        refine kx_iload 35 F 4 dX12_letterHere_33 rfl rfl ?_
        refine kx_iconst 36 F dX12_letterHere_35 rfl ?_
        refine kx_icmp_eq 39 F 44 dX12_letterHere_36 (by decide) rfl (by omega) (by decide) (fun h_102 => (by exfalso; omega)) (fun h_102 => ?_)
        refine kx_iload_n 40 F 1 dX12_letterHere_39 rfl rfl rfl ?_
        refine kx_iload 42 F 4 dX12_letterHere_40 rfl rfl ?_
        refine kx_iadd 43 F (v := (M 164 1088) + (M 164 1089) + r_97) dX12_letterHere_42 rfl rfl ?_
        have hl_103 := lfn_c Bt t (q 0) (q 1) (q 2) j (by omega) (by omega) (by omega)
        exact kx_iret F hQ ⟨rfl, (by omega)⟩ dX12_letterHere_43
      · refine kx_istore 33 F 4 (lo' := [some (vR G 163), some (vI ((M 164 1088) + (M 164 1089))), some (vI 2), some (vI (M 164 1090)), some (vI r_97)]) dX12_letterHere_31 (by decide) rfl rfl rfl ?_
        refine kx_iload 35 F 4 dX12_letterHere_33 rfl rfl ?_
        refine kx_iconst 36 F dX12_letterHere_35 rfl ?_
        refine kx_icmp_eq 39 F 44 dX12_letterHere_36 (by decide) rfl (by omega) (by decide) (fun h_104 => ?_) (fun h_104 => (by exfalso; omega))
        refine kx_iload_n 45 F 1 dX12_letterHere_44 rfl rfl rfl ?_
        refine kx_iload_n 46 F 3 dX12_letterHere_45 rfl rfl rfl ?_
        refine kx_iadd 47 F (v := (M 164 1088) + (M 164 1089) + (M 164 1090)) dX12_letterHere_46 rfl rfl ?_
        refine kx_istore_n 48 F 1 (lo' := [some (vR G 163), some (vI ((M 164 1088) + (M 164 1089) + (M 164 1090))), some (vI 2), some (vI (M 164 1090)), some (vI r_97)]) dX12_letterHere_47 rfl (by decide) rfl rfl rfl ?_
        refine kx_iinc 51 F 2 (v := 3) (lo' := [some (vR G 163), some (vI ((M 164 1088) + (M 164 1089) + (M 164 1090))), some (vI 3), some (vI (M 164 1090)), some (vI r_97)]) dX12_letterHere_48 rfl (by omega) (by decide) rfl rfl rfl ?_
        refine kx_goto 4 F dX12_letterHere_51 (by decide) ?_
        refine kx_iload_n 5 F 2 dX12_letterHere_4 rfl rfl rfl ?_
        refine kx_iconst 6 F dX12_letterHere_5 rfl ?_
        refine kx_icmp_ge 9 F 54 dX12_letterHere_6 (by decide) rfl (by decide) (by decide) (fun h_105 => ?_) (fun h_105 => (by exfalso; omega))
        refine kx_iconst 55 F dX12_letterHere_54 rfl ?_
        have hl_106 := lfn_c Bt t (q 0) (q 1) (q 2) j (by omega) (by omega) (by omega)
        exact kx_iret F hQ ⟨rfl, (by omega)⟩ dX12_letterHere_55
      · refine kx_istore 33 F 4 (lo' := [some (vR G 163), some (vI ((M 164 1088) + (M 164 1089))), some (vI 2), some (vI (M 164 1090)), some (vI r_97)]) dX12_letterHere_31 (by decide) rfl rfl rfl ?_
        refine kx_iload 35 F 4 dX12_letterHere_33 rfl rfl ?_
        refine kx_iconst 36 F dX12_letterHere_35 rfl ?_
        refine kx_icmp_eq 39 F 44 dX12_letterHere_36 (by decide) rfl (by omega) (by decide) (fun h_107 => ?_) (fun h_107 => (by exfalso; omega))
        refine kx_iload_n 45 F 1 dX12_letterHere_44 rfl rfl rfl ?_
        refine kx_iload_n 46 F 3 dX12_letterHere_45 rfl rfl rfl ?_
        refine kx_iadd 47 F (v := (M 164 1088) + (M 164 1089) + (M 164 1090)) dX12_letterHere_46 rfl rfl ?_
        refine kx_istore_n 48 F 1 (lo' := [some (vR G 163), some (vI ((M 164 1088) + (M 164 1089) + (M 164 1090))), some (vI 2), some (vI (M 164 1090)), some (vI r_97)]) dX12_letterHere_47 rfl (by decide) rfl rfl rfl ?_
        refine kx_iinc 51 F 2 (v := 3) (lo' := [some (vR G 163), some (vI ((M 164 1088) + (M 164 1089) + (M 164 1090))), some (vI 3), some (vI (M 164 1090)), some (vI r_97)]) dX12_letterHere_48 rfl (by omega) (by decide) rfl rfl rfl ?_
        refine kx_goto 4 F dX12_letterHere_51 (by decide) ?_
        refine kx_iload_n 5 F 2 dX12_letterHere_4 rfl rfl rfl ?_
        refine kx_iconst 6 F dX12_letterHere_5 rfl ?_
        refine kx_icmp_ge 9 F 54 dX12_letterHere_6 (by decide) rfl (by decide) (by decide) (fun h_108 => ?_) (fun h_108 => (by exfalso; omega))
        refine kx_iconst 55 F dX12_letterHere_54 rfl ?_
        have hl_109 := lfn_c Bt t (q 0) (q 1) (q 2) j (by omega) (by omega) (by omega)
        exact kx_iret F hQ ⟨rfl, (by omega)⟩ dX12_letterHere_55
      · refine kx_istore 33 F 4 (lo' := [some (vR G 163), some (vI ((M 164 1088) + (M 164 1089))), some (vI 2), some (vI (M 164 1090)), some (vI r_97)]) dX12_letterHere_31 (by decide) rfl rfl rfl ?_
        refine kx_iload 35 F 4 dX12_letterHere_33 rfl rfl ?_
        refine kx_iconst 36 F dX12_letterHere_35 rfl ?_
        refine kx_icmp_eq 39 F 44 dX12_letterHere_36 (by decide) rfl (by omega) (by decide) (fun h_110 => ?_) (fun h_110 => (by exfalso; omega))
        refine kx_iload_n 45 F 1 dX12_letterHere_44 rfl rfl rfl ?_
        refine kx_iload_n 46 F 3 dX12_letterHere_45 rfl rfl rfl ?_
        refine kx_iadd 47 F (v := (M 164 1088) + (M 164 1089) + (M 164 1090)) dX12_letterHere_46 rfl rfl ?_
        refine kx_istore_n 48 F 1 (lo' := [some (vR G 163), some (vI ((M 164 1088) + (M 164 1089) + (M 164 1090))), some (vI 2), some (vI (M 164 1090)), some (vI r_97)]) dX12_letterHere_47 rfl (by decide) rfl rfl rfl ?_
        refine kx_iinc 51 F 2 (v := 3) (lo' := [some (vR G 163), some (vI ((M 164 1088) + (M 164 1089) + (M 164 1090))), some (vI 3), some (vI (M 164 1090)), some (vI r_97)]) dX12_letterHere_48 rfl (by omega) (by decide) rfl rfl rfl ?_
        refine kx_goto 4 F dX12_letterHere_51 (by decide) ?_
        refine kx_iload_n 5 F 2 dX12_letterHere_4 rfl rfl rfl ?_
        refine kx_iconst 6 F dX12_letterHere_5 rfl ?_
        refine kx_icmp_ge 9 F 54 dX12_letterHere_6 (by decide) rfl (by decide) (by decide) (fun h_111 => ?_) (fun h_111 => (by exfalso; omega))
        refine kx_iconst 55 F dX12_letterHere_54 rfl ?_
        have hl_112 := lfn_c Bt t (q 0) (q 1) (q 2) j (by omega) (by omega) (by omega)
        exact kx_iret F hQ ⟨rfl, (by omega)⟩ dX12_letterHere_55
    · refine kx_istore 33 F 4 (lo' := [some (vR G 163), some (vI (M 164 1088)), some (vI 1), some (vI (M 164 1089)), some (vI r_86)]) dX12_letterHere_31 (by decide) rfl rfl rfl ?_
      refine kx_iload 35 F 4 dX12_letterHere_33 rfl rfl ?_
      refine kx_iconst 36 F dX12_letterHere_35 rfl ?_
      refine kx_icmp_eq 39 F 44 dX12_letterHere_36 (by decide) rfl (by omega) (by decide) (fun h_113 => ?_) (fun h_113 => (by exfalso; omega))
      refine kx_iload_n 45 F 1 dX12_letterHere_44 rfl rfl rfl ?_
      refine kx_iload_n 46 F 3 dX12_letterHere_45 rfl rfl rfl ?_
      refine kx_iadd 47 F (v := (M 164 1088) + (M 164 1089)) dX12_letterHere_46 rfl rfl ?_
      refine kx_istore_n 48 F 1 (lo' := [some (vR G 163), some (vI ((M 164 1088) + (M 164 1089))), some (vI 1), some (vI (M 164 1089)), some (vI r_86)]) dX12_letterHere_47 rfl (by decide) rfl rfl rfl ?_
      refine kx_iinc 51 F 2 (v := 2) (lo' := [some (vR G 163), some (vI ((M 164 1088) + (M 164 1089))), some (vI 2), some (vI (M 164 1089)), some (vI r_86)]) dX12_letterHere_48 rfl (by omega) (by decide) rfl rfl rfl ?_
      refine kx_goto 4 F dX12_letterHere_51 (by decide) ?_
      refine kx_iload_n 5 F 2 dX12_letterHere_4 rfl rfl rfl ?_
      refine kx_iconst 6 F dX12_letterHere_5 rfl ?_
      refine kx_icmp_ge 9 F 54 dX12_letterHere_6 (by decide) rfl (by decide) (by decide) (fun h_114 => (by exfalso; omega)) (fun h_114 => ?_)
      refine kx_aload_n 10 F 0 dX12_letterHere_9 rfl rfl rfl ?_
      refine kx_getr 13 F fl_X12_7 kd_163 rfl rfl (j := 0) rfl dX12_letterHere_10 (v := 164) (uq_164 (Inv.r hI_M kd_163 rfl 0 rfl rfl)) rfl ?_
      refine kx_sipush 16 F dX12_letterHere_13 (by decide) rfl ?_
      refine kx_iload_n 17 F 2 dX12_letterHere_16 rfl rfl rfl ?_
      refine kx_iadd 18 F (v := 1090) dX12_letterHere_17 (by omega) rfl ?_
      refine kx_iald 19 F kd_164 rfl rfl (by omega) (by decide) dX12_letterHere_18 (v := (M 164 1090)) rfl rfl ?_
      have ha_115 : atlo 1090 = 0 ∧ athi 1090 = 2 := at_c 1090 4 (o := 2) (lo := 0) (hi := 2) (by omega) (by decide) (by decide) (by decide)
      have h_116 := Inv.g hI_M kd_164 rfl 1090 (a := 0) (b := 2) ha_115.1 ha_115.2
      refine kx_istore_n 20 F 3 (lo' := [some (vR G 163), some (vI ((M 164 1088) + (M 164 1089))), some (vI 2), some (vI (M 164 1090)), some (vI r_86)]) dX12_letterHere_19 rfl (by decide) rfl rfl rfl ?_
      refine kx_aload_n 21 F 0 dX12_letterHere_20 rfl rfl rfl ?_
      refine kx_bipush 23 F dX12_letterHere_21 (by decide) rfl ?_
      refine kx_iconst 24 F dX12_letterHere_23 rfl ?_
      refine kx_iload_n 25 F 2 dX12_letterHere_24 rfl rfl rfl ?_
      refine kx_imul 26 F (v := 4) dX12_letterHere_25 (by omega) rfl ?_
      refine kx_iadd 27 F (v := 28) dX12_letterHere_26 (by omega) rfl ?_
      refine kx_iload_n 28 F 3 dX12_letterHere_27 rfl rfl rfl ?_
      refine kx_Vi 31 (ci := 0) F (As := [vI 28, vI (M 164 1090)]) (st := []) vd_X12_221 (e_X12_findHere G l M 28 (M 164 1090) hI_M (by omega) Bt hB j (by omega) hs hm (t 4) (t 5) (fun h => NR.g hN (s := 4) ⟨by omega, by omega⟩ (k := 2) (by omega) (by omega)) (fun h => NR.g hN (s := 5) ⟨by omega, by omega⟩ (k := 2) (by omega) (by omega))) kd_163 rfl rfl rfl ⟨by decide, by decide⟩ rfl rfl (Nat.le_of_ble_eq_true rfl) dX12_letterHere_28 rfl ?_
      intro r_117 N_118 q_119
      obtain ⟨rfl, q_119c⟩ := q_119
      rcases q_119c with q_119c | q_119c | q_119c | q_119c | q_119c
      · refine kx_istore 33 F 4 (lo' := [some (vR G 163), some (vI ((M 164 1088) + (M 164 1089))), some (vI 2), some (vI (M 164 1090)), some (vI r_117)]) dX12_letterHere_31 (by decide) rfl rfl rfl ?_
        refine kx_iload 35 F 4 dX12_letterHere_33 rfl rfl ?_
        refine kx_iconst 36 F dX12_letterHere_35 rfl ?_
        refine kx_icmp_eq 39 F 44 dX12_letterHere_36 (by decide) rfl (by omega) (by decide) (fun h_120 => (by exfalso; omega)) (fun h_120 => ?_)
        refine kx_iload_n 40 F 1 dX12_letterHere_39 rfl rfl rfl ?_
        refine kx_iload 42 F 4 dX12_letterHere_40 rfl rfl ?_
        refine kx_iadd 43 F (v := (M 164 1088) + (M 164 1089) + r_117) dX12_letterHere_42 rfl rfl ?_
        have hl_121 := lfn_c Bt t (q 0) (q 1) (q 2) j (by omega) (by omega) (by omega)
        exact kx_iret F hQ ⟨rfl, (by omega)⟩ dX12_letterHere_43
      · refine kx_istore 33 F 4 (lo' := [some (vR G 163), some (vI ((M 164 1088) + (M 164 1089))), some (vI 2), some (vI (M 164 1090)), some (vI r_117)]) dX12_letterHere_31 (by decide) rfl rfl rfl ?_
        refine kx_iload 35 F 4 dX12_letterHere_33 rfl rfl ?_
        refine kx_iconst 36 F dX12_letterHere_35 rfl ?_
        refine kx_icmp_eq 39 F 44 dX12_letterHere_36 (by decide) rfl (by omega) (by decide) (fun h_122 => (by exfalso; omega)) (fun h_122 => ?_)
        refine kx_iload_n 40 F 1 dX12_letterHere_39 rfl rfl rfl ?_
        refine kx_iload 42 F 4 dX12_letterHere_40 rfl rfl ?_
        refine kx_iadd 43 F (v := (M 164 1088) + (M 164 1089) + r_117) dX12_letterHere_42 rfl rfl ?_
        have hl_123 := lfn_c Bt t (q 0) (q 1) (q 2) j (by omega) (by omega) (by omega)
        exact kx_iret F hQ ⟨rfl, (by omega)⟩ dX12_letterHere_43
      · refine kx_istore 33 F 4 (lo' := [some (vR G 163), some (vI ((M 164 1088) + (M 164 1089))), some (vI 2), some (vI (M 164 1090)), some (vI r_117)]) dX12_letterHere_31 (by decide) rfl rfl rfl ?_
        refine kx_iload 35 F 4 dX12_letterHere_33 rfl rfl ?_
        refine kx_iconst 36 F dX12_letterHere_35 rfl ?_
        refine kx_icmp_eq 39 F 44 dX12_letterHere_36 (by decide) rfl (by omega) (by decide) (fun h_124 => ?_) (fun h_124 => (by exfalso; omega))
        refine kx_iload_n 45 F 1 dX12_letterHere_44 rfl rfl rfl ?_
        refine kx_iload_n 46 F 3 dX12_letterHere_45 rfl rfl rfl ?_
        refine kx_iadd 47 F (v := (M 164 1088) + (M 164 1089) + (M 164 1090)) dX12_letterHere_46 rfl rfl ?_
        refine kx_istore_n 48 F 1 (lo' := [some (vR G 163), some (vI ((M 164 1088) + (M 164 1089) + (M 164 1090))), some (vI 2), some (vI (M 164 1090)), some (vI r_117)]) dX12_letterHere_47 rfl (by decide) rfl rfl rfl ?_
        refine kx_iinc 51 F 2 (v := 3) (lo' := [some (vR G 163), some (vI ((M 164 1088) + (M 164 1089) + (M 164 1090))), some (vI 3), some (vI (M 164 1090)), some (vI r_117)]) dX12_letterHere_48 rfl (by omega) (by decide) rfl rfl rfl ?_
        refine kx_goto 4 F dX12_letterHere_51 (by decide) ?_
        refine kx_iload_n 5 F 2 dX12_letterHere_4 rfl rfl rfl ?_
        refine kx_iconst 6 F dX12_letterHere_5 rfl ?_
        refine kx_icmp_ge 9 F 54 dX12_letterHere_6 (by decide) rfl (by decide) (by decide) (fun h_125 => ?_) (fun h_125 => (by exfalso; omega))
        refine kx_iconst 55 F dX12_letterHere_54 rfl ?_
        have hl_126 := lfn_c Bt t (q 0) (q 1) (q 2) j (by omega) (by omega) (by omega)
        exact kx_iret F hQ ⟨rfl, (by omega)⟩ dX12_letterHere_55
      · refine kx_istore 33 F 4 (lo' := [some (vR G 163), some (vI ((M 164 1088) + (M 164 1089))), some (vI 2), some (vI (M 164 1090)), some (vI r_117)]) dX12_letterHere_31 (by decide) rfl rfl rfl ?_
        refine kx_iload 35 F 4 dX12_letterHere_33 rfl rfl ?_
        refine kx_iconst 36 F dX12_letterHere_35 rfl ?_
        refine kx_icmp_eq 39 F 44 dX12_letterHere_36 (by decide) rfl (by omega) (by decide) (fun h_127 => ?_) (fun h_127 => (by exfalso; omega))
        refine kx_iload_n 45 F 1 dX12_letterHere_44 rfl rfl rfl ?_
        refine kx_iload_n 46 F 3 dX12_letterHere_45 rfl rfl rfl ?_
        refine kx_iadd 47 F (v := (M 164 1088) + (M 164 1089) + (M 164 1090)) dX12_letterHere_46 rfl rfl ?_
        refine kx_istore_n 48 F 1 (lo' := [some (vR G 163), some (vI ((M 164 1088) + (M 164 1089) + (M 164 1090))), some (vI 2), some (vI (M 164 1090)), some (vI r_117)]) dX12_letterHere_47 rfl (by decide) rfl rfl rfl ?_
        refine kx_iinc 51 F 2 (v := 3) (lo' := [some (vR G 163), some (vI ((M 164 1088) + (M 164 1089) + (M 164 1090))), some (vI 3), some (vI (M 164 1090)), some (vI r_117)]) dX12_letterHere_48 rfl (by omega) (by decide) rfl rfl rfl ?_
        refine kx_goto 4 F dX12_letterHere_51 (by decide) ?_
        refine kx_iload_n 5 F 2 dX12_letterHere_4 rfl rfl rfl ?_
        refine kx_iconst 6 F dX12_letterHere_5 rfl ?_
        refine kx_icmp_ge 9 F 54 dX12_letterHere_6 (by decide) rfl (by decide) (by decide) (fun h_128 => ?_) (fun h_128 => (by exfalso; omega))
        refine kx_iconst 55 F dX12_letterHere_54 rfl ?_
        have hl_129 := lfn_c Bt t (q 0) (q 1) (q 2) j (by omega) (by omega) (by omega)
        exact kx_iret F hQ ⟨rfl, (by omega)⟩ dX12_letterHere_55
      · refine kx_istore 33 F 4 (lo' := [some (vR G 163), some (vI ((M 164 1088) + (M 164 1089))), some (vI 2), some (vI (M 164 1090)), some (vI r_117)]) dX12_letterHere_31 (by decide) rfl rfl rfl ?_
        refine kx_iload 35 F 4 dX12_letterHere_33 rfl rfl ?_
        refine kx_iconst 36 F dX12_letterHere_35 rfl ?_
        refine kx_icmp_eq 39 F 44 dX12_letterHere_36 (by decide) rfl (by omega) (by decide) (fun h_130 => ?_) (fun h_130 => (by exfalso; omega))
        refine kx_iload_n 45 F 1 dX12_letterHere_44 rfl rfl rfl ?_
        refine kx_iload_n 46 F 3 dX12_letterHere_45 rfl rfl rfl ?_
        refine kx_iadd 47 F (v := (M 164 1088) + (M 164 1089) + (M 164 1090)) dX12_letterHere_46 rfl rfl ?_
        refine kx_istore_n 48 F 1 (lo' := [some (vR G 163), some (vI ((M 164 1088) + (M 164 1089) + (M 164 1090))), some (vI 2), some (vI (M 164 1090)), some (vI r_117)]) dX12_letterHere_47 rfl (by decide) rfl rfl rfl ?_
        refine kx_iinc 51 F 2 (v := 3) (lo' := [some (vR G 163), some (vI ((M 164 1088) + (M 164 1089) + (M 164 1090))), some (vI 3), some (vI (M 164 1090)), some (vI r_117)]) dX12_letterHere_48 rfl (by omega) (by decide) rfl rfl rfl ?_
        refine kx_goto 4 F dX12_letterHere_51 (by decide) ?_
        refine kx_iload_n 5 F 2 dX12_letterHere_4 rfl rfl rfl ?_
        refine kx_iconst 6 F dX12_letterHere_5 rfl ?_
        refine kx_icmp_ge 9 F 54 dX12_letterHere_6 (by decide) rfl (by decide) (by decide) (fun h_131 => ?_) (fun h_131 => (by exfalso; omega))
        refine kx_iconst 55 F dX12_letterHere_54 rfl ?_
        have hl_132 := lfn_c Bt t (q 0) (q 1) (q 2) j (by omega) (by omega) (by omega)
        exact kx_iret F hQ ⟨rfl, (by omega)⟩ dX12_letterHere_55
    · refine kx_istore 33 F 4 (lo' := [some (vR G 163), some (vI (M 164 1088)), some (vI 1), some (vI (M 164 1089)), some (vI r_86)]) dX12_letterHere_31 (by decide) rfl rfl rfl ?_
      refine kx_iload 35 F 4 dX12_letterHere_33 rfl rfl ?_
      refine kx_iconst 36 F dX12_letterHere_35 rfl ?_
      refine kx_icmp_eq 39 F 44 dX12_letterHere_36 (by decide) rfl (by omega) (by decide) (fun h_133 => ?_) (fun h_133 => (by exfalso; omega))
      refine kx_iload_n 45 F 1 dX12_letterHere_44 rfl rfl rfl ?_
      refine kx_iload_n 46 F 3 dX12_letterHere_45 rfl rfl rfl ?_
      refine kx_iadd 47 F (v := (M 164 1088) + (M 164 1089)) dX12_letterHere_46 rfl rfl ?_
      refine kx_istore_n 48 F 1 (lo' := [some (vR G 163), some (vI ((M 164 1088) + (M 164 1089))), some (vI 1), some (vI (M 164 1089)), some (vI r_86)]) dX12_letterHere_47 rfl (by decide) rfl rfl rfl ?_
      refine kx_iinc 51 F 2 (v := 2) (lo' := [some (vR G 163), some (vI ((M 164 1088) + (M 164 1089))), some (vI 2), some (vI (M 164 1089)), some (vI r_86)]) dX12_letterHere_48 rfl (by omega) (by decide) rfl rfl rfl ?_
      refine kx_goto 4 F dX12_letterHere_51 (by decide) ?_
      refine kx_iload_n 5 F 2 dX12_letterHere_4 rfl rfl rfl ?_
      refine kx_iconst 6 F dX12_letterHere_5 rfl ?_
      refine kx_icmp_ge 9 F 54 dX12_letterHere_6 (by decide) rfl (by decide) (by decide) (fun h_134 => (by exfalso; omega)) (fun h_134 => ?_)
      refine kx_aload_n 10 F 0 dX12_letterHere_9 rfl rfl rfl ?_
      refine kx_getr 13 F fl_X12_7 kd_163 rfl rfl (j := 0) rfl dX12_letterHere_10 (v := 164) (uq_164 (Inv.r hI_M kd_163 rfl 0 rfl rfl)) rfl ?_
      refine kx_sipush 16 F dX12_letterHere_13 (by decide) rfl ?_
      refine kx_iload_n 17 F 2 dX12_letterHere_16 rfl rfl rfl ?_
      refine kx_iadd 18 F (v := 1090) dX12_letterHere_17 (by omega) rfl ?_
      refine kx_iald 19 F kd_164 rfl rfl (by omega) (by decide) dX12_letterHere_18 (v := (M 164 1090)) rfl rfl ?_
      have ha_135 : atlo 1090 = 0 ∧ athi 1090 = 2 := at_c 1090 4 (o := 2) (lo := 0) (hi := 2) (by omega) (by decide) (by decide) (by decide)
      have h_136 := Inv.g hI_M kd_164 rfl 1090 (a := 0) (b := 2) ha_135.1 ha_135.2
      refine kx_istore_n 20 F 3 (lo' := [some (vR G 163), some (vI ((M 164 1088) + (M 164 1089))), some (vI 2), some (vI (M 164 1090)), some (vI r_86)]) dX12_letterHere_19 rfl (by decide) rfl rfl rfl ?_
      refine kx_aload_n 21 F 0 dX12_letterHere_20 rfl rfl rfl ?_
      refine kx_bipush 23 F dX12_letterHere_21 (by decide) rfl ?_
      refine kx_iconst 24 F dX12_letterHere_23 rfl ?_
      refine kx_iload_n 25 F 2 dX12_letterHere_24 rfl rfl rfl ?_
      refine kx_imul 26 F (v := 4) dX12_letterHere_25 (by omega) rfl ?_
      refine kx_iadd 27 F (v := 28) dX12_letterHere_26 (by omega) rfl ?_
      refine kx_iload_n 28 F 3 dX12_letterHere_27 rfl rfl rfl ?_
      refine kx_Vi 31 (ci := 0) F (As := [vI 28, vI (M 164 1090)]) (st := []) vd_X12_221 (e_X12_findHere G l M 28 (M 164 1090) hI_M (by omega) Bt hB j (by omega) hs hm (t 4) (t 5) (fun h => NR.g hN (s := 4) ⟨by omega, by omega⟩ (k := 2) (by omega) (by omega)) (fun h => NR.g hN (s := 5) ⟨by omega, by omega⟩ (k := 2) (by omega) (by omega))) kd_163 rfl rfl rfl ⟨by decide, by decide⟩ rfl rfl (Nat.le_of_ble_eq_true rfl) dX12_letterHere_28 rfl ?_
      intro r_137 N_138 q_139
      obtain ⟨rfl, q_139c⟩ := q_139
      rcases q_139c with q_139c | q_139c | q_139c | q_139c | q_139c
      · refine kx_istore 33 F 4 (lo' := [some (vR G 163), some (vI ((M 164 1088) + (M 164 1089))), some (vI 2), some (vI (M 164 1090)), some (vI r_137)]) dX12_letterHere_31 (by decide) rfl rfl rfl ?_
        refine kx_iload 35 F 4 dX12_letterHere_33 rfl rfl ?_
        refine kx_iconst 36 F dX12_letterHere_35 rfl ?_
        refine kx_icmp_eq 39 F 44 dX12_letterHere_36 (by decide) rfl (by omega) (by decide) (fun h_140 => (by exfalso; omega)) (fun h_140 => ?_)
        refine kx_iload_n 40 F 1 dX12_letterHere_39 rfl rfl rfl ?_
        refine kx_iload 42 F 4 dX12_letterHere_40 rfl rfl ?_
        refine kx_iadd 43 F (v := (M 164 1088) + (M 164 1089) + r_137) dX12_letterHere_42 rfl rfl ?_
        have hl_141 := lfn_c Bt t (q 0) (q 1) (q 2) j (by omega) (by omega) (by omega)
        exact kx_iret F hQ ⟨rfl, (by omega)⟩ dX12_letterHere_43
      · refine kx_istore 33 F 4 (lo' := [some (vR G 163), some (vI ((M 164 1088) + (M 164 1089))), some (vI 2), some (vI (M 164 1090)), some (vI r_137)]) dX12_letterHere_31 (by decide) rfl rfl rfl ?_
        refine kx_iload 35 F 4 dX12_letterHere_33 rfl rfl ?_
        refine kx_iconst 36 F dX12_letterHere_35 rfl ?_
        refine kx_icmp_eq 39 F 44 dX12_letterHere_36 (by decide) rfl (by omega) (by decide) (fun h_142 => (by exfalso; omega)) (fun h_142 => ?_)
        refine kx_iload_n 40 F 1 dX12_letterHere_39 rfl rfl rfl ?_
        refine kx_iload 42 F 4 dX12_letterHere_40 rfl rfl ?_
        refine kx_iadd 43 F (v := (M 164 1088) + (M 164 1089) + r_137) dX12_letterHere_42 rfl rfl ?_
        have hl_143 := lfn_c Bt t (q 0) (q 1) (q 2) j (by omega) (by omega) (by omega)
        exact kx_iret F hQ ⟨rfl, (by omega)⟩ dX12_letterHere_43
      · refine kx_istore 33 F 4 (lo' := [some (vR G 163), some (vI ((M 164 1088) + (M 164 1089))), some (vI 2), some (vI (M 164 1090)), some (vI r_137)]) dX12_letterHere_31 (by decide) rfl rfl rfl ?_
        refine kx_iload 35 F 4 dX12_letterHere_33 rfl rfl ?_
        refine kx_iconst 36 F dX12_letterHere_35 rfl ?_
        refine kx_icmp_eq 39 F 44 dX12_letterHere_36 (by decide) rfl (by omega) (by decide) (fun h_144 => ?_) (fun h_144 => (by exfalso; omega))
        refine kx_iload_n 45 F 1 dX12_letterHere_44 rfl rfl rfl ?_
        refine kx_iload_n 46 F 3 dX12_letterHere_45 rfl rfl rfl ?_
        refine kx_iadd 47 F (v := (M 164 1088) + (M 164 1089) + (M 164 1090)) dX12_letterHere_46 rfl rfl ?_
        refine kx_istore_n 48 F 1 (lo' := [some (vR G 163), some (vI ((M 164 1088) + (M 164 1089) + (M 164 1090))), some (vI 2), some (vI (M 164 1090)), some (vI r_137)]) dX12_letterHere_47 rfl (by decide) rfl rfl rfl ?_
        refine kx_iinc 51 F 2 (v := 3) (lo' := [some (vR G 163), some (vI ((M 164 1088) + (M 164 1089) + (M 164 1090))), some (vI 3), some (vI (M 164 1090)), some (vI r_137)]) dX12_letterHere_48 rfl (by omega) (by decide) rfl rfl rfl ?_
        refine kx_goto 4 F dX12_letterHere_51 (by decide) ?_
        refine kx_iload_n 5 F 2 dX12_letterHere_4 rfl rfl rfl ?_
        refine kx_iconst 6 F dX12_letterHere_5 rfl ?_
        refine kx_icmp_ge 9 F 54 dX12_letterHere_6 (by decide) rfl (by decide) (by decide) (fun h_145 => ?_) (fun h_145 => (by exfalso; omega))
        refine kx_iconst 55 F dX12_letterHere_54 rfl ?_
        have hl_146 := lfn_c Bt t (q 0) (q 1) (q 2) j (by omega) (by omega) (by omega)
        exact kx_iret F hQ ⟨rfl, (by omega)⟩ dX12_letterHere_55
      · refine kx_istore 33 F 4 (lo' := [some (vR G 163), some (vI ((M 164 1088) + (M 164 1089))), some (vI 2), some (vI (M 164 1090)), some (vI r_137)]) dX12_letterHere_31 (by decide) rfl rfl rfl ?_
        refine kx_iload 35 F 4 dX12_letterHere_33 rfl rfl ?_
        refine kx_iconst 36 F dX12_letterHere_35 rfl ?_
        refine kx_icmp_eq 39 F 44 dX12_letterHere_36 (by decide) rfl (by omega) (by decide) (fun h_147 => ?_) (fun h_147 => (by exfalso; omega))
        refine kx_iload_n 45 F 1 dX12_letterHere_44 rfl rfl rfl ?_
        refine kx_iload_n 46 F 3 dX12_letterHere_45 rfl rfl rfl ?_
        refine kx_iadd 47 F (v := (M 164 1088) + (M 164 1089) + (M 164 1090)) dX12_letterHere_46 rfl rfl ?_
        refine kx_istore_n 48 F 1 (lo' := [some (vR G 163), some (vI ((M 164 1088) + (M 164 1089) + (M 164 1090))), some (vI 2), some (vI (M 164 1090)), some (vI r_137)]) dX12_letterHere_47 rfl (by decide) rfl rfl rfl ?_
        refine kx_iinc 51 F 2 (v := 3) (lo' := [some (vR G 163), some (vI ((M 164 1088) + (M 164 1089) + (M 164 1090))), some (vI 3), some (vI (M 164 1090)), some (vI r_137)]) dX12_letterHere_48 rfl (by omega) (by decide) rfl rfl rfl ?_
        refine kx_goto 4 F dX12_letterHere_51 (by decide) ?_
        refine kx_iload_n 5 F 2 dX12_letterHere_4 rfl rfl rfl ?_
        refine kx_iconst 6 F dX12_letterHere_5 rfl ?_
        refine kx_icmp_ge 9 F 54 dX12_letterHere_6 (by decide) rfl (by decide) (by decide) (fun h_148 => ?_) (fun h_148 => (by exfalso; omega))
        refine kx_iconst 55 F dX12_letterHere_54 rfl ?_
        have hl_149 := lfn_c Bt t (q 0) (q 1) (q 2) j (by omega) (by omega) (by omega)
        exact kx_iret F hQ ⟨rfl, (by omega)⟩ dX12_letterHere_55
      · refine kx_istore 33 F 4 (lo' := [some (vR G 163), some (vI ((M 164 1088) + (M 164 1089))), some (vI 2), some (vI (M 164 1090)), some (vI r_137)]) dX12_letterHere_31 (by decide) rfl rfl rfl ?_
        refine kx_iload 35 F 4 dX12_letterHere_33 rfl rfl ?_
        refine kx_iconst 36 F dX12_letterHere_35 rfl ?_
        refine kx_icmp_eq 39 F 44 dX12_letterHere_36 (by decide) rfl (by omega) (by decide) (fun h_150 => ?_) (fun h_150 => (by exfalso; omega))
        refine kx_iload_n 45 F 1 dX12_letterHere_44 rfl rfl rfl ?_
        refine kx_iload_n 46 F 3 dX12_letterHere_45 rfl rfl rfl ?_
        refine kx_iadd 47 F (v := (M 164 1088) + (M 164 1089) + (M 164 1090)) dX12_letterHere_46 rfl rfl ?_
        refine kx_istore_n 48 F 1 (lo' := [some (vR G 163), some (vI ((M 164 1088) + (M 164 1089) + (M 164 1090))), some (vI 2), some (vI (M 164 1090)), some (vI r_137)]) dX12_letterHere_47 rfl (by decide) rfl rfl rfl ?_
        refine kx_iinc 51 F 2 (v := 3) (lo' := [some (vR G 163), some (vI ((M 164 1088) + (M 164 1089) + (M 164 1090))), some (vI 3), some (vI (M 164 1090)), some (vI r_137)]) dX12_letterHere_48 rfl (by omega) (by decide) rfl rfl rfl ?_
        refine kx_goto 4 F dX12_letterHere_51 (by decide) ?_
        refine kx_iload_n 5 F 2 dX12_letterHere_4 rfl rfl rfl ?_
        refine kx_iconst 6 F dX12_letterHere_5 rfl ?_
        refine kx_icmp_ge 9 F 54 dX12_letterHere_6 (by decide) rfl (by decide) (by decide) (fun h_151 => ?_) (fun h_151 => (by exfalso; omega))
        refine kx_iconst 55 F dX12_letterHere_54 rfl ?_
        have hl_152 := lfn_c Bt t (q 0) (q 1) (q 2) j (by omega) (by omega) (by omega)
        exact kx_iret F hQ ⟨rfl, (by omega)⟩ dX12_letterHere_55
  · refine kx_istore 33 F 4 (lo' := [some (vR G 163), some (vI 0), some (vI 0), some (vI (M 164 1088)), some (vI r_4)]) dX12_letterHere_31 (by decide) rfl rfl rfl ?_
    refine kx_iload 35 F 4 dX12_letterHere_33 rfl rfl ?_
    refine kx_iconst 36 F dX12_letterHere_35 rfl ?_
    refine kx_icmp_eq 39 F 44 dX12_letterHere_36 (by decide) rfl (by omega) (by decide) (fun h_153 => ?_) (fun h_153 => (by exfalso; omega))
    refine kx_iload_n 45 F 1 dX12_letterHere_44 rfl rfl rfl ?_
    refine kx_iload_n 46 F 3 dX12_letterHere_45 rfl rfl rfl ?_
    refine kx_iadd 47 F (v := (M 164 1088)) dX12_letterHere_46 (by omega) rfl ?_
    refine kx_istore_n 48 F 1 (lo' := [some (vR G 163), some (vI (M 164 1088)), some (vI 0), some (vI (M 164 1088)), some (vI r_4)]) dX12_letterHere_47 rfl (by decide) rfl rfl rfl ?_
    refine kx_iinc 51 F 2 (v := 1) (lo' := [some (vR G 163), some (vI (M 164 1088)), some (vI 1), some (vI (M 164 1088)), some (vI r_4)]) dX12_letterHere_48 rfl (by omega) (by decide) rfl rfl rfl ?_
    refine kx_goto 4 F dX12_letterHere_51 (by decide) ?_
    refine kx_iload_n 5 F 2 dX12_letterHere_4 rfl rfl rfl ?_
    refine kx_iconst 6 F dX12_letterHere_5 rfl ?_
    refine kx_icmp_ge 9 F 54 dX12_letterHere_6 (by decide) rfl (by decide) (by decide) (fun h_154 => (by exfalso; omega)) (fun h_154 => ?_)
    refine kx_aload_n 10 F 0 dX12_letterHere_9 rfl rfl rfl ?_
    refine kx_getr 13 F fl_X12_7 kd_163 rfl rfl (j := 0) rfl dX12_letterHere_10 (v := 164) (uq_164 (Inv.r hI_M kd_163 rfl 0 rfl rfl)) rfl ?_
    refine kx_sipush 16 F dX12_letterHere_13 (by decide) rfl ?_
    refine kx_iload_n 17 F 2 dX12_letterHere_16 rfl rfl rfl ?_
    refine kx_iadd 18 F (v := 1089) dX12_letterHere_17 (by omega) rfl ?_
    refine kx_iald 19 F kd_164 rfl rfl (by omega) (by decide) dX12_letterHere_18 (v := (M 164 1089)) rfl rfl ?_
    have ha_155 : atlo 1089 = 0 ∧ athi 1089 = 2 := at_c 1089 4 (o := 1) (lo := 0) (hi := 2) (by omega) (by decide) (by decide) (by decide)
    have h_156 := Inv.g hI_M kd_164 rfl 1089 (a := 0) (b := 2) ha_155.1 ha_155.2
    refine kx_istore_n 20 F 3 (lo' := [some (vR G 163), some (vI (M 164 1088)), some (vI 1), some (vI (M 164 1089)), some (vI r_4)]) dX12_letterHere_19 rfl (by decide) rfl rfl rfl ?_
    refine kx_aload_n 21 F 0 dX12_letterHere_20 rfl rfl rfl ?_
    refine kx_bipush 23 F dX12_letterHere_21 (by decide) rfl ?_
    refine kx_iconst 24 F dX12_letterHere_23 rfl ?_
    refine kx_iload_n 25 F 2 dX12_letterHere_24 rfl rfl rfl ?_
    refine kx_imul 26 F (v := 2) dX12_letterHere_25 (by omega) rfl ?_
    refine kx_iadd 27 F (v := 26) dX12_letterHere_26 (by omega) rfl ?_
    refine kx_iload_n 28 F 3 dX12_letterHere_27 rfl rfl rfl ?_
    refine kx_Vi 31 (ci := 0) F (As := [vI 26, vI (M 164 1089)]) (st := []) vd_X12_221 (e_X12_findHere G l M 26 (M 164 1089) hI_M (by omega) Bt hB j (by omega) hs hm (t 2) (t 3) (fun h => NR.g hN (s := 2) ⟨by omega, by omega⟩ (k := 1) (by omega) (by omega)) (fun h => NR.g hN (s := 3) ⟨by omega, by omega⟩ (k := 1) (by omega) (by omega))) kd_163 rfl rfl rfl ⟨by decide, by decide⟩ rfl rfl (Nat.le_of_ble_eq_true rfl) dX12_letterHere_28 rfl ?_
    intro r_157 N_158 q_159
    obtain ⟨rfl, q_159c⟩ := q_159
    rcases q_159c with q_159c | q_159c | q_159c | q_159c | q_159c
    · refine kx_istore 33 F 4 (lo' := [some (vR G 163), some (vI (M 164 1088)), some (vI 1), some (vI (M 164 1089)), some (vI r_157)]) dX12_letterHere_31 (by decide) rfl rfl rfl ?_
      refine kx_iload 35 F 4 dX12_letterHere_33 rfl rfl ?_
      refine kx_iconst 36 F dX12_letterHere_35 rfl ?_
      refine kx_icmp_eq 39 F 44 dX12_letterHere_36 (by decide) rfl (by omega) (by decide) (fun h_160 => (by exfalso; omega)) (fun h_160 => ?_)
      refine kx_iload_n 40 F 1 dX12_letterHere_39 rfl rfl rfl ?_
      refine kx_iload 42 F 4 dX12_letterHere_40 rfl rfl ?_
      refine kx_iadd 43 F (v := (M 164 1088) + r_157) dX12_letterHere_42 rfl rfl ?_
      have hl_161 := lfn_c Bt t (q 0) (q 1) (q 2) j (by omega) (by omega) (by omega)
      exact kx_iret F hQ ⟨rfl, (by omega)⟩ dX12_letterHere_43
    · refine kx_istore 33 F 4 (lo' := [some (vR G 163), some (vI (M 164 1088)), some (vI 1), some (vI (M 164 1089)), some (vI r_157)]) dX12_letterHere_31 (by decide) rfl rfl rfl ?_
      refine kx_iload 35 F 4 dX12_letterHere_33 rfl rfl ?_
      refine kx_iconst 36 F dX12_letterHere_35 rfl ?_
      refine kx_icmp_eq 39 F 44 dX12_letterHere_36 (by decide) rfl (by omega) (by decide) (fun h_162 => (by exfalso; omega)) (fun h_162 => ?_)
      refine kx_iload_n 40 F 1 dX12_letterHere_39 rfl rfl rfl ?_
      refine kx_iload 42 F 4 dX12_letterHere_40 rfl rfl ?_
      refine kx_iadd 43 F (v := (M 164 1088) + r_157) dX12_letterHere_42 rfl rfl ?_
      have hl_163 := lfn_c Bt t (q 0) (q 1) (q 2) j (by omega) (by omega) (by omega)
      exact kx_iret F hQ ⟨rfl, (by omega)⟩ dX12_letterHere_43
    · refine kx_istore 33 F 4 (lo' := [some (vR G 163), some (vI (M 164 1088)), some (vI 1), some (vI (M 164 1089)), some (vI r_157)]) dX12_letterHere_31 (by decide) rfl rfl rfl ?_
      refine kx_iload 35 F 4 dX12_letterHere_33 rfl rfl ?_
      refine kx_iconst 36 F dX12_letterHere_35 rfl ?_
      refine kx_icmp_eq 39 F 44 dX12_letterHere_36 (by decide) rfl (by omega) (by decide) (fun h_164 => ?_) (fun h_164 => (by exfalso; omega))
      refine kx_iload_n 45 F 1 dX12_letterHere_44 rfl rfl rfl ?_
      refine kx_iload_n 46 F 3 dX12_letterHere_45 rfl rfl rfl ?_
      refine kx_iadd 47 F (v := (M 164 1088) + (M 164 1089)) dX12_letterHere_46 rfl rfl ?_
      refine kx_istore_n 48 F 1 (lo' := [some (vR G 163), some (vI ((M 164 1088) + (M 164 1089))), some (vI 1), some (vI (M 164 1089)), some (vI r_157)]) dX12_letterHere_47 rfl (by decide) rfl rfl rfl ?_
      refine kx_iinc 51 F 2 (v := 2) (lo' := [some (vR G 163), some (vI ((M 164 1088) + (M 164 1089))), some (vI 2), some (vI (M 164 1089)), some (vI r_157)]) dX12_letterHere_48 rfl (by omega) (by decide) rfl rfl rfl ?_
      refine kx_goto 4 F dX12_letterHere_51 (by decide) ?_
      refine kx_iload_n 5 F 2 dX12_letterHere_4 rfl rfl rfl ?_
      refine kx_iconst 6 F dX12_letterHere_5 rfl ?_
      refine kx_icmp_ge 9 F 54 dX12_letterHere_6 (by decide) rfl (by decide) (by decide) (fun h_165 => (by exfalso; omega)) (fun h_165 => ?_)
      refine kx_aload_n 10 F 0 dX12_letterHere_9 rfl rfl rfl ?_
      refine kx_getr 13 F fl_X12_7 kd_163 rfl rfl (j := 0) rfl dX12_letterHere_10 (v := 164) (uq_164 (Inv.r hI_M kd_163 rfl 0 rfl rfl)) rfl ?_
      refine kx_sipush 16 F dX12_letterHere_13 (by decide) rfl ?_
      refine kx_iload_n 17 F 2 dX12_letterHere_16 rfl rfl rfl ?_
      refine kx_iadd 18 F (v := 1090) dX12_letterHere_17 (by omega) rfl ?_
      refine kx_iald 19 F kd_164 rfl rfl (by omega) (by decide) dX12_letterHere_18 (v := (M 164 1090)) rfl rfl ?_
      have ha_166 : atlo 1090 = 0 ∧ athi 1090 = 2 := at_c 1090 4 (o := 2) (lo := 0) (hi := 2) (by omega) (by decide) (by decide) (by decide)
      have h_167 := Inv.g hI_M kd_164 rfl 1090 (a := 0) (b := 2) ha_166.1 ha_166.2
      refine kx_istore_n 20 F 3 (lo' := [some (vR G 163), some (vI ((M 164 1088) + (M 164 1089))), some (vI 2), some (vI (M 164 1090)), some (vI r_157)]) dX12_letterHere_19 rfl (by decide) rfl rfl rfl ?_
      refine kx_aload_n 21 F 0 dX12_letterHere_20 rfl rfl rfl ?_
      refine kx_bipush 23 F dX12_letterHere_21 (by decide) rfl ?_
      refine kx_iconst 24 F dX12_letterHere_23 rfl ?_
      refine kx_iload_n 25 F 2 dX12_letterHere_24 rfl rfl rfl ?_
      refine kx_imul 26 F (v := 4) dX12_letterHere_25 (by omega) rfl ?_
      refine kx_iadd 27 F (v := 28) dX12_letterHere_26 (by omega) rfl ?_
      refine kx_iload_n 28 F 3 dX12_letterHere_27 rfl rfl rfl ?_
      refine kx_Vi 31 (ci := 0) F (As := [vI 28, vI (M 164 1090)]) (st := []) vd_X12_221 (e_X12_findHere G l M 28 (M 164 1090) hI_M (by omega) Bt hB j (by omega) hs hm (t 4) (t 5) (fun h => NR.g hN (s := 4) ⟨by omega, by omega⟩ (k := 2) (by omega) (by omega)) (fun h => NR.g hN (s := 5) ⟨by omega, by omega⟩ (k := 2) (by omega) (by omega))) kd_163 rfl rfl rfl ⟨by decide, by decide⟩ rfl rfl (Nat.le_of_ble_eq_true rfl) dX12_letterHere_28 rfl ?_
      intro r_168 N_169 q_170
      obtain ⟨rfl, q_170c⟩ := q_170
      rcases q_170c with q_170c | q_170c | q_170c | q_170c | q_170c
      · refine kx_istore 33 F 4 (lo' := [some (vR G 163), some (vI ((M 164 1088) + (M 164 1089))), some (vI 2), some (vI (M 164 1090)), some (vI r_168)]) dX12_letterHere_31 (by decide) rfl rfl rfl ?_
        refine kx_iload 35 F 4 dX12_letterHere_33 rfl rfl ?_
        refine kx_iconst 36 F dX12_letterHere_35 rfl ?_
        refine kx_icmp_eq 39 F 44 dX12_letterHere_36 (by decide) rfl (by omega) (by decide) (fun h_171 => (by exfalso; omega)) (fun h_171 => ?_)
        refine kx_iload_n 40 F 1 dX12_letterHere_39 rfl rfl rfl ?_
        refine kx_iload 42 F 4 dX12_letterHere_40 rfl rfl ?_
        refine kx_iadd 43 F (v := (M 164 1088) + (M 164 1089) + r_168) dX12_letterHere_42 rfl rfl ?_
        have hl_172 := lfn_c Bt t (q 0) (q 1) (q 2) j (by omega) (by omega) (by omega)
        exact kx_iret F hQ ⟨rfl, (by omega)⟩ dX12_letterHere_43
      · refine kx_istore 33 F 4 (lo' := [some (vR G 163), some (vI ((M 164 1088) + (M 164 1089))), some (vI 2), some (vI (M 164 1090)), some (vI r_168)]) dX12_letterHere_31 (by decide) rfl rfl rfl ?_
        refine kx_iload 35 F 4 dX12_letterHere_33 rfl rfl ?_
        refine kx_iconst 36 F dX12_letterHere_35 rfl ?_
        refine kx_icmp_eq 39 F 44 dX12_letterHere_36 (by decide) rfl (by omega) (by decide) (fun h_173 => (by exfalso; omega)) (fun h_173 => ?_)
        refine kx_iload_n 40 F 1 dX12_letterHere_39 rfl rfl rfl ?_
        refine kx_iload 42 F 4 dX12_letterHere_40 rfl rfl ?_
        refine kx_iadd 43 F (v := (M 164 1088) + (M 164 1089) + r_168) dX12_letterHere_42 rfl rfl ?_
        have hl_174 := lfn_c Bt t (q 0) (q 1) (q 2) j (by omega) (by omega) (by omega)
        exact kx_iret F hQ ⟨rfl, (by omega)⟩ dX12_letterHere_43
      · refine kx_istore 33 F 4 (lo' := [some (vR G 163), some (vI ((M 164 1088) + (M 164 1089))), some (vI 2), some (vI (M 164 1090)), some (vI r_168)]) dX12_letterHere_31 (by decide) rfl rfl rfl ?_
        refine kx_iload 35 F 4 dX12_letterHere_33 rfl rfl ?_
        refine kx_iconst 36 F dX12_letterHere_35 rfl ?_
        refine kx_icmp_eq 39 F 44 dX12_letterHere_36 (by decide) rfl (by omega) (by decide) (fun h_175 => ?_) (fun h_175 => (by exfalso; omega))
        refine kx_iload_n 45 F 1 dX12_letterHere_44 rfl rfl rfl ?_
        refine kx_iload_n 46 F 3 dX12_letterHere_45 rfl rfl rfl ?_
        refine kx_iadd 47 F (v := (M 164 1088) + (M 164 1089) + (M 164 1090)) dX12_letterHere_46 rfl rfl ?_
        refine kx_istore_n 48 F 1 (lo' := [some (vR G 163), some (vI ((M 164 1088) + (M 164 1089) + (M 164 1090))), some (vI 2), some (vI (M 164 1090)), some (vI r_168)]) dX12_letterHere_47 rfl (by decide) rfl rfl rfl ?_
        refine kx_iinc 51 F 2 (v := 3) (lo' := [some (vR G 163), some (vI ((M 164 1088) + (M 164 1089) + (M 164 1090))), some (vI 3), some (vI (M 164 1090)), some (vI r_168)]) dX12_letterHere_48 rfl (by omega) (by decide) rfl rfl rfl ?_
        refine kx_goto 4 F dX12_letterHere_51 (by decide) ?_
        refine kx_iload_n 5 F 2 dX12_letterHere_4 rfl rfl rfl ?_
        refine kx_iconst 6 F dX12_letterHere_5 rfl ?_
        refine kx_icmp_ge 9 F 54 dX12_letterHere_6 (by decide) rfl (by decide) (by decide) (fun h_176 => ?_) (fun h_176 => (by exfalso; omega))
        refine kx_iconst 55 F dX12_letterHere_54 rfl ?_
        have hl_177 := lfn_c Bt t (q 0) (q 1) (q 2) j (by omega) (by omega) (by omega)
        exact kx_iret F hQ ⟨rfl, (by omega)⟩ dX12_letterHere_55
      · refine kx_istore 33 F 4 (lo' := [some (vR G 163), some (vI ((M 164 1088) + (M 164 1089))), some (vI 2), some (vI (M 164 1090)), some (vI r_168)]) dX12_letterHere_31 (by decide) rfl rfl rfl ?_
        refine kx_iload 35 F 4 dX12_letterHere_33 rfl rfl ?_
        refine kx_iconst 36 F dX12_letterHere_35 rfl ?_
        refine kx_icmp_eq 39 F 44 dX12_letterHere_36 (by decide) rfl (by omega) (by decide) (fun h_178 => ?_) (fun h_178 => (by exfalso; omega))
        refine kx_iload_n 45 F 1 dX12_letterHere_44 rfl rfl rfl ?_
        refine kx_iload_n 46 F 3 dX12_letterHere_45 rfl rfl rfl ?_
        refine kx_iadd 47 F (v := (M 164 1088) + (M 164 1089) + (M 164 1090)) dX12_letterHere_46 rfl rfl ?_
        refine kx_istore_n 48 F 1 (lo' := [some (vR G 163), some (vI ((M 164 1088) + (M 164 1089) + (M 164 1090))), some (vI 2), some (vI (M 164 1090)), some (vI r_168)]) dX12_letterHere_47 rfl (by decide) rfl rfl rfl ?_
        refine kx_iinc 51 F 2 (v := 3) (lo' := [some (vR G 163), some (vI ((M 164 1088) + (M 164 1089) + (M 164 1090))), some (vI 3), some (vI (M 164 1090)), some (vI r_168)]) dX12_letterHere_48 rfl (by omega) (by decide) rfl rfl rfl ?_
        refine kx_goto 4 F dX12_letterHere_51 (by decide) ?_
        refine kx_iload_n 5 F 2 dX12_letterHere_4 rfl rfl rfl ?_
        refine kx_iconst 6 F dX12_letterHere_5 rfl ?_
        refine kx_icmp_ge 9 F 54 dX12_letterHere_6 (by decide) rfl (by decide) (by decide) (fun h_179 => ?_) (fun h_179 => (by exfalso; omega))
        refine kx_iconst 55 F dX12_letterHere_54 rfl ?_
        have hl_180 := lfn_c Bt t (q 0) (q 1) (q 2) j (by omega) (by omega) (by omega)
        exact kx_iret F hQ ⟨rfl, (by omega)⟩ dX12_letterHere_55
      · refine kx_istore 33 F 4 (lo' := [some (vR G 163), some (vI ((M 164 1088) + (M 164 1089))), some (vI 2), some (vI (M 164 1090)), some (vI r_168)]) dX12_letterHere_31 (by decide) rfl rfl rfl ?_
        refine kx_iload 35 F 4 dX12_letterHere_33 rfl rfl ?_
        refine kx_iconst 36 F dX12_letterHere_35 rfl ?_
        refine kx_icmp_eq 39 F 44 dX12_letterHere_36 (by decide) rfl (by omega) (by decide) (fun h_181 => ?_) (fun h_181 => (by exfalso; omega))
        refine kx_iload_n 45 F 1 dX12_letterHere_44 rfl rfl rfl ?_
        refine kx_iload_n 46 F 3 dX12_letterHere_45 rfl rfl rfl ?_
        refine kx_iadd 47 F (v := (M 164 1088) + (M 164 1089) + (M 164 1090)) dX12_letterHere_46 rfl rfl ?_
        refine kx_istore_n 48 F 1 (lo' := [some (vR G 163), some (vI ((M 164 1088) + (M 164 1089) + (M 164 1090))), some (vI 2), some (vI (M 164 1090)), some (vI r_168)]) dX12_letterHere_47 rfl (by decide) rfl rfl rfl ?_
        refine kx_iinc 51 F 2 (v := 3) (lo' := [some (vR G 163), some (vI ((M 164 1088) + (M 164 1089) + (M 164 1090))), some (vI 3), some (vI (M 164 1090)), some (vI r_168)]) dX12_letterHere_48 rfl (by omega) (by decide) rfl rfl rfl ?_
        refine kx_goto 4 F dX12_letterHere_51 (by decide) ?_
        refine kx_iload_n 5 F 2 dX12_letterHere_4 rfl rfl rfl ?_
        refine kx_iconst 6 F dX12_letterHere_5 rfl ?_
        refine kx_icmp_ge 9 F 54 dX12_letterHere_6 (by decide) rfl (by decide) (by decide) (fun h_182 => ?_) (fun h_182 => (by exfalso; omega))
        refine kx_iconst 55 F dX12_letterHere_54 rfl ?_
        have hl_183 := lfn_c Bt t (q 0) (q 1) (q 2) j (by omega) (by omega) (by omega)
        exact kx_iret F hQ ⟨rfl, (by omega)⟩ dX12_letterHere_55
    · refine kx_istore 33 F 4 (lo' := [some (vR G 163), some (vI (M 164 1088)), some (vI 1), some (vI (M 164 1089)), some (vI r_157)]) dX12_letterHere_31 (by decide) rfl rfl rfl ?_
      refine kx_iload 35 F 4 dX12_letterHere_33 rfl rfl ?_
      refine kx_iconst 36 F dX12_letterHere_35 rfl ?_
      refine kx_icmp_eq 39 F 44 dX12_letterHere_36 (by decide) rfl (by omega) (by decide) (fun h_184 => ?_) (fun h_184 => (by exfalso; omega))
      refine kx_iload_n 45 F 1 dX12_letterHere_44 rfl rfl rfl ?_
      refine kx_iload_n 46 F 3 dX12_letterHere_45 rfl rfl rfl ?_
      refine kx_iadd 47 F (v := (M 164 1088) + (M 164 1089)) dX12_letterHere_46 rfl rfl ?_
      refine kx_istore_n 48 F 1 (lo' := [some (vR G 163), some (vI ((M 164 1088) + (M 164 1089))), some (vI 1), some (vI (M 164 1089)), some (vI r_157)]) dX12_letterHere_47 rfl (by decide) rfl rfl rfl ?_
      refine kx_iinc 51 F 2 (v := 2) (lo' := [some (vR G 163), some (vI ((M 164 1088) + (M 164 1089))), some (vI 2), some (vI (M 164 1089)), some (vI r_157)]) dX12_letterHere_48 rfl (by omega) (by decide) rfl rfl rfl ?_
      refine kx_goto 4 F dX12_letterHere_51 (by decide) ?_
      refine kx_iload_n 5 F 2 dX12_letterHere_4 rfl rfl rfl ?_
      refine kx_iconst 6 F dX12_letterHere_5 rfl ?_
      refine kx_icmp_ge 9 F 54 dX12_letterHere_6 (by decide) rfl (by decide) (by decide) (fun h_185 => (by exfalso; omega)) (fun h_185 => ?_)
      refine kx_aload_n 10 F 0 dX12_letterHere_9 rfl rfl rfl ?_
      refine kx_getr 13 F fl_X12_7 kd_163 rfl rfl (j := 0) rfl dX12_letterHere_10 (v := 164) (uq_164 (Inv.r hI_M kd_163 rfl 0 rfl rfl)) rfl ?_
      refine kx_sipush 16 F dX12_letterHere_13 (by decide) rfl ?_
      refine kx_iload_n 17 F 2 dX12_letterHere_16 rfl rfl rfl ?_
      refine kx_iadd 18 F (v := 1090) dX12_letterHere_17 (by omega) rfl ?_
      refine kx_iald 19 F kd_164 rfl rfl (by omega) (by decide) dX12_letterHere_18 (v := (M 164 1090)) rfl rfl ?_
      have ha_186 : atlo 1090 = 0 ∧ athi 1090 = 2 := at_c 1090 4 (o := 2) (lo := 0) (hi := 2) (by omega) (by decide) (by decide) (by decide)
      have h_187 := Inv.g hI_M kd_164 rfl 1090 (a := 0) (b := 2) ha_186.1 ha_186.2
      refine kx_istore_n 20 F 3 (lo' := [some (vR G 163), some (vI ((M 164 1088) + (M 164 1089))), some (vI 2), some (vI (M 164 1090)), some (vI r_157)]) dX12_letterHere_19 rfl (by decide) rfl rfl rfl ?_
      refine kx_aload_n 21 F 0 dX12_letterHere_20 rfl rfl rfl ?_
      refine kx_bipush 23 F dX12_letterHere_21 (by decide) rfl ?_
      refine kx_iconst 24 F dX12_letterHere_23 rfl ?_
      refine kx_iload_n 25 F 2 dX12_letterHere_24 rfl rfl rfl ?_
      refine kx_imul 26 F (v := 4) dX12_letterHere_25 (by omega) rfl ?_
      refine kx_iadd 27 F (v := 28) dX12_letterHere_26 (by omega) rfl ?_
      refine kx_iload_n 28 F 3 dX12_letterHere_27 rfl rfl rfl ?_
      refine kx_Vi 31 (ci := 0) F (As := [vI 28, vI (M 164 1090)]) (st := []) vd_X12_221 (e_X12_findHere G l M 28 (M 164 1090) hI_M (by omega) Bt hB j (by omega) hs hm (t 4) (t 5) (fun h => NR.g hN (s := 4) ⟨by omega, by omega⟩ (k := 2) (by omega) (by omega)) (fun h => NR.g hN (s := 5) ⟨by omega, by omega⟩ (k := 2) (by omega) (by omega))) kd_163 rfl rfl rfl ⟨by decide, by decide⟩ rfl rfl (Nat.le_of_ble_eq_true rfl) dX12_letterHere_28 rfl ?_
      intro r_188 N_189 q_190
      obtain ⟨rfl, q_190c⟩ := q_190
      rcases q_190c with q_190c | q_190c | q_190c | q_190c | q_190c
      · refine kx_istore 33 F 4 (lo' := [some (vR G 163), some (vI ((M 164 1088) + (M 164 1089))), some (vI 2), some (vI (M 164 1090)), some (vI r_188)]) dX12_letterHere_31 (by decide) rfl rfl rfl ?_
        refine kx_iload 35 F 4 dX12_letterHere_33 rfl rfl ?_
        refine kx_iconst 36 F dX12_letterHere_35 rfl ?_
        refine kx_icmp_eq 39 F 44 dX12_letterHere_36 (by decide) rfl (by omega) (by decide) (fun h_191 => (by exfalso; omega)) (fun h_191 => ?_)
        refine kx_iload_n 40 F 1 dX12_letterHere_39 rfl rfl rfl ?_
        refine kx_iload 42 F 4 dX12_letterHere_40 rfl rfl ?_
        refine kx_iadd 43 F (v := (M 164 1088) + (M 164 1089) + r_188) dX12_letterHere_42 rfl rfl ?_
        have hl_192 := lfn_c Bt t (q 0) (q 1) (q 2) j (by omega) (by omega) (by omega)
        exact kx_iret F hQ ⟨rfl, (by omega)⟩ dX12_letterHere_43
      · refine kx_istore 33 F 4 (lo' := [some (vR G 163), some (vI ((M 164 1088) + (M 164 1089))), some (vI 2), some (vI (M 164 1090)), some (vI r_188)]) dX12_letterHere_31 (by decide) rfl rfl rfl ?_
        refine kx_iload 35 F 4 dX12_letterHere_33 rfl rfl ?_
        refine kx_iconst 36 F dX12_letterHere_35 rfl ?_
        refine kx_icmp_eq 39 F 44 dX12_letterHere_36 (by decide) rfl (by omega) (by decide) (fun h_193 => (by exfalso; omega)) (fun h_193 => ?_)
        refine kx_iload_n 40 F 1 dX12_letterHere_39 rfl rfl rfl ?_
        refine kx_iload 42 F 4 dX12_letterHere_40 rfl rfl ?_
        refine kx_iadd 43 F (v := (M 164 1088) + (M 164 1089) + r_188) dX12_letterHere_42 rfl rfl ?_
        have hl_194 := lfn_c Bt t (q 0) (q 1) (q 2) j (by omega) (by omega) (by omega)
        exact kx_iret F hQ ⟨rfl, (by omega)⟩ dX12_letterHere_43
      · refine kx_istore 33 F 4 (lo' := [some (vR G 163), some (vI ((M 164 1088) + (M 164 1089))), some (vI 2), some (vI (M 164 1090)), some (vI r_188)]) dX12_letterHere_31 (by decide) rfl rfl rfl ?_
        refine kx_iload 35 F 4 dX12_letterHere_33 rfl rfl ?_
        refine kx_iconst 36 F dX12_letterHere_35 rfl ?_
        refine kx_icmp_eq 39 F 44 dX12_letterHere_36 (by decide) rfl (by omega) (by decide) (fun h_195 => ?_) (fun h_195 => (by exfalso; omega))
        refine kx_iload_n 45 F 1 dX12_letterHere_44 rfl rfl rfl ?_
        refine kx_iload_n 46 F 3 dX12_letterHere_45 rfl rfl rfl ?_
        refine kx_iadd 47 F (v := (M 164 1088) + (M 164 1089) + (M 164 1090)) dX12_letterHere_46 rfl rfl ?_
        refine kx_istore_n 48 F 1 (lo' := [some (vR G 163), some (vI ((M 164 1088) + (M 164 1089) + (M 164 1090))), some (vI 2), some (vI (M 164 1090)), some (vI r_188)]) dX12_letterHere_47 rfl (by decide) rfl rfl rfl ?_
        refine kx_iinc 51 F 2 (v := 3) (lo' := [some (vR G 163), some (vI ((M 164 1088) + (M 164 1089) + (M 164 1090))), some (vI 3), some (vI (M 164 1090)), some (vI r_188)]) dX12_letterHere_48 rfl (by omega) (by decide) rfl rfl rfl ?_
        refine kx_goto 4 F dX12_letterHere_51 (by decide) ?_
        refine kx_iload_n 5 F 2 dX12_letterHere_4 rfl rfl rfl ?_
        refine kx_iconst 6 F dX12_letterHere_5 rfl ?_
        refine kx_icmp_ge 9 F 54 dX12_letterHere_6 (by decide) rfl (by decide) (by decide) (fun h_196 => ?_) (fun h_196 => (by exfalso; omega))
        refine kx_iconst 55 F dX12_letterHere_54 rfl ?_
        have hl_197 := lfn_c Bt t (q 0) (q 1) (q 2) j (by omega) (by omega) (by omega)
        exact kx_iret F hQ ⟨rfl, (by omega)⟩ dX12_letterHere_55
      · refine kx_istore 33 F 4 (lo' := [some (vR G 163), some (vI ((M 164 1088) + (M 164 1089))), some (vI 2), some (vI (M 164 1090)), some (vI r_188)]) dX12_letterHere_31 (by decide) rfl rfl rfl ?_
        refine kx_iload 35 F 4 dX12_letterHere_33 rfl rfl ?_
        refine kx_iconst 36 F dX12_letterHere_35 rfl ?_
        refine kx_icmp_eq 39 F 44 dX12_letterHere_36 (by decide) rfl (by omega) (by decide) (fun h_198 => ?_) (fun h_198 => (by exfalso; omega))
        refine kx_iload_n 45 F 1 dX12_letterHere_44 rfl rfl rfl ?_
        refine kx_iload_n 46 F 3 dX12_letterHere_45 rfl rfl rfl ?_
        refine kx_iadd 47 F (v := (M 164 1088) + (M 164 1089) + (M 164 1090)) dX12_letterHere_46 rfl rfl ?_
        refine kx_istore_n 48 F 1 (lo' := [some (vR G 163), some (vI ((M 164 1088) + (M 164 1089) + (M 164 1090))), some (vI 2), some (vI (M 164 1090)), some (vI r_188)]) dX12_letterHere_47 rfl (by decide) rfl rfl rfl ?_
        refine kx_iinc 51 F 2 (v := 3) (lo' := [some (vR G 163), some (vI ((M 164 1088) + (M 164 1089) + (M 164 1090))), some (vI 3), some (vI (M 164 1090)), some (vI r_188)]) dX12_letterHere_48 rfl (by omega) (by decide) rfl rfl rfl ?_
        refine kx_goto 4 F dX12_letterHere_51 (by decide) ?_
        refine kx_iload_n 5 F 2 dX12_letterHere_4 rfl rfl rfl ?_
        refine kx_iconst 6 F dX12_letterHere_5 rfl ?_
        refine kx_icmp_ge 9 F 54 dX12_letterHere_6 (by decide) rfl (by decide) (by decide) (fun h_199 => ?_) (fun h_199 => (by exfalso; omega))
        refine kx_iconst 55 F dX12_letterHere_54 rfl ?_
        have hl_200 := lfn_c Bt t (q 0) (q 1) (q 2) j (by omega) (by omega) (by omega)
        exact kx_iret F hQ ⟨rfl, (by omega)⟩ dX12_letterHere_55
      · refine kx_istore 33 F 4 (lo' := [some (vR G 163), some (vI ((M 164 1088) + (M 164 1089))), some (vI 2), some (vI (M 164 1090)), some (vI r_188)]) dX12_letterHere_31 (by decide) rfl rfl rfl ?_
        refine kx_iload 35 F 4 dX12_letterHere_33 rfl rfl ?_
        refine kx_iconst 36 F dX12_letterHere_35 rfl ?_
        refine kx_icmp_eq 39 F 44 dX12_letterHere_36 (by decide) rfl (by omega) (by decide) (fun h_201 => ?_) (fun h_201 => (by exfalso; omega))
        refine kx_iload_n 45 F 1 dX12_letterHere_44 rfl rfl rfl ?_
        refine kx_iload_n 46 F 3 dX12_letterHere_45 rfl rfl rfl ?_
        refine kx_iadd 47 F (v := (M 164 1088) + (M 164 1089) + (M 164 1090)) dX12_letterHere_46 rfl rfl ?_
        refine kx_istore_n 48 F 1 (lo' := [some (vR G 163), some (vI ((M 164 1088) + (M 164 1089) + (M 164 1090))), some (vI 2), some (vI (M 164 1090)), some (vI r_188)]) dX12_letterHere_47 rfl (by decide) rfl rfl rfl ?_
        refine kx_iinc 51 F 2 (v := 3) (lo' := [some (vR G 163), some (vI ((M 164 1088) + (M 164 1089) + (M 164 1090))), some (vI 3), some (vI (M 164 1090)), some (vI r_188)]) dX12_letterHere_48 rfl (by omega) (by decide) rfl rfl rfl ?_
        refine kx_goto 4 F dX12_letterHere_51 (by decide) ?_
        refine kx_iload_n 5 F 2 dX12_letterHere_4 rfl rfl rfl ?_
        refine kx_iconst 6 F dX12_letterHere_5 rfl ?_
        refine kx_icmp_ge 9 F 54 dX12_letterHere_6 (by decide) rfl (by decide) (by decide) (fun h_202 => ?_) (fun h_202 => (by exfalso; omega))
        refine kx_iconst 55 F dX12_letterHere_54 rfl ?_
        have hl_203 := lfn_c Bt t (q 0) (q 1) (q 2) j (by omega) (by omega) (by omega)
        exact kx_iret F hQ ⟨rfl, (by omega)⟩ dX12_letterHere_55
    · refine kx_istore 33 F 4 (lo' := [some (vR G 163), some (vI (M 164 1088)), some (vI 1), some (vI (M 164 1089)), some (vI r_157)]) dX12_letterHere_31 (by decide) rfl rfl rfl ?_
      refine kx_iload 35 F 4 dX12_letterHere_33 rfl rfl ?_
      refine kx_iconst 36 F dX12_letterHere_35 rfl ?_
      refine kx_icmp_eq 39 F 44 dX12_letterHere_36 (by decide) rfl (by omega) (by decide) (fun h_204 => ?_) (fun h_204 => (by exfalso; omega))
      refine kx_iload_n 45 F 1 dX12_letterHere_44 rfl rfl rfl ?_
      refine kx_iload_n 46 F 3 dX12_letterHere_45 rfl rfl rfl ?_
      refine kx_iadd 47 F (v := (M 164 1088) + (M 164 1089)) dX12_letterHere_46 rfl rfl ?_
      refine kx_istore_n 48 F 1 (lo' := [some (vR G 163), some (vI ((M 164 1088) + (M 164 1089))), some (vI 1), some (vI (M 164 1089)), some (vI r_157)]) dX12_letterHere_47 rfl (by decide) rfl rfl rfl ?_
      refine kx_iinc 51 F 2 (v := 2) (lo' := [some (vR G 163), some (vI ((M 164 1088) + (M 164 1089))), some (vI 2), some (vI (M 164 1089)), some (vI r_157)]) dX12_letterHere_48 rfl (by omega) (by decide) rfl rfl rfl ?_
      refine kx_goto 4 F dX12_letterHere_51 (by decide) ?_
      refine kx_iload_n 5 F 2 dX12_letterHere_4 rfl rfl rfl ?_
      refine kx_iconst 6 F dX12_letterHere_5 rfl ?_
      refine kx_icmp_ge 9 F 54 dX12_letterHere_6 (by decide) rfl (by decide) (by decide) (fun h_205 => (by exfalso; omega)) (fun h_205 => ?_)
      refine kx_aload_n 10 F 0 dX12_letterHere_9 rfl rfl rfl ?_
      refine kx_getr 13 F fl_X12_7 kd_163 rfl rfl (j := 0) rfl dX12_letterHere_10 (v := 164) (uq_164 (Inv.r hI_M kd_163 rfl 0 rfl rfl)) rfl ?_
      refine kx_sipush 16 F dX12_letterHere_13 (by decide) rfl ?_
      refine kx_iload_n 17 F 2 dX12_letterHere_16 rfl rfl rfl ?_
      refine kx_iadd 18 F (v := 1090) dX12_letterHere_17 (by omega) rfl ?_
      refine kx_iald 19 F kd_164 rfl rfl (by omega) (by decide) dX12_letterHere_18 (v := (M 164 1090)) rfl rfl ?_
      have ha_206 : atlo 1090 = 0 ∧ athi 1090 = 2 := at_c 1090 4 (o := 2) (lo := 0) (hi := 2) (by omega) (by decide) (by decide) (by decide)
      have h_207 := Inv.g hI_M kd_164 rfl 1090 (a := 0) (b := 2) ha_206.1 ha_206.2
      refine kx_istore_n 20 F 3 (lo' := [some (vR G 163), some (vI ((M 164 1088) + (M 164 1089))), some (vI 2), some (vI (M 164 1090)), some (vI r_157)]) dX12_letterHere_19 rfl (by decide) rfl rfl rfl ?_
      refine kx_aload_n 21 F 0 dX12_letterHere_20 rfl rfl rfl ?_
      refine kx_bipush 23 F dX12_letterHere_21 (by decide) rfl ?_
      refine kx_iconst 24 F dX12_letterHere_23 rfl ?_
      refine kx_iload_n 25 F 2 dX12_letterHere_24 rfl rfl rfl ?_
      refine kx_imul 26 F (v := 4) dX12_letterHere_25 (by omega) rfl ?_
      refine kx_iadd 27 F (v := 28) dX12_letterHere_26 (by omega) rfl ?_
      refine kx_iload_n 28 F 3 dX12_letterHere_27 rfl rfl rfl ?_
      refine kx_Vi 31 (ci := 0) F (As := [vI 28, vI (M 164 1090)]) (st := []) vd_X12_221 (e_X12_findHere G l M 28 (M 164 1090) hI_M (by omega) Bt hB j (by omega) hs hm (t 4) (t 5) (fun h => NR.g hN (s := 4) ⟨by omega, by omega⟩ (k := 2) (by omega) (by omega)) (fun h => NR.g hN (s := 5) ⟨by omega, by omega⟩ (k := 2) (by omega) (by omega))) kd_163 rfl rfl rfl ⟨by decide, by decide⟩ rfl rfl (Nat.le_of_ble_eq_true rfl) dX12_letterHere_28 rfl ?_
      intro r_208 N_209 q_210
      obtain ⟨rfl, q_210c⟩ := q_210
      rcases q_210c with q_210c | q_210c | q_210c | q_210c | q_210c
      · refine kx_istore 33 F 4 (lo' := [some (vR G 163), some (vI ((M 164 1088) + (M 164 1089))), some (vI 2), some (vI (M 164 1090)), some (vI r_208)]) dX12_letterHere_31 (by decide) rfl rfl rfl ?_
        refine kx_iload 35 F 4 dX12_letterHere_33 rfl rfl ?_
        refine kx_iconst 36 F dX12_letterHere_35 rfl ?_
        refine kx_icmp_eq 39 F 44 dX12_letterHere_36 (by decide) rfl (by omega) (by decide) (fun h_211 => (by exfalso; omega)) (fun h_211 => ?_)
        refine kx_iload_n 40 F 1 dX12_letterHere_39 rfl rfl rfl ?_
        refine kx_iload 42 F 4 dX12_letterHere_40 rfl rfl ?_
        refine kx_iadd 43 F (v := (M 164 1088) + (M 164 1089) + r_208) dX12_letterHere_42 rfl rfl ?_
        have hl_212 := lfn_c Bt t (q 0) (q 1) (q 2) j (by omega) (by omega) (by omega)
        exact kx_iret F hQ ⟨rfl, (by omega)⟩ dX12_letterHere_43
      · refine kx_istore 33 F 4 (lo' := [some (vR G 163), some (vI ((M 164 1088) + (M 164 1089))), some (vI 2), some (vI (M 164 1090)), some (vI r_208)]) dX12_letterHere_31 (by decide) rfl rfl rfl ?_
        refine kx_iload 35 F 4 dX12_letterHere_33 rfl rfl ?_
        refine kx_iconst 36 F dX12_letterHere_35 rfl ?_
        refine kx_icmp_eq 39 F 44 dX12_letterHere_36 (by decide) rfl (by omega) (by decide) (fun h_213 => (by exfalso; omega)) (fun h_213 => ?_)
        refine kx_iload_n 40 F 1 dX12_letterHere_39 rfl rfl rfl ?_
        refine kx_iload 42 F 4 dX12_letterHere_40 rfl rfl ?_
        refine kx_iadd 43 F (v := (M 164 1088) + (M 164 1089) + r_208) dX12_letterHere_42 rfl rfl ?_
        have hl_214 := lfn_c Bt t (q 0) (q 1) (q 2) j (by omega) (by omega) (by omega)
        exact kx_iret F hQ ⟨rfl, (by omega)⟩ dX12_letterHere_43
      · refine kx_istore 33 F 4 (lo' := [some (vR G 163), some (vI ((M 164 1088) + (M 164 1089))), some (vI 2), some (vI (M 164 1090)), some (vI r_208)]) dX12_letterHere_31 (by decide) rfl rfl rfl ?_
        refine kx_iload 35 F 4 dX12_letterHere_33 rfl rfl ?_
        refine kx_iconst 36 F dX12_letterHere_35 rfl ?_
        refine kx_icmp_eq 39 F 44 dX12_letterHere_36 (by decide) rfl (by omega) (by decide) (fun h_215 => ?_) (fun h_215 => (by exfalso; omega))
        refine kx_iload_n 45 F 1 dX12_letterHere_44 rfl rfl rfl ?_
        refine kx_iload_n 46 F 3 dX12_letterHere_45 rfl rfl rfl ?_
        refine kx_iadd 47 F (v := (M 164 1088) + (M 164 1089) + (M 164 1090)) dX12_letterHere_46 rfl rfl ?_
        refine kx_istore_n 48 F 1 (lo' := [some (vR G 163), some (vI ((M 164 1088) + (M 164 1089) + (M 164 1090))), some (vI 2), some (vI (M 164 1090)), some (vI r_208)]) dX12_letterHere_47 rfl (by decide) rfl rfl rfl ?_
        refine kx_iinc 51 F 2 (v := 3) (lo' := [some (vR G 163), some (vI ((M 164 1088) + (M 164 1089) + (M 164 1090))), some (vI 3), some (vI (M 164 1090)), some (vI r_208)]) dX12_letterHere_48 rfl (by omega) (by decide) rfl rfl rfl ?_
        refine kx_goto 4 F dX12_letterHere_51 (by decide) ?_
        refine kx_iload_n 5 F 2 dX12_letterHere_4 rfl rfl rfl ?_
        refine kx_iconst 6 F dX12_letterHere_5 rfl ?_
        refine kx_icmp_ge 9 F 54 dX12_letterHere_6 (by decide) rfl (by decide) (by decide) (fun h_216 => ?_) (fun h_216 => (by exfalso; omega))
        refine kx_iconst 55 F dX12_letterHere_54 rfl ?_
        have hl_217 := lfn_c Bt t (q 0) (q 1) (q 2) j (by omega) (by omega) (by omega)
        exact kx_iret F hQ ⟨rfl, (by omega)⟩ dX12_letterHere_55
      · refine kx_istore 33 F 4 (lo' := [some (vR G 163), some (vI ((M 164 1088) + (M 164 1089))), some (vI 2), some (vI (M 164 1090)), some (vI r_208)]) dX12_letterHere_31 (by decide) rfl rfl rfl ?_
        refine kx_iload 35 F 4 dX12_letterHere_33 rfl rfl ?_
        refine kx_iconst 36 F dX12_letterHere_35 rfl ?_
        refine kx_icmp_eq 39 F 44 dX12_letterHere_36 (by decide) rfl (by omega) (by decide) (fun h_218 => ?_) (fun h_218 => (by exfalso; omega))
        refine kx_iload_n 45 F 1 dX12_letterHere_44 rfl rfl rfl ?_
        refine kx_iload_n 46 F 3 dX12_letterHere_45 rfl rfl rfl ?_
        refine kx_iadd 47 F (v := (M 164 1088) + (M 164 1089) + (M 164 1090)) dX12_letterHere_46 rfl rfl ?_
        refine kx_istore_n 48 F 1 (lo' := [some (vR G 163), some (vI ((M 164 1088) + (M 164 1089) + (M 164 1090))), some (vI 2), some (vI (M 164 1090)), some (vI r_208)]) dX12_letterHere_47 rfl (by decide) rfl rfl rfl ?_
        refine kx_iinc 51 F 2 (v := 3) (lo' := [some (vR G 163), some (vI ((M 164 1088) + (M 164 1089) + (M 164 1090))), some (vI 3), some (vI (M 164 1090)), some (vI r_208)]) dX12_letterHere_48 rfl (by omega) (by decide) rfl rfl rfl ?_
        refine kx_goto 4 F dX12_letterHere_51 (by decide) ?_
        refine kx_iload_n 5 F 2 dX12_letterHere_4 rfl rfl rfl ?_
        refine kx_iconst 6 F dX12_letterHere_5 rfl ?_
        refine kx_icmp_ge 9 F 54 dX12_letterHere_6 (by decide) rfl (by decide) (by decide) (fun h_219 => ?_) (fun h_219 => (by exfalso; omega))
        refine kx_iconst 55 F dX12_letterHere_54 rfl ?_
        have hl_220 := lfn_c Bt t (q 0) (q 1) (q 2) j (by omega) (by omega) (by omega)
        exact kx_iret F hQ ⟨rfl, (by omega)⟩ dX12_letterHere_55
      · refine kx_istore 33 F 4 (lo' := [some (vR G 163), some (vI ((M 164 1088) + (M 164 1089))), some (vI 2), some (vI (M 164 1090)), some (vI r_208)]) dX12_letterHere_31 (by decide) rfl rfl rfl ?_
        refine kx_iload 35 F 4 dX12_letterHere_33 rfl rfl ?_
        refine kx_iconst 36 F dX12_letterHere_35 rfl ?_
        refine kx_icmp_eq 39 F 44 dX12_letterHere_36 (by decide) rfl (by omega) (by decide) (fun h_221 => ?_) (fun h_221 => (by exfalso; omega))
        refine kx_iload_n 45 F 1 dX12_letterHere_44 rfl rfl rfl ?_
        refine kx_iload_n 46 F 3 dX12_letterHere_45 rfl rfl rfl ?_
        refine kx_iadd 47 F (v := (M 164 1088) + (M 164 1089) + (M 164 1090)) dX12_letterHere_46 rfl rfl ?_
        refine kx_istore_n 48 F 1 (lo' := [some (vR G 163), some (vI ((M 164 1088) + (M 164 1089) + (M 164 1090))), some (vI 2), some (vI (M 164 1090)), some (vI r_208)]) dX12_letterHere_47 rfl (by decide) rfl rfl rfl ?_
        refine kx_iinc 51 F 2 (v := 3) (lo' := [some (vR G 163), some (vI ((M 164 1088) + (M 164 1089) + (M 164 1090))), some (vI 3), some (vI (M 164 1090)), some (vI r_208)]) dX12_letterHere_48 rfl (by omega) (by decide) rfl rfl rfl ?_
        refine kx_goto 4 F dX12_letterHere_51 (by decide) ?_
        refine kx_iload_n 5 F 2 dX12_letterHere_4 rfl rfl rfl ?_
        refine kx_iconst 6 F dX12_letterHere_5 rfl ?_
        refine kx_icmp_ge 9 F 54 dX12_letterHere_6 (by decide) rfl (by decide) (by decide) (fun h_222 => ?_) (fun h_222 => (by exfalso; omega))
        refine kx_iconst 55 F dX12_letterHere_54 rfl ?_
        have hl_223 := lfn_c Bt t (q 0) (q 1) (q 2) j (by omega) (by omega) (by omega)
        exact kx_iret F hQ ⟨rfl, (by omega)⟩ dX12_letterHere_55
abbrev f_e_X12_fails : List (Nat × Int) := [(64, 17), (64, 18)]
set_option maxHeartbeats 4000000 in
set_option maxRecDepth 100000 in
theorem e_X12_fails (G : KG) (l : Launch) (M : Mem) (a1 : Int) (hI_M : Inv true M) (hpre : -2147483648 ≤ a1 ∧ a1 ≤ 2147483647 ∧ (M 163 18) = 0 ∧ a1 ≠ 0) (Bt : Int → Int) (hB : TM M Bt) (j : Int) (hj : 0 ≤ j) (hs : RT M Bt j) : KC true G l yX12_fails cX12_fails 2 (some .boolean) (0, 0) [vR G 163, vI a1] M (fun A => kQi true G A (fun (r : Int) (N : Mem) => Inv true N ∧ Fr f_e_X12_fails M N ∧ ((r = 0 ∧ (tbd Bt j) = 1 ∧ (N 163 18) = 1 ∧ (N 163 17) = (tp Bt j)) ∨ (r = 0 ∧ (tbd Bt j) = 0 ∧ (N 163 18) = a1 ∧ (N 163 17) = (tp Bt j))))) := by
  refine kx_met (lo := [some (vR G 163), some (vI a1)]) (by decide) (Nat.le_of_ble_eq_true rfl) rfl ?_
  intro X F hQ
  have hF_M : Fr f_e_X12_fails M M := Fr.rf _ _
  have h_1 := Inv.g hI_M kd_163 rfl 18 (a := (-2147483648)) (b := 2147483647) rfl rfl
  have hu_2 := hs.u
  have ht_3 := tp_le (n := M 163 11) (TM.tx hB hI_M) (Inv.g hI_M kd_163 rfl 11 (a := 0) (b := 900) rfl rfl).1 (j := j) (by omega)
  have h_4 := Inv.g hI_M kd_163 rfl 11 (a := 0) (b := 900) rfl rfl
  refine kx_aload_n 1 F 0 dX12_fails_0 rfl rfl rfl ?_
  refine kx_geti 4 F fl_X12_193 kd_163 rfl rfl (j := 18) rfl dX12_fails_1 (v := (M 163 18)) rfl rfl ?_
  refine kx_if_ne 7 F 32 dX12_fails_4 (by decide) rfl (by omega) (fun h_5 => (by exfalso; omega)) (fun h_5 => ?_)
  refine kx_aload_n 8 F 0 dX12_fails_7 rfl rfl rfl ?_
  refine kx_aload_n 9 F 0 dX12_fails_8 rfl rfl rfl ?_
  refine kx_geti 12 F fl_X12_168 kd_163 rfl rfl (j := 12) rfl dX12_fails_9 (v := (M 163 12)) rfl rfl ?_
  have h_6 := Inv.g hI_M kd_163 rfl 12 (a := 0) (b := 4) rfl rfl
  refine kx_iconst 13 F dX12_fails_12 rfl ?_
  refine kx_icmp_ne 16 F 20 dX12_fails_13 (by decide) rfl (by omega) (by decide) (fun h_7 => ?_) (fun h_7 => ?_)
  · refine kx_iload_n 21 F 1 dX12_fails_20 rfl rfl rfl ?_
    refine kx_puti 24 F fw_X12_193 rfl kd_163 rfl rfl (j := 18) rfl dX12_fails_21 rfl ?_
    intro N_8 hM_N_8
    have hI_N_8 : Inv true N_8 := Inv.u hI_M hM_N_8 kd_163 (a := (-2147483648)) (b := 2147483647) rfl rfl rfl (by omega)
    have hF_N_8 : Fr f_e_X12_fails M N_8 := Fr.u hF_M hM_N_8 kd_163 rfl
    refine kx_aload_n 25 F 0 dX12_fails_24 rfl rfl rfl ?_
    refine kx_aload_n 26 F 0 dX12_fails_25 rfl rfl rfl ?_
    refine kx_geti 29 F fl_X12_162 kd_163 rfl rfl (j := 13) rfl dX12_fails_26 (v := (M 163 13)) (by rw [hM_N_8, mu_i (by omega)]) rfl ?_
    have h_9 := Inv.g hI_M kd_163 rfl 13 (a := 0) (b := 900) rfl rfl
    refine kx_puti 32 F fw_X12_41 rfl kd_163 rfl rfl (j := 17) rfl dX12_fails_29 rfl ?_
    intro N_10 hM_N_10
    have hI_N_10 : Inv true N_10 := Inv.u hI_N_8 hM_N_10 kd_163 (a := (-2147483648)) (b := 2147483647) rfl rfl rfl (by omega)
    have hF_N_10 : Fr f_e_X12_fails M N_10 := Fr.u hF_N_8 hM_N_10 kd_163 rfl
    refine kx_iconst 33 F dX12_fails_32 rfl ?_
    have e_11 : (N_10 163 18) = a1 := by rw [hM_N_10, mu_i (by omega), hM_N_8, mu_s]
    have e_12 : (N_10 163 17) = (M 163 13) := by rw [hM_N_10, mu_s]
    exact kx_zret F hQ (by omega) ⟨hI_N_10, hF_N_10, (by omega)⟩ dX12_fails_33
  · refine kx_iconst 17 F dX12_fails_16 rfl ?_
    refine kx_goto 21 F dX12_fails_17 (by decide) ?_
    refine kx_puti 24 F fw_X12_193 rfl kd_163 rfl rfl (j := 18) rfl dX12_fails_21 rfl ?_
    intro N_15 hM_N_15
    have hI_N_15 : Inv true N_15 := Inv.u hI_M hM_N_15 kd_163 (a := (-2147483648)) (b := 2147483647) rfl rfl rfl (by omega)
    have hF_N_15 : Fr f_e_X12_fails M N_15 := Fr.u hF_M hM_N_15 kd_163 rfl
    refine kx_aload_n 25 F 0 dX12_fails_24 rfl rfl rfl ?_
    refine kx_aload_n 26 F 0 dX12_fails_25 rfl rfl rfl ?_
    refine kx_geti 29 F fl_X12_162 kd_163 rfl rfl (j := 13) rfl dX12_fails_26 (v := (M 163 13)) (by rw [hM_N_15, mu_i (by omega)]) rfl ?_
    have h_16 := Inv.g hI_M kd_163 rfl 13 (a := 0) (b := 900) rfl rfl
    refine kx_puti 32 F fw_X12_41 rfl kd_163 rfl rfl (j := 17) rfl dX12_fails_29 rfl ?_
    intro N_17 hM_N_17
    have hI_N_17 : Inv true N_17 := Inv.u hI_N_15 hM_N_17 kd_163 (a := (-2147483648)) (b := 2147483647) rfl rfl rfl (by omega)
    have hF_N_17 : Fr f_e_X12_fails M N_17 := Fr.u hF_N_15 hM_N_17 kd_163 rfl
    refine kx_iconst 33 F dX12_fails_32 rfl ?_
    have e_18 : (N_17 163 18) = 1 := by rw [hM_N_17, mu_i (by omega), hM_N_15, mu_s]
    have e_19 : (N_17 163 17) = (M 163 13) := by rw [hM_N_17, mu_s]
    exact kx_zret F hQ (by omega) ⟨hI_N_17, hF_N_17, (by omega)⟩ dX12_fails_33
set_option maxHeartbeats 4000000 in
set_option maxRecDepth 100000 in
theorem e_X12_isSign (G : KG) (l : Launch) (M : Mem) (a1 : Int) (hI_M : Inv true M) (hpre : -2147483648 ≤ a1 ∧ a1 ≤ 2147483647 ∧ a1 = 59) (Bt : Int → Int) (hB : TM M Bt) (j : Int) (hj : 0 ≤ j) (hs : RT M Bt j) : KC true G l yX12_isSign cX12_isSign 2 (some .boolean) (0, 0) [vR G 163, vI a1] M (fun A => kQi true G A (fun (r : Int) (N : Mem) => M = N ∧ ((r = 1 ∧ (tk Bt j) = 3) ∨ (r = 0 ∧ (tk Bt j) ≠ 3)))) := by
  refine kx_met (lo := [some (vR G 163), some (vI a1)]) (by decide) (Nat.le_of_ble_eq_true rfl) rfl ?_
  intro X F hQ
  have hu_1 := hs.u
  have ht_2 := tp_le (n := M 163 11) (TM.tx hB hI_M) (Inv.g hI_M kd_163 rfl 11 (a := 0) (b := 900) rfl rfl).1 (j := j) (by omega)
  have h_3 := Inv.g hI_M kd_163 rfl 11 (a := 0) (b := 900) rfl rfl
  refine kx_aload_n 1 F 0 dX12_isSign_0 rfl rfl rfl ?_
  refine kx_geti 4 F fl_X12_168 kd_163 rfl rfl (j := 12) rfl dX12_isSign_1 (v := (M 163 12)) rfl rfl ?_
  have h_4 := Inv.g hI_M kd_163 rfl 12 (a := 0) (b := 4) rfl rfl
  refine kx_iconst 5 F dX12_isSign_4 rfl ?_
  refine kx_icmp_ne 8 F 20 dX12_isSign_5 (by decide) rfl (by omega) (by decide) (fun h_5 => ?_) (fun h_5 => ?_)
  · refine kx_iconst 21 F dX12_isSign_20 rfl ?_
    exact kx_zret F hQ (by omega) ⟨rfl, (by omega)⟩ dX12_isSign_21
  · refine kx_aload_n 9 F 0 dX12_isSign_8 rfl rfl rfl ?_
    refine kx_geti 12 F fl_X12_165 kd_163 rfl rfl (j := 15) rfl dX12_isSign_9 (v := (M 163 15)) rfl rfl ?_
    have h_6 := Inv.g hI_M kd_163 rfl 15 (a := (-2147483648)) (b := 2147483647) rfl rfl
    refine kx_iload_n 13 F 1 dX12_isSign_12 rfl rfl rfl ?_
    refine kx_icmp_ne 16 F 20 dX12_isSign_13 (by decide) rfl (by omega) (by omega) (fun h_7 => ?_) (fun h_7 => ?_)
    · refine kx_iconst 21 F dX12_isSign_20 rfl ?_
      exact kx_zret F hQ (by omega) ⟨rfl, (by omega)⟩ dX12_isSign_21
    · refine kx_iconst 17 F dX12_isSign_16 rfl ?_
      refine kx_goto 21 F dX12_isSign_17 (by decide) ?_
      exact kx_zret F hQ (by omega) ⟨rfl, (by omega)⟩ dX12_isSign_21
abbrev f_e_X12_wantSign : List (Nat × Int) := [(64, 12), (64, 13), (64, 14), (64, 15), (64, 17), (64, 18)]
set_option maxHeartbeats 4000000 in
set_option maxRecDepth 100000 in
theorem e_X12_wantSign (G : KG) (l : Launch) (M : Mem) (a1 : Int) (hI_M : Inv true M) (hpre : -2147483648 ≤ a1 ∧ a1 ≤ 2147483647 ∧ (M 163 18) = 0 ∧ a1 = 59) (Bt : Int → Int) (hB : TM M Bt) (j : Int) (hj : 0 ≤ j) (hs : RT M Bt j) : KC true G l yX12_wantSign cX12_wantSign 2 (some .boolean) (2, 42) [vR G 163, vI a1] M (fun A => kQi true G A (fun (r : Int) (N : Mem) => Inv true N ∧ Fr f_e_X12_wantSign M N ∧ ((r = 1 ∧ (tk Bt j) = 3 ∧ (N 163 18) = (M 163 18) ∧ (N 163 17) = (M 163 17)) ∨ (r = 0 ∧ (tk Bt j) ≠ 3 ∧ (tbd Bt j) = 1 ∧ (N 163 18) = 1 ∧ (N 163 17) = (tp Bt j)) ∨ (r = 0 ∧ (tk Bt j) ≠ 3 ∧ (tbd Bt j) = 0 ∧ (N 163 18) = 2 ∧ (N 163 17) = (tp Bt j))) ∧ (r = 1 → RT N Bt (j + 1)))) := by
  refine kx_met (lo := [some (vR G 163), some (vI a1)]) (by decide) (Nat.le_of_ble_eq_true rfl) rfl ?_
  intro X F hQ
  have hF_M : Fr f_e_X12_wantSign M M := Fr.rf _ _
  have h_1 := Inv.g hI_M kd_163 rfl 18 (a := (-2147483648)) (b := 2147483647) rfl rfl
  have hu_2 := hs.u
  have ht_3 := tp_le (n := M 163 11) (TM.tx hB hI_M) (Inv.g hI_M kd_163 rfl 11 (a := 0) (b := 900) rfl rfl).1 (j := j) (by omega)
  have h_4 := Inv.g hI_M kd_163 rfl 11 (a := 0) (b := 900) rfl rfl
  refine kx_aload_n 1 F 0 dX12_wantSign_0 rfl rfl rfl ?_
  refine kx_iload_n 2 F 1 dX12_wantSign_1 rfl rfl rfl ?_
  refine kx_Vi 5 (ci := 0) F (As := [vI a1]) (st := []) vd_X12_202 (e_X12_isSign G l M a1 hI_M (by omega) Bt hB j (by omega) hs) kd_163 rfl rfl rfl ⟨by decide, by decide⟩ rfl rfl (Nat.le_of_ble_eq_true rfl) dX12_wantSign_2 rfl ?_
  intro r_5 N_6 q_7
  obtain ⟨rfl, q_7c⟩ := q_7
  rcases q_7c with q_7c | q_7c
  · refine kx_if_ne 8 F 14 dX12_wantSign_5 (by decide) rfl (by omega) (fun h_8 => ?_) (fun h_8 => (by exfalso; omega))
    refine kx_aload_n 15 F 0 dX12_wantSign_14 rfl rfl rfl ?_
    have hu_9 := hs.2.1
    refine kx_Vv 18 (ci := 0) F (As := []) (st := []) vd_X12_199 (e_X12_ahead G l M  hI_M Bt hB (j + 1) j (by omega) (by omega) hu_9) kd_163 rfl rfl rfl ⟨by decide, by decide⟩ rfl rfl (Nat.le_of_ble_eq_true rfl) dX12_wantSign_15 rfl ?_
    intro N_10 q_11
    obtain ⟨hI_N_10, hG_N_10, ht_N_10⟩ := q_11
    have hF_N_10 : Fr f_e_X12_wantSign M N_10 := Fr.c hF_M hG_N_10 rfl
    refine kx_iconst 19 F dX12_wantSign_18 rfl ?_
    have e_12 : (N_10 163 18) = (M 163 18) := by rw [Fr.e hG_N_10 kd_163 _ rfl]
    have e_13 : (N_10 163 17) = (M 163 17) := by rw [Fr.e hG_N_10 kd_163 _ rfl]
    have h_14 := Inv.g hI_M kd_163 rfl 17 (a := (-2147483648)) (b := 2147483647) rfl rfl
    exact kx_zret F hQ (by omega) ⟨hI_N_10, hF_N_10, (Or.inl (by omega)), (fun _ => ht_N_10)⟩ dX12_wantSign_19
  · refine kx_if_ne 8 F 14 dX12_wantSign_5 (by decide) rfl (by omega) (fun h_19 => (by exfalso; omega)) (fun h_19 => ?_)
    refine kx_aload_n 9 F 0 dX12_wantSign_8 rfl rfl rfl ?_
    refine kx_iconst 10 F dX12_wantSign_9 rfl ?_
    refine kx_Vi 13 (ci := 0) F (As := [vI 2]) (st := []) vd_X12_205 (e_X12_fails G l M 2 hI_M (by omega) Bt hB j (by omega) hs) kd_163 rfl rfl rfl ⟨by decide, by decide⟩ rfl rfl (Nat.le_of_ble_eq_true rfl) dX12_wantSign_10 rfl ?_
    intro r_20 N_21 q_22
    obtain ⟨hI_N_21, hG_N_21, q_22c⟩ := q_22
    have hF_N_21 : Fr f_e_X12_wantSign M N_21 := Fr.c hF_M hG_N_21 rfl
    have h_23 := Inv.g hI_N_21 kd_163 rfl 18 (a := (-2147483648)) (b := 2147483647) rfl rfl
    have h_24 := Inv.g hI_N_21 kd_163 rfl 17 (a := (-2147483648)) (b := 2147483647) rfl rfl
    rcases q_22c with q_22c | q_22c
    · exact kx_zret F hQ (by omega) ⟨hI_N_21, hF_N_21, (Or.inr (Or.inl (by omega))), (fun h => absurd h (by omega))⟩ dX12_wantSign_13
    · exact kx_zret F hQ (by omega) ⟨hI_N_21, hF_N_21, (Or.inr (Or.inr (by omega))), (fun h => absurd h (by omega))⟩ dX12_wantSign_13
abbrev f_e_X12_wantWord : List (Nat × Int) := [(64, 12), (64, 13), (64, 14), (64, 15), (64, 17), (64, 18)]
set_option maxHeartbeats 4000000 in
set_option maxRecDepth 100000 in
theorem e_X12_wantWord (G : KG) (l : Launch) (M : Mem) (a2 : Int) (hI_M : Inv true M) (hpre : -2147483648 ≤ a2 ∧ a2 ≤ 2147483647 ∧ (M 163 18) = 0 ∧ 0 ≤ a2 ∧ a2 ≤ 10) (Bt : Int → Int) (hB : TM M Bt) (j : Int) (hj : 0 ≤ j) (hs : RT M Bt j) : KC true G l yX12_wantWord cX12_wantWord 3 (some .boolean) (5, 111) [vR G 163, vT G 11, vI a2] M (fun A => kQi true G A (fun (r : Int) (N : Mem) => Inv true N ∧ Fr f_e_X12_wantWord M N ∧ ((r = 1 ∧ (kwd Bt j) = a2 ∧ (N 163 18) = (M 163 18) ∧ (N 163 17) = (M 163 17)) ∨ (r = 0 ∧ (kwd Bt j) ≠ a2 ∧ (tbd Bt j) = 1 ∧ (N 163 18) = 1 ∧ (N 163 17) = (tp Bt j)) ∨ (r = 0 ∧ (kwd Bt j) ≠ a2 ∧ (tbd Bt j) = 0 ∧ (N 163 18) = 2 ∧ (N 163 17) = (tp Bt j))) ∧ (r = 1 → RT N Bt (j + 1)))) := by
  refine kx_met (lo := [some (vR G 163), some (vT G 11), some (vI a2)]) (by decide) (Nat.le_of_ble_eq_true rfl) rfl ?_
  intro X F hQ
  have hF_M : Fr f_e_X12_wantWord M M := Fr.rf _ _
  have h_1 := Inv.g hI_M kd_163 rfl 18 (a := (-2147483648)) (b := 2147483647) rfl rfl
  have hu_2 := hs.u
  have ht_3 := tp_le (n := M 163 11) (TM.tx hB hI_M) (Inv.g hI_M kd_163 rfl 11 (a := 0) (b := 900) rfl rfl).1 (j := j) (by omega)
  have h_4 := Inv.g hI_M kd_163 rfl 11 (a := 0) (b := 900) rfl rfl
  refine kx_aload_n 1 F 0 dX12_wantWord_0 rfl rfl rfl ?_
  refine kx_aload_n 2 F 1 dX12_wantWord_1 rfl rfl rfl ?_
  refine kx_Vi 5 (ci := 0) F (As := [vT G 11]) (st := []) vd_X12_208 (e_X12_inWords G l M  hI_M Bt hB j (by omega) hs) kd_163 rfl rfl rfl ⟨by decide, by decide⟩ rfl rfl (Nat.le_of_ble_eq_true rfl) dX12_wantWord_2 rfl ?_
  intro r_5 N_6 q_7
  obtain ⟨rfl, q_7c⟩ := q_7
  refine kx_topi (e' := (kwd Bt j)) (by omega) ?_
  refine kx_iload_n 6 F 2 dX12_wantWord_5 rfl rfl rfl ?_
  refine kx_icmp_eq 9 F 15 dX12_wantWord_6 (by decide) rfl (by omega) (by omega) (fun h_8 => ?_) (fun h_8 => ?_)
  · refine kx_aload_n 16 F 0 dX12_wantWord_15 rfl rfl rfl ?_
    have hu_9 := hs.2.1
    refine kx_Vv 19 (ci := 0) F (As := []) (st := []) vd_X12_199 (e_X12_ahead G l M  hI_M Bt hB (j + 1) j (by omega) (by omega) hu_9) kd_163 rfl rfl rfl ⟨by decide, by decide⟩ rfl rfl (Nat.le_of_ble_eq_true rfl) dX12_wantWord_16 rfl ?_
    intro N_10 q_11
    obtain ⟨hI_N_10, hG_N_10, ht_N_10⟩ := q_11
    have hF_N_10 : Fr f_e_X12_wantWord M N_10 := Fr.c hF_M hG_N_10 rfl
    refine kx_iconst 20 F dX12_wantWord_19 rfl ?_
    have e_12 : (N_10 163 18) = (M 163 18) := by rw [Fr.e hG_N_10 kd_163 _ rfl]
    have e_13 : (N_10 163 17) = (M 163 17) := by rw [Fr.e hG_N_10 kd_163 _ rfl]
    have h_14 := Inv.g hI_M kd_163 rfl 17 (a := (-2147483648)) (b := 2147483647) rfl rfl
    exact kx_zret F hQ (by omega) ⟨hI_N_10, hF_N_10, (Or.inl (by omega)), (fun _ => ht_N_10)⟩ dX12_wantWord_20
  · refine kx_aload_n 10 F 0 dX12_wantWord_9 rfl rfl rfl ?_
    refine kx_iconst 11 F dX12_wantWord_10 rfl ?_
    refine kx_Vi 14 (ci := 0) F (As := [vI 2]) (st := []) vd_X12_205 (e_X12_fails G l M 2 hI_M (by omega) Bt hB j (by omega) hs) kd_163 rfl rfl rfl ⟨by decide, by decide⟩ rfl rfl (Nat.le_of_ble_eq_true rfl) dX12_wantWord_11 rfl ?_
    intro r_19 N_20 q_21
    obtain ⟨hI_N_20, hG_N_20, q_21c⟩ := q_21
    have hF_N_20 : Fr f_e_X12_wantWord M N_20 := Fr.c hF_M hG_N_20 rfl
    have h_22 := Inv.g hI_N_20 kd_163 rfl 18 (a := (-2147483648)) (b := 2147483647) rfl rfl
    have h_23 := Inv.g hI_N_20 kd_163 rfl 17 (a := (-2147483648)) (b := 2147483647) rfl rfl
    rcases q_21c with q_21c | q_21c
    · exact kx_zret F hQ (by omega) ⟨hI_N_20, hF_N_20, (Or.inr (Or.inl (by omega))), (fun h => absurd h (by omega))⟩ dX12_wantWord_14
    · exact kx_zret F hQ (by omega) ⟨hI_N_20, hF_N_20, (Or.inr (Or.inr (by omega))), (fun h => absurd h (by omega))⟩ dX12_wantWord_14
abbrev f_e_X12_isThere : List (Nat × Int) := [(64, 12), (64, 13), (64, 14), (64, 15)]
set_option maxHeartbeats 4000000 in
set_option maxRecDepth 100000 in
theorem e_X12_isThere (G : KG) (l : Launch) (M : Mem) (a1 : Int) (hI_M : Inv true M) (hpre : -2147483648 ≤ a1 ∧ a1 ≤ 2147483647 ∧ 0 ≤ a1 ∧ a1 ≤ 10) (Bt : Int → Int) (hB : TM M Bt) (j : Int) (hj : 0 ≤ j) (hs : RT M Bt j) : KC true G l yX12_isThere cX12_isThere 2 (some .boolean) (5, 111) [vR G 163, vI a1] M (fun A => kQi true G A (fun (r : Int) (N : Mem) => Inv true N ∧ Fr f_e_X12_isThere M N ∧ ((r = 1 ∧ (kwd Bt j) = a1 ∧ (N 163 18) = (M 163 18) ∧ (N 163 17) = (M 163 17)) ∨ (r = 0 ∧ (kwd Bt j) ≠ a1 ∧ (N 163 18) = (M 163 18) ∧ (N 163 17) = (M 163 17))) ∧ ((r = 1 → RT N Bt (j + 1)) ∧ (r = 0 → RT N Bt j)))) := by
  refine kx_met (lo := [some (vR G 163), some (vI a1)]) (by decide) (Nat.le_of_ble_eq_true rfl) rfl ?_
  intro X F hQ
  have hF_M : Fr f_e_X12_isThere M M := Fr.rf _ _
  have hu_1 := hs.u
  have ht_2 := tp_le (n := M 163 11) (TM.tx hB hI_M) (Inv.g hI_M kd_163 rfl 11 (a := 0) (b := 900) rfl rfl).1 (j := j) (by omega)
  have h_3 := Inv.g hI_M kd_163 rfl 11 (a := 0) (b := 900) rfl rfl
  refine kx_aload_n 1 F 0 dX12_isThere_0 rfl rfl rfl ?_
  refine kx_ldcS 3 F 11 (by decide) rfl rfl dX12_isThere_1 rfl ?_
  refine kx_Vi 6 (ci := 0) F (As := [vT G 11]) (st := []) vd_X12_208 (e_X12_inWords G l M  hI_M Bt hB j (by omega) hs) kd_163 rfl rfl rfl ⟨by decide, by decide⟩ rfl rfl (Nat.le_of_ble_eq_true rfl) dX12_isThere_3 rfl ?_
  intro r_4 N_5 q_6
  obtain ⟨rfl, q_6c⟩ := q_6
  refine kx_topi (e' := (kwd Bt j)) (by omega) ?_
  refine kx_iload_n 7 F 1 dX12_isThere_6 rfl rfl rfl ?_
  refine kx_icmp_eq 10 F 12 dX12_isThere_7 (by decide) rfl (by omega) (by omega) (fun h_7 => ?_) (fun h_7 => ?_)
  · refine kx_aload_n 13 F 0 dX12_isThere_12 rfl rfl rfl ?_
    have hu_8 := hs.2.1
    refine kx_Vv 16 (ci := 0) F (As := []) (st := []) vd_X12_199 (e_X12_ahead G l M  hI_M Bt hB (j + 1) j (by omega) (by omega) hu_8) kd_163 rfl rfl rfl ⟨by decide, by decide⟩ rfl rfl (Nat.le_of_ble_eq_true rfl) dX12_isThere_13 rfl ?_
    intro N_9 q_10
    obtain ⟨hI_N_9, hG_N_9, ht_N_9⟩ := q_10
    have hF_N_9 : Fr f_e_X12_isThere M N_9 := Fr.c hF_M hG_N_9 rfl
    refine kx_iconst 17 F dX12_isThere_16 rfl ?_
    have e_11 : (N_9 163 18) = (M 163 18) := by rw [Fr.e hG_N_9 kd_163 _ rfl]
    have h_12 := Inv.g hI_M kd_163 rfl 18 (a := (-2147483648)) (b := 2147483647) rfl rfl
    have e_13 : (N_9 163 17) = (M 163 17) := by rw [Fr.e hG_N_9 kd_163 _ rfl]
    have h_14 := Inv.g hI_M kd_163 rfl 17 (a := (-2147483648)) (b := 2147483647) rfl rfl
    exact kx_zret F hQ (by omega) ⟨hI_N_9, hF_N_9, (by omega), ⟨fun _ => ht_N_9, fun h => absurd h (by omega)⟩⟩ dX12_isThere_17
  · refine kx_iconst 11 F dX12_isThere_10 rfl ?_
    have h_17 := Inv.g hI_M kd_163 rfl 18 (a := (-2147483648)) (b := 2147483647) rfl rfl
    have h_18 := Inv.g hI_M kd_163 rfl 17 (a := (-2147483648)) (b := 2147483647) rfl rfl
    exact kx_zret F hQ (by omega) ⟨hI_M, hF_M, (by omega), ⟨fun h => absurd h (by omega), fun _ => hs⟩⟩ dX12_isThere_11
