set_option maxHeartbeats 4000000 in
set_option maxRecDepth 100000 in
theorem lc_status {G : KG} {X : KX} {l : Launch} {b L : Nat} {sq : Nat → Int32} {ce sl : Nat} (F : kF false G X l code RL 4 (some .boolean) room_1) (S : LSq X b L sq) (hL : L ≤ 3072) (hcr : ce ≤ 600000 ∧ sl ≤ 7302250) {M N : Mem} (hI : Inv false M) (hX : XX M) (hJ : Inv true N) (hY : YY N) (hm : Tie M N) {i : Int} (hi : 0 ≤ i ∧ i + 6 ≤ L) (K : ∀ M' N' : Mem, Inv false M' → XX M' → Inv true N' → YY N' → Tie M' N' → LJ G X ce sl M' N' 2050 [some (.ref b), some (vR G 0), some (vR G 163), some (vI i)] []) : LJ G X ce sl M N 248 [some (.ref b), some (vR G 0), some (vR G 163), some (vI i)] [] := by
  refine kw_aload_n 249 F 1 dL_law_248 rfl rfl rfl ?_
  refine kw_VCi 252 F (As := []) (st := []) vd_L_13 (c_X11_status G l M 0 hI kd_0) kd_0 rfl rfl rfl ⟨by decide, by decide⟩ rfl rfl (Nat.le_of_ble_eq_true rfl) dL_law_249 rfl hcr ?_
  intro r1 U2 q3
  obtain ⟨rfl, q3⟩ := q3
  refine kw_pop 253 F dL_law_252 rfl rfl ?_
  refine kw_aload_n 254 F 2 dL_law_253 rfl rfl rfl ?_
  refine kw_VMi 257 F (As := []) (st := []) vd_L_17 (c_X12_status G l N hJ) kd_163 rfl rfl rfl ⟨by decide, by decide⟩ rfl rfl (Nat.le_of_ble_eq_true rfl) dL_law_254 rfl hcr ?_
  intro r4 U5 q6
  obtain ⟨rfl, q6⟩ := q6
  have ht : Tie M N := hm
  refine kw_pop 258 F dL_law_257 rfl rfl ?_
  refine kw_goto 2050 F dL_law_258 (by decide) ?_
  exact K M N hI hX hJ hY ht
set_option maxHeartbeats 4000000 in
set_option maxRecDepth 100000 in
theorem lc_top {G : KG} {X : KX} {l : Launch} {b L : Nat} {sq : Nat → Int32} {ce sl : Nat} (F : kF false G X l code RL 4 (some .boolean) room_1) (S : LSq X b L sq) (hL : L ≤ 3072) (hcr : ce ≤ 600000 ∧ sl ≤ 7302250) {M N : Mem} (hI : Inv false M) (hX : XX M) (hJ : Inv true N) (hY : YY N) (hm : Tie M N) {i : Int} (hi : 0 ≤ i ∧ i + 6 ≤ L) (K : ∀ M' N' : Mem, Inv false M' → XX M' → Inv true N' → YY N' → Tie M' N' → LJ G X ce sl M' N' 2050 [some (.ref b), some (vR G 0), some (vR G 163), some (vI i)] []) : LJ G X ce sl M N 261 [some (.ref b), some (vR G 0), some (vR G 163), some (vI i)] [] := by
  refine kw_aload_n 262 F 1 dL_law_261 rfl rfl rfl ?_
  refine kw_VCl 265 F (As := []) (st := []) vd_L_18 (c_X11_top G l M 0 hI kd_0) kd_0 rfl rfl rfl ⟨by decide, by decide⟩ rfl rfl (Nat.le_of_ble_eq_true rfl) dL_law_262 rfl hcr ?_
  intro r1 U2 q3
  obtain ⟨rfl, q3⟩ := q3
  refine kw_pop2 266 F dL_law_265 rfl rfl ?_
  refine kw_aload_n 267 F 2 dL_law_266 rfl rfl rfl ?_
  refine kw_VMl 270 F (As := []) (st := []) vd_L_22 (c_X12_top G l N hJ) kd_163 rfl rfl rfl ⟨by decide, by decide⟩ rfl rfl (Nat.le_of_ble_eq_true rfl) dL_law_267 rfl hcr ?_
  intro r4 U5 q6
  obtain ⟨rfl, q6⟩ := q6
  have ht : Tie M N := hm
  refine kw_pop2 271 F dL_law_270 rfl rfl ?_
  refine kw_goto 2050 F dL_law_271 (by decide) ?_
  exact K M N hI hX hJ hY ht
set_option maxHeartbeats 4000000 in
set_option maxRecDepth 100000 in
theorem lc_bottom {G : KG} {X : KX} {l : Launch} {b L : Nat} {sq : Nat → Int32} {ce sl : Nat} (F : kF false G X l code RL 4 (some .boolean) room_1) (S : LSq X b L sq) (hL : L ≤ 3072) (hcr : ce ≤ 600000 ∧ sl ≤ 7302250) {M N : Mem} (hI : Inv false M) (hX : XX M) (hJ : Inv true N) (hY : YY N) (hm : Tie M N) {i : Int} (hi : 0 ≤ i ∧ i + 6 ≤ L) (K : ∀ M' N' : Mem, Inv false M' → XX M' → Inv true N' → YY N' → Tie M' N' → LJ G X ce sl M' N' 2050 [some (.ref b), some (vR G 0), some (vR G 163), some (vI i)] []) : LJ G X ce sl M N 274 [some (.ref b), some (vR G 0), some (vR G 163), some (vI i)] [] := by
  refine kw_aload_n 275 F 1 dL_law_274 rfl rfl rfl ?_
  refine kw_VCl 278 F (As := []) (st := []) vd_L_23 (c_X11_bottom G l M 0 hI kd_0) kd_0 rfl rfl rfl ⟨by decide, by decide⟩ rfl rfl (Nat.le_of_ble_eq_true rfl) dL_law_275 rfl hcr ?_
  intro r1 U2 q3
  obtain ⟨rfl, q3⟩ := q3
  refine kw_pop2 279 F dL_law_278 rfl rfl ?_
  refine kw_aload_n 280 F 2 dL_law_279 rfl rfl rfl ?_
  refine kw_VMl 283 F (As := []) (st := []) vd_L_26 (c_X12_bottom G l N hJ) kd_163 rfl rfl rfl ⟨by decide, by decide⟩ rfl rfl (Nat.le_of_ble_eq_true rfl) dL_law_280 rfl hcr ?_
  intro r4 U5 q6
  obtain ⟨rfl, q6⟩ := q6
  have ht : Tie M N := hm
  refine kw_pop2 284 F dL_law_283 rfl rfl ?_
  refine kw_goto 2050 F dL_law_284 (by decide) ?_
  exact K M N hI hX hJ hY ht
set_option maxHeartbeats 4000000 in
set_option maxRecDepth 100000 in
theorem lc_tray {G : KG} {X : KX} {l : Launch} {b L : Nat} {sq : Nat → Int32} {ce sl : Nat} (F : kF false G X l code RL 4 (some .boolean) room_1) (S : LSq X b L sq) (hL : L ≤ 3072) (hcr : ce ≤ 600000 ∧ sl ≤ 7302250) {M N : Mem} (hI : Inv false M) (hX : XX M) (hJ : Inv true N) (hY : YY N) (hm : Tie M N) {i : Int} (hi : 0 ≤ i ∧ i + 6 ≤ L) (K : ∀ M' N' : Mem, Inv false M' → XX M' → Inv true N' → YY N' → Tie M' N' → LJ G X ce sl M' N' 2050 [some (.ref b), some (vR G 0), some (vR G 163), some (vI i)] []) : LJ G X ce sl M N 287 [some (.ref b), some (vR G 0), some (vR G 163), some (vI i)] [] := by
  refine kw_aload_n 288 F 1 dL_law_287 rfl rfl rfl ?_
  refine kw_aload_n 289 F 0 dL_law_288 rfl rfl rfl ?_
  refine kw_iload_n 290 F 3 dL_law_289 rfl rfl rfl ?_
  refine kw_iconst 291 F dL_law_290 rfl ?_
  refine kw_iadd 292 F (v := i + 1) dL_law_291 rfl rfl ?_
  refine kw_sld 293 F S hL (z := i + 1) (by omega) dL_law_292 rfl ?_
  have hs1 := sv_rng sq (i + 1)
  refine kw_aload_n 294 F 0 dL_law_293 rfl rfl rfl ?_
  refine kw_iload_n 295 F 3 dL_law_294 rfl rfl rfl ?_
  refine kw_iconst 296 F dL_law_295 rfl ?_
  refine kw_iadd 297 F (v := i + 2) dL_law_296 rfl rfl ?_
  refine kw_sld 298 F S hL (z := i + 2) (by omega) dL_law_297 rfl ?_
  have hs2 := sv_rng sq (i + 2)
  refine kw_aload_n 299 F 0 dL_law_298 rfl rfl rfl ?_
  refine kw_iload_n 300 F 3 dL_law_299 rfl rfl rfl ?_
  refine kw_iconst 301 F dL_law_300 rfl ?_
  refine kw_iadd 302 F (v := i + 3) dL_law_301 rfl rfl ?_
  refine kw_sld 303 F S hL (z := i + 3) (by omega) dL_law_302 rfl ?_
  have hs3 := sv_rng sq (i + 3)
  refine kw_VCi 306 F (As := [vI (sv sq (i + 1)), vI (sv sq (i + 2)), vI (sv sq (i + 3))]) (st := []) vd_L_27 (e_tray3 G l M 0 (sv sq (i + 1)) (sv sq (i + 2)) (sv sq (i + 3)) hI kd_0 (by omega)) kd_0 rfl rfl rfl ⟨by decide, by decide⟩ rfl rfl (Nat.le_of_ble_eq_true rfl) dL_law_303 rfl hcr ?_
  intro r4 U5 q6
  obtain ⟨hiU5, hfU5, q6, huU5⟩ := q6
  have hxU5 : XX U5 := XX.fr hX hI hfU5 rfl
  refine kw_pop 307 F dL_law_306 rfl rfl ?_
  refine kw_aload_n 308 F 2 dL_law_307 rfl rfl rfl ?_
  refine kw_aload_n 309 F 0 dL_law_308 rfl rfl rfl ?_
  refine kw_iload_n 310 F 3 dL_law_309 rfl rfl rfl ?_
  refine kw_iconst 311 F dL_law_310 rfl ?_
  refine kw_iadd 312 F (v := i + 1) dL_law_311 rfl rfl ?_
  refine kw_sld 313 F S hL (z := i + 1) (by omega) dL_law_312 rfl ?_
  refine kw_aload_n 314 F 0 dL_law_313 rfl rfl rfl ?_
  refine kw_iload_n 315 F 3 dL_law_314 rfl rfl rfl ?_
  refine kw_iconst 316 F dL_law_315 rfl ?_
  refine kw_iadd 317 F (v := i + 2) dL_law_316 rfl rfl ?_
  refine kw_sld 318 F S hL (z := i + 2) (by omega) dL_law_317 rfl ?_
  refine kw_aload_n 319 F 0 dL_law_318 rfl rfl rfl ?_
  refine kw_iload_n 320 F 3 dL_law_319 rfl rfl rfl ?_
  refine kw_iconst 321 F dL_law_320 rfl ?_
  refine kw_iadd 322 F (v := i + 3) dL_law_321 rfl rfl ?_
  refine kw_sld 323 F S hL (z := i + 3) (by omega) dL_law_322 rfl ?_
  refine kw_VMi 326 F (As := [vI (sv sq (i + 1)), vI (sv sq (i + 2)), vI (sv sq (i + 3))]) (st := []) vd_L_31 (e_tray3m G l N (sv sq (i + 1)) (sv sq (i + 2)) (sv sq (i + 3)) hJ (by omega)) kd_163 rfl rfl rfl ⟨by decide, by decide⟩ rfl rfl (Nat.le_of_ble_eq_true rfl) dL_law_323 rfl hcr ?_
  intro r10 U11 q12
  obtain ⟨hiU11, hfU11, q12, huU11⟩ := q12
  have hyU11 : YY U11 := YY.fr hY hfU11 rfl
  obtain ⟨uM1, uM2⟩ := huU5
  obtain ⟨uN1, uN2⟩ := huU11
  have eT := at_T hI
  have eP := at_P hI
  have eS := at_S hI
  rw [eT, eP, eS] at uM1
  have eV := at_V hI
  rw [eT, eV, hm.2.2.2.2.2.2.2.2.2.1] at uM2
  have he := tr_u q6 q12
  have h10 := zV2.u uM2 uN2 he
  have hq4 : U5 4 = U11 167 ∧ U5 3 = U11 166 := by
    rcases uM1 with ⟨z1, z2, z3⟩ | ⟨z1, z2, z3⟩
    · rcases uN1 with ⟨y1, y2, y3⟩ | ⟨y1, y2, y3⟩
      · exact ⟨UP.eq z2 y2 hm.2.2.1, UP.eq z3 y3 hm.2.2.2.1⟩
      · exfalso; omega
    · rcases uN1 with ⟨y1, y2, y3⟩ | ⟨y1, y2, y3⟩
      · exfalso; omega
      · exact ⟨z2.trans (hm.2.2.1.trans y2.symm), z3.trans (hm.2.2.2.1.trans y3.symm)⟩
  have ht : Tie U5 U11 := ⟨(Fr.e hfU5 kd_0 7 rfl).trans (hm.1.trans (Fr.e hfU11 kd_163 50 rfl).symm), (Fr.e hfU5 kd_x5 1 rfl).trans (hm.2.1.trans (Fr.e hfU11 kd_163 10 rfl).symm), hq4.1, hq4.2, (Fr.fn hfU5 kd_x6 rfl).trans (hm.2.2.2.2.1.trans (Fr.fn hfU11 kd_169 rfl).symm), (Fr.e hfU5 kd_x5 2 rfl).trans (hm.2.2.2.2.2.1.trans (Fr.e hfU11 kd_163 16 rfl).symm), (Fr.e hfU5 kd_x5 3 rfl).trans (hm.2.2.2.2.2.2.1.trans (Fr.e hfU11 kd_163 17 rfl).symm), FZ.fr hm.2.2.2.2.2.2.2.1 hfU5 rfl, (zTS.m (zTS.c hm.2.2.2.2.2.2.2.2.1 hI hfU5 rfl) (fun i _ _ _ => congrFun (Fr.fn hfU11 kd_164 rfl) i)), h10, (zTQ.m (zTQ.c hm.2.2.2.2.2.2.2.2.2.2.1 (Fr.e hfU5 kd_0 7 rfl)) hJ (fun i _ _ _ => congrFun (Fr.fn hfU11 kd_164 rfl) i)), (zTW.m (zTW.c hm.2.2.2.2.2.2.2.2.2.2.2.1 hI hm.2.2.2.2.2.2.2.1 hfU5 rfl) hiU5 (FZ.fr hm.2.2.2.2.2.2.2.1 hfU5 rfl) (fun i _ => congrFun (Fr.fn hfU11 kd_164 rfl) i)), (zTL.fr hm.2.2.2.2.2.2.2.2.2.2.2.2 hI hfU5 rfl (fun i _ _ => congrFun (Fr.fn hfU11 kd_164 rfl) i))⟩
  refine kw_pop 327 F dL_law_326 rfl rfl ?_
  refine kw_goto 2050 F dL_law_327 (by decide) ?_
  exact K U5 U11 hiU5 hxU5 hiU11 hyU11 ht
set_option maxHeartbeats 4000000 in
set_option maxRecDepth 100000 in
theorem lc_write {G : KG} {X : KX} {l : Launch} {b L : Nat} {sq : Nat → Int32} {ce sl : Nat} (F : kF false G X l code RL 4 (some .boolean) room_1) (S : LSq X b L sq) (hL : L ≤ 3072) (hcr : ce ≤ 600000 ∧ sl ≤ 7302250) {M N : Mem} (hI : Inv false M) (hX : XX M) (hJ : Inv true N) (hY : YY N) (hm : Tie M N) {i : Int} (hi : 0 ≤ i ∧ i + 6 ≤ L) (K : ∀ M' N' : Mem, Inv false M' → XX M' → Inv true N' → YY N' → Tie M' N' → LJ G X ce sl M' N' 2050 [some (.ref b), some (vR G 0), some (vR G 163), some (vI i)] []) : LJ G X ce sl M N 330 [some (.ref b), some (vR G 0), some (vR G 163), some (vI i)] [] := by
  refine kw_aload_n 331 F 1 dL_law_330 rfl rfl rfl ?_
  refine kw_aload_n 332 F 0 dL_law_331 rfl rfl rfl ?_
  refine kw_iload_n 333 F 3 dL_law_332 rfl rfl rfl ?_
  refine kw_iconst 334 F dL_law_333 rfl ?_
  refine kw_iadd 335 F (v := i + 1) dL_law_334 rfl rfl ?_
  refine kw_sld 336 F S hL (z := i + 1) (by omega) dL_law_335 rfl ?_
  have hs1 := sv_rng sq (i + 1)
  refine kw_aload_n 337 F 0 dL_law_336 rfl rfl rfl ?_
  refine kw_iload_n 338 F 3 dL_law_337 rfl rfl rfl ?_
  refine kw_iconst 339 F dL_law_338 rfl ?_
  refine kw_iadd 340 F (v := i + 2) dL_law_339 rfl rfl ?_
  refine kw_sld 341 F S hL (z := i + 2) (by omega) dL_law_340 rfl ?_
  have hs2 := sv_rng sq (i + 2)
  refine kw_aload_n 342 F 0 dL_law_341 rfl rfl rfl ?_
  refine kw_iload_n 343 F 3 dL_law_342 rfl rfl rfl ?_
  refine kw_iconst 344 F dL_law_343 rfl ?_
  refine kw_iadd 345 F (v := i + 3) dL_law_344 rfl rfl ?_
  refine kw_sld 346 F S hL (z := i + 3) (by omega) dL_law_345 rfl ?_
  have hs3 := sv_rng sq (i + 3)
  refine kw_i2l 347 F dL_law_346 (by omega) rfl ?_
  refine kw_bipush 349 F dL_law_347 (by decide) rfl ?_
  refine kw_lshlE 350 F dL_law_349 rfl (fun h4 => ?_)
  refine kw_aload_n 351 F 0 dL_law_350 rfl rfl rfl ?_
  refine kw_iload_n 352 F 3 dL_law_351 rfl rfl rfl ?_
  refine kw_iconst 353 F dL_law_352 rfl ?_
  refine kw_iadd 354 F (v := i + 4) dL_law_353 rfl rfl ?_
  refine kw_sld 355 F S hL (z := i + 4) (by omega) dL_law_354 rfl ?_
  have hs5 := sv_rng sq (i + 4)
  refine kw_i2l 356 F dL_law_355 (by omega) rfl ?_
  refine kw_ldc2 359 (z := 4294967295) F dL_law_356 ct_L_32 rfl ?_
  refine kw_landE 360 F dL_law_359 rfl (fun h6 => ?_)
  refine kw_lorE 361 F dL_law_360 rfl (fun h7 => ?_)
  refine kw_VCi 364 F (As := [vI (sv sq (i + 1)), vI (sv sq (i + 2)), vL (zLo (zLl (sv sq (i + 3)) 32) (zLa (sv sq (i + 4)) 4294967295))]) (st := []) vd_L_34 (e_write3 G l M 0 (sv sq (i + 1)) (sv sq (i + 2)) (zLo (zLl (sv sq (i + 3)) 32) (zLa (sv sq (i + 4)) 4294967295)) hI kd_0 (by omega)) kd_0 rfl rfl rfl ⟨by decide, by decide⟩ rfl rfl (Nat.le_of_ble_eq_true rfl) dL_law_361 rfl hcr ?_
  intro r8 U9 q10
  obtain ⟨hiU9, hfU9, q10, huU9⟩ := q10
  have hxU9 : XX U9 := XX.fr hX hI hfU9 rfl
  refine kw_pop 365 F dL_law_364 rfl rfl ?_
  refine kw_aload_n 366 F 2 dL_law_365 rfl rfl rfl ?_
  refine kw_aload_n 367 F 0 dL_law_366 rfl rfl rfl ?_
  refine kw_iload_n 368 F 3 dL_law_367 rfl rfl rfl ?_
  refine kw_iconst 369 F dL_law_368 rfl ?_
  refine kw_iadd 370 F (v := i + 1) dL_law_369 rfl rfl ?_
  refine kw_sld 371 F S hL (z := i + 1) (by omega) dL_law_370 rfl ?_
  refine kw_aload_n 372 F 0 dL_law_371 rfl rfl rfl ?_
  refine kw_iload_n 373 F 3 dL_law_372 rfl rfl rfl ?_
  refine kw_iconst 374 F dL_law_373 rfl ?_
  refine kw_iadd 375 F (v := i + 2) dL_law_374 rfl rfl ?_
  refine kw_sld 376 F S hL (z := i + 2) (by omega) dL_law_375 rfl ?_
  refine kw_aload_n 377 F 0 dL_law_376 rfl rfl rfl ?_
  refine kw_iload_n 378 F 3 dL_law_377 rfl rfl rfl ?_
  refine kw_iconst 379 F dL_law_378 rfl ?_
  refine kw_iadd 380 F (v := i + 3) dL_law_379 rfl rfl ?_
  refine kw_sld 381 F S hL (z := i + 3) (by omega) dL_law_380 rfl ?_
  refine kw_i2l 382 F dL_law_381 (by omega) rfl ?_
  refine kw_bipush 384 F dL_law_382 (by decide) rfl ?_
  refine kw_lshlE 385 F dL_law_384 rfl (fun h14 => ?_)
  refine kw_aload_n 386 F 0 dL_law_385 rfl rfl rfl ?_
  refine kw_iload_n 387 F 3 dL_law_386 rfl rfl rfl ?_
  refine kw_iconst 388 F dL_law_387 rfl ?_
  refine kw_iadd 389 F (v := i + 4) dL_law_388 rfl rfl ?_
  refine kw_sld 390 F S hL (z := i + 4) (by omega) dL_law_389 rfl ?_
  refine kw_i2l 391 F dL_law_390 (by omega) rfl ?_
  refine kw_ldc2 394 (z := 4294967295) F dL_law_391 ct_L_32 rfl ?_
  refine kw_landE 395 F dL_law_394 rfl (fun h16 => ?_)
  refine kw_lorE 396 F dL_law_395 rfl (fun h17 => ?_)
  refine kw_VMi 399 F (As := [vI (sv sq (i + 1)), vI (sv sq (i + 2)), vL (zLo (zLl (sv sq (i + 3)) 32) (zLa (sv sq (i + 4)) 4294967295))]) (st := []) vd_L_38 (e_write3m G l N (sv sq (i + 1)) (sv sq (i + 2)) (zLo (zLl (sv sq (i + 3)) 32) (zLa (sv sq (i + 4)) 4294967295)) hJ (by omega)) kd_163 rfl rfl rfl ⟨by decide, by decide⟩ rfl rfl (Nat.le_of_ble_eq_true rfl) dL_law_396 rfl hcr ?_
  intro r18 U19 q20
  obtain ⟨hiU19, hfU19, q20, huU19⟩ := q20
  have hyU19 : YY U19 := YY.fr hY hfU19 rfl
  have eT := at_T hI
  have eP := at_P hI
  have eS := at_S hI
  rw [eT, eP] at q10
  have hp1 := congrFun hm.2.2.1 (sv sq (i + 1))
  rw [hp1] at q10
  have he := wr_u q10 q20
  have hr1 := wr_r q10
  have hr2 := wr_r q20
  clear q10 q20
  have eV := at_V hI
  rw [eT, eV, eS, hm.2.2.2.2.2.2.2.2.2.1, hm.2.2.2.1] at huU9
  have h10 := zV2.u huU9 huU19 he
  have ht : Tie U9 U19 := ⟨(Fr.e hfU9 kd_0 7 rfl).trans (hm.1.trans (Fr.e hfU19 kd_163 50 rfl).symm), (Fr.e hfU9 kd_x5 1 rfl).trans (hm.2.1.trans (Fr.e hfU19 kd_163 10 rfl).symm), (Fr.fn hfU9 kd_x4 rfl).trans (hm.2.2.1.trans (Fr.fn hfU19 kd_y6 rfl).symm), (Fr.fn hfU9 kd_x3 rfl).trans (hm.2.2.2.1.trans (Fr.fn hfU19 kd_y5 rfl).symm), (Fr.fn hfU9 kd_x6 rfl).trans (hm.2.2.2.2.1.trans (Fr.fn hfU19 kd_169 rfl).symm), (Fr.e hfU9 kd_x5 2 rfl).trans (hm.2.2.2.2.2.1.trans (Fr.e hfU19 kd_163 16 rfl).symm), (Fr.e hfU9 kd_x5 3 rfl).trans (hm.2.2.2.2.2.2.1.trans (Fr.e hfU19 kd_163 17 rfl).symm), FZ.fr hm.2.2.2.2.2.2.2.1 hfU9 rfl, (zTS.m (zTS.c hm.2.2.2.2.2.2.2.2.1 hI hfU9 rfl) (fun i _ _ _ => congrFun (Fr.fn hfU19 kd_164 rfl) i)), h10, (zTQ.m (zTQ.c hm.2.2.2.2.2.2.2.2.2.2.1 (Fr.e hfU9 kd_0 7 rfl)) hJ (fun i _ _ _ => congrFun (Fr.fn hfU19 kd_164 rfl) i)), (zTW.m (zTW.c hm.2.2.2.2.2.2.2.2.2.2.2.1 hI hm.2.2.2.2.2.2.2.1 hfU9 rfl) hiU9 (FZ.fr hm.2.2.2.2.2.2.2.1 hfU9 rfl) (fun i _ => congrFun (Fr.fn hfU19 kd_164 rfl) i)), (zTL.fr hm.2.2.2.2.2.2.2.2.2.2.2.2 hI hfU9 rfl (fun i _ _ => congrFun (Fr.fn hfU19 kd_164 rfl) i))⟩
  refine kw_pop 400 F dL_law_399 rfl rfl ?_
  refine kw_goto 2050 F dL_law_400 (by decide) ?_
  exact K U9 U19 hiU9 hxU9 hiU19 hyU19 ht
set_option maxHeartbeats 4000000 in
set_option maxRecDepth 100000 in
theorem lc_read {G : KG} {X : KX} {l : Launch} {b L : Nat} {sq : Nat → Int32} {ce sl : Nat} (F : kF false G X l code RL 4 (some .boolean) room_1) (S : LSq X b L sq) (hL : L ≤ 3072) (hcr : ce ≤ 600000 ∧ sl ≤ 7302250) {M N : Mem} (hI : Inv false M) (hX : XX M) (hJ : Inv true N) (hY : YY N) (hm : Tie M N) {i : Int} (hi : 0 ≤ i ∧ i + 6 ≤ L) (K : ∀ M' N' : Mem, Inv false M' → XX M' → Inv true N' → YY N' → Tie M' N' → LJ G X ce sl M' N' 2050 [some (.ref b), some (vR G 0), some (vR G 163), some (vI i)] []) : LJ G X ce sl M N 403 [some (.ref b), some (vR G 0), some (vR G 163), some (vI i)] [] := by
  refine kw_aload_n 404 F 1 dL_law_403 rfl rfl rfl ?_
  refine kw_aload_n 405 F 0 dL_law_404 rfl rfl rfl ?_
  refine kw_iload_n 406 F 3 dL_law_405 rfl rfl rfl ?_
  refine kw_iconst 407 F dL_law_406 rfl ?_
  refine kw_iadd 408 F (v := i + 1) dL_law_407 rfl rfl ?_
  refine kw_sld 409 F S hL (z := i + 1) (by omega) dL_law_408 rfl ?_
  have hs1 := sv_rng sq (i + 1)
  refine kw_aload_n 410 F 0 dL_law_409 rfl rfl rfl ?_
  refine kw_iload_n 411 F 3 dL_law_410 rfl rfl rfl ?_
  refine kw_iconst 412 F dL_law_411 rfl ?_
  refine kw_iadd 413 F (v := i + 2) dL_law_412 rfl rfl ?_
  refine kw_sld 414 F S hL (z := i + 2) (by omega) dL_law_413 rfl ?_
  have hs2 := sv_rng sq (i + 2)
  refine kw_VCl 417 F (As := [vI (sv sq (i + 1)), vI (sv sq (i + 2))]) (st := []) vd_L_39 (e_read3 G l M 0 (sv sq (i + 1)) (sv sq (i + 2)) hI kd_0 (by omega)) kd_0 rfl rfl rfl ⟨by decide, by decide⟩ rfl rfl (Nat.le_of_ble_eq_true rfl) dL_law_414 rfl hcr ?_
  intro r3 U4 q5
  obtain ⟨hiU4, hfU4, q5, huU4⟩ := q5
  have hxU4 : XX U4 := XX.fr hX hI hfU4 rfl
  refine kw_pop2 418 F dL_law_417 rfl rfl ?_
  refine kw_aload_n 419 F 2 dL_law_418 rfl rfl rfl ?_
  refine kw_aload_n 420 F 0 dL_law_419 rfl rfl rfl ?_
  refine kw_iload_n 421 F 3 dL_law_420 rfl rfl rfl ?_
  refine kw_iconst 422 F dL_law_421 rfl ?_
  refine kw_iadd 423 F (v := i + 1) dL_law_422 rfl rfl ?_
  refine kw_sld 424 F S hL (z := i + 1) (by omega) dL_law_423 rfl ?_
  refine kw_aload_n 425 F 0 dL_law_424 rfl rfl rfl ?_
  refine kw_iload_n 426 F 3 dL_law_425 rfl rfl rfl ?_
  refine kw_iconst 427 F dL_law_426 rfl ?_
  refine kw_iadd 428 F (v := i + 2) dL_law_427 rfl rfl ?_
  refine kw_sld 429 F S hL (z := i + 2) (by omega) dL_law_428 rfl ?_
  refine kw_VMl 432 F (As := [vI (sv sq (i + 1)), vI (sv sq (i + 2))]) (st := []) vd_L_43 (e_read3m G l N (sv sq (i + 1)) (sv sq (i + 2)) hJ (by omega)) kd_163 rfl rfl rfl ⟨by decide, by decide⟩ rfl rfl (Nat.le_of_ble_eq_true rfl) dL_law_429 rfl hcr ?_
  intro r8 U9 q10
  obtain ⟨hiU9, hfU9, q10, huU9⟩ := q10
  have hyU9 : YY U9 := YY.fr hY hfU9 rfl
  have eT := at_T hI
  have eP := at_P hI
  have eS := at_S hI
  have eV := at_V hI
  rw [eT, eV, eP, hm.2.2.2.2.2.2.2.2.2.1, hm.2.2.1] at huU4
  have he := zRD.u huU4 huU9
  have ht : Tie U4 U9 := (Tie.m (Tie.c hm hI hfU4 rfl) hJ hfU9 rfl hiU4 (fun i => congrFun (Fr.fn hfU9 kd_164 rfl) i))
  refine kw_pop2 433 F dL_law_432 rfl rfl ?_
  refine kw_goto 2050 F dL_law_433 (by decide) ?_
  exact K U4 U9 hiU4 hxU4 hiU9 hyU9 ht
set_option maxHeartbeats 4000000 in
set_option maxRecDepth 100000 in
theorem lc_pour {G : KG} {X : KX} {l : Launch} {b L : Nat} {sq : Nat → Int32} {ce sl : Nat} (F : kF false G X l code RL 4 (some .boolean) room_1) (S : LSq X b L sq) (hL : L ≤ 3072) (hcr : ce ≤ 600000 ∧ sl ≤ 7302250) {M N : Mem} (hI : Inv false M) (hX : XX M) (hJ : Inv true N) (hY : YY N) (hm : Tie M N) {i : Int} (hi : 0 ≤ i ∧ i + 6 ≤ L) (K : ∀ M' N' : Mem, Inv false M' → XX M' → Inv true N' → YY N' → Tie M' N' → LJ G X ce sl M' N' 2050 [some (.ref b), some (vR G 0), some (vR G 163), some (vI i)] []) : LJ G X ce sl M N 436 [some (.ref b), some (vR G 0), some (vR G 163), some (vI i)] [] := by
  refine kw_aload_n 437 F 1 dL_law_436 rfl rfl rfl ?_
  refine kw_aload_n 438 F 0 dL_law_437 rfl rfl rfl ?_
  refine kw_iload_n 439 F 3 dL_law_438 rfl rfl rfl ?_
  refine kw_iconst 440 F dL_law_439 rfl ?_
  refine kw_iadd 441 F (v := i + 1) dL_law_440 rfl rfl ?_
  refine kw_sld 442 F S hL (z := i + 1) (by omega) dL_law_441 rfl ?_
  have hs1 := sv_rng sq (i + 1)
  refine kw_aload_n 443 F 0 dL_law_442 rfl rfl rfl ?_
  refine kw_iload_n 444 F 3 dL_law_443 rfl rfl rfl ?_
  refine kw_iconst 445 F dL_law_444 rfl ?_
  refine kw_iadd 446 F (v := i + 2) dL_law_445 rfl rfl ?_
  refine kw_sld 447 F S hL (z := i + 2) (by omega) dL_law_446 rfl ?_
  have hs2 := sv_rng sq (i + 2)
  refine kw_aload_n 448 F 0 dL_law_447 rfl rfl rfl ?_
  refine kw_iload_n 449 F 3 dL_law_448 rfl rfl rfl ?_
  refine kw_iconst 450 F dL_law_449 rfl ?_
  refine kw_iadd 451 F (v := i + 3) dL_law_450 rfl rfl ?_
  refine kw_sld 452 F S hL (z := i + 3) (by omega) dL_law_451 rfl ?_
  have hs3 := sv_rng sq (i + 3)
  refine kw_aload_n 453 F 0 dL_law_452 rfl rfl rfl ?_
  refine kw_iload_n 454 F 3 dL_law_453 rfl rfl rfl ?_
  refine kw_iconst 455 F dL_law_454 rfl ?_
  refine kw_iadd 456 F (v := i + 4) dL_law_455 rfl rfl ?_
  refine kw_sld 457 F S hL (z := i + 4) (by omega) dL_law_456 rfl ?_
  have hs4 := sv_rng sq (i + 4)
  refine kw_aload_n 458 F 0 dL_law_457 rfl rfl rfl ?_
  refine kw_iload_n 459 F 3 dL_law_458 rfl rfl rfl ?_
  refine kw_iconst 460 F dL_law_459 rfl ?_
  refine kw_iadd 461 F (v := i + 5) dL_law_460 rfl rfl ?_
  refine kw_sld 462 F S hL (z := i + 5) (by omega) dL_law_461 rfl ?_
  have hs5 := sv_rng sq (i + 5)
  refine kw_VCi 465 F (As := [vI (sv sq (i + 1)), vI (sv sq (i + 2)), vI (sv sq (i + 3)), vI (sv sq (i + 4)), vI (sv sq (i + 5))]) (st := []) vd_L_44 (e_pour3 G l M 0 (sv sq (i + 1)) (sv sq (i + 2)) (sv sq (i + 3)) (sv sq (i + 4)) (sv sq (i + 5)) hI kd_0 (by omega)) kd_0 rfl rfl rfl ⟨by decide, by decide⟩ rfl rfl (Nat.le_of_ble_eq_true rfl) dL_law_462 rfl hcr ?_
  intro r6 U7 q8
  obtain ⟨hiU7, hfU7, q8, huU7⟩ := q8
  have hxU7 : XX U7 := XX.fr hX hI hfU7 rfl
  refine kw_pop 466 F dL_law_465 rfl rfl ?_
  refine kw_aload_n 467 F 2 dL_law_466 rfl rfl rfl ?_
  refine kw_aload_n 468 F 0 dL_law_467 rfl rfl rfl ?_
  refine kw_iload_n 469 F 3 dL_law_468 rfl rfl rfl ?_
  refine kw_iconst 470 F dL_law_469 rfl ?_
  refine kw_iadd 471 F (v := i + 1) dL_law_470 rfl rfl ?_
  refine kw_sld 472 F S hL (z := i + 1) (by omega) dL_law_471 rfl ?_
  refine kw_aload_n 473 F 0 dL_law_472 rfl rfl rfl ?_
  refine kw_iload_n 474 F 3 dL_law_473 rfl rfl rfl ?_
  refine kw_iconst 475 F dL_law_474 rfl ?_
  refine kw_iadd 476 F (v := i + 2) dL_law_475 rfl rfl ?_
  refine kw_sld 477 F S hL (z := i + 2) (by omega) dL_law_476 rfl ?_
  refine kw_aload_n 478 F 0 dL_law_477 rfl rfl rfl ?_
  refine kw_iload_n 479 F 3 dL_law_478 rfl rfl rfl ?_
  refine kw_iconst 480 F dL_law_479 rfl ?_
  refine kw_iadd 481 F (v := i + 3) dL_law_480 rfl rfl ?_
  refine kw_sld 482 F S hL (z := i + 3) (by omega) dL_law_481 rfl ?_
  refine kw_aload_n 483 F 0 dL_law_482 rfl rfl rfl ?_
  refine kw_iload_n 484 F 3 dL_law_483 rfl rfl rfl ?_
  refine kw_iconst 485 F dL_law_484 rfl ?_
  refine kw_iadd 486 F (v := i + 4) dL_law_485 rfl rfl ?_
  refine kw_sld 487 F S hL (z := i + 4) (by omega) dL_law_486 rfl ?_
  refine kw_aload_n 488 F 0 dL_law_487 rfl rfl rfl ?_
  refine kw_iload_n 489 F 3 dL_law_488 rfl rfl rfl ?_
  refine kw_iconst 490 F dL_law_489 rfl ?_
  refine kw_iadd 491 F (v := i + 5) dL_law_490 rfl rfl ?_
  refine kw_sld 492 F S hL (z := i + 5) (by omega) dL_law_491 rfl ?_
  refine kw_VMi 495 F (As := [vI (sv sq (i + 1)), vI (sv sq (i + 2)), vI (sv sq (i + 3)), vI (sv sq (i + 4)), vI (sv sq (i + 5))]) (st := []) vd_L_48 (e_pour3m G l N (sv sq (i + 1)) (sv sq (i + 2)) (sv sq (i + 3)) (sv sq (i + 4)) (sv sq (i + 5)) hJ (by omega)) kd_163 rfl rfl rfl ⟨by decide, by decide⟩ rfl rfl (Nat.le_of_ble_eq_true rfl) dL_law_492 rfl hcr ?_
  intro r14 U15 q16
  obtain ⟨hiU15, hfU15, q16, huU15⟩ := q16
  have hyU15 : YY U15 := YY.fr hY hfU15 rfl
  obtain ⟨uM1, uM2⟩ := huU7
  obtain ⟨uN1, uN2⟩ := huU15
  have eT := at_T hI
  have eP := at_P hI
  have eS := at_S hI
  rw [eT, eP, eS, hm.2.2.1, hm.2.2.2.1] at uM1
  have he := PPr.u uM1 uN1
  have eV := at_V hI
  rw [eT, eV, hm.2.2.2.2.2.2.2.2.2.1] at uM2
  have h10 := zV2.u uM2 uN2 he
  have ht : Tie U7 U15 := ⟨(Fr.e hfU7 kd_0 7 rfl).trans (hm.1.trans (Fr.e hfU15 kd_163 50 rfl).symm), (Fr.e hfU7 kd_x5 1 rfl).trans (hm.2.1.trans (Fr.e hfU15 kd_163 10 rfl).symm), (Fr.fn hfU7 kd_x4 rfl).trans (hm.2.2.1.trans (Fr.fn hfU15 kd_y6 rfl).symm), (Fr.fn hfU7 kd_x3 rfl).trans (hm.2.2.2.1.trans (Fr.fn hfU15 kd_y5 rfl).symm), (Fr.fn hfU7 kd_x6 rfl).trans (hm.2.2.2.2.1.trans (Fr.fn hfU15 kd_169 rfl).symm), (Fr.e hfU7 kd_x5 2 rfl).trans (hm.2.2.2.2.2.1.trans (Fr.e hfU15 kd_163 16 rfl).symm), (Fr.e hfU7 kd_x5 3 rfl).trans (hm.2.2.2.2.2.2.1.trans (Fr.e hfU15 kd_163 17 rfl).symm), FZ.fr hm.2.2.2.2.2.2.2.1 hfU7 rfl, (zTS.m (zTS.c hm.2.2.2.2.2.2.2.2.1 hI hfU7 rfl) (fun i _ _ _ => congrFun (Fr.fn hfU15 kd_164 rfl) i)), h10, (zTQ.m (zTQ.c hm.2.2.2.2.2.2.2.2.2.2.1 (Fr.e hfU7 kd_0 7 rfl)) hJ (fun i _ _ _ => congrFun (Fr.fn hfU15 kd_164 rfl) i)), (zTW.m (zTW.c hm.2.2.2.2.2.2.2.2.2.2.2.1 hI hm.2.2.2.2.2.2.2.1 hfU7 rfl) hiU7 (FZ.fr hm.2.2.2.2.2.2.2.1 hfU7 rfl) (fun i _ => congrFun (Fr.fn hfU15 kd_164 rfl) i)), (zTL.fr hm.2.2.2.2.2.2.2.2.2.2.2.2 hI hfU7 rfl (fun i _ _ => congrFun (Fr.fn hfU15 kd_164 rfl) i))⟩
  refine kw_pop 496 F dL_law_495 rfl rfl ?_
  refine kw_goto 2050 F dL_law_496 (by decide) ?_
  exact K U7 U15 hiU7 hxU7 hiU15 hyU15 ht
set_option maxHeartbeats 4000000 in
set_option maxRecDepth 100000 in
theorem lc_feed {G : KG} {X : KX} {l : Launch} {b L : Nat} {sq : Nat → Int32} {ce sl : Nat} (F : kF false G X l code RL 4 (some .boolean) room_1) (S : LSq X b L sq) (hL : L ≤ 3072) (hcr : ce ≤ 600000 ∧ sl ≤ 7302250) {M N : Mem} (hI : Inv false M) (hX : XX M) (hJ : Inv true N) (hY : YY N) (hm : Tie M N) {i : Int} (hi : 0 ≤ i ∧ i + 6 ≤ L) (K : ∀ M' N' : Mem, Inv false M' → XX M' → Inv true N' → YY N' → Tie M' N' → LJ G X ce sl M' N' 2050 [some (.ref b), some (vR G 0), some (vR G 163), some (vI i)] []) : LJ G X ce sl M N 499 [some (.ref b), some (vR G 0), some (vR G 163), some (vI i)] [] := by
  refine kw_aload_n 500 F 1 dL_law_499 rfl rfl rfl ?_
  refine kw_aload_n 501 F 0 dL_law_500 rfl rfl rfl ?_
  refine kw_iload_n 502 F 3 dL_law_501 rfl rfl rfl ?_
  refine kw_iconst 503 F dL_law_502 rfl ?_
  refine kw_iadd 504 F (v := i + 1) dL_law_503 rfl rfl ?_
  refine kw_sld 505 F S hL (z := i + 1) (by omega) dL_law_504 rfl ?_
  have hs1 := sv_rng sq (i + 1)
  refine kw_aload_n 506 F 0 dL_law_505 rfl rfl rfl ?_
  refine kw_iload_n 507 F 3 dL_law_506 rfl rfl rfl ?_
  refine kw_iconst 508 F dL_law_507 rfl ?_
  refine kw_iadd 509 F (v := i + 2) dL_law_508 rfl rfl ?_
  refine kw_sld 510 F S hL (z := i + 2) (by omega) dL_law_509 rfl ?_
  have hs2 := sv_rng sq (i + 2)
  refine kw_aload_n 511 F 0 dL_law_510 rfl rfl rfl ?_
  refine kw_iload_n 512 F 3 dL_law_511 rfl rfl rfl ?_
  refine kw_iconst 513 F dL_law_512 rfl ?_
  refine kw_iadd 514 F (v := i + 3) dL_law_513 rfl rfl ?_
  refine kw_sld 515 F S hL (z := i + 3) (by omega) dL_law_514 rfl ?_
  have hs3 := sv_rng sq (i + 3)
  refine kw_aload_n 516 F 0 dL_law_515 rfl rfl rfl ?_
  refine kw_iload_n 517 F 3 dL_law_516 rfl rfl rfl ?_
  refine kw_iconst 518 F dL_law_517 rfl ?_
  refine kw_iadd 519 F (v := i + 4) dL_law_518 rfl rfl ?_
  refine kw_sld 520 F S hL (z := i + 4) (by omega) dL_law_519 rfl ?_
  have hs4 := sv_rng sq (i + 4)
  refine kw_aload_n 521 F 0 dL_law_520 rfl rfl rfl ?_
  refine kw_iload_n 522 F 3 dL_law_521 rfl rfl rfl ?_
  refine kw_iconst 523 F dL_law_522 rfl ?_
  refine kw_iadd 524 F (v := i + 5) dL_law_523 rfl rfl ?_
  refine kw_sld 525 F S hL (z := i + 5) (by omega) dL_law_524 rfl ?_
  have hs5 := sv_rng sq (i + 5)
  refine kw_VCi 528 F (As := [vI (sv sq (i + 1)), vI (sv sq (i + 2)), vI (sv sq (i + 3)), vI (sv sq (i + 4)), vI (sv sq (i + 5))]) (st := []) vd_L_49 (e_feed2c G l M 0 (sv sq (i + 1)) (sv sq (i + 2)) (sv sq (i + 3)) (sv sq (i + 4)) (sv sq (i + 5)) hI kd_0 (by omega)) kd_0 rfl rfl rfl ⟨by decide, by decide⟩ rfl rfl (Nat.le_of_ble_eq_true rfl) dL_law_525 rfl hcr ?_
  intro r6 U7 q8
  obtain ⟨hiU7, hfU7, q8, huU7⟩ := q8
  have hxU7 : XX U7 := XX.fr hX hI hfU7 rfl
  refine kw_pop 529 F dL_law_528 rfl rfl ?_
  refine kw_aload_n 530 F 2 dL_law_529 rfl rfl rfl ?_
  refine kw_aload_n 531 F 0 dL_law_530 rfl rfl rfl ?_
  refine kw_iload_n 532 F 3 dL_law_531 rfl rfl rfl ?_
  refine kw_iconst 533 F dL_law_532 rfl ?_
  refine kw_iadd 534 F (v := i + 1) dL_law_533 rfl rfl ?_
  refine kw_sld 535 F S hL (z := i + 1) (by omega) dL_law_534 rfl ?_
  refine kw_aload_n 536 F 0 dL_law_535 rfl rfl rfl ?_
  refine kw_iload_n 537 F 3 dL_law_536 rfl rfl rfl ?_
  refine kw_iconst 538 F dL_law_537 rfl ?_
  refine kw_iadd 539 F (v := i + 2) dL_law_538 rfl rfl ?_
  refine kw_sld 540 F S hL (z := i + 2) (by omega) dL_law_539 rfl ?_
  refine kw_aload_n 541 F 0 dL_law_540 rfl rfl rfl ?_
  refine kw_iload_n 542 F 3 dL_law_541 rfl rfl rfl ?_
  refine kw_iconst 543 F dL_law_542 rfl ?_
  refine kw_iadd 544 F (v := i + 3) dL_law_543 rfl rfl ?_
  refine kw_sld 545 F S hL (z := i + 3) (by omega) dL_law_544 rfl ?_
  refine kw_aload_n 546 F 0 dL_law_545 rfl rfl rfl ?_
  refine kw_iload_n 547 F 3 dL_law_546 rfl rfl rfl ?_
  refine kw_iconst 548 F dL_law_547 rfl ?_
  refine kw_iadd 549 F (v := i + 4) dL_law_548 rfl rfl ?_
  refine kw_sld 550 F S hL (z := i + 4) (by omega) dL_law_549 rfl ?_
  refine kw_aload_n 551 F 0 dL_law_550 rfl rfl rfl ?_
  refine kw_iload_n 552 F 3 dL_law_551 rfl rfl rfl ?_
  refine kw_iconst 553 F dL_law_552 rfl ?_
  refine kw_iadd 554 F (v := i + 5) dL_law_553 rfl rfl ?_
  refine kw_sld 555 F S hL (z := i + 5) (by omega) dL_law_554 rfl ?_
  refine kw_VMi 558 F (As := [vI (sv sq (i + 1)), vI (sv sq (i + 2)), vI (sv sq (i + 3)), vI (sv sq (i + 4)), vI (sv sq (i + 5))]) (st := []) vd_L_53 (e_feed2 G l N (sv sq (i + 1)) (sv sq (i + 2)) (sv sq (i + 3)) (sv sq (i + 4)) (sv sq (i + 5)) hJ (by omega)) kd_163 rfl rfl rfl ⟨by decide, by decide⟩ rfl rfl (Nat.le_of_ble_eq_true rfl) dL_law_555 rfl hcr ?_
  intro r14 U15 q16
  obtain ⟨hiU15, hfU15, q16, huU15⟩ := q16
  have hyU15 : YY U15 := YY.fr hY hfU15 rfl
  have eR := at_R hI
  rw [eR] at q8
  rw [eR, hm.2.2.2.2.1, hm.2.1] at huU7
  have ht : Tie U7 U15 := ⟨(Fr.e hfU7 kd_0 7 rfl).trans (hm.1.trans (Fr.e hfU15 kd_163 50 rfl).symm), by have := hm.2.1; omega, (Fr.fn hfU7 kd_x4 rfl).trans (hm.2.2.1.trans (Fr.fn hfU15 kd_y6 rfl).symm), (Fr.fn hfU7 kd_x3 rfl).trans (hm.2.2.2.1.trans (Fr.fn hfU15 kd_y5 rfl).symm), huU7.u huU15, (Fr.e hfU7 kd_x5 2 rfl).trans (hm.2.2.2.2.2.1.trans (Fr.e hfU15 kd_163 16 rfl).symm), (Fr.e hfU7 kd_x5 3 rfl).trans (hm.2.2.2.2.2.2.1.trans (Fr.e hfU15 kd_163 17 rfl).symm), FZ.fr hm.2.2.2.2.2.2.2.1 hfU7 rfl, (zTS.m (zTS.c hm.2.2.2.2.2.2.2.2.1 hI hfU7 rfl) (fun i _ _ _ => congrFun (Fr.fn hfU15 kd_164 rfl) i)), (Fr.fn hfU7 kd_x2 rfl).trans (hm.2.2.2.2.2.2.2.2.2.1.trans (Fr.fn hfU15 kd_y7 rfl).symm), (zTQ.m (zTQ.c hm.2.2.2.2.2.2.2.2.2.2.1 (Fr.e hfU7 kd_0 7 rfl)) hJ (fun i _ _ _ => congrFun (Fr.fn hfU15 kd_164 rfl) i)), (zTW.m (zTW.c hm.2.2.2.2.2.2.2.2.2.2.2.1 hI hm.2.2.2.2.2.2.2.1 hfU7 rfl) hiU7 (FZ.fr hm.2.2.2.2.2.2.2.1 hfU7 rfl) (fun i _ => congrFun (Fr.fn hfU15 kd_164 rfl) i)), (zTL.fr hm.2.2.2.2.2.2.2.2.2.2.2.2 hI hfU7 rfl (fun i _ _ => congrFun (Fr.fn hfU15 kd_164 rfl) i))⟩
  refine kw_pop 559 F dL_law_558 rfl rfl ?_
  refine kw_goto 2050 F dL_law_559 (by decide) ?_
  exact K U7 U15 hiU7 hxU7 hiU15 hyU15 ht
set_option maxHeartbeats 4000000 in
set_option maxRecDepth 100000 in
theorem lc_checker {G : KG} {X : KX} {l : Launch} {b L : Nat} {sq : Nat → Int32} {ce sl : Nat} (F : kF false G X l code RL 4 (some .boolean) room_1) (S : LSq X b L sq) (hL : L ≤ 3072) (hcr : ce ≤ 600000 ∧ sl ≤ 7302250) {M N : Mem} (hI : Inv false M) (hX : XX M) (hJ : Inv true N) (hY : YY N) (hm : Tie M N) {i : Int} (hi : 0 ≤ i ∧ i + 6 ≤ L) (K : ∀ M' N' : Mem, Inv false M' → XX M' → Inv true N' → YY N' → Tie M' N' → LJ G X ce sl M' N' 2050 [some (.ref b), some (vR G 0), some (vR G 163), some (vI i)] []) : LJ G X ce sl M N 562 [some (.ref b), some (vR G 0), some (vR G 163), some (vI i)] [] := by
  refine kw_aload_n 563 F 1 dL_law_562 rfl rfl rfl ?_
  refine kw_aload_n 564 F 0 dL_law_563 rfl rfl rfl ?_
  refine kw_iload_n 565 F 3 dL_law_564 rfl rfl rfl ?_
  refine kw_iconst 566 F dL_law_565 rfl ?_
  refine kw_iadd 567 F (v := i + 1) dL_law_566 rfl rfl ?_
  refine kw_sld 568 F S hL (z := i + 1) (by omega) dL_law_567 rfl ?_
  have hs1 := sv_rng sq (i + 1)
  refine kw_VCi 571 F (As := [vI (sv sq (i + 1))]) (st := []) vd_L_54 (e_checker7c G l M 0 (sv sq (i + 1)) hI kd_0 (by omega) hX (zBY M 6 (sv sq (i + 1))) (by rw [at_R hI, un_t5 hI]; exact zTB.mk M 6 (sv sq (i + 1))) hm.2.2.2.2.2.2.2.1) kd_0 rfl rfl rfl ⟨by decide, by decide⟩ rfl rfl (Nat.le_of_ble_eq_true rfl) dL_law_568 rfl hcr ?_
  intro r2 U3 q4
  obtain ⟨hiU3, hfU3, q4, hxU3, hcfU3, huU3⟩ := q4
  refine kw_pop 572 F dL_law_571 rfl rfl ?_
  refine kw_aload_n 573 F 2 dL_law_572 rfl rfl rfl ?_
  refine kw_aload_n 574 F 0 dL_law_573 rfl rfl rfl ?_
  refine kw_iload_n 575 F 3 dL_law_574 rfl rfl rfl ?_
  refine kw_iconst 576 F dL_law_575 rfl ?_
  refine kw_iadd 577 F (v := i + 1) dL_law_576 rfl rfl ?_
  refine kw_sld 578 F S hL (z := i + 1) (by omega) dL_law_577 rfl ?_
  refine kw_VMi 581 F (As := [vI (sv sq (i + 1))]) (st := []) vd_L_58 (e_checker2 G l N (sv sq (i + 1)) hJ (by omega) hY (zBY M 6 (sv sq (i + 1))) (zTB.cg (zTB.mk M 6 (sv sq (i + 1))) (fun k _ _ => (congrFun hm.2.2.2.2.1 k).symm))) kd_163 rfl rfl rfl ⟨by decide, by decide⟩ rfl rfl (Nat.le_of_ble_eq_true rfl) dL_law_578 rfl hcr ?_
  intro r6 U7 q8
  obtain ⟨hiU7, hfU7, q8, ⟨hyU7, huU7⟩⟩ := q8
  obtain ⟨uC1, uC2, uC3⟩ := huU3
  have eR := at_R hI
  rw [eR] at q4
  rw [eR] at uC1
  have g1 := hm.2.1
  have g2 := hm.2.2.2.2.2.1
  have g3 := hm.2.2.2.2.2.2.1
  have hz : U3 5 2 = U7 163 16 ∧ U3 5 3 = U7 163 17 ∧ r2 = r6 := by
    by_cases hc : 0 ≤ (sv sq (i + 1)) ∧ (sv sq (i + 1)) ≤ M 5 1
    · exact (zRES.of2 (uC1.1 hc.1 hc.2)).u (zRES.of2 (huU7.1 hc.1 (by clear uC1 huU7; omega)))
    · exact ⟨by clear uC1 huU7; omega, by clear uC1 huU7; omega, by clear uC1 huU7; omega⟩
  have hrb : -1 ≤ r2 ∧ r2 ≤ 2 := by
    by_cases hc : 0 ≤ (sv sq (i + 1)) ∧ (sv sq (i + 1)) ≤ M 5 1
    · exact (zRES.of2 (uC1.1 hc.1 hc.2)).b
    · clear uC1 huU7; omega
  have he := hz.2.2
  have hce := hcfU3
  rw [eR] at hce
  have hts : zTS U3 U7 ∧ zTQ U3 U7 ∧ zTW U3 U7 ∧ zTL U3 U7 := by
    by_cases c : 0 ≤ (sv sq (i + 1)) ∧ (sv sq (i + 1)) ≤ M 5 1
    · obtain ⟨q, t, ho, hc⟩ := uC1.1 c.1 c.2
      have hmw : U3 (M 5 0 + 15) 0 = -1 := by rw [← (hm.2.2.2.2.2.2.2.1.2.1 _ (kd_md hI)).2.2]; clear uC1 uC2 uC3 huU7; omega
      obtain ⟨q2, t2, ho2, hc2⟩ := huU7.1 c.1 (by clear uC1 huU7; omega)
      obtain ⟨z1, z2, z3, z4⟩ := ho.u ho2
      subst z3
      rcases hc with hc | hc
      · rcases hc2 with hd | hd
        · exact ⟨zTS.got hm.2.2.2.2.2.2.2.2.1 hI hm.2.2.2.2.2.2.2.1 hc.2.2.1 (Fr.e hfU3 kd_0 7 rfl) hc.2.2.2.1 (Fr.fn hfU3 kd_x9 rfl) hce (zPS0 ho) hc.2.2.2.2.1 hc.2.2.2.2.2 hd.2.2.1 hd.2.2.2.1 hd.2.2.2.2.2, zTQ.chg hm.2.2.2.2.2.2.2.2.2.2.1 hJ (Fr.e hfU3 kd_0 7 rfl) (zQC.to ho.c (zPS0 ho) hd.2.2.1 hd.2.2.2.1) hd.2.2.2.2.2, zTW.got hm.2.2.2.2.2.2.2.2.2.2.2.1 hI hiU3 hm.2.2.2.2.2.2.2.1 (FZ.fr hm.2.2.2.2.2.2.2.1 hfU3 rfl) hm.2.2.2.2.2.2.2.2.1.2.2 hc.2.2.1 (Fr.e hfU3 kd_0 7 rfl) (Fr.e hfU3 kd_0 12 rfl) (Fr.fn hfU3 kd_x9 rfl) hce hmw hd.2.2.2.2.1 hd.2.2.2.2.2, zTL.all hm.2.2.2.2.2.2.2.2.2.2.2.2 hfU3 rfl (uC2 (by have z1 := hd.2.2.1.u; have z2 := hc.2.1; clear huU7; omega))⟩
        · exact absurd (z1.symm.trans hc.1) hd.1
      · rcases hc2 with hd | hd
        · exact absurd (z1.trans hd.1) hc.1
        · exact ⟨zTS.bad hm.2.2.2.2.2.2.2.2.1 hI hm.2.2.2.2.2.2.2.1 hc.2.2.1 (Fr.e hfU3 kd_0 7 rfl) hc.2.2.2 (Fr.fn hfU3 kd_x9 rfl) hce hd.2.2, zTQ.m (zTQ.c hm.2.2.2.2.2.2.2.2.2.2.1 (Fr.e hfU3 kd_0 7 rfl)) hJ (fun i _ b _ => hd.2.2 i b), zTW.bad hm.2.2.2.2.2.2.2.2.2.2.2.1 hI hiU3 hm.2.2.2.2.2.2.2.1 (FZ.fr hm.2.2.2.2.2.2.2.1 hfU3 rfl) hm.2.2.2.2.2.2.2.2.1.2.2 hc.2.2.1 (Fr.e hfU3 kd_0 7 rfl) (Fr.e hfU3 kd_0 12 rfl) (Fr.fn hfU3 kd_x9 rfl) hce hd.2.2, zTL.same hm.2.2.2.2.2.2.2.2.2.2.2.2 hfU3 rfl (uC3 (by have z2 := hc.2.1; clear huU7; omega)) (fun i _ b => hd.2.2 i (by omega))⟩
    · obtain ⟨k1, k2⟩ := uC1.2 c
      have u := huU7.2 (fun z => c ⟨z.1, by clear uC1 huU7; omega⟩)
      exact ⟨zTS.bad hm.2.2.2.2.2.2.2.2.1 hI hm.2.2.2.2.2.2.2.1 k1 (Fr.e hfU3 kd_0 7 rfl) k2 (Fr.fn hfU3 kd_x9 rfl) hce u, zTQ.m (zTQ.c hm.2.2.2.2.2.2.2.2.2.2.1 (Fr.e hfU3 kd_0 7 rfl)) hJ (fun i _ b _ => u i b), zTW.bad hm.2.2.2.2.2.2.2.2.2.2.2.1 hI hiU3 hm.2.2.2.2.2.2.2.1 (FZ.fr hm.2.2.2.2.2.2.2.1 hfU3 rfl) hm.2.2.2.2.2.2.2.2.1.2.2 k1 (Fr.e hfU3 kd_0 7 rfl) (Fr.e hfU3 kd_0 12 rfl) (Fr.fn hfU3 kd_x9 rfl) hce u, zTL.same hm.2.2.2.2.2.2.2.2.2.2.2.2 hfU3 rfl (uC3 (by clear uC1 uC2 uC3 huU7; omega)) (fun i _ b => u i (by omega))⟩
  have ht : Tie U3 U7 := ⟨(Fr.e hfU3 kd_0 7 rfl).trans (hm.1.trans (Fr.e hfU7 kd_163 50 rfl).symm), by have := hm.2.1; clear uC1 huU7; omega, (Fr.fn hfU3 kd_x4 rfl).trans (hm.2.2.1.trans (Fr.fn hfU7 kd_y6 rfl).symm), (Fr.fn hfU3 kd_x3 rfl).trans (hm.2.2.2.1.trans (Fr.fn hfU7 kd_y5 rfl).symm), (Fr.fn hfU3 kd_x6 rfl).trans (hm.2.2.2.2.1.trans (Fr.fn hfU7 kd_169 rfl).symm), hz.1, hz.2.1, FZ.fr hm.2.2.2.2.2.2.2.1 hfU3 rfl, hts.1, (Fr.fn hfU3 kd_x2 rfl).trans (hm.2.2.2.2.2.2.2.2.2.1.trans (Fr.fn hfU7 kd_y7 rfl).symm), hts.2.1, hts.2.2.1, hts.2.2.2⟩
  refine kw_pop 582 F dL_law_581 rfl rfl ?_
  refine kw_goto 2050 F dL_law_582 (by decide) ?_
  exact K U3 U7 hiU3 hxU3 hiU7 hyU7 ht
set_option maxHeartbeats 4000000 in
set_option maxRecDepth 100000 in
theorem lc_fault {G : KG} {X : KX} {l : Launch} {b L : Nat} {sq : Nat → Int32} {ce sl : Nat} (F : kF false G X l code RL 4 (some .boolean) room_1) (S : LSq X b L sq) (hL : L ≤ 3072) (hcr : ce ≤ 600000 ∧ sl ≤ 7302250) {M N : Mem} (hI : Inv false M) (hX : XX M) (hJ : Inv true N) (hY : YY N) (hm : Tie M N) {i : Int} (hi : 0 ≤ i ∧ i + 6 ≤ L) (K : ∀ M' N' : Mem, Inv false M' → XX M' → Inv true N' → YY N' → Tie M' N' → LJ G X ce sl M' N' 2050 [some (.ref b), some (vR G 0), some (vR G 163), some (vI i)] []) : LJ G X ce sl M N 585 [some (.ref b), some (vR G 0), some (vR G 163), some (vI i)] [] := by
  refine kw_aload_n 586 F 1 dL_law_585 rfl rfl rfl ?_
  refine kw_aload_n 587 F 0 dL_law_586 rfl rfl rfl ?_
  refine kw_iload_n 588 F 3 dL_law_587 rfl rfl rfl ?_
  refine kw_iconst 589 F dL_law_588 rfl ?_
  refine kw_iadd 590 F (v := i + 1) dL_law_589 rfl rfl ?_
  refine kw_sld 591 F S hL (z := i + 1) (by omega) dL_law_590 rfl ?_
  have hs1 := sv_rng sq (i + 1)
  refine kw_VCi 594 F (As := [vI (sv sq (i + 1))]) (st := []) vd_L_59 (e_X11_fault G l M 0 (sv sq (i + 1)) hI kd_0 (by omega)) kd_0 rfl rfl rfl ⟨by decide, by decide⟩ rfl rfl (Nat.le_of_ble_eq_true rfl) dL_law_591 rfl hcr ?_
  intro r2 U3 q4
  obtain ⟨rfl, q4⟩ := q4
  refine kw_pop 595 F dL_law_594 rfl rfl ?_
  refine kw_aload_n 596 F 2 dL_law_595 rfl rfl rfl ?_
  refine kw_aload_n 597 F 0 dL_law_596 rfl rfl rfl ?_
  refine kw_iload_n 598 F 3 dL_law_597 rfl rfl rfl ?_
  refine kw_iconst 599 F dL_law_598 rfl ?_
  refine kw_iadd 600 F (v := i + 1) dL_law_599 rfl rfl ?_
  refine kw_sld 601 F S hL (z := i + 1) (by omega) dL_law_600 rfl ?_
  refine kw_VMi 604 F (As := [vI (sv sq (i + 1))]) (st := []) vd_L_62 (e_fault2 G l N (sv sq (i + 1)) hJ (by omega)) kd_163 rfl rfl rfl ⟨by decide, by decide⟩ rfl rfl (Nat.le_of_ble_eq_true rfl) dL_law_601 rfl hcr ?_
  intro r6 U7 q8
  obtain ⟨rfl, q8⟩ := q8
  have eR := at_R hI
  rw [eR] at q4
  have hb4 := hm.2.2.2.2.2.1
  have hb5 := hm.2.2.2.2.2.2.1
  have ht : Tie M N := hm
  refine kw_pop 605 F dL_law_604 rfl rfl ?_
  refine kw_goto 2050 F dL_law_605 (by decide) ?_
  exact K M N hI hX hJ hY ht
