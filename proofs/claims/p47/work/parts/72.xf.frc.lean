abbrev f_e_runs3 : List (Nat × Int) := [(56, 0), (56, 5), (56, 6), (57, -1), (58, -1), (59, -1), (60, -1), (61, -1), (62, 0), (62, 1), (62, 2)]
set_option maxHeartbeats 4000000 in
set_option maxRecDepth 100000 in
theorem e_runs3 (G : KG) (l : Launch) (M : Mem) (c0 : Int) (a1 : Int) (a2 : Int) (a3 : Int) (hI_M : Inv false M) (hk_c0 : kd c0 = 62) (hpre : -2147483648 ≤ a1 ∧ a1 ≤ 2147483647 ∧ -2147483648 ≤ a2 ∧ a2 ≤ 2147483647 ∧ -2147483648 ≤ a3 ∧ a3 ≤ 2147483647) (q : Int → Int) (hS : zSN M (M c0 5) q) (hU : zSU M (M c0 5) q) : KC false G l yX11_runs cX11_runs 8 (some .boolean) (3, 73) [vR G c0, vI a1, vI a2, vI a3] M (fun A => kQi false G A (fun (r : Int) (N : Mem) => Inv false N ∧ Fr f_e_runs3 M N ∧ (r ≥ 0 ∧ r ≤ 1) ∧ (zRNS (M (M (M c0 3) 0)) q a1 a2 a3 (M (M (M c0 3) 2) a2) (M (M c0 5) 2) r))) := by
  refine kx_met (lo := [some (vR G c0), some (vI a1), some (vI a2), some (vI a3), none, none, none, none]) (by decide) (Nat.le_of_ble_eq_true rfl) rfl ?_
  intro X F hQ
  have hF_M : Fr f_e_runs3 M M := Fr.rf _ _
  have hk_1 : kd (M c0 3) = 13 := Inv.r hI_M hk_c0 rfl 3 rfl rfl
  have hk_2 : kd (M (M c0 3) 0) = 14 := Inv.r hI_M hk_1 rfl 0 rfl rfl
  have hk_3 : kd (M (M c0 3) 1) = 15 := Inv.r hI_M hk_1 rfl 1 rfl rfl
  have hk_4 : kd (M (M c0 3) 2) = 16 := Inv.r hI_M hk_1 rfl 2 rfl rfl
  have hk_5 : kd (M c0 5) = 12 := Inv.r hI_M hk_c0 rfl 5 rfl rfl
  have hSn := hS.u
  have hlr := Inv.g hI_M hk_5 rfl 2 (a := 0) (b := 6) rfl rfl
  refine kx_aload_n 1 F 0 dX11_runs_0 rfl rfl rfl ?_
  refine kx_aload_n 2 F 0 dX11_runs_1 rfl rfl rfl ?_
  refine kx_getr 5 F fl_X11_26 hk_c0 rfl rfl (j := 5) rfl dX11_runs_2 (v := (M c0 5)) rfl rfl ?_
  refine kx_iload_n 6 F 1 dX11_runs_5 rfl rfl rfl ?_
  refine kx_Vi 9 (ci := 0) F (As := [vI a1]) (st := [vR G c0]) vd_X11_163 (e_X5_has G l M (M c0 5) a1 hI_M hk_5 (by omega)) hk_5 rfl rfl rfl ⟨by decide, by decide⟩ rfl rfl (Nat.le_of_ble_eq_true rfl) dX11_runs_6 rfl ?_
  intro r_6 N_7 q_8
  obtain ⟨rfl, q_8c⟩ := q_8
  have h_9 := Inv.g hI_M hk_5 rfl 3 (a := 0) (b := 2) rfl rfl
  rcases q_8c with q_8c | q_8c | q_8c
  · refine kx_iload_n 10 F 2 dX11_runs_9 rfl rfl rfl ?_
    refine kx_iload_n 11 F 3 dX11_runs_10 rfl rfl rfl ?_
    refine kx_Vi 14 (ci := 0) F (As := [vI r_6, vI a2, vI a3]) (st := []) vd_X11_226 (e_wordRefusal3 G l M c0 r_6 a2 a3 hI_M hk_c0 (by omega)) hk_c0 rfl rfl rfl ⟨by decide, by decide⟩ rfl rfl (Nat.le_of_ble_eq_true rfl) dX11_runs_11 rfl ?_
    intro r_11 N_12 q_13
    obtain ⟨rfl, q_13c, hz_N_12⟩ := q_13
    rcases q_13c with q_13c | q_13c
    · refine kx_istore 16 F 4 (lo' := [some (vR G c0), some (vI a1), some (vI a2), some (vI a3), some (vI r_11), none, none, none]) dX11_runs_14 (by decide) rfl rfl rfl ?_
      refine kx_iload 18 F 4 dX11_runs_16 rfl rfl ?_
      refine kx_if_eq 21 F 28 dX11_runs_18 (by decide) rfl (by omega) (fun h_14 => ?_) (fun h_14 => (by exfalso; omega))
      have hwo := zWR.y hz_N_12 (by omega)
      have hwr : 0 ≤ a2 ∧ a2 ≤ 3 ∧ 0 ≤ a3 ∧ a3 ≤ 20 := ⟨hwo.1, hwo.2.1, hwo.2.2.1, hwo.2.2.2.1⟩
      refine kx_aload_n 29 F 0 dX11_runs_28 rfl rfl rfl ?_
      refine kx_getr 32 F fl_X11_26 hk_c0 rfl rfl (j := 5) rfl dX11_runs_29 (v := (M c0 5)) rfl rfl ?_
      refine kx_iload_n 33 F 1 dX11_runs_32 rfl rfl rfl ?_
      refine kx_Vr 36 (ci := 0) F (As := [vI a1]) (st := []) vd_X11_164 (c_X5_pickE G l M (M c0 5) a1 hI_M hk_5 (by omega)) hk_5 rfl rfl rfl ⟨by decide, by decide⟩ rfl rfl (Nat.le_of_ble_eq_true rfl) dX11_runs_33 rfl ?_
      intro r_15 N_16 q_17
      obtain ⟨rfl, hk_18, q_17d⟩ := q_17
      rcases q_17d with ⟨q_17c, rfl⟩ | ⟨q_17c, rfl⟩
      · refine kx_astore 38 F 5 (lo' := [some (vR G c0), some (vI a1), some (vI a2), some (vI a3), some (vI r_11), some (vR G (M (M c0 5) 4)), none, none]) dX11_runs_36 (by decide) rfl rfl rfl ?_
        refine kx_aload_n 39 F 0 dX11_runs_38 rfl rfl rfl ?_
        refine kx_getr 42 F fl_X11_68 hk_c0 rfl rfl (j := 13) rfl dX11_runs_39 (v := (M c0 13)) rfl rfl ?_
        have hk_19 : kd (M c0 13) = 56 := Inv.r hI_M hk_c0 rfl 13 rfl rfl
        refine kx_Vv 45 (ci := 0) F (As := []) (st := []) vd_X11_239 (c_X3_begin G l M (M c0 13) hI_M hk_19) hk_19 rfl rfl rfl ⟨by decide, by decide⟩ rfl rfl (Nat.le_of_ble_eq_true rfl) dX11_runs_42 rfl ?_
        intro N_20 q_21
        obtain ⟨hI_N_20, hG_N_20⟩ := q_21
        have hF_N_20 : Fr f_e_runs3 M N_20 := Fr.c hF_M hG_N_20 rfl
        refine kx_iconst 46 F dX11_runs_45 rfl ?_
        refine kx_istore 48 F 6 (lo' := [some (vR G c0), some (vI a1), some (vI a2), some (vI a3), some (vI r_11), some (vR G (M (M c0 5) 4)), some (vI 0), none]) dX11_runs_46 (by decide) rfl rfl rfl ?_
        have L_423 : ∀ (n_424 : Nat) (x6_421 : Int) (N_422 : Mem), Inv false N_422 → Fr f_e_runs3 M N_422 → 0 ≤ x6_421 ∧ x6_421 ≤ 20 → (20 - (x6_421)).toNat = n_424 → KJ false G X N_422 48 [some (vR G c0), none, some (vI a2), some (vI a3), none, some (vR G (M (M c0 5) 4)), some (vI x6_421), none] [] := by
          intro n_424
          refine Nat.strongRecOn n_424 ?_
          intro n_424 ih_425 x6_421 N_422 hI_N_422 hF_N_422 h_426 hm_427
          refine kx_iload 50 F 6 dX11_runs_48 rfl rfl ?_
          refine kx_iload_n 51 F 3 dX11_runs_50 rfl rfl rfl ?_
          refine kx_icmp_ge 54 F 93 dX11_runs_51 (by decide) rfl (by omega) (by omega) (fun h_428 => ?_) (fun h_428 => ?_)
          · refine kx_aload_n 94 F 0 dX11_runs_93 rfl rfl rfl ?_
            refine kx_aload_n 95 F 0 dX11_runs_94 rfl rfl rfl ?_
            refine kx_getr 98 F fl_X11_68 hk_c0 rfl rfl (j := 13) rfl dX11_runs_95 (v := (M c0 13)) (by rw [Fr.e hF_N_422 hk_c0 _ rfl]) rfl ?_
            refine kx_aload 100 F 5 dX11_runs_98 rfl rfl ?_
            refine kx_Vl 103 (ci := 0) F (As := [vR G (M (M c0 5) 4)]) (st := [vR G c0]) vd_X11_248 (c_X3_total G l N_422 (M c0 13) (M (M c0 5) 4) hI_N_422 hk_19 hk_18) hk_19 rfl rfl rfl ⟨by decide, by decide⟩ rfl rfl (Nat.le_of_ble_eq_true rfl) dX11_runs_100 rfl ?_
            intro r_429 N_430 q_431
            obtain ⟨hI_N_430, hG_N_430, q_431c⟩ := q_431
            have hF_N_430 : Fr f_e_runs3 M N_430 := Fr.c hF_N_422 hG_N_430 rfl
            refine kx_lconst 104 (z := 1) F dX11_runs_103 (by decide) rfl ?_
            refine kx_Vv 107 (ci := 0) F (As := [vL r_429, vL 1]) (st := []) vd_X11_252 (c_X11_tellFraction G l N_430 c0 r_429 1 hI_N_430 hk_c0 (by omega)) hk_c0 rfl rfl rfl ⟨by decide, by decide⟩ rfl rfl (Nat.le_of_ble_eq_true rfl) dX11_runs_104 rfl ?_
            intro N_432 q_433
            obtain ⟨hI_N_432, hG_N_432⟩ := q_433
            have hF_N_432 : Fr f_e_runs3 M N_432 := Fr.c hF_N_430 hG_N_432 rfl
            refine kx_aload_n 108 F 0 dX11_runs_107 rfl rfl rfl ?_
            refine kx_Vi 111 (ci := 0) F (As := []) (st := []) vd_X11_98 (c_X11_agree G l N_432 c0 hI_N_432 hk_c0) hk_c0 rfl rfl rfl ⟨by decide, by decide⟩ rfl rfl (Nat.le_of_ble_eq_true rfl) dX11_runs_108 rfl ?_
            intro r_434 N_435 q_436
            obtain ⟨hI_N_435, hG_N_435, q_436c⟩ := q_436
            have hF_N_435 : Fr f_e_runs3 M N_435 := Fr.c hF_N_432 hG_N_435 rfl
            subst q_436c
            exact kx_zret F hQ (by omega) ⟨hI_N_435, hF_N_435, (by omega), (Or.inl ⟨⟨by omega, by omega, zWR.y hz_N_12 (by omega)⟩, by omega⟩)⟩ dX11_runs_111
          · refine kx_aload_n 55 F 0 dX11_runs_54 rfl rfl rfl ?_
            refine kx_getr 58 F fl_X11_10 hk_c0 rfl rfl (j := 3) rfl dX11_runs_55 (v := (M c0 3)) (by rw [Fr.e hF_N_422 hk_c0 _ rfl]) rfl ?_
            refine kx_iload_n 59 F 2 dX11_runs_58 rfl rfl rfl ?_
            refine kx_iload 61 F 6 dX11_runs_59 rfl rfl ?_
            refine kx_Vl 64 (ci := 0) F (As := [vI a2, vI x6_421]) (st := []) vd_X11_114 (e_get3 G l N_422 (M c0 3) a2 x6_421 hI_N_422 hk_1 (by omega)) hk_1 rfl rfl rfl ⟨by decide, by decide⟩ rfl rfl (Nat.le_of_ble_eq_true rfl) dX11_runs_61 rfl ?_
            intro r_437 N_438 q_439
            obtain ⟨rfl, q_439c⟩ := q_439
            have e_440 : (N_422 (M c0 3) 0) = (M (M c0 3) 0) := by rw [Fr.e hF_N_422 hk_1 _ rfl]
            have e_441 : (N_422 (N_422 (M c0 3) 0) (60 * a2 + x6_421)) = (M (M (M c0 3) 0) (60 * a2 + x6_421)) := by rw [e_440, Fr.e hF_N_422 hk_2 _ rfl]
            have e_442 : (N_422 (M c0 3) 0) = (M (M c0 3) 0) := by rw [Fr.e hF_N_422 hk_1 _ rfl]
            have e_443 : (N_422 (N_422 (M c0 3) 0) (60 * a2 + x6_421)) = (M (M (M c0 3) 0) (60 * a2 + x6_421)) := by rw [e_442, Fr.e hF_N_422 hk_2 _ rfl]
            have hl_444 := hwo.2.2.2.2.2.2 x6_421 (by omega) (by omega)
            refine kx_l2i 65 F dX11_runs_64 rfl ?_
            refine kx_istore 67 F 7 (lo' := [some (vR G c0), none, some (vI a2), some (vI a3), none, some (vR G (M (M c0 5) 4)), some (vI x6_421), some (vI r_437)]) dX11_runs_65 (by decide) rfl rfl rfl ?_
            refine kx_aload_n 68 F 0 dX11_runs_67 rfl rfl rfl ?_
            refine kx_getr 71 F fl_X11_68 hk_c0 rfl rfl (j := 13) rfl dX11_runs_68 (v := (M c0 13)) (by rw [Fr.e hF_N_422 hk_c0 _ rfl]) rfl ?_
            refine kx_aload 73 F 5 dX11_runs_71 rfl rfl ?_
            refine kx_iload 75 F 7 dX11_runs_73 rfl rfl ?_
            refine kx_aload_n 76 F 0 dX11_runs_75 rfl rfl rfl ?_
            refine kx_getr 79 F fl_X11_26 hk_c0 rfl rfl (j := 5) rfl dX11_runs_76 (v := (M c0 5)) (by rw [Fr.e hF_N_422 hk_c0 _ rfl]) rfl ?_
            refine kx_iload 81 F 7 dX11_runs_79 rfl rfl ?_
            refine kx_Vi 84 (ci := 0) F (As := [vI r_437]) (st := [vI r_437, vR G (M (M c0 5) 4), vR G (M c0 13)]) vd_X11_242 (e_X5_sortOf G l N_422 (M c0 5) r_437 hI_N_422 hk_5 (by omega)) hk_5 rfl rfl rfl ⟨by decide, by decide⟩ rfl rfl (Nat.le_of_ble_eq_true rfl) dX11_runs_81 rfl ?_
            intro r_445 N_446 q_447
            obtain ⟨rfl, q_447c⟩ := q_447
            have e_448 : (N_422 (M c0 5) 2) = (M (M c0 5) 2) := by rw [Fr.e hF_N_422 hk_5 _ rfl]
            have e_451 : (N_422 (M c0 5) 0) = (M (M c0 5) 0) := by rw [Fr.e hF_N_422 hk_5 _ rfl]
            have h_452 := Inv.g hI_M hk_5 rfl 0 (a := 0) (b := 2) rfl rfl
            have e_460 : (N_422 (M c0 5) 1) = (M (M c0 5) 1) := by rw [Fr.e hF_N_422 hk_5 _ rfl]
            have h_461 := Inv.g hI_M hk_5 rfl 1 (a := 0) (b := 4) rfl rfl
            rcases q_447c with q_447c | q_447c | q_447c | q_447c | q_447c
            · exfalso; omega
            · refine kx_Vv 87 (ci := 0) F (As := [vR G (M (M c0 5) 4), vI r_437, vI r_445]) (st := []) vd_X11_245 (c_X3_go G l N_422 (M c0 13) (M (M c0 5) 4) r_437 r_445 hI_N_422 hk_19 hk_18 (by omega)) hk_19 rfl rfl rfl ⟨by decide, by decide⟩ rfl rfl (Nat.le_of_ble_eq_true rfl) dX11_runs_84 rfl ?_
              intro N_475 q_476
              obtain ⟨hI_N_475, hG_N_475⟩ := q_476
              have hF_N_475 : Fr f_e_runs3 M N_475 := Fr.c hF_N_422 hG_N_475 rfl
              refine kx_iinc 90 F 6 (v := x6_421 + 1) (lo' := [some (vR G c0), none, some (vI a2), some (vI a3), none, some (vR G (M (M c0 5) 4)), some (vI (x6_421 + 1)), some (vI r_437)]) dX11_runs_87 rfl (by omega) (by decide) rfl rfl rfl ?_
              refine kx_goto 48 F dX11_runs_90 (by decide) ?_
              refine kx_drop 7 (lo' := [some (vR G c0), none, some (vI a2), some (vI a3), none, some (vR G (M (M c0 5) 4)), some (vI (x6_421 + 1)), none]) rfl ?_
              exact ih_425 _ (by omega) (x6_421 + 1) N_475 hI_N_475 hF_N_475 (by omega) rfl
            · refine kx_Vv 87 (ci := 0) F (As := [vR G (M (M c0 5) 4), vI r_437, vI r_445]) (st := []) vd_X11_245 (c_X3_go G l N_422 (M c0 13) (M (M c0 5) 4) r_437 r_445 hI_N_422 hk_19 hk_18 (by omega)) hk_19 rfl rfl rfl ⟨by decide, by decide⟩ rfl rfl (Nat.le_of_ble_eq_true rfl) dX11_runs_84 rfl ?_
              intro N_477 q_478
              obtain ⟨hI_N_477, hG_N_477⟩ := q_478
              have hF_N_477 : Fr f_e_runs3 M N_477 := Fr.c hF_N_422 hG_N_477 rfl
              refine kx_iinc 90 F 6 (v := x6_421 + 1) (lo' := [some (vR G c0), none, some (vI a2), some (vI a3), none, some (vR G (M (M c0 5) 4)), some (vI (x6_421 + 1)), some (vI r_437)]) dX11_runs_87 rfl (by omega) (by decide) rfl rfl rfl ?_
              refine kx_goto 48 F dX11_runs_90 (by decide) ?_
              refine kx_drop 7 (lo' := [some (vR G c0), none, some (vI a2), some (vI a3), none, some (vR G (M (M c0 5) 4)), some (vI (x6_421 + 1)), none]) rfl ?_
              exact ih_425 _ (by omega) (x6_421 + 1) N_477 hI_N_477 hF_N_477 (by omega) rfl
            · refine kx_Vv 87 (ci := 0) F (As := [vR G (M (M c0 5) 4), vI r_437, vI r_445]) (st := []) vd_X11_245 (c_X3_go G l N_422 (M c0 13) (M (M c0 5) 4) r_437 r_445 hI_N_422 hk_19 hk_18 (by omega)) hk_19 rfl rfl rfl ⟨by decide, by decide⟩ rfl rfl (Nat.le_of_ble_eq_true rfl) dX11_runs_84 rfl ?_
              intro N_479 q_480
              obtain ⟨hI_N_479, hG_N_479⟩ := q_480
              have hF_N_479 : Fr f_e_runs3 M N_479 := Fr.c hF_N_422 hG_N_479 rfl
              refine kx_iinc 90 F 6 (v := x6_421 + 1) (lo' := [some (vR G c0), none, some (vI a2), some (vI a3), none, some (vR G (M (M c0 5) 4)), some (vI (x6_421 + 1)), some (vI r_437)]) dX11_runs_87 rfl (by omega) (by decide) rfl rfl rfl ?_
              refine kx_goto 48 F dX11_runs_90 (by decide) ?_
              refine kx_drop 7 (lo' := [some (vR G c0), none, some (vI a2), some (vI a3), none, some (vR G (M (M c0 5) 4)), some (vI (x6_421 + 1)), none]) rfl ?_
              exact ih_425 _ (by omega) (x6_421 + 1) N_479 hI_N_479 hF_N_479 (by omega) rfl
            · refine kx_Vv 87 (ci := 0) F (As := [vR G (M (M c0 5) 4), vI r_437, vI r_445]) (st := []) vd_X11_245 (c_X3_go G l N_422 (M c0 13) (M (M c0 5) 4) r_437 r_445 hI_N_422 hk_19 hk_18 (by omega)) hk_19 rfl rfl rfl ⟨by decide, by decide⟩ rfl rfl (Nat.le_of_ble_eq_true rfl) dX11_runs_84 rfl ?_
              intro N_481 q_482
              obtain ⟨hI_N_481, hG_N_481⟩ := q_482
              have hF_N_481 : Fr f_e_runs3 M N_481 := Fr.c hF_N_422 hG_N_481 rfl
              refine kx_iinc 90 F 6 (v := x6_421 + 1) (lo' := [some (vR G c0), none, some (vI a2), some (vI a3), none, some (vR G (M (M c0 5) 4)), some (vI (x6_421 + 1)), some (vI r_437)]) dX11_runs_87 rfl (by omega) (by decide) rfl rfl rfl ?_
              refine kx_goto 48 F dX11_runs_90 (by decide) ?_
              refine kx_drop 7 (lo' := [some (vR G c0), none, some (vI a2), some (vI a3), none, some (vR G (M (M c0 5) 4)), some (vI (x6_421 + 1)), none]) rfl ?_
              exact ih_425 _ (by omega) (x6_421 + 1) N_481 hI_N_481 hF_N_481 (by omega) rfl
        refine kx_drop 1 (lo' := [some (vR G c0), none, some (vI a2), some (vI a3), some (vI r_11), some (vR G (M (M c0 5) 4)), some (vI 0), none]) rfl ?_
        refine kx_drop 4 (lo' := [some (vR G c0), none, some (vI a2), some (vI a3), none, some (vR G (M (M c0 5) 4)), some (vI 0), none]) rfl ?_
        exact L_423 _ 0 N_20 hI_N_20 hF_N_20 (by omega) rfl
      · refine kx_astore 38 F 5 (lo' := [some (vR G c0), some (vI a1), some (vI a2), some (vI a3), some (vI r_11), some (vR G (M (M c0 5) 5)), none, none]) dX11_runs_36 (by decide) rfl rfl rfl ?_
        refine kx_aload_n 39 F 0 dX11_runs_38 rfl rfl rfl ?_
        refine kx_getr 42 F fl_X11_68 hk_c0 rfl rfl (j := 13) rfl dX11_runs_39 (v := (M c0 13)) rfl rfl ?_
        have hk_483 : kd (M c0 13) = 56 := Inv.r hI_M hk_c0 rfl 13 rfl rfl
        refine kx_Vv 45 (ci := 0) F (As := []) (st := []) vd_X11_239 (c_X3_begin G l M (M c0 13) hI_M hk_483) hk_483 rfl rfl rfl ⟨by decide, by decide⟩ rfl rfl (Nat.le_of_ble_eq_true rfl) dX11_runs_42 rfl ?_
        intro N_484 q_485
        obtain ⟨hI_N_484, hG_N_484⟩ := q_485
        have hF_N_484 : Fr f_e_runs3 M N_484 := Fr.c hF_M hG_N_484 rfl
        refine kx_iconst 46 F dX11_runs_45 rfl ?_
        refine kx_istore 48 F 6 (lo' := [some (vR G c0), some (vI a1), some (vI a2), some (vI a3), some (vI r_11), some (vR G (M (M c0 5) 5)), some (vI 0), none]) dX11_runs_46 (by decide) rfl rfl rfl ?_
        have L_887 : ∀ (n_888 : Nat) (x6_885 : Int) (N_886 : Mem), Inv false N_886 → Fr f_e_runs3 M N_886 → 0 ≤ x6_885 ∧ x6_885 ≤ 20 → (20 - (x6_885)).toNat = n_888 → KJ false G X N_886 48 [some (vR G c0), none, some (vI a2), some (vI a3), none, some (vR G (M (M c0 5) 5)), some (vI x6_885), none] [] := by
          intro n_888
          refine Nat.strongRecOn n_888 ?_
          intro n_888 ih_889 x6_885 N_886 hI_N_886 hF_N_886 h_890 hm_891
          refine kx_iload 50 F 6 dX11_runs_48 rfl rfl ?_
          refine kx_iload_n 51 F 3 dX11_runs_50 rfl rfl rfl ?_
          refine kx_icmp_ge 54 F 93 dX11_runs_51 (by decide) rfl (by omega) (by omega) (fun h_892 => ?_) (fun h_892 => ?_)
          · refine kx_aload_n 94 F 0 dX11_runs_93 rfl rfl rfl ?_
            refine kx_aload_n 95 F 0 dX11_runs_94 rfl rfl rfl ?_
            refine kx_getr 98 F fl_X11_68 hk_c0 rfl rfl (j := 13) rfl dX11_runs_95 (v := (M c0 13)) (by rw [Fr.e hF_N_886 hk_c0 _ rfl]) rfl ?_
            refine kx_aload 100 F 5 dX11_runs_98 rfl rfl ?_
            refine kx_Vl 103 (ci := 0) F (As := [vR G (M (M c0 5) 5)]) (st := [vR G c0]) vd_X11_248 (c_X3_total G l N_886 (M c0 13) (M (M c0 5) 5) hI_N_886 hk_483 hk_18) hk_483 rfl rfl rfl ⟨by decide, by decide⟩ rfl rfl (Nat.le_of_ble_eq_true rfl) dX11_runs_100 rfl ?_
            intro r_893 N_894 q_895
            obtain ⟨hI_N_894, hG_N_894, q_895c⟩ := q_895
            have hF_N_894 : Fr f_e_runs3 M N_894 := Fr.c hF_N_886 hG_N_894 rfl
            refine kx_lconst 104 (z := 1) F dX11_runs_103 (by decide) rfl ?_
            refine kx_Vv 107 (ci := 0) F (As := [vL r_893, vL 1]) (st := []) vd_X11_252 (c_X11_tellFraction G l N_894 c0 r_893 1 hI_N_894 hk_c0 (by omega)) hk_c0 rfl rfl rfl ⟨by decide, by decide⟩ rfl rfl (Nat.le_of_ble_eq_true rfl) dX11_runs_104 rfl ?_
            intro N_896 q_897
            obtain ⟨hI_N_896, hG_N_896⟩ := q_897
            have hF_N_896 : Fr f_e_runs3 M N_896 := Fr.c hF_N_894 hG_N_896 rfl
            refine kx_aload_n 108 F 0 dX11_runs_107 rfl rfl rfl ?_
            refine kx_Vi 111 (ci := 0) F (As := []) (st := []) vd_X11_98 (c_X11_agree G l N_896 c0 hI_N_896 hk_c0) hk_c0 rfl rfl rfl ⟨by decide, by decide⟩ rfl rfl (Nat.le_of_ble_eq_true rfl) dX11_runs_108 rfl ?_
            intro r_898 N_899 q_900
            obtain ⟨hI_N_899, hG_N_899, q_900c⟩ := q_900
            have hF_N_899 : Fr f_e_runs3 M N_899 := Fr.c hF_N_896 hG_N_899 rfl
            subst q_900c
            exact kx_zret F hQ (by omega) ⟨hI_N_899, hF_N_899, (by omega), (Or.inl ⟨⟨by omega, by omega, zWR.y hz_N_12 (by omega)⟩, by omega⟩)⟩ dX11_runs_111
          · refine kx_aload_n 55 F 0 dX11_runs_54 rfl rfl rfl ?_
            refine kx_getr 58 F fl_X11_10 hk_c0 rfl rfl (j := 3) rfl dX11_runs_55 (v := (M c0 3)) (by rw [Fr.e hF_N_886 hk_c0 _ rfl]) rfl ?_
            refine kx_iload_n 59 F 2 dX11_runs_58 rfl rfl rfl ?_
            refine kx_iload 61 F 6 dX11_runs_59 rfl rfl ?_
            refine kx_Vl 64 (ci := 0) F (As := [vI a2, vI x6_885]) (st := []) vd_X11_114 (e_get3 G l N_886 (M c0 3) a2 x6_885 hI_N_886 hk_1 (by omega)) hk_1 rfl rfl rfl ⟨by decide, by decide⟩ rfl rfl (Nat.le_of_ble_eq_true rfl) dX11_runs_61 rfl ?_
            intro r_901 N_902 q_903
            obtain ⟨rfl, q_903c⟩ := q_903
            have e_904 : (N_886 (M c0 3) 0) = (M (M c0 3) 0) := by rw [Fr.e hF_N_886 hk_1 _ rfl]
            have e_905 : (N_886 (N_886 (M c0 3) 0) (60 * a2 + x6_885)) = (M (M (M c0 3) 0) (60 * a2 + x6_885)) := by rw [e_904, Fr.e hF_N_886 hk_2 _ rfl]
            have e_906 : (N_886 (M c0 3) 0) = (M (M c0 3) 0) := by rw [Fr.e hF_N_886 hk_1 _ rfl]
            have e_907 : (N_886 (N_886 (M c0 3) 0) (60 * a2 + x6_885)) = (M (M (M c0 3) 0) (60 * a2 + x6_885)) := by rw [e_906, Fr.e hF_N_886 hk_2 _ rfl]
            have hl_908 := hwo.2.2.2.2.2.2 x6_885 (by omega) (by omega)
            refine kx_l2i 65 F dX11_runs_64 rfl ?_
            refine kx_istore 67 F 7 (lo' := [some (vR G c0), none, some (vI a2), some (vI a3), none, some (vR G (M (M c0 5) 5)), some (vI x6_885), some (vI r_901)]) dX11_runs_65 (by decide) rfl rfl rfl ?_
            refine kx_aload_n 68 F 0 dX11_runs_67 rfl rfl rfl ?_
            refine kx_getr 71 F fl_X11_68 hk_c0 rfl rfl (j := 13) rfl dX11_runs_68 (v := (M c0 13)) (by rw [Fr.e hF_N_886 hk_c0 _ rfl]) rfl ?_
            refine kx_aload 73 F 5 dX11_runs_71 rfl rfl ?_
            refine kx_iload 75 F 7 dX11_runs_73 rfl rfl ?_
            refine kx_aload_n 76 F 0 dX11_runs_75 rfl rfl rfl ?_
            refine kx_getr 79 F fl_X11_26 hk_c0 rfl rfl (j := 5) rfl dX11_runs_76 (v := (M c0 5)) (by rw [Fr.e hF_N_886 hk_c0 _ rfl]) rfl ?_
            refine kx_iload 81 F 7 dX11_runs_79 rfl rfl ?_
            refine kx_Vi 84 (ci := 0) F (As := [vI r_901]) (st := [vI r_901, vR G (M (M c0 5) 5), vR G (M c0 13)]) vd_X11_242 (e_X5_sortOf G l N_886 (M c0 5) r_901 hI_N_886 hk_5 (by omega)) hk_5 rfl rfl rfl ⟨by decide, by decide⟩ rfl rfl (Nat.le_of_ble_eq_true rfl) dX11_runs_81 rfl ?_
            intro r_909 N_910 q_911
            obtain ⟨rfl, q_911c⟩ := q_911
            have e_912 : (N_886 (M c0 5) 2) = (M (M c0 5) 2) := by rw [Fr.e hF_N_886 hk_5 _ rfl]
            have e_915 : (N_886 (M c0 5) 0) = (M (M c0 5) 0) := by rw [Fr.e hF_N_886 hk_5 _ rfl]
            have h_916 := Inv.g hI_M hk_5 rfl 0 (a := 0) (b := 2) rfl rfl
            have e_924 : (N_886 (M c0 5) 1) = (M (M c0 5) 1) := by rw [Fr.e hF_N_886 hk_5 _ rfl]
            have h_925 := Inv.g hI_M hk_5 rfl 1 (a := 0) (b := 4) rfl rfl
            rcases q_911c with q_911c | q_911c | q_911c | q_911c | q_911c
            · exfalso; omega
            · refine kx_Vv 87 (ci := 0) F (As := [vR G (M (M c0 5) 5), vI r_901, vI r_909]) (st := []) vd_X11_245 (c_X3_go G l N_886 (M c0 13) (M (M c0 5) 5) r_901 r_909 hI_N_886 hk_483 hk_18 (by omega)) hk_483 rfl rfl rfl ⟨by decide, by decide⟩ rfl rfl (Nat.le_of_ble_eq_true rfl) dX11_runs_84 rfl ?_
              intro N_939 q_940
              obtain ⟨hI_N_939, hG_N_939⟩ := q_940
              have hF_N_939 : Fr f_e_runs3 M N_939 := Fr.c hF_N_886 hG_N_939 rfl
              refine kx_iinc 90 F 6 (v := x6_885 + 1) (lo' := [some (vR G c0), none, some (vI a2), some (vI a3), none, some (vR G (M (M c0 5) 5)), some (vI (x6_885 + 1)), some (vI r_901)]) dX11_runs_87 rfl (by omega) (by decide) rfl rfl rfl ?_
              refine kx_goto 48 F dX11_runs_90 (by decide) ?_
              refine kx_drop 7 (lo' := [some (vR G c0), none, some (vI a2), some (vI a3), none, some (vR G (M (M c0 5) 5)), some (vI (x6_885 + 1)), none]) rfl ?_
              exact ih_889 _ (by omega) (x6_885 + 1) N_939 hI_N_939 hF_N_939 (by omega) rfl
            · refine kx_Vv 87 (ci := 0) F (As := [vR G (M (M c0 5) 5), vI r_901, vI r_909]) (st := []) vd_X11_245 (c_X3_go G l N_886 (M c0 13) (M (M c0 5) 5) r_901 r_909 hI_N_886 hk_483 hk_18 (by omega)) hk_483 rfl rfl rfl ⟨by decide, by decide⟩ rfl rfl (Nat.le_of_ble_eq_true rfl) dX11_runs_84 rfl ?_
              intro N_941 q_942
              obtain ⟨hI_N_941, hG_N_941⟩ := q_942
              have hF_N_941 : Fr f_e_runs3 M N_941 := Fr.c hF_N_886 hG_N_941 rfl
              refine kx_iinc 90 F 6 (v := x6_885 + 1) (lo' := [some (vR G c0), none, some (vI a2), some (vI a3), none, some (vR G (M (M c0 5) 5)), some (vI (x6_885 + 1)), some (vI r_901)]) dX11_runs_87 rfl (by omega) (by decide) rfl rfl rfl ?_
              refine kx_goto 48 F dX11_runs_90 (by decide) ?_
              refine kx_drop 7 (lo' := [some (vR G c0), none, some (vI a2), some (vI a3), none, some (vR G (M (M c0 5) 5)), some (vI (x6_885 + 1)), none]) rfl ?_
              exact ih_889 _ (by omega) (x6_885 + 1) N_941 hI_N_941 hF_N_941 (by omega) rfl
            · refine kx_Vv 87 (ci := 0) F (As := [vR G (M (M c0 5) 5), vI r_901, vI r_909]) (st := []) vd_X11_245 (c_X3_go G l N_886 (M c0 13) (M (M c0 5) 5) r_901 r_909 hI_N_886 hk_483 hk_18 (by omega)) hk_483 rfl rfl rfl ⟨by decide, by decide⟩ rfl rfl (Nat.le_of_ble_eq_true rfl) dX11_runs_84 rfl ?_
              intro N_943 q_944
              obtain ⟨hI_N_943, hG_N_943⟩ := q_944
              have hF_N_943 : Fr f_e_runs3 M N_943 := Fr.c hF_N_886 hG_N_943 rfl
              refine kx_iinc 90 F 6 (v := x6_885 + 1) (lo' := [some (vR G c0), none, some (vI a2), some (vI a3), none, some (vR G (M (M c0 5) 5)), some (vI (x6_885 + 1)), some (vI r_901)]) dX11_runs_87 rfl (by omega) (by decide) rfl rfl rfl ?_
              refine kx_goto 48 F dX11_runs_90 (by decide) ?_
              refine kx_drop 7 (lo' := [some (vR G c0), none, some (vI a2), some (vI a3), none, some (vR G (M (M c0 5) 5)), some (vI (x6_885 + 1)), none]) rfl ?_
              exact ih_889 _ (by omega) (x6_885 + 1) N_943 hI_N_943 hF_N_943 (by omega) rfl
            · refine kx_Vv 87 (ci := 0) F (As := [vR G (M (M c0 5) 5), vI r_901, vI r_909]) (st := []) vd_X11_245 (c_X3_go G l N_886 (M c0 13) (M (M c0 5) 5) r_901 r_909 hI_N_886 hk_483 hk_18 (by omega)) hk_483 rfl rfl rfl ⟨by decide, by decide⟩ rfl rfl (Nat.le_of_ble_eq_true rfl) dX11_runs_84 rfl ?_
              intro N_945 q_946
              obtain ⟨hI_N_945, hG_N_945⟩ := q_946
              have hF_N_945 : Fr f_e_runs3 M N_945 := Fr.c hF_N_886 hG_N_945 rfl
              refine kx_iinc 90 F 6 (v := x6_885 + 1) (lo' := [some (vR G c0), none, some (vI a2), some (vI a3), none, some (vR G (M (M c0 5) 5)), some (vI (x6_885 + 1)), some (vI r_901)]) dX11_runs_87 rfl (by omega) (by decide) rfl rfl rfl ?_
              refine kx_goto 48 F dX11_runs_90 (by decide) ?_
              refine kx_drop 7 (lo' := [some (vR G c0), none, some (vI a2), some (vI a3), none, some (vR G (M (M c0 5) 5)), some (vI (x6_885 + 1)), none]) rfl ?_
              exact ih_889 _ (by omega) (x6_885 + 1) N_945 hI_N_945 hF_N_945 (by omega) rfl
        refine kx_drop 1 (lo' := [some (vR G c0), none, some (vI a2), some (vI a3), some (vI r_11), some (vR G (M (M c0 5) 5)), some (vI 0), none]) rfl ?_
        refine kx_drop 4 (lo' := [some (vR G c0), none, some (vI a2), some (vI a3), none, some (vR G (M (M c0 5) 5)), some (vI 0), none]) rfl ?_
        exact L_887 _ 0 N_484 hI_N_484 hF_N_484 (by omega) rfl
    · refine kx_istore 16 F 4 (lo' := [some (vR G c0), some (vI a1), some (vI a2), some (vI a3), some (vI r_11), none, none, none]) dX11_runs_14 (by decide) rfl rfl rfl ?_
      refine kx_iload 18 F 4 dX11_runs_16 rfl rfl ?_
      refine kx_if_eq 21 F 28 dX11_runs_18 (by decide) rfl (by omega) (fun h_947 => (by exfalso; omega)) (fun h_947 => ?_)
      refine kx_aload_n 22 F 0 dX11_runs_21 rfl rfl rfl ?_
      refine kx_iload 24 F 4 dX11_runs_22 rfl rfl ?_
      refine kx_Vi 27 (ci := 0) F (As := [vI r_11]) (st := []) vd_X11_91 (c_X11_deny G l M c0 r_11 hI_M hk_c0 (by omega)) hk_c0 rfl rfl rfl ⟨by decide, by decide⟩ rfl rfl (Nat.le_of_ble_eq_true rfl) dX11_runs_24 rfl ?_
      intro r_948 N_949 q_950
      obtain ⟨hI_N_949, hG_N_949, q_950c⟩ := q_950
      have hF_N_949 : Fr f_e_runs3 M N_949 := Fr.c hF_M hG_N_949 rfl
      subst q_950c
      exact kx_zret F hQ (by omega) ⟨hI_N_949, hF_N_949, (by omega), (Or.inr ⟨fun h => (zWR.n hz_N_12 (by omega)) ⟨by have h1 := h.1; have h2 := h.2.1; clear h; omega, h.2.2⟩, by omega⟩)⟩ dX11_runs_27
  · refine kx_iload_n 10 F 2 dX11_runs_9 rfl rfl rfl ?_
    refine kx_iload_n 11 F 3 dX11_runs_10 rfl rfl rfl ?_
    refine kx_Vi 14 (ci := 0) F (As := [vI r_6, vI a2, vI a3]) (st := []) vd_X11_226 (e_wordRefusal3 G l M c0 r_6 a2 a3 hI_M hk_c0 (by omega)) hk_c0 rfl rfl rfl ⟨by decide, by decide⟩ rfl rfl (Nat.le_of_ble_eq_true rfl) dX11_runs_11 rfl ?_
    intro r_951 N_952 q_953
    obtain ⟨rfl, q_953c, hz_N_952⟩ := q_953
    rcases q_953c with q_953c | q_953c
    · exfalso; omega
    · refine kx_istore 16 F 4 (lo' := [some (vR G c0), some (vI a1), some (vI a2), some (vI a3), some (vI r_951), none, none, none]) dX11_runs_14 (by decide) rfl rfl rfl ?_
      refine kx_iload 18 F 4 dX11_runs_16 rfl rfl ?_
      refine kx_if_eq 21 F 28 dX11_runs_18 (by decide) rfl (by omega) (fun h_954 => (by exfalso; omega)) (fun h_954 => ?_)
      refine kx_aload_n 22 F 0 dX11_runs_21 rfl rfl rfl ?_
      refine kx_iload 24 F 4 dX11_runs_22 rfl rfl ?_
      refine kx_Vi 27 (ci := 0) F (As := [vI r_951]) (st := []) vd_X11_91 (c_X11_deny G l M c0 r_951 hI_M hk_c0 (by omega)) hk_c0 rfl rfl rfl ⟨by decide, by decide⟩ rfl rfl (Nat.le_of_ble_eq_true rfl) dX11_runs_24 rfl ?_
      intro r_955 N_956 q_957
      obtain ⟨hI_N_956, hG_N_956, q_957c⟩ := q_957
      have hF_N_956 : Fr f_e_runs3 M N_956 := Fr.c hF_M hG_N_956 rfl
      subst q_957c
      exact kx_zret F hQ (by omega) ⟨hI_N_956, hF_N_956, (by omega), (Or.inr ⟨fun h => (zWR.n hz_N_952 (by omega)) ⟨by have h1 := h.1; have h2 := h.2.1; clear h; omega, h.2.2⟩, by omega⟩)⟩ dX11_runs_27
  · refine kx_iload_n 10 F 2 dX11_runs_9 rfl rfl rfl ?_
    refine kx_iload_n 11 F 3 dX11_runs_10 rfl rfl rfl ?_
    refine kx_Vi 14 (ci := 0) F (As := [vI r_6, vI a2, vI a3]) (st := []) vd_X11_226 (e_wordRefusal3 G l M c0 r_6 a2 a3 hI_M hk_c0 (by omega)) hk_c0 rfl rfl rfl ⟨by decide, by decide⟩ rfl rfl (Nat.le_of_ble_eq_true rfl) dX11_runs_11 rfl ?_
    intro r_958 N_959 q_960
    obtain ⟨rfl, q_960c, hz_N_959⟩ := q_960
    rcases q_960c with q_960c | q_960c
    · exfalso; omega
    · refine kx_istore 16 F 4 (lo' := [some (vR G c0), some (vI a1), some (vI a2), some (vI a3), some (vI r_958), none, none, none]) dX11_runs_14 (by decide) rfl rfl rfl ?_
      refine kx_iload 18 F 4 dX11_runs_16 rfl rfl ?_
      refine kx_if_eq 21 F 28 dX11_runs_18 (by decide) rfl (by omega) (fun h_961 => (by exfalso; omega)) (fun h_961 => ?_)
      refine kx_aload_n 22 F 0 dX11_runs_21 rfl rfl rfl ?_
      refine kx_iload 24 F 4 dX11_runs_22 rfl rfl ?_
      refine kx_Vi 27 (ci := 0) F (As := [vI r_958]) (st := []) vd_X11_91 (c_X11_deny G l M c0 r_958 hI_M hk_c0 (by omega)) hk_c0 rfl rfl rfl ⟨by decide, by decide⟩ rfl rfl (Nat.le_of_ble_eq_true rfl) dX11_runs_24 rfl ?_
      intro r_962 N_963 q_964
      obtain ⟨hI_N_963, hG_N_963, q_964c⟩ := q_964
      have hF_N_963 : Fr f_e_runs3 M N_963 := Fr.c hF_M hG_N_963 rfl
      subst q_964c
      exact kx_zret F hQ (by omega) ⟨hI_N_963, hF_N_963, (by omega), (Or.inr ⟨fun h => (zWR.n hz_N_959 (by omega)) ⟨by have h1 := h.1; have h2 := h.2.1; clear h; omega, h.2.2⟩, by omega⟩)⟩ dX11_runs_27
abbrev f_e_share3 : List (Nat × Int) := [(47, 0), (47, 1), (47, 2), (47, 3), (47, 7), (48, -1), (49, -1), (50, -1), (51, -1), (52, -1), (53, -1), (54, -1), (55, -1), (62, 0), (62, 1), (62, 2)]
set_option maxHeartbeats 4000000 in
set_option maxRecDepth 100000 in
theorem e_share3 (G : KG) (l : Launch) (M : Mem) (c0 : Int) (a1 : Int) (a2 : Int) (hI_M : Inv false M) (hk_c0 : kd c0 = 62) (hpre : -2147483648 ≤ a1 ∧ a1 ≤ 2147483647 ∧ -2147483648 ≤ a2 ∧ a2 ≤ 2147483647) (q : Int → Int) (hS : zSN M (M c0 5) q) (hU : zSU M (M c0 5) q) : KC false G l yX11_share cX11_share 4 (some .boolean) (5, 123) [vR G c0, vI a1, vI a2] M (fun A => kQi false G A (fun (r : Int) (N : Mem) => Inv false N ∧ Fr f_e_share3 M N ∧ (r ≥ 0 ∧ r ≤ 1) ∧ (zSHR q a1 a2 (M (M c0 5) 2) r))) := by
  refine kx_met (lo := [some (vR G c0), some (vI a1), some (vI a2), none]) (by decide) (Nat.le_of_ble_eq_true rfl) rfl ?_
  intro X F hQ
  have hF_M : Fr f_e_share3 M M := Fr.rf _ _
  have hk_1 : kd (M c0 3) = 13 := Inv.r hI_M hk_c0 rfl 3 rfl rfl
  have hk_2 : kd (M (M c0 3) 0) = 14 := Inv.r hI_M hk_1 rfl 0 rfl rfl
  have hk_3 : kd (M (M c0 3) 1) = 15 := Inv.r hI_M hk_1 rfl 1 rfl rfl
  have hk_4 : kd (M (M c0 3) 2) = 16 := Inv.r hI_M hk_1 rfl 2 rfl rfl
  have hk_5 : kd (M c0 5) = 12 := Inv.r hI_M hk_c0 rfl 5 rfl rfl
  have hSn := hS.u
  have hlr := Inv.g hI_M hk_5 rfl 2 (a := 0) (b := 6) rfl rfl
  refine kx_aload_n 1 F 0 dX11_share_0 rfl rfl rfl ?_
  refine kx_getr 4 F fl_X11_26 hk_c0 rfl rfl (j := 5) rfl dX11_share_1 (v := (M c0 5)) rfl rfl ?_
  refine kx_iload_n 5 F 1 dX11_share_4 rfl rfl rfl ?_
  refine kx_Vi 8 (ci := 0) F (As := [vI a1]) (st := []) vd_X11_163 (e_X5_has G l M (M c0 5) a1 hI_M hk_5 (by omega)) hk_5 rfl rfl rfl ⟨by decide, by decide⟩ rfl rfl (Nat.le_of_ble_eq_true rfl) dX11_share_5 rfl ?_
  intro r_6 N_7 q_8
  obtain ⟨rfl, q_8c⟩ := q_8
  have h_9 := Inv.g hI_M hk_5 rfl 3 (a := 0) (b := 2) rfl rfl
  rcases q_8c with q_8c | q_8c | q_8c
  · refine kx_if_eq 11 F 21 dX11_share_8 (by decide) rfl (by omega) (fun h_11 => (by exfalso; omega)) (fun h_11 => ?_)
    refine kx_iload_n 12 F 2 dX11_share_11 rfl rfl rfl ?_
    refine kx_iconst 13 F dX11_share_12 rfl ?_
    refine kx_bipush 15 F dX11_share_13 (by decide) rfl ?_
    refine kx_Si 18 F (As := [vI a2, vI 0, vI 6]) (st := []) sd_X11_87 (e_X11_within G l M a2 0 6 hI_M (by omega)) ⟨by decide, by decide⟩ rfl rfl (Nat.le_of_ble_eq_true rfl) dX11_share_15 rfl ?_
    intro r_12 N_13 q_14
    obtain ⟨rfl, q_14c⟩ := q_14
    rcases q_14c with q_14c | q_14c | q_14c
    · refine kx_if_ne 21 F 27 dX11_share_18 (by decide) rfl (by omega) (fun h_15 => ?_) (fun h_15 => (by exfalso; omega))
      refine kx_aload_n 28 F 0 dX11_share_27 rfl rfl rfl ?_
      refine kx_getr 31 F fl_X11_26 hk_c0 rfl rfl (j := 5) rfl dX11_share_28 (v := (M c0 5)) rfl rfl ?_
      refine kx_geti 34 F fl_X11_160 hk_5 rfl rfl (j := 2) rfl dX11_share_31 (v := (M (M c0 5) 2)) rfl rfl ?_
      refine kx_if_ne 37 F 48 dX11_share_34 (by decide) rfl (by omega) (fun h_17 => ?_) (fun h_17 => ?_)
      · refine kx_aload_n 49 F 0 dX11_share_48 rfl rfl rfl ?_
        refine kx_getr 52 F fl_X11_26 hk_c0 rfl rfl (j := 5) rfl dX11_share_49 (v := (M c0 5)) rfl rfl ?_
        refine kx_iload_n 53 F 1 dX11_share_52 rfl rfl rfl ?_
        refine kx_Vr 56 (ci := 0) F (As := [vI a1]) (st := []) vd_X11_164 (c_X5_pickE G l M (M c0 5) a1 hI_M hk_5 (by omega)) hk_5 rfl rfl rfl ⟨by decide, by decide⟩ rfl rfl (Nat.le_of_ble_eq_true rfl) dX11_share_53 rfl ?_
        intro r_18 N_19 q_20
        obtain ⟨rfl, hk_21, q_20d⟩ := q_20
        rcases q_20d with ⟨q_20c, rfl⟩ | ⟨q_20c, rfl⟩
        · refine kx_astore_n 57 F 3 (lo' := [some (vR G c0), some (vI a1), some (vI a2), some (vR G (M (M c0 5) 4))]) dX11_share_56 rfl (by decide) rfl rfl rfl ?_
          refine kx_aload_n 58 F 0 dX11_share_57 rfl rfl rfl ?_
          refine kx_getr 61 F fl_X11_54 hk_c0 rfl rfl (j := 11) rfl dX11_share_58 (v := (M c0 11)) rfl rfl ?_
          have hk_22 : kd (M c0 11) = 47 := Inv.r hI_M hk_c0 rfl 11 rfl rfl
          refine kx_aload_n 62 F 0 dX11_share_61 rfl rfl rfl ?_
          refine kx_getr 65 F fl_X11_26 hk_c0 rfl rfl (j := 5) rfl dX11_share_62 (v := (M c0 5)) rfl rfl ?_
          refine kx_aload_n 66 F 3 dX11_share_65 rfl rfl rfl ?_
          refine kx_iload_n 67 F 2 dX11_share_66 rfl rfl rfl ?_
          refine kx_Vv 70 (ci := 0) F (As := [vR G (M c0 5), vR G (M (M c0 5) 4), vI a2]) (st := []) vd_X11_334 (c_X8_reckon G l M (M c0 11) (M c0 5) (M (M c0 5) 4) a2 hI_M hk_22 hk_5 hk_21 (by omega)) hk_22 rfl rfl rfl ⟨by decide, by decide⟩ rfl rfl (Nat.le_of_ble_eq_true rfl) dX11_share_67 rfl ?_
          intro N_23 q_24
          obtain ⟨hI_N_23, hG_N_23⟩ := q_24
          have hF_N_23 : Fr f_e_share3 M N_23 := Fr.c hF_M hG_N_23 rfl
          refine kx_aload_n 71 F 0 dX11_share_70 rfl rfl rfl ?_
          refine kx_aload_n 72 F 0 dX11_share_71 rfl rfl rfl ?_
          refine kx_getr 75 F fl_X11_54 hk_c0 rfl rfl (j := 11) rfl dX11_share_72 (v := (M c0 11)) (by rw [Fr.e hG_N_23 hk_c0 _ rfl]) rfl ?_
          refine kx_aload_n 76 F 3 dX11_share_75 rfl rfl rfl ?_
          refine kx_iload_n 77 F 2 dX11_share_76 rfl rfl rfl ?_
          refine kx_Vi 80 (ci := 0) F (As := [vR G (M (M c0 5) 4), vI a2]) (st := [vR G c0]) vd_X11_338 (c_X8_taken G l N_23 (M c0 11) (M (M c0 5) 4) a2 hI_N_23 hk_22 hk_21 (by omega)) hk_22 rfl rfl rfl ⟨by decide, by decide⟩ rfl rfl (Nat.le_of_ble_eq_true rfl) dX11_share_77 rfl ?_
          intro r_25 N_26 q_27
          obtain ⟨rfl, q_27c⟩ := q_27
          refine kx_i2l 81 F dX11_share_80 (by omega) rfl ?_
          refine kx_aload_n 82 F 0 dX11_share_81 rfl rfl rfl ?_
          refine kx_getr 85 F fl_X11_26 hk_c0 rfl rfl (j := 5) rfl dX11_share_82 (v := (M c0 5)) (by rw [Fr.e hG_N_23 hk_c0 _ rfl]) rfl ?_
          refine kx_geti 88 F fl_X11_160 hk_5 rfl rfl (j := 2) rfl dX11_share_85 (v := (M (M c0 5) 2)) (by rw [Fr.e hG_N_23 hk_5 _ rfl]) rfl ?_
          refine kx_iload_n 89 F 2 dX11_share_88 rfl rfl rfl ?_
          refine kx_Si 92 F (As := [vI (M (M c0 5) 2), vI a2]) (st := [vL r_25, vR G c0]) sd_X11_342 (c_X2_power G l N_23 (M (M c0 5) 2) a2 hI_N_23 (by omega)) ⟨by decide, by decide⟩ rfl rfl (Nat.le_of_ble_eq_true rfl) dX11_share_89 rfl ?_
          intro r_28 N_29 q_30
          obtain ⟨rfl, q_30c⟩ := q_30
          refine kx_i2l 93 F dX11_share_92 (by omega) rfl ?_
          refine kx_Vv 96 (ci := 0) F (As := [vL r_25, vL r_28]) (st := []) vd_X11_252 (c_X11_tellFraction G l N_23 c0 r_25 r_28 hI_N_23 hk_c0 (by omega)) hk_c0 rfl rfl rfl ⟨by decide, by decide⟩ rfl rfl (Nat.le_of_ble_eq_true rfl) dX11_share_93 rfl ?_
          intro N_31 q_32
          obtain ⟨hI_N_31, hG_N_31⟩ := q_32
          have hF_N_31 : Fr f_e_share3 M N_31 := Fr.c hF_N_23 hG_N_31 rfl
          refine kx_aload_n 97 F 0 dX11_share_96 rfl rfl rfl ?_
          refine kx_Vi 100 (ci := 0) F (As := []) (st := []) vd_X11_98 (c_X11_agree G l N_31 c0 hI_N_31 hk_c0) hk_c0 rfl rfl rfl ⟨by decide, by decide⟩ rfl rfl (Nat.le_of_ble_eq_true rfl) dX11_share_97 rfl ?_
          intro r_33 N_34 q_35
          obtain ⟨hI_N_34, hG_N_34, q_35c⟩ := q_35
          have hF_N_34 : Fr f_e_share3 M N_34 := Fr.c hF_N_31 hG_N_34 rfl
          subst q_35c
          exact kx_zret F hQ (by omega) ⟨hI_N_34, hF_N_34, (by omega), (Or.inl ⟨by omega, by omega, by omega, by omega, by omega, by omega⟩)⟩ dX11_share_100
        · refine kx_astore_n 57 F 3 (lo' := [some (vR G c0), some (vI a1), some (vI a2), some (vR G (M (M c0 5) 5))]) dX11_share_56 rfl (by decide) rfl rfl rfl ?_
          refine kx_aload_n 58 F 0 dX11_share_57 rfl rfl rfl ?_
          refine kx_getr 61 F fl_X11_54 hk_c0 rfl rfl (j := 11) rfl dX11_share_58 (v := (M c0 11)) rfl rfl ?_
          have hk_36 : kd (M c0 11) = 47 := Inv.r hI_M hk_c0 rfl 11 rfl rfl
          refine kx_aload_n 62 F 0 dX11_share_61 rfl rfl rfl ?_
          refine kx_getr 65 F fl_X11_26 hk_c0 rfl rfl (j := 5) rfl dX11_share_62 (v := (M c0 5)) rfl rfl ?_
          refine kx_aload_n 66 F 3 dX11_share_65 rfl rfl rfl ?_
          refine kx_iload_n 67 F 2 dX11_share_66 rfl rfl rfl ?_
          refine kx_Vv 70 (ci := 0) F (As := [vR G (M c0 5), vR G (M (M c0 5) 5), vI a2]) (st := []) vd_X11_334 (c_X8_reckon G l M (M c0 11) (M c0 5) (M (M c0 5) 5) a2 hI_M hk_36 hk_5 hk_21 (by omega)) hk_36 rfl rfl rfl ⟨by decide, by decide⟩ rfl rfl (Nat.le_of_ble_eq_true rfl) dX11_share_67 rfl ?_
          intro N_37 q_38
          obtain ⟨hI_N_37, hG_N_37⟩ := q_38
          have hF_N_37 : Fr f_e_share3 M N_37 := Fr.c hF_M hG_N_37 rfl
          refine kx_aload_n 71 F 0 dX11_share_70 rfl rfl rfl ?_
          refine kx_aload_n 72 F 0 dX11_share_71 rfl rfl rfl ?_
          refine kx_getr 75 F fl_X11_54 hk_c0 rfl rfl (j := 11) rfl dX11_share_72 (v := (M c0 11)) (by rw [Fr.e hG_N_37 hk_c0 _ rfl]) rfl ?_
          refine kx_aload_n 76 F 3 dX11_share_75 rfl rfl rfl ?_
          refine kx_iload_n 77 F 2 dX11_share_76 rfl rfl rfl ?_
          refine kx_Vi 80 (ci := 0) F (As := [vR G (M (M c0 5) 5), vI a2]) (st := [vR G c0]) vd_X11_338 (c_X8_taken G l N_37 (M c0 11) (M (M c0 5) 5) a2 hI_N_37 hk_36 hk_21 (by omega)) hk_36 rfl rfl rfl ⟨by decide, by decide⟩ rfl rfl (Nat.le_of_ble_eq_true rfl) dX11_share_77 rfl ?_
          intro r_39 N_40 q_41
          obtain ⟨rfl, q_41c⟩ := q_41
          refine kx_i2l 81 F dX11_share_80 (by omega) rfl ?_
          refine kx_aload_n 82 F 0 dX11_share_81 rfl rfl rfl ?_
          refine kx_getr 85 F fl_X11_26 hk_c0 rfl rfl (j := 5) rfl dX11_share_82 (v := (M c0 5)) (by rw [Fr.e hG_N_37 hk_c0 _ rfl]) rfl ?_
          refine kx_geti 88 F fl_X11_160 hk_5 rfl rfl (j := 2) rfl dX11_share_85 (v := (M (M c0 5) 2)) (by rw [Fr.e hG_N_37 hk_5 _ rfl]) rfl ?_
          refine kx_iload_n 89 F 2 dX11_share_88 rfl rfl rfl ?_
          refine kx_Si 92 F (As := [vI (M (M c0 5) 2), vI a2]) (st := [vL r_39, vR G c0]) sd_X11_342 (c_X2_power G l N_37 (M (M c0 5) 2) a2 hI_N_37 (by omega)) ⟨by decide, by decide⟩ rfl rfl (Nat.le_of_ble_eq_true rfl) dX11_share_89 rfl ?_
          intro r_42 N_43 q_44
          obtain ⟨rfl, q_44c⟩ := q_44
          refine kx_i2l 93 F dX11_share_92 (by omega) rfl ?_
          refine kx_Vv 96 (ci := 0) F (As := [vL r_39, vL r_42]) (st := []) vd_X11_252 (c_X11_tellFraction G l N_37 c0 r_39 r_42 hI_N_37 hk_c0 (by omega)) hk_c0 rfl rfl rfl ⟨by decide, by decide⟩ rfl rfl (Nat.le_of_ble_eq_true rfl) dX11_share_93 rfl ?_
          intro N_45 q_46
          obtain ⟨hI_N_45, hG_N_45⟩ := q_46
          have hF_N_45 : Fr f_e_share3 M N_45 := Fr.c hF_N_37 hG_N_45 rfl
          refine kx_aload_n 97 F 0 dX11_share_96 rfl rfl rfl ?_
          refine kx_Vi 100 (ci := 0) F (As := []) (st := []) vd_X11_98 (c_X11_agree G l N_45 c0 hI_N_45 hk_c0) hk_c0 rfl rfl rfl ⟨by decide, by decide⟩ rfl rfl (Nat.le_of_ble_eq_true rfl) dX11_share_97 rfl ?_
          intro r_47 N_48 q_49
          obtain ⟨hI_N_48, hG_N_48, q_49c⟩ := q_49
          have hF_N_48 : Fr f_e_share3 M N_48 := Fr.c hF_N_45 hG_N_48 rfl
          subst q_49c
          exact kx_zret F hQ (by omega) ⟨hI_N_48, hF_N_48, (by omega), (Or.inl ⟨by omega, by omega, by omega, by omega, by omega, by omega⟩)⟩ dX11_share_100
      · refine kx_iload_n 38 F 2 dX11_share_37 rfl rfl rfl ?_
        refine kx_if_le 41 F 48 dX11_share_38 (by decide) rfl (by omega) (fun h_50 => ?_) (fun h_50 => ?_)
        · refine kx_aload_n 49 F 0 dX11_share_48 rfl rfl rfl ?_
          refine kx_getr 52 F fl_X11_26 hk_c0 rfl rfl (j := 5) rfl dX11_share_49 (v := (M c0 5)) rfl rfl ?_
          refine kx_iload_n 53 F 1 dX11_share_52 rfl rfl rfl ?_
          refine kx_Vr 56 (ci := 0) F (As := [vI a1]) (st := []) vd_X11_164 (c_X5_pickE G l M (M c0 5) a1 hI_M hk_5 (by omega)) hk_5 rfl rfl rfl ⟨by decide, by decide⟩ rfl rfl (Nat.le_of_ble_eq_true rfl) dX11_share_53 rfl ?_
          intro r_51 N_52 q_53
          obtain ⟨rfl, hk_54, q_53d⟩ := q_53
          rcases q_53d with ⟨q_53c, rfl⟩ | ⟨q_53c, rfl⟩
          · refine kx_astore_n 57 F 3 (lo' := [some (vR G c0), some (vI a1), some (vI a2), some (vR G (M (M c0 5) 4))]) dX11_share_56 rfl (by decide) rfl rfl rfl ?_
            refine kx_aload_n 58 F 0 dX11_share_57 rfl rfl rfl ?_
            refine kx_getr 61 F fl_X11_54 hk_c0 rfl rfl (j := 11) rfl dX11_share_58 (v := (M c0 11)) rfl rfl ?_
            have hk_55 : kd (M c0 11) = 47 := Inv.r hI_M hk_c0 rfl 11 rfl rfl
            refine kx_aload_n 62 F 0 dX11_share_61 rfl rfl rfl ?_
            refine kx_getr 65 F fl_X11_26 hk_c0 rfl rfl (j := 5) rfl dX11_share_62 (v := (M c0 5)) rfl rfl ?_
            refine kx_aload_n 66 F 3 dX11_share_65 rfl rfl rfl ?_
            refine kx_iload_n 67 F 2 dX11_share_66 rfl rfl rfl ?_
            refine kx_Vv 70 (ci := 0) F (As := [vR G (M c0 5), vR G (M (M c0 5) 4), vI a2]) (st := []) vd_X11_334 (c_X8_reckon G l M (M c0 11) (M c0 5) (M (M c0 5) 4) a2 hI_M hk_55 hk_5 hk_54 (by omega)) hk_55 rfl rfl rfl ⟨by decide, by decide⟩ rfl rfl (Nat.le_of_ble_eq_true rfl) dX11_share_67 rfl ?_
            intro N_56 q_57
            obtain ⟨hI_N_56, hG_N_56⟩ := q_57
            have hF_N_56 : Fr f_e_share3 M N_56 := Fr.c hF_M hG_N_56 rfl
            refine kx_aload_n 71 F 0 dX11_share_70 rfl rfl rfl ?_
            refine kx_aload_n 72 F 0 dX11_share_71 rfl rfl rfl ?_
            refine kx_getr 75 F fl_X11_54 hk_c0 rfl rfl (j := 11) rfl dX11_share_72 (v := (M c0 11)) (by rw [Fr.e hG_N_56 hk_c0 _ rfl]) rfl ?_
            refine kx_aload_n 76 F 3 dX11_share_75 rfl rfl rfl ?_
            refine kx_iload_n 77 F 2 dX11_share_76 rfl rfl rfl ?_
            refine kx_Vi 80 (ci := 0) F (As := [vR G (M (M c0 5) 4), vI a2]) (st := [vR G c0]) vd_X11_338 (c_X8_taken G l N_56 (M c0 11) (M (M c0 5) 4) a2 hI_N_56 hk_55 hk_54 (by omega)) hk_55 rfl rfl rfl ⟨by decide, by decide⟩ rfl rfl (Nat.le_of_ble_eq_true rfl) dX11_share_77 rfl ?_
            intro r_58 N_59 q_60
            obtain ⟨rfl, q_60c⟩ := q_60
            refine kx_i2l 81 F dX11_share_80 (by omega) rfl ?_
            refine kx_aload_n 82 F 0 dX11_share_81 rfl rfl rfl ?_
            refine kx_getr 85 F fl_X11_26 hk_c0 rfl rfl (j := 5) rfl dX11_share_82 (v := (M c0 5)) (by rw [Fr.e hG_N_56 hk_c0 _ rfl]) rfl ?_
            refine kx_geti 88 F fl_X11_160 hk_5 rfl rfl (j := 2) rfl dX11_share_85 (v := (M (M c0 5) 2)) (by rw [Fr.e hG_N_56 hk_5 _ rfl]) rfl ?_
            refine kx_iload_n 89 F 2 dX11_share_88 rfl rfl rfl ?_
            refine kx_Si 92 F (As := [vI (M (M c0 5) 2), vI a2]) (st := [vL r_58, vR G c0]) sd_X11_342 (c_X2_power G l N_56 (M (M c0 5) 2) a2 hI_N_56 (by omega)) ⟨by decide, by decide⟩ rfl rfl (Nat.le_of_ble_eq_true rfl) dX11_share_89 rfl ?_
            intro r_61 N_62 q_63
            obtain ⟨rfl, q_63c⟩ := q_63
            refine kx_i2l 93 F dX11_share_92 (by omega) rfl ?_
            refine kx_Vv 96 (ci := 0) F (As := [vL r_58, vL r_61]) (st := []) vd_X11_252 (c_X11_tellFraction G l N_56 c0 r_58 r_61 hI_N_56 hk_c0 (by omega)) hk_c0 rfl rfl rfl ⟨by decide, by decide⟩ rfl rfl (Nat.le_of_ble_eq_true rfl) dX11_share_93 rfl ?_
            intro N_64 q_65
            obtain ⟨hI_N_64, hG_N_64⟩ := q_65
            have hF_N_64 : Fr f_e_share3 M N_64 := Fr.c hF_N_56 hG_N_64 rfl
            refine kx_aload_n 97 F 0 dX11_share_96 rfl rfl rfl ?_
            refine kx_Vi 100 (ci := 0) F (As := []) (st := []) vd_X11_98 (c_X11_agree G l N_64 c0 hI_N_64 hk_c0) hk_c0 rfl rfl rfl ⟨by decide, by decide⟩ rfl rfl (Nat.le_of_ble_eq_true rfl) dX11_share_97 rfl ?_
            intro r_66 N_67 q_68
            obtain ⟨hI_N_67, hG_N_67, q_68c⟩ := q_68
            have hF_N_67 : Fr f_e_share3 M N_67 := Fr.c hF_N_64 hG_N_67 rfl
            subst q_68c
            exact kx_zret F hQ (by omega) ⟨hI_N_67, hF_N_67, (by omega), (Or.inl ⟨by omega, by omega, by omega, by omega, by omega, by omega⟩)⟩ dX11_share_100
          · refine kx_astore_n 57 F 3 (lo' := [some (vR G c0), some (vI a1), some (vI a2), some (vR G (M (M c0 5) 5))]) dX11_share_56 rfl (by decide) rfl rfl rfl ?_
            refine kx_aload_n 58 F 0 dX11_share_57 rfl rfl rfl ?_
            refine kx_getr 61 F fl_X11_54 hk_c0 rfl rfl (j := 11) rfl dX11_share_58 (v := (M c0 11)) rfl rfl ?_
            have hk_69 : kd (M c0 11) = 47 := Inv.r hI_M hk_c0 rfl 11 rfl rfl
            refine kx_aload_n 62 F 0 dX11_share_61 rfl rfl rfl ?_
            refine kx_getr 65 F fl_X11_26 hk_c0 rfl rfl (j := 5) rfl dX11_share_62 (v := (M c0 5)) rfl rfl ?_
            refine kx_aload_n 66 F 3 dX11_share_65 rfl rfl rfl ?_
            refine kx_iload_n 67 F 2 dX11_share_66 rfl rfl rfl ?_
            refine kx_Vv 70 (ci := 0) F (As := [vR G (M c0 5), vR G (M (M c0 5) 5), vI a2]) (st := []) vd_X11_334 (c_X8_reckon G l M (M c0 11) (M c0 5) (M (M c0 5) 5) a2 hI_M hk_69 hk_5 hk_54 (by omega)) hk_69 rfl rfl rfl ⟨by decide, by decide⟩ rfl rfl (Nat.le_of_ble_eq_true rfl) dX11_share_67 rfl ?_
            intro N_70 q_71
            obtain ⟨hI_N_70, hG_N_70⟩ := q_71
            have hF_N_70 : Fr f_e_share3 M N_70 := Fr.c hF_M hG_N_70 rfl
            refine kx_aload_n 71 F 0 dX11_share_70 rfl rfl rfl ?_
            refine kx_aload_n 72 F 0 dX11_share_71 rfl rfl rfl ?_
            refine kx_getr 75 F fl_X11_54 hk_c0 rfl rfl (j := 11) rfl dX11_share_72 (v := (M c0 11)) (by rw [Fr.e hG_N_70 hk_c0 _ rfl]) rfl ?_
            refine kx_aload_n 76 F 3 dX11_share_75 rfl rfl rfl ?_
            refine kx_iload_n 77 F 2 dX11_share_76 rfl rfl rfl ?_
            refine kx_Vi 80 (ci := 0) F (As := [vR G (M (M c0 5) 5), vI a2]) (st := [vR G c0]) vd_X11_338 (c_X8_taken G l N_70 (M c0 11) (M (M c0 5) 5) a2 hI_N_70 hk_69 hk_54 (by omega)) hk_69 rfl rfl rfl ⟨by decide, by decide⟩ rfl rfl (Nat.le_of_ble_eq_true rfl) dX11_share_77 rfl ?_
            intro r_72 N_73 q_74
            obtain ⟨rfl, q_74c⟩ := q_74
            refine kx_i2l 81 F dX11_share_80 (by omega) rfl ?_
            refine kx_aload_n 82 F 0 dX11_share_81 rfl rfl rfl ?_
            refine kx_getr 85 F fl_X11_26 hk_c0 rfl rfl (j := 5) rfl dX11_share_82 (v := (M c0 5)) (by rw [Fr.e hG_N_70 hk_c0 _ rfl]) rfl ?_
            refine kx_geti 88 F fl_X11_160 hk_5 rfl rfl (j := 2) rfl dX11_share_85 (v := (M (M c0 5) 2)) (by rw [Fr.e hG_N_70 hk_5 _ rfl]) rfl ?_
            refine kx_iload_n 89 F 2 dX11_share_88 rfl rfl rfl ?_
            refine kx_Si 92 F (As := [vI (M (M c0 5) 2), vI a2]) (st := [vL r_72, vR G c0]) sd_X11_342 (c_X2_power G l N_70 (M (M c0 5) 2) a2 hI_N_70 (by omega)) ⟨by decide, by decide⟩ rfl rfl (Nat.le_of_ble_eq_true rfl) dX11_share_89 rfl ?_
            intro r_75 N_76 q_77
            obtain ⟨rfl, q_77c⟩ := q_77
            refine kx_i2l 93 F dX11_share_92 (by omega) rfl ?_
            refine kx_Vv 96 (ci := 0) F (As := [vL r_72, vL r_75]) (st := []) vd_X11_252 (c_X11_tellFraction G l N_70 c0 r_72 r_75 hI_N_70 hk_c0 (by omega)) hk_c0 rfl rfl rfl ⟨by decide, by decide⟩ rfl rfl (Nat.le_of_ble_eq_true rfl) dX11_share_93 rfl ?_
            intro N_78 q_79
            obtain ⟨hI_N_78, hG_N_78⟩ := q_79
            have hF_N_78 : Fr f_e_share3 M N_78 := Fr.c hF_N_70 hG_N_78 rfl
            refine kx_aload_n 97 F 0 dX11_share_96 rfl rfl rfl ?_
            refine kx_Vi 100 (ci := 0) F (As := []) (st := []) vd_X11_98 (c_X11_agree G l N_78 c0 hI_N_78 hk_c0) hk_c0 rfl rfl rfl ⟨by decide, by decide⟩ rfl rfl (Nat.le_of_ble_eq_true rfl) dX11_share_97 rfl ?_
            intro r_80 N_81 q_82
            obtain ⟨hI_N_81, hG_N_81, q_82c⟩ := q_82
            have hF_N_81 : Fr f_e_share3 M N_81 := Fr.c hF_N_78 hG_N_81 rfl
            subst q_82c
            exact kx_zret F hQ (by omega) ⟨hI_N_81, hF_N_81, (by omega), (Or.inl ⟨by omega, by omega, by omega, by omega, by omega, by omega⟩)⟩ dX11_share_100
        · refine kx_aload_n 42 F 0 dX11_share_41 rfl rfl rfl ?_
          refine kx_bipush 44 F dX11_share_42 (by decide) rfl ?_
          refine kx_Vi 47 (ci := 0) F (As := [vI 6]) (st := []) vd_X11_91 (c_X11_deny G l M c0 6 hI_M hk_c0 (by omega)) hk_c0 rfl rfl rfl ⟨by decide, by decide⟩ rfl rfl (Nat.le_of_ble_eq_true rfl) dX11_share_44 rfl ?_
          intro r_83 N_84 q_85
          obtain ⟨hI_N_84, hG_N_84, q_85c⟩ := q_85
          have hF_N_84 : Fr f_e_share3 M N_84 := Fr.c hF_M hG_N_84 rfl
          subst q_85c
          exact kx_zret F hQ (by omega) ⟨hI_N_84, hF_N_84, (by omega), (Or.inr ⟨by omega, by omega⟩)⟩ dX11_share_47
    · refine kx_if_ne 21 F 27 dX11_share_18 (by decide) rfl (by omega) (fun h_86 => (by exfalso; omega)) (fun h_86 => ?_)
      refine kx_aload_n 22 F 0 dX11_share_21 rfl rfl rfl ?_
      refine kx_iconst 23 F dX11_share_22 rfl ?_
      refine kx_Vi 26 (ci := 0) F (As := [vI 1]) (st := []) vd_X11_91 (c_X11_deny G l M c0 1 hI_M hk_c0 (by omega)) hk_c0 rfl rfl rfl ⟨by decide, by decide⟩ rfl rfl (Nat.le_of_ble_eq_true rfl) dX11_share_23 rfl ?_
      intro r_87 N_88 q_89
      obtain ⟨hI_N_88, hG_N_88, q_89c⟩ := q_89
      have hF_N_88 : Fr f_e_share3 M N_88 := Fr.c hF_M hG_N_88 rfl
      subst q_89c
      exact kx_zret F hQ (by omega) ⟨hI_N_88, hF_N_88, (by omega), (Or.inr ⟨by omega, by omega⟩)⟩ dX11_share_26
    · refine kx_if_ne 21 F 27 dX11_share_18 (by decide) rfl (by omega) (fun h_90 => (by exfalso; omega)) (fun h_90 => ?_)
      refine kx_aload_n 22 F 0 dX11_share_21 rfl rfl rfl ?_
      refine kx_iconst 23 F dX11_share_22 rfl ?_
      refine kx_Vi 26 (ci := 0) F (As := [vI 1]) (st := []) vd_X11_91 (c_X11_deny G l M c0 1 hI_M hk_c0 (by omega)) hk_c0 rfl rfl rfl ⟨by decide, by decide⟩ rfl rfl (Nat.le_of_ble_eq_true rfl) dX11_share_23 rfl ?_
      intro r_91 N_92 q_93
      obtain ⟨hI_N_92, hG_N_92, q_93c⟩ := q_93
      have hF_N_92 : Fr f_e_share3 M N_92 := Fr.c hF_M hG_N_92 rfl
      subst q_93c
      exact kx_zret F hQ (by omega) ⟨hI_N_92, hF_N_92, (by omega), (Or.inr ⟨by omega, by omega⟩)⟩ dX11_share_26
  · refine kx_if_eq 11 F 21 dX11_share_8 (by decide) rfl (by omega) (fun h_94 => ?_) (fun h_94 => (by exfalso; omega))
    refine kx_aload_n 22 F 0 dX11_share_21 rfl rfl rfl ?_
    refine kx_iconst 23 F dX11_share_22 rfl ?_
    refine kx_Vi 26 (ci := 0) F (As := [vI 1]) (st := []) vd_X11_91 (c_X11_deny G l M c0 1 hI_M hk_c0 (by omega)) hk_c0 rfl rfl rfl ⟨by decide, by decide⟩ rfl rfl (Nat.le_of_ble_eq_true rfl) dX11_share_23 rfl ?_
    intro r_95 N_96 q_97
    obtain ⟨hI_N_96, hG_N_96, q_97c⟩ := q_97
    have hF_N_96 : Fr f_e_share3 M N_96 := Fr.c hF_M hG_N_96 rfl
    subst q_97c
    exact kx_zret F hQ (by omega) ⟨hI_N_96, hF_N_96, (by omega), (Or.inr ⟨by omega, by omega⟩)⟩ dX11_share_26
  · refine kx_if_eq 11 F 21 dX11_share_8 (by decide) rfl (by omega) (fun h_98 => ?_) (fun h_98 => (by exfalso; omega))
    refine kx_aload_n 22 F 0 dX11_share_21 rfl rfl rfl ?_
    refine kx_iconst 23 F dX11_share_22 rfl ?_
    refine kx_Vi 26 (ci := 0) F (As := [vI 1]) (st := []) vd_X11_91 (c_X11_deny G l M c0 1 hI_M hk_c0 (by omega)) hk_c0 rfl rfl rfl ⟨by decide, by decide⟩ rfl rfl (Nat.le_of_ble_eq_true rfl) dX11_share_23 rfl ?_
    intro r_99 N_100 q_101
    obtain ⟨hI_N_100, hG_N_100, q_101c⟩ := q_101
    have hF_N_100 : Fr f_e_share3 M N_100 := Fr.c hF_M hG_N_100 rfl
    subst q_101c
    exact kx_zret F hQ (by omega) ⟨hI_N_100, hF_N_100, (by omega), (Or.inr ⟨by omega, by omega⟩)⟩ dX11_share_26
